/-! RuleGraph's check is the function -/
def mC (b : Nat) : Bool := decide (b = 277 ∨ b = 79 ∨ b = 105 ∨ b = 304 ∨ b = 153 ∨ b = 352 ∨ b = 156 ∨ b = 157 ∨ b = 355 ∨ b = 356)
def fC (g g' : Gs) : Prop := ∀ b, mC b = false → g' b = g b
theorem fC_rf {g : Gs} : fC g g := fun _ _ => rfl
theorem fC_tr {g g' g'' : Gs} (h : fC g g') (h' : fC g' g'') : fC g g'' := fun b hb => (h' b hb).trans (h b hb)
theorem fA_fC {g g' : Gs} (h : fA g g') : fC g g' := fun b hb => h b (by
  simp only [mC, mA, decide_eq_false_iff_not] at hb ⊢
  omega)
theorem fC_wd {g g' : Gs} (h : fC g g') : wd g g' := fun b hb => h b (by
  simp only [mv, mC, decide_eq_false_iff_not] at hb ⊢
  omega)
theorem fC_gu {g g' : Gs} {b r j : Nat} {v : Int32} (h : fC g g') (hb : mC b = true) : fC g (gu g' b r j v) := fun b' hb' => by
  rw [gu_ne (fun e => by rw [e, hb] at hb'; cases hb')]
  exact h b' hb'
def SA (g : Gs) (tr os : List (Nat × Nat)) (s : Sp) : Prop := rA g s.2 ∧ trA g tr ∧ oA g os ∧ g 356 0 0 = nI s.1
theorem oA_fr {g g' : Gs} {os : List (Nat × Nat)} (h : oA g os) (e355 : g' 355 = g 355) (e156 : g' 156 = g 156) (e157 : g' 157 = g 157) : oA g' os := by
  unfold oA at h ⊢
  rw [e355, e156, e157]
  exact h
def RA (g0 : Gs) (dyn : Nat → Option iv_C) (z : Nat × Nat) (D p : Nat) (os : List (Nat × Nat)) (rec : Rc) : Prop := ∀ (g : Gs) (tr : List (Nat × Nat)) (ob gr : Nat) (s : Sp), wd g0 g → tr.length = os.length → gdP tr → ob < p → gr < 6 → vS s → SA g tr os s → vS (rec tr ob gr s).2 ∧ ∃ g', iv_X D 65 [.ref 155, .int (nI ob), .int (nI gr)] (gh g dyn, z) = some (some (.int (rec tr ob gr s).1), (gh g' dyn, z)) ∧ SA g' tr os (rec tr ob gr s).2 ∧ fC g g'
theorem c71 {g0 g : Gs} {dyn : Nat → Option iv_C} {z : Nat × Nat} {D p j tp ob gr : Nat} {pl : Int32} {os tr : List (Nat × Nat)} {rec : Rc} {s : Sp} (hr : RA g0 dyn z D p os rec) (hw : wd g0 g) (hD : 1 ≤ D) (hl : tr.length + 1 = os.length) (hl' : os.length ≤ 16) (hg : gdP tr) (hj : j < 14) (htp : tp < 4) (ho : ob < p) (hgr : gr < 6) (hs : vS s) (hpl : nI (j * 4) + pl + nI 1 = nI (4 * j + tp)) (hS : SA g tr os s) : ∃ g', iv_X (D + 1) 71 [.ref 155, .int (nI j), .int pl, .int (nI ob), .int (nI gr)] (gh g dyn, z) = some (some (.int (rec (tr ++ [(j, tp)]) ob gr s).1), (gh g' dyn, z)) ∧ SA g' tr os (rec (tr ++ [(j, tp)]) ob gr s).2 ∧ fC g g' := by
  obtain ⟨h1, h2, h3, h4⟩ := hS
  obtain ⟨m, hm⟩ : ∃ m, m = tr.length := ⟨_, rfl⟩
  have h352 : g 352 0 0 = nI m := hm ▸ h2.1
  have hS1 : SA (gu (gu g 153 0 m (nI (4 * j + tp))) 352 0 0 (nI (m + 1))) (tr ++ [(j, tp)]) os s := by
    refine ⟨rA_fr h1 (by rw [gu_ne (by decide), gu_ne (by decide)]) (by rw [gu_ne (by decide), gu_ne (by decide)]) (by rw [gu_ne (by decide), gu_ne (by decide)]) (by rw [gu_ne (by decide), gu_ne (by decide)]), ⟨by rw [gu_eq, List.length_append, hm]; rfl, fun i q hq => ?_⟩, oA_fr h3 (by rw [gu_ne (by decide), gu_ne (by decide)]) (by rw [gu_ne (by decide), gu_ne (by decide)]) (by rw [gu_ne (by decide), gu_ne (by decide)]), by rw [gu_ne (by decide), gu_ne (by decide)]; exact h4⟩
    rw [gu_ne (by decide)]
    rcases ap_cs hq with ⟨rfl, rfl⟩ | ⟨h5, h6⟩
    · rw [← hm, gu_eq]
    · rw [gu_nj (by omega)]
      exact h2.2 i q h6
  obtain ⟨hv, g2, i1, ⟨k1, k2, k3, k4⟩, i3⟩ := hr (gu (gu g 153 0 m (nI (4 * j + tp))) 352 0 0 (nI (m + 1))) (tr ++ [(j, tp)]) ob gr s (wd_gu (wd_gu hw rfl) rfl) (by rw [List.length_append]; exact hl) (gdP_ap hg hj htp) ho hgr hs hS1
  have hk2 : g2 352 0 0 = nI (m + 1) := by
    rw [k2.1, List.length_append, ← hm]
    rfl
  refine ⟨gu g2 352 0 0 (nI m), ?_, ⟨rA_fr k1 (gu_ne (by decide)) (gu_ne (by decide)) (gu_ne (by decide)) (gu_ne (by decide)), ⟨by rw [gu_eq, hm], fun i q hq => ?_⟩, oA_fr k3 (gu_ne (by decide)) (gu_ne (by decide)) (gu_ne (by decide)), by rw [gu_ne (by decide)]; exact k4⟩, fC_gu (fC_tr (fC_gu (fC_gu fC_rf rfl) rfl) i3) rfl⟩
  · have e1 := c95t_y (g := g) (dyn := dyn) (s := z) (D := D) (x := nI (4 * j + tp)) (by omega) h352 (by omega)
    rw [en_71]
    simp (disch := omega) only [f71_0, f71_1, f71_2, f71_3, f71_4, f71_5, f71_6, f71_7, f71_8, f71_9, f71_10, f71_11, f71_12, f71_13, f71_14, f71_15, f71_16, f71_17, f71_18, f71_19, f71_20, f71_21, f71_22, f71_23, f71_24, f71_25, f71_26, f71_27, f71_28, gf_155_4', gf_77_3', gf_5_1', gf_47_1', gf_51_1', gf_104_1', gf_152_1', pf_5_1', pf_47_1', pf_51_1', pf_104_1', pf_152_1', rc_1, rc_2, rc_35, rc_44, rc_51, rc_53, rc_77, rc_152, rc_155, rc_5, rc_47, rc_104, ni_pred, kv_e, kx_e, kw_e, kn_e, ct_s, ct_v, cr_t, q_ri, q_rz0', q_rz1', q_rb, q_rv, Nat.add_sub_cancel_left, ni_m1lt, ni_m1le, ni_ltm1, ni_lem1, Nat.add_sub_cancel, nI_add, pk_mul, ni_sub, ni_lt, ni_le, ni_eq, ni_m1, ni_m1', nd_lt_t, nd_lt_f, nd_le_t, nd_le_f, nd_eq_t, nd_eq_f, bI_t', bI_f', bI_0', ↓reduceIte, not_true_eq_false, not_false_eq_true, reduceCtorEq, Bool.true_and, Bool.and_true, Bool.false_and, Bool.and_false, Bool.true_or, Bool.or_true, Bool.false_or, Bool.or_false, decide_true, decide_false, gu_ne, gu_eq, hpl, e1, i1, hk2]
  · rw [gu_ne (by decide)]
    exact k2.2 i q (by rw [List.getElem?_append_left (gi_lt hq)]; exact hq)
theorem go_v {t f R p n : Nat} {g0 : Gs} {dyn : Nat → Option iv_C} {z : Nat × Nat} {D ob h : Nat} {os tr : List (Nat × Nat)} {rec : Rc} {j q : Nat} {g : Gs} {s : Sp} (hW : Wd t f R p n g0 dyn) (hr : RA g0 dyn z D p os rec) (hD : 2 ≤ D) (hl : tr.length + 1 = os.length) (hl' : os.length ≤ 16) (hg : gdP tr) (ho : ob < p) (hh : h < 6) (hj : j < f) (hc : caS g0 j = true) (hq : q < tnS g0 ob j) (hw : wd g0 g) (hs : vS s) (hS : SA g tr os s) {pl : Int32} (hpl : nI (j * 4) + pl + nI 1 = nI (4 * j + tpS g0 j q)) : vS (goS rec g0 tr ob h j q s).2 ∧ ∃ g', iv_X (D + 1) 71 [.ref 155, .int (nI j), .int pl, .int (nI (ttS g0 ob j q)), .int (nI (tuS g0 j h))] (gh g dyn, z) = some (some (.int (goS rec g0 tr ob h j q s).1), (gh g' dyn, z)) ∧ SA g' tr os (goS rec g0 tr ob h j q s).2 ∧ fC g g' := by
  obtain ⟨t1, t2, _⟩ := w_tg hW ho hj hc
  obtain ⟨f1, _, _, _, _, _, _, _, _, f2⟩ := w_fd hW hj
  refine ⟨?_, c71 hr hw (by omega) hl hl' hg f1 (t2 q hq).2 (t2 q hq).1 (f2 h hh).1 hs hpl hS⟩
  -- the values stay within their bounds whatever the state: taken from the contract at this very state
  have hS1 : SA (gu (gu g 153 0 tr.length (nI (4 * j + tpS g0 j q))) 352 0 0 (nI (tr.length + 1))) (tr ++ [(j, tpS g0 j q)]) os s := by
    obtain ⟨h1, h2, h3, h4⟩ := hS
    refine ⟨rA_fr h1 (by rw [gu_ne (by decide), gu_ne (by decide)]) (by rw [gu_ne (by decide), gu_ne (by decide)]) (by rw [gu_ne (by decide), gu_ne (by decide)]) (by rw [gu_ne (by decide), gu_ne (by decide)]), ⟨by rw [gu_eq, List.length_append]; rfl, fun i q hq => ?_⟩, oA_fr h3 (by rw [gu_ne (by decide), gu_ne (by decide)]) (by rw [gu_ne (by decide), gu_ne (by decide)]) (by rw [gu_ne (by decide), gu_ne (by decide)]), by rw [gu_ne (by decide), gu_ne (by decide)]; exact h4⟩
    rw [gu_ne (by decide)]
    rcases ap_cs hq with ⟨rfl, rfl⟩ | ⟨h5, h6⟩
    · rw [gu_eq]
    · rw [gu_nj (by omega)]
      exact h2.2 i q h6
  exact (hr _ _ _ _ s (wd_gu (wd_gu hw rfl) rfl) (by rw [List.length_append]; exact hl) (gdP_ap hg f1 (t2 q hq).2) (t2 q hq).1 (f2 h hh).1 hs hS1).1
theorem lp70 {t f R p n : Nat} {g0 : Gs} {dyn : Nat → Option iv_C} {z : Nat × Nat} {D ob h : Nat} {os tr : List (Nat × Nat)} {rec : Rc} {j : Nat} {v4 : Int32} (hW : Wd t f R p n g0 dyn) (hr : RA g0 dyn z D p os rec) (hD : 2 ≤ D) (hl : tr.length + 1 = os.length) (hl' : os.length ≤ 16) (hg : gdP tr) (ho : ob < p) (hh : h < 6) (hj : j < f) (hc : caS g0 j = true) (hk : kdS g0 j = 3) (hv4 : v4 = nI (tnS g0 ob j)) : ∀ (k q : Nat) (g : Gs) (s : Sp), q + k = tnS g0 ob j → wd g0 g → vS s → SA g tr os s → vS (itS (goS rec g0 tr ob h j) k q s).2 ∧ ∃ g', iv_V (iv_X (D + 1)) mc_70 (some .int) 29 [.ref 155, .int (nI ob), .int (nI j), .int (nI (tuS g0 j h)), .int v4, .int (nI 0), .int (nI q)] [] (gh g dyn, z) = some (some (.int (itS (goS rec g0 tr ob h j) k q s).1), (gh g' dyn, z)) ∧ SA g' tr os (itS (goS rec g0 tr ob h j) k q s).2 ∧ fC g g' := by
  obtain ⟨t1, t2, t3⟩ := w_tg hW ho hj hc
  obtain ⟨_, _, ho10, _⟩ := w_cl hW ho
  have hj14 := (w_fd hW hj).1
  have t4 : ∀ q, q < tnS g0 ob j → g0 67 ob (j * 3 + q) = nI (ttS g0 ob j q) := by
    intro q hq
    rcases t3 with ⟨h1, _⟩ | ⟨_, ⟨h2, _⟩ | ⟨_, _, h3⟩⟩
    · omega
    · omega
    · exact (h3 q hq).1
  subst hv4
  intro k
  induction k with
  | zero =>
    intro q g s hq hw hs hS
    refine ⟨hs, g, ?_, hS, fC_rf⟩
    simp (disch := omega) only [f70_0, f70_1, f70_2, f70_3, f70_4, f70_5, f70_6, f70_7, f70_8, f70_9, f70_10, f70_11, f70_12, f70_13, f70_14, f70_15, f70_16, f70_17, f70_18, f70_19, f70_20, f70_21, f70_22, f70_23, f70_24, f70_25, f70_26, f70_27, f70_28, f70_29, f70_30, f70_31, f70_32, f70_33, f70_34, f70_35, f70_36, f70_37, f70_38, f70_39, f70_40, f70_41, f70_42, f70_43, f70_44, f70_45, f70_46, f70_47, f70_48, f70_49, gf_155_3', gf_53_2', gf_155_0', la_3, la_17, la_18, la_19, la_45, la_52, la_54, la_153, la_154, la_156, la_157, la_6, la_21, la_48, la_56, la_67, la_79, la_105, al_4', al_20', al_37', al_46', al_55', al_66', al_78', al_103', rc_1, rc_2, rc_35, rc_44, rc_51, rc_53, rc_77, rc_152, rc_155, rc_5, rc_47, rc_104, ni_pred, kv_e, kx_e, kw_e, kn_e, ct_s, ct_v, cr_t, q_ri, q_rz0', q_rz1', q_rb, q_rv, Nat.add_sub_cancel_left, ni_m1lt, ni_m1le, ni_ltm1, ni_lem1, Nat.add_sub_cancel, nI_add, pk_mul, ni_sub, ni_lt, ni_le, ni_eq, ni_m1, ni_m1', nd_lt_t, nd_lt_f, nd_le_t, nd_le_f, nd_eq_t, nd_eq_f, bI_t', bI_f', bI_0', ↓reduceIte, not_true_eq_false, not_false_eq_true, reduceCtorEq, Bool.true_and, Bool.and_true, Bool.false_and, Bool.and_false, Bool.true_or, Bool.or_true, Bool.false_or, Bool.or_false, decide_true, decide_false, gu_ne, gu_eq, itS]
  | succ k ih =>
    intro q g s hq hw hs hS
    have etp : tpS g0 j q = q + 1 := by simp [tpS, hk]
    obtain ⟨hv, g1, i1, i2, i3⟩ := go_v (h := h) (q := q) hW hr hD hl hl' hg ho hh hj hc (by omega) hw hs hS (pl := nI q) (by rw [nI_add, nI_add, etp]; congr 1; omega)
    have e1 := c115 (g := g) (dyn := dyn) (s := z) (D := D + 1) (by omega) ho10 hj14 (show q < 3 by omega)
    rw [hw 67 rfl, t4 q (by omega)] at e1
    by_cases hc0 : (goS rec g0 tr ob h j q s).1 = nI 0
    · obtain ⟨hv', g', j1, j2, j3⟩ := ih (q + 1) g1 _ (by omega) (wd_tr hw (fC_wd i3)) hv i2
      simp only [itS, hc0, if_true]
      refine ⟨hv', g', ?_, j2, fC_tr i3 j3⟩
      rw [hc0] at i1
      refine Eq.trans ?_ j1
      rw [f70_29]
      simp (disch := omega) only [f70_0, f70_1, f70_2, f70_3, f70_4, f70_5, f70_6, f70_7, f70_8, f70_9, f70_10, f70_11, f70_12, f70_13, f70_14, f70_15, f70_16, f70_17, f70_18, f70_19, f70_20, f70_21, f70_22, f70_23, f70_24, f70_25, f70_26, f70_27, f70_28, f70_30, f70_31, f70_32, f70_33, f70_34, f70_35, f70_36, f70_37, f70_38, f70_39, f70_40, f70_41, f70_42, f70_43, f70_44, f70_45, f70_46, f70_47, f70_48, f70_49, gf_155_3', gf_53_2', gf_155_0', la_3, la_17, la_18, la_19, la_45, la_52, la_54, la_153, la_154, la_156, la_157, la_6, la_21, la_48, la_56, la_67, la_79, la_105, al_4', al_20', al_37', al_46', al_55', al_66', al_78', al_103', rc_1, rc_2, rc_35, rc_44, rc_51, rc_53, rc_77, rc_152, rc_155, rc_5, rc_47, rc_104, ni_pred, kv_e, kx_e, kw_e, kn_e, ct_s, ct_v, cr_t, q_ri, q_rz0', q_rz1', q_rb, q_rv, Nat.add_sub_cancel_left, ni_m1lt, ni_m1le, ni_ltm1, ni_lem1, Nat.add_sub_cancel, nI_add, pk_mul, ni_sub, ni_lt, ni_le, ni_eq, ni_m1, ni_m1', nd_lt_t, nd_lt_f, nd_le_t, nd_le_f, nd_eq_t, nd_eq_f, bI_t', bI_f', bI_0', ↓reduceIte, not_true_eq_false, not_false_eq_true, reduceCtorEq, Bool.true_and, Bool.and_true, Bool.false_and, Bool.and_false, Bool.true_or, Bool.or_true, Bool.false_or, Bool.or_false, decide_true, decide_false, gu_ne, gu_eq, e1, i1]
    · simp only [itS, hc0, if_false]
      refine ⟨hv, g1, ?_, i2, i3⟩
      rw [f70_29]
      by_cases hlast : tnS g0 ob j ≤ q + 1
      · simp (disch := omega) only [f70_0, f70_1, f70_2, f70_3, f70_4, f70_5, f70_6, f70_7, f70_8, f70_9, f70_10, f70_11, f70_12, f70_13, f70_14, f70_15, f70_16, f70_17, f70_18, f70_19, f70_20, f70_21, f70_22, f70_23, f70_24, f70_25, f70_26, f70_27, f70_28, f70_30, f70_31, f70_32, f70_33, f70_34, f70_35, f70_36, f70_37, f70_38, f70_39, f70_40, f70_41, f70_42, f70_43, f70_44, f70_45, f70_46, f70_47, f70_48, f70_49, gf_155_3', gf_53_2', gf_155_0', la_3, la_17, la_18, la_19, la_45, la_52, la_54, la_153, la_154, la_156, la_157, la_6, la_21, la_48, la_56, la_67, la_79, la_105, al_4', al_20', al_37', al_46', al_55', al_66', al_78', al_103', rc_1, rc_2, rc_35, rc_44, rc_51, rc_53, rc_77, rc_152, rc_155, rc_5, rc_47, rc_104, ni_pred, kv_e, kx_e, kw_e, kn_e, ct_s, ct_v, cr_t, q_ri, q_rz0', q_rz1', q_rb, q_rv, Nat.add_sub_cancel_left, ni_m1lt, ni_m1le, ni_ltm1, ni_lem1, Nat.add_sub_cancel, nI_add, pk_mul, ni_sub, ni_lt, ni_le, ni_eq, ni_m1, ni_m1', nd_lt_t, nd_lt_f, nd_le_t, nd_le_f, nd_eq_t, nd_eq_f, bI_t', bI_f', bI_0', ↓reduceIte, not_true_eq_false, not_false_eq_true, reduceCtorEq, Bool.true_and, Bool.and_true, Bool.false_and, Bool.and_false, Bool.true_or, Bool.or_true, Bool.false_or, Bool.or_false, decide_true, decide_false, gu_ne, gu_eq, e1, i1]
        simp (disch := omega) only [f70_0, f70_1, f70_2, f70_3, f70_4, f70_5, f70_6, f70_7, f70_8, f70_9, f70_10, f70_11, f70_12, f70_13, f70_14, f70_15, f70_16, f70_17, f70_18, f70_19, f70_20, f70_21, f70_22, f70_23, f70_24, f70_25, f70_26, f70_27, f70_28, f70_29, f70_30, f70_31, f70_32, f70_33, f70_34, f70_35, f70_36, f70_37, f70_38, f70_39, f70_40, f70_41, f70_42, f70_43, f70_44, f70_45, f70_46, f70_47, f70_48, f70_49, gf_155_3', gf_53_2', gf_155_0', la_3, la_17, la_18, la_19, la_45, la_52, la_54, la_153, la_154, la_156, la_157, la_6, la_21, la_48, la_56, la_67, la_79, la_105, al_4', al_20', al_37', al_46', al_55', al_66', al_78', al_103', rc_1, rc_2, rc_35, rc_44, rc_51, rc_53, rc_77, rc_152, rc_155, rc_5, rc_47, rc_104, ni_pred, kv_e, kx_e, kw_e, kn_e, ct_s, ct_v, cr_t, q_ri, q_rz0', q_rz1', q_rb, q_rv, Nat.add_sub_cancel_left, ni_m1lt, ni_m1le, ni_ltm1, ni_lem1, Nat.add_sub_cancel, nI_add, pk_mul, ni_sub, ni_lt, ni_le, ni_eq, ni_m1, ni_m1', nd_lt_t, nd_lt_f, nd_le_t, nd_le_f, nd_eq_t, nd_eq_f, bI_t', bI_f', bI_0', ↓reduceIte, not_true_eq_false, not_false_eq_true, reduceCtorEq, Bool.true_and, Bool.and_true, Bool.false_and, Bool.and_false, Bool.true_or, Bool.or_true, Bool.false_or, Bool.or_false, decide_true, decide_false, gu_ne, gu_eq, hc0]
      · simp (disch := omega) only [f70_0, f70_1, f70_2, f70_3, f70_4, f70_5, f70_6, f70_7, f70_8, f70_9, f70_10, f70_11, f70_12, f70_13, f70_14, f70_15, f70_16, f70_17, f70_18, f70_19, f70_20, f70_21, f70_22, f70_23, f70_24, f70_25, f70_26, f70_27, f70_28, f70_30, f70_31, f70_32, f70_33, f70_34, f70_35, f70_36, f70_37, f70_38, f70_39, f70_40, f70_41, f70_42, f70_43, f70_44, f70_45, f70_46, f70_47, f70_48, f70_49, gf_155_3', gf_53_2', gf_155_0', la_3, la_17, la_18, la_19, la_45, la_52, la_54, la_153, la_154, la_156, la_157, la_6, la_21, la_48, la_56, la_67, la_79, la_105, al_4', al_20', al_37', al_46', al_55', al_66', al_78', al_103', rc_1, rc_2, rc_35, rc_44, rc_51, rc_53, rc_77, rc_152, rc_155, rc_5, rc_47, rc_104, ni_pred, kv_e, kx_e, kw_e, kn_e, ct_s, ct_v, cr_t, q_ri, q_rz0', q_rz1', q_rb, q_rv, Nat.add_sub_cancel_left, ni_m1lt, ni_m1le, ni_ltm1, ni_lem1, Nat.add_sub_cancel, nI_add, pk_mul, ni_sub, ni_lt, ni_le, ni_eq, ni_m1, ni_m1', nd_lt_t, nd_lt_f, nd_le_t, nd_le_f, nd_eq_t, nd_eq_f, bI_t', bI_f', bI_0', ↓reduceIte, not_true_eq_false, not_false_eq_true, reduceCtorEq, Bool.true_and, Bool.and_true, Bool.false_and, Bool.and_false, Bool.true_or, Bool.or_true, Bool.false_or, Bool.or_false, decide_true, decide_false, gu_ne, gu_eq, e1, i1]
        simp (disch := omega) only [f70_0, f70_1, f70_2, f70_3, f70_4, f70_5, f70_6, f70_7, f70_8, f70_9, f70_10, f70_11, f70_12, f70_13, f70_14, f70_15, f70_16, f70_17, f70_18, f70_19, f70_20, f70_21, f70_22, f70_23, f70_24, f70_25, f70_26, f70_27, f70_28, f70_29, f70_30, f70_31, f70_32, f70_33, f70_34, f70_35, f70_36, f70_37, f70_38, f70_39, f70_40, f70_41, f70_42, f70_43, f70_44, f70_45, f70_46, f70_47, f70_48, f70_49, gf_155_3', gf_53_2', gf_155_0', la_3, la_17, la_18, la_19, la_45, la_52, la_54, la_153, la_154, la_156, la_157, la_6, la_21, la_48, la_56, la_67, la_79, la_105, al_4', al_20', al_37', al_46', al_55', al_66', al_78', al_103', rc_1, rc_2, rc_35, rc_44, rc_51, rc_53, rc_77, rc_152, rc_155, rc_5, rc_47, rc_104, ni_pred, kv_e, kx_e, kw_e, kn_e, ct_s, ct_v, cr_t, q_ri, q_rz0', q_rz1', q_rb, q_rv, Nat.add_sub_cancel_left, ni_m1lt, ni_m1le, ni_ltm1, ni_lem1, Nat.add_sub_cancel, nI_add, pk_mul, ni_sub, ni_lt, ni_le, ni_eq, ni_m1, ni_m1', nd_lt_t, nd_lt_f, nd_le_t, nd_le_f, nd_eq_t, nd_eq_f, bI_t', bI_f', bI_0', ↓reduceIte, not_true_eq_false, not_false_eq_true, reduceCtorEq, Bool.true_and, Bool.and_true, Bool.false_and, Bool.and_false, Bool.true_or, Bool.or_true, Bool.false_or, Bool.or_false, decide_true, decide_false, gu_ne, gu_eq, hc0]
theorem it_1 {rec : Nat → Sp → Int32 × Sp} {s : Sp} : itS rec 1 0 s = rec 0 s := by
  simp only [itS]
  split
  · rename_i h
    rw [← h]
  · rfl
theorem c70 {t f R p n : Nat} {g0 : Gs} {dyn : Nat → Option iv_C} {z : Nat × Nat} {D ob h : Nat} {os tr : List (Nat × Nat)} {rec : Rc} {j : Nat} {g : Gs} {s : Sp} (hW : Wd t f R p n g0 dyn) (hr : RA g0 dyn z D p os rec) (hD : 2 ≤ D) (hl : tr.length + 1 = os.length) (hl' : os.length ≤ 16) (hg : gdP tr) (ho : ob < p) (hh : h < 6) (hj : j < f) (hc : caS g0 j = true) (hw : wd g0 g) (hs : vS s) (hS : SA g tr os s) : vS (itS (goS rec g0 tr ob h j) (tnS g0 ob j) 0 s).2 ∧ ∃ g', iv_X (D + 2) 70 [.ref 155, .int (nI ob), .int (nI j), .int (nI (tuS g0 j h))] (gh g dyn, z) = some (some (.int (itS (goS rec g0 tr ob h j) (tnS g0 ob j) 0 s).1), (gh g' dyn, z)) ∧ SA g' tr os (itS (goS rec g0 tr ob h j) (tnS g0 ob j) 0 s).2 ∧ fC g g' := by
  obtain ⟨t1, t2, t3⟩ := w_tg hW ho hj hc
  obtain ⟨_, _, ho10, _⟩ := w_cl hW ho
  obtain ⟨hj14, _, _, hk4, h18, _⟩ := w_fd hW hj
  have e4 := c104 (g := g) (dyn := dyn) (s := z) (D := D + 1) (by omega) hj14 hk4 (by rw [hw 18 rfl]; exact h18)
  have q56 := hw 56 rfl
  rcases t3 with ⟨hk, ⟨h1, h2, _⟩ | ⟨h1, h2, _⟩⟩ | ⟨hk, ⟨h1, h2, _⟩ | ⟨h1, _, h3⟩⟩
  · rw [h1]
    refine ⟨hs, g, ?_, hS, fC_rf⟩
    rw [hk] at e4
    simp only [show decide (2 ≤ 1) = false from rfl] at e4
    rw [en_70]
    simp (disch := omega) only [f70_0, f70_1, f70_2, f70_3, f70_4, f70_5, f70_6, f70_7, f70_8, f70_9, f70_10, f70_11, f70_12, f70_13, f70_14, f70_15, f70_16, f70_17, f70_18, f70_19, f70_20, f70_21, f70_22, f70_23, f70_24, f70_25, f70_26, f70_27, f70_28, f70_30, f70_31, f70_32, f70_33, f70_34, f70_35, f70_36, f70_37, f70_38, f70_39, f70_40, f70_41, f70_42, f70_43, f70_44, f70_45, f70_46, f70_47, f70_48, f70_49, gf_155_3', gf_53_2', gf_155_0', la_3, la_17, la_18, la_19, la_45, la_52, la_54, la_153, la_154, la_156, la_157, la_6, la_21, la_48, la_56, la_67, la_79, la_105, al_4', al_20', al_37', al_46', al_55', al_66', al_78', al_103', rc_1, rc_2, rc_35, rc_44, rc_51, rc_53, rc_77, rc_152, rc_155, rc_5, rc_47, rc_104, ni_pred, kv_e, kx_e, kw_e, kn_e, ct_s, ct_v, cr_t, q_ri, q_rz0', q_rz1', q_rb, q_rv, Nat.add_sub_cancel_left, ni_m1lt, ni_m1le, ni_ltm1, ni_lem1, Nat.add_sub_cancel, nI_add, pk_mul, ni_sub, ni_lt, ni_le, ni_eq, ni_m1, ni_m1', nd_lt_t, nd_lt_f, nd_le_t, nd_le_f, nd_eq_t, nd_eq_f, bI_t', bI_f', bI_0', ↓reduceIte, not_true_eq_false, not_false_eq_true, reduceCtorEq, Bool.true_and, Bool.and_true, Bool.false_and, Bool.and_false, Bool.true_or, Bool.or_true, Bool.false_or, Bool.or_false, decide_true, decide_false, gu_ne, gu_eq, q56, h2, e4, itS]
  · obtain ⟨hv, g1, i1, i2, i3⟩ := go_v (h := h) (q := 0) hW hr hD hl hl' hg ho hh hj hc (by omega) hw hs hS (pl := -1) (by
      rw [show tpS g0 j 0 = 0 by simp [tpS, hk]]
      have : nI (j * 4) + -1 + nI 1 = nI (j * 4) := by
        rw [Int32.add_assoc]
        rw [show (-1 : Int32) + nI 1 = 0 by decide, Int32.add_zero]
      rw [this]
      congr 1
      omega)
    rw [h1, it_1]
    refine ⟨hv, g1, ?_, i2, i3⟩
    rw [hk] at e4
    simp only [show decide (2 ≤ 1) = false from rfl] at e4
    have ht10 : ttS g0 ob j 0 < 2 ^ 31 := by
      have := (t2 0 (by omega)).1
      have := hW.2.2.2.2.2.1.1
      omega
    rw [en_70]
    simp (disch := omega) only [f70_0, f70_1, f70_2, f70_3, f70_4, f70_5, f70_6, f70_7, f70_8, f70_9, f70_10, f70_11, f70_12, f70_13, f70_14, f70_15, f70_16, f70_17, f70_18, f70_19, f70_20, f70_21, f70_22, f70_23, f70_24, f70_25, f70_26, f70_27, f70_28, f70_30, f70_31, f70_32, f70_33, f70_34, f70_35, f70_36, f70_37, f70_38, f70_39, f70_40, f70_41, f70_42, f70_43, f70_44, f70_45, f70_46, f70_47, f70_48, f70_49, gf_155_3', gf_53_2', gf_155_0', la_3, la_17, la_18, la_19, la_45, la_52, la_54, la_153, la_154, la_156, la_157, la_6, la_21, la_48, la_56, la_67, la_79, la_105, al_4', al_20', al_37', al_46', al_55', al_66', al_78', al_103', rc_1, rc_2, rc_35, rc_44, rc_51, rc_53, rc_77, rc_152, rc_155, rc_5, rc_47, rc_104, ni_pred, kv_e, kx_e, kw_e, kn_e, ct_s, ct_v, cr_t, q_ri, q_rz0', q_rz1', q_rb, q_rv, Nat.add_sub_cancel_left, ni_m1lt, ni_m1le, ni_ltm1, ni_lem1, Nat.add_sub_cancel, nI_add, pk_mul, ni_sub, ni_lt, ni_le, ni_eq, ni_m1, ni_m1', nd_lt_t, nd_lt_f, nd_le_t, nd_le_f, nd_eq_t, nd_eq_f, bI_t', bI_f', bI_0', ↓reduceIte, not_true_eq_false, not_false_eq_true, reduceCtorEq, Bool.true_and, Bool.and_true, Bool.false_and, Bool.and_false, Bool.true_or, Bool.or_true, Bool.false_or, Bool.or_false, decide_true, decide_false, gu_ne, gu_eq, q56, h2, e4, i1]
  · rw [h1]
    refine ⟨hs, g, ?_, hS, fC_rf⟩
    rw [hk] at e4
    simp only [show decide (2 ≤ 3) = true from rfl] at e4
    rw [en_70]
    simp (disch := omega) only [f70_0, f70_1, f70_2, f70_3, f70_4, f70_5, f70_6, f70_7, f70_8, f70_9, f70_10, f70_11, f70_12, f70_13, f70_14, f70_15, f70_16, f70_17, f70_18, f70_19, f70_20, f70_21, f70_22, f70_23, f70_24, f70_25, f70_26, f70_27, f70_28, f70_29, f70_30, f70_31, f70_32, f70_33, f70_34, f70_35, f70_36, f70_37, f70_38, f70_39, f70_40, f70_41, f70_42, f70_43, f70_44, f70_45, f70_46, f70_47, f70_48, f70_49, gf_155_3', gf_53_2', gf_155_0', la_3, la_17, la_18, la_19, la_45, la_52, la_54, la_153, la_154, la_156, la_157, la_6, la_21, la_48, la_56, la_67, la_79, la_105, al_4', al_20', al_37', al_46', al_55', al_66', al_78', al_103', rc_1, rc_2, rc_35, rc_44, rc_51, rc_53, rc_77, rc_152, rc_155, rc_5, rc_47, rc_104, ni_pred, kv_e, kx_e, kw_e, kn_e, ct_s, ct_v, cr_t, q_ri, q_rz0', q_rz1', q_rb, q_rv, Nat.add_sub_cancel_left, ni_m1lt, ni_m1le, ni_ltm1, ni_lem1, Nat.add_sub_cancel, nI_add, pk_mul, ni_sub, ni_lt, ni_le, ni_eq, ni_m1, ni_m1', nd_lt_t, nd_lt_f, nd_le_t, nd_le_f, nd_eq_t, nd_eq_f, bI_t', bI_f', bI_0', ↓reduceIte, not_true_eq_false, not_false_eq_true, reduceCtorEq, Bool.true_and, Bool.and_true, Bool.false_and, Bool.and_false, Bool.true_or, Bool.or_true, Bool.false_or, Bool.or_false, decide_true, decide_false, gu_ne, gu_eq, q56, h2, e4, itS]
  · obtain ⟨hv, g1, i1, i2, i3⟩ := lp70 (h := h) hW hr hD hl hl' hg ho hh hj hc hk h1 (tnS g0 ob j) 0 g s (by omega) hw hs hS
    refine ⟨hv, g1, ?_, i2, i3⟩
    rw [hk] at e4
    simp only [show decide (2 ≤ 3) = true from rfl] at e4
    rw [h1] at i1
    rw [en_70]
    simp (disch := omega) only [f70_0, f70_1, f70_2, f70_3, f70_4, f70_5, f70_6, f70_7, f70_8, f70_9, f70_10, f70_11, f70_12, f70_13, f70_14, f70_15, f70_16, f70_17, f70_18, f70_19, f70_20, f70_21, f70_22, f70_23, f70_24, f70_25, f70_26, f70_27, f70_28, f70_30, f70_31, f70_32, f70_33, f70_34, f70_35, f70_36, f70_37, f70_38, f70_39, f70_40, f70_41, f70_42, f70_43, f70_44, f70_45, f70_46, f70_47, f70_48, f70_49, gf_155_3', gf_53_2', gf_155_0', la_3, la_17, la_18, la_19, la_45, la_52, la_54, la_153, la_154, la_156, la_157, la_6, la_21, la_48, la_56, la_67, la_79, la_105, al_4', al_20', al_37', al_46', al_55', al_66', al_78', al_103', rc_1, rc_2, rc_35, rc_44, rc_51, rc_53, rc_77, rc_152, rc_155, rc_5, rc_47, rc_104, ni_pred, kv_e, kx_e, kw_e, kn_e, ct_s, ct_v, cr_t, q_ri, q_rz0', q_rz1', q_rb, q_rv, Nat.add_sub_cancel_left, ni_m1lt, ni_m1le, ni_ltm1, ni_lem1, Nat.add_sub_cancel, nI_add, pk_mul, ni_sub, ni_lt, ni_le, ni_eq, ni_m1, ni_m1', nd_lt_t, nd_lt_f, nd_le_t, nd_le_f, nd_eq_t, nd_eq_f, bI_t', bI_f', bI_0', ↓reduceIte, not_true_eq_false, not_false_eq_true, reduceCtorEq, Bool.true_and, Bool.and_true, Bool.false_and, Bool.and_false, Bool.true_or, Bool.or_true, Bool.false_or, Bool.or_false, decide_true, decide_false, gu_ne, gu_eq, q56, h1, e4, i1]
theorem lp69 {t f R p n : Nat} {g0 : Gs} {dyn : Nat → Option iv_C} {z : Nat × Nat} {D ob h : Nat} {os tr : List (Nat × Nat)} {rec : Rc} {F : Int32} (hW : Wd t f R p n g0 dyn) (hr : RA g0 dyn z D p os rec) (hD : 2 ≤ D) (hl : tr.length + 1 = os.length) (hl' : os.length ≤ 16) (hg : gdP tr) (ho : ob < p) (hh : h < 6) (hF : ∀ i, i < f → tb F i = hasS g0 ob i) : ∀ (k j : Nat) (g : Gs) (s : Sp), j + k = f → wd g0 g → vS s → SA g tr os s → vS (itS (fieldS rec g0 tr ob h) k j s).2 ∧ ∃ g', iv_V (iv_X (D + 2)) mc_69 (some .int) 17 [.ref 155, .int (nI ob), .int (nI h), .int F, .int (nI 0), .int (nI j)] [] (gh g dyn, z) = some (some (.int (itS (fieldS rec g0 tr ob h) k j s).1), (gh g' dyn, z)) ∧ SA g' tr os (itS (fieldS rec g0 tr ob h) k j s).2 ∧ fC g g' := by
  have h203 : g0 203 0 0 = nI f := hW.2.1.2.1
  have hf14 := hW.2.1.1
  intro k
  induction k with
  | zero =>
    intro j g s hj hw hs hS
    have q203 := hw 203 rfl
    refine ⟨hs, g, ?_, hS, fC_rf⟩
    simp (disch := omega) only [f69_0, f69_1, f69_2, f69_3, f69_4, f69_5, f69_6, f69_7, f69_8, f69_9, f69_10, f69_11, f69_12, f69_13, f69_14, f69_15, f69_16, f69_17, f69_18, f69_19, f69_20, f69_21, f69_22, f69_23, f69_24, f69_25, f69_26, f69_27, f69_28, f69_29, f69_30, f69_31, f69_32, f69_33, f69_34, f69_35, f69_36, f69_37, f69_38, f69_39, f69_40, f69_41, f69_42, f69_43, f69_44, f69_45, f69_46, f69_47, f69_48, f69_49, f69_50, f69_51, gf_155_0', gf_155_3', gf_53_1', gf_2_3', gf_2_6', gf_2_7', la_3, la_17, la_18, la_19, la_45, la_52, la_54, la_153, la_154, la_156, la_157, la_6, la_21, la_48, la_56, la_67, la_79, la_105, al_4', al_20', al_37', al_46', al_55', al_66', al_78', al_103', rc_1, rc_2, rc_35, rc_44, rc_51, rc_53, rc_77, rc_152, rc_155, rc_5, rc_47, rc_104, ni_pred, kv_e, kx_e, kw_e, kn_e, ct_s, ct_v, cr_t, q_ri, q_rz0', q_rz1', q_rb, q_rv, Nat.add_sub_cancel_left, ni_m1lt, ni_m1le, ni_ltm1, ni_lem1, Nat.add_sub_cancel, nI_add, pk_mul, ni_sub, ni_lt, ni_le, ni_eq, ni_m1, ni_m1', nd_lt_t, nd_lt_f, nd_le_t, nd_le_f, nd_eq_t, nd_eq_f, bI_t', bI_f', bI_0', ↓reduceIte, not_true_eq_false, not_false_eq_true, reduceCtorEq, Bool.true_and, Bool.and_true, Bool.false_and, Bool.and_false, Bool.true_or, Bool.or_true, Bool.false_or, Bool.or_false, decide_true, decide_false, gu_ne, gu_eq, q203, h203, itS]
  | succ k ih =>
    intro j g s hj hw hs hS
    have q203 := hw 203 rfl
    have q19 := hw 19 rfl
    have q21 := hw 21 rfl
    obtain ⟨hj14, _, _, _, _, _, h19, _, _, h21⟩ := w_fd hW (show j < f by omega)
    have htb := tb_test (x := F) (k := j) (by omega)
    rw [hF j (by omega)] at htb
    have h21' := (h21 h hh).2.1
    cases hca : caS g0 j with
    | false =>
      rw [hca] at h19
      obtain ⟨hv, g', j1, j2, j3⟩ := ih (j + 1) g s (by omega) hw hs hS
      have ef : fieldS rec g0 tr ob h j s = (nI 0, s) := by simp [fieldS, hca]
      simp only [itS, ef, if_true]
      refine ⟨hv, g', ?_, j2, j3⟩
      refine Eq.trans ?_ j1
      rw [f69_17]
      simp (disch := omega) only [f69_0, f69_1, f69_2, f69_3, f69_4, f69_5, f69_6, f69_7, f69_8, f69_9, f69_10, f69_11, f69_12, f69_13, f69_14, f69_15, f69_16, f69_18, f69_19, f69_20, f69_21, f69_22, f69_23, f69_24, f69_25, f69_26, f69_27, f69_28, f69_29, f69_30, f69_31, f69_32, f69_33, f69_34, f69_35, f69_36, f69_37, f69_38, f69_39, f69_40, f69_41, f69_42, f69_43, f69_44, f69_45, f69_46, f69_47, f69_48, f69_49, f69_50, f69_51, gf_155_0', gf_155_3', gf_53_1', gf_2_3', gf_2_6', gf_2_7', la_3, la_17, la_18, la_19, la_45, la_52, la_54, la_153, la_154, la_156, la_157, la_6, la_21, la_48, la_56, la_67, la_79, la_105, al_4', al_20', al_37', al_46', al_55', al_66', al_78', al_103', rc_1, rc_2, rc_35, rc_44, rc_51, rc_53, rc_77, rc_152, rc_155, rc_5, rc_47, rc_104, ni_pred, kv_e, kx_e, kw_e, kn_e, ct_s, ct_v, cr_t, q_ri, q_rz0', q_rz1', q_rb, q_rv, Nat.add_sub_cancel_left, ni_m1lt, ni_m1le, ni_ltm1, ni_lem1, Nat.add_sub_cancel, nI_add, pk_mul, ni_sub, ni_lt, ni_le, ni_eq, ni_m1, ni_m1', nd_lt_t, nd_lt_f, nd_le_t, nd_le_f, nd_eq_t, nd_eq_f, bI_t', bI_f', bI_0', ↓reduceIte, not_true_eq_false, not_false_eq_true, reduceCtorEq, Bool.true_and, Bool.and_true, Bool.false_and, Bool.and_false, Bool.true_or, Bool.or_true, Bool.false_or, Bool.or_false, decide_true, decide_false, gu_ne, gu_eq, q203, h203, q19, h19]
    | true =>
      rw [hca] at h19
      cases hha : hasS g0 ob j with
      | false =>
        rw [hha] at htb
        obtain ⟨hv, g', j1, j2, j3⟩ := ih (j + 1) g s (by omega) hw hs hS
        have ef : fieldS rec g0 tr ob h j s = (nI 0, s) := by simp [fieldS, hca, hha]
        simp only [itS, ef, if_true]
        refine ⟨hv, g', ?_, j2, j3⟩
        refine Eq.trans ?_ j1
        rw [f69_17]
        simp (disch := omega) only [f69_0, f69_1, f69_2, f69_3, f69_4, f69_5, f69_6, f69_7, f69_8, f69_9, f69_10, f69_11, f69_12, f69_13, f69_14, f69_15, f69_16, f69_18, f69_19, f69_20, f69_21, f69_22, f69_23, f69_24, f69_25, f69_26, f69_27, f69_28, f69_29, f69_30, f69_31, f69_32, f69_33, f69_34, f69_35, f69_36, f69_37, f69_38, f69_39, f69_40, f69_41, f69_42, f69_43, f69_44, f69_45, f69_46, f69_47, f69_48, f69_49, f69_50, f69_51, gf_155_0', gf_155_3', gf_53_1', gf_2_3', gf_2_6', gf_2_7', la_3, la_17, la_18, la_19, la_45, la_52, la_54, la_153, la_154, la_156, la_157, la_6, la_21, la_48, la_56, la_67, la_79, la_105, al_4', al_20', al_37', al_46', al_55', al_66', al_78', al_103', rc_1, rc_2, rc_35, rc_44, rc_51, rc_53, rc_77, rc_152, rc_155, rc_5, rc_47, rc_104, ni_pred, kv_e, kx_e, kw_e, kn_e, ct_s, ct_v, cr_t, q_ri, q_rz0', q_rz1', q_rb, q_rv, Nat.add_sub_cancel_left, ni_m1lt, ni_m1le, ni_ltm1, ni_lem1, Nat.add_sub_cancel, nI_add, pk_mul, ni_sub, ni_lt, ni_le, ni_eq, ni_m1, ni_m1', nd_lt_t, nd_lt_f, nd_le_t, nd_le_f, nd_eq_t, nd_eq_f, bI_t', bI_f', bI_0', ↓reduceIte, not_true_eq_false, not_false_eq_true, reduceCtorEq, Bool.true_and, Bool.and_true, Bool.false_and, Bool.and_false, Bool.true_or, Bool.or_true, Bool.false_or, Bool.or_false, decide_true, decide_false, gu_ne, gu_eq, q203, h203, q19, h19, htb]
      | true =>
        rw [hha] at htb
        obtain ⟨hv, g1, i1, i2, i3⟩ := c70 (h := h) hW hr hD hl hl' hg ho hh (show j < f by omega) hca hw hs hS
        have ef : fieldS rec g0 tr ob h j s = itS (goS rec g0 tr ob h j) (tnS g0 ob j) 0 s := by simp [fieldS, hca, hha]
        rw [← ef] at hv i1 i2
        by_cases hc0 : (fieldS rec g0 tr ob h j s).1 = nI 0
        · obtain ⟨hv', g', j1, j2, j3⟩ := ih (j + 1) g1 _ (by omega) (wd_tr hw (fC_wd i3)) hv i2
          simp only [itS, hc0, if_true]
          refine ⟨hv', g', ?_, j2, fC_tr i3 j3⟩
          rw [hc0] at i1
          refine Eq.trans ?_ j1
          rw [f69_17]
          simp (disch := omega) only [f69_0, f69_1, f69_2, f69_3, f69_4, f69_5, f69_6, f69_7, f69_8, f69_9, f69_10, f69_11, f69_12, f69_13, f69_14, f69_15, f69_16, f69_18, f69_19, f69_20, f69_21, f69_22, f69_23, f69_24, f69_25, f69_26, f69_27, f69_28, f69_29, f69_30, f69_31, f69_32, f69_33, f69_34, f69_35, f69_36, f69_37, f69_38, f69_39, f69_40, f69_41, f69_42, f69_43, f69_44, f69_45, f69_46, f69_47, f69_48, f69_49, f69_50, f69_51, gf_155_0', gf_155_3', gf_53_1', gf_2_3', gf_2_6', gf_2_7', la_3, la_17, la_18, la_19, la_45, la_52, la_54, la_153, la_154, la_156, la_157, la_6, la_21, la_48, la_56, la_67, la_79, la_105, al_4', al_20', al_37', al_46', al_55', al_66', al_78', al_103', rc_1, rc_2, rc_35, rc_44, rc_51, rc_53, rc_77, rc_152, rc_155, rc_5, rc_47, rc_104, ni_pred, kv_e, kx_e, kw_e, kn_e, ct_s, ct_v, cr_t, q_ri, q_rz0', q_rz1', q_rb, q_rv, Nat.add_sub_cancel_left, ni_m1lt, ni_m1le, ni_ltm1, ni_lem1, Nat.add_sub_cancel, nI_add, pk_mul, ni_sub, ni_lt, ni_le, ni_eq, ni_m1, ni_m1', nd_lt_t, nd_lt_f, nd_le_t, nd_le_f, nd_eq_t, nd_eq_f, bI_t', bI_f', bI_0', ↓reduceIte, not_true_eq_false, not_false_eq_true, reduceCtorEq, Bool.true_and, Bool.and_true, Bool.false_and, Bool.and_false, Bool.true_or, Bool.or_true, Bool.false_or, Bool.or_false, decide_true, decide_false, gu_ne, gu_eq, q203, h203, q19, h19, htb, q21, h21', i1]
        · simp only [itS, hc0, if_false]
          refine ⟨hv, g1, ?_, i2, i3⟩
          have q203' : g1 203 = g0 203 := (i3 203 rfl).trans q203
          rw [f69_17]
          by_cases hlast : f ≤ j + 1
          · simp (disch := omega) only [f69_0, f69_1, f69_2, f69_3, f69_4, f69_5, f69_6, f69_7, f69_8, f69_9, f69_10, f69_11, f69_12, f69_13, f69_14, f69_15, f69_16, f69_18, f69_19, f69_20, f69_21, f69_22, f69_23, f69_24, f69_25, f69_26, f69_27, f69_28, f69_29, f69_30, f69_31, f69_32, f69_33, f69_34, f69_35, f69_36, f69_37, f69_38, f69_39, f69_40, f69_41, f69_42, f69_43, f69_44, f69_45, f69_46, f69_47, f69_48, f69_49, f69_50, f69_51, gf_155_0', gf_155_3', gf_53_1', gf_2_3', gf_2_6', gf_2_7', la_3, la_17, la_18, la_19, la_45, la_52, la_54, la_153, la_154, la_156, la_157, la_6, la_21, la_48, la_56, la_67, la_79, la_105, al_4', al_20', al_37', al_46', al_55', al_66', al_78', al_103', rc_1, rc_2, rc_35, rc_44, rc_51, rc_53, rc_77, rc_152, rc_155, rc_5, rc_47, rc_104, ni_pred, kv_e, kx_e, kw_e, kn_e, ct_s, ct_v, cr_t, q_ri, q_rz0', q_rz1', q_rb, q_rv, Nat.add_sub_cancel_left, ni_m1lt, ni_m1le, ni_ltm1, ni_lem1, Nat.add_sub_cancel, nI_add, pk_mul, ni_sub, ni_lt, ni_le, ni_eq, ni_m1, ni_m1', nd_lt_t, nd_lt_f, nd_le_t, nd_le_f, nd_eq_t, nd_eq_f, bI_t', bI_f', bI_0', ↓reduceIte, not_true_eq_false, not_false_eq_true, reduceCtorEq, Bool.true_and, Bool.and_true, Bool.false_and, Bool.and_false, Bool.true_or, Bool.or_true, Bool.false_or, Bool.or_false, decide_true, decide_false, gu_ne, gu_eq, q203, h203, q19, h19, htb, q21, h21', i1]
            simp (disch := omega) only [f69_0, f69_1, f69_2, f69_3, f69_4, f69_5, f69_6, f69_7, f69_8, f69_9, f69_10, f69_11, f69_12, f69_13, f69_14, f69_15, f69_16, f69_17, f69_18, f69_19, f69_20, f69_21, f69_22, f69_23, f69_24, f69_25, f69_26, f69_27, f69_28, f69_29, f69_30, f69_31, f69_32, f69_33, f69_34, f69_35, f69_36, f69_37, f69_38, f69_39, f69_40, f69_41, f69_42, f69_43, f69_44, f69_45, f69_46, f69_47, f69_48, f69_49, f69_50, f69_51, gf_155_0', gf_155_3', gf_53_1', gf_2_3', gf_2_6', gf_2_7', la_3, la_17, la_18, la_19, la_45, la_52, la_54, la_153, la_154, la_156, la_157, la_6, la_21, la_48, la_56, la_67, la_79, la_105, al_4', al_20', al_37', al_46', al_55', al_66', al_78', al_103', rc_1, rc_2, rc_35, rc_44, rc_51, rc_53, rc_77, rc_152, rc_155, rc_5, rc_47, rc_104, ni_pred, kv_e, kx_e, kw_e, kn_e, ct_s, ct_v, cr_t, q_ri, q_rz0', q_rz1', q_rb, q_rv, Nat.add_sub_cancel_left, ni_m1lt, ni_m1le, ni_ltm1, ni_lem1, Nat.add_sub_cancel, nI_add, pk_mul, ni_sub, ni_lt, ni_le, ni_eq, ni_m1, ni_m1', nd_lt_t, nd_lt_f, nd_le_t, nd_le_f, nd_eq_t, nd_eq_f, bI_t', bI_f', bI_0', ↓reduceIte, not_true_eq_false, not_false_eq_true, reduceCtorEq, Bool.true_and, Bool.and_true, Bool.false_and, Bool.and_false, Bool.true_or, Bool.or_true, Bool.false_or, Bool.or_false, decide_true, decide_false, gu_ne, gu_eq, q203', h203, hc0]
          · simp (disch := omega) only [f69_0, f69_1, f69_2, f69_3, f69_4, f69_5, f69_6, f69_7, f69_8, f69_9, f69_10, f69_11, f69_12, f69_13, f69_14, f69_15, f69_16, f69_18, f69_19, f69_20, f69_21, f69_22, f69_23, f69_24, f69_25, f69_26, f69_27, f69_28, f69_29, f69_30, f69_31, f69_32, f69_33, f69_34, f69_35, f69_36, f69_37, f69_38, f69_39, f69_40, f69_41, f69_42, f69_43, f69_44, f69_45, f69_46, f69_47, f69_48, f69_49, f69_50, f69_51, gf_155_0', gf_155_3', gf_53_1', gf_2_3', gf_2_6', gf_2_7', la_3, la_17, la_18, la_19, la_45, la_52, la_54, la_153, la_154, la_156, la_157, la_6, la_21, la_48, la_56, la_67, la_79, la_105, al_4', al_20', al_37', al_46', al_55', al_66', al_78', al_103', rc_1, rc_2, rc_35, rc_44, rc_51, rc_53, rc_77, rc_152, rc_155, rc_5, rc_47, rc_104, ni_pred, kv_e, kx_e, kw_e, kn_e, ct_s, ct_v, cr_t, q_ri, q_rz0', q_rz1', q_rb, q_rv, Nat.add_sub_cancel_left, ni_m1lt, ni_m1le, ni_ltm1, ni_lem1, Nat.add_sub_cancel, nI_add, pk_mul, ni_sub, ni_lt, ni_le, ni_eq, ni_m1, ni_m1', nd_lt_t, nd_lt_f, nd_le_t, nd_le_f, nd_eq_t, nd_eq_f, bI_t', bI_f', bI_0', ↓reduceIte, not_true_eq_false, not_false_eq_true, reduceCtorEq, Bool.true_and, Bool.and_true, Bool.false_and, Bool.and_false, Bool.true_or, Bool.or_true, Bool.false_or, Bool.or_false, decide_true, decide_false, gu_ne, gu_eq, q203, h203, q19, h19, htb, q21, h21', i1]
            simp (disch := omega) only [f69_0, f69_1, f69_2, f69_3, f69_4, f69_5, f69_6, f69_7, f69_8, f69_9, f69_10, f69_11, f69_12, f69_13, f69_14, f69_15, f69_16, f69_17, f69_18, f69_19, f69_20, f69_21, f69_22, f69_23, f69_24, f69_25, f69_26, f69_27, f69_28, f69_29, f69_30, f69_31, f69_32, f69_33, f69_34, f69_35, f69_36, f69_37, f69_38, f69_39, f69_40, f69_41, f69_42, f69_43, f69_44, f69_45, f69_46, f69_47, f69_48, f69_49, f69_50, f69_51, gf_155_0', gf_155_3', gf_53_1', gf_2_3', gf_2_6', gf_2_7', la_3, la_17, la_18, la_19, la_45, la_52, la_54, la_153, la_154, la_156, la_157, la_6, la_21, la_48, la_56, la_67, la_79, la_105, al_4', al_20', al_37', al_46', al_55', al_66', al_78', al_103', rc_1, rc_2, rc_35, rc_44, rc_51, rc_53, rc_77, rc_152, rc_155, rc_5, rc_47, rc_104, ni_pred, kv_e, kx_e, kw_e, kn_e, ct_s, ct_v, cr_t, q_ri, q_rz0', q_rz1', q_rb, q_rv, Nat.add_sub_cancel_left, ni_m1lt, ni_m1le, ni_ltm1, ni_lem1, Nat.add_sub_cancel, nI_add, pk_mul, ni_sub, ni_lt, ni_le, ni_eq, ni_m1, ni_m1', nd_lt_t, nd_lt_f, nd_le_t, nd_le_f, nd_eq_t, nd_eq_f, bI_t', bI_f', bI_0', ↓reduceIte, not_true_eq_false, not_false_eq_true, reduceCtorEq, Bool.true_and, Bool.and_true, Bool.false_and, Bool.and_false, Bool.true_or, Bool.or_true, Bool.false_or, Bool.or_false, decide_true, decide_false, gu_ne, gu_eq, q203', h203, hc0]
theorem c69 {t f R p n : Nat} {g0 : Gs} {dyn : Nat → Option iv_C} {z : Nat × Nat} {D ob h : Nat} {os tr : List (Nat × Nat)} {rec : Rc} {g : Gs} {s : Sp} (hW : Wd t f R p n g0 dyn) (hr : RA g0 dyn z D p os rec) (hD : 2 ≤ D) (hl : tr.length + 1 = os.length) (hl' : os.length ≤ 16) (hg : gdP tr) (ho : ob < p) (hh : h < 6) (hw : wd g0 g) (hs : vS s) (hS : SA g tr os s) : vS (stageS rec g0 f R tr ob h s).2 ∧ ∃ g', iv_X (D + 3) 69 [.ref 155, .int (nI ob), .int (nI h)] (gh g dyn, z) = some (some (.int (stageS rec g0 f R tr ob h s).1), (gh g' dyn, z)) ∧ SA g' tr os (stageS rec g0 f R tr ob h s).2 ∧ fC g g' := by
  obtain ⟨_, _, ho10, h54, _⟩ := w_cl hW ho
  have q54 := hw 54 rfl
  have hgt : gdT tr := ⟨by omega, hg⟩
  obtain ⟨F, e1, hF⟩ := c107 (g := g) (s := z) (D := D + 2) (by omega) hW hw ho
  obtain ⟨h1, h2, h3, h4⟩ := hS
  obtain ⟨g1, i1, i2, i3⟩ := c72 (s := z) (D := D + 2) (sf := hasS g0 ob) (by omega) hW ho hh hgt hF hs.2 hw h1 h2
  have i1' : iv_X (D + 2) 72 [.ref 155, .int (nI ob), .int F, .int (nI h)] (gh g dyn, z) = some (some (.int (rulS g0 R tr ob h s.2).1), (gh g1 dyn, z)) := i1
  have i2' : rA g1 (rulS g0 R tr ob h s.2).2 := i2
  have hv1 : vS (s.1, (rulS g0 R tr ob h s.2).2) := ⟨hs.1, ru_v hW ho hgt hs.2⟩
  have hS1 : SA g1 tr os (s.1, (rulS g0 R tr ob h s.2).2) := ⟨i2', trA_fr h2 (i3 352 rfl) (i3 153 rfl), oA_fr h3 (i3 355 rfl) (i3 156 rfl) (i3 157 rfl), by rw [i3 356 rfl]; exact h4⟩
  by_cases hc0 : (rulS g0 R tr ob h s.2).1 = nI 0
  · obtain ⟨hv, g', j1, j2, j3⟩ := lp69 (h := h) hW hr hD hl hl' hg ho hh hF f 0 g1 (s.1, (rulS g0 R tr ob h s.2).2) (by omega) (wd_tr hw (fA_wd i3)) hv1 hS1
    simp only [stageS, hc0, if_true]
    refine ⟨hv, g', ?_, j2, fC_tr (fA_fC i3) j3⟩
    rw [hc0] at i1'
    refine Eq.trans ?_ j1
    rw [en_69]
    simp (disch := omega) only [f69_0, f69_1, f69_2, f69_3, f69_4, f69_5, f69_6, f69_7, f69_8, f69_9, f69_10, f69_11, f69_12, f69_13, f69_14, f69_15, f69_16, f69_18, f69_19, f69_20, f69_21, f69_22, f69_23, f69_24, f69_25, f69_26, f69_27, f69_28, f69_29, f69_30, f69_31, f69_32, f69_33, f69_34, f69_35, f69_36, f69_37, f69_38, f69_39, f69_40, f69_41, f69_42, f69_43, f69_44, f69_45, f69_46, f69_47, f69_48, f69_49, f69_50, f69_51, gf_155_0', gf_155_3', gf_53_1', gf_2_3', gf_2_6', gf_2_7', la_3, la_17, la_18, la_19, la_45, la_52, la_54, la_153, la_154, la_156, la_157, la_6, la_21, la_48, la_56, la_67, la_79, la_105, al_4', al_20', al_37', al_46', al_55', al_66', al_78', al_103', rc_1, rc_2, rc_35, rc_44, rc_51, rc_53, rc_77, rc_152, rc_155, rc_5, rc_47, rc_104, ni_pred, kv_e, kx_e, kw_e, kn_e, ct_s, ct_v, cr_t, q_ri, q_rz0', q_rz1', q_rb, q_rv, Nat.add_sub_cancel_left, ni_m1lt, ni_m1le, ni_ltm1, ni_lem1, Nat.add_sub_cancel, nI_add, pk_mul, ni_sub, ni_lt, ni_le, ni_eq, ni_m1, ni_m1', nd_lt_t, nd_lt_f, nd_le_t, nd_le_f, nd_eq_t, nd_eq_f, bI_t', bI_f', bI_0', ↓reduceIte, not_true_eq_false, not_false_eq_true, reduceCtorEq, Bool.true_and, Bool.and_true, Bool.false_and, Bool.and_false, Bool.true_or, Bool.or_true, Bool.false_or, Bool.or_false, decide_true, decide_false, gu_ne, gu_eq, q54, h54, e1, i1']
  · simp only [stageS, hc0, if_false]
    refine ⟨hv1, g1, ?_, hS1, fA_fC i3⟩
    have q203' : g1 203 = g0 203 := (i3 203 rfl).trans (hw 203 rfl)
    have h203 : g0 203 0 0 = nI f := hW.2.1.2.1
    have hf14 := hW.2.1.1
    rw [en_69]
    by_cases hlast : f = 0
    · simp (disch := omega) only [f69_0, f69_1, f69_2, f69_3, f69_4, f69_5, f69_6, f69_7, f69_8, f69_9, f69_10, f69_11, f69_12, f69_13, f69_14, f69_15, f69_16, f69_18, f69_19, f69_20, f69_21, f69_22, f69_23, f69_24, f69_25, f69_26, f69_27, f69_28, f69_29, f69_30, f69_31, f69_32, f69_33, f69_34, f69_35, f69_36, f69_37, f69_38, f69_39, f69_40, f69_41, f69_42, f69_43, f69_44, f69_45, f69_46, f69_47, f69_48, f69_49, f69_50, f69_51, gf_155_0', gf_155_3', gf_53_1', gf_2_3', gf_2_6', gf_2_7', la_3, la_17, la_18, la_19, la_45, la_52, la_54, la_153, la_154, la_156, la_157, la_6, la_21, la_48, la_56, la_67, la_79, la_105, al_4', al_20', al_37', al_46', al_55', al_66', al_78', al_103', rc_1, rc_2, rc_35, rc_44, rc_51, rc_53, rc_77, rc_152, rc_155, rc_5, rc_47, rc_104, ni_pred, kv_e, kx_e, kw_e, kn_e, ct_s, ct_v, cr_t, q_ri, q_rz0', q_rz1', q_rb, q_rv, Nat.add_sub_cancel_left, ni_m1lt, ni_m1le, ni_ltm1, ni_lem1, Nat.add_sub_cancel, nI_add, pk_mul, ni_sub, ni_lt, ni_le, ni_eq, ni_m1, ni_m1', nd_lt_t, nd_lt_f, nd_le_t, nd_le_f, nd_eq_t, nd_eq_f, bI_t', bI_f', bI_0', ↓reduceIte, not_true_eq_false, not_false_eq_true, reduceCtorEq, Bool.true_and, Bool.and_true, Bool.false_and, Bool.and_false, Bool.true_or, Bool.or_true, Bool.false_or, Bool.or_false, decide_true, decide_false, gu_ne, gu_eq, q54, h54, e1, i1']
      simp (disch := omega) only [f69_0, f69_1, f69_2, f69_3, f69_4, f69_5, f69_6, f69_7, f69_8, f69_9, f69_10, f69_11, f69_12, f69_13, f69_14, f69_15, f69_16, f69_17, f69_18, f69_19, f69_20, f69_21, f69_22, f69_23, f69_24, f69_25, f69_26, f69_27, f69_28, f69_29, f69_30, f69_31, f69_32, f69_33, f69_34, f69_35, f69_36, f69_37, f69_38, f69_39, f69_40, f69_41, f69_42, f69_43, f69_44, f69_45, f69_46, f69_47, f69_48, f69_49, f69_50, f69_51, gf_155_0', gf_155_3', gf_53_1', gf_2_3', gf_2_6', gf_2_7', la_3, la_17, la_18, la_19, la_45, la_52, la_54, la_153, la_154, la_156, la_157, la_6, la_21, la_48, la_56, la_67, la_79, la_105, al_4', al_20', al_37', al_46', al_55', al_66', al_78', al_103', rc_1, rc_2, rc_35, rc_44, rc_51, rc_53, rc_77, rc_152, rc_155, rc_5, rc_47, rc_104, ni_pred, kv_e, kx_e, kw_e, kn_e, ct_s, ct_v, cr_t, q_ri, q_rz0', q_rz1', q_rb, q_rv, Nat.add_sub_cancel_left, ni_m1lt, ni_m1le, ni_ltm1, ni_lem1, Nat.add_sub_cancel, nI_add, pk_mul, ni_sub, ni_lt, ni_le, ni_eq, ni_m1, ni_m1', nd_lt_t, nd_lt_f, nd_le_t, nd_le_f, nd_eq_t, nd_eq_f, bI_t', bI_f', bI_0', ↓reduceIte, not_true_eq_false, not_false_eq_true, reduceCtorEq, Bool.true_and, Bool.and_true, Bool.false_and, Bool.and_false, Bool.true_or, Bool.or_true, Bool.false_or, Bool.or_false, decide_true, decide_false, gu_ne, gu_eq, q203', h203, hc0, hlast]
    · simp (disch := omega) only [f69_0, f69_1, f69_2, f69_3, f69_4, f69_5, f69_6, f69_7, f69_8, f69_9, f69_10, f69_11, f69_12, f69_13, f69_14, f69_15, f69_16, f69_18, f69_19, f69_20, f69_21, f69_22, f69_23, f69_24, f69_25, f69_26, f69_27, f69_28, f69_29, f69_30, f69_31, f69_32, f69_33, f69_34, f69_35, f69_36, f69_37, f69_38, f69_39, f69_40, f69_41, f69_42, f69_43, f69_44, f69_45, f69_46, f69_47, f69_48, f69_49, f69_50, f69_51, gf_155_0', gf_155_3', gf_53_1', gf_2_3', gf_2_6', gf_2_7', la_3, la_17, la_18, la_19, la_45, la_52, la_54, la_153, la_154, la_156, la_157, la_6, la_21, la_48, la_56, la_67, la_79, la_105, al_4', al_20', al_37', al_46', al_55', al_66', al_78', al_103', rc_1, rc_2, rc_35, rc_44, rc_51, rc_53, rc_77, rc_152, rc_155, rc_5, rc_47, rc_104, ni_pred, kv_e, kx_e, kw_e, kn_e, ct_s, ct_v, cr_t, q_ri, q_rz0', q_rz1', q_rb, q_rv, Nat.add_sub_cancel_left, ni_m1lt, ni_m1le, ni_ltm1, ni_lem1, Nat.add_sub_cancel, nI_add, pk_mul, ni_sub, ni_lt, ni_le, ni_eq, ni_m1, ni_m1', nd_lt_t, nd_lt_f, nd_le_t, nd_le_f, nd_eq_t, nd_eq_f, bI_t', bI_f', bI_0', ↓reduceIte, not_true_eq_false, not_false_eq_true, reduceCtorEq, Bool.true_and, Bool.and_true, Bool.false_and, Bool.and_false, Bool.true_or, Bool.or_true, Bool.false_or, Bool.or_false, decide_true, decide_false, gu_ne, gu_eq, q54, h54, e1, i1']
      simp (disch := omega) only [f69_0, f69_1, f69_2, f69_3, f69_4, f69_5, f69_6, f69_7, f69_8, f69_9, f69_10, f69_11, f69_12, f69_13, f69_14, f69_15, f69_16, f69_17, f69_18, f69_19, f69_20, f69_21, f69_22, f69_23, f69_24, f69_25, f69_26, f69_27, f69_28, f69_29, f69_30, f69_31, f69_32, f69_33, f69_34, f69_35, f69_36, f69_37, f69_38, f69_39, f69_40, f69_41, f69_42, f69_43, f69_44, f69_45, f69_46, f69_47, f69_48, f69_49, f69_50, f69_51, gf_155_0', gf_155_3', gf_53_1', gf_2_3', gf_2_6', gf_2_7', la_3, la_17, la_18, la_19, la_45, la_52, la_54, la_153, la_154, la_156, la_157, la_6, la_21, la_48, la_56, la_67, la_79, la_105, al_4', al_20', al_37', al_46', al_55', al_66', al_78', al_103', rc_1, rc_2, rc_35, rc_44, rc_51, rc_53, rc_77, rc_152, rc_155, rc_5, rc_47, rc_104, ni_pred, kv_e, kx_e, kw_e, kn_e, ct_s, ct_v, cr_t, q_ri, q_rz0', q_rz1', q_rb, q_rv, Nat.add_sub_cancel_left, ni_m1lt, ni_m1le, ni_ltm1, ni_lem1, Nat.add_sub_cancel, nI_add, pk_mul, ni_sub, ni_lt, ni_le, ni_eq, ni_m1, ni_m1', nd_lt_t, nd_lt_f, nd_le_t, nd_le_f, nd_eq_t, nd_eq_f, bI_t', bI_f', bI_0', ↓reduceIte, not_true_eq_false, not_false_eq_true, reduceCtorEq, Bool.true_and, Bool.and_true, Bool.false_and, Bool.and_false, Bool.true_or, Bool.or_true, Bool.false_or, Bool.or_false, decide_true, decide_false, gu_ne, gu_eq, q203', h203, hc0]
theorem lp67 {t f R p n : Nat} {g0 : Gs} {dyn : Nat → Option iv_C} {z : Nat × Nat} {D ob : Nat} {os tr : List (Nat × Nat)} {rec : Rc} {bf : Nat} (hW : Wd t f R p n g0 dyn) (hr : RA g0 dyn z D p os rec) (hD : 2 ≤ D) (hl : tr.length + 1 = os.length) (hl' : os.length ≤ 16) (hg : gdP tr) (ho : ob < p) (hb : stB g0 ob 0 = true) (hbf : bf ≤ 24) : ∀ (k i : Nat) (g : Gs) (s : Sp) (u : Value), i + k = stN g0 ob 0 → wd g0 g → vS s → s.2.length = bf → SA g tr os s → vS (sgeS (stepS rec g0 f R tr ob 0) bf k i s).2 ∧ ∃ g', iv_V (iv_X (D + 3)) mc_67 (some .int) 34 [.ref 155, .int (nI ob), .int (nI 0), .ref (5 + 2 * clS g0 ob), .int (nI bf), .int (nI 0), .int (nI i), u] [] (gh g dyn, z) = some (some (.int (sgeS (stepS rec g0 f R tr ob 0) bf k i s).1), (gh g' dyn, z)) ∧ SA g' tr os (sgeS (stepS rec g0 f R tr ob 0) bf k i s).2 ∧ fC g g' := by
  obtain ⟨_, hc6, ho10, h54, _⟩ := w_cl hW ho
  obtain ⟨hn4, h205, _, hen⟩ := w_or hW hc6
  have hN : stN g0 ob 0 = orN g0 (clS g0 ob) := by simp [stN, hb]
  rw [hN]
  intro k
  induction k with
  | zero =>
    intro i g s u hi hw hs hlen hS
    have q205 := hw 205 rfl
    refine ⟨hs, g, ?_, hS, fC_rf⟩
    simp (disch := omega) only [f67_0, f67_1, f67_2, f67_3, f67_4, f67_5, f67_6, f67_7, f67_8, f67_9, f67_10, f67_11, f67_12, f67_13, f67_14, f67_15, f67_16, f67_17, f67_18, f67_19, f67_20, f67_21, f67_22, f67_23, f67_24, f67_25, f67_26, f67_27, f67_28, f67_29, f67_30, f67_31, f67_32, f67_33, f67_34, f67_35, f67_36, f67_37, f67_38, f67_39, f67_40, f67_41, f67_42, f67_43, f67_44, f67_45, f67_46, f67_47, f67_48, f67_49, f67_50, f67_51, f67_52, f67_53, f67_54, f67_55, f67_56, f67_57, f67_58, f67_59, f67_60, f67_61, f67_62, f67_63, gf_155_0', gf_2_2', gf_155_3', gf_53_1', gf_5_1', gf_47_1', gf_51_1', gf_104_1', gf_152_1', gf_155_4', gf_77_0', gf_5_0', gf_47_0', gf_51_0', gf_104_0', gf_152_0', la_3, la_17, la_18, la_19, la_45, la_52, la_54, la_153, la_154, la_156, la_157, la_6, la_21, la_48, la_56, la_67, la_79, la_105, al_4', al_20', al_37', al_46', al_55', al_66', al_78', al_103', rc_1, rc_2, rc_35, rc_44, rc_51, rc_53, rc_77, rc_152, rc_155, rc_5, rc_47, rc_104, ni_pred, kv_e, kx_e, kw_e, kn_e, ct_s, ct_v, cr_t, q_ri, q_rz0', q_rz1', q_rb, q_rv, Nat.add_sub_cancel_left, ni_m1lt, ni_m1le, ni_ltm1, ni_lem1, Nat.add_sub_cancel, nI_add, pk_mul, ni_sub, ni_lt, ni_le, ni_eq, ni_m1, ni_m1', nd_lt_t, nd_lt_f, nd_le_t, nd_le_f, nd_eq_t, nd_eq_f, bI_t', bI_f', bI_0', ↓reduceIte, not_true_eq_false, not_false_eq_true, reduceCtorEq, Bool.true_and, Bool.and_true, Bool.false_and, Bool.and_false, Bool.true_or, Bool.or_true, Bool.false_or, Bool.or_false, decide_true, decide_false, gu_ne, gu_eq, q205, h205, sgeS]
  | succ k ih =>
    intro i g s u hi hw hs hlen hS
    have q205 := hw 205 rfl
    have q6 := hw 6 rfl
    have h277 : g 277 0 0 = nI bf := by rw [← hlen]; exact hS.1.1
    have hG : stG g0 ob 0 i < 6 := w_st hW ho (by omega) (by rw [hN]; omega)
    have hG' : stG g0 ob 0 i = (g0 6 (clS g0 ob) i).toNatClampNeg := by simp [stG, hb]
    obtain ⟨hv, g1, i1, i2, i3⟩ := c69 (h := stG g0 ob 0 i) hW hr hD hl hl' hg ho hG hw hs hS
    have hstep : iv_V (iv_X (D + 3)) mc_67 (some .int) 34 [.ref 155, .int (nI ob), .int (nI 0), .ref (5 + 2 * clS g0 ob), .int (nI bf), .int (nI 0), .int (nI i), u] [] (gh g dyn, z) = iv_V (iv_X (D + 3)) mc_67 (some .int) 34 [.ref 155, .int (nI ob), .int (nI 0), .ref (5 + 2 * clS g0 ob), .int (nI bf), .int (stepS rec g0 f R tr ob 0 i s).1, .int (nI (i + 1)), .int (g0 6 (clS g0 ob) i)] [] (gh g1 dyn, z) := by
      rw [f67_34]
      rcases (hen i (by omega)).2 with h6 | ⟨y, hy, h6⟩
      · rw [h6, m1_cl] at hG'
        rw [hG'] at i1
        have i1' : iv_X (D + 3) 69 [.ref 155, .int (nI ob), .int (nI 0)] (gh g dyn, z) = some (some (.int (stepS rec g0 f R tr ob 0 i s).1), (gh g1 dyn, z)) := by
          rw [i1]
          unfold stepS
          rw [hG']
        simp (disch := omega) only [f67_0, f67_1, f67_2, f67_3, f67_4, f67_5, f67_6, f67_7, f67_8, f67_9, f67_10, f67_11, f67_12, f67_13, f67_14, f67_15, f67_16, f67_17, f67_18, f67_19, f67_20, f67_21, f67_22, f67_23, f67_24, f67_25, f67_26, f67_27, f67_28, f67_29, f67_30, f67_31, f67_32, f67_33, f67_35, f67_36, f67_37, f67_38, f67_39, f67_40, f67_41, f67_42, f67_43, f67_44, f67_45, f67_46, f67_47, f67_48, f67_49, f67_50, f67_51, f67_52, f67_53, f67_54, f67_55, f67_56, f67_57, f67_58, f67_59, f67_60, f67_61, f67_62, f67_63, gf_155_0', gf_2_2', gf_155_3', gf_53_1', gf_5_1', gf_47_1', gf_51_1', gf_104_1', gf_152_1', gf_155_4', gf_77_0', gf_5_0', gf_47_0', gf_51_0', gf_104_0', gf_152_0', la_3, la_17, la_18, la_19, la_45, la_52, la_54, la_153, la_154, la_156, la_157, la_6, la_21, la_48, la_56, la_67, la_79, la_105, al_4', al_20', al_37', al_46', al_55', al_66', al_78', al_103', rc_1, rc_2, rc_35, rc_44, rc_51, rc_53, rc_77, rc_152, rc_155, rc_5, rc_47, rc_104, ni_pred, kv_e, kx_e, kw_e, kn_e, ct_s, ct_v, cr_t, q_ri, q_rz0', q_rz1', q_rb, q_rv, Nat.add_sub_cancel_left, ni_m1lt, ni_m1le, ni_ltm1, ni_lem1, Nat.add_sub_cancel, nI_add, pk_mul, ni_sub, ni_lt, ni_le, ni_eq, ni_m1, ni_m1', nd_lt_t, nd_lt_f, nd_le_t, nd_le_f, nd_eq_t, nd_eq_f, bI_t', bI_f', bI_0', ↓reduceIte, not_true_eq_false, not_false_eq_true, reduceCtorEq, Bool.true_and, Bool.and_true, Bool.false_and, Bool.and_false, Bool.true_or, Bool.or_true, Bool.false_or, Bool.or_false, decide_true, decide_false, gu_ne, gu_eq, q205, h205, h277, q6, h6, i1']
      · rw [h6, nI_clamp (by omega)] at hG'
        rw [hG'] at i1
        have i1' : iv_X (D + 3) 69 [.ref 155, .int (nI ob), .int (nI y)] (gh g dyn, z) = some (some (.int (stepS rec g0 f R tr ob 0 i s).1), (gh g1 dyn, z)) := by
          rw [i1]
          unfold stepS
          rw [hG']
        simp (disch := omega) only [f67_0, f67_1, f67_2, f67_3, f67_4, f67_5, f67_6, f67_7, f67_8, f67_9, f67_10, f67_11, f67_12, f67_13, f67_14, f67_15, f67_16, f67_17, f67_18, f67_19, f67_20, f67_21, f67_22, f67_23, f67_24, f67_25, f67_26, f67_27, f67_28, f67_29, f67_30, f67_31, f67_32, f67_33, f67_35, f67_36, f67_37, f67_38, f67_39, f67_40, f67_41, f67_42, f67_43, f67_44, f67_45, f67_46, f67_47, f67_48, f67_49, f67_50, f67_51, f67_52, f67_53, f67_54, f67_55, f67_56, f67_57, f67_58, f67_59, f67_60, f67_61, f67_62, f67_63, gf_155_0', gf_2_2', gf_155_3', gf_53_1', gf_5_1', gf_47_1', gf_51_1', gf_104_1', gf_152_1', gf_155_4', gf_77_0', gf_5_0', gf_47_0', gf_51_0', gf_104_0', gf_152_0', la_3, la_17, la_18, la_19, la_45, la_52, la_54, la_153, la_154, la_156, la_157, la_6, la_21, la_48, la_56, la_67, la_79, la_105, al_4', al_20', al_37', al_46', al_55', al_66', al_78', al_103', rc_1, rc_2, rc_35, rc_44, rc_51, rc_53, rc_77, rc_152, rc_155, rc_5, rc_47, rc_104, ni_pred, kv_e, kx_e, kw_e, kn_e, ct_s, ct_v, cr_t, q_ri, q_rz0', q_rz1', q_rb, q_rv, Nat.add_sub_cancel_left, ni_m1lt, ni_m1le, ni_ltm1, ni_lem1, Nat.add_sub_cancel, nI_add, pk_mul, ni_sub, ni_lt, ni_le, ni_eq, ni_m1, ni_m1', nd_lt_t, nd_lt_f, nd_le_t, nd_le_f, nd_eq_t, nd_eq_f, bI_t', bI_f', bI_0', ↓reduceIte, not_true_eq_false, not_false_eq_true, reduceCtorEq, Bool.true_and, Bool.and_true, Bool.false_and, Bool.and_false, Bool.true_or, Bool.or_true, Bool.false_or, Bool.or_false, decide_true, decide_false, gu_ne, gu_eq, q205, h205, h277, q6, h6, i1']
    rw [hstep]
    change vS (stepS rec g0 f R tr ob 0 i s).2 at hv
    change SA g1 tr os (stepS rec g0 f R tr ob 0 i s).2 at i2
    by_cases hc0 : (stepS rec g0 f R tr ob 0 i s).1 = nI 0
    · by_cases hc1 : (stepS rec g0 f R tr ob 0 i s).2.2.length = bf
      · obtain ⟨hv', g', j1, j2, j3⟩ := ih (i + 1) g1 (stepS rec g0 f R tr ob 0 i s).2 (.int (g0 6 (clS g0 ob) i)) (by omega) (wd_tr hw (fC_wd i3)) hv hc1 i2
        simp only [sgeS, hc0, hc1, and_self, if_true]
        exact ⟨hv', g', j1, j2, fC_tr i3 j3⟩
      · simp only [sgeS, hc1, and_false, if_false]
        refine ⟨hv, g1, ?_, i2, i3⟩
        have q205' : g1 205 = g0 205 := (i3 205 rfl).trans q205
        have h277' := i2.1.1
        have hlen24 := hv.2.1
        rw [hc0]
        by_cases hlast : orN g0 (clS g0 ob) ≤ i + 1
        · simp (disch := omega) only [f67_0, f67_1, f67_2, f67_3, f67_4, f67_5, f67_6, f67_7, f67_8, f67_9, f67_10, f67_11, f67_12, f67_13, f67_14, f67_15, f67_16, f67_17, f67_18, f67_19, f67_20, f67_21, f67_22, f67_23, f67_24, f67_25, f67_26, f67_27, f67_28, f67_29, f67_30, f67_31, f67_32, f67_33, f67_34, f67_35, f67_36, f67_37, f67_38, f67_39, f67_40, f67_41, f67_42, f67_43, f67_44, f67_45, f67_46, f67_47, f67_48, f67_49, f67_50, f67_51, f67_52, f67_53, f67_54, f67_55, f67_56, f67_57, f67_58, f67_59, f67_60, f67_61, f67_62, f67_63, gf_155_0', gf_2_2', gf_155_3', gf_53_1', gf_5_1', gf_47_1', gf_51_1', gf_104_1', gf_152_1', gf_155_4', gf_77_0', gf_5_0', gf_47_0', gf_51_0', gf_104_0', gf_152_0', la_3, la_17, la_18, la_19, la_45, la_52, la_54, la_153, la_154, la_156, la_157, la_6, la_21, la_48, la_56, la_67, la_79, la_105, al_4', al_20', al_37', al_46', al_55', al_66', al_78', al_103', rc_1, rc_2, rc_35, rc_44, rc_51, rc_53, rc_77, rc_152, rc_155, rc_5, rc_47, rc_104, ni_pred, kv_e, kx_e, kw_e, kn_e, ct_s, ct_v, cr_t, q_ri, q_rz0', q_rz1', q_rb, q_rv, Nat.add_sub_cancel_left, ni_m1lt, ni_m1le, ni_ltm1, ni_lem1, Nat.add_sub_cancel, nI_add, pk_mul, ni_sub, ni_lt, ni_le, ni_eq, ni_m1, ni_m1', nd_lt_t, nd_lt_f, nd_le_t, nd_le_f, nd_eq_t, nd_eq_f, bI_t', bI_f', bI_0', ↓reduceIte, not_true_eq_false, not_false_eq_true, reduceCtorEq, Bool.true_and, Bool.and_true, Bool.false_and, Bool.and_false, Bool.true_or, Bool.or_true, Bool.false_or, Bool.or_false, decide_true, decide_false, gu_ne, gu_eq, q205', h205]
        · simp (disch := omega) only [f67_0, f67_1, f67_2, f67_3, f67_4, f67_5, f67_6, f67_7, f67_8, f67_9, f67_10, f67_11, f67_12, f67_13, f67_14, f67_15, f67_16, f67_17, f67_18, f67_19, f67_20, f67_21, f67_22, f67_23, f67_24, f67_25, f67_26, f67_27, f67_28, f67_29, f67_30, f67_31, f67_32, f67_33, f67_34, f67_35, f67_36, f67_37, f67_38, f67_39, f67_40, f67_41, f67_42, f67_43, f67_44, f67_45, f67_46, f67_47, f67_48, f67_49, f67_50, f67_51, f67_52, f67_53, f67_54, f67_55, f67_56, f67_57, f67_58, f67_59, f67_60, f67_61, f67_62, f67_63, gf_155_0', gf_2_2', gf_155_3', gf_53_1', gf_5_1', gf_47_1', gf_51_1', gf_104_1', gf_152_1', gf_155_4', gf_77_0', gf_5_0', gf_47_0', gf_51_0', gf_104_0', gf_152_0', la_3, la_17, la_18, la_19, la_45, la_52, la_54, la_153, la_154, la_156, la_157, la_6, la_21, la_48, la_56, la_67, la_79, la_105, al_4', al_20', al_37', al_46', al_55', al_66', al_78', al_103', rc_1, rc_2, rc_35, rc_44, rc_51, rc_53, rc_77, rc_152, rc_155, rc_5, rc_47, rc_104, ni_pred, kv_e, kx_e, kw_e, kn_e, ct_s, ct_v, cr_t, q_ri, q_rz0', q_rz1', q_rb, q_rv, Nat.add_sub_cancel_left, ni_m1lt, ni_m1le, ni_ltm1, ni_lem1, Nat.add_sub_cancel, nI_add, pk_mul, ni_sub, ni_lt, ni_le, ni_eq, ni_m1, ni_m1', nd_lt_t, nd_lt_f, nd_le_t, nd_le_f, nd_eq_t, nd_eq_f, bI_t', bI_f', bI_0', ↓reduceIte, not_true_eq_false, not_false_eq_true, reduceCtorEq, Bool.true_and, Bool.and_true, Bool.false_and, Bool.and_false, Bool.true_or, Bool.or_true, Bool.false_or, Bool.or_false, decide_true, decide_false, gu_ne, gu_eq, q205', h205, h277', hc1]
    · simp only [sgeS, hc0, false_and, if_false]
      refine ⟨hv, g1, ?_, i2, i3⟩
      have q205' : g1 205 = g0 205 := (i3 205 rfl).trans q205
      by_cases hlast : orN g0 (clS g0 ob) ≤ i + 1
      · simp (disch := omega) only [f67_0, f67_1, f67_2, f67_3, f67_4, f67_5, f67_6, f67_7, f67_8, f67_9, f67_10, f67_11, f67_12, f67_13, f67_14, f67_15, f67_16, f67_17, f67_18, f67_19, f67_20, f67_21, f67_22, f67_23, f67_24, f67_25, f67_26, f67_27, f67_28, f67_29, f67_30, f67_31, f67_32, f67_33, f67_34, f67_35, f67_36, f67_37, f67_38, f67_39, f67_40, f67_41, f67_42, f67_43, f67_44, f67_45, f67_46, f67_47, f67_48, f67_49, f67_50, f67_51, f67_52, f67_53, f67_54, f67_55, f67_56, f67_57, f67_58, f67_59, f67_60, f67_61, f67_62, f67_63, gf_155_0', gf_2_2', gf_155_3', gf_53_1', gf_5_1', gf_47_1', gf_51_1', gf_104_1', gf_152_1', gf_155_4', gf_77_0', gf_5_0', gf_47_0', gf_51_0', gf_104_0', gf_152_0', la_3, la_17, la_18, la_19, la_45, la_52, la_54, la_153, la_154, la_156, la_157, la_6, la_21, la_48, la_56, la_67, la_79, la_105, al_4', al_20', al_37', al_46', al_55', al_66', al_78', al_103', rc_1, rc_2, rc_35, rc_44, rc_51, rc_53, rc_77, rc_152, rc_155, rc_5, rc_47, rc_104, ni_pred, kv_e, kx_e, kw_e, kn_e, ct_s, ct_v, cr_t, q_ri, q_rz0', q_rz1', q_rb, q_rv, Nat.add_sub_cancel_left, ni_m1lt, ni_m1le, ni_ltm1, ni_lem1, Nat.add_sub_cancel, nI_add, pk_mul, ni_sub, ni_lt, ni_le, ni_eq, ni_m1, ni_m1', nd_lt_t, nd_lt_f, nd_le_t, nd_le_f, nd_eq_t, nd_eq_f, bI_t', bI_f', bI_0', ↓reduceIte, not_true_eq_false, not_false_eq_true, reduceCtorEq, Bool.true_and, Bool.and_true, Bool.false_and, Bool.and_false, Bool.true_or, Bool.or_true, Bool.false_or, Bool.or_false, decide_true, decide_false, gu_ne, gu_eq, q205', h205]
      · simp (disch := omega) only [f67_0, f67_1, f67_2, f67_3, f67_4, f67_5, f67_6, f67_7, f67_8, f67_9, f67_10, f67_11, f67_12, f67_13, f67_14, f67_15, f67_16, f67_17, f67_18, f67_19, f67_20, f67_21, f67_22, f67_23, f67_24, f67_25, f67_26, f67_27, f67_28, f67_29, f67_30, f67_31, f67_32, f67_33, f67_34, f67_35, f67_36, f67_37, f67_38, f67_39, f67_40, f67_41, f67_42, f67_43, f67_44, f67_45, f67_46, f67_47, f67_48, f67_49, f67_50, f67_51, f67_52, f67_53, f67_54, f67_55, f67_56, f67_57, f67_58, f67_59, f67_60, f67_61, f67_62, f67_63, gf_155_0', gf_2_2', gf_155_3', gf_53_1', gf_5_1', gf_47_1', gf_51_1', gf_104_1', gf_152_1', gf_155_4', gf_77_0', gf_5_0', gf_47_0', gf_51_0', gf_104_0', gf_152_0', la_3, la_17, la_18, la_19, la_45, la_52, la_54, la_153, la_154, la_156, la_157, la_6, la_21, la_48, la_56, la_67, la_79, la_105, al_4', al_20', al_37', al_46', al_55', al_66', al_78', al_103', rc_1, rc_2, rc_35, rc_44, rc_51, rc_53, rc_77, rc_152, rc_155, rc_5, rc_47, rc_104, ni_pred, kv_e, kx_e, kw_e, kn_e, ct_s, ct_v, cr_t, q_ri, q_rz0', q_rz1', q_rb, q_rv, Nat.add_sub_cancel_left, ni_m1lt, ni_m1le, ni_ltm1, ni_lem1, Nat.add_sub_cancel, nI_add, pk_mul, ni_sub, ni_lt, ni_le, ni_eq, ni_m1, ni_m1', nd_lt_t, nd_lt_f, nd_le_t, nd_le_f, nd_eq_t, nd_eq_f, bI_t', bI_f', bI_0', ↓reduceIte, not_true_eq_false, not_false_eq_true, reduceCtorEq, Bool.true_and, Bool.and_true, Bool.false_and, Bool.and_false, Bool.true_or, Bool.or_true, Bool.false_or, Bool.or_false, decide_true, decide_false, gu_ne, gu_eq, q205', h205, hc0]
theorem sge_1 {rec : Nat → Sp → Int32 × Sp} {bf : Nat} {s : Sp} : sgeS rec bf 1 0 s = rec 0 s := by
  simp only [sgeS]
  split
  · rename_i h
    rw [← h.1]
  · rfl
def stgS (rec : Rc) (g : Gs) (F R : Nat) (tr : List (Nat × Nat)) (ob gr : Nat) (s : Sp) : Int32 × Sp := if stB g ob gr = true ∧ gdS g (clS g ob) = false then (-3, s) else sgeS (stepS rec g F R tr ob gr) s.2.length (stN g ob gr) 0 s
theorem c67 {t f R p n : Nat} {g0 : Gs} {dyn : Nat → Option iv_C} {z : Nat × Nat} {D ob : Nat} {os tr : List (Nat × Nat)} {rec : Rc} {gr : Nat} {g : Gs} {s : Sp} (hW : Wd t f R p n g0 dyn) (hr : RA g0 dyn z D p os rec) (hD : 2 ≤ D) (hl : tr.length + 1 = os.length) (hl' : os.length ≤ 16) (hg : gdP tr) (ho : ob < p) (hgr : gr < 6) (hw : wd g0 g) (hs : vS s) (hS : SA g tr os s) : vS (stgS rec g0 f R tr ob gr s).2 ∧ ∃ g', iv_X (D + 4) 67 [.ref 155, .int (nI ob), .int (nI gr)] (gh g dyn, z) = some (some (.int (stgS rec g0 f R tr ob gr s).1), (gh g' dyn, z)) ∧ SA g' tr os (stgS rec g0 f R tr ob gr s).2 ∧ fC g g' := by
  obtain ⟨_, hc6, ho10, h54, _⟩ := w_cl hW ho
  obtain ⟨hn4, h205, _, hen⟩ := w_or hW hc6
  have q54 := hw 54 rfl
  have q205 := hw 205 rfl
  cases hb : stB g0 ob gr with
  | false =>
    have hN : stN g0 ob gr = 1 := by simp [stN, hb]
    have hG : stG g0 ob gr 0 = gr := by simp [stG, hb]
    have es : stgS rec g0 f R tr ob gr s = stageS rec g0 f R tr ob gr s := by
      simp only [stgS, hb, Bool.false_eq_true, false_and, if_false, hN, sge_1, stepS, hG]
    rw [es]
    obtain ⟨hv, g1, i1, i2, i3⟩ := c69 (h := gr) hW hr hD hl hl' hg ho hgr hw hs hS
    refine ⟨hv, g1, ?_, i2, i3⟩
    rw [en_67]
    by_cases h0 : gr = 0
    · have hn0 : orN g0 (clS g0 ob) = 0 := by
        simp only [stB, h0, decide_true, Bool.true_and, decide_eq_false_iff_not] at hb
        omega
      rw [hn0] at h205
      subst h0
      simp (disch := omega) only [f67_0, f67_1, f67_2, f67_3, f67_4, f67_5, f67_6, f67_7, f67_8, f67_9, f67_10, f67_11, f67_12, f67_13, f67_14, f67_15, f67_16, f67_17, f67_18, f67_19, f67_20, f67_21, f67_22, f67_23, f67_24, f67_25, f67_26, f67_27, f67_28, f67_29, f67_30, f67_31, f67_32, f67_33, f67_35, f67_36, f67_37, f67_38, f67_39, f67_40, f67_41, f67_42, f67_43, f67_44, f67_45, f67_46, f67_47, f67_48, f67_49, f67_50, f67_51, f67_52, f67_53, f67_54, f67_55, f67_56, f67_57, f67_58, f67_59, f67_60, f67_61, f67_62, f67_63, gf_155_0', gf_2_2', gf_155_3', gf_53_1', gf_5_1', gf_47_1', gf_51_1', gf_104_1', gf_152_1', gf_155_4', gf_77_0', gf_5_0', gf_47_0', gf_51_0', gf_104_0', gf_152_0', la_3, la_17, la_18, la_19, la_45, la_52, la_54, la_153, la_154, la_156, la_157, la_6, la_21, la_48, la_56, la_67, la_79, la_105, al_4', al_20', al_37', al_46', al_55', al_66', al_78', al_103', rc_1, rc_2, rc_35, rc_44, rc_51, rc_53, rc_77, rc_152, rc_155, rc_5, rc_47, rc_104, ni_pred, kv_e, kx_e, kw_e, kn_e, ct_s, ct_v, cr_t, q_ri, q_rz0', q_rz1', q_rb, q_rv, Nat.add_sub_cancel_left, ni_m1lt, ni_m1le, ni_ltm1, ni_lem1, Nat.add_sub_cancel, nI_add, pk_mul, ni_sub, ni_lt, ni_le, ni_eq, ni_m1, ni_m1', nd_lt_t, nd_lt_f, nd_le_t, nd_le_f, nd_eq_t, nd_eq_f, bI_t', bI_f', bI_0', ↓reduceIte, not_true_eq_false, not_false_eq_true, reduceCtorEq, Bool.true_and, Bool.and_true, Bool.false_and, Bool.and_false, Bool.true_or, Bool.or_true, Bool.false_or, Bool.or_false, decide_true, decide_false, gu_ne, gu_eq, q54, h54, q205, h205, i1]
    · simp (disch := omega) only [f67_0, f67_1, f67_2, f67_3, f67_4, f67_5, f67_6, f67_7, f67_8, f67_9, f67_10, f67_11, f67_12, f67_13, f67_14, f67_15, f67_16, f67_17, f67_18, f67_19, f67_20, f67_21, f67_22, f67_23, f67_24, f67_25, f67_26, f67_27, f67_28, f67_29, f67_30, f67_31, f67_32, f67_33, f67_35, f67_36, f67_37, f67_38, f67_39, f67_40, f67_41, f67_42, f67_43, f67_44, f67_45, f67_46, f67_47, f67_48, f67_49, f67_50, f67_51, f67_52, f67_53, f67_54, f67_55, f67_56, f67_57, f67_58, f67_59, f67_60, f67_61, f67_62, f67_63, gf_155_0', gf_2_2', gf_155_3', gf_53_1', gf_5_1', gf_47_1', gf_51_1', gf_104_1', gf_152_1', gf_155_4', gf_77_0', gf_5_0', gf_47_0', gf_51_0', gf_104_0', gf_152_0', la_3, la_17, la_18, la_19, la_45, la_52, la_54, la_153, la_154, la_156, la_157, la_6, la_21, la_48, la_56, la_67, la_79, la_105, al_4', al_20', al_37', al_46', al_55', al_66', al_78', al_103', rc_1, rc_2, rc_35, rc_44, rc_51, rc_53, rc_77, rc_152, rc_155, rc_5, rc_47, rc_104, ni_pred, kv_e, kx_e, kw_e, kn_e, ct_s, ct_v, cr_t, q_ri, q_rz0', q_rz1', q_rb, q_rv, Nat.add_sub_cancel_left, ni_m1lt, ni_m1le, ni_ltm1, ni_lem1, Nat.add_sub_cancel, nI_add, pk_mul, ni_sub, ni_lt, ni_le, ni_eq, ni_m1, ni_m1', nd_lt_t, nd_lt_f, nd_le_t, nd_le_f, nd_eq_t, nd_eq_f, bI_t', bI_f', bI_0', ↓reduceIte, not_true_eq_false, not_false_eq_true, reduceCtorEq, Bool.true_and, Bool.and_true, Bool.false_and, Bool.and_false, Bool.true_or, Bool.or_true, Bool.false_or, Bool.or_false, decide_true, decide_false, gu_ne, gu_eq, q54, h54, i1, h0]
  | true =>
    obtain ⟨hb1, hb2⟩ := (Bool.and_eq_true _ _).mp hb
    have h0 : gr = 0 := of_decide_eq_true hb1
    have hn0 : 0 < orN g0 (clS g0 ob) := of_decide_eq_true hb2
    subst h0
    have e68 : iv_X (D + 3) 68 [.ref 155, .ref (5 + 2 * clS g0 ob)] (gh g dyn, z) = some (some (.int (bI (gdS g0 (clS g0 ob)))), (gh g dyn, z)) := by
      have h1 := c68 (g := g) (dyn := dyn) (s := z) (D := D + 3) (c := clS g0 ob) (by omega) hc6 (by unfold orN; rw [q205]; exact hn4) (by unfold orN; rw [q205]; exact h205)
      have h2 : gdS g (clS g0 ob) = gdS g0 (clS g0 ob) := by
        unfold gdS orN
        rw [q205, hw 6 rfl]
      rw [h2] at h1
      exact h1
    cases hgd : gdS g0 (clS g0 ob) with
    | false =>
      rw [hgd] at e68
      have es : stgS rec g0 f R tr ob 0 s = (-3, s) := by simp [stgS, hb, hgd]
      rw [es]
      refine ⟨hs, g, ?_, hS, fC_rf⟩
      rw [en_67]
      simp (disch := omega) only [f67_0, f67_1, f67_2, f67_3, f67_4, f67_5, f67_6, f67_7, f67_8, f67_9, f67_10, f67_11, f67_12, f67_13, f67_14, f67_15, f67_16, f67_17, f67_18, f67_19, f67_20, f67_21, f67_22, f67_23, f67_24, f67_25, f67_26, f67_27, f67_28, f67_29, f67_30, f67_31, f67_32, f67_33, f67_35, f67_36, f67_37, f67_38, f67_39, f67_40, f67_41, f67_42, f67_43, f67_44, f67_45, f67_46, f67_47, f67_48, f67_49, f67_50, f67_51, f67_52, f67_53, f67_54, f67_55, f67_56, f67_57, f67_58, f67_59, f67_60, f67_61, f67_62, f67_63, gf_155_0', gf_2_2', gf_155_3', gf_53_1', gf_5_1', gf_47_1', gf_51_1', gf_104_1', gf_152_1', gf_155_4', gf_77_0', gf_5_0', gf_47_0', gf_51_0', gf_104_0', gf_152_0', la_3, la_17, la_18, la_19, la_45, la_52, la_54, la_153, la_154, la_156, la_157, la_6, la_21, la_48, la_56, la_67, la_79, la_105, al_4', al_20', al_37', al_46', al_55', al_66', al_78', al_103', rc_1, rc_2, rc_35, rc_44, rc_51, rc_53, rc_77, rc_152, rc_155, rc_5, rc_47, rc_104, ni_pred, kv_e, kx_e, kw_e, kn_e, ct_s, ct_v, cr_t, q_ri, q_rz0', q_rz1', q_rb, q_rv, Nat.add_sub_cancel_left, ni_m1lt, ni_m1le, ni_ltm1, ni_lem1, Nat.add_sub_cancel, nI_add, pk_mul, ni_sub, ni_lt, ni_le, ni_eq, ni_m1, ni_m1', nd_lt_t, nd_lt_f, nd_le_t, nd_le_f, nd_eq_t, nd_eq_f, bI_t', bI_f', bI_0', ↓reduceIte, not_true_eq_false, not_false_eq_true, reduceCtorEq, Bool.true_and, Bool.and_true, Bool.false_and, Bool.and_false, Bool.true_or, Bool.or_true, Bool.false_or, Bool.or_false, decide_true, decide_false, gu_ne, gu_eq, q54, h54, q205, h205, e68]
    | true =>
      rw [hgd] at e68
      have es : stgS rec g0 f R tr ob 0 s = sgeS (stepS rec g0 f R tr ob 0) s.2.length (stN g0 ob 0) 0 s := by simp [stgS, hgd]
      rw [es]
      obtain ⟨hv, g1, i1, i2, i3⟩ := lp67 hW hr hD hl hl' hg ho hb hs.2.1 (stN g0 ob 0) 0 g s iv_un (by omega) hw hs rfl hS
      refine ⟨hv, g1, ?_, i2, i3⟩
      have h277 := hS.1.1
      refine Eq.trans ?_ i1
      rw [en_67]
      simp (disch := omega) only [f67_0, f67_1, f67_2, f67_3, f67_4, f67_5, f67_6, f67_7, f67_8, f67_9, f67_10, f67_11, f67_12, f67_13, f67_14, f67_15, f67_16, f67_17, f67_18, f67_19, f67_20, f67_21, f67_22, f67_23, f67_24, f67_25, f67_26, f67_27, f67_28, f67_29, f67_30, f67_31, f67_32, f67_33, f67_35, f67_36, f67_37, f67_38, f67_39, f67_40, f67_41, f67_42, f67_43, f67_44, f67_45, f67_46, f67_47, f67_48, f67_49, f67_50, f67_51, f67_52, f67_53, f67_54, f67_55, f67_56, f67_57, f67_58, f67_59, f67_60, f67_61, f67_62, f67_63, gf_155_0', gf_2_2', gf_155_3', gf_53_1', gf_5_1', gf_47_1', gf_51_1', gf_104_1', gf_152_1', gf_155_4', gf_77_0', gf_5_0', gf_47_0', gf_51_0', gf_104_0', gf_152_0', la_3, la_17, la_18, la_19, la_45, la_52, la_54, la_153, la_154, la_156, la_157, la_6, la_21, la_48, la_56, la_67, la_79, la_105, al_4', al_20', al_37', al_46', al_55', al_66', al_78', al_103', rc_1, rc_2, rc_35, rc_44, rc_51, rc_53, rc_77, rc_152, rc_155, rc_5, rc_47, rc_104, ni_pred, kv_e, kx_e, kw_e, kn_e, ct_s, ct_v, cr_t, q_ri, q_rz0', q_rz1', q_rb, q_rv, Nat.add_sub_cancel_left, ni_m1lt, ni_m1le, ni_ltm1, ni_lem1, Nat.add_sub_cancel, nI_add, pk_mul, ni_sub, ni_lt, ni_le, ni_eq, ni_m1, ni_m1', nd_lt_t, nd_lt_f, nd_le_t, nd_le_f, nd_eq_t, nd_eq_f, bI_t', bI_f', bI_0', ↓reduceIte, not_true_eq_false, not_false_eq_true, reduceCtorEq, Bool.true_and, Bool.and_true, Bool.false_and, Bool.and_false, Bool.true_or, Bool.or_true, Bool.false_or, Bool.or_false, decide_true, decide_false, gu_ne, gu_eq, q54, h54, q205, h205, e68, h277]
theorem cA {t f R p n : Nat} {g0 : Gs} {dyn : Nat → Option iv_C} {z : Nat × Nat} (hW : Wd t f R p n g0 dyn) : ∀ (k D : Nat) (os : List (Nat × Nat)), 5 * k + 5 ≤ D → 17 ≤ k + os.length → os.length ≤ 16 → gdO os → RA g0 dyn z D p os (chkS g0 f R k os) := by
  intro k
  induction k with
  | zero => exact fun D os _ h1 h2 _ => absurd h1 (by omega)
  | succ k ih =>
    intro D os hD h17 h16 hgo g tr ob gr s hw hto hgt ho hgr hs hS
    obtain ⟨_, hc6, ho10, h54, _⟩ := w_cl hW ho
    refine ⟨(chk_v hW (k + 1) os tr ob gr s hto hgt ho hs).1, ?_⟩
    obtain ⟨E, rfl⟩ : ∃ E, D = E + 5 := ⟨D - 5, by omega⟩
    obtain ⟨h1, h2, h3, h4⟩ := id hS
    have e66 := c66 (dyn := dyn) (s := z) (D := E + 4) (by omega) h3 h16 hgo ho10 hgr
    by_cases hop : (ob, gr) ∈ os
    · simp only [chkS, hop, if_true]
      refine ⟨g, ?_, hS, fC_rf⟩
      simp only [hop, decide_true] at e66
      rw [en_65]
      simp (disch := omega) only [f65_0, f65_1, f65_2, f65_3, f65_4, f65_5, f65_6, f65_7, f65_8, f65_9, f65_10, f65_11, f65_12, f65_13, f65_14, f65_15, f65_16, f65_17, f65_18, f65_19, f65_20, f65_21, f65_22, f65_23, f65_24, f65_25, f65_26, f65_27, f65_28, f65_29, f65_30, f65_31, f65_32, f65_33, f65_34, f65_35, f65_36, f65_37, f65_38, f65_39, f65_40, f65_41, f65_42, f65_43, f65_44, f65_45, f65_46, f65_47, f65_48, f65_49, f65_50, f65_51, f65_52, f65_53, gf_155_8', gf_155_7', pf_155_8', gf_155_5', gf_155_6', pf_155_7', sa_3, sa_17, sa_18, sa_19, sa_19_0, sa_19_1, sa_45, sa_52, sa_54, sa_153, sa_156, sa_157, sa_6, sa_21, sa_48, sa_56, sa_67, sa_79, sa_105, rc_1, rc_2, rc_35, rc_44, rc_51, rc_53, rc_77, rc_152, rc_155, rc_5, rc_47, rc_104, ni_pred, kv_e, kx_e, kw_e, kn_e, ct_s, ct_v, cr_t, q_ri, q_rz0', q_rz1', q_rb, q_rv, Nat.add_sub_cancel_left, ni_m1lt, ni_m1le, ni_ltm1, ni_lem1, Nat.add_sub_cancel, nI_add, pk_mul, ni_sub, ni_lt, ni_le, ni_eq, ni_m1, ni_m1', nd_lt_t, nd_lt_f, nd_le_t, nd_le_f, nd_eq_t, nd_eq_f, bI_t', bI_f', bI_0', ↓reduceIte, not_true_eq_false, not_false_eq_true, reduceCtorEq, Bool.true_and, Bool.and_true, Bool.false_and, Bool.and_false, Bool.true_or, Bool.or_true, Bool.false_or, Bool.or_false, decide_true, decide_false, gu_ne, gu_eq, e66]
    · simp only [hop, decide_false] at e66
      have h355 := h3.1
      have hs60 := hs.1
      by_cases hrm : 60 ≤ s.1 ∨ 16 ≤ os.length
      · simp only [chkS, hop, if_false, hrm, if_true]
        refine ⟨g, ?_, hS, fC_rf⟩
        rw [en_65]
        by_cases h60 : 60 ≤ s.1
        · simp (disch := omega) only [f65_0, f65_1, f65_2, f65_3, f65_4, f65_5, f65_6, f65_7, f65_8, f65_9, f65_10, f65_11, f65_12, f65_13, f65_14, f65_15, f65_16, f65_17, f65_18, f65_19, f65_20, f65_21, f65_22, f65_23, f65_24, f65_25, f65_26, f65_27, f65_28, f65_29, f65_30, f65_31, f65_32, f65_33, f65_34, f65_35, f65_36, f65_37, f65_38, f65_39, f65_40, f65_41, f65_42, f65_43, f65_44, f65_45, f65_46, f65_47, f65_48, f65_49, f65_50, f65_51, f65_52, f65_53, gf_155_8', gf_155_7', pf_155_8', gf_155_5', gf_155_6', pf_155_7', sa_3, sa_17, sa_18, sa_19, sa_19_0, sa_19_1, sa_45, sa_52, sa_54, sa_153, sa_156, sa_157, sa_6, sa_21, sa_48, sa_56, sa_67, sa_79, sa_105, rc_1, rc_2, rc_35, rc_44, rc_51, rc_53, rc_77, rc_152, rc_155, rc_5, rc_47, rc_104, ni_pred, kv_e, kx_e, kw_e, kn_e, ct_s, ct_v, cr_t, q_ri, q_rz0', q_rz1', q_rb, q_rv, Nat.add_sub_cancel_left, ni_m1lt, ni_m1le, ni_ltm1, ni_lem1, Nat.add_sub_cancel, nI_add, pk_mul, ni_sub, ni_lt, ni_le, ni_eq, ni_m1, ni_m1', nd_lt_t, nd_lt_f, nd_le_t, nd_le_f, nd_eq_t, nd_eq_f, bI_t', bI_f', bI_0', ↓reduceIte, not_true_eq_false, not_false_eq_true, reduceCtorEq, Bool.true_and, Bool.and_true, Bool.false_and, Bool.and_false, Bool.true_or, Bool.or_true, Bool.false_or, Bool.or_false, decide_true, decide_false, gu_ne, gu_eq, e66, h4]
        · have h16' : 16 ≤ os.length := by omega
          simp (disch := omega) only [f65_0, f65_1, f65_2, f65_3, f65_4, f65_5, f65_6, f65_7, f65_8, f65_9, f65_10, f65_11, f65_12, f65_13, f65_14, f65_15, f65_16, f65_17, f65_18, f65_19, f65_20, f65_21, f65_22, f65_23, f65_24, f65_25, f65_26, f65_27, f65_28, f65_29, f65_30, f65_31, f65_32, f65_33, f65_34, f65_35, f65_36, f65_37, f65_38, f65_39, f65_40, f65_41, f65_42, f65_43, f65_44, f65_45, f65_46, f65_47, f65_48, f65_49, f65_50, f65_51, f65_52, f65_53, gf_155_8', gf_155_7', pf_155_8', gf_155_5', gf_155_6', pf_155_7', sa_3, sa_17, sa_18, sa_19, sa_19_0, sa_19_1, sa_45, sa_52, sa_54, sa_153, sa_156, sa_157, sa_6, sa_21, sa_48, sa_56, sa_67, sa_79, sa_105, rc_1, rc_2, rc_35, rc_44, rc_51, rc_53, rc_77, rc_152, rc_155, rc_5, rc_47, rc_104, ni_pred, kv_e, kx_e, kw_e, kn_e, ct_s, ct_v, cr_t, q_ri, q_rz0', q_rz1', q_rb, q_rv, Nat.add_sub_cancel_left, ni_m1lt, ni_m1le, ni_ltm1, ni_lem1, Nat.add_sub_cancel, nI_add, pk_mul, ni_sub, ni_lt, ni_le, ni_eq, ni_m1, ni_m1', nd_lt_t, nd_lt_f, nd_le_t, nd_le_f, nd_eq_t, nd_eq_f, bI_t', bI_f', bI_0', ↓reduceIte, not_true_eq_false, not_false_eq_true, reduceCtorEq, Bool.true_and, Bool.and_true, Bool.false_and, Bool.and_false, Bool.true_or, Bool.or_true, Bool.false_or, Bool.or_false, decide_true, decide_false, gu_ne, gu_eq, e66, h4, h355]
      · have h60 : s.1 < 60 := by omega
        have h16' : os.length < 16 := by omega
        obtain ⟨m, hm⟩ : ∃ m, m = os.length := ⟨_, rfl⟩
        rw [← hm] at h355
        have es : chkS g0 f R (k + 1) os tr ob gr s = stgS (chkS g0 f R k (os ++ [(ob, gr)])) g0 f R tr ob gr (s.1 + 1, s.2) := by
          simp only [chkS, hop, if_false, hrm, stgS]
        rw [es]
        have hr := ih E (os ++ [(ob, gr)]) (by omega) (by rw [List.length_append]; simp only [List.length_singleton]; omega) (by rw [List.length_append]; simp only [List.length_singleton]; omega) (gdO_ap hgo ho10 hgr)
        have hS1 : SA (gu (gu (gu (gu g 356 0 0 (nI (s.1 + 1))) 156 0 m (nI ob)) 157 0 m (nI gr)) 355 0 0 (nI (m + 1))) tr (os ++ [(ob, gr)]) (s.1 + 1, s.2) := by
          have hne : ∀ b, mC b = false ∨ (b ≠ 356 ∧ b ≠ 156 ∧ b ≠ 157 ∧ b ≠ 355) → gu (gu (gu (gu g 356 0 0 (nI (s.1 + 1))) 156 0 m (nI ob)) 157 0 m (nI gr)) 355 0 0 (nI (m + 1)) b = g b := by
            intro b hb
            have hb' : b ≠ 356 ∧ b ≠ 156 ∧ b ≠ 157 ∧ b ≠ 355 := by
              rcases hb with hb | hb
              · simp only [mC, decide_eq_false_iff_not] at hb
                omega
              · exact hb
            rw [gu_ne hb'.2.2.2, gu_ne hb'.2.2.1, gu_ne hb'.2.1, gu_ne hb'.1]
          refine ⟨rA_fr h1 (hne _ (.inr (by decide))) (hne _ (.inr (by decide))) (hne _ (.inr (by decide))) (hne _ (.inr (by decide))), trA_fr h2 (hne _ (.inr (by decide))) (hne _ (.inr (by decide))), ⟨by rw [gu_eq, List.length_append, hm]; rfl, fun i q hq => ?_⟩, by rw [gu_ne (by decide), gu_ne (by decide), gu_ne (by decide), gu_eq]⟩
          rcases ap_cs hq with ⟨rfl, rfl⟩ | ⟨h5, h6⟩
          · simp [gu, hm]
          · obtain ⟨h7, h8⟩ := h3.2 i q h6
            simp [gu, show ¬ i = m by omega, h7, h8]
        have hw1 : wd g0 (gu (gu (gu (gu g 356 0 0 (nI (s.1 + 1))) 156 0 m (nI ob)) 157 0 m (nI gr)) 355 0 0 (nI (m + 1))) := wd_gu (wd_gu (wd_gu (wd_gu hw rfl) rfl) rfl) rfl
        obtain ⟨hv, g2, i1, ⟨k1, k2, k3, k4⟩, i3⟩ := c67 (gr := gr) (s := (s.1 + 1, s.2)) hW hr (show 2 ≤ E by omega) (by rw [List.length_append]; simp only [List.length_singleton]; omega) (by rw [List.length_append]; simp only [List.length_singleton]; omega) hgt ho hgr hw1 ⟨by show s.1 + 1 ≤ 60; omega, hs.2⟩ hS1
        have hk3 : g2 355 0 0 = nI (m + 1) := by
          rw [k3.1, List.length_append, ← hm]
          rfl
        refine ⟨gu g2 355 0 0 (nI m), ?_, ⟨rA_fr k1 (gu_ne (by decide)) (gu_ne (by decide)) (gu_ne (by decide)) (gu_ne (by decide)), trA_fr k2 (gu_ne (by decide)) (gu_ne (by decide)), ⟨by rw [gu_eq, hm], fun i q hq => ?_⟩, by rw [gu_ne (by decide)]; exact k4⟩, fC_gu (fC_tr (fC_gu (fC_gu (fC_gu (fC_gu fC_rf rfl) rfl) rfl) rfl) i3) rfl⟩
        · rw [en_65]
          simp (disch := omega) only [f65_0, f65_1, f65_2, f65_3, f65_4, f65_5, f65_6, f65_7, f65_8, f65_9, f65_10, f65_11, f65_12, f65_13, f65_14, f65_15, f65_16, f65_17, f65_18, f65_19, f65_20, f65_21, f65_22, f65_23, f65_24, f65_25, f65_26, f65_27, f65_28, f65_29, f65_30, f65_31, f65_32, f65_33, f65_34, f65_35, f65_36, f65_37, f65_38, f65_39, f65_40, f65_41, f65_42, f65_43, f65_44, f65_45, f65_46, f65_47, f65_48, f65_49, f65_50, f65_51, f65_52, f65_53, gf_155_8', gf_155_7', pf_155_8', gf_155_5', gf_155_6', pf_155_7', sa_3, sa_17, sa_18, sa_19, sa_19_0, sa_19_1, sa_45, sa_52, sa_54, sa_153, sa_156, sa_157, sa_6, sa_21, sa_48, sa_56, sa_67, sa_79, sa_105, rc_1, rc_2, rc_35, rc_44, rc_51, rc_53, rc_77, rc_152, rc_155, rc_5, rc_47, rc_104, ni_pred, kv_e, kx_e, kw_e, kn_e, ct_s, ct_v, cr_t, q_ri, q_rz0', q_rz1', q_rb, q_rv, Nat.add_sub_cancel_left, ni_m1lt, ni_m1le, ni_ltm1, ni_lem1, Nat.add_sub_cancel, nI_add, pk_mul, ni_sub, ni_lt, ni_le, ni_eq, ni_m1, ni_m1', nd_lt_t, nd_lt_f, nd_le_t, nd_le_f, nd_eq_t, nd_eq_f, bI_t', bI_f', bI_0', ↓reduceIte, not_true_eq_false, not_false_eq_true, reduceCtorEq, Bool.true_and, Bool.and_true, Bool.false_and, Bool.and_false, Bool.true_or, Bool.or_true, Bool.false_or, Bool.or_false, decide_true, decide_false, gu_ne, gu_eq, e66, h4, h355, i1, hk3]
        · rw [gu_ne (by decide), gu_ne (by decide)]
          exact k3.2 i q (by rw [List.getElem?_append_left (gi_lt hq)]; exact hq)
