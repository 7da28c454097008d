/-! the flat row of a sequence, on both sides -/
def sqN (g : Gs) (q : Nat) : Nat := (g 247 q 0).toNatClampNeg
def sqM (g : Gs) (q j : Nat) : Nat := (g 48 q j).toNatClampNeg
def lpS (rec : Nat → List Nat → Bool × List Nat) (M : Nat → Nat) : Nat → Nat → List Nat → Bool × List Nat
  | 0, _, L => (true, L)
  | k + 1, j, L => if (rec (M j) L).1 then lpS rec M k (j + 1) (rec (M j) L).2 else (false, (rec (M j) L).2)
def flS (g : Gs) : Nat → Nat → List Nat → Bool × List Nat
  | 0, v, L => if v < 6 then (true, L ++ [v]) else (false, L)
  | m + 1, v, L => if v < 6 then (true, L ++ [v]) else lpS (flS g m) (sqM g (v - 6)) (sqN g (v - 6)) 0 L
theorem zl_0 {g : Gs} {v : Nat} {L : List Nat} : flS g 0 v L = if v < 6 then (true, L ++ [v]) else (false, L) := rfl
theorem zl_1 {g : Gs} {v : Nat} {L : List Nat} : flS g 1 v L = if v < 6 then (true, L ++ [v]) else lpS (flS g 0) (sqM g (v - 6)) (sqN g (v - 6)) 0 L := rfl
theorem zl_2 {g : Gs} {v : Nat} {L : List Nat} : flS g 2 v L = if v < 6 then (true, L ++ [v]) else lpS (flS g 1) (sqM g (v - 6)) (sqN g (v - 6)) 0 L := rfl
theorem zl_s {g : Gs} {m v : Nat} {L : List Nat} : flS g (m + 1) v L = if v < 6 then (true, L ++ [v]) else lpS (flS g m) (sqM g (v - 6)) (sqN g (v - 6)) 0 L := rfl
def flA (g : Gs) (L : List Nat) : Prop := g 251 0 0 = nI L.length ∧ ∀ (i v : Nat), L[i]? = some v → g 52 0 i = nI v
def flB' (g : Gs) (L : List Nat) : Prop := ∀ (i v : Nat), L[i]? = some v → g 193 0 i = nI v
def gd6 (L : List Nat) : Prop := ∀ (i v : Nat), L[i]? = some v → v < 6
def fE (g g' : Gs) : Prop := ∀ b, b ≠ 52 → b ≠ 251 → g' b = g b
def fR (g g' : Gs) : Prop := ∀ b, b ≠ 193 → g' b = g b
theorem fE_rf {g : Gs} : fE g g := fun _ _ _ => rfl
theorem fE_tr {g g' g'' : Gs} (h : fE g g') (h' : fE g' g'') : fE g g'' := fun b h1 h2 => (h' b h1 h2).trans (h b h1 h2)
theorem fR_tr {g g' g'' : Gs} (h : fR g g') (h' : fR g' g'') : fR g g'' := fun b h1 => (h' b h1).trans (h b h1)
theorem fE_wd {g g' : Gs} (h : fE g g') : wd g g' := fun b hb => by
  simp only [mv, decide_eq_false_iff_not] at hb
  exact h b (by omega) (by omega)
theorem fR_wd {g g' : Gs} (h : fR g g') : wd g g' := fun b hb => by
  simp only [mv, decide_eq_false_iff_not] at hb
  exact h b (by omega)
theorem w_sq {t f R p n : Nat} {g : Gs} {dyn : Nat → Option iv_C} {q : Nat} (hW : Wd t f R p n g dyn) (hq : q < 2) : sqN g q ≤ 4 ∧ g 247 q 0 = nI (sqN g q) ∧ g 176 0 q = nI (sqN g q) ∧ ∀ j, j < sqN g q → sqM g q j < 8 ∧ g 48 q j = nI (sqM g q j) ∧ g 177 0 (4 * q + j) = nI (sqM g q j) := by
  obtain ⟨m, h1, h2, h3, h4⟩ := hW.2.2.2.1 q hq
  have e : sqN g q = m := by
    unfold sqN
    rw [h2, nI_clamp (by omega)]
  rw [e]
  refine ⟨h1, h2, h3, fun j hj => ?_⟩
  obtain ⟨z, hz, h5, h6⟩ := h4 j hj
  have e2 : sqM g q j = z := by
    unfold sqM
    rw [h5, nI_clamp (by omega)]
  rw [e2]
  exact ⟨hz, h5, h6⟩
theorem gd6_ap {L : List Nat} {v : Nat} (h : gd6 L) (hv : v < 6) : gd6 (L ++ [v]) := by
  intro i w hw
  rcases ap_cs hw with ⟨_, rfl⟩ | ⟨_, h1⟩
  · exact hv
  · exact h i w h1
theorem lp_gd {rec : Nat → List Nat → Bool × List Nat} {M : Nat → Nat} (h : ∀ v L, gd6 L → gd6 (rec v L).2) : ∀ (k j : Nat) (L : List Nat), gd6 L → gd6 (lpS rec M k j L).2 := by
  intro k
  induction k with
  | zero => exact fun j L hL => hL
  | succ k ih =>
    intro j L hL
    simp only [lpS]
    split
    · exact ih _ _ (h _ _ hL)
    · exact h _ _ hL
theorem fl_gd {g : Gs} : ∀ (m v : Nat) (L : List Nat), gd6 L → gd6 (flS g m v L).2 := by
  intro m
  induction m with
  | zero =>
    intro v L hL
    simp only [flS]
    split
    · rename_i h
      exact gd6_ap hL h
    · exact hL
  | succ m ih =>
    intro v L hL
    simp only [flS]
    split
    · rename_i h
      exact gd6_ap hL h
    · exact lp_gd (fun v L h => ih v L h) _ _ _ hL
theorem flA_ap {g : Gs} {L : List Nat} {v : Nat} (h : flA g L) : flA (gu (gu g 52 0 L.length (nI v)) 251 0 0 (nI (L.length + 1))) (L ++ [v]) := by
  refine ⟨by rw [gu_eq, List.length_append]; rfl, fun i w hw => ?_⟩
  rw [gu_ne (by decide)]
  rcases ap_cs hw with ⟨rfl, rfl⟩ | ⟨h1, h2⟩
  · rw [gu_eq]
  · rw [gu_nj (by omega)]
    exact h.2 i w h2
theorem c86_g {g : Gs} {dyn : Nat → Option iv_C} {s : Nat × Nat} {D v : Nat} {x : Int32} {L : List Nat} (hD : 2 ≤ D) (hv : v < 6) (hL : L.length < 16) (h : flA g L) : ∃ g', iv_X D 86 [.ref 44, .int (nI v), .int x] (gh g dyn, s) = some (some (.int (nI 1)), (gh g' dyn, s)) ∧ flA g' (L ++ [v]) ∧ fE g g' := by
  obtain ⟨d, rfl, hd⟩ := iv_dn hD
  have e1 := c95f_y (g := g) (dyn := dyn) (s := s) (D := d) (x := nI v) hd h.1 hL
  refine ⟨_, ?_, flA_ap h, fun b h1 h2 => by rw [gu_ne h2, gu_ne h1]⟩
  rw [en_86]
  simp (disch := omega) only [f86_0, f86_1, f86_2, f86_3, f86_4, f86_5, f86_6, f86_7, f86_8, f86_9, f86_10, f86_11, f86_12, f86_13, f86_14, f86_15, f86_16, f86_17, f86_18, f86_19, f86_20, f86_21, f86_23, f86_24, f86_25, f86_26, f86_27, f86_28, f86_29, f86_30, f86_31, f86_32, f86_33, f86_34, f86_35, f86_36, f86_37, f86_38, f86_39, f86_40, f86_41, gf_44_2', gf_44_1', gf_5_1', gf_47_1', gf_51_1', gf_104_1', gf_152_1', gf_5_0', gf_47_0', gf_51_0', gf_104_0', gf_152_0', la_3, la_17, la_18, la_19, la_45, la_52, la_54, la_153, la_154, la_156, la_157, la_6, la_21, la_48, la_56, la_67, la_79, la_105, al_4', al_20', al_37', al_46', al_55', al_66', al_78', al_103', rc_1, rc_2, rc_35, rc_44, rc_51, rc_53, rc_77, rc_152, rc_155, rc_5, rc_47, rc_104, rc_38, ni_pred, kv_e, kx_e, kw_e, kn_e, ct_s, ct_v, cr_t, q_ri, q_rz0', q_rz1', q_rb, q_rv, Nat.add_sub_cancel_left, ni_m1lt, ni_m1le, ni_ltm1, ni_lem1, Nat.add_sub_cancel, nI_add, pk_mul, ni_sub, ni_lt, ni_le, ni_eq, ni_m1, ni_m1', nd_lt_t, nd_lt_f, nd_le_t, nd_le_f, nd_eq_t, nd_eq_f, bI_t', bI_f', bI_0', ↓reduceIte, not_true_eq_false, not_false_eq_true, reduceCtorEq, Bool.true_and, Bool.and_true, Bool.false_and, Bool.and_false, Bool.true_or, Bool.or_true, Bool.false_or, Bool.or_false, decide_true, decide_false, gu_ne, gu_eq, e1]
theorem lp86 {t f R p n : Nat} {g0 : Gs} {dyn : Nat → Option iv_C} {s : Nat × Nat} {D m v q C : Nat} (hW : Wd t f R p n g0 dyn) (hm : m ≤ 1) (hq : q < 2) (hrec : ∀ (w : Nat) (g : Gs) (L : List Nat), w < 8 → wd g0 g → flA g L → L.length + C ≤ 16 → ∃ g', iv_X D 86 [.ref 44, .int (nI w), .int (nI (2 - m))] (gh g dyn, s) = some (some (.int (bI (flS g0 m w L).1)), (gh g' dyn, s)) ∧ flA g' (flS g0 m w L).2 ∧ fE g g' ∧ (flS g0 m w L).2.length ≤ L.length + C) : ∀ (k j : Nat) (g : Gs) (L : List Nat), j + k = sqN g0 q → wd g0 g → flA g L → L.length + k * C ≤ 16 → ∃ g', iv_V (iv_X D) mc_86 (some .boolean) 22 [.ref 44, .int (nI v), .int (nI (2 - (m + 1))), .ref (47 + 2 * q), .int (nI j)] [] (gh g dyn, s) = some (some (.int (bI (lpS (flS g0 m) (sqM g0 q) k j L).1)), (gh g' dyn, s)) ∧ flA g' (lpS (flS g0 m) (sqM g0 q) k j L).2 ∧ fE g g' ∧ (lpS (flS g0 m) (sqM g0 q) k j L).2.length ≤ L.length + k * C := by
  obtain ⟨w1, w2, _, w3⟩ := w_sq hW hq
  intro k
  induction k with
  | zero =>
    intro j g L hj hw hL hC
    have q247 := hw 247 rfl
    refine ⟨g, ?_, hL, fE_rf, by simp only [lpS]; omega⟩
    simp (disch := omega) only [f86_0, f86_1, f86_2, f86_3, f86_4, f86_5, f86_6, f86_7, f86_8, f86_9, f86_10, f86_11, f86_12, f86_13, f86_14, f86_15, f86_16, f86_17, f86_18, f86_19, f86_20, f86_21, f86_22, f86_23, f86_24, f86_25, f86_26, f86_27, f86_28, f86_29, f86_30, f86_31, f86_32, f86_33, f86_34, f86_35, f86_36, f86_37, f86_38, f86_39, f86_40, f86_41, gf_44_2', gf_44_1', gf_5_1', gf_47_1', gf_51_1', gf_104_1', gf_152_1', gf_5_0', gf_47_0', gf_51_0', gf_104_0', gf_152_0', la_3, la_17, la_18, la_19, la_45, la_52, la_54, la_153, la_154, la_156, la_157, la_6, la_21, la_48, la_56, la_67, la_79, la_105, al_4', al_20', al_37', al_46', al_55', al_66', al_78', al_103', rc_1, rc_2, rc_35, rc_44, rc_51, rc_53, rc_77, rc_152, rc_155, rc_5, rc_47, rc_104, rc_38, ni_pred, kv_e, kx_e, kw_e, kn_e, ct_s, ct_v, cr_t, q_ri, q_rz0', q_rz1', q_rb, q_rv, Nat.add_sub_cancel_left, ni_m1lt, ni_m1le, ni_ltm1, ni_lem1, Nat.add_sub_cancel, nI_add, pk_mul, ni_sub, ni_lt, ni_le, ni_eq, ni_m1, ni_m1', nd_lt_t, nd_lt_f, nd_le_t, nd_le_f, nd_eq_t, nd_eq_f, bI_t', bI_f', bI_0', ↓reduceIte, not_true_eq_false, not_false_eq_true, reduceCtorEq, Bool.true_and, Bool.and_true, Bool.false_and, Bool.and_false, Bool.true_or, Bool.or_true, Bool.false_or, Bool.or_false, decide_true, decide_false, gu_ne, gu_eq, q247, w2, lpS]
  | succ k ih =>
    intro j g L hj hw hL hC
    have q247 := hw 247 rfl
    have q48 := hw 48 rfl
    rw [Nat.succ_mul] at hC
    obtain ⟨v1, v2, _⟩ := w3 j (by omega)
    obtain ⟨g1, i1, i2, i3, i4⟩ := hrec (sqM g0 q j) g L v1 hw hL (by omega)
    have hdep : 2 - (m + 1) + 1 = 2 - m := by omega
    cases hb : (flS g0 m (sqM g0 q j) L).1 with
    | true =>
      obtain ⟨g', j1, j2, j3, j4⟩ := ih (j + 1) g1 _ (by omega) (wd_tr hw (fE_wd i3)) i2 (by omega)
      simp only [lpS, hb, if_true]
      refine ⟨g', ?_, j2, fE_tr i3 j3, by rw [Nat.succ_mul]; omega⟩
      rw [hb] at i1
      refine Eq.trans ?_ j1
      rw [f86_22]
      simp (disch := omega) only [f86_0, f86_1, f86_2, f86_3, f86_4, f86_5, f86_6, f86_7, f86_8, f86_9, f86_10, f86_11, f86_12, f86_13, f86_14, f86_15, f86_16, f86_17, f86_18, f86_19, f86_20, f86_21, f86_23, f86_24, f86_25, f86_26, f86_27, f86_28, f86_29, f86_30, f86_31, f86_32, f86_33, f86_34, f86_35, f86_36, f86_37, f86_38, f86_39, f86_40, f86_41, gf_44_2', gf_44_1', gf_5_1', gf_47_1', gf_51_1', gf_104_1', gf_152_1', gf_5_0', gf_47_0', gf_51_0', gf_104_0', gf_152_0', la_3, la_17, la_18, la_19, la_45, la_52, la_54, la_153, la_154, la_156, la_157, la_6, la_21, la_48, la_56, la_67, la_79, la_105, al_4', al_20', al_37', al_46', al_55', al_66', al_78', al_103', rc_1, rc_2, rc_35, rc_44, rc_51, rc_53, rc_77, rc_152, rc_155, rc_5, rc_47, rc_104, rc_38, ni_pred, kv_e, kx_e, kw_e, kn_e, ct_s, ct_v, cr_t, q_ri, q_rz0', q_rz1', q_rb, q_rv, Nat.add_sub_cancel_left, ni_m1lt, ni_m1le, ni_ltm1, ni_lem1, Nat.add_sub_cancel, nI_add, pk_mul, ni_sub, ni_lt, ni_le, ni_eq, ni_m1, ni_m1', nd_lt_t, nd_lt_f, nd_le_t, nd_le_f, nd_eq_t, nd_eq_f, bI_t', bI_f', bI_0', ↓reduceIte, not_true_eq_false, not_false_eq_true, reduceCtorEq, Bool.true_and, Bool.and_true, Bool.false_and, Bool.and_false, Bool.true_or, Bool.or_true, Bool.false_or, Bool.or_false, decide_true, decide_false, gu_ne, gu_eq, q247, w2, q48, v2, hdep, i1]
    | false =>
      simp only [lpS, hb, Bool.false_eq_true, if_false]
      refine ⟨g1, ?_, i2, i3, by rw [Nat.succ_mul]; omega⟩
      rw [hb] at i1
      rw [f86_22]
      simp (disch := omega) only [f86_0, f86_1, f86_2, f86_3, f86_4, f86_5, f86_6, f86_7, f86_8, f86_9, f86_10, f86_11, f86_12, f86_13, f86_14, f86_15, f86_16, f86_17, f86_18, f86_19, f86_20, f86_21, f86_23, f86_24, f86_25, f86_26, f86_27, f86_28, f86_29, f86_30, f86_31, f86_32, f86_33, f86_34, f86_35, f86_36, f86_37, f86_38, f86_39, f86_40, f86_41, gf_44_2', gf_44_1', gf_5_1', gf_47_1', gf_51_1', gf_104_1', gf_152_1', gf_5_0', gf_47_0', gf_51_0', gf_104_0', gf_152_0', la_3, la_17, la_18, la_19, la_45, la_52, la_54, la_153, la_154, la_156, la_157, la_6, la_21, la_48, la_56, la_67, la_79, la_105, al_4', al_20', al_37', al_46', al_55', al_66', al_78', al_103', rc_1, rc_2, rc_35, rc_44, rc_51, rc_53, rc_77, rc_152, rc_155, rc_5, rc_47, rc_104, rc_38, ni_pred, kv_e, kx_e, kw_e, kn_e, ct_s, ct_v, cr_t, q_ri, q_rz0', q_rz1', q_rb, q_rv, Nat.add_sub_cancel_left, ni_m1lt, ni_m1le, ni_ltm1, ni_lem1, Nat.add_sub_cancel, nI_add, pk_mul, ni_sub, ni_lt, ni_le, ni_eq, ni_m1, ni_m1', nd_lt_t, nd_lt_f, nd_le_t, nd_le_f, nd_eq_t, nd_eq_f, bI_t', bI_f', bI_0', ↓reduceIte, not_true_eq_false, not_false_eq_true, reduceCtorEq, Bool.true_and, Bool.and_true, Bool.false_and, Bool.and_false, Bool.true_or, Bool.or_true, Bool.false_or, Bool.or_false, decide_true, decide_false, gu_ne, gu_eq, q247, w2, q48, v2, hdep, i1]
theorem c86_s {t f R p n : Nat} {g0 g : Gs} {dyn : Nat → Option iv_C} {s : Nat × Nat} {D m w C : Nat} {L : List Nat} (hW : Wd t f R p n g0 dyn) (hD : 2 ≤ D) (hm : m ≤ 1) (hw8 : w < 8) (hw : wd g0 g) (hL : flA g L) (hC : L.length + 4 * C ≤ 16) (hC1 : 1 ≤ C) (hrec : ∀ (w : Nat) (g : Gs) (L : List Nat), w < 8 → wd g0 g → flA g L → L.length + C ≤ 16 → ∃ g', iv_X D 86 [.ref 44, .int (nI w), .int (nI (2 - m))] (gh g dyn, s) = some (some (.int (bI (flS g0 m w L).1)), (gh g' dyn, s)) ∧ flA g' (flS g0 m w L).2 ∧ fE g g' ∧ (flS g0 m w L).2.length ≤ L.length + C) : ∃ g', iv_X (D + 1) 86 [.ref 44, .int (nI w), .int (nI (2 - (m + 1)))] (gh g dyn, s) = some (some (.int (bI (flS g0 (m + 1) w L).1)), (gh g' dyn, s)) ∧ flA g' (flS g0 (m + 1) w L).2 ∧ fE g g' ∧ (flS g0 (m + 1) w L).2.length ≤ L.length + 4 * C := by
  by_cases h6 : w < 6
  · simp only [zl_s, h6, if_true]
    obtain ⟨g', i1, i2, i3⟩ := c86_g (dyn := dyn) (s := s) (x := nI (2 - (m + 1))) (show 2 ≤ D + 1 by omega) h6 (show L.length < 16 by omega) hL
    exact ⟨g', i1, i2, i3, by rw [List.length_append]; simp only [List.length_singleton]; omega⟩
  · simp only [zl_s, h6, if_false]
    obtain ⟨n1, _⟩ := w_sq hW (show w - 6 < 2 by omega)
    have hmul : sqN g0 (w - 6) * C ≤ 4 * C := Nat.mul_le_mul_right C n1
    obtain ⟨g', i1, i2, i3, i4⟩ := lp86 (v := w) hW hm (show w - 6 < 2 by omega) hrec (sqN g0 (w - 6)) 0 g L (by omega) hw hL (by omega)
    refine ⟨g', ?_, i2, i3, by omega⟩
    refine Eq.trans ?_ i1
    rw [en_86]
    simp (disch := omega) only [f86_0, f86_1, f86_2, f86_3, f86_4, f86_5, f86_6, f86_7, f86_8, f86_9, f86_10, f86_11, f86_12, f86_13, f86_14, f86_15, f86_16, f86_17, f86_18, f86_19, f86_20, f86_21, f86_23, f86_24, f86_25, f86_26, f86_27, f86_28, f86_29, f86_30, f86_31, f86_32, f86_33, f86_34, f86_35, f86_36, f86_37, f86_38, f86_39, f86_40, f86_41, gf_44_2', gf_44_1', gf_5_1', gf_47_1', gf_51_1', gf_104_1', gf_152_1', gf_5_0', gf_47_0', gf_51_0', gf_104_0', gf_152_0', la_3, la_17, la_18, la_19, la_45, la_52, la_54, la_153, la_154, la_156, la_157, la_6, la_21, la_48, la_56, la_67, la_79, la_105, al_4', al_20', al_37', al_46', al_55', al_66', al_78', al_103', rc_1, rc_2, rc_35, rc_44, rc_51, rc_53, rc_77, rc_152, rc_155, rc_5, rc_47, rc_104, rc_38, ni_pred, kv_e, kx_e, kw_e, kn_e, ct_s, ct_v, cr_t, q_ri, q_rz0', q_rz1', q_rb, q_rv, Nat.add_sub_cancel_left, ni_m1lt, ni_m1le, ni_ltm1, ni_lem1, Nat.add_sub_cancel, nI_add, pk_mul, ni_sub, ni_lt, ni_le, ni_eq, ni_m1, ni_m1', nd_lt_t, nd_lt_f, nd_le_t, nd_le_f, nd_eq_t, nd_eq_f, bI_t', bI_f', bI_0', ↓reduceIte, not_true_eq_false, not_false_eq_true, reduceCtorEq, Bool.true_and, Bool.and_true, Bool.false_and, Bool.and_false, Bool.true_or, Bool.or_true, Bool.false_or, Bool.or_false, decide_true, decide_false, gu_ne, gu_eq]
theorem c86 {t f R p n : Nat} {g0 g : Gs} {dyn : Nat → Option iv_C} {s : Nat × Nat} {D w : Nat} (hD : 4 ≤ D) (hW : Wd t f R p n g0 dyn) (hw8 : w < 8) (hw : wd g0 g) (h251 : g 251 0 0 = nI 0) : ∃ g', iv_X D 86 [.ref 44, .int (nI w), .int (nI 0)] (gh g dyn, s) = some (some (.int (bI (flS g0 2 w []).1)), (gh g' dyn, s)) ∧ flA g' (flS g0 2 w []).2 ∧ fE g g' ∧ (flS g0 2 w []).2.length ≤ 16 := by
  obtain ⟨E, rfl⟩ : ∃ E, D = E + 4 := ⟨D - 4, by omega⟩
  have r0 : ∀ (w : Nat) (g : Gs) (L : List Nat), w < 8 → wd g0 g → flA g L → L.length + 1 ≤ 16 → ∃ g', iv_X (E + 2) 86 [.ref 44, .int (nI w), .int (nI (2 - 0))] (gh g dyn, s) = some (some (.int (bI (flS g0 0 w L).1)), (gh g' dyn, s)) ∧ flA g' (flS g0 0 w L).2 ∧ fE g g' ∧ (flS g0 0 w L).2.length ≤ L.length + 1 := by
    intro w g L hw8 hw hL hC
    by_cases h6 : w < 6
    · simp only [zl_0, h6, if_true]
      obtain ⟨g', i1, i2, i3⟩ := c86_g (dyn := dyn) (s := s) (x := nI (2 - 0)) (show 2 ≤ E + 2 by omega) h6 (show L.length < 16 by omega) hL
      exact ⟨g', i1, i2, i3, by rw [List.length_append]; simp only [List.length_singleton]; omega⟩
    · simp only [zl_0, h6, if_false]
      refine ⟨g, ?_, hL, fE_rf, by omega⟩
      rw [en_86]
      simp (disch := omega) only [f86_0, f86_1, f86_2, f86_3, f86_4, f86_5, f86_6, f86_7, f86_8, f86_9, f86_10, f86_11, f86_12, f86_13, f86_14, f86_15, f86_16, f86_17, f86_18, f86_19, f86_20, f86_21, f86_23, f86_24, f86_25, f86_26, f86_27, f86_28, f86_29, f86_30, f86_31, f86_32, f86_33, f86_34, f86_35, f86_36, f86_37, f86_38, f86_39, f86_40, f86_41, gf_44_2', gf_44_1', gf_5_1', gf_47_1', gf_51_1', gf_104_1', gf_152_1', gf_5_0', gf_47_0', gf_51_0', gf_104_0', gf_152_0', la_3, la_17, la_18, la_19, la_45, la_52, la_54, la_153, la_154, la_156, la_157, la_6, la_21, la_48, la_56, la_67, la_79, la_105, al_4', al_20', al_37', al_46', al_55', al_66', al_78', al_103', rc_1, rc_2, rc_35, rc_44, rc_51, rc_53, rc_77, rc_152, rc_155, rc_5, rc_47, rc_104, rc_38, ni_pred, kv_e, kx_e, kw_e, kn_e, ct_s, ct_v, cr_t, q_ri, q_rz0', q_rz1', q_rb, q_rv, Nat.add_sub_cancel_left, ni_m1lt, ni_m1le, ni_ltm1, ni_lem1, Nat.add_sub_cancel, nI_add, pk_mul, ni_sub, ni_lt, ni_le, ni_eq, ni_m1, ni_m1', nd_lt_t, nd_lt_f, nd_le_t, nd_le_f, nd_eq_t, nd_eq_f, bI_t', bI_f', bI_0', ↓reduceIte, not_true_eq_false, not_false_eq_true, reduceCtorEq, Bool.true_and, Bool.and_true, Bool.false_and, Bool.and_false, Bool.true_or, Bool.or_true, Bool.false_or, Bool.or_false, decide_true, decide_false, gu_ne, gu_eq]
  have r1 : ∀ (w : Nat) (g : Gs) (L : List Nat), w < 8 → wd g0 g → flA g L → L.length + 4 ≤ 16 → ∃ g', iv_X (E + 3) 86 [.ref 44, .int (nI w), .int (nI (2 - 1))] (gh g dyn, s) = some (some (.int (bI (flS g0 1 w L).1)), (gh g' dyn, s)) ∧ flA g' (flS g0 1 w L).2 ∧ fE g g' ∧ (flS g0 1 w L).2.length ≤ L.length + 4 := fun w g L h1 h2 h3 h4 => c86_s (C := 1) hW (show 2 ≤ E + 2 by omega) (by omega) h1 h2 h3 (by omega) (by omega) r0
  obtain ⟨g', i1, i2, i3, i4⟩ := c86_s (C := 4) (L := []) hW (show 2 ≤ E + 3 by omega) (show 1 ≤ 1 by omega) hw8 hw ⟨h251, fun i v hv => by simp at hv⟩ (by simp) (by omega) r1
  exact ⟨g', i1, i2, i3, by simpa using i4⟩
def cuS (g : Gs) (a b : Nat) : Bool := anF (fun j => decide (sqM g a j = b)) (sqN g a) 0
theorem lp53 {t f R p n : Nat} {g0 g : Gs} {dyn : Nat → Option iv_C} {s : Nat × Nat} {D a b : Nat} (hW : Wd t f R p n g0 dyn) (hw : wd g0 g) (ha : 6 ≤ a) (ha' : a < 8) (hb : b < 8) : ∀ (k j : Nat) (c : Bool), j + k = sqN g0 (a - 6) → iv_V (iv_X D) mc_53 (some .boolean) 4 [.ref 158, .int (nI a), .int (nI b), .int (bI c), .int (nI j)] [] (gh g dyn, s) = some (some (.int (bI (c || anF (fun j => decide (sqM g0 (a - 6) j = b)) k j))), (gh g dyn, s)) := by
  obtain ⟨w1, _, w2, w3⟩ := w_sq hW (show a - 6 < 2 by omega)
  have q176 := hw 176 rfl
  have q177 := hw 177 rfl
  intro k
  induction k with
  | zero =>
    intro j c hj
    cases c <;> simp (disch := omega) only [f53_0, f53_1, f53_2, f53_3, f53_4, f53_5, f53_6, f53_7, f53_8, f53_9, f53_10, f53_11, f53_12, f53_13, f53_14, f53_15, f53_16, f53_17, f53_18, f53_19, f53_20, f53_21, f53_22, f53_23, f53_24, f53_25, f53_26, f53_27, f53_28, f53_29, f53_30, f53_31, f53_32, f53_33, gf_158_20', la_176, gf_158_21', la_177, ni_pred, kv_e, kx_e, kw_e, kn_e, ct_s, ct_v, cr_t, q_ri, q_rz0', q_rz1', q_rb, q_rv, Nat.add_sub_cancel_left, ni_m1lt, ni_m1le, ni_ltm1, ni_lem1, Nat.add_sub_cancel, nI_add, pk_mul, ni_sub, ni_lt, ni_le, ni_eq, ni_m1, ni_m1', nd_lt_t, nd_lt_f, nd_le_t, nd_le_f, nd_eq_t, nd_eq_f, bI_t', bI_f', bI_0', ↓reduceIte, not_true_eq_false, not_false_eq_true, reduceCtorEq, Bool.true_and, Bool.and_true, Bool.false_and, Bool.and_false, Bool.true_or, Bool.or_true, Bool.false_or, Bool.or_false, decide_true, decide_false, gu_ne, gu_eq, q176, w2, anF]
  | succ k ih =>
    intro j c hj
    obtain ⟨v1, _, v2⟩ := w3 j (by omega)
    rw [f53_4]
    by_cases he : sqM g0 (a - 6) j = b
    · have e1 := ih (j + 1) true (by omega)
      simp only [anF, he, decide_true, Bool.true_or, Bool.or_true] at e1 ⊢
      rw [← e1]
      cases c <;> simp (disch := omega) only [f53_0, f53_1, f53_2, f53_3, f53_5, f53_6, f53_7, f53_8, f53_9, f53_10, f53_11, f53_12, f53_13, f53_14, f53_15, f53_16, f53_17, f53_18, f53_19, f53_20, f53_21, f53_22, f53_23, f53_24, f53_25, f53_26, f53_27, f53_28, f53_29, f53_30, f53_31, f53_32, f53_33, gf_158_20', la_176, gf_158_21', la_177, ni_pred, kv_e, kx_e, kw_e, kn_e, ct_s, ct_v, cr_t, q_ri, q_rz0', q_rz1', q_rb, q_rv, Nat.add_sub_cancel_left, ni_m1lt, ni_m1le, ni_ltm1, ni_lem1, Nat.add_sub_cancel, nI_add, pk_mul, ni_sub, ni_lt, ni_le, ni_eq, ni_m1, ni_m1', nd_lt_t, nd_lt_f, nd_le_t, nd_le_f, nd_eq_t, nd_eq_f, bI_t', bI_f', bI_0', ↓reduceIte, not_true_eq_false, not_false_eq_true, reduceCtorEq, Bool.true_and, Bool.and_true, Bool.false_and, Bool.and_false, Bool.true_or, Bool.or_true, Bool.false_or, Bool.or_false, decide_true, decide_false, gu_ne, gu_eq, q176, w2, q177, v2, he]
    · have e1 := ih (j + 1) c (by omega)
      simp only [anF, he, decide_false, Bool.false_or] at e1 ⊢
      rw [← e1]
      cases c <;> simp (disch := omega) only [f53_0, f53_1, f53_2, f53_3, f53_5, f53_6, f53_7, f53_8, f53_9, f53_10, f53_11, f53_12, f53_13, f53_14, f53_15, f53_16, f53_17, f53_18, f53_19, f53_20, f53_21, f53_22, f53_23, f53_24, f53_25, f53_26, f53_27, f53_28, f53_29, f53_30, f53_31, f53_32, f53_33, gf_158_20', la_176, gf_158_21', la_177, ni_pred, kv_e, kx_e, kw_e, kn_e, ct_s, ct_v, cr_t, q_ri, q_rz0', q_rz1', q_rb, q_rv, Nat.add_sub_cancel_left, ni_m1lt, ni_m1le, ni_ltm1, ni_lem1, Nat.add_sub_cancel, nI_add, pk_mul, ni_sub, ni_lt, ni_le, ni_eq, ni_m1, ni_m1', nd_lt_t, nd_lt_f, nd_le_t, nd_le_f, nd_eq_t, nd_eq_f, bI_t', bI_f', bI_0', ↓reduceIte, not_true_eq_false, not_false_eq_true, reduceCtorEq, Bool.true_and, Bool.and_true, Bool.false_and, Bool.and_false, Bool.true_or, Bool.or_true, Bool.false_or, Bool.or_false, decide_true, decide_false, gu_ne, gu_eq, q176, w2, q177, v2, he]
theorem m53 {t f R p n : Nat} {g0 g : Gs} {dyn : Nat → Option iv_C} {s : Nat × Nat} {D a b : Nat} (hD : 1 ≤ D) (hW : Wd t f R p n g0 dyn) (hw : wd g0 g) (ha : 6 ≤ a) (ha' : a < 8) (hb : b < 8) : iv_X D 53 [.ref 158, .int (nI a), .int (nI b)] (gh g dyn, s) = some (some (.int (bI (cuS g0 (a - 6) b))), (gh g dyn, s)) := by
  obtain ⟨d, rfl, hd⟩ := iv_dn hD
  have e1 := lp53 (D := d) (s := s) hW hw ha ha' hb (sqN g0 (a - 6)) 0 false (by omega)
  rw [Bool.false_or] at e1
  unfold cuS
  rw [← e1, en_53]
  simp (disch := omega) only [f53_0, f53_1, f53_2, f53_3, f53_5, f53_6, f53_7, f53_8, f53_9, f53_10, f53_11, f53_12, f53_13, f53_14, f53_15, f53_16, f53_17, f53_18, f53_19, f53_20, f53_21, f53_22, f53_23, f53_24, f53_25, f53_26, f53_27, f53_28, f53_29, f53_30, f53_31, f53_32, f53_33, gf_158_20', la_176, gf_158_21', la_177, ni_pred, kv_e, kx_e, kw_e, kn_e, ct_s, ct_v, cr_t, q_ri, q_rz0', q_rz1', q_rb, q_rv, Nat.add_sub_cancel_left, ni_m1lt, ni_m1le, ni_ltm1, ni_lem1, Nat.add_sub_cancel, nI_add, pk_mul, ni_sub, ni_lt, ni_le, ni_eq, ni_m1, ni_m1', nd_lt_t, nd_lt_f, nd_le_t, nd_le_f, nd_eq_t, nd_eq_f, bI_t', bI_f', bI_0', ↓reduceIte, not_true_eq_false, not_false_eq_true, reduceCtorEq, Bool.true_and, Bool.and_true, Bool.false_and, Bool.and_false, Bool.true_or, Bool.or_true, Bool.false_or, Bool.or_false, decide_true, decide_false, gu_ne, gu_eq]
def cyS (g : Gs) (v : Nat) : Bool := cuS g (v - 6) v || (cuS g (v - 6) (13 - v) && (cuS g (13 - v - 6) (13 - v) || cuS g (13 - v - 6) v))
theorem m54 {t f R p n : Nat} {g0 g : Gs} {dyn : Nat → Option iv_C} {s : Nat × Nat} {D v : Nat} (hD : 2 ≤ D) (hW : Wd t f R p n g0 dyn) (hw : wd g0 g) (hv : 6 ≤ v) (hv' : v < 8) : iv_X D 54 [.ref 158, .int (nI v)] (gh g dyn, s) = some (some (.int (bI (cyS g0 v))), (gh g dyn, s)) := by
  obtain ⟨d, rfl, hd⟩ := iv_dn hD
  have e1 := m53 (s := s) hd hW hw hv hv' hv'
  have e2 := m53 (s := s) (b := 13 - v) hd hW hw hv hv' (by omega)
  have e3 := m53 (s := s) (a := 13 - v) (b := 13 - v) hd hW hw (by omega) (by omega) (by omega)
  have e4 := m53 (s := s) (a := 13 - v) (b := v) hd hW hw (by omega) (by omega) (by omega)
  rw [en_54]
  unfold cyS
  cases h1 : cuS g0 (v - 6) v with
  | true =>
    rw [h1] at e1
    simp (disch := omega) only [f54_0, f54_1, f54_2, f54_3, f54_4, f54_5, f54_6, f54_7, f54_8, f54_9, f54_10, f54_11, f54_12, f54_13, f54_14, f54_15, f54_16, f54_17, f54_18, f54_19, f54_20, f54_21, f54_22, f54_23, f54_24, f54_25, f54_26, f54_27, rc_158, ni_pred, kv_e, kx_e, kw_e, kn_e, ct_s, ct_v, cr_t, q_ri, q_rz0', q_rz1', q_rb, q_rv, Nat.add_sub_cancel_left, ni_m1lt, ni_m1le, ni_ltm1, ni_lem1, Nat.add_sub_cancel, nI_add, pk_mul, ni_sub, ni_lt, ni_le, ni_eq, ni_m1, ni_m1', nd_lt_t, nd_lt_f, nd_le_t, nd_le_f, nd_eq_t, nd_eq_f, bI_t', bI_f', bI_0', ↓reduceIte, not_true_eq_false, not_false_eq_true, reduceCtorEq, Bool.true_and, Bool.and_true, Bool.false_and, Bool.and_false, Bool.true_or, Bool.or_true, Bool.false_or, Bool.or_false, decide_true, decide_false, gu_ne, gu_eq, e1]
  | false =>
    rw [h1] at e1
    cases h2 : cuS g0 (v - 6) (13 - v) with
    | false =>
      rw [h2] at e2
      simp (disch := omega) only [f54_0, f54_1, f54_2, f54_3, f54_4, f54_5, f54_6, f54_7, f54_8, f54_9, f54_10, f54_11, f54_12, f54_13, f54_14, f54_15, f54_16, f54_17, f54_18, f54_19, f54_20, f54_21, f54_22, f54_23, f54_24, f54_25, f54_26, f54_27, rc_158, ni_pred, kv_e, kx_e, kw_e, kn_e, ct_s, ct_v, cr_t, q_ri, q_rz0', q_rz1', q_rb, q_rv, Nat.add_sub_cancel_left, ni_m1lt, ni_m1le, ni_ltm1, ni_lem1, Nat.add_sub_cancel, nI_add, pk_mul, ni_sub, ni_lt, ni_le, ni_eq, ni_m1, ni_m1', nd_lt_t, nd_lt_f, nd_le_t, nd_le_f, nd_eq_t, nd_eq_f, bI_t', bI_f', bI_0', ↓reduceIte, not_true_eq_false, not_false_eq_true, reduceCtorEq, Bool.true_and, Bool.and_true, Bool.false_and, Bool.and_false, Bool.true_or, Bool.or_true, Bool.false_or, Bool.or_false, decide_true, decide_false, gu_ne, gu_eq, e1, e2]
    | true =>
      rw [h2] at e2
      cases h3 : cuS g0 (13 - v - 6) (13 - v) with
      | true =>
        rw [h3] at e3
        simp (disch := omega) only [f54_0, f54_1, f54_2, f54_3, f54_4, f54_5, f54_6, f54_7, f54_8, f54_9, f54_10, f54_11, f54_12, f54_13, f54_14, f54_15, f54_16, f54_17, f54_18, f54_19, f54_20, f54_21, f54_22, f54_23, f54_24, f54_25, f54_26, f54_27, rc_158, ni_pred, kv_e, kx_e, kw_e, kn_e, ct_s, ct_v, cr_t, q_ri, q_rz0', q_rz1', q_rb, q_rv, Nat.add_sub_cancel_left, ni_m1lt, ni_m1le, ni_ltm1, ni_lem1, Nat.add_sub_cancel, nI_add, pk_mul, ni_sub, ni_lt, ni_le, ni_eq, ni_m1, ni_m1', nd_lt_t, nd_lt_f, nd_le_t, nd_le_f, nd_eq_t, nd_eq_f, bI_t', bI_f', bI_0', ↓reduceIte, not_true_eq_false, not_false_eq_true, reduceCtorEq, Bool.true_and, Bool.and_true, Bool.false_and, Bool.and_false, Bool.true_or, Bool.or_true, Bool.false_or, Bool.or_false, decide_true, decide_false, gu_ne, gu_eq, e1, e2, e3]
      | false =>
        rw [h3] at e3
        cases h4 : cuS g0 (13 - v - 6) v with
        | true =>
          rw [h4] at e4
          simp (disch := omega) only [f54_0, f54_1, f54_2, f54_3, f54_4, f54_5, f54_6, f54_7, f54_8, f54_9, f54_10, f54_11, f54_12, f54_13, f54_14, f54_15, f54_16, f54_17, f54_18, f54_19, f54_20, f54_21, f54_22, f54_23, f54_24, f54_25, f54_26, f54_27, rc_158, ni_pred, kv_e, kx_e, kw_e, kn_e, ct_s, ct_v, cr_t, q_ri, q_rz0', q_rz1', q_rb, q_rv, Nat.add_sub_cancel_left, ni_m1lt, ni_m1le, ni_ltm1, ni_lem1, Nat.add_sub_cancel, nI_add, pk_mul, ni_sub, ni_lt, ni_le, ni_eq, ni_m1, ni_m1', nd_lt_t, nd_lt_f, nd_le_t, nd_le_f, nd_eq_t, nd_eq_f, bI_t', bI_f', bI_0', ↓reduceIte, not_true_eq_false, not_false_eq_true, reduceCtorEq, Bool.true_and, Bool.and_true, Bool.false_and, Bool.and_false, Bool.true_or, Bool.or_true, Bool.false_or, Bool.or_false, decide_true, decide_false, gu_ne, gu_eq, e1, e2, e3, e4]
        | false =>
          rw [h4] at e4
          simp (disch := omega) only [f54_0, f54_1, f54_2, f54_3, f54_4, f54_5, f54_6, f54_7, f54_8, f54_9, f54_10, f54_11, f54_12, f54_13, f54_14, f54_15, f54_16, f54_17, f54_18, f54_19, f54_20, f54_21, f54_22, f54_23, f54_24, f54_25, f54_26, f54_27, rc_158, ni_pred, kv_e, kx_e, kw_e, kn_e, ct_s, ct_v, cr_t, q_ri, q_rz0', q_rz1', q_rb, q_rv, Nat.add_sub_cancel_left, ni_m1lt, ni_m1le, ni_ltm1, ni_lem1, Nat.add_sub_cancel, nI_add, pk_mul, ni_sub, ni_lt, ni_le, ni_eq, ni_m1, ni_m1', nd_lt_t, nd_lt_f, nd_le_t, nd_le_f, nd_eq_t, nd_eq_f, bI_t', bI_f', bI_0', ↓reduceIte, not_true_eq_false, not_false_eq_true, reduceCtorEq, Bool.true_and, Bool.and_true, Bool.false_and, Bool.and_false, Bool.true_or, Bool.or_true, Bool.false_or, Bool.or_false, decide_true, decide_false, gu_ne, gu_eq, e1, e2, e3, e4]
theorem anF_iff {P : Nat → Bool} : ∀ (k j : Nat), anF P k j = true ↔ ∃ i, j ≤ i ∧ i < j + k ∧ P i = true := by
  intro k
  induction k with
  | zero => exact fun j => ⟨fun h => by simp [anF] at h, fun ⟨i, h1, h2, _⟩ => absurd h2 (by omega)⟩
  | succ k ih =>
    intro j
    simp only [anF, Bool.or_eq_true, ih]
    constructor
    · rintro (h | ⟨i, h1, h2, h3⟩)
      · exact ⟨j, by omega, by omega, h⟩
      · exact ⟨i, by omega, by omega, h3⟩
    · rintro ⟨i, h1, h2, h3⟩
      by_cases e : i = j
      · subst e
        exact .inl h3
      · exact .inr ⟨i, by omega, by omega, h3⟩
theorem lp_1 {rec : Nat → List Nat → Bool × List Nat} {M : Nat → Nat} {P : Nat → Bool} (h : ∀ v L, (rec v L).1 = P v) : ∀ (k j : Nat) (L : List Nat), (lpS rec M k j L).1 = true ↔ ∀ i, j ≤ i → i < j + k → P (M i) = true := by
  intro k
  induction k with
  | zero => exact fun j L => ⟨fun _ i h1 h2 => absurd h2 (by omega), fun _ => rfl⟩
  | succ k ih =>
    intro j L
    simp only [lpS, h]
    by_cases hp : P (M j) = true
    · simp only [hp, if_true, ih]
      constructor
      · intro h1 i h2 h3
        by_cases e : i = j
        · subst e
          exact hp
        · exact h1 i (by omega) (by omega)
      · exact fun h1 i h2 h3 => h1 i (by omega) (by omega)
    · simp only [hp, if_false]
      constructor
      · exact fun h1 => absurd h1 (by simp)
      · exact fun h1 => absurd (h1 j (by omega) (by omega)) hp
theorem fl_cy {t f R p n : Nat} {g : Gs} {dyn : Nat → Option iv_C} {v : Nat} (hW : Wd t f R p n g dyn) (hv : 6 ≤ v) (hv' : v < 8) : (flS g 2 v []).1 = !cyS g v := by
  have h0 : ∀ w L, (flS g 0 w L).1 = decide (w < 6) := by
    intro w L
    rw [zl_0]
    by_cases h : w < 6 <;> simp [h]
  have h1 : ∀ w, 6 ≤ w → ∀ L, ((flS g 1 w L).1 = true ↔ ∀ i, i < sqN g (w - 6) → sqM g (w - 6) i < 6) := by
    intro w hw L
    rw [zl_1, if_neg (by omega), lp_1 h0]
    constructor
    · exact fun h i hi => of_decide_eq_true (h i (by omega) (by omega))
    · exact fun h i _ hi => decide_eq_true (h i (by omega))
  have h1' : ∀ w L, (flS g 1 w L).1 = (decide (w < 6) || decide (∀ i, i < sqN g (w - 6) → sqM g (w - 6) i < 6)) := by
    intro w L
    by_cases hw : w < 6
    · simp [zl_1, hw]
    · have h2 := h1 w (by omega) L
      simp only [hw, decide_false, Bool.false_or]
      by_cases h3 : ∀ i, i < sqN g (w - 6) → sqM g (w - 6) i < 6
      · rw [h2.mpr h3, decide_eq_true h3]
      · rw [decide_eq_false h3]
        cases h4 : (flS g 1 w L).1
        · rfl
        · exact absurd (h2.mp h4) h3
  have h2 : (flS g 2 v []).1 = true ↔ ∀ i, i < sqN g (v - 6) → sqM g (v - 6) i < 6 ∨ ∀ j, j < sqN g (sqM g (v - 6) i - 6) → sqM g (sqM g (v - 6) i - 6) j < 6 := by
    rw [zl_2, if_neg (by omega), lp_1 h1']
    constructor
    · intro h i hi
      have := h i (by omega) (by omega)
      rcases (Bool.or_eq_true _ _).mp this with h3 | h3
      · exact .inl (of_decide_eq_true h3)
      · exact .inr (of_decide_eq_true h3)
    · intro h i _ hi
      rcases h i (by omega) with h3 | h3
      · exact (Bool.or_eq_true _ _).mpr (.inl (decide_eq_true h3))
      · exact (Bool.or_eq_true _ _).mpr (.inr (decide_eq_true h3))
  have hcu : ∀ a b, cuS g a b = true ↔ ∃ i, i < sqN g a ∧ sqM g a i = b := by
    intro a b
    unfold cuS
    rw [anF_iff]
    constructor
    · rintro ⟨i, _, h3, h4⟩
      exact ⟨i, by omega, of_decide_eq_true h4⟩
    · rintro ⟨i, h3, h4⟩
      exact ⟨i, by omega, by omega, decide_eq_true h4⟩
  have hcy : cyS g v = true ↔ ¬ (flS g 2 v []).1 = true := by
    rw [h2]
    simp only [cyS, Bool.or_eq_true, Bool.and_eq_true, hcu]
    have hM1 := fun i hi => ((w_sq hW (show v - 6 < 2 by omega)).2.2.2 i hi).1
    have hM2 := fun i hi => ((w_sq hW (show 13 - v - 6 < 2 by omega)).2.2.2 i hi).1
    constructor
    · rintro (⟨i, h3, h4⟩ | ⟨⟨i, h3, h4⟩, ⟨j, h5, h6⟩ | ⟨j, h5, h6⟩⟩) hall
      · rcases hall i h3 with h7 | h7
        · omega
        · rw [h4] at h7
          have := h7 i h3
          omega
      · rcases hall i h3 with h7 | h7
        · omega
        · rw [h4] at h7
          have := h7 j h5
          omega
      · rcases hall i h3 with h7 | h7
        · omega
        · rw [h4] at h7
          have := h7 j h5
          omega
    · intro hno
      obtain ⟨i, hi⟩ := Classical.not_forall.mp hno
      obtain ⟨h3, hi⟩ := Classical.not_imp.mp hi
      obtain ⟨h4, h5⟩ := not_or.mp hi
      obtain ⟨j, hj⟩ := Classical.not_forall.mp h5
      obtain ⟨h6, h7⟩ := Classical.not_imp.mp hj
      have hm := hM1 i h3
      by_cases hiv : sqM g (v - 6) i = v
      · exact .inl ⟨i, h3, hiv⟩
      · have hiv' : sqM g (v - 6) i = 13 - v := by omega
        rw [hiv'] at h6 h7
        have hm2 := hM2 j h6
        refine .inr ⟨⟨i, h3, hiv'⟩, ?_⟩
        by_cases hjv : sqM g (13 - v - 6) j = v
        · exact .inr ⟨j, h6, hjv⟩
        · exact .inl ⟨j, h6, by omega⟩
  cases h3 : cyS g v with
  | true =>
    cases h4 : (flS g 2 v []).1
    · rfl
    · exact absurd h4 (hcy.mp h3)
  | false =>
    cases h4 : (flS g 2 v []).1
    · exact absurd (hcy.mpr (by rw [h4]; simp)) (by rw [h3]; simp)
    · rfl
theorem flB_ap {g : Gs} {L : List Nat} {v : Nat} (h : flB' g L) : flB' (gu g 193 0 L.length (nI v)) (L ++ [v]) := by
  intro i w hw
  rcases ap_cs hw with ⟨rfl, rfl⟩ | ⟨h1, h2⟩
  · rw [gu_eq]
  · rw [gu_nj (by omega)]
    exact h i w h2
theorem fR_gu {g g' : Gs} {j : Nat} {v : Int32} (h : fR g g') : fR g (gu g' 193 0 j v) := fun b hb => (gu_ne hb).trans (h b hb)
theorem lp55i {t f R p n : Nat} {g0 : Gs} {dyn : Nat → Option iv_C} {s : Nat × Nat} {D v w j : Nat} (hW : Wd t f R p n g0 dyn) (hw6 : 6 ≤ w) (hw8 : w < 8) : ∀ (k i : Nat) (g : Gs) (L : List Nat), i + k = sqN g0 (w - 6) → wd g0 g → flB' g L → L.length + k ≤ 16 → (lpS (flS g0 0) (sqM g0 (w - 6)) k i L).1 = true → ∃ g', iv_V (iv_X D) mc_55 (some .int) 47 [.ref 158, .int (nI v), .int (nI L.length), .int (nI j), .int (nI w), .int (nI (sqN g0 (w - 6))), .int (nI i)] [] (gh g dyn, s) = iv_V (iv_X D) mc_55 (some .int) 72 [.ref 158, .int (nI v), .int (nI (lpS (flS g0 0) (sqM g0 (w - 6)) k i L).2.length), .int (nI j), .int (nI w), .int (nI (sqN g0 (w - 6))), .int (nI (sqN g0 (w - 6)))] [] (gh g' dyn, s) ∧ flB' g' (lpS (flS g0 0) (sqM g0 (w - 6)) k i L).2 ∧ fR g g' ∧ (lpS (flS g0 0) (sqM g0 (w - 6)) k i L).2.length = L.length + k := by
  obtain ⟨w1, _, w2, w3⟩ := w_sq hW (show w - 6 < 2 by omega)
  intro k
  induction k with
  | zero =>
    intro i g L hi hw hL hC _
    have e : i = sqN g0 (w - 6) := by omega
    subst e
    refine ⟨g, ?_, hL, fun _ _ => rfl, rfl⟩
    simp (disch := omega) only [f55_0, f55_1, f55_2, f55_3, f55_4, f55_5, f55_6, f55_7, f55_8, f55_9, f55_10, f55_11, f55_12, f55_13, f55_14, f55_15, f55_16, f55_17, f55_18, f55_19, f55_20, f55_21, f55_22, f55_23, f55_24, f55_25, f55_26, f55_27, f55_28, f55_29, f55_30, f55_31, f55_32, f55_33, f55_34, f55_35, f55_36, f55_37, f55_38, f55_39, f55_40, f55_41, f55_42, f55_43, f55_44, f55_45, f55_46, f55_47, f55_48, f55_49, f55_50, f55_51, f55_52, f55_53, f55_54, f55_55, f55_56, f55_57, f55_58, f55_59, f55_60, f55_61, f55_62, f55_63, f55_64, f55_65, f55_66, f55_67, f55_68, f55_69, f55_70, f55_71, f55_73, f55_74, f55_75, gf_158_40', la_193, sa_193, gf_158_20', la_176, sa_176, gf_158_21', la_177, sa_177, ni_pred, kv_e, kx_e, kw_e, kn_e, ct_s, ct_v, cr_t, q_ri, q_rz0', q_rz1', q_rb, q_rv, Nat.add_sub_cancel_left, ni_m1lt, ni_m1le, ni_ltm1, ni_lem1, Nat.add_sub_cancel, nI_add, pk_mul, ni_sub, ni_lt, ni_le, ni_eq, ni_m1, ni_m1', nd_lt_t, nd_lt_f, nd_le_t, nd_le_f, nd_eq_t, nd_eq_f, bI_t', bI_f', bI_0', ↓reduceIte, not_true_eq_false, not_false_eq_true, reduceCtorEq, Bool.true_and, Bool.and_true, Bool.false_and, Bool.and_false, Bool.true_or, Bool.or_true, Bool.false_or, Bool.or_false, decide_true, decide_false, gu_ne, gu_eq, lpS]
  | succ k ih =>
    intro i g L hi hw hL hC hok
    obtain ⟨v1, _, v2⟩ := w3 i (by omega)
    have q177 := hw 177 rfl
    have hlt : sqM g0 (w - 6) i < 6 := by
      cases Nat.decLt (sqM g0 (w - 6) i) 6 with
      | isTrue h => exact h
      | isFalse h =>
        simp only [lpS, zl_0, h, if_false, Bool.false_eq_true] at hok
    simp only [lpS, zl_0, hlt, if_true] at hok ⊢
    obtain ⟨g', i1, i2, i3, i4⟩ := ih (i + 1) (gu g 193 0 L.length (nI (sqM g0 (w - 6) i))) (L ++ [sqM g0 (w - 6) i]) (by omega) (wd_gu hw rfl) (flB_ap hL) (by rw [List.length_append]; simp only [List.length_singleton]; omega) hok
    refine ⟨g', ?_, i2, fR_tr (fR_gu (fun _ _ => rfl)) i3, by rw [i4, List.length_append]; simp only [List.length_singleton]; omega⟩
    refine Eq.trans ?_ i1
    rw [f55_47, List.length_append]
    simp only [List.length_singleton]
    simp (disch := omega) only [f55_0, f55_1, f55_2, f55_3, f55_4, f55_5, f55_6, f55_7, f55_8, f55_9, f55_10, f55_11, f55_12, f55_13, f55_14, f55_15, f55_16, f55_17, f55_18, f55_19, f55_20, f55_21, f55_22, f55_23, f55_24, f55_25, f55_26, f55_27, f55_28, f55_29, f55_30, f55_31, f55_32, f55_33, f55_34, f55_35, f55_36, f55_37, f55_38, f55_39, f55_40, f55_41, f55_42, f55_43, f55_44, f55_45, f55_46, f55_48, f55_49, f55_50, f55_51, f55_52, f55_53, f55_54, f55_55, f55_56, f55_57, f55_58, f55_59, f55_60, f55_61, f55_62, f55_63, f55_64, f55_65, f55_66, f55_67, f55_68, f55_69, f55_70, f55_71, f55_73, f55_74, f55_75, gf_158_40', la_193, sa_193, gf_158_20', la_176, sa_176, gf_158_21', la_177, sa_177, ni_pred, kv_e, kx_e, kw_e, kn_e, ct_s, ct_v, cr_t, q_ri, q_rz0', q_rz1', q_rb, q_rv, Nat.add_sub_cancel_left, ni_m1lt, ni_m1le, ni_ltm1, ni_lem1, Nat.add_sub_cancel, nI_add, pk_mul, ni_sub, ni_lt, ni_le, ni_eq, ni_m1, ni_m1', nd_lt_t, nd_lt_f, nd_le_t, nd_le_f, nd_eq_t, nd_eq_f, bI_t', bI_f', bI_0', ↓reduceIte, not_true_eq_false, not_false_eq_true, reduceCtorEq, Bool.true_and, Bool.and_true, Bool.false_and, Bool.and_false, Bool.true_or, Bool.or_true, Bool.false_or, Bool.or_false, decide_true, decide_false, gu_ne, gu_eq, q177, v2]
theorem lp55 {t f R p n : Nat} {g0 : Gs} {dyn : Nat → Option iv_C} {s : Nat × Nat} {D v : Nat} (hW : Wd t f R p n g0 dyn) (hv6 : 6 ≤ v) (hv8 : v < 8) : ∀ (k j : Nat) (g : Gs) (L : List Nat) (u4 u5 u6 : Value), j + k = sqN g0 (v - 6) → wd g0 g → flB' g L → L.length + 4 * k ≤ 16 → (lpS (flS g0 1) (sqM g0 (v - 6)) k j L).1 = true → ∃ g', iv_V (iv_X D) mc_55 (some .int) 14 [.ref 158, .int (nI v), .int (nI L.length), .int (nI j), u4, u5, u6] [] (gh g dyn, s) = some (some (.int (nI (lpS (flS g0 1) (sqM g0 (v - 6)) k j L).2.length)), (gh g' dyn, s)) ∧ flB' g' (lpS (flS g0 1) (sqM g0 (v - 6)) k j L).2 ∧ fR g g' := by
  obtain ⟨w1, _, w2, w3⟩ := w_sq hW (show v - 6 < 2 by omega)
  intro k
  induction k with
  | zero =>
    intro j g L u4 u5 u6 hj hw hL hC _
    have q176 := hw 176 rfl
    refine ⟨g, ?_, hL, fun _ _ => rfl⟩
    simp (disch := omega) only [f55_0, f55_1, f55_2, f55_3, f55_4, f55_5, f55_6, f55_7, f55_8, f55_9, f55_10, f55_11, f55_12, f55_13, f55_14, f55_15, f55_16, f55_17, f55_18, f55_19, f55_20, f55_21, f55_22, f55_23, f55_24, f55_25, f55_26, f55_27, f55_28, f55_29, f55_30, f55_31, f55_32, f55_33, f55_34, f55_35, f55_36, f55_37, f55_38, f55_39, f55_40, f55_41, f55_42, f55_43, f55_44, f55_45, f55_46, f55_47, f55_48, f55_49, f55_50, f55_51, f55_52, f55_53, f55_54, f55_55, f55_56, f55_57, f55_58, f55_59, f55_60, f55_61, f55_62, f55_63, f55_64, f55_65, f55_66, f55_67, f55_68, f55_69, f55_70, f55_71, f55_72, f55_73, f55_74, f55_75, gf_158_40', la_193, sa_193, gf_158_20', la_176, sa_176, gf_158_21', la_177, sa_177, ni_pred, kv_e, kx_e, kw_e, kn_e, ct_s, ct_v, cr_t, q_ri, q_rz0', q_rz1', q_rb, q_rv, Nat.add_sub_cancel_left, ni_m1lt, ni_m1le, ni_ltm1, ni_lem1, Nat.add_sub_cancel, nI_add, pk_mul, ni_sub, ni_lt, ni_le, ni_eq, ni_m1, ni_m1', nd_lt_t, nd_lt_f, nd_le_t, nd_le_f, nd_eq_t, nd_eq_f, bI_t', bI_f', bI_0', ↓reduceIte, not_true_eq_false, not_false_eq_true, reduceCtorEq, Bool.true_and, Bool.and_true, Bool.false_and, Bool.and_false, Bool.true_or, Bool.or_true, Bool.false_or, Bool.or_false, decide_true, decide_false, gu_ne, gu_eq, q176, w2, lpS]
  | succ k ih =>
    intro j g L u4 u5 u6 hj hw hL hC hok
    obtain ⟨v1, _, v2⟩ := w3 j (by omega)
    have q176 := hw 176 rfl
    have q177 := hw 177 rfl
    obtain ⟨w, hww⟩ : ∃ w, w = sqM g0 (v - 6) j := ⟨_, rfl⟩
    have hok1 : (flS g0 1 w L).1 = true := by
      rw [hww]
      cases h : (flS g0 1 (sqM g0 (v - 6) j) L).1
      · simp only [lpS, h, Bool.false_eq_true, if_false] at hok
      · rfl
    have hgo : lpS (flS g0 1) (sqM g0 (v - 6)) (k + 1) j L = lpS (flS g0 1) (sqM g0 (v - 6)) k (j + 1) (flS g0 1 w L).2 := by
      rw [hww] at hok1
      simp only [lpS, hok1, if_true, hww]
    rw [hgo] at hok ⊢
    rw [← hww] at v1 v2
    rw [f55_14]
    by_cases h6 : w < 6
    · have e1 : (flS g0 1 w L).2 = L ++ [w] := by simp [zl_1, h6]
      rw [e1] at hok ⊢
      obtain ⟨g', i1, i2, i3⟩ := ih (j + 1) (gu g 193 0 L.length (nI w)) (L ++ [w]) (.int (nI w)) (.int (nI 1)) (.int (nI 1)) (by omega) (wd_gu hw rfl) (flB_ap hL) (by rw [List.length_append]; simp only [List.length_singleton]; omega) hok
      refine ⟨g', ?_, i2, fR_tr (fR_gu (fun _ _ => rfl)) i3⟩
      refine Eq.trans ?_ i1
      rw [List.length_append]
      simp only [List.length_singleton]
      simp (disch := omega) only [f55_0, f55_1, f55_2, f55_3, f55_4, f55_5, f55_6, f55_7, f55_8, f55_9, f55_10, f55_11, f55_12, f55_13, f55_15, f55_16, f55_17, f55_18, f55_19, f55_20, f55_21, f55_22, f55_23, f55_24, f55_25, f55_26, f55_27, f55_28, f55_29, f55_30, f55_31, f55_32, f55_33, f55_34, f55_35, f55_36, f55_37, f55_38, f55_39, f55_40, f55_41, f55_42, f55_43, f55_44, f55_45, f55_46, f55_47, f55_48, f55_49, f55_50, f55_51, f55_52, f55_53, f55_54, f55_55, f55_56, f55_57, f55_58, f55_59, f55_60, f55_61, f55_62, f55_63, f55_64, f55_65, f55_66, f55_67, f55_68, f55_69, f55_70, f55_71, f55_72, f55_73, f55_74, f55_75, gf_158_40', la_193, sa_193, gf_158_20', la_176, sa_176, gf_158_21', la_177, sa_177, ni_pred, kv_e, kx_e, kw_e, kn_e, ct_s, ct_v, cr_t, q_ri, q_rz0', q_rz1', q_rb, q_rv, Nat.add_sub_cancel_left, ni_m1lt, ni_m1le, ni_ltm1, ni_lem1, Nat.add_sub_cancel, nI_add, pk_mul, ni_sub, ni_lt, ni_le, ni_eq, ni_m1, ni_m1', nd_lt_t, nd_lt_f, nd_le_t, nd_le_f, nd_eq_t, nd_eq_f, bI_t', bI_f', bI_0', ↓reduceIte, not_true_eq_false, not_false_eq_true, reduceCtorEq, Bool.true_and, Bool.and_true, Bool.false_and, Bool.and_false, Bool.true_or, Bool.or_true, Bool.false_or, Bool.or_false, decide_true, decide_false, gu_ne, gu_eq, q176, w2, q177, v2]
    · have e1 : flS g0 1 w L = lpS (flS g0 0) (sqM g0 (w - 6)) (sqN g0 (w - 6)) 0 L := by simp [zl_1, h6]
      obtain ⟨x1, _, x2, _⟩ := w_sq hW (show w - 6 < 2 by omega)
      rw [e1] at hok1
      obtain ⟨g1, i1, i2, i3, i4⟩ := lp55i (D := D) (s := s) (v := v) (j := j) hW (show 6 ≤ w by omega) v1 (sqN g0 (w - 6)) 0 g L (by omega) hw hL (by omega) hok1
      rw [e1] at hok ⊢
      obtain ⟨g', j1, j2, j3⟩ := ih (j + 1) g1 _ (.int (nI w)) (.int (nI (sqN g0 (w - 6)))) (.int (nI (sqN g0 (w - 6)))) (by omega) (wd_tr hw (fR_wd i3)) i2 (by omega) hok
      refine ⟨g', ?_, j2, fR_tr i3 j3⟩
      refine Eq.trans ?_ j1
      have e2 : iv_V (iv_X D) mc_55 (some .int) 14 [.ref 158, .int (nI v), .int (nI L.length), .int (nI j), u4, u5, u6] [] (gh g dyn, s) = iv_V (iv_X D) mc_55 (some .int) 47 [.ref 158, .int (nI v), .int (nI L.length), .int (nI j), .int (nI w), .int (nI (sqN g0 (w - 6))), .int (nI 0)] [] (gh g dyn, s) := by
        rw [f55_14]
        simp (disch := omega) only [f55_0, f55_1, f55_2, f55_3, f55_4, f55_5, f55_6, f55_7, f55_8, f55_9, f55_10, f55_11, f55_12, f55_13, f55_15, f55_16, f55_17, f55_18, f55_19, f55_20, f55_21, f55_22, f55_23, f55_24, f55_25, f55_26, f55_27, f55_28, f55_29, f55_30, f55_31, f55_32, f55_33, f55_34, f55_35, f55_36, f55_37, f55_38, f55_39, f55_40, f55_41, f55_42, f55_43, f55_44, f55_45, f55_46, f55_48, f55_49, f55_50, f55_51, f55_52, f55_53, f55_54, f55_55, f55_56, f55_57, f55_58, f55_59, f55_60, f55_61, f55_62, f55_63, f55_64, f55_65, f55_66, f55_67, f55_68, f55_69, f55_70, f55_71, f55_72, f55_73, f55_74, f55_75, gf_158_40', la_193, sa_193, gf_158_20', la_176, sa_176, gf_158_21', la_177, sa_177, ni_pred, kv_e, kx_e, kw_e, kn_e, ct_s, ct_v, cr_t, q_ri, q_rz0', q_rz1', q_rb, q_rv, Nat.add_sub_cancel_left, ni_m1lt, ni_m1le, ni_ltm1, ni_lem1, Nat.add_sub_cancel, nI_add, pk_mul, ni_sub, ni_lt, ni_le, ni_eq, ni_m1, ni_m1', nd_lt_t, nd_lt_f, nd_le_t, nd_le_f, nd_eq_t, nd_eq_f, bI_t', bI_f', bI_0', ↓reduceIte, not_true_eq_false, not_false_eq_true, reduceCtorEq, Bool.true_and, Bool.and_true, Bool.false_and, Bool.and_false, Bool.true_or, Bool.or_true, Bool.false_or, Bool.or_false, decide_true, decide_false, gu_ne, gu_eq, q176, w2, x2, q177, v2]
      rw [← f55_14, e2, i1]
      simp (disch := omega) only [f55_0, f55_1, f55_2, f55_3, f55_4, f55_5, f55_6, f55_7, f55_8, f55_9, f55_10, f55_11, f55_12, f55_13, f55_15, f55_16, f55_17, f55_18, f55_19, f55_20, f55_21, f55_22, f55_23, f55_24, f55_25, f55_26, f55_27, f55_28, f55_29, f55_30, f55_31, f55_32, f55_33, f55_34, f55_35, f55_36, f55_37, f55_38, f55_39, f55_40, f55_41, f55_42, f55_43, f55_44, f55_45, f55_46, f55_48, f55_49, f55_50, f55_51, f55_52, f55_53, f55_54, f55_55, f55_56, f55_57, f55_58, f55_59, f55_60, f55_61, f55_62, f55_63, f55_64, f55_65, f55_66, f55_67, f55_68, f55_69, f55_70, f55_71, f55_72, f55_73, f55_74, f55_75, gf_158_40', la_193, sa_193, gf_158_20', la_176, sa_176, gf_158_21', la_177, sa_177, ni_pred, kv_e, kx_e, kw_e, kn_e, ct_s, ct_v, cr_t, q_ri, q_rz0', q_rz1', q_rb, q_rv, Nat.add_sub_cancel_left, ni_m1lt, ni_m1le, ni_ltm1, ni_lem1, Nat.add_sub_cancel, nI_add, pk_mul, ni_sub, ni_lt, ni_le, ni_eq, ni_m1, ni_m1', nd_lt_t, nd_lt_f, nd_le_t, nd_le_f, nd_eq_t, nd_eq_f, bI_t', bI_f', bI_0', ↓reduceIte, not_true_eq_false, not_false_eq_true, reduceCtorEq, Bool.true_and, Bool.and_true, Bool.false_and, Bool.and_false, Bool.true_or, Bool.or_true, Bool.false_or, Bool.or_false, decide_true, decide_false, gu_ne, gu_eq]
theorem m55 {t f R p n : Nat} {g0 g : Gs} {dyn : Nat → Option iv_C} {s : Nat × Nat} {D v : Nat} (hD : 1 ≤ D) (hW : Wd t f R p n g0 dyn) (hw : wd g0 g) (hv8 : v < 8) (hok : (flS g0 2 v []).1 = true) : ∃ g', iv_X D 55 [.ref 158, .int (nI v)] (gh g dyn, s) = some (some (.int (nI (flS g0 2 v []).2.length)), (gh g' dyn, s)) ∧ flB' g' (flS g0 2 v []).2 ∧ fR g g' := by
  obtain ⟨d, rfl, hd⟩ := iv_dn hD
  by_cases h6 : v < 6
  · have e1 : (flS g0 2 v []).2 = [v] := by simp [zl_2, h6]
    rw [e1]
    refine ⟨gu g 193 0 0 (nI v), ?_, fun i w hw => ?_, fR_gu (fun _ _ => rfl)⟩
    · rw [en_55]
      simp only [List.length_singleton]
      simp (disch := omega) only [f55_0, f55_1, f55_2, f55_3, f55_4, f55_5, f55_6, f55_7, f55_8, f55_9, f55_10, f55_11, f55_12, f55_13, f55_15, f55_16, f55_17, f55_18, f55_19, f55_20, f55_21, f55_22, f55_23, f55_24, f55_25, f55_26, f55_27, f55_28, f55_29, f55_30, f55_31, f55_32, f55_33, f55_34, f55_35, f55_36, f55_37, f55_38, f55_39, f55_40, f55_41, f55_42, f55_43, f55_44, f55_45, f55_46, f55_47, f55_48, f55_49, f55_50, f55_51, f55_52, f55_53, f55_54, f55_55, f55_56, f55_57, f55_58, f55_59, f55_60, f55_61, f55_62, f55_63, f55_64, f55_65, f55_66, f55_67, f55_68, f55_69, f55_70, f55_71, f55_72, f55_73, f55_74, f55_75, gf_158_40', la_193, sa_193, gf_158_20', la_176, sa_176, gf_158_21', la_177, sa_177, ni_pred, kv_e, kx_e, kw_e, kn_e, ct_s, ct_v, cr_t, q_ri, q_rz0', q_rz1', q_rb, q_rv, Nat.add_sub_cancel_left, ni_m1lt, ni_m1le, ni_ltm1, ni_lem1, Nat.add_sub_cancel, nI_add, pk_mul, ni_sub, ni_lt, ni_le, ni_eq, ni_m1, ni_m1', nd_lt_t, nd_lt_f, nd_le_t, nd_le_f, nd_eq_t, nd_eq_f, bI_t', bI_f', bI_0', ↓reduceIte, not_true_eq_false, not_false_eq_true, reduceCtorEq, Bool.true_and, Bool.and_true, Bool.false_and, Bool.and_false, Bool.true_or, Bool.or_true, Bool.false_or, Bool.or_false, decide_true, decide_false, gu_ne, gu_eq]
    · rcases ap_cs (l := []) hw with ⟨h1, rfl⟩ | ⟨h1, h2⟩
      · rw [h1, List.length_nil, gu_eq]
      · simp at h1
  · have e1 : flS g0 2 v [] = lpS (flS g0 1) (sqM g0 (v - 6)) (sqN g0 (v - 6)) 0 [] := by simp [zl_2, h6]
    obtain ⟨w1, _⟩ := w_sq hW (show v - 6 < 2 by omega)
    rw [e1] at hok ⊢
    obtain ⟨g', i1, i2, i3⟩ := lp55 (D := d) (s := s) hW (show 6 ≤ v by omega) hv8 (sqN g0 (v - 6)) 0 (gu g 193 0 0 (nI v)) [] iv_un iv_un iv_un (by omega) (wd_gu hw rfl) (fun i w hw => by simp at hw) (by simp only [List.length_nil]; omega) hok
    refine ⟨g', ?_, i2, fR_tr (fR_gu (fun _ _ => rfl)) i3⟩
    refine Eq.trans ?_ i1
    rw [en_55]
    simp only [List.length_nil]
    simp (disch := omega) only [f55_0, f55_1, f55_2, f55_3, f55_4, f55_5, f55_6, f55_7, f55_8, f55_9, f55_10, f55_11, f55_12, f55_13, f55_15, f55_16, f55_17, f55_18, f55_19, f55_20, f55_21, f55_22, f55_23, f55_24, f55_25, f55_26, f55_27, f55_28, f55_29, f55_30, f55_31, f55_32, f55_33, f55_34, f55_35, f55_36, f55_37, f55_38, f55_39, f55_40, f55_41, f55_42, f55_43, f55_44, f55_45, f55_46, f55_47, f55_48, f55_49, f55_50, f55_51, f55_52, f55_53, f55_54, f55_55, f55_56, f55_57, f55_58, f55_59, f55_60, f55_61, f55_62, f55_63, f55_64, f55_65, f55_66, f55_67, f55_68, f55_69, f55_70, f55_71, f55_72, f55_73, f55_74, f55_75, gf_158_40', la_193, sa_193, gf_158_20', la_176, sa_176, gf_158_21', la_177, sa_177, ni_pred, kv_e, kx_e, kw_e, kn_e, ct_s, ct_v, cr_t, q_ri, q_rz0', q_rz1', q_rb, q_rv, Nat.add_sub_cancel_left, ni_m1lt, ni_m1le, ni_ltm1, ni_lem1, Nat.add_sub_cancel, nI_add, pk_mul, ni_sub, ni_lt, ni_le, ni_eq, ni_m1, ni_m1', nd_lt_t, nd_lt_f, nd_le_t, nd_le_f, nd_eq_t, nd_eq_f, bI_t', bI_f', bI_0', ↓reduceIte, not_true_eq_false, not_false_eq_true, reduceCtorEq, Bool.true_and, Bool.and_true, Bool.false_and, Bool.and_false, Bool.true_or, Bool.or_true, Bool.false_or, Bool.or_false, decide_true, decide_false, gu_ne, gu_eq]
