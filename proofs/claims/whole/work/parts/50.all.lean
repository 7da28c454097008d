/-! all rules of an object, on both sides -/
theorem sz_le {t f p : Nat} {g : Gs} {i j : Nat} (hF : iFd t f g) (hV : iSt t f p g) (hi : i < 10) (hj : j < f) : szS g i j ≤ 3 := by
  obtain ⟨k, _, _, _, _, h⟩ := vl_cs hF hV hi hj
  rcases h with h | h | ⟨_, h | h⟩
  · omega
  · omega
  · omega
  · exact h.1
theorem rl_gd {t f R p n : Nat} {g : Gs} {dyn : Nat → Option iv_C} {ob : Nat} {tr : List (Nat × Nat)} {sel : Nat → Bool} (hW : Wd t f R p n g dyn) (ho : ob < p) (ht : gdT tr) : ∀ (k r : Nat) (l : List Vi), r + k ≤ R → gdL l → gdL (rsS sel (ftS g) (acS g tr ob) k r l).2 := by
  obtain ⟨hT', hF, hC, hS, hO, hV, hRs, hK⟩ := hW
  refine rs_gd (fun r l hr hl => ?_)
  obtain ⟨rs, a, c, m, _, _, _, _, _, _, hfd, _⟩ := rvw hF.1 hRs hK hr
  have h1 := hF.1
  have h2 := hV.1
  exact ac_gd ht (by omega) (sz_le hF hV (by omega) hfd) hl
theorem lp72 {t f R p n : Nat} {g0 : Gs} {dyn : Nat → Option iv_C} {s : Nat × Nat} {D ob h : Nat} {tr : List (Nat × Nat)} {sf : Nat → Bool} {F : Int32} (hD : 3 ≤ D) (hW : Wd t f R p n g0 dyn) (ho : ob < p) (hh : h < 6) (ht : gdT tr) (hF' : ∀ j, j < f → tb F j = sf j) : ∀ (k r : Nat) (g : Gs) (l : List Vi) (u : Value), r + k = R → gdL l → wd g0 g → rA g l → trA g tr → ∃ g', iv_V (iv_X D) mc_72 (some .int) 4 [.ref 155, .int (nI ob), .int F, .int (nI h), .int (nI 0), .int (nI (r)), u] [] (gh g dyn, s) = some (some (.int (rsS (seS g0 sf h) (ftS g0) (acS g0 tr ob) k r l).1), (gh g' dyn, s)) ∧ rA g' (rsS (seS g0 sf h) (ftS g0) (acS g0 tr ob) k r l).2 ∧ fA g g' := by
  obtain ⟨hT', hF, hC, hS, hO, hV, hRs, hK⟩ := id hW
  have hR24 : R ≤ 24 := hRs.1
  have h235 : g0 235 0 0 = nI R := hRs.2.1
  intro k
  induction k with
  | zero =>
    intro r g l u hr hl hw hR hT
    refine ⟨g, ?_, hR, fA_rf⟩
    have q235 := hw 235 rfl
    simp (disch := omega) only [f72_0, f72_1, f72_2, f72_3, f72_4, f72_5, f72_6, f72_7, f72_8, f72_9, f72_10, f72_11, f72_12, f72_13, f72_14, f72_15, f72_16, f72_17, f72_18, f72_19, f72_20, f72_21, f72_22, f72_23, f72_24, f72_25, f72_26, f72_27, f72_28, f72_29, f72_30, f72_31, f72_32, f72_33, f72_34, f72_35, f72_36, f72_37, f72_38, f72_39, f72_40, f72_41, f72_42, gf_155_1', gf_35_1', gf_35_0', gf_155_2', gf_44_0', la_3, la_17, la_18, la_19, la_45, la_52, la_54, la_153, la_154, la_156, la_157, la_6, la_21, la_48, la_56, la_67, la_79, la_105, al_55', rc_1, rc_2, rc_35, rc_44, rc_51, rc_53, rc_77, rc_152, rc_155, rc_5, rc_47, rc_104, ni_pred, kv_e, kx_e, kw_e, kn_e, ct_s, ct_v, cr_t, q_ri, q_rz0', q_rz1', q_rb, q_rv, Nat.add_sub_cancel_left, ni_m1lt, ni_m1le, ni_ltm1, ni_lem1, Nat.add_sub_cancel, nI_add, pk_mul, ni_sub, ni_lt, ni_le, ni_eq, ni_m1, ni_m1', nd_lt_t, nd_lt_f, nd_le_t, nd_le_f, nd_eq_t, nd_eq_f, bI_t', bI_f', bI_0', ↓reduceIte, not_true_eq_false, not_false_eq_true, reduceCtorEq, Bool.true_and, Bool.and_true, Bool.false_and, Bool.and_false, Bool.true_or, Bool.or_true, Bool.false_or, Bool.or_false, decide_true, decide_false, gu_ne, gu_eq, q235, h235, rsS]
  | succ k ih =>
    intro r g l u hr hl hw hR hT
    have q235 := hw 235 rfl
    have q45 := hw 45 rfl
    obtain ⟨rs, a, c, m, h36, hrs, ha, hm, h169, hA, hfd, h164, h165, hc, hrv⟩ := rvw hF.1 hRs hK (show r < R by omega)
    have hf14 : fdS g0 r < 14 := by
      have := hF.1
      omega
    have w5 : ∀ s st q, iv_ald (gh g dyn, s) (.int (nI r) :: .ref 36 :: st) iv_isA q = q (.ref a) st := fun s st q => gd_al' (.inr (.inl rfl)) (by omega) (.inr rfl) h36 hrs
    have htb := tb_test (x := F) (k := fdS g0 r) (by omega)
    rw [hF' _ hfd] at htb
    by_cases hsel : seS g0 sf h r = true
    · obtain ⟨hs1, hs2⟩ := (Bool.and_eq_true _ _).mp hsel
      rw [h169] at hs2
      have hs2' : ((nI m &&& g0 45 0 h) = nI 0) = False := eq_false (by simpa using hs2)
      rw [hs1] at htb
      obtain ⟨g1, i1, i2, i3⟩ := c73 (s := s) hD ht hW ho hfd ha hA hc hl hw hR hT
      simp only [rsS, hsel, if_true]
      cases hft : ftS g0 r with
      | false =>
        simp only [hft, Bool.false_eq_true, if_false] at i1 i2 ⊢
        refine ⟨g1, ?_, i2, i3⟩
        rw [f72_4]
        by_cases hlast : R ≤ r + 1
        · simp (disch := omega) only [f72_0, f72_1, f72_2, f72_3, f72_5, f72_6, f72_7, f72_8, f72_9, f72_10, f72_11, f72_12, f72_13, f72_14, f72_15, f72_16, f72_17, f72_18, f72_19, f72_20, f72_21, f72_22, f72_23, f72_24, f72_25, f72_26, f72_27, f72_28, f72_29, f72_30, f72_31, f72_32, f72_33, f72_34, f72_35, f72_36, f72_37, f72_38, f72_39, f72_40, f72_41, f72_42, gf_155_1', gf_35_1', gf_35_0', gf_155_2', gf_44_0', la_3, la_17, la_18, la_19, la_45, la_52, la_54, la_153, la_154, la_156, la_157, la_6, la_21, la_48, la_56, la_67, la_79, la_105, al_55', rc_1, rc_2, rc_35, rc_44, rc_51, rc_53, rc_77, rc_152, rc_155, rc_5, rc_47, rc_104, ni_pred, kv_e, kx_e, kw_e, kn_e, ct_s, ct_v, cr_t, q_ri, q_rz0', q_rz1', q_rb, q_rv, Nat.add_sub_cancel_left, ni_m1lt, ni_m1le, ni_ltm1, ni_lem1, Nat.add_sub_cancel, nI_add, pk_mul, ni_sub, ni_lt, ni_le, ni_eq, ni_m1, ni_m1', nd_lt_t, nd_lt_f, nd_le_t, nd_le_f, nd_eq_t, nd_eq_f, bI_t', bI_f', bI_0', ↓reduceIte, not_true_eq_false, not_false_eq_true, reduceCtorEq, Bool.true_and, Bool.and_true, Bool.false_and, Bool.and_false, Bool.true_or, Bool.or_true, Bool.false_or, Bool.or_false, decide_true, decide_false, gu_ne, gu_eq, q235, h235, q45, w5, hA, htb, hs2', i1, gd_gf, gd_rc, dgf_0, dgf_1, dgf_2, dgf_3, drc_s]
          have q235' : g1 235 = g0 235 := (i3 235 rfl).trans q235
          simp (disch := omega) only [f72_0, f72_1, f72_2, f72_3, f72_4, f72_5, f72_6, f72_7, f72_8, f72_9, f72_10, f72_11, f72_12, f72_13, f72_14, f72_15, f72_16, f72_17, f72_18, f72_19, f72_20, f72_21, f72_22, f72_23, f72_24, f72_25, f72_26, f72_27, f72_28, f72_29, f72_30, f72_31, f72_32, f72_33, f72_34, f72_35, f72_36, f72_37, f72_38, f72_39, f72_40, f72_41, f72_42, gf_155_1', gf_35_1', gf_35_0', gf_155_2', gf_44_0', la_3, la_17, la_18, la_19, la_45, la_52, la_54, la_153, la_154, la_156, la_157, la_6, la_21, la_48, la_56, la_67, la_79, la_105, al_55', rc_1, rc_2, rc_35, rc_44, rc_51, rc_53, rc_77, rc_152, rc_155, rc_5, rc_47, rc_104, ni_pred, kv_e, kx_e, kw_e, kn_e, ct_s, ct_v, cr_t, q_ri, q_rz0', q_rz1', q_rb, q_rv, Nat.add_sub_cancel_left, ni_m1lt, ni_m1le, ni_ltm1, ni_lem1, Nat.add_sub_cancel, nI_add, pk_mul, ni_sub, ni_lt, ni_le, ni_eq, ni_m1, ni_m1', nd_lt_t, nd_lt_f, nd_le_t, nd_le_f, nd_eq_t, nd_eq_f, bI_t', bI_f', bI_0', ↓reduceIte, not_true_eq_false, not_false_eq_true, reduceCtorEq, Bool.true_and, Bool.and_true, Bool.false_and, Bool.and_false, Bool.true_or, Bool.or_true, Bool.false_or, Bool.or_false, decide_true, decide_false, gu_ne, gu_eq, q235', h235, n4_0]
        · simp (disch := omega) only [f72_0, f72_1, f72_2, f72_3, f72_5, f72_6, f72_7, f72_8, f72_9, f72_10, f72_11, f72_12, f72_13, f72_14, f72_15, f72_16, f72_17, f72_18, f72_19, f72_20, f72_21, f72_22, f72_23, f72_24, f72_25, f72_26, f72_27, f72_28, f72_29, f72_30, f72_31, f72_32, f72_33, f72_34, f72_35, f72_36, f72_37, f72_38, f72_39, f72_40, f72_41, f72_42, gf_155_1', gf_35_1', gf_35_0', gf_155_2', gf_44_0', la_3, la_17, la_18, la_19, la_45, la_52, la_54, la_153, la_154, la_156, la_157, la_6, la_21, la_48, la_56, la_67, la_79, la_105, al_55', rc_1, rc_2, rc_35, rc_44, rc_51, rc_53, rc_77, rc_152, rc_155, rc_5, rc_47, rc_104, ni_pred, kv_e, kx_e, kw_e, kn_e, ct_s, ct_v, cr_t, q_ri, q_rz0', q_rz1', q_rb, q_rv, Nat.add_sub_cancel_left, ni_m1lt, ni_m1le, ni_ltm1, ni_lem1, Nat.add_sub_cancel, nI_add, pk_mul, ni_sub, ni_lt, ni_le, ni_eq, ni_m1, ni_m1', nd_lt_t, nd_lt_f, nd_le_t, nd_le_f, nd_eq_t, nd_eq_f, bI_t', bI_f', bI_0', ↓reduceIte, not_true_eq_false, not_false_eq_true, reduceCtorEq, Bool.true_and, Bool.and_true, Bool.false_and, Bool.and_false, Bool.true_or, Bool.or_true, Bool.false_or, Bool.or_false, decide_true, decide_false, gu_ne, gu_eq, q235, h235, q45, w5, hA, htb, hs2', i1, gd_gf, gd_rc, dgf_0, dgf_1, dgf_2, dgf_3, drc_s]
          have q235' : g1 235 = g0 235 := (i3 235 rfl).trans q235
          simp (disch := omega) only [f72_0, f72_1, f72_2, f72_3, f72_4, f72_5, f72_6, f72_7, f72_8, f72_9, f72_10, f72_11, f72_12, f72_13, f72_14, f72_15, f72_16, f72_17, f72_18, f72_19, f72_20, f72_21, f72_22, f72_23, f72_24, f72_25, f72_26, f72_27, f72_28, f72_29, f72_30, f72_31, f72_32, f72_33, f72_34, f72_35, f72_36, f72_37, f72_38, f72_39, f72_40, f72_41, f72_42, gf_155_1', gf_35_1', gf_35_0', gf_155_2', gf_44_0', la_3, la_17, la_18, la_19, la_45, la_52, la_54, la_153, la_154, la_156, la_157, la_6, la_21, la_48, la_56, la_67, la_79, la_105, al_55', rc_1, rc_2, rc_35, rc_44, rc_51, rc_53, rc_77, rc_152, rc_155, rc_5, rc_47, rc_104, ni_pred, kv_e, kx_e, kw_e, kn_e, ct_s, ct_v, cr_t, q_ri, q_rz0', q_rz1', q_rb, q_rv, Nat.add_sub_cancel_left, ni_m1lt, ni_m1le, ni_ltm1, ni_lem1, Nat.add_sub_cancel, nI_add, pk_mul, ni_sub, ni_lt, ni_le, ni_eq, ni_m1, ni_m1', nd_lt_t, nd_lt_f, nd_le_t, nd_le_f, nd_eq_t, nd_eq_f, bI_t', bI_f', bI_0', ↓reduceIte, not_true_eq_false, not_false_eq_true, reduceCtorEq, Bool.true_and, Bool.and_true, Bool.false_and, Bool.and_false, Bool.true_or, Bool.or_true, Bool.false_or, Bool.or_false, decide_true, decide_false, gu_ne, gu_eq, q235', h235, n4_0]
      | true =>
        simp only [hft, if_true] at i1 i2 ⊢
        cases hac : (acS g0 tr ob r l).1 with
        | true =>
          have hz := sz_le hF hV (show ob < 10 by have := hV.1; omega) hfd
          obtain ⟨g', j1, j2, j3⟩ := ih (r + 1) g1 _ (.ref a) (by omega) (ac_gd ht hf14 hz hl) (wd_tr hw (fA_wd i3)) i2 (trA_fr hT (i3 352 rfl) (i3 153 rfl))
          simp only [hac, cdS, if_true] at i1 ⊢
          refine ⟨g', ?_, j2, fA_tr i3 j3⟩
          refine Eq.trans ?_ j1
          rw [f72_4]
          simp (disch := omega) only [f72_0, f72_1, f72_2, f72_3, f72_5, f72_6, f72_7, f72_8, f72_9, f72_10, f72_11, f72_12, f72_13, f72_14, f72_15, f72_16, f72_17, f72_18, f72_19, f72_20, f72_21, f72_22, f72_23, f72_24, f72_25, f72_26, f72_27, f72_28, f72_29, f72_30, f72_31, f72_32, f72_33, f72_34, f72_35, f72_36, f72_37, f72_38, f72_39, f72_40, f72_41, f72_42, gf_155_1', gf_35_1', gf_35_0', gf_155_2', gf_44_0', la_3, la_17, la_18, la_19, la_45, la_52, la_54, la_153, la_154, la_156, la_157, la_6, la_21, la_48, la_56, la_67, la_79, la_105, al_55', rc_1, rc_2, rc_35, rc_44, rc_51, rc_53, rc_77, rc_152, rc_155, rc_5, rc_47, rc_104, ni_pred, kv_e, kx_e, kw_e, kn_e, ct_s, ct_v, cr_t, q_ri, q_rz0', q_rz1', q_rb, q_rv, Nat.add_sub_cancel_left, ni_m1lt, ni_m1le, ni_ltm1, ni_lem1, Nat.add_sub_cancel, nI_add, pk_mul, ni_sub, ni_lt, ni_le, ni_eq, ni_m1, ni_m1', nd_lt_t, nd_lt_f, nd_le_t, nd_le_f, nd_eq_t, nd_eq_f, bI_t', bI_f', bI_0', ↓reduceIte, not_true_eq_false, not_false_eq_true, reduceCtorEq, Bool.true_and, Bool.and_true, Bool.false_and, Bool.and_false, Bool.true_or, Bool.or_true, Bool.false_or, Bool.or_false, decide_true, decide_false, gu_ne, gu_eq, q235, h235, q45, w5, hA, htb, hs2', i1, gd_gf, gd_rc, dgf_0, dgf_1, dgf_2, dgf_3, drc_s]
        | false =>
          simp only [hac, cdS, Bool.false_eq_true, if_false] at i1 ⊢
          refine ⟨g1, ?_, i2, i3⟩
          rw [f72_4]
          by_cases hlast : R ≤ r + 1
          · simp (disch := omega) only [f72_0, f72_1, f72_2, f72_3, f72_5, f72_6, f72_7, f72_8, f72_9, f72_10, f72_11, f72_12, f72_13, f72_14, f72_15, f72_16, f72_17, f72_18, f72_19, f72_20, f72_21, f72_22, f72_23, f72_24, f72_25, f72_26, f72_27, f72_28, f72_29, f72_30, f72_31, f72_32, f72_33, f72_34, f72_35, f72_36, f72_37, f72_38, f72_39, f72_40, f72_41, f72_42, gf_155_1', gf_35_1', gf_35_0', gf_155_2', gf_44_0', la_3, la_17, la_18, la_19, la_45, la_52, la_54, la_153, la_154, la_156, la_157, la_6, la_21, la_48, la_56, la_67, la_79, la_105, al_55', rc_1, rc_2, rc_35, rc_44, rc_51, rc_53, rc_77, rc_152, rc_155, rc_5, rc_47, rc_104, ni_pred, kv_e, kx_e, kw_e, kn_e, ct_s, ct_v, cr_t, q_ri, q_rz0', q_rz1', q_rb, q_rv, Nat.add_sub_cancel_left, ni_m1lt, ni_m1le, ni_ltm1, ni_lem1, Nat.add_sub_cancel, nI_add, pk_mul, ni_sub, ni_lt, ni_le, ni_eq, ni_m1, ni_m1', nd_lt_t, nd_lt_f, nd_le_t, nd_le_f, nd_eq_t, nd_eq_f, bI_t', bI_f', bI_0', ↓reduceIte, not_true_eq_false, not_false_eq_true, reduceCtorEq, Bool.true_and, Bool.and_true, Bool.false_and, Bool.and_false, Bool.true_or, Bool.or_true, Bool.false_or, Bool.or_false, decide_true, decide_false, gu_ne, gu_eq, q235, h235, q45, w5, hA, htb, hs2', i1, gd_gf, gd_rc, dgf_0, dgf_1, dgf_2, dgf_3, drc_s]
            have q235' : g1 235 = g0 235 := (i3 235 rfl).trans q235
            simp (disch := omega) only [f72_0, f72_1, f72_2, f72_3, f72_4, f72_5, f72_6, f72_7, f72_8, f72_9, f72_10, f72_11, f72_12, f72_13, f72_14, f72_15, f72_16, f72_17, f72_18, f72_19, f72_20, f72_21, f72_22, f72_23, f72_24, f72_25, f72_26, f72_27, f72_28, f72_29, f72_30, f72_31, f72_32, f72_33, f72_34, f72_35, f72_36, f72_37, f72_38, f72_39, f72_40, f72_41, f72_42, gf_155_1', gf_35_1', gf_35_0', gf_155_2', gf_44_0', la_3, la_17, la_18, la_19, la_45, la_52, la_54, la_153, la_154, la_156, la_157, la_6, la_21, la_48, la_56, la_67, la_79, la_105, al_55', rc_1, rc_2, rc_35, rc_44, rc_51, rc_53, rc_77, rc_152, rc_155, rc_5, rc_47, rc_104, ni_pred, kv_e, kx_e, kw_e, kn_e, ct_s, ct_v, cr_t, q_ri, q_rz0', q_rz1', q_rb, q_rv, Nat.add_sub_cancel_left, ni_m1lt, ni_m1le, ni_ltm1, ni_lem1, Nat.add_sub_cancel, nI_add, pk_mul, ni_sub, ni_lt, ni_le, ni_eq, ni_m1, ni_m1', nd_lt_t, nd_lt_f, nd_le_t, nd_le_f, nd_eq_t, nd_eq_f, bI_t', bI_f', bI_0', ↓reduceIte, not_true_eq_false, not_false_eq_true, reduceCtorEq, Bool.true_and, Bool.and_true, Bool.false_and, Bool.and_false, Bool.true_or, Bool.or_true, Bool.false_or, Bool.or_false, decide_true, decide_false, gu_ne, gu_eq, q235', h235, n5_0]
          · simp (disch := omega) only [f72_0, f72_1, f72_2, f72_3, f72_5, f72_6, f72_7, f72_8, f72_9, f72_10, f72_11, f72_12, f72_13, f72_14, f72_15, f72_16, f72_17, f72_18, f72_19, f72_20, f72_21, f72_22, f72_23, f72_24, f72_25, f72_26, f72_27, f72_28, f72_29, f72_30, f72_31, f72_32, f72_33, f72_34, f72_35, f72_36, f72_37, f72_38, f72_39, f72_40, f72_41, f72_42, gf_155_1', gf_35_1', gf_35_0', gf_155_2', gf_44_0', la_3, la_17, la_18, la_19, la_45, la_52, la_54, la_153, la_154, la_156, la_157, la_6, la_21, la_48, la_56, la_67, la_79, la_105, al_55', rc_1, rc_2, rc_35, rc_44, rc_51, rc_53, rc_77, rc_152, rc_155, rc_5, rc_47, rc_104, ni_pred, kv_e, kx_e, kw_e, kn_e, ct_s, ct_v, cr_t, q_ri, q_rz0', q_rz1', q_rb, q_rv, Nat.add_sub_cancel_left, ni_m1lt, ni_m1le, ni_ltm1, ni_lem1, Nat.add_sub_cancel, nI_add, pk_mul, ni_sub, ni_lt, ni_le, ni_eq, ni_m1, ni_m1', nd_lt_t, nd_lt_f, nd_le_t, nd_le_f, nd_eq_t, nd_eq_f, bI_t', bI_f', bI_0', ↓reduceIte, not_true_eq_false, not_false_eq_true, reduceCtorEq, Bool.true_and, Bool.and_true, Bool.false_and, Bool.and_false, Bool.true_or, Bool.or_true, Bool.false_or, Bool.or_false, decide_true, decide_false, gu_ne, gu_eq, q235, h235, q45, w5, hA, htb, hs2', i1, gd_gf, gd_rc, dgf_0, dgf_1, dgf_2, dgf_3, drc_s]
            have q235' : g1 235 = g0 235 := (i3 235 rfl).trans q235
            simp (disch := omega) only [f72_0, f72_1, f72_2, f72_3, f72_4, f72_5, f72_6, f72_7, f72_8, f72_9, f72_10, f72_11, f72_12, f72_13, f72_14, f72_15, f72_16, f72_17, f72_18, f72_19, f72_20, f72_21, f72_22, f72_23, f72_24, f72_25, f72_26, f72_27, f72_28, f72_29, f72_30, f72_31, f72_32, f72_33, f72_34, f72_35, f72_36, f72_37, f72_38, f72_39, f72_40, f72_41, f72_42, gf_155_1', gf_35_1', gf_35_0', gf_155_2', gf_44_0', la_3, la_17, la_18, la_19, la_45, la_52, la_54, la_153, la_154, la_156, la_157, la_6, la_21, la_48, la_56, la_67, la_79, la_105, al_55', rc_1, rc_2, rc_35, rc_44, rc_51, rc_53, rc_77, rc_152, rc_155, rc_5, rc_47, rc_104, ni_pred, kv_e, kx_e, kw_e, kn_e, ct_s, ct_v, cr_t, q_ri, q_rz0', q_rz1', q_rb, q_rv, Nat.add_sub_cancel_left, ni_m1lt, ni_m1le, ni_ltm1, ni_lem1, Nat.add_sub_cancel, nI_add, pk_mul, ni_sub, ni_lt, ni_le, ni_eq, ni_m1, ni_m1', nd_lt_t, nd_lt_f, nd_le_t, nd_le_f, nd_eq_t, nd_eq_f, bI_t', bI_f', bI_0', ↓reduceIte, not_true_eq_false, not_false_eq_true, reduceCtorEq, Bool.true_and, Bool.and_true, Bool.false_and, Bool.and_false, Bool.true_or, Bool.or_true, Bool.false_or, Bool.or_false, decide_true, decide_false, gu_ne, gu_eq, q235', h235, n5_0]
    · obtain ⟨g', j1, j2, j3⟩ := ih (r + 1) g l (.ref a) (by omega) hl hw hR hT
      simp only [rsS, hsel, if_false]
      refine ⟨g', ?_, j2, j3⟩
      refine Eq.trans ?_ j1
      rw [f72_4]
      cases hs1 : sf (fdS g0 r) with
      | false =>
        rw [hs1] at htb
        simp (disch := omega) only [f72_0, f72_1, f72_2, f72_3, f72_5, f72_6, f72_7, f72_8, f72_9, f72_10, f72_11, f72_12, f72_13, f72_14, f72_15, f72_16, f72_17, f72_18, f72_19, f72_20, f72_21, f72_22, f72_23, f72_24, f72_25, f72_26, f72_27, f72_28, f72_29, f72_30, f72_31, f72_32, f72_33, f72_34, f72_35, f72_36, f72_37, f72_38, f72_39, f72_40, f72_41, f72_42, gf_155_1', gf_35_1', gf_35_0', gf_155_2', gf_44_0', la_3, la_17, la_18, la_19, la_45, la_52, la_54, la_153, la_154, la_156, la_157, la_6, la_21, la_48, la_56, la_67, la_79, la_105, al_55', rc_1, rc_2, rc_35, rc_44, rc_51, rc_53, rc_77, rc_152, rc_155, rc_5, rc_47, rc_104, ni_pred, kv_e, kx_e, kw_e, kn_e, ct_s, ct_v, cr_t, q_ri, q_rz0', q_rz1', q_rb, q_rv, Nat.add_sub_cancel_left, ni_m1lt, ni_m1le, ni_ltm1, ni_lem1, Nat.add_sub_cancel, nI_add, pk_mul, ni_sub, ni_lt, ni_le, ni_eq, ni_m1, ni_m1', nd_lt_t, nd_lt_f, nd_le_t, nd_le_f, nd_eq_t, nd_eq_f, bI_t', bI_f', bI_0', ↓reduceIte, not_true_eq_false, not_false_eq_true, reduceCtorEq, Bool.true_and, Bool.and_true, Bool.false_and, Bool.and_false, Bool.true_or, Bool.or_true, Bool.false_or, Bool.or_false, decide_true, decide_false, gu_ne, gu_eq, q235, h235, q45, w5, hA, htb, gd_gf, gd_rc, dgf_0, dgf_1, dgf_2, dgf_3, drc_s]
      | true =>
        rw [hs1] at htb
        have hs2' : ((nI m &&& g0 45 0 h) = nI 0) = True := by
          refine eq_true ?_
          simp only [seS, hs1, h169, Bool.true_and, Bool.not_eq_true, Bool.not_eq_false', decide_eq_true_eq] at hsel
          exact hsel
        simp (disch := omega) only [f72_0, f72_1, f72_2, f72_3, f72_5, f72_6, f72_7, f72_8, f72_9, f72_10, f72_11, f72_12, f72_13, f72_14, f72_15, f72_16, f72_17, f72_18, f72_19, f72_20, f72_21, f72_22, f72_23, f72_24, f72_25, f72_26, f72_27, f72_28, f72_29, f72_30, f72_31, f72_32, f72_33, f72_34, f72_35, f72_36, f72_37, f72_38, f72_39, f72_40, f72_41, f72_42, gf_155_1', gf_35_1', gf_35_0', gf_155_2', gf_44_0', la_3, la_17, la_18, la_19, la_45, la_52, la_54, la_153, la_154, la_156, la_157, la_6, la_21, la_48, la_56, la_67, la_79, la_105, al_55', rc_1, rc_2, rc_35, rc_44, rc_51, rc_53, rc_77, rc_152, rc_155, rc_5, rc_47, rc_104, ni_pred, kv_e, kx_e, kw_e, kn_e, ct_s, ct_v, cr_t, q_ri, q_rz0', q_rz1', q_rb, q_rv, Nat.add_sub_cancel_left, ni_m1lt, ni_m1le, ni_ltm1, ni_lem1, Nat.add_sub_cancel, nI_add, pk_mul, ni_sub, ni_lt, ni_le, ni_eq, ni_m1, ni_m1', nd_lt_t, nd_lt_f, nd_le_t, nd_le_f, nd_eq_t, nd_eq_f, bI_t', bI_f', bI_0', ↓reduceIte, not_true_eq_false, not_false_eq_true, reduceCtorEq, Bool.true_and, Bool.and_true, Bool.false_and, Bool.and_false, Bool.true_or, Bool.or_true, Bool.false_or, Bool.or_false, decide_true, decide_false, gu_ne, gu_eq, q235, h235, q45, w5, hA, htb, hs2', gd_gf, gd_rc, dgf_0, dgf_1, dgf_2, dgf_3, drc_s]
theorem c72 {t f R p n : Nat} {g0 : Gs} {dyn : Nat → Option iv_C} {s : Nat × Nat} {D ob h : Nat} {tr : List (Nat × Nat)} {sf : Nat → Bool} {F : Int32} {g : Gs} {l : List Vi} (hD : 4 ≤ D) (hW : Wd t f R p n g0 dyn) (ho : ob < p) (hh : h < 6) (ht : gdT tr) (hF' : ∀ j, j < f → tb F j = sf j) (hl : gdL l) (hw : wd g0 g) (hR : rA g l) (hT : trA g tr) : ∃ g', iv_X D 72 [.ref 155, .int (nI ob), .int F, .int (nI h)] (gh g dyn, s) = some (some (.int (rsS (seS g0 sf h) (ftS g0) (acS g0 tr ob) R 0 l).1), (gh g' dyn, s)) ∧ rA g' (rsS (seS g0 sf h) (ftS g0) (acS g0 tr ob) R 0 l).2 ∧ fA g g' := by
  obtain ⟨d, rfl, hd⟩ := iv_dn hD
  obtain ⟨g', i1, i2, i3⟩ := lp72 (s := s) hd hW ho hh ht hF' R 0 g l iv_un (by omega) hl hw hR hT
  refine ⟨g', ?_, i2, i3⟩
  refine Eq.trans ?_ i1
  rw [en_72]
  simp (disch := omega) only [f72_0, f72_1, f72_2, f72_3, f72_5, f72_6, f72_7, f72_8, f72_9, f72_10, f72_11, f72_12, f72_13, f72_14, f72_15, f72_16, f72_17, f72_18, f72_19, f72_20, f72_21, f72_22, f72_23, f72_24, f72_25, f72_26, f72_27, f72_28, f72_29, f72_30, f72_31, f72_32, f72_33, f72_34, f72_35, f72_36, f72_37, f72_38, f72_39, f72_40, f72_41, f72_42, gf_155_1', gf_35_1', gf_35_0', gf_155_2', gf_44_0', la_3, la_17, la_18, la_19, la_45, la_52, la_54, la_153, la_154, la_156, la_157, la_6, la_21, la_48, la_56, la_67, la_79, la_105, al_55', rc_1, rc_2, rc_35, rc_44, rc_51, rc_53, rc_77, rc_152, rc_155, rc_5, rc_47, rc_104, ni_pred, kv_e, kx_e, kw_e, kn_e, ct_s, ct_v, cr_t, q_ri, q_rz0', q_rz1', q_rb, q_rv, Nat.add_sub_cancel_left, ni_m1lt, ni_m1le, ni_ltm1, ni_lem1, Nat.add_sub_cancel, nI_add, pk_mul, ni_sub, ni_lt, ni_le, ni_eq, ni_m1, ni_m1', nd_lt_t, nd_lt_f, nd_le_t, nd_le_f, nd_eq_t, nd_eq_f, bI_t', bI_f', bI_0', ↓reduceIte, not_true_eq_false, not_false_eq_true, reduceCtorEq, Bool.true_and, Bool.and_true, Bool.false_and, Bool.and_false, Bool.true_or, Bool.or_true, Bool.false_or, Bool.or_false, decide_true, decide_false, gu_ne, gu_eq]
theorem lk_v {t f p : Nat} {g : Gs} {i j : Nat} (hF : iFd t f g) (hV : iSt t f p g) (hi : i < 10) (hj : j < f) : kpW g i j (-1) (g 56 i j) ∧ lkW g i j (-1) (g 181 0 (14 * i + j)) false ∧ ∀ (k : Nat) (u v : Int32), k < 4 → ftA k (kdS g j) false = true → brA k u v (g 56 i j) = brB k u v (g 181 0 (14 * i + j)) false := by
  obtain ⟨kd, hk, hkd, h18, h161, h⟩ := vl_cs hF hV hi hj
  have hp := hV.1
  refine ⟨?_, .inr ⟨rfl, rfl, rfl⟩, ?_⟩
  · rcases h with ⟨rfl, _, h⟩ | ⟨rfl, _, ⟨h1, h2⟩ | ⟨v, hv, h1, h2⟩⟩ | ⟨h2', ⟨_, h1, h2⟩ | ⟨hv, h1, h2, _⟩⟩
    · exact .inr (.inl ⟨rfl, h161, h⟩)
    · exact .inr (.inr ⟨rfl, 1, by omega, by omega, h161, by rw [h1, h2]; decide⟩)
    · exact .inr (.inr ⟨rfl, 1, by omega, by omega, h161, by rw [h1, h2, ni_sub (by omega), Nat.add_sub_cancel]⟩)
    · exact .inr (.inr ⟨rfl, kd, by omega, hk, h161, by rw [h1, h2]; decide⟩)
    · exact .inr (.inr ⟨rfl, kd, by omega, hk, h161, by rw [h1, h2, ni_sub (by omega), Nat.add_sub_cancel]⟩)
  · intro k u v hk4 hft
    rw [hkd] at hft
    have hk' : k = 0 ∨ k = 1 ∨ k = 2 ∨ k = 3 := by omega
    rcases h with ⟨rfl, _, h⟩ | ⟨rfl, _, h⟩ | ⟨h2', h⟩
    · rw [h]
      rcases hk' with rfl | rfl | rfl | rfl
      · exact absurd hft (by decide)
      · simp [brA, brB]
      · simp [brA, brB]
      · exact absurd hft (by decide)
    · rcases hk' with rfl | rfl | rfl | rfl
      · rcases h with ⟨h1, h2⟩ | ⟨v, hv, h1, h2⟩
        · rw [h1, h2]
          simp [brA, brB]
        · rw [h1, h2]
          simp only [brA, brB, if_true, ni_m1 (show v < 2 ^ 31 by omega), ni_eq (show v + 1 < 2 ^ 31 by omega) (show 0 < 2 ^ 31 by omega), Bool.not_false, Bool.true_and]
          simp
      · exact absurd hft (by decide)
      · exact absurd hft (by decide)
      · exact absurd hft (by decide)
    · rcases hk' with rfl | rfl | rfl | rfl
      · rcases h with ⟨_, h1, h2⟩ | ⟨hv, h1, h2, _⟩
        · rw [h1, h2]
          simp [brA, brB]
        · rw [h1, h2]
          simp only [brA, brB, if_true, ni_m1 (show szS g i j < 2 ^ 31 by omega), ni_eq (show szS g i j + 1 < 2 ^ 31 by omega) (show 0 < 2 ^ 31 by omega), Bool.not_false, Bool.true_and]
          simp
      · simp [ftA] at hft; omega
      · simp [ftA] at hft; omega
      · rcases h with ⟨_, h1, h2⟩ | ⟨hv, h1, h2, _⟩
        · rw [h1, h2]
          simp [brA, brB]
        · rw [h1, h2]
          have e1 : (nI 0 < nI (szS g i j + 1)) = True := by
            rw [ni_lt (by omega) (by omega)]
            exact eq_true (by omega)
          simp only [brA, brB, ni_m1 (show szS g i j < 2 ^ 31 by omega), ni_sub (show 1 ≤ szS g i j + 1 by omega), Nat.add_sub_cancel, e1, ne_eq, not_false_eq_true, decide_true, Bool.true_and]
          simp
theorem lk_e {t f p : Nat} {g : Gs} {i j q : Nat} (hF : iFd t f g) (hV : iSt t f p g) (hi : i < 10) (hj : j < f) (hq : q < szS g i j) : kpW g i j (nI q) (g 67 i (j * 3 + q)) ∧ lkW g i j (nI q) (g 182 0 (3 * (14 * i + j) + q)) true ∧ ∀ (k : Nat) (u v : Int32), k < 4 → ftA k (kdS g j) true = true → brA k u v (g 67 i (j * 3 + q)) = brB k u v (g 182 0 (3 * (14 * i + j) + q)) true := by
  obtain ⟨kd, hk, hkd, h18, h161, h⟩ := vl_cs hF hV hi hj
  have hp := hV.1
  have hz := sz_le hF hV hi hj
  rcases h with ⟨_, h, _⟩ | ⟨_, h, _⟩ | ⟨h2', ⟨h, _⟩ | ⟨hv, h1, h2, h3⟩⟩
  · omega
  · omega
  · omega
  · obtain ⟨e1, e2⟩ := h3 q hq
    refine ⟨.inl ⟨q, by omega, rfl, e1⟩, .inl ⟨q, by omega, rfl, rfl, rfl⟩, ?_⟩
    intro k u v hk4 hft
    rw [hkd] at hft
    rw [e1]
    have hk' : k = 0 ∨ k = 1 ∨ k = 2 ∨ k = 3 := by omega
    rcases hk' with rfl | rfl | rfl | rfl
    · have h3k : kd = 3 := by simpa [ftA] using hft
      obtain ⟨w, hw, hw'⟩ := e2 h3k
      rw [hw']
      simp only [brA, brB, if_true, ni_m1 (show w < 2 ^ 31 by omega), Bool.not_true, Bool.false_and]
      simp
    · simp [brA, brB]
    · simp [brA, brB]
    · simp [ftA] at hft
