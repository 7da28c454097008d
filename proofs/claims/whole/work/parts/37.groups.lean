/-! extend, member -/
theorem c84 {g : Gs} {dyn : Nat → Option iv_C} {s : Nat × Nat} {D : Nat} {a b : Nat} (hD : 1 ≤ D) (ha : a < 6) (hb : b < 6) : iv_X D 84 [.ref 44, .int (nI a), .int (nI b)] (gh g dyn, s) = some (some (.int (bI (tb (g 45 0 a) b))), (gh g dyn, s)) := by
  obtain ⟨d, rfl, hd⟩ := iv_dn hD
  rw [en_84]
  cases h : tb (g 45 0 a) b with
  | false =>
    simp (disch := omega) only [f84_0, f84_1, f84_2, f84_3, f84_4, f84_5, f84_6, f84_7, f84_8, f84_9, f84_10, f84_11, f84_12, gf_44_0', la_3, la_17, la_18, la_19, la_45, la_52, la_54, la_153, la_154, la_156, la_157, la_6, la_21, la_48, la_56, la_67, la_79, la_105, al_4', al_20', al_37', al_46', al_55', al_66', al_78', al_103', ni_pred, kv_e, kx_e, kw_e, kn_e, ct_s, ct_v, cr_t, q_ri, q_rz0', q_rz1', q_rb, q_rv, Nat.add_sub_cancel_left, ni_m1lt, ni_m1le, ni_ltm1, ni_lem1, Nat.add_sub_cancel, nI_add, pk_mul, ni_sub, ni_lt, ni_le, ni_eq, ni_m1, ni_m1', nd_lt_t, nd_lt_f, nd_le_t, nd_le_f, nd_eq_t, nd_eq_f, bI_t', bI_f', bI_0', ↓reduceIte, not_true_eq_false, not_false_eq_true, reduceCtorEq, Bool.true_and, Bool.and_true, Bool.false_and, Bool.and_false, Bool.true_or, Bool.or_true, Bool.false_or, Bool.or_false, decide_true, decide_false, gu_ne, gu_eq, tb_test, h]
  | true =>
    simp (disch := omega) only [f84_0, f84_1, f84_2, f84_3, f84_4, f84_5, f84_6, f84_7, f84_8, f84_9, f84_10, f84_11, f84_12, gf_44_0', la_3, la_17, la_18, la_19, la_45, la_52, la_54, la_153, la_154, la_156, la_157, la_6, la_21, la_48, la_56, la_67, la_79, la_105, al_4', al_20', al_37', al_46', al_55', al_66', al_78', al_103', ni_pred, kv_e, kx_e, kw_e, kn_e, ct_s, ct_v, cr_t, q_ri, q_rz0', q_rz1', q_rb, q_rv, Nat.add_sub_cancel_left, ni_m1lt, ni_m1le, ni_ltm1, ni_lem1, Nat.add_sub_cancel, nI_add, pk_mul, ni_sub, ni_lt, ni_le, ni_eq, ni_m1, ni_m1', nd_lt_t, nd_lt_f, nd_le_t, nd_le_f, nd_eq_t, nd_eq_f, bI_t', bI_f', bI_0', ↓reduceIte, not_true_eq_false, not_false_eq_true, reduceCtorEq, Bool.true_and, Bool.and_true, Bool.false_and, Bool.and_false, Bool.true_or, Bool.or_true, Bool.false_or, Bool.or_false, decide_true, decide_false, gu_ne, gu_eq, tb_test, h]
def gwd (g : Gs) (a b n : Nat) : Gs := fun k r j => if k = 45 ∧ r = 0 ∧ j < n ∧ tb (g 45 0 j) a = true then (g 45 0 j ||| g 45 0 b) else g k r j
theorem gwd_0 {g : Gs} {a b : Nat} : gwd g a b 0 = g := by
  funext k r j
  exact if_neg (fun h => absurd h.2.2.1 (by omega))
theorem gwd_n {g : Gs} {a b n : Nat} : gwd g a b n 45 0 n = g 45 0 n := if_neg (fun h => absurd h.2.2.1 (by omega))
theorem gwd_b {g : Gs} {a b n : Nat} (h : tb (g 45 0 b) a = false) : gwd g a b n 45 0 b = g 45 0 b := if_neg (fun e => by rw [h] at e; exact absurd e.2.2.2 (by decide))
theorem gwd_ne {g : Gs} {a b n k : Nat} (h : k ≠ 45) : gwd g a b n k = g k := by
  funext r j
  exact if_neg (fun e => h e.1)
theorem gwd_s {g : Gs} {a b n : Nat} (h : tb (g 45 0 n) a = true) : gu (gwd g a b n) 45 0 n (g 45 0 n ||| g 45 0 b) = gwd g a b (n + 1) := by
  funext k r j
  simp only [gu, gwd]
  by_cases h1 : k = 45
  · by_cases h2 : r = 0
    · by_cases h3 : j = n
      · subst h1 h2 h3
        rw [if_pos rfl, if_pos rfl, if_pos rfl, if_pos ⟨rfl, rfl, by omega, h⟩]
      · rw [if_pos h1, if_pos h2, if_neg h3]
        by_cases h4 : tb (g 45 0 j) a = true
        · by_cases h5 : j < n
          · rw [if_pos ⟨h1, h2, h5, h4⟩, if_pos ⟨h1, h2, by omega, h4⟩]
          · rw [if_neg (fun e => h5 e.2.2.1), if_neg (fun e => absurd e.2.2.1 (by omega))]
        · rw [if_neg (fun e => h4 e.2.2.2), if_neg (fun e => h4 e.2.2.2)]
    · rw [if_pos h1, if_neg h2, if_neg (fun e => h2 e.2.1), if_neg (fun e => h2 e.2.1)]
  · rw [if_neg h1, if_neg (fun e => h1 e.1), if_neg (fun e => h1 e.1)]
theorem gwd_t {g : Gs} {a b n : Nat} (h : tb (g 45 0 n) a = false) : gwd g a b n = gwd g a b (n + 1) := by
  funext k r j
  simp only [gwd]
  by_cases h3 : j = n
  · subst h3
    rw [if_neg (fun e => by rw [h] at e; exact absurd e.2.2.2 (by decide)), if_neg (fun e => by rw [h] at e; exact absurd e.2.2.2 (by decide))]
  · by_cases h5 : j < n
    · simp only [h5, show j < n + 1 by omega]
    · simp only [h5, show ¬ j < n + 1 by omega]
theorem lp85 {g : Gs} {dyn : Nat → Option iv_C} {s : Nat × Nat} {d a b : Nat} (hd : 1 ≤ d) (ha : a < 6) (hb' : b < 6) (hb : tb (g 45 0 b) a = false) : ∀ (m n : Nat), n + m = 6 → iv_V (iv_X d) mc_85 none 2 [.ref 44, .int (nI a), .int (nI b), .int (nI n)] [] (gh (gwd g a b n) dyn, s) = some (none, (gh (gwd g a b 6) dyn, s)) := by
  intro m
  induction m with
  | zero =>
    intro n hm
    obtain rfl : n = 6 := by omega
    rw [f85_2]
    simp (disch := omega) only [f85_0, f85_1, f85_3, f85_4, f85_5, f85_6, f85_7, f85_8, f85_9, f85_10, f85_11, f85_12, f85_13, f85_14, f85_15, f85_16, f85_17, f85_18, f85_19, f85_20, f85_21, f85_22, f85_23, gf_44_0', la_3, la_17, la_18, la_19, la_45, la_52, la_54, la_153, la_154, la_156, la_157, la_6, la_21, la_48, la_56, la_67, la_79, la_105, al_4', al_20', al_37', al_46', al_55', al_66', al_78', al_103', sa_3, sa_17, sa_18, sa_19, sa_19_0, sa_19_1, sa_45, sa_52, sa_54, sa_153, sa_156, sa_157, sa_6, sa_21, sa_48, sa_56, sa_67, sa_79, sa_105, rc_1, rc_2, rc_35, rc_44, rc_51, rc_53, rc_77, rc_152, rc_155, rc_5, rc_47, rc_104, rc_38, ni_pred, kv_e, kx_e, kw_e, kn_e, ct_s, ct_v, cr_t, q_ri, q_rz0', q_rz1', q_rb, q_rv, Nat.add_sub_cancel_left, ni_m1lt, ni_m1le, ni_ltm1, ni_lem1, Nat.add_sub_cancel, nI_add, pk_mul, ni_sub, ni_lt, ni_le, ni_eq, ni_m1, ni_m1', nd_lt_t, nd_lt_f, nd_le_t, nd_le_f, nd_eq_t, nd_eq_f, bI_t', bI_f', bI_0', ↓reduceIte, not_true_eq_false, not_false_eq_true, reduceCtorEq, Bool.true_and, Bool.and_true, Bool.false_and, Bool.and_false, Bool.true_or, Bool.or_true, Bool.false_or, Bool.or_false, decide_true, decide_false, gu_ne, gu_eq]
  | succ m ih =>
    intro n hm
    rw [f85_2]
    cases h : tb (g 45 0 n) a with
    | false =>
      simp (disch := omega) only [f85_0, f85_1, f85_3, f85_4, f85_5, f85_6, f85_7, f85_8, f85_9, f85_10, f85_11, f85_12, f85_13, f85_14, f85_15, f85_16, f85_17, f85_18, f85_19, f85_20, f85_21, f85_22, f85_23, gf_44_0', la_3, la_17, la_18, la_19, la_45, la_52, la_54, la_153, la_154, la_156, la_157, la_6, la_21, la_48, la_56, la_67, la_79, la_105, al_4', al_20', al_37', al_46', al_55', al_66', al_78', al_103', sa_3, sa_17, sa_18, sa_19, sa_19_0, sa_19_1, sa_45, sa_52, sa_54, sa_153, sa_156, sa_157, sa_6, sa_21, sa_48, sa_56, sa_67, sa_79, sa_105, rc_1, rc_2, rc_35, rc_44, rc_51, rc_53, rc_77, rc_152, rc_155, rc_5, rc_47, rc_104, rc_38, ni_pred, kv_e, kx_e, kw_e, kn_e, ct_s, ct_v, cr_t, q_ri, q_rz0', q_rz1', q_rb, q_rv, Nat.add_sub_cancel_left, ni_m1lt, ni_m1le, ni_ltm1, ni_lem1, Nat.add_sub_cancel, nI_add, pk_mul, ni_sub, ni_lt, ni_le, ni_eq, ni_m1, ni_m1', nd_lt_t, nd_lt_f, nd_le_t, nd_le_f, nd_eq_t, nd_eq_f, bI_t', bI_f', bI_0', ↓reduceIte, not_true_eq_false, not_false_eq_true, reduceCtorEq, Bool.true_and, Bool.and_true, Bool.false_and, Bool.and_false, Bool.true_or, Bool.or_true, Bool.false_or, Bool.or_false, decide_true, decide_false, gu_ne, gu_eq, c84, gwd_n, gwd_b hb, h]
      rw [gwd_t h]
      exact ih (n + 1) (by omega)
    | true =>
      simp (disch := omega) only [f85_0, f85_1, f85_3, f85_4, f85_5, f85_6, f85_7, f85_8, f85_9, f85_10, f85_11, f85_12, f85_13, f85_14, f85_15, f85_16, f85_17, f85_18, f85_19, f85_20, f85_21, f85_22, f85_23, gf_44_0', la_3, la_17, la_18, la_19, la_45, la_52, la_54, la_153, la_154, la_156, la_157, la_6, la_21, la_48, la_56, la_67, la_79, la_105, al_4', al_20', al_37', al_46', al_55', al_66', al_78', al_103', sa_3, sa_17, sa_18, sa_19, sa_19_0, sa_19_1, sa_45, sa_52, sa_54, sa_153, sa_156, sa_157, sa_6, sa_21, sa_48, sa_56, sa_67, sa_79, sa_105, rc_1, rc_2, rc_35, rc_44, rc_51, rc_53, rc_77, rc_152, rc_155, rc_5, rc_47, rc_104, rc_38, ni_pred, kv_e, kx_e, kw_e, kn_e, ct_s, ct_v, cr_t, q_ri, q_rz0', q_rz1', q_rb, q_rv, Nat.add_sub_cancel_left, ni_m1lt, ni_m1le, ni_ltm1, ni_lem1, Nat.add_sub_cancel, nI_add, pk_mul, ni_sub, ni_lt, ni_le, ni_eq, ni_m1, ni_m1', nd_lt_t, nd_lt_f, nd_le_t, nd_le_f, nd_eq_t, nd_eq_f, bI_t', bI_f', bI_0', ↓reduceIte, not_true_eq_false, not_false_eq_true, reduceCtorEq, Bool.true_and, Bool.and_true, Bool.false_and, Bool.and_false, Bool.true_or, Bool.or_true, Bool.false_or, Bool.or_false, decide_true, decide_false, gu_ne, gu_eq, c84, gwd_n, gwd_b hb, h]
      rw [gwd_s h]
      exact ih (n + 1) (by omega)
theorem c85 {g : Gs} {dyn : Nat → Option iv_C} {s : Nat × Nat} {D : Nat} {a b : Nat} (hD : 2 ≤ D) (ha : a < 6) (hb' : b < 6) (hb : tb (g 45 0 b) a = false) : iv_X D 85 [.ref 44, .int (nI a), .int (nI b)] (gh g dyn, s) = some (none, (gh (gwd g a b 6) dyn, s)) := by
  obtain ⟨d, rfl, hd⟩ := iv_dn hD
  rw [en_85]
  simp (disch := omega) only [f85_0, f85_1, f85_3, f85_4, f85_5, f85_6, f85_7, f85_8, f85_9, f85_10, f85_11, f85_12, f85_13, f85_14, f85_15, f85_16, f85_17, f85_18, f85_19, f85_20, f85_21, f85_22, f85_23, gf_44_0', la_3, la_17, la_18, la_19, la_45, la_52, la_54, la_153, la_154, la_156, la_157, la_6, la_21, la_48, la_56, la_67, la_79, la_105, al_4', al_20', al_37', al_46', al_55', al_66', al_78', al_103', sa_3, sa_17, sa_18, sa_19, sa_19_0, sa_19_1, sa_45, sa_52, sa_54, sa_153, sa_156, sa_157, sa_6, sa_21, sa_48, sa_56, sa_67, sa_79, sa_105, rc_1, rc_2, rc_35, rc_44, rc_51, rc_53, rc_77, rc_152, rc_155, rc_5, rc_47, rc_104, rc_38, ni_pred, kv_e, kx_e, kw_e, kn_e, ct_s, ct_v, cr_t, q_ri, q_rz0', q_rz1', q_rb, q_rv, Nat.add_sub_cancel_left, ni_m1lt, ni_m1le, ni_ltm1, ni_lem1, Nat.add_sub_cancel, nI_add, pk_mul, ni_sub, ni_lt, ni_le, ni_eq, ni_m1, ni_m1', nd_lt_t, nd_lt_f, nd_le_t, nd_le_f, nd_eq_t, nd_eq_f, bI_t', bI_f', bI_0', ↓reduceIte, not_true_eq_false, not_false_eq_true, reduceCtorEq, Bool.true_and, Bool.and_true, Bool.false_and, Bool.and_false, Bool.true_or, Bool.or_true, Bool.false_or, Bool.or_false, decide_true, decide_false, gu_ne, gu_eq]
  have e := lp85 (dyn := dyn) (s := s) hd ha hb' hb 6 0 rfl
  rw [gwd_0] at e
  exact e
theorem c8_no {g : Gs} {dyn : Nat → Option iv_C} {s : Nat × Nat} {D : Nat} {x y : Int32} (hD : 3 ≤ D) (hn : ¬ (ixb x 6 = true ∧ ixb y 6 = true)) : iv_X D 8 [.ref 1, .int x, .int y] (gh g dyn, s) = some (some (.int (nI 0)), (gh g dyn, s)) := by
  obtain ⟨d, rfl, hd⟩ := iv_dn hD
  rw [en_8]
  cases hx : ixb x 6 with
  | false =>
    simp (disch := omega) only [f8_0, f8_1, f8_2, f8_3, f8_4, f8_5, f8_6, f8_7, f8_8, f8_9, f8_10, f8_11, f8_12, f8_13, f8_14, f8_15, f8_16, f8_17, f8_18, f8_19, f8_20, f8_21, f8_22, f8_23, f8_24, gf_1_2', rc_1, rc_2, rc_35, rc_44, rc_51, rc_53, rc_77, rc_152, rc_155, rc_5, rc_47, rc_104, rc_38, ni_pred, kv_e, kx_e, kw_e, kn_e, ct_s, ct_v, cr_t, q_ri, q_rz0', q_rz1', q_rb, q_rv, Nat.add_sub_cancel_left, ni_m1lt, ni_m1le, ni_ltm1, ni_lem1, Nat.add_sub_cancel, nI_add, pk_mul, ni_sub, ni_lt, ni_le, ni_eq, ni_m1, ni_m1', nd_lt_t, nd_lt_f, nd_le_t, nd_le_f, nd_eq_t, nd_eq_f, bI_t', bI_f', bI_0', ↓reduceIte, not_true_eq_false, not_false_eq_true, reduceCtorEq, Bool.true_and, Bool.and_true, Bool.false_and, Bool.and_false, Bool.true_or, Bool.or_true, Bool.false_or, Bool.or_false, decide_true, decide_false, gu_ne, gu_eq, x82, hx]
  | true =>
    have hy : ixb y 6 = false := ix_f (fun h => hn ⟨hx, h⟩)
    simp (disch := omega) only [f8_0, f8_1, f8_2, f8_3, f8_4, f8_5, f8_6, f8_7, f8_8, f8_9, f8_10, f8_11, f8_12, f8_13, f8_14, f8_15, f8_16, f8_17, f8_18, f8_19, f8_20, f8_21, f8_22, f8_23, f8_24, gf_1_2', rc_1, rc_2, rc_35, rc_44, rc_51, rc_53, rc_77, rc_152, rc_155, rc_5, rc_47, rc_104, rc_38, ni_pred, kv_e, kx_e, kw_e, kn_e, ct_s, ct_v, cr_t, q_ri, q_rz0', q_rz1', q_rb, q_rv, Nat.add_sub_cancel_left, ni_m1lt, ni_m1le, ni_ltm1, ni_lem1, Nat.add_sub_cancel, nI_add, pk_mul, ni_sub, ni_lt, ni_le, ni_eq, ni_m1, ni_m1', nd_lt_t, nd_lt_f, nd_le_t, nd_le_f, nd_eq_t, nd_eq_f, bI_t', bI_f', bI_0', ↓reduceIte, not_true_eq_false, not_false_eq_true, reduceCtorEq, Bool.true_and, Bool.and_true, Bool.false_and, Bool.and_false, Bool.true_or, Bool.or_true, Bool.false_or, Bool.or_false, decide_true, decide_false, gu_ne, gu_eq, x82, hx, hy]
theorem c8_c {g : Gs} {dyn : Nat → Option iv_C} {s : Nat × Nat} {D : Nat} {a b : Nat} (hD : 3 ≤ D) (ha : a < 6) (hb' : b < 6) (hb : tb (g 45 0 b) a = true) : iv_X D 8 [.ref 1, .int (nI a), .int (nI b)] (gh g dyn, s) = some (some (.int (nI 0)), (gh g dyn, s)) := by
  obtain ⟨d, rfl, hd⟩ := iv_dn hD
  rw [en_8]
  simp (disch := omega) only [f8_0, f8_1, f8_2, f8_3, f8_4, f8_5, f8_6, f8_7, f8_8, f8_9, f8_10, f8_11, f8_12, f8_13, f8_14, f8_15, f8_16, f8_17, f8_18, f8_19, f8_20, f8_21, f8_22, f8_23, f8_24, gf_1_2', rc_1, rc_2, rc_35, rc_44, rc_51, rc_53, rc_77, rc_152, rc_155, rc_5, rc_47, rc_104, rc_38, ni_pred, kv_e, kx_e, kw_e, kn_e, ct_s, ct_v, cr_t, q_ri, q_rz0', q_rz1', q_rb, q_rv, Nat.add_sub_cancel_left, ni_m1lt, ni_m1le, ni_ltm1, ni_lem1, Nat.add_sub_cancel, nI_add, pk_mul, ni_sub, ni_lt, ni_le, ni_eq, ni_m1, ni_m1', nd_lt_t, nd_lt_f, nd_le_t, nd_le_f, nd_eq_t, nd_eq_f, bI_t', bI_f', bI_0', ↓reduceIte, not_true_eq_false, not_false_eq_true, reduceCtorEq, Bool.true_and, Bool.and_true, Bool.false_and, Bool.and_false, Bool.true_or, Bool.or_true, Bool.false_or, Bool.or_false, decide_true, decide_false, gu_ne, gu_eq, x82, ixb_t, c84, hb]
theorem c8_y {g : Gs} {dyn : Nat → Option iv_C} {s : Nat × Nat} {D : Nat} {a b : Nat} (hD : 3 ≤ D) (ha : a < 6) (hb' : b < 6) (hb : tb (g 45 0 b) a = false) : iv_X D 8 [.ref 1, .int (nI a), .int (nI b)] (gh g dyn, s) = some (some (.int (nI 1)), (gh (gwd g a b 6) dyn, s)) := by
  obtain ⟨d, rfl, hd⟩ := iv_dn hD
  rw [en_8]
  simp (disch := omega) only [f8_0, f8_1, f8_2, f8_3, f8_4, f8_5, f8_6, f8_7, f8_8, f8_9, f8_10, f8_11, f8_12, f8_13, f8_14, f8_15, f8_16, f8_17, f8_18, f8_19, f8_20, f8_21, f8_22, f8_23, f8_24, gf_1_2', rc_1, rc_2, rc_35, rc_44, rc_51, rc_53, rc_77, rc_152, rc_155, rc_5, rc_47, rc_104, rc_38, ni_pred, kv_e, kx_e, kw_e, kn_e, ct_s, ct_v, cr_t, q_ri, q_rz0', q_rz1', q_rb, q_rv, Nat.add_sub_cancel_left, ni_m1lt, ni_m1le, ni_ltm1, ni_lem1, Nat.add_sub_cancel, nI_add, pk_mul, ni_sub, ni_lt, ni_le, ni_eq, ni_m1, ni_m1', nd_lt_t, nd_lt_f, nd_le_t, nd_le_f, nd_eq_t, nd_eq_f, bI_t', bI_f', bI_0', ↓reduceIte, not_true_eq_false, not_false_eq_true, reduceCtorEq, Bool.true_and, Bool.and_true, Bool.false_and, Bool.and_false, Bool.true_or, Bool.or_true, Bool.false_or, Bool.or_false, decide_true, decide_false, gu_ne, gu_eq, x82, ixb_t, c84, c85, hb]
def clI (E : Nat → Int32) : Nat → Nat → Int32 → Int32
  | 0, _, S => S
  | m + 1, k, S => clI E m (k + 1) (if tb S k = true then S ||| E k else S)
def clO (E : Nat → Int32) : Nat → Int32 → Int32
  | 0, S => S
  | r + 1, S => clO E r (clI E 6 0 S)
def clo (E : Nat → Int32) (q : Nat) : Int32 := clO E 6 (bt q)
theorem lp31i {g : Gs} {dyn : Nat → Option iv_C} {s : Nat × Nat} {d q r : Nat} : ∀ (m k : Nat) (S : Int32), k + m = 6 → iv_V (iv_X d) mc_31 (some .int) 11 [.ref 158, .int (nI q), .int S, .int (nI r), .int (nI k)] [] (gh g dyn, s) = iv_V (iv_X d) mc_31 (some .int) 32 [.ref 158, .int (nI q), .int (clI (g 175 0) m k S), .int (nI r), .int (nI 6)] [] (gh g dyn, s) := by
  intro m
  induction m with
  | zero =>
    intro k S hm
    obtain rfl : k = 6 := by omega
    rw [f31_11]
    simp (disch := omega) only [f31_0, f31_1, f31_2, f31_3, f31_4, f31_5, f31_6, f31_7, f31_8, f31_9, f31_10, f31_12, f31_13, f31_14, f31_15, f31_16, f31_17, f31_18, f31_19, f31_20, f31_21, f31_22, f31_23, f31_24, f31_25, f31_26, f31_27, f31_28, f31_29, f31_30, f31_31, f31_33, f31_34, f31_35, gf_158_19', la_175, ni_pred, kv_e, kx_e, kw_e, kn_e, ct_s, ct_v, cr_t, q_ri, q_rz0', q_rz1', q_rb, q_rv, Nat.add_sub_cancel_left, ni_m1lt, ni_m1le, ni_ltm1, ni_lem1, Nat.add_sub_cancel, nI_add, pk_mul, ni_sub, ni_lt, ni_le, ni_eq, ni_m1, ni_m1', nd_lt_t, nd_lt_f, nd_le_t, nd_le_f, nd_eq_t, nd_eq_f, bI_t', bI_f', bI_0', ↓reduceIte, not_true_eq_false, not_false_eq_true, reduceCtorEq, Bool.true_and, Bool.and_true, Bool.false_and, Bool.and_false, Bool.true_or, Bool.or_true, Bool.false_or, Bool.or_false, decide_true, decide_false, gu_ne, gu_eq]
    rfl
  | succ m ih =>
    intro k S hm
    rw [f31_11]
    cases h : tb S k with
    | false =>
      simp (disch := omega) only [f31_0, f31_1, f31_2, f31_3, f31_4, f31_5, f31_6, f31_7, f31_8, f31_9, f31_10, f31_12, f31_13, f31_14, f31_15, f31_16, f31_17, f31_18, f31_19, f31_20, f31_21, f31_22, f31_23, f31_24, f31_25, f31_26, f31_27, f31_28, f31_29, f31_30, f31_31, f31_33, f31_34, f31_35, gf_158_19', la_175, ni_pred, kv_e, kx_e, kw_e, kn_e, ct_s, ct_v, cr_t, q_ri, q_rz0', q_rz1', q_rb, q_rv, Nat.add_sub_cancel_left, ni_m1lt, ni_m1le, ni_ltm1, ni_lem1, Nat.add_sub_cancel, nI_add, pk_mul, ni_sub, ni_lt, ni_le, ni_eq, ni_m1, ni_m1', nd_lt_t, nd_lt_f, nd_le_t, nd_le_f, nd_eq_t, nd_eq_f, bI_t', bI_f', bI_0', ↓reduceIte, not_true_eq_false, not_false_eq_true, reduceCtorEq, Bool.true_and, Bool.and_true, Bool.false_and, Bool.and_false, Bool.true_or, Bool.or_true, Bool.false_or, Bool.or_false, decide_true, decide_false, gu_ne, gu_eq, tb_test, h]
      rw [ih (k + 1) S (by omega)]
      simp only [clI, h, Bool.false_eq_true, if_false]
    | true =>
      simp (disch := omega) only [f31_0, f31_1, f31_2, f31_3, f31_4, f31_5, f31_6, f31_7, f31_8, f31_9, f31_10, f31_12, f31_13, f31_14, f31_15, f31_16, f31_17, f31_18, f31_19, f31_20, f31_21, f31_22, f31_23, f31_24, f31_25, f31_26, f31_27, f31_28, f31_29, f31_30, f31_31, f31_33, f31_34, f31_35, gf_158_19', la_175, ni_pred, kv_e, kx_e, kw_e, kn_e, ct_s, ct_v, cr_t, q_ri, q_rz0', q_rz1', q_rb, q_rv, Nat.add_sub_cancel_left, ni_m1lt, ni_m1le, ni_ltm1, ni_lem1, Nat.add_sub_cancel, nI_add, pk_mul, ni_sub, ni_lt, ni_le, ni_eq, ni_m1, ni_m1', nd_lt_t, nd_lt_f, nd_le_t, nd_le_f, nd_eq_t, nd_eq_f, bI_t', bI_f', bI_0', ↓reduceIte, not_true_eq_false, not_false_eq_true, reduceCtorEq, Bool.true_and, Bool.and_true, Bool.false_and, Bool.and_false, Bool.true_or, Bool.or_true, Bool.false_or, Bool.or_false, decide_true, decide_false, gu_ne, gu_eq, tb_test, h]
      rw [ih (k + 1) _ (by omega)]
      simp only [clI, h, if_true]
theorem lp31o {g : Gs} {dyn : Nat → Option iv_C} {s : Nat × Nat} {d q : Nat} {u : Value} : ∀ (m r : Nat) (S : Int32) (u : Value), r + m = 6 → iv_V (iv_X d) mc_31 (some .int) 6 [.ref 158, .int (nI q), .int S, .int (nI r), u] [] (gh g dyn, s) = some (some (.int (clO (g 175 0) m S)), (gh g dyn, s)) := by
  intro m
  induction m with
  | zero =>
    intro r S u hm
    obtain rfl : r = 6 := by omega
    rw [f31_6]
    simp (disch := omega) only [f31_0, f31_1, f31_2, f31_3, f31_4, f31_5, f31_7, f31_8, f31_9, f31_10, f31_11, f31_12, f31_13, f31_14, f31_15, f31_16, f31_17, f31_18, f31_19, f31_20, f31_21, f31_22, f31_23, f31_24, f31_25, f31_26, f31_27, f31_28, f31_29, f31_30, f31_31, f31_32, f31_33, f31_34, f31_35, gf_158_19', la_175, ni_pred, kv_e, kx_e, kw_e, kn_e, ct_s, ct_v, cr_t, q_ri, q_rz0', q_rz1', q_rb, q_rv, Nat.add_sub_cancel_left, ni_m1lt, ni_m1le, ni_ltm1, ni_lem1, Nat.add_sub_cancel, nI_add, pk_mul, ni_sub, ni_lt, ni_le, ni_eq, ni_m1, ni_m1', nd_lt_t, nd_lt_f, nd_le_t, nd_le_f, nd_eq_t, nd_eq_f, bI_t', bI_f', bI_0', ↓reduceIte, not_true_eq_false, not_false_eq_true, reduceCtorEq, Bool.true_and, Bool.and_true, Bool.false_and, Bool.and_false, Bool.true_or, Bool.or_true, Bool.false_or, Bool.or_false, decide_true, decide_false, gu_ne, gu_eq]
    rfl
  | succ m ih =>
    intro r S u hm
    rw [f31_6]
    simp (disch := omega) only [f31_0, f31_1, f31_2, f31_3, f31_4, f31_5, f31_7, f31_8, f31_9, f31_10, f31_12, f31_13, f31_14, f31_15, f31_16, f31_17, f31_18, f31_19, f31_20, f31_21, f31_22, f31_23, f31_24, f31_25, f31_26, f31_27, f31_28, f31_29, f31_30, f31_31, f31_32, f31_33, f31_34, f31_35, gf_158_19', la_175, ni_pred, kv_e, kx_e, kw_e, kn_e, ct_s, ct_v, cr_t, q_ri, q_rz0', q_rz1', q_rb, q_rv, Nat.add_sub_cancel_left, ni_m1lt, ni_m1le, ni_ltm1, ni_lem1, Nat.add_sub_cancel, nI_add, pk_mul, ni_sub, ni_lt, ni_le, ni_eq, ni_m1, ni_m1', nd_lt_t, nd_lt_f, nd_le_t, nd_le_f, nd_eq_t, nd_eq_f, bI_t', bI_f', bI_0', ↓reduceIte, not_true_eq_false, not_false_eq_true, reduceCtorEq, Bool.true_and, Bool.and_true, Bool.false_and, Bool.and_false, Bool.true_or, Bool.or_true, Bool.false_or, Bool.or_false, decide_true, decide_false, gu_ne, gu_eq]
    rw [lp31i 6 0 S rfl]
    simp (disch := omega) only [f31_0, f31_1, f31_2, f31_3, f31_4, f31_5, f31_7, f31_8, f31_9, f31_10, f31_12, f31_13, f31_14, f31_15, f31_16, f31_17, f31_18, f31_19, f31_20, f31_21, f31_22, f31_23, f31_24, f31_25, f31_26, f31_27, f31_28, f31_29, f31_30, f31_31, f31_32, f31_33, f31_34, f31_35, gf_158_19', la_175, ni_pred, kv_e, kx_e, kw_e, kn_e, ct_s, ct_v, cr_t, q_ri, q_rz0', q_rz1', q_rb, q_rv, Nat.add_sub_cancel_left, ni_m1lt, ni_m1le, ni_ltm1, ni_lem1, Nat.add_sub_cancel, nI_add, pk_mul, ni_sub, ni_lt, ni_le, ni_eq, ni_m1, ni_m1', nd_lt_t, nd_lt_f, nd_le_t, nd_le_f, nd_eq_t, nd_eq_f, bI_t', bI_f', bI_0', ↓reduceIte, not_true_eq_false, not_false_eq_true, reduceCtorEq, Bool.true_and, Bool.and_true, Bool.false_and, Bool.and_false, Bool.true_or, Bool.or_true, Bool.false_or, Bool.or_false, decide_true, decide_false, gu_ne, gu_eq]
    rw [ih (r + 1) _ _ (by omega)]
    rfl
theorem m31 {g : Gs} {dyn : Nat → Option iv_C} {s : Nat × Nat} {D : Nat} {q : Nat} (hD : 1 ≤ D) : iv_X D 31 [.ref 158, .int (nI q)] (gh g dyn, s) = some (some (.int (clo (g 175 0) q)), (gh g dyn, s)) := by
  obtain ⟨d, rfl, hd⟩ := iv_dn hD
  rw [en_31]
  simp (disch := omega) only [f31_0, f31_1, f31_2, f31_3, f31_4, f31_5, f31_7, f31_8, f31_9, f31_10, f31_11, f31_12, f31_13, f31_14, f31_15, f31_16, f31_17, f31_18, f31_19, f31_20, f31_21, f31_22, f31_23, f31_24, f31_25, f31_26, f31_27, f31_28, f31_29, f31_30, f31_31, f31_32, f31_33, f31_34, f31_35, gf_158_19', la_175, ni_pred, kv_e, kx_e, kw_e, kn_e, ct_s, ct_v, cr_t, q_ri, q_rz0', q_rz1', q_rb, q_rv, Nat.add_sub_cancel_left, ni_m1lt, ni_m1le, ni_ltm1, ni_lem1, Nat.add_sub_cancel, nI_add, pk_mul, ni_sub, ni_lt, ni_le, ni_eq, ni_m1, ni_m1', nd_lt_t, nd_lt_f, nd_le_t, nd_le_f, nd_eq_t, nd_eq_f, bI_t', bI_f', bI_0', ↓reduceIte, not_true_eq_false, not_false_eq_true, reduceCtorEq, Bool.true_and, Bool.and_true, Bool.false_and, Bool.and_false, Bool.true_or, Bool.or_true, Bool.false_or, Bool.or_false, decide_true, decide_false, gu_ne, gu_eq, bt_e]
  exact lp31o (u := iv_un) 6 0 _ _ rfl
theorem m32_no {g : Gs} {dyn : Nat → Option iv_C} {s : Nat × Nat} {D : Nat} {x y : Int32} (hD : 3 ≤ D) (hn : ¬ (ixb x 6 = true ∧ ixb y 6 = true)) : iv_X D 32 [.ref 158, .int x, .int y] (gh g dyn, s) = some (some (.int (nI 0)), (gh g dyn, s)) := by
  obtain ⟨d, rfl, hd⟩ := iv_dn hD
  rw [en_32]
  cases hx : ixb x 6 with
  | false =>
    simp (disch := omega) only [f32_0, f32_1, f32_2, f32_3, f32_4, f32_5, f32_6, f32_7, f32_8, f32_9, f32_10, f32_11, f32_12, f32_13, f32_14, f32_15, f32_16, f32_17, f32_18, f32_19, f32_20, f32_21, f32_22, f32_23, f32_24, f32_25, f32_26, f32_27, f32_28, f32_29, f32_30, f32_31, f32_32, f32_33, f32_34, gf_158_19', la_175, sa_175, rc_158, ni_pred, kv_e, kx_e, kw_e, kn_e, ct_s, ct_v, cr_t, q_ri, q_rz0', q_rz1', q_rb, q_rv, Nat.add_sub_cancel_left, ni_m1lt, ni_m1le, ni_ltm1, ni_lem1, Nat.add_sub_cancel, nI_add, pk_mul, ni_sub, ni_lt, ni_le, ni_eq, ni_m1, ni_m1', nd_lt_t, nd_lt_f, nd_le_t, nd_le_f, nd_eq_t, nd_eq_f, bI_t', bI_f', bI_0', ↓reduceIte, not_true_eq_false, not_false_eq_true, reduceCtorEq, Bool.true_and, Bool.and_true, Bool.false_and, Bool.and_false, Bool.true_or, Bool.or_true, Bool.false_or, Bool.or_false, decide_true, decide_false, gu_ne, gu_eq, x25, hx, Nat.reduceAdd, inb_0, inb_0', inb_m, inb_m']
  | true =>
    have hy : ixb y 6 = false := ix_f (fun h => hn ⟨hx, h⟩)
    simp (disch := omega) only [f32_0, f32_1, f32_2, f32_3, f32_4, f32_5, f32_6, f32_7, f32_8, f32_9, f32_10, f32_11, f32_12, f32_13, f32_14, f32_15, f32_16, f32_17, f32_18, f32_19, f32_20, f32_21, f32_22, f32_23, f32_24, f32_25, f32_26, f32_27, f32_28, f32_29, f32_30, f32_31, f32_32, f32_33, f32_34, gf_158_19', la_175, sa_175, rc_158, ni_pred, kv_e, kx_e, kw_e, kn_e, ct_s, ct_v, cr_t, q_ri, q_rz0', q_rz1', q_rb, q_rv, Nat.add_sub_cancel_left, ni_m1lt, ni_m1le, ni_ltm1, ni_lem1, Nat.add_sub_cancel, nI_add, pk_mul, ni_sub, ni_lt, ni_le, ni_eq, ni_m1, ni_m1', nd_lt_t, nd_lt_f, nd_le_t, nd_le_f, nd_eq_t, nd_eq_f, bI_t', bI_f', bI_0', ↓reduceIte, not_true_eq_false, not_false_eq_true, reduceCtorEq, Bool.true_and, Bool.and_true, Bool.false_and, Bool.and_false, Bool.true_or, Bool.or_true, Bool.false_or, Bool.or_false, decide_true, decide_false, gu_ne, gu_eq, x25, hx, hy, Nat.reduceAdd, inb_0, inb_0', inb_m, inb_m']
theorem m32_c {g : Gs} {dyn : Nat → Option iv_C} {s : Nat × Nat} {D : Nat} {a b : Nat} (hD : 3 ≤ D) (ha : a < 6) (hb' : b < 6) (hb : tb (clo (g 175 0) b) a = true) : iv_X D 32 [.ref 158, .int (nI a), .int (nI b)] (gh g dyn, s) = some (some (.int (nI 0)), (gh g dyn, s)) := by
  obtain ⟨d, rfl, hd⟩ := iv_dn hD
  rw [en_32]
  simp (disch := omega) only [f32_0, f32_1, f32_2, f32_3, f32_4, f32_5, f32_6, f32_7, f32_8, f32_9, f32_10, f32_11, f32_12, f32_13, f32_14, f32_15, f32_16, f32_17, f32_18, f32_19, f32_20, f32_21, f32_22, f32_23, f32_24, f32_25, f32_26, f32_27, f32_28, f32_29, f32_30, f32_31, f32_32, f32_33, f32_34, gf_158_19', la_175, sa_175, rc_158, ni_pred, kv_e, kx_e, kw_e, kn_e, ct_s, ct_v, cr_t, q_ri, q_rz0', q_rz1', q_rb, q_rv, Nat.add_sub_cancel_left, ni_m1lt, ni_m1le, ni_ltm1, ni_lem1, Nat.add_sub_cancel, nI_add, pk_mul, ni_sub, ni_lt, ni_le, ni_eq, ni_m1, ni_m1', nd_lt_t, nd_lt_f, nd_le_t, nd_le_f, nd_eq_t, nd_eq_f, bI_t', bI_f', bI_0', ↓reduceIte, not_true_eq_false, not_false_eq_true, reduceCtorEq, Bool.true_and, Bool.and_true, Bool.false_and, Bool.and_false, Bool.true_or, Bool.or_true, Bool.false_or, Bool.or_false, decide_true, decide_false, gu_ne, gu_eq, x25, ixb_t, m31, hb, tb_test, Nat.reduceAdd, inb_0, inb_0', inb_m, inb_m']
theorem m32_y {g : Gs} {dyn : Nat → Option iv_C} {s : Nat × Nat} {D : Nat} {a b : Nat} (hD : 3 ≤ D) (ha : a < 6) (hb' : b < 6) (hb : tb (clo (g 175 0) b) a = false) : iv_X D 32 [.ref 158, .int (nI a), .int (nI b)] (gh g dyn, s) = some (some (.int (nI 1)), (gh (gu g 175 0 a (g 175 0 a ||| bt b)) dyn, s)) := by
  obtain ⟨d, rfl, hd⟩ := iv_dn hD
  rw [en_32]
  simp (disch := omega) only [f32_0, f32_1, f32_2, f32_3, f32_4, f32_5, f32_6, f32_7, f32_8, f32_9, f32_10, f32_11, f32_12, f32_13, f32_14, f32_15, f32_16, f32_17, f32_18, f32_19, f32_20, f32_21, f32_22, f32_23, f32_24, f32_25, f32_26, f32_27, f32_28, f32_29, f32_30, f32_31, f32_32, f32_33, f32_34, gf_158_19', la_175, sa_175, rc_158, ni_pred, kv_e, kx_e, kw_e, kn_e, ct_s, ct_v, cr_t, q_ri, q_rz0', q_rz1', q_rb, q_rv, Nat.add_sub_cancel_left, ni_m1lt, ni_m1le, ni_ltm1, ni_lem1, Nat.add_sub_cancel, nI_add, pk_mul, ni_sub, ni_lt, ni_le, ni_eq, ni_m1, ni_m1', nd_lt_t, nd_lt_f, nd_le_t, nd_le_f, nd_eq_t, nd_eq_f, bI_t', bI_f', bI_0', ↓reduceIte, not_true_eq_false, not_false_eq_true, reduceCtorEq, Bool.true_and, Bool.and_true, Bool.false_and, Bool.and_false, Bool.true_or, Bool.or_true, Bool.false_or, Bool.or_false, decide_true, decide_false, gu_ne, gu_eq, x25, ixb_t, m31, hb, tb_test, bt_e, Nat.reduceAdd, inb_0, inb_0', inb_m, inb_m']
theorem sqb_of {x : Int32} (h : sqb x = true) : ∃ q, q < 2 ∧ x = nI (6 + q) := by
  simp only [sqb, decide_eq_true_eq] at h
  rcases pk_ix x (n := 8) (by omega) with h1 | h1 | ⟨j, hj, h1⟩
  · have h2 : nI 0 ≤ nI 6 := by decide
    have h3 := h.1
    rw [Int32.le_iff_toInt_le] at h2 h3
    rw [Int32.lt_iff_toInt_lt] at h1
    have e : (nI 0).toInt = (0 : Int32).toInt := rfl
    omega
  · exact absurd h.2 (Int32.not_lt.mpr h1)
  · subst h1
    have h6 := (nI_leI (by omega) (by omega)).mp h.1
    exact ⟨j - 6, by omega, by rw [show 6 + (j - 6) = j by omega]⟩
theorem sqb_t {q : Nat} (h : q < 2) : sqb (nI (6 + q)) = true := by
  simp only [sqb, decide_eq_true_eq]
  exact ⟨nI_le (by omega) (by omega), nI_lt (by omega) (by omega)⟩
theorem sqb_8 {x : Int32} (h : ixb x 8 = false) : ixb x 6 = false ∧ sqb x = false := by
  constructor
  · refine ix_f (fun e => ?_)
    obtain ⟨j, hj, rfl⟩ := ixb_of e (by omega)
    rw [ixb_t (by omega) (by omega)] at h
    exact absurd h (by decide)
  · cases e : sqb x
    · rfl
    · obtain ⟨q, hq, rfl⟩ := sqb_of e
      rw [ixb_t (by omega) (by omega)] at h
      exact absurd h (by decide)
theorem sqb_in {x : Int32} : inb x (nI 6) (nI 7) = sqb x := by
  apply Bool.eq_iff_iff.mpr
  simp only [inb, sqb, decide_eq_true_eq, Int32.le_iff_toInt_le, Int32.lt_iff_toInt_lt]
  have e7 : (nI 7).toInt = 7 := rfl
  have e8 : (nI 8).toInt = 8 := rfl
  omega
theorem ixb_6f {q : Nat} (h : q < 2) : ixb (nI (6 + q)) 6 = false := by
  refine ix_f (fun e => ?_)
  simp only [ixb, decide_eq_true_eq] at e
  have := (nI_ltI (by omega) (by omega)).mp e.2
  omega
theorem c9_no {g : Gs} {dyn : Nat → Option iv_C} {s : Nat × Nat} {D : Nat} {x y : Int32} (hD : 3 ≤ D) (hn : ¬ (sqb x = true ∧ ixb y 8 = true)) : iv_X D 9 [.ref 1, .int x, .int y] (gh g dyn, s) = some (some (.int (nI 0)), (gh g dyn, s)) := by
  obtain ⟨d, rfl, hd⟩ := iv_dn hD
  rw [en_9]
  cases hx : sqb x with
  | false =>
    simp (disch := omega) only [f9_0, f9_1, f9_2, f9_3, f9_4, f9_5, f9_6, f9_7, f9_8, f9_9, f9_10, f9_11, f9_12, f9_13, f9_14, f9_15, f9_16, f9_17, f9_18, f9_19, f9_20, f9_21, f9_22, f9_23, f9_24, f9_25, f9_26, gf_1_2', gf_44_1', la_3, la_17, la_18, la_19, la_45, la_52, la_54, la_153, la_154, la_156, la_157, la_6, la_21, la_48, la_56, la_67, la_79, la_105, al_4', al_20', al_37', al_46', al_55', al_66', al_78', al_103', rc_1, rc_2, rc_35, rc_44, rc_51, rc_53, rc_77, rc_152, rc_155, rc_5, rc_47, rc_104, rc_38, ni_pred, kv_e, kx_e, kw_e, kn_e, ct_s, ct_v, cr_t, q_ri, q_rz0', q_rz1', q_rb, q_rv, Nat.add_sub_cancel_left, ni_m1lt, ni_m1le, ni_ltm1, ni_lem1, Nat.add_sub_cancel, nI_add, pk_mul, ni_sub, ni_lt, ni_le, ni_eq, ni_m1, ni_m1', nd_lt_t, nd_lt_f, nd_le_t, nd_le_f, nd_eq_t, nd_eq_f, bI_t', bI_f', bI_0', ↓reduceIte, not_true_eq_false, not_false_eq_true, reduceCtorEq, Bool.true_and, Bool.and_true, Bool.false_and, Bool.and_false, Bool.true_or, Bool.or_true, Bool.false_or, Bool.or_false, decide_true, decide_false, gu_ne, gu_eq, x83, hx]
  | true =>
    obtain ⟨h1, h2⟩ := sqb_8 (ix_f (fun h => hn ⟨hx, h⟩))
    simp (disch := omega) only [f9_0, f9_1, f9_2, f9_3, f9_4, f9_5, f9_6, f9_7, f9_8, f9_9, f9_10, f9_11, f9_12, f9_13, f9_14, f9_15, f9_16, f9_17, f9_18, f9_19, f9_20, f9_21, f9_22, f9_23, f9_24, f9_25, f9_26, gf_1_2', gf_44_1', la_3, la_17, la_18, la_19, la_45, la_52, la_54, la_153, la_154, la_156, la_157, la_6, la_21, la_48, la_56, la_67, la_79, la_105, al_4', al_20', al_37', al_46', al_55', al_66', al_78', al_103', rc_1, rc_2, rc_35, rc_44, rc_51, rc_53, rc_77, rc_152, rc_155, rc_5, rc_47, rc_104, rc_38, ni_pred, kv_e, kx_e, kw_e, kn_e, ct_s, ct_v, cr_t, q_ri, q_rz0', q_rz1', q_rb, q_rv, Nat.add_sub_cancel_left, ni_m1lt, ni_m1le, ni_ltm1, ni_lem1, Nat.add_sub_cancel, nI_add, pk_mul, ni_sub, ni_lt, ni_le, ni_eq, ni_m1, ni_m1', nd_lt_t, nd_lt_f, nd_le_t, nd_le_f, nd_eq_t, nd_eq_f, bI_t', bI_f', bI_0', ↓reduceIte, not_true_eq_false, not_false_eq_true, reduceCtorEq, Bool.true_and, Bool.and_true, Bool.false_and, Bool.and_false, Bool.true_or, Bool.or_true, Bool.false_or, Bool.or_false, decide_true, decide_false, gu_ne, gu_eq, x83, x82, hx, h1, h2]
theorem c9_fg {g : Gs} {dyn : Nat → Option iv_C} {s : Nat × Nat} {D : Nat} {q z : Nat} (hD : 3 ≤ D) (hq : q < 2) (hz : z < 6) (hN : g 247 q 0 = nI 4) : iv_X D 9 [.ref 1, .int (nI (6 + q)), .int (nI z)] (gh g dyn, s) = some (some (.int (nI 0)), (gh g dyn, s)) := by
  obtain ⟨d, rfl, hd⟩ := iv_dn hD
  rw [en_9]
  simp (disch := omega) only [f9_0, f9_1, f9_2, f9_3, f9_4, f9_5, f9_6, f9_7, f9_8, f9_9, f9_10, f9_11, f9_12, f9_13, f9_14, f9_15, f9_16, f9_17, f9_18, f9_19, f9_20, f9_21, f9_22, f9_23, f9_24, f9_25, f9_26, gf_1_2', gf_44_1', la_3, la_17, la_18, la_19, la_45, la_52, la_54, la_153, la_154, la_156, la_157, la_6, la_21, la_48, la_56, la_67, la_79, la_105, al_4', al_20', al_37', al_46', al_55', al_66', al_78', al_103', rc_1, rc_2, rc_35, rc_44, rc_51, rc_53, rc_77, rc_152, rc_155, rc_5, rc_47, rc_104, rc_38, ni_pred, kv_e, kx_e, kw_e, kn_e, ct_s, ct_v, cr_t, q_ri, q_rz0', q_rz1', q_rb, q_rv, Nat.add_sub_cancel_left, ni_m1lt, ni_m1le, ni_ltm1, ni_lem1, Nat.add_sub_cancel, nI_add, pk_mul, ni_sub, ni_lt, ni_le, ni_eq, ni_m1, ni_m1', nd_lt_t, nd_lt_f, nd_le_t, nd_le_f, nd_eq_t, nd_eq_f, bI_t', bI_f', bI_0', ↓reduceIte, not_true_eq_false, not_false_eq_true, reduceCtorEq, Bool.true_and, Bool.and_true, Bool.false_and, Bool.and_false, Bool.true_or, Bool.or_true, Bool.false_or, Bool.or_false, decide_true, decide_false, gu_ne, gu_eq, x83, x82, sqb_t, hN, c95s_f, ixb_t]
theorem c9_yg {g : Gs} {dyn : Nat → Option iv_C} {s : Nat × Nat} {D : Nat} {q z n : Nat} (hD : 3 ≤ D) (hq : q < 2) (hz : z < 6) (hN : g 247 q 0 = nI n) (hn : n < 4) : iv_X D 9 [.ref 1, .int (nI (6 + q)), .int (nI z)] (gh g dyn, s) = some (some (.int (nI 1)), (gh (gu (gu g 48 q n (nI z)) 247 q 0 (nI (n + 1))) dyn, s)) := by
  obtain ⟨d, rfl, hd⟩ := iv_dn hD
  rw [en_9]
  simp (disch := omega) only [f9_0, f9_1, f9_2, f9_3, f9_4, f9_5, f9_6, f9_7, f9_8, f9_9, f9_10, f9_11, f9_12, f9_13, f9_14, f9_15, f9_16, f9_17, f9_18, f9_19, f9_20, f9_21, f9_22, f9_23, f9_24, f9_25, f9_26, gf_1_2', gf_44_1', la_3, la_17, la_18, la_19, la_45, la_52, la_54, la_153, la_154, la_156, la_157, la_6, la_21, la_48, la_56, la_67, la_79, la_105, al_4', al_20', al_37', al_46', al_55', al_66', al_78', al_103', rc_1, rc_2, rc_35, rc_44, rc_51, rc_53, rc_77, rc_152, rc_155, rc_5, rc_47, rc_104, rc_38, ni_pred, kv_e, kx_e, kw_e, kn_e, ct_s, ct_v, cr_t, q_ri, q_rz0', q_rz1', q_rb, q_rv, Nat.add_sub_cancel_left, ni_m1lt, ni_m1le, ni_ltm1, ni_lem1, Nat.add_sub_cancel, nI_add, pk_mul, ni_sub, ni_lt, ni_le, ni_eq, ni_m1, ni_m1', nd_lt_t, nd_lt_f, nd_le_t, nd_le_f, nd_eq_t, nd_eq_f, bI_t', bI_f', bI_0', ↓reduceIte, not_true_eq_false, not_false_eq_true, reduceCtorEq, Bool.true_and, Bool.and_true, Bool.false_and, Bool.and_false, Bool.true_or, Bool.or_true, Bool.false_or, Bool.or_false, decide_true, decide_false, gu_ne, gu_eq, x83, x82, sqb_t, hN, c95s_y (n := n), ixb_t]
theorem c9_fs {g : Gs} {dyn : Nat → Option iv_C} {s : Nat × Nat} {D : Nat} {q z : Nat} (hD : 3 ≤ D) (hq : q < 2) (hz : z < 2) (hN : g 247 q 0 = nI 4) : iv_X D 9 [.ref 1, .int (nI (6 + q)), .int (nI (6 + z))] (gh g dyn, s) = some (some (.int (nI 0)), (gh g dyn, s)) := by
  obtain ⟨d, rfl, hd⟩ := iv_dn hD
  rw [en_9]
  simp (disch := omega) only [f9_0, f9_1, f9_2, f9_3, f9_4, f9_5, f9_6, f9_7, f9_8, f9_9, f9_10, f9_11, f9_12, f9_13, f9_14, f9_15, f9_16, f9_17, f9_18, f9_19, f9_20, f9_21, f9_22, f9_23, f9_24, f9_25, f9_26, gf_1_2', gf_44_1', la_3, la_17, la_18, la_19, la_45, la_52, la_54, la_153, la_154, la_156, la_157, la_6, la_21, la_48, la_56, la_67, la_79, la_105, al_4', al_20', al_37', al_46', al_55', al_66', al_78', al_103', rc_1, rc_2, rc_35, rc_44, rc_51, rc_53, rc_77, rc_152, rc_155, rc_5, rc_47, rc_104, rc_38, ni_pred, kv_e, kx_e, kw_e, kn_e, ct_s, ct_v, cr_t, q_ri, q_rz0', q_rz1', q_rb, q_rv, Nat.add_sub_cancel_left, ni_m1lt, ni_m1le, ni_ltm1, ni_lem1, Nat.add_sub_cancel, nI_add, pk_mul, ni_sub, ni_lt, ni_le, ni_eq, ni_m1, ni_m1', nd_lt_t, nd_lt_f, nd_le_t, nd_le_f, nd_eq_t, nd_eq_f, bI_t', bI_f', bI_0', ↓reduceIte, not_true_eq_false, not_false_eq_true, reduceCtorEq, Bool.true_and, Bool.and_true, Bool.false_and, Bool.and_false, Bool.true_or, Bool.or_true, Bool.false_or, Bool.or_false, decide_true, decide_false, gu_ne, gu_eq, x83, x82, sqb_t, hN, c95s_f, ixb_6f, sqb_t]
theorem c9_ys {g : Gs} {dyn : Nat → Option iv_C} {s : Nat × Nat} {D : Nat} {q z n : Nat} (hD : 3 ≤ D) (hq : q < 2) (hz : z < 2) (hN : g 247 q 0 = nI n) (hn : n < 4) : iv_X D 9 [.ref 1, .int (nI (6 + q)), .int (nI (6 + z))] (gh g dyn, s) = some (some (.int (nI 1)), (gh (gu (gu g 48 q n (nI (6 + z))) 247 q 0 (nI (n + 1))) dyn, s)) := by
  obtain ⟨d, rfl, hd⟩ := iv_dn hD
  rw [en_9]
  simp (disch := omega) only [f9_0, f9_1, f9_2, f9_3, f9_4, f9_5, f9_6, f9_7, f9_8, f9_9, f9_10, f9_11, f9_12, f9_13, f9_14, f9_15, f9_16, f9_17, f9_18, f9_19, f9_20, f9_21, f9_22, f9_23, f9_24, f9_25, f9_26, gf_1_2', gf_44_1', la_3, la_17, la_18, la_19, la_45, la_52, la_54, la_153, la_154, la_156, la_157, la_6, la_21, la_48, la_56, la_67, la_79, la_105, al_4', al_20', al_37', al_46', al_55', al_66', al_78', al_103', rc_1, rc_2, rc_35, rc_44, rc_51, rc_53, rc_77, rc_152, rc_155, rc_5, rc_47, rc_104, rc_38, ni_pred, kv_e, kx_e, kw_e, kn_e, ct_s, ct_v, cr_t, q_ri, q_rz0', q_rz1', q_rb, q_rv, Nat.add_sub_cancel_left, ni_m1lt, ni_m1le, ni_ltm1, ni_lem1, Nat.add_sub_cancel, nI_add, pk_mul, ni_sub, ni_lt, ni_le, ni_eq, ni_m1, ni_m1', nd_lt_t, nd_lt_f, nd_le_t, nd_le_f, nd_eq_t, nd_eq_f, bI_t', bI_f', bI_0', ↓reduceIte, not_true_eq_false, not_false_eq_true, reduceCtorEq, Bool.true_and, Bool.and_true, Bool.false_and, Bool.and_false, Bool.true_or, Bool.or_true, Bool.false_or, Bool.or_false, decide_true, decide_false, gu_ne, gu_eq, x83, x82, sqb_t, hN, c95s_y (n := n), ixb_6f, sqb_t]
theorem m33_no {g : Gs} {dyn : Nat → Option iv_C} {s : Nat × Nat} {D : Nat} {x y : Int32} (hD : 2 ≤ D) (hn : ¬ (sqb x = true ∧ ixb y 8 = true)) : iv_X D 33 [.ref 158, .int x, .int y] (gh g dyn, s) = some (some (.int (nI 0)), (gh g dyn, s)) := by
  obtain ⟨d, rfl, hd⟩ := iv_dn hD
  rw [en_33]
  cases hx : sqb x with
  | false =>
    simp (disch := omega) only [f33_0, f33_1, f33_2, f33_3, f33_4, f33_5, f33_6, f33_7, f33_8, f33_9, f33_10, f33_11, f33_12, f33_13, f33_14, f33_15, f33_16, f33_17, f33_18, f33_19, f33_20, f33_21, f33_22, f33_23, f33_24, f33_25, f33_26, f33_27, f33_28, f33_29, f33_30, f33_31, f33_32, f33_33, f33_34, f33_35, f33_36, f33_37, f33_38, f33_39, f33_40, f33_41, f33_42, f33_43, f33_44, f33_45, f33_46, f33_47, gf_158_20', la_176, sa_176, gf_158_21', la_177, sa_177, ni_pred, kv_e, kx_e, kw_e, kn_e, ct_s, ct_v, cr_t, q_ri, q_rz0', q_rz1', q_rb, q_rv, Nat.add_sub_cancel_left, ni_m1lt, ni_m1le, ni_ltm1, ni_lem1, Nat.add_sub_cancel, nI_add, pk_mul, ni_sub, ni_lt, ni_le, ni_eq, ni_m1, ni_m1', nd_lt_t, nd_lt_f, nd_le_t, nd_le_f, nd_eq_t, nd_eq_f, bI_t', bI_f', bI_0', ↓reduceIte, not_true_eq_false, not_false_eq_true, reduceCtorEq, Bool.true_and, Bool.and_true, Bool.false_and, Bool.and_false, Bool.true_or, Bool.or_true, Bool.false_or, Bool.or_false, decide_true, decide_false, gu_ne, gu_eq, x25, sqb_in, hx]
  | true =>
    have hy : ixb y 8 = false := ix_f (fun h => hn ⟨hx, h⟩)
    simp (disch := omega) only [f33_0, f33_1, f33_2, f33_3, f33_4, f33_5, f33_6, f33_7, f33_8, f33_9, f33_10, f33_11, f33_12, f33_13, f33_14, f33_15, f33_16, f33_17, f33_18, f33_19, f33_20, f33_21, f33_22, f33_23, f33_24, f33_25, f33_26, f33_27, f33_28, f33_29, f33_30, f33_31, f33_32, f33_33, f33_34, f33_35, f33_36, f33_37, f33_38, f33_39, f33_40, f33_41, f33_42, f33_43, f33_44, f33_45, f33_46, f33_47, gf_158_20', la_176, sa_176, gf_158_21', la_177, sa_177, ni_pred, kv_e, kx_e, kw_e, kn_e, ct_s, ct_v, cr_t, q_ri, q_rz0', q_rz1', q_rb, q_rv, Nat.add_sub_cancel_left, ni_m1lt, ni_m1le, ni_ltm1, ni_lem1, Nat.add_sub_cancel, nI_add, pk_mul, ni_sub, ni_lt, ni_le, ni_eq, ni_m1, ni_m1', nd_lt_t, nd_lt_f, nd_le_t, nd_le_f, nd_eq_t, nd_eq_f, bI_t', bI_f', bI_0', ↓reduceIte, not_true_eq_false, not_false_eq_true, reduceCtorEq, Bool.true_and, Bool.and_true, Bool.false_and, Bool.and_false, Bool.true_or, Bool.or_true, Bool.false_or, Bool.or_false, decide_true, decide_false, gu_ne, gu_eq, x25, sqb_in, hx, hy, Nat.reduceAdd, inb_0, inb_0', inb_m, inb_m']
theorem m33_f {g : Gs} {dyn : Nat → Option iv_C} {s : Nat × Nat} {D : Nat} {q : Nat} {y : Int32} (hD : 2 ≤ D) (hq : q < 2) (hy : ixb y 8 = true) (hN : g 176 0 q = nI 4) : iv_X D 33 [.ref 158, .int (nI (6 + q)), .int y] (gh g dyn, s) = some (some (.int (nI 0)), (gh g dyn, s)) := by
  obtain ⟨d, rfl, hd⟩ := iv_dn hD
  rw [en_33]
  simp (disch := omega) only [f33_0, f33_1, f33_2, f33_3, f33_4, f33_5, f33_6, f33_7, f33_8, f33_9, f33_10, f33_11, f33_12, f33_13, f33_14, f33_15, f33_16, f33_17, f33_18, f33_19, f33_20, f33_21, f33_22, f33_23, f33_24, f33_25, f33_26, f33_27, f33_28, f33_29, f33_30, f33_31, f33_32, f33_33, f33_34, f33_35, f33_36, f33_37, f33_38, f33_39, f33_40, f33_41, f33_42, f33_43, f33_44, f33_45, f33_46, f33_47, gf_158_20', la_176, sa_176, gf_158_21', la_177, sa_177, ni_pred, kv_e, kx_e, kw_e, kn_e, ct_s, ct_v, cr_t, q_ri, q_rz0', q_rz1', q_rb, q_rv, Nat.add_sub_cancel_left, ni_m1lt, ni_m1le, ni_ltm1, ni_lem1, Nat.add_sub_cancel, nI_add, pk_mul, ni_sub, ni_lt, ni_le, ni_eq, ni_m1, ni_m1', nd_lt_t, nd_lt_f, nd_le_t, nd_le_f, nd_eq_t, nd_eq_f, bI_t', bI_f', bI_0', ↓reduceIte, not_true_eq_false, not_false_eq_true, reduceCtorEq, Bool.true_and, Bool.and_true, Bool.false_and, Bool.and_false, Bool.true_or, Bool.or_true, Bool.false_or, Bool.or_false, decide_true, decide_false, gu_ne, gu_eq, x25, sqb_in, sqb_t, hy, hN, Nat.reduceAdd, inb_0, inb_0', inb_m, inb_m']
theorem m33_y {g : Gs} {dyn : Nat → Option iv_C} {s : Nat × Nat} {D : Nat} {q n : Nat} {y : Int32} (hD : 2 ≤ D) (hq : q < 2) (hy : ixb y 8 = true) (hN : g 176 0 q = nI n) (hn : n < 4) : iv_X D 33 [.ref 158, .int (nI (6 + q)), .int y] (gh g dyn, s) = some (some (.int (nI 1)), (gh (gu (gu g 177 0 (4 * q + n) y) 176 0 q (nI (n + 1))) dyn, s)) := by
  obtain ⟨d, rfl, hd⟩ := iv_dn hD
  rw [en_33]
  simp (disch := omega) only [f33_0, f33_1, f33_2, f33_3, f33_4, f33_5, f33_6, f33_7, f33_8, f33_9, f33_10, f33_11, f33_12, f33_13, f33_14, f33_15, f33_16, f33_17, f33_18, f33_19, f33_20, f33_21, f33_22, f33_23, f33_24, f33_25, f33_26, f33_27, f33_28, f33_29, f33_30, f33_31, f33_32, f33_33, f33_34, f33_35, f33_36, f33_37, f33_38, f33_39, f33_40, f33_41, f33_42, f33_43, f33_44, f33_45, f33_46, f33_47, gf_158_20', la_176, sa_176, gf_158_21', la_177, sa_177, ni_pred, kv_e, kx_e, kw_e, kn_e, ct_s, ct_v, cr_t, q_ri, q_rz0', q_rz1', q_rb, q_rv, Nat.add_sub_cancel_left, ni_m1lt, ni_m1le, ni_ltm1, ni_lem1, Nat.add_sub_cancel, nI_add, pk_mul, ni_sub, ni_lt, ni_le, ni_eq, ni_m1, ni_m1', nd_lt_t, nd_lt_f, nd_le_t, nd_le_f, nd_eq_t, nd_eq_f, bI_t', bI_f', bI_0', ↓reduceIte, not_true_eq_false, not_false_eq_true, reduceCtorEq, Bool.true_and, Bool.and_true, Bool.false_and, Bool.and_false, Bool.true_or, Bool.or_true, Bool.false_or, Bool.or_false, decide_true, decide_false, gu_ne, gu_eq, x25, sqb_in, sqb_t, hy, hN, Nat.reduceAdd, inb_0, inb_0', inb_m, inb_m']
