/-! small questions -/
theorem ni_pred {a : Nat} : nI (a + 1) - nI 1 = nI a := nI_pred a
theorem x102 {g : Gs} {dyn : Nat → Option iv_C} {s : Nat × Nat} {D : Nat} {x : Int32} {t : Nat} (hD : 1 ≤ D) (h : g 200 0 0 = nI t) : iv_X D 102 [.ref 2, .int x] (gh g dyn, s) = some (some (.int (bI (ixb x t))), (gh g dyn, s)) := by
  obtain ⟨d, rfl, hd⟩ := iv_dn hD
  rw [en_102]
  by_cases h0 : x < nI 0
  · have e : ixb x t = false := by
      simp only [ixb, decide_eq_false_iff_not]
      exact fun h => absurd h.1 (Int32.not_le.mpr h0)
    simp (disch := omega) only [f102_0, f102_1, f102_2, f102_3, f102_4, f102_5, f102_6, f102_7, f102_8, f102_9, gf_2_0', ni_pred, kv_e, kx_e, kw_e, kn_e, ct_s, ct_v, cr_t, q_ri, q_rz0', q_rz1', q_rb, q_rv, nI_add, pk_mul, ni_sub, ni_lt, ni_le, ni_eq, ni_m1, ni_m1', nd_lt_t, nd_lt_f, nd_le_t, nd_le_f, nd_eq_t, nd_eq_f, bI_t', bI_f', bI_0', ↓reduceIte, not_true_eq_false, not_false_eq_true, reduceCtorEq, Bool.true_and, Bool.and_true, Bool.false_and, Bool.and_false, Bool.true_or, Bool.or_true, Bool.false_or, Bool.or_false, decide_true, decide_false, gu_ne, gu_eq, h, h0, e]
  · by_cases h1 : nI t ≤ x
    · have e : ixb x t = false := by
        simp only [ixb, decide_eq_false_iff_not]
        exact fun h => absurd h.2 (Int32.not_lt.mpr h1)
      simp (disch := omega) only [f102_0, f102_1, f102_2, f102_3, f102_4, f102_5, f102_6, f102_7, f102_8, f102_9, gf_2_0', ni_pred, kv_e, kx_e, kw_e, kn_e, ct_s, ct_v, cr_t, q_ri, q_rz0', q_rz1', q_rb, q_rv, nI_add, pk_mul, ni_sub, ni_lt, ni_le, ni_eq, ni_m1, ni_m1', nd_lt_t, nd_lt_f, nd_le_t, nd_le_f, nd_eq_t, nd_eq_f, bI_t', bI_f', bI_0', ↓reduceIte, not_true_eq_false, not_false_eq_true, reduceCtorEq, Bool.true_and, Bool.and_true, Bool.false_and, Bool.and_false, Bool.true_or, Bool.or_true, Bool.false_or, Bool.or_false, decide_true, decide_false, gu_ne, gu_eq, h, h0, h1, e]
    · have e : ixb x t = true := by
        simp only [ixb, decide_eq_true_eq]
        exact ⟨Int32.not_lt.mp h0, Int32.not_le.mp h1⟩
      simp (disch := omega) only [f102_0, f102_1, f102_2, f102_3, f102_4, f102_5, f102_6, f102_7, f102_8, f102_9, gf_2_0', ni_pred, kv_e, kx_e, kw_e, kn_e, ct_s, ct_v, cr_t, q_ri, q_rz0', q_rz1', q_rb, q_rv, nI_add, pk_mul, ni_sub, ni_lt, ni_le, ni_eq, ni_m1, ni_m1', nd_lt_t, nd_lt_f, nd_le_t, nd_le_f, nd_eq_t, nd_eq_f, bI_t', bI_f', bI_0', ↓reduceIte, not_true_eq_false, not_false_eq_true, reduceCtorEq, Bool.true_and, Bool.and_true, Bool.false_and, Bool.and_false, Bool.true_or, Bool.or_true, Bool.false_or, Bool.or_false, decide_true, decide_false, gu_ne, gu_eq, h, h0, h1, e]
theorem x103 {g : Gs} {dyn : Nat → Option iv_C} {s : Nat × Nat} {D : Nat} {x : Int32} {t : Nat} (hD : 1 ≤ D) (h : g 203 0 0 = nI t) : iv_X D 103 [.ref 2, .int x] (gh g dyn, s) = some (some (.int (bI (ixb x t))), (gh g dyn, s)) := by
  obtain ⟨d, rfl, hd⟩ := iv_dn hD
  rw [en_103]
  by_cases h0 : x < nI 0
  · have e : ixb x t = false := by
      simp only [ixb, decide_eq_false_iff_not]
      exact fun h => absurd h.1 (Int32.not_le.mpr h0)
    simp (disch := omega) only [f103_0, f103_1, f103_2, f103_3, f103_4, f103_5, f103_6, f103_7, f103_8, f103_9, gf_2_3', ni_pred, kv_e, kx_e, kw_e, kn_e, ct_s, ct_v, cr_t, q_ri, q_rz0', q_rz1', q_rb, q_rv, nI_add, pk_mul, ni_sub, ni_lt, ni_le, ni_eq, ni_m1, ni_m1', nd_lt_t, nd_lt_f, nd_le_t, nd_le_f, nd_eq_t, nd_eq_f, bI_t', bI_f', bI_0', ↓reduceIte, not_true_eq_false, not_false_eq_true, reduceCtorEq, Bool.true_and, Bool.and_true, Bool.false_and, Bool.and_false, Bool.true_or, Bool.or_true, Bool.false_or, Bool.or_false, decide_true, decide_false, gu_ne, gu_eq, h, h0, e]
  · by_cases h1 : nI t ≤ x
    · have e : ixb x t = false := by
        simp only [ixb, decide_eq_false_iff_not]
        exact fun h => absurd h.2 (Int32.not_lt.mpr h1)
      simp (disch := omega) only [f103_0, f103_1, f103_2, f103_3, f103_4, f103_5, f103_6, f103_7, f103_8, f103_9, gf_2_3', ni_pred, kv_e, kx_e, kw_e, kn_e, ct_s, ct_v, cr_t, q_ri, q_rz0', q_rz1', q_rb, q_rv, nI_add, pk_mul, ni_sub, ni_lt, ni_le, ni_eq, ni_m1, ni_m1', nd_lt_t, nd_lt_f, nd_le_t, nd_le_f, nd_eq_t, nd_eq_f, bI_t', bI_f', bI_0', ↓reduceIte, not_true_eq_false, not_false_eq_true, reduceCtorEq, Bool.true_and, Bool.and_true, Bool.false_and, Bool.and_false, Bool.true_or, Bool.or_true, Bool.false_or, Bool.or_false, decide_true, decide_false, gu_ne, gu_eq, h, h0, h1, e]
    · have e : ixb x t = true := by
        simp only [ixb, decide_eq_true_eq]
        exact ⟨Int32.not_lt.mp h0, Int32.not_le.mp h1⟩
      simp (disch := omega) only [f103_0, f103_1, f103_2, f103_3, f103_4, f103_5, f103_6, f103_7, f103_8, f103_9, gf_2_3', ni_pred, kv_e, kx_e, kw_e, kn_e, ct_s, ct_v, cr_t, q_ri, q_rz0', q_rz1', q_rb, q_rv, nI_add, pk_mul, ni_sub, ni_lt, ni_le, ni_eq, ni_m1, ni_m1', nd_lt_t, nd_lt_f, nd_le_t, nd_le_f, nd_eq_t, nd_eq_f, bI_t', bI_f', bI_0', ↓reduceIte, not_true_eq_false, not_false_eq_true, reduceCtorEq, Bool.true_and, Bool.and_true, Bool.false_and, Bool.and_false, Bool.true_or, Bool.or_true, Bool.false_or, Bool.or_false, decide_true, decide_false, gu_ne, gu_eq, h, h0, h1, e]
theorem x111 {g : Gs} {dyn : Nat → Option iv_C} {s : Nat × Nat} {D : Nat} {x : Int32} {t : Nat} (hD : 1 ≤ D) (h : g 253 0 0 = nI t) : iv_X D 111 [.ref 53, .int x] (gh g dyn, s) = some (some (.int (bI (ixb x t))), (gh g dyn, s)) := by
  obtain ⟨d, rfl, hd⟩ := iv_dn hD
  rw [en_111]
  by_cases h0 : x < nI 0
  · have e : ixb x t = false := by
      simp only [ixb, decide_eq_false_iff_not]
      exact fun h => absurd h.1 (Int32.not_le.mpr h0)
    simp (disch := omega) only [f111_0, f111_1, f111_2, f111_3, f111_4, f111_5, f111_6, f111_7, f111_8, f111_9, gf_53_0', ni_pred, kv_e, kx_e, kw_e, kn_e, ct_s, ct_v, cr_t, q_ri, q_rz0', q_rz1', q_rb, q_rv, nI_add, pk_mul, ni_sub, ni_lt, ni_le, ni_eq, ni_m1, ni_m1', nd_lt_t, nd_lt_f, nd_le_t, nd_le_f, nd_eq_t, nd_eq_f, bI_t', bI_f', bI_0', ↓reduceIte, not_true_eq_false, not_false_eq_true, reduceCtorEq, Bool.true_and, Bool.and_true, Bool.false_and, Bool.and_false, Bool.true_or, Bool.or_true, Bool.false_or, Bool.or_false, decide_true, decide_false, gu_ne, gu_eq, h, h0, e]
  · by_cases h1 : nI t ≤ x
    · have e : ixb x t = false := by
        simp only [ixb, decide_eq_false_iff_not]
        exact fun h => absurd h.2 (Int32.not_lt.mpr h1)
      simp (disch := omega) only [f111_0, f111_1, f111_2, f111_3, f111_4, f111_5, f111_6, f111_7, f111_8, f111_9, gf_53_0', ni_pred, kv_e, kx_e, kw_e, kn_e, ct_s, ct_v, cr_t, q_ri, q_rz0', q_rz1', q_rb, q_rv, nI_add, pk_mul, ni_sub, ni_lt, ni_le, ni_eq, ni_m1, ni_m1', nd_lt_t, nd_lt_f, nd_le_t, nd_le_f, nd_eq_t, nd_eq_f, bI_t', bI_f', bI_0', ↓reduceIte, not_true_eq_false, not_false_eq_true, reduceCtorEq, Bool.true_and, Bool.and_true, Bool.false_and, Bool.and_false, Bool.true_or, Bool.or_true, Bool.false_or, Bool.or_false, decide_true, decide_false, gu_ne, gu_eq, h, h0, h1, e]
    · have e : ixb x t = true := by
        simp only [ixb, decide_eq_true_eq]
        exact ⟨Int32.not_lt.mp h0, Int32.not_le.mp h1⟩
      simp (disch := omega) only [f111_0, f111_1, f111_2, f111_3, f111_4, f111_5, f111_6, f111_7, f111_8, f111_9, gf_53_0', ni_pred, kv_e, kx_e, kw_e, kn_e, ct_s, ct_v, cr_t, q_ri, q_rz0', q_rz1', q_rb, q_rv, nI_add, pk_mul, ni_sub, ni_lt, ni_le, ni_eq, ni_m1, ni_m1', nd_lt_t, nd_lt_f, nd_le_t, nd_le_f, nd_eq_t, nd_eq_f, bI_t', bI_f', bI_0', ↓reduceIte, not_true_eq_false, not_false_eq_true, reduceCtorEq, Bool.true_and, Bool.and_true, Bool.false_and, Bool.and_false, Bool.true_or, Bool.or_true, Bool.false_or, Bool.or_false, decide_true, decide_false, gu_ne, gu_eq, h, h0, h1, e]
theorem x88 {g : Gs} {dyn : Nat → Option iv_C} {s : Nat × Nat} {D : Nat} {x : Int32} {t : Nat} (hD : 1 ≤ D) (h : g 277 0 0 = nI t) : iv_X D 88 [.ref 77, .int x] (gh g dyn, s) = some (some (.int (bI (ixb x t))), (gh g dyn, s)) := by
  obtain ⟨d, rfl, hd⟩ := iv_dn hD
  rw [en_88]
  by_cases h0 : x < nI 0
  · have e : ixb x t = false := by
      simp only [ixb, decide_eq_false_iff_not]
      exact fun h => absurd h.1 (Int32.not_le.mpr h0)
    simp (disch := omega) only [f88_0, f88_1, f88_2, f88_3, f88_4, f88_5, f88_6, f88_7, f88_8, f88_9, gf_77_0', ni_pred, kv_e, kx_e, kw_e, kn_e, ct_s, ct_v, cr_t, q_ri, q_rz0', q_rz1', q_rb, q_rv, nI_add, pk_mul, ni_sub, ni_lt, ni_le, ni_eq, ni_m1, ni_m1', nd_lt_t, nd_lt_f, nd_le_t, nd_le_f, nd_eq_t, nd_eq_f, bI_t', bI_f', bI_0', ↓reduceIte, not_true_eq_false, not_false_eq_true, reduceCtorEq, Bool.true_and, Bool.and_true, Bool.false_and, Bool.and_false, Bool.true_or, Bool.or_true, Bool.false_or, Bool.or_false, decide_true, decide_false, gu_ne, gu_eq, h, h0, e]
  · by_cases h1 : nI t ≤ x
    · have e : ixb x t = false := by
        simp only [ixb, decide_eq_false_iff_not]
        exact fun h => absurd h.2 (Int32.not_lt.mpr h1)
      simp (disch := omega) only [f88_0, f88_1, f88_2, f88_3, f88_4, f88_5, f88_6, f88_7, f88_8, f88_9, gf_77_0', ni_pred, kv_e, kx_e, kw_e, kn_e, ct_s, ct_v, cr_t, q_ri, q_rz0', q_rz1', q_rb, q_rv, nI_add, pk_mul, ni_sub, ni_lt, ni_le, ni_eq, ni_m1, ni_m1', nd_lt_t, nd_lt_f, nd_le_t, nd_le_f, nd_eq_t, nd_eq_f, bI_t', bI_f', bI_0', ↓reduceIte, not_true_eq_false, not_false_eq_true, reduceCtorEq, Bool.true_and, Bool.and_true, Bool.false_and, Bool.and_false, Bool.true_or, Bool.or_true, Bool.false_or, Bool.or_false, decide_true, decide_false, gu_ne, gu_eq, h, h0, h1, e]
    · have e : ixb x t = true := by
        simp only [ixb, decide_eq_true_eq]
        exact ⟨Int32.not_lt.mp h0, Int32.not_le.mp h1⟩
      simp (disch := omega) only [f88_0, f88_1, f88_2, f88_3, f88_4, f88_5, f88_6, f88_7, f88_8, f88_9, gf_77_0', ni_pred, kv_e, kx_e, kw_e, kn_e, ct_s, ct_v, cr_t, q_ri, q_rz0', q_rz1', q_rb, q_rv, nI_add, pk_mul, ni_sub, ni_lt, ni_le, ni_eq, ni_m1, ni_m1', nd_lt_t, nd_lt_f, nd_le_t, nd_le_f, nd_eq_t, nd_eq_f, bI_t', bI_f', bI_0', ↓reduceIte, not_true_eq_false, not_false_eq_true, reduceCtorEq, Bool.true_and, Bool.and_true, Bool.false_and, Bool.and_false, Bool.true_or, Bool.or_true, Bool.false_or, Bool.or_false, decide_true, decide_false, gu_ne, gu_eq, h, h0, h1, e]
theorem x82 {g : Gs} {dyn : Nat → Option iv_C} {s : Nat × Nat} {D : Nat} {x : Int32} (hD : 1 ≤ D) : iv_X D 82 [.ref 44, .int x] (gh g dyn, s) = some (some (.int (bI (ixb x 6))), (gh g dyn, s)) := by
  obtain ⟨d, rfl, hd⟩ := iv_dn hD
  rw [en_82]
  by_cases h0 : x < nI 0
  · have e : ixb x 6 = false := by
      simp only [ixb, decide_eq_false_iff_not]
      exact fun h => absurd h.1 (Int32.not_le.mpr h0)
    simp (disch := omega) only [f82_0, f82_1, f82_2, f82_3, f82_4, f82_5, f82_6, f82_7, f82_8, ni_pred, kv_e, kx_e, kw_e, kn_e, ct_s, ct_v, cr_t, q_ri, q_rz0', q_rz1', q_rb, q_rv, nI_add, pk_mul, ni_sub, ni_lt, ni_le, ni_eq, ni_m1, ni_m1', nd_lt_t, nd_lt_f, nd_le_t, nd_le_f, nd_eq_t, nd_eq_f, bI_t', bI_f', bI_0', ↓reduceIte, not_true_eq_false, not_false_eq_true, reduceCtorEq, Bool.true_and, Bool.and_true, Bool.false_and, Bool.and_false, Bool.true_or, Bool.or_true, Bool.false_or, Bool.or_false, decide_true, decide_false, gu_ne, gu_eq, h0, e]
  · by_cases h1 : nI 6 ≤ x
    · have e : ixb x 6 = false := by
        simp only [ixb, decide_eq_false_iff_not]
        exact fun h => absurd h.2 (Int32.not_lt.mpr h1)
      simp (disch := omega) only [f82_0, f82_1, f82_2, f82_3, f82_4, f82_5, f82_6, f82_7, f82_8, ni_pred, kv_e, kx_e, kw_e, kn_e, ct_s, ct_v, cr_t, q_ri, q_rz0', q_rz1', q_rb, q_rv, nI_add, pk_mul, ni_sub, ni_lt, ni_le, ni_eq, ni_m1, ni_m1', nd_lt_t, nd_lt_f, nd_le_t, nd_le_f, nd_eq_t, nd_eq_f, bI_t', bI_f', bI_0', ↓reduceIte, not_true_eq_false, not_false_eq_true, reduceCtorEq, Bool.true_and, Bool.and_true, Bool.false_and, Bool.and_false, Bool.true_or, Bool.or_true, Bool.false_or, Bool.or_false, decide_true, decide_false, gu_ne, gu_eq, h0, h1, e]
    · have e : ixb x 6 = true := by
        simp only [ixb, decide_eq_true_eq]
        exact ⟨Int32.not_lt.mp h0, Int32.not_le.mp h1⟩
      simp (disch := omega) only [f82_0, f82_1, f82_2, f82_3, f82_4, f82_5, f82_6, f82_7, f82_8, ni_pred, kv_e, kx_e, kw_e, kn_e, ct_s, ct_v, cr_t, q_ri, q_rz0', q_rz1', q_rb, q_rv, nI_add, pk_mul, ni_sub, ni_lt, ni_le, ni_eq, ni_m1, ni_m1', nd_lt_t, nd_lt_f, nd_le_t, nd_le_f, nd_eq_t, nd_eq_f, bI_t', bI_f', bI_0', ↓reduceIte, not_true_eq_false, not_false_eq_true, reduceCtorEq, Bool.true_and, Bool.and_true, Bool.false_and, Bool.and_false, Bool.true_or, Bool.or_true, Bool.false_or, Bool.or_false, decide_true, decide_false, gu_ne, gu_eq, h0, h1, e]
theorem x98 {g : Gs} {dyn : Nat → Option iv_C} {s : Nat × Nat} {D : Nat} {x : Int32} (hD : 1 ≤ D) : iv_X D 98 [.ref 35, .int x] (gh g dyn, s) = some (some (.int (bI (ixb x 3))), (gh g dyn, s)) := by
  obtain ⟨d, rfl, hd⟩ := iv_dn hD
  rw [en_98]
  by_cases h0 : x < nI 0
  · have e : ixb x 3 = false := by
      simp only [ixb, decide_eq_false_iff_not]
      exact fun h => absurd h.1 (Int32.not_le.mpr h0)
    simp (disch := omega) only [f98_0, f98_1, f98_2, f98_3, f98_4, f98_5, f98_6, f98_7, f98_8, ni_pred, kv_e, kx_e, kw_e, kn_e, ct_s, ct_v, cr_t, q_ri, q_rz0', q_rz1', q_rb, q_rv, nI_add, pk_mul, ni_sub, ni_lt, ni_le, ni_eq, ni_m1, ni_m1', nd_lt_t, nd_lt_f, nd_le_t, nd_le_f, nd_eq_t, nd_eq_f, bI_t', bI_f', bI_0', ↓reduceIte, not_true_eq_false, not_false_eq_true, reduceCtorEq, Bool.true_and, Bool.and_true, Bool.false_and, Bool.and_false, Bool.true_or, Bool.or_true, Bool.false_or, Bool.or_false, decide_true, decide_false, gu_ne, gu_eq, h0, e]
  · by_cases h1 : nI 3 ≤ x
    · have e : ixb x 3 = false := by
        simp only [ixb, decide_eq_false_iff_not]
        exact fun h => absurd h.2 (Int32.not_lt.mpr h1)
      simp (disch := omega) only [f98_0, f98_1, f98_2, f98_3, f98_4, f98_5, f98_6, f98_7, f98_8, ni_pred, kv_e, kx_e, kw_e, kn_e, ct_s, ct_v, cr_t, q_ri, q_rz0', q_rz1', q_rb, q_rv, nI_add, pk_mul, ni_sub, ni_lt, ni_le, ni_eq, ni_m1, ni_m1', nd_lt_t, nd_lt_f, nd_le_t, nd_le_f, nd_eq_t, nd_eq_f, bI_t', bI_f', bI_0', ↓reduceIte, not_true_eq_false, not_false_eq_true, reduceCtorEq, Bool.true_and, Bool.and_true, Bool.false_and, Bool.and_false, Bool.true_or, Bool.or_true, Bool.false_or, Bool.or_false, decide_true, decide_false, gu_ne, gu_eq, h0, h1, e]
    · have e : ixb x 3 = true := by
        simp only [ixb, decide_eq_true_eq]
        exact ⟨Int32.not_lt.mp h0, Int32.not_le.mp h1⟩
      simp (disch := omega) only [f98_0, f98_1, f98_2, f98_3, f98_4, f98_5, f98_6, f98_7, f98_8, ni_pred, kv_e, kx_e, kw_e, kn_e, ct_s, ct_v, cr_t, q_ri, q_rz0', q_rz1', q_rb, q_rv, nI_add, pk_mul, ni_sub, ni_lt, ni_le, ni_eq, ni_m1, ni_m1', nd_lt_t, nd_lt_f, nd_le_t, nd_le_f, nd_eq_t, nd_eq_f, bI_t', bI_f', bI_0', ↓reduceIte, not_true_eq_false, not_false_eq_true, reduceCtorEq, Bool.true_and, Bool.and_true, Bool.false_and, Bool.and_false, Bool.true_or, Bool.or_true, Bool.false_or, Bool.or_false, decide_true, decide_false, gu_ne, gu_eq, h0, h1, e]
def sqb (x : Int32) : Bool := decide (nI 6 ≤ x ∧ x < nI 8)
theorem x83 {g : Gs} {dyn : Nat → Option iv_C} {s : Nat × Nat} {D : Nat} {x : Int32} (hD : 1 ≤ D) : iv_X D 83 [.ref 44, .int x] (gh g dyn, s) = some (some (.int (bI (sqb x))), (gh g dyn, s)) := by
  obtain ⟨d, rfl, hd⟩ := iv_dn hD
  rw [en_83]
  by_cases h0 : x < nI 6
  · have e : sqb x = false := by
      simp only [sqb, decide_eq_false_iff_not]
      exact fun h => absurd h.1 (Int32.not_le.mpr h0)
    simp (disch := omega) only [f83_0, f83_1, f83_2, f83_3, f83_4, f83_5, f83_6, f83_7, f83_8, f83_9, ni_pred, kv_e, kx_e, kw_e, kn_e, ct_s, ct_v, cr_t, q_ri, q_rz0', q_rz1', q_rb, q_rv, nI_add, pk_mul, ni_sub, ni_lt, ni_le, ni_eq, ni_m1, ni_m1', nd_lt_t, nd_lt_f, nd_le_t, nd_le_f, nd_eq_t, nd_eq_f, bI_t', bI_f', bI_0', ↓reduceIte, not_true_eq_false, not_false_eq_true, reduceCtorEq, Bool.true_and, Bool.and_true, Bool.false_and, Bool.and_false, Bool.true_or, Bool.or_true, Bool.false_or, Bool.or_false, decide_true, decide_false, gu_ne, gu_eq, h0, e]
  · by_cases h1 : nI 8 ≤ x
    · have e : sqb x = false := by
        simp only [sqb, decide_eq_false_iff_not]
        exact fun h => absurd h.2 (Int32.not_lt.mpr h1)
      simp (disch := omega) only [f83_0, f83_1, f83_2, f83_3, f83_4, f83_5, f83_6, f83_7, f83_8, f83_9, ni_pred, kv_e, kx_e, kw_e, kn_e, ct_s, ct_v, cr_t, q_ri, q_rz0', q_rz1', q_rb, q_rv, nI_add, pk_mul, ni_sub, ni_lt, ni_le, ni_eq, ni_m1, ni_m1', nd_lt_t, nd_lt_f, nd_le_t, nd_le_f, nd_eq_t, nd_eq_f, bI_t', bI_f', bI_0', ↓reduceIte, not_true_eq_false, not_false_eq_true, reduceCtorEq, Bool.true_and, Bool.and_true, Bool.false_and, Bool.and_false, Bool.true_or, Bool.or_true, Bool.false_or, Bool.or_false, decide_true, decide_false, gu_ne, gu_eq, h0, h1, e]
    · have e : sqb x = true := by
        simp only [sqb, decide_eq_true_eq]
        exact ⟨Int32.not_lt.mp h0, Int32.not_le.mp h1⟩
      simp (disch := omega) only [f83_0, f83_1, f83_2, f83_3, f83_4, f83_5, f83_6, f83_7, f83_8, f83_9, ni_pred, kv_e, kx_e, kw_e, kn_e, ct_s, ct_v, cr_t, q_ri, q_rz0', q_rz1', q_rb, q_rv, nI_add, pk_mul, ni_sub, ni_lt, ni_le, ni_eq, ni_m1, ni_m1', nd_lt_t, nd_lt_f, nd_le_t, nd_le_f, nd_eq_t, nd_eq_f, bI_t', bI_f', bI_0', ↓reduceIte, not_true_eq_false, not_false_eq_true, reduceCtorEq, Bool.true_and, Bool.and_true, Bool.false_and, Bool.and_false, Bool.true_or, Bool.or_true, Bool.false_or, Bool.or_false, decide_true, decide_false, gu_ne, gu_eq, h0, h1, e]
theorem x25 {w : iv_S} {D : Nat} {x y z : Int32} (hD : 1 ≤ D) : iv_X D 25 [.int x, .int y, .int z] w = some (some (.int (bI (inb x y z))), w) := by
  obtain ⟨d, rfl, hd⟩ := iv_dn hD
  rw [en_25]
  by_cases h0 : x < y
  · have e : inb x y z = false := by
      simp only [inb, decide_eq_false_iff_not]
      exact fun h => absurd h.1 (Int32.not_le.mpr h0)
    simp (disch := omega) only [f25_0, f25_1, f25_2, f25_3, f25_4, f25_5, f25_6, f25_7, f25_8, f25_9, ni_pred, kv_e, kx_e, kw_e, kn_e, ct_s, ct_v, cr_t, q_ri, q_rz0', q_rz1', q_rb, q_rv, nI_add, pk_mul, ni_sub, ni_lt, ni_le, ni_eq, ni_m1, ni_m1', nd_lt_t, nd_lt_f, nd_le_t, nd_le_f, nd_eq_t, nd_eq_f, bI_t', bI_f', bI_0', ↓reduceIte, not_true_eq_false, not_false_eq_true, reduceCtorEq, Bool.true_and, Bool.and_true, Bool.false_and, Bool.and_false, Bool.true_or, Bool.or_true, Bool.false_or, Bool.or_false, decide_true, decide_false, gu_ne, gu_eq, h0, e]
  · by_cases h1 : z < x
    · have e : inb x y z = false := by
        simp only [inb, decide_eq_false_iff_not]
        exact fun h => absurd h.2 (Int32.not_le.mpr h1)
      simp (disch := omega) only [f25_0, f25_1, f25_2, f25_3, f25_4, f25_5, f25_6, f25_7, f25_8, f25_9, ni_pred, kv_e, kx_e, kw_e, kn_e, ct_s, ct_v, cr_t, q_ri, q_rz0', q_rz1', q_rb, q_rv, nI_add, pk_mul, ni_sub, ni_lt, ni_le, ni_eq, ni_m1, ni_m1', nd_lt_t, nd_lt_f, nd_le_t, nd_le_f, nd_eq_t, nd_eq_f, bI_t', bI_f', bI_0', ↓reduceIte, not_true_eq_false, not_false_eq_true, reduceCtorEq, Bool.true_and, Bool.and_true, Bool.false_and, Bool.and_false, Bool.true_or, Bool.or_true, Bool.false_or, Bool.or_false, decide_true, decide_false, gu_ne, gu_eq, h0, h1, e]
    · have e : inb x y z = true := by
        simp only [inb, decide_eq_true_eq]
        exact ⟨Int32.not_lt.mp h0, Int32.not_lt.mp h1⟩
      simp (disch := omega) only [f25_0, f25_1, f25_2, f25_3, f25_4, f25_5, f25_6, f25_7, f25_8, f25_9, ni_pred, kv_e, kx_e, kw_e, kn_e, ct_s, ct_v, cr_t, q_ri, q_rz0', q_rz1', q_rb, q_rv, nI_add, pk_mul, ni_sub, ni_lt, ni_le, ni_eq, ni_m1, ni_m1', nd_lt_t, nd_lt_f, nd_le_t, nd_le_f, nd_eq_t, nd_eq_f, bI_t', bI_f', bI_0', ↓reduceIte, not_true_eq_false, not_false_eq_true, reduceCtorEq, Bool.true_and, Bool.and_true, Bool.false_and, Bool.and_false, Bool.true_or, Bool.or_true, Bool.false_or, Bool.or_false, decide_true, decide_false, gu_ne, gu_eq, h0, h1, e]
def bt (k : Nat) : Int32 := nI 1 <<< (nI k &&& 31)
theorem bt_e {k : Nat} : nI 1 <<< (nI k &&& 31) = bt k := rfl
theorem cl108_f {g : Gs} {dyn : Nat → Option iv_C} {s : Nat × Nat} {D : Nat} {x : Int32} (hD : 1 ≤ D) (h : g 200 0 0 = nI 6) : iv_X D 108 [.ref 2, .int x] (gh g dyn, s) = some (some (.int (-1)), (gh g dyn, s)) := by
  obtain ⟨d, rfl, hd⟩ := iv_dn hD
  rw [en_108]
  simp (disch := omega) only [f108_0, f108_1, f108_2, f108_3, f108_4, f108_5, f108_6, f108_7, f108_8, f108_9, f108_10, f108_11, f108_12, f108_13, f108_14, f108_15, f108_16, f108_17, f108_18, f108_19, f108_20, f108_21, f108_22, f108_23, f108_24, f108_25, f108_26, f108_27, f108_28, f108_29, f108_30, f108_31, f108_32, f108_33, gf_2_0', gf_2_1', pf_2_0', la_3, la_17, la_18, la_19, la_45, la_52, la_54, la_153, la_154, la_156, la_157, la_6, la_21, la_48, la_56, la_67, la_79, la_105, al_4', al_20', al_37', al_46', al_55', al_66', al_78', al_103', sa_3, sa_17, sa_18, sa_19, sa_19_0, sa_19_1, sa_45, sa_52, sa_54, sa_153, sa_156, sa_157, sa_6, sa_21, sa_48, sa_56, sa_67, sa_79, sa_105, ni_pred, kv_e, kx_e, kw_e, kn_e, ct_s, ct_v, cr_t, q_ri, q_rz0', q_rz1', q_rb, q_rv, nI_add, pk_mul, ni_sub, ni_lt, ni_le, ni_eq, ni_m1, ni_m1', nd_lt_t, nd_lt_f, nd_le_t, nd_le_f, nd_eq_t, nd_eq_f, bI_t', bI_f', bI_0', ↓reduceIte, not_true_eq_false, not_false_eq_true, reduceCtorEq, Bool.true_and, Bool.and_true, Bool.false_and, Bool.and_false, Bool.true_or, Bool.or_true, Bool.false_or, Bool.or_false, decide_true, decide_false, gu_ne, gu_eq, h]
theorem cl108_n {g : Gs} {dyn : Nat → Option iv_C} {s : Nat × Nat} {D : Nat} {t : Nat} (hD : 1 ≤ D) (h : g 200 0 0 = nI t) (ht : t < 6) : iv_X D 108 [.ref 2, .int (-1)] (gh g dyn, s) = some (some (.int (nI t)), (gh (gu (gu g 3 0 t (bt t ||| nI 0)) 200 0 0 (nI (t + 1))) dyn, s)) := by
  obtain ⟨d, rfl, hd⟩ := iv_dn hD
  rw [en_108]
  simp (disch := omega) only [f108_0, f108_1, f108_2, f108_3, f108_4, f108_5, f108_6, f108_7, f108_8, f108_9, f108_10, f108_11, f108_12, f108_13, f108_14, f108_15, f108_16, f108_17, f108_18, f108_19, f108_20, f108_21, f108_22, f108_23, f108_24, f108_25, f108_26, f108_27, f108_28, f108_29, f108_30, f108_31, f108_32, f108_33, gf_2_0', gf_2_1', pf_2_0', la_3, la_17, la_18, la_19, la_45, la_52, la_54, la_153, la_154, la_156, la_157, la_6, la_21, la_48, la_56, la_67, la_79, la_105, al_4', al_20', al_37', al_46', al_55', al_66', al_78', al_103', sa_3, sa_17, sa_18, sa_19, sa_19_0, sa_19_1, sa_45, sa_52, sa_54, sa_153, sa_156, sa_157, sa_6, sa_21, sa_48, sa_56, sa_67, sa_79, sa_105, ni_pred, kv_e, kx_e, kw_e, kn_e, ct_s, ct_v, cr_t, q_ri, q_rz0', q_rz1', q_rb, q_rv, nI_add, pk_mul, ni_sub, ni_lt, ni_le, ni_eq, ni_m1, ni_m1', nd_lt_t, nd_lt_f, nd_le_t, nd_le_f, nd_eq_t, nd_eq_f, bI_t', bI_f', bI_0', ↓reduceIte, not_true_eq_false, not_false_eq_true, reduceCtorEq, Bool.true_and, Bool.and_true, Bool.false_and, Bool.and_false, Bool.true_or, Bool.or_true, Bool.false_or, Bool.or_false, decide_true, decide_false, gu_ne, gu_eq, h, bt_e]
theorem cl108_p {g : Gs} {dyn : Nat → Option iv_C} {s : Nat × Nat} {D : Nat} {t p : Nat} (hD : 1 ≤ D) (h : g 200 0 0 = nI t) (ht : t < 6) (hp : p < t) : iv_X D 108 [.ref 2, .int (nI p)] (gh g dyn, s) = some (some (.int (nI t)), (gh (gu (gu g 3 0 t (bt t ||| g 3 0 p)) 200 0 0 (nI (t + 1))) dyn, s)) := by
  obtain ⟨d, rfl, hd⟩ := iv_dn hD
  rw [en_108]
  simp (disch := omega) only [f108_0, f108_1, f108_2, f108_3, f108_4, f108_5, f108_6, f108_7, f108_8, f108_9, f108_10, f108_11, f108_12, f108_13, f108_14, f108_15, f108_16, f108_17, f108_18, f108_19, f108_20, f108_21, f108_22, f108_23, f108_24, f108_25, f108_26, f108_27, f108_28, f108_29, f108_30, f108_31, f108_32, f108_33, gf_2_0', gf_2_1', pf_2_0', la_3, la_17, la_18, la_19, la_45, la_52, la_54, la_153, la_154, la_156, la_157, la_6, la_21, la_48, la_56, la_67, la_79, la_105, al_4', al_20', al_37', al_46', al_55', al_66', al_78', al_103', sa_3, sa_17, sa_18, sa_19, sa_19_0, sa_19_1, sa_45, sa_52, sa_54, sa_153, sa_156, sa_157, sa_6, sa_21, sa_48, sa_56, sa_67, sa_79, sa_105, ni_pred, kv_e, kx_e, kw_e, kn_e, ct_s, ct_v, cr_t, q_ri, q_rz0', q_rz1', q_rb, q_rv, nI_add, pk_mul, ni_sub, ni_lt, ni_le, ni_eq, ni_m1, ni_m1', nd_lt_t, nd_lt_f, nd_le_t, nd_le_f, nd_eq_t, nd_eq_f, bI_t', bI_f', bI_0', ↓reduceIte, not_true_eq_false, not_false_eq_true, reduceCtorEq, Bool.true_and, Bool.and_true, Bool.false_and, Bool.and_false, Bool.true_or, Bool.or_true, Bool.false_or, Bool.or_false, decide_true, decide_false, gu_ne, gu_eq, h, bt_e]
theorem c3_no {g : Gs} {dyn : Nat → Option iv_C} {s : Nat × Nat} {D : Nat} {x : Int32} {t : Nat} (hD : 3 ≤ D) (h : g 200 0 0 = nI t) (hx : ixb x t = false) (hm : ¬ x = -1) : iv_X D 3 [.ref 1, .int x] (gh g dyn, s) = some (some (.int (-1)), (gh g dyn, s)) := by
  obtain ⟨d, rfl, hd⟩ := iv_dn hD
  rw [en_3]
  simp (disch := omega) only [f3_0, f3_1, f3_2, f3_3, f3_4, f3_5, f3_6, f3_7, f3_8, f3_9, f3_10, f3_11, f3_12, f3_13, f3_14, gf_1_0', rc_1, rc_2, rc_35, rc_44, rc_51, rc_53, rc_77, rc_152, rc_155, rc_5, rc_47, rc_104, rc_38, ni_pred, kv_e, kx_e, kw_e, kn_e, ct_s, ct_v, cr_t, q_ri, q_rz0', q_rz1', q_rb, q_rv, nI_add, pk_mul, ni_sub, ni_lt, ni_le, ni_eq, ni_m1, ni_m1', nd_lt_t, nd_lt_f, nd_le_t, nd_le_f, nd_eq_t, nd_eq_f, bI_t', bI_f', bI_0', ↓reduceIte, not_true_eq_false, not_false_eq_true, reduceCtorEq, Bool.true_and, Bool.and_true, Bool.false_and, Bool.and_false, Bool.true_or, Bool.or_true, Bool.false_or, Bool.or_false, decide_true, decide_false, gu_ne, gu_eq, x102 (t := t), h, hx, hm]
theorem c3_f {g : Gs} {dyn : Nat → Option iv_C} {s : Nat × Nat} {D : Nat} {x : Int32} (hD : 3 ≤ D) (h : g 200 0 0 = nI 6) (hx : ixb x 6 = true) : iv_X D 3 [.ref 1, .int x] (gh g dyn, s) = some (some (.int (-1)), (gh g dyn, s)) := by
  obtain ⟨d, rfl, hd⟩ := iv_dn hD
  rw [en_3]
  have hm : ¬ x = -1 := by
    intro e
    rw [e] at hx
    exact absurd hx (by decide)
  simp (disch := omega) only [hm, f3_0, f3_1, f3_2, f3_3, f3_4, f3_5, f3_6, f3_7, f3_8, f3_9, f3_10, f3_11, f3_12, f3_13, f3_14, gf_1_0', rc_1, rc_2, rc_35, rc_44, rc_51, rc_53, rc_77, rc_152, rc_155, rc_5, rc_47, rc_104, rc_38, ni_pred, kv_e, kx_e, kw_e, kn_e, ct_s, ct_v, cr_t, q_ri, q_rz0', q_rz1', q_rb, q_rv, nI_add, pk_mul, ni_sub, ni_lt, ni_le, ni_eq, ni_m1, ni_m1', nd_lt_t, nd_lt_f, nd_le_t, nd_le_f, nd_eq_t, nd_eq_f, bI_t', bI_f', bI_0', ↓reduceIte, not_true_eq_false, not_false_eq_true, reduceCtorEq, Bool.true_and, Bool.and_true, Bool.false_and, Bool.and_false, Bool.true_or, Bool.or_true, Bool.false_or, Bool.or_false, decide_true, decide_false, gu_ne, gu_eq, x102 (t := 6), cl108_f, h, hx]
theorem c3_fm {g : Gs} {dyn : Nat → Option iv_C} {s : Nat × Nat} {D : Nat} (hD : 3 ≤ D) (h : g 200 0 0 = nI 6) : iv_X D 3 [.ref 1, .int (-1)] (gh g dyn, s) = some (some (.int (-1)), (gh g dyn, s)) := by
  obtain ⟨d, rfl, hd⟩ := iv_dn hD
  rw [en_3]
  simp (disch := omega) only [f3_0, f3_1, f3_2, f3_3, f3_4, f3_5, f3_6, f3_7, f3_8, f3_9, f3_10, f3_11, f3_12, f3_13, f3_14, gf_1_0', rc_1, rc_2, rc_35, rc_44, rc_51, rc_53, rc_77, rc_152, rc_155, rc_5, rc_47, rc_104, rc_38, ni_pred, kv_e, kx_e, kw_e, kn_e, ct_s, ct_v, cr_t, q_ri, q_rz0', q_rz1', q_rb, q_rv, nI_add, pk_mul, ni_sub, ni_lt, ni_le, ni_eq, ni_m1, ni_m1', nd_lt_t, nd_lt_f, nd_le_t, nd_le_f, nd_eq_t, nd_eq_f, bI_t', bI_f', bI_0', ↓reduceIte, not_true_eq_false, not_false_eq_true, reduceCtorEq, Bool.true_and, Bool.and_true, Bool.false_and, Bool.and_false, Bool.true_or, Bool.or_true, Bool.false_or, Bool.or_false, decide_true, decide_false, gu_ne, gu_eq, cl108_f, h]
theorem c3_n {g : Gs} {dyn : Nat → Option iv_C} {s : Nat × Nat} {D : Nat} {t : Nat} (hD : 3 ≤ D) (h : g 200 0 0 = nI t) (ht : t < 6) : iv_X D 3 [.ref 1, .int (-1)] (gh g dyn, s) = some (some (.int (nI t)), (gh (gu (gu g 3 0 t (bt t ||| nI 0)) 200 0 0 (nI (t + 1))) dyn, s)) := by
  obtain ⟨d, rfl, hd⟩ := iv_dn hD
  rw [en_3]
  simp (disch := omega) only [f3_0, f3_1, f3_2, f3_3, f3_4, f3_5, f3_6, f3_7, f3_8, f3_9, f3_10, f3_11, f3_12, f3_13, f3_14, gf_1_0', rc_1, rc_2, rc_35, rc_44, rc_51, rc_53, rc_77, rc_152, rc_155, rc_5, rc_47, rc_104, rc_38, ni_pred, kv_e, kx_e, kw_e, kn_e, ct_s, ct_v, cr_t, q_ri, q_rz0', q_rz1', q_rb, q_rv, nI_add, pk_mul, ni_sub, ni_lt, ni_le, ni_eq, ni_m1, ni_m1', nd_lt_t, nd_lt_f, nd_le_t, nd_le_f, nd_eq_t, nd_eq_f, bI_t', bI_f', bI_0', ↓reduceIte, not_true_eq_false, not_false_eq_true, reduceCtorEq, Bool.true_and, Bool.and_true, Bool.false_and, Bool.and_false, Bool.true_or, Bool.or_true, Bool.false_or, Bool.or_false, decide_true, decide_false, gu_ne, gu_eq, cl108_n (t := t), h]
theorem c3_p {g : Gs} {dyn : Nat → Option iv_C} {s : Nat × Nat} {D : Nat} {t p : Nat} (hD : 3 ≤ D) (h : g 200 0 0 = nI t) (ht : t < 6) (hp : p < t) : iv_X D 3 [.ref 1, .int (nI p)] (gh g dyn, s) = some (some (.int (nI t)), (gh (gu (gu g 3 0 t (bt t ||| g 3 0 p)) 200 0 0 (nI (t + 1))) dyn, s)) := by
  obtain ⟨d, rfl, hd⟩ := iv_dn hD
  rw [en_3]
  simp (disch := omega) only [f3_0, f3_1, f3_2, f3_3, f3_4, f3_5, f3_6, f3_7, f3_8, f3_9, f3_10, f3_11, f3_12, f3_13, f3_14, gf_1_0', rc_1, rc_2, rc_35, rc_44, rc_51, rc_53, rc_77, rc_152, rc_155, rc_5, rc_47, rc_104, rc_38, ni_pred, kv_e, kx_e, kw_e, kn_e, ct_s, ct_v, cr_t, q_ri, q_rz0', q_rz1', q_rb, q_rv, nI_add, pk_mul, ni_sub, ni_lt, ni_le, ni_eq, ni_m1, ni_m1', nd_lt_t, nd_lt_f, nd_le_t, nd_le_f, nd_eq_t, nd_eq_f, bI_t', bI_f', bI_0', ↓reduceIte, not_true_eq_false, not_false_eq_true, reduceCtorEq, Bool.true_and, Bool.and_true, Bool.false_and, Bool.and_false, Bool.true_or, Bool.or_true, Bool.false_or, Bool.or_false, decide_true, decide_false, gu_ne, gu_eq, x102 (t := t), cl108_p (t := t), h, ixb_t]
theorem m26_f {g : Gs} {dyn : Nat → Option iv_C} {s : Nat × Nat} {D : Nat} {x : Int32} (hD : 2 ≤ D) (h : g 400 0 0 = nI 6) : iv_X D 26 [.ref 158, .int x] (gh g dyn, s) = some (some (.int (-1)), (gh g dyn, s)) := by
  obtain ⟨d, rfl, hd⟩ := iv_dn hD
  rw [en_26]
  simp (disch := omega) only [f26_0, f26_1, f26_2, f26_3, f26_4, f26_5, f26_6, f26_7, f26_8, f26_9, f26_10, f26_11, f26_12, f26_13, f26_14, f26_15, f26_16, f26_17, f26_18, f26_19, f26_20, f26_21, f26_22, f26_23, f26_24, f26_25, f26_26, f26_27, f26_28, f26_29, f26_30, gf_158_0', gf_158_1', sa_159, pf_158_0', ni_pred, kv_e, kx_e, kw_e, kn_e, ct_s, ct_v, cr_t, q_ri, q_rz0', q_rz1', q_rb, q_rv, nI_add, pk_mul, ni_sub, ni_lt, ni_le, ni_eq, ni_m1, ni_m1', nd_lt_t, nd_lt_f, nd_le_t, nd_le_f, nd_eq_t, nd_eq_f, bI_t', bI_f', bI_0', ↓reduceIte, not_true_eq_false, not_false_eq_true, reduceCtorEq, Bool.true_and, Bool.and_true, Bool.false_and, Bool.and_false, Bool.true_or, Bool.or_true, Bool.false_or, Bool.or_false, decide_true, decide_false, gu_ne, gu_eq, h]
theorem m26_no {g : Gs} {dyn : Nat → Option iv_C} {s : Nat × Nat} {D : Nat} {x : Int32} {t : Nat} (hD : 2 ≤ D) (h : g 400 0 0 = nI t) (ht : t < 6) (hx : ixb x t = false) (hm : ¬ x = -1) : iv_X D 26 [.ref 158, .int x] (gh g dyn, s) = some (some (.int (-1)), (gh g dyn, s)) := by
  obtain ⟨d, rfl, hd⟩ := iv_dn hD
  rw [en_26]
  simp (disch := omega) only [f26_0, f26_1, f26_2, f26_3, f26_4, f26_5, f26_6, f26_7, f26_8, f26_9, f26_10, f26_11, f26_12, f26_13, f26_14, f26_15, f26_16, f26_17, f26_18, f26_19, f26_20, f26_21, f26_22, f26_23, f26_24, f26_25, f26_26, f26_27, f26_28, f26_29, f26_30, gf_158_0', gf_158_1', sa_159, pf_158_0', ni_pred, kv_e, kx_e, kw_e, kn_e, ct_s, ct_v, cr_t, q_ri, q_rz0', q_rz1', q_rb, q_rv, nI_add, pk_mul, ni_lt, ni_le, ni_eq, ni_m1, ni_m1', nd_lt_t, nd_lt_f, nd_le_t, nd_le_f, nd_eq_t, nd_eq_f, bI_t', bI_f', bI_0', ↓reduceIte, not_true_eq_false, not_false_eq_true, reduceCtorEq, Bool.true_and, Bool.and_true, Bool.false_and, Bool.and_false, Bool.true_or, Bool.or_true, Bool.false_or, Bool.or_false, decide_true, decide_false, gu_ne, gu_eq, h, x25, hx, hm, inb_0, inb_0', inb_m, inb_m']
theorem m26_y {g : Gs} {dyn : Nat → Option iv_C} {s : Nat × Nat} {D : Nat} {x : Int32} {t : Nat} (hD : 2 ≤ D) (h : g 400 0 0 = nI t) (ht : t < 6) (hx : (decide (x = -1) || ixb x t) = true) : iv_X D 26 [.ref 158, .int x] (gh g dyn, s) = some (some (.int (nI t)), (gh (gu (gu g 159 0 t x) 400 0 0 (nI (t + 1))) dyn, s)) := by
  obtain ⟨d, rfl, hd⟩ := iv_dn hD
  rw [en_26]
  simp (disch := omega) only [f26_0, f26_1, f26_2, f26_3, f26_4, f26_5, f26_6, f26_7, f26_8, f26_9, f26_10, f26_11, f26_12, f26_13, f26_14, f26_15, f26_16, f26_17, f26_18, f26_19, f26_20, f26_21, f26_22, f26_23, f26_24, f26_25, f26_26, f26_27, f26_28, f26_29, f26_30, gf_158_0', gf_158_1', sa_159, pf_158_0', ni_pred, kv_e, kx_e, kw_e, kn_e, ct_s, ct_v, cr_t, q_ri, q_rz0', q_rz1', q_rb, q_rv, nI_add, pk_mul, ni_lt, ni_le, ni_eq, ni_m1, ni_m1', nd_lt_t, nd_lt_f, nd_le_t, nd_le_f, nd_eq_t, nd_eq_f, bI_t', bI_f', bI_0', ↓reduceIte, not_true_eq_false, not_false_eq_true, reduceCtorEq, Bool.true_and, Bool.and_true, Bool.false_and, Bool.and_false, Bool.true_or, Bool.or_true, Bool.false_or, Bool.or_false, decide_true, decide_false, gu_ne, gu_eq, h, x25, hx, inb_0, inb_0', inb_m, inb_m']
