/-! small questions, and refusals, on any state -/
section LEAF2
variable {A F : Nat → Nat → Int32} {dyn : Nat → Option iv_C} {s : Nat × Nat} {d : Nat}
theorem p102t {x : Int32} (h : 0 ≤ x ∧ x < F 2 0) : iv_X (d + 1) 102 [.ref 2, .int x] (md_h A F dyn, s) = some (some (.int 1), (md_h A F dyn, s)) := by
  rw [en_102]
  simp only [e102_0, q_p1, q_p2, q_ldi0, q_ldis, q_lda0, q_ldas, q_sto0, q_stos, q_as, q_d1i, q_d1r, q_d2, gf_2_0]
  rw [e102_1, q_p1, if_neg (Int32.not_lt.mpr h.1)]
  simp only [e102_2, e102_3, e102_4, q_p1, q_p2, q_ldi0, q_ldis, q_lda0, q_ldas, q_sto0, q_stos, q_as, q_d1i, q_d1r, q_d2, gf_2_0]
  rw [e102_5, q_p2, if_neg (Int32.not_le.mpr h.2)]
  simp only [e102_6, q_p1, q_p2, q_ldi0, q_ldis, q_lda0, q_ldas, q_sto0, q_stos, q_as, q_d1i, q_d1r, q_d2, gf_2_0]
  rw [e102_7]
  rw [e102_9]
  rfl
theorem p102f {x : Int32} (h : ¬ (0 ≤ x ∧ x < F 2 0)) : iv_X (d + 1) 102 [.ref 2, .int x] (md_h A F dyn, s) = some (some (.int 0), (md_h A F dyn, s)) := by
  rw [en_102]
  by_cases h0 : x < 0
  · skip
    simp only [e102_0, q_p1, q_p2, q_ldi0, q_ldis, q_lda0, q_ldas, q_sto0, q_stos, q_as, q_d1i, q_d1r, q_d2, gf_2_0]
    rw [e102_1, q_p1, if_pos (h0)]
    simp only [e102_8, q_p1, q_p2, q_ldi0, q_ldis, q_lda0, q_ldas, q_sto0, q_stos, q_as, q_d1i, q_d1r, q_d2, gf_2_0]
    rw [e102_9]
    rfl
  · skip
    simp only [e102_0, q_p1, q_p2, q_ldi0, q_ldis, q_lda0, q_ldas, q_sto0, q_stos, q_as, q_d1i, q_d1r, q_d2, gf_2_0]
    rw [e102_1, q_p1, if_neg (h0)]
    simp only [e102_2, e102_3, e102_4, q_p1, q_p2, q_ldi0, q_ldis, q_lda0, q_ldas, q_sto0, q_stos, q_as, q_d1i, q_d1r, q_d2, gf_2_0]
    rw [e102_5, q_p2, if_pos (Int32.not_lt.mp (fun h1 => h ⟨Int32.not_lt.mp h0, h1⟩))]
    simp only [e102_8, q_p1, q_p2, q_ldi0, q_ldis, q_lda0, q_ldas, q_sto0, q_stos, q_as, q_d1i, q_d1r, q_d2, gf_2_0]
    rw [e102_9]
    rfl
theorem p103t {x : Int32} (h : 0 ≤ x ∧ x < F 2 3) : iv_X (d + 1) 103 [.ref 2, .int x] (md_h A F dyn, s) = some (some (.int 1), (md_h A F dyn, s)) := by
  rw [en_103]
  simp only [e103_0, q_p1, q_p2, q_ldi0, q_ldis, q_lda0, q_ldas, q_sto0, q_stos, q_as, q_d1i, q_d1r, q_d2, gf_2_3]
  rw [e103_1, q_p1, if_neg (Int32.not_lt.mpr h.1)]
  simp only [e103_2, e103_3, e103_4, q_p1, q_p2, q_ldi0, q_ldis, q_lda0, q_ldas, q_sto0, q_stos, q_as, q_d1i, q_d1r, q_d2, gf_2_3]
  rw [e103_5, q_p2, if_neg (Int32.not_le.mpr h.2)]
  simp only [e103_6, q_p1, q_p2, q_ldi0, q_ldis, q_lda0, q_ldas, q_sto0, q_stos, q_as, q_d1i, q_d1r, q_d2, gf_2_3]
  rw [e103_7]
  rw [e103_9]
  rfl
theorem p103f {x : Int32} (h : ¬ (0 ≤ x ∧ x < F 2 3)) : iv_X (d + 1) 103 [.ref 2, .int x] (md_h A F dyn, s) = some (some (.int 0), (md_h A F dyn, s)) := by
  rw [en_103]
  by_cases h0 : x < 0
  · skip
    simp only [e103_0, q_p1, q_p2, q_ldi0, q_ldis, q_lda0, q_ldas, q_sto0, q_stos, q_as, q_d1i, q_d1r, q_d2, gf_2_3]
    rw [e103_1, q_p1, if_pos (h0)]
    simp only [e103_8, q_p1, q_p2, q_ldi0, q_ldis, q_lda0, q_ldas, q_sto0, q_stos, q_as, q_d1i, q_d1r, q_d2, gf_2_3]
    rw [e103_9]
    rfl
  · skip
    simp only [e103_0, q_p1, q_p2, q_ldi0, q_ldis, q_lda0, q_ldas, q_sto0, q_stos, q_as, q_d1i, q_d1r, q_d2, gf_2_3]
    rw [e103_1, q_p1, if_neg (h0)]
    simp only [e103_2, e103_3, e103_4, q_p1, q_p2, q_ldi0, q_ldis, q_lda0, q_ldas, q_sto0, q_stos, q_as, q_d1i, q_d1r, q_d2, gf_2_3]
    rw [e103_5, q_p2, if_pos (Int32.not_lt.mp (fun h1 => h ⟨Int32.not_lt.mp h0, h1⟩))]
    simp only [e103_8, q_p1, q_p2, q_ldi0, q_ldis, q_lda0, q_ldas, q_sto0, q_stos, q_as, q_d1i, q_d1r, q_d2, gf_2_3]
    rw [e103_9]
    rfl
theorem p111t {x : Int32} (h : 0 ≤ x ∧ x < F 53 0) : iv_X (d + 1) 111 [.ref 53, .int x] (md_h A F dyn, s) = some (some (.int 1), (md_h A F dyn, s)) := by
  rw [en_111]
  simp only [e111_0, q_p1, q_p2, q_ldi0, q_ldis, q_lda0, q_ldas, q_sto0, q_stos, q_as, q_d1i, q_d1r, q_d2, gf_53_0]
  rw [e111_1, q_p1, if_neg (Int32.not_lt.mpr h.1)]
  simp only [e111_2, e111_3, e111_4, q_p1, q_p2, q_ldi0, q_ldis, q_lda0, q_ldas, q_sto0, q_stos, q_as, q_d1i, q_d1r, q_d2, gf_53_0]
  rw [e111_5, q_p2, if_neg (Int32.not_le.mpr h.2)]
  simp only [e111_6, q_p1, q_p2, q_ldi0, q_ldis, q_lda0, q_ldas, q_sto0, q_stos, q_as, q_d1i, q_d1r, q_d2, gf_53_0]
  rw [e111_7]
  rw [e111_9]
  rfl
theorem p111f {x : Int32} (h : ¬ (0 ≤ x ∧ x < F 53 0)) : iv_X (d + 1) 111 [.ref 53, .int x] (md_h A F dyn, s) = some (some (.int 0), (md_h A F dyn, s)) := by
  rw [en_111]
  by_cases h0 : x < 0
  · skip
    simp only [e111_0, q_p1, q_p2, q_ldi0, q_ldis, q_lda0, q_ldas, q_sto0, q_stos, q_as, q_d1i, q_d1r, q_d2, gf_53_0]
    rw [e111_1, q_p1, if_pos (h0)]
    simp only [e111_8, q_p1, q_p2, q_ldi0, q_ldis, q_lda0, q_ldas, q_sto0, q_stos, q_as, q_d1i, q_d1r, q_d2, gf_53_0]
    rw [e111_9]
    rfl
  · skip
    simp only [e111_0, q_p1, q_p2, q_ldi0, q_ldis, q_lda0, q_ldas, q_sto0, q_stos, q_as, q_d1i, q_d1r, q_d2, gf_53_0]
    rw [e111_1, q_p1, if_neg (h0)]
    simp only [e111_2, e111_3, e111_4, q_p1, q_p2, q_ldi0, q_ldis, q_lda0, q_ldas, q_sto0, q_stos, q_as, q_d1i, q_d1r, q_d2, gf_53_0]
    rw [e111_5, q_p2, if_pos (Int32.not_lt.mp (fun h1 => h ⟨Int32.not_lt.mp h0, h1⟩))]
    simp only [e111_8, q_p1, q_p2, q_ldi0, q_ldis, q_lda0, q_ldas, q_sto0, q_stos, q_as, q_d1i, q_d1r, q_d2, gf_53_0]
    rw [e111_9]
    rfl
theorem p88t {x : Int32} (h : 0 ≤ x ∧ x < F 77 0) : iv_X (d + 1) 88 [.ref 77, .int x] (md_h A F dyn, s) = some (some (.int 1), (md_h A F dyn, s)) := by
  rw [en_88]
  simp only [e88_0, q_p1, q_p2, q_ldi0, q_ldis, q_lda0, q_ldas, q_sto0, q_stos, q_as, q_d1i, q_d1r, q_d2, gf_77_0]
  rw [e88_1, q_p1, if_neg (Int32.not_lt.mpr h.1)]
  simp only [e88_2, e88_3, e88_4, q_p1, q_p2, q_ldi0, q_ldis, q_lda0, q_ldas, q_sto0, q_stos, q_as, q_d1i, q_d1r, q_d2, gf_77_0]
  rw [e88_5, q_p2, if_neg (Int32.not_le.mpr h.2)]
  simp only [e88_6, q_p1, q_p2, q_ldi0, q_ldis, q_lda0, q_ldas, q_sto0, q_stos, q_as, q_d1i, q_d1r, q_d2, gf_77_0]
  rw [e88_7]
  rw [e88_9]
  rfl
theorem p88f {x : Int32} (h : ¬ (0 ≤ x ∧ x < F 77 0)) : iv_X (d + 1) 88 [.ref 77, .int x] (md_h A F dyn, s) = some (some (.int 0), (md_h A F dyn, s)) := by
  rw [en_88]
  by_cases h0 : x < 0
  · skip
    simp only [e88_0, q_p1, q_p2, q_ldi0, q_ldis, q_lda0, q_ldas, q_sto0, q_stos, q_as, q_d1i, q_d1r, q_d2, gf_77_0]
    rw [e88_1, q_p1, if_pos (h0)]
    simp only [e88_8, q_p1, q_p2, q_ldi0, q_ldis, q_lda0, q_ldas, q_sto0, q_stos, q_as, q_d1i, q_d1r, q_d2, gf_77_0]
    rw [e88_9]
    rfl
  · skip
    simp only [e88_0, q_p1, q_p2, q_ldi0, q_ldis, q_lda0, q_ldas, q_sto0, q_stos, q_as, q_d1i, q_d1r, q_d2, gf_77_0]
    rw [e88_1, q_p1, if_neg (h0)]
    simp only [e88_2, e88_3, e88_4, q_p1, q_p2, q_ldi0, q_ldis, q_lda0, q_ldas, q_sto0, q_stos, q_as, q_d1i, q_d1r, q_d2, gf_77_0]
    rw [e88_5, q_p2, if_pos (Int32.not_lt.mp (fun h1 => h ⟨Int32.not_lt.mp h0, h1⟩))]
    simp only [e88_8, q_p1, q_p2, q_ldi0, q_ldis, q_lda0, q_ldas, q_sto0, q_stos, q_as, q_d1i, q_d1r, q_d2, gf_77_0]
    rw [e88_9]
    rfl
theorem p82t {x : Int32} (h : 0 ≤ x ∧ x < 6) : iv_X (d + 1) 82 [.ref 44, .int x] (md_h A F dyn, s) = some (some (.int 1), (md_h A F dyn, s)) := by
  rw [en_82]
  simp only [e82_0, q_p1, q_p2, q_ldi0, q_ldis, q_lda0, q_ldas, q_sto0, q_stos, q_as, q_d1i, q_d1r, q_d2]
  rw [e82_1, q_p1, if_neg (Int32.not_lt.mpr h.1)]
  simp only [e82_2, e82_3, q_p1, q_p2, q_ldi0, q_ldis, q_lda0, q_ldas, q_sto0, q_stos, q_as, q_d1i, q_d1r, q_d2]
  rw [e82_4, q_p2, if_neg (Int32.not_le.mpr h.2)]
  simp only [e82_5, q_p1, q_p2, q_ldi0, q_ldis, q_lda0, q_ldas, q_sto0, q_stos, q_as, q_d1i, q_d1r, q_d2]
  rw [e82_6]
  rw [e82_8]
  rfl
theorem p82f {x : Int32} (h : ¬ (0 ≤ x ∧ x < 6)) : iv_X (d + 1) 82 [.ref 44, .int x] (md_h A F dyn, s) = some (some (.int 0), (md_h A F dyn, s)) := by
  rw [en_82]
  by_cases h0 : x < 0
  · skip
    simp only [e82_0, q_p1, q_p2, q_ldi0, q_ldis, q_lda0, q_ldas, q_sto0, q_stos, q_as, q_d1i, q_d1r, q_d2]
    rw [e82_1, q_p1, if_pos (h0)]
    simp only [e82_7, q_p1, q_p2, q_ldi0, q_ldis, q_lda0, q_ldas, q_sto0, q_stos, q_as, q_d1i, q_d1r, q_d2]
    rw [e82_8]
    rfl
  · skip
    simp only [e82_0, q_p1, q_p2, q_ldi0, q_ldis, q_lda0, q_ldas, q_sto0, q_stos, q_as, q_d1i, q_d1r, q_d2]
    rw [e82_1, q_p1, if_neg (h0)]
    simp only [e82_2, e82_3, q_p1, q_p2, q_ldi0, q_ldis, q_lda0, q_ldas, q_sto0, q_stos, q_as, q_d1i, q_d1r, q_d2]
    rw [e82_4, q_p2, if_pos (Int32.not_lt.mp (fun h1 => h ⟨Int32.not_lt.mp h0, h1⟩))]
    simp only [e82_7, q_p1, q_p2, q_ldi0, q_ldis, q_lda0, q_ldas, q_sto0, q_stos, q_as, q_d1i, q_d1r, q_d2]
    rw [e82_8]
    rfl
theorem p98t {x : Int32} (h : 0 ≤ x ∧ x < 3) : iv_X (d + 1) 98 [.ref 35, .int x] (md_h A F dyn, s) = some (some (.int 1), (md_h A F dyn, s)) := by
  rw [en_98]
  simp only [e98_0, q_p1, q_p2, q_ldi0, q_ldis, q_lda0, q_ldas, q_sto0, q_stos, q_as, q_d1i, q_d1r, q_d2]
  rw [e98_1, q_p1, if_neg (Int32.not_lt.mpr h.1)]
  simp only [e98_2, e98_3, q_p1, q_p2, q_ldi0, q_ldis, q_lda0, q_ldas, q_sto0, q_stos, q_as, q_d1i, q_d1r, q_d2]
  rw [e98_4, q_p2, if_neg (Int32.not_le.mpr h.2)]
  simp only [e98_5, q_p1, q_p2, q_ldi0, q_ldis, q_lda0, q_ldas, q_sto0, q_stos, q_as, q_d1i, q_d1r, q_d2]
  rw [e98_6]
  rw [e98_8]
  rfl
theorem p98f {x : Int32} (h : ¬ (0 ≤ x ∧ x < 3)) : iv_X (d + 1) 98 [.ref 35, .int x] (md_h A F dyn, s) = some (some (.int 0), (md_h A F dyn, s)) := by
  rw [en_98]
  by_cases h0 : x < 0
  · skip
    simp only [e98_0, q_p1, q_p2, q_ldi0, q_ldis, q_lda0, q_ldas, q_sto0, q_stos, q_as, q_d1i, q_d1r, q_d2]
    rw [e98_1, q_p1, if_pos (h0)]
    simp only [e98_7, q_p1, q_p2, q_ldi0, q_ldis, q_lda0, q_ldas, q_sto0, q_stos, q_as, q_d1i, q_d1r, q_d2]
    rw [e98_8]
    rfl
  · skip
    simp only [e98_0, q_p1, q_p2, q_ldi0, q_ldis, q_lda0, q_ldas, q_sto0, q_stos, q_as, q_d1i, q_d1r, q_d2]
    rw [e98_1, q_p1, if_neg (h0)]
    simp only [e98_2, e98_3, q_p1, q_p2, q_ldi0, q_ldis, q_lda0, q_ldas, q_sto0, q_stos, q_as, q_d1i, q_d1r, q_d2]
    rw [e98_4, q_p2, if_pos (Int32.not_lt.mp (fun h1 => h ⟨Int32.not_lt.mp h0, h1⟩))]
    simp only [e98_7, q_p1, q_p2, q_ldi0, q_ldis, q_lda0, q_ldas, q_sto0, q_stos, q_as, q_d1i, q_d1r, q_d2]
    rw [e98_8]
    rfl
theorem p83t {x : Int32} (h : 6 ≤ x ∧ x < 8) : iv_X (d + 1) 83 [.ref 44, .int x] (md_h A F dyn, s) = some (some (.int 1), (md_h A F dyn, s)) := by
  rw [en_83]
  simp only [e83_0, e83_1, q_p1, q_p2, q_ldi0, q_ldis, q_lda0, q_ldas, q_sto0, q_stos, q_as, q_d1i, q_d1r, q_d2]
  rw [e83_2, q_p2, if_neg (Int32.not_lt.mpr h.1)]
  simp only [e83_3, e83_4, q_p1, q_p2, q_ldi0, q_ldis, q_lda0, q_ldas, q_sto0, q_stos, q_as, q_d1i, q_d1r, q_d2]
  rw [e83_5, q_p2, if_neg (Int32.not_le.mpr h.2)]
  simp only [e83_6, q_p1, q_p2, q_ldi0, q_ldis, q_lda0, q_ldas, q_sto0, q_stos, q_as, q_d1i, q_d1r, q_d2]
  rw [e83_7]
  rw [e83_9]
  rfl
theorem p83f {x : Int32} (h : ¬ (6 ≤ x ∧ x < 8)) : iv_X (d + 1) 83 [.ref 44, .int x] (md_h A F dyn, s) = some (some (.int 0), (md_h A F dyn, s)) := by
  rw [en_83]
  by_cases h0 : x < 6
  · skip
    simp only [e83_0, e83_1, q_p1, q_p2, q_ldi0, q_ldis, q_lda0, q_ldas, q_sto0, q_stos, q_as, q_d1i, q_d1r, q_d2]
    rw [e83_2, q_p2, if_pos (h0)]
    simp only [e83_8, q_p1, q_p2, q_ldi0, q_ldis, q_lda0, q_ldas, q_sto0, q_stos, q_as, q_d1i, q_d1r, q_d2]
    rw [e83_9]
    rfl
  · skip
    simp only [e83_0, e83_1, q_p1, q_p2, q_ldi0, q_ldis, q_lda0, q_ldas, q_sto0, q_stos, q_as, q_d1i, q_d1r, q_d2]
    rw [e83_2, q_p2, if_neg (h0)]
    simp only [e83_3, e83_4, q_p1, q_p2, q_ldi0, q_ldis, q_lda0, q_ldas, q_sto0, q_stos, q_as, q_d1i, q_d1r, q_d2]
    rw [e83_5, q_p2, if_pos (Int32.not_lt.mp (fun h1 => h ⟨Int32.not_lt.mp h0, h1⟩))]
    simp only [e83_8, q_p1, q_p2, q_ldi0, q_ldis, q_lda0, q_ldas, q_sto0, q_stos, q_as, q_d1i, q_d1r, q_d2]
    rw [e83_9]
    rfl
theorem p25t {x y z : Int32} {w : iv_S} (h : y ≤ x ∧ x ≤ z) : iv_X (d + 1) 25 [.int x, .int y, .int z] w = some (some (.int 1), w) := by
  rw [en_25]
  simp only [e25_0, e25_1, q_p1, q_p2, q_ldi0, q_ldis, q_lda0, q_ldas, q_sto0, q_stos, q_as, q_d1i, q_d1r, q_d2]
  rw [e25_2, q_p2, if_neg (Int32.not_lt.mpr h.1)]
  simp only [e25_3, e25_4, q_p1, q_p2, q_ldi0, q_ldis, q_lda0, q_ldas, q_sto0, q_stos, q_as, q_d1i, q_d1r, q_d2]
  rw [e25_5, q_p2, if_neg (Int32.not_lt.mpr h.2)]
  simp only [e25_6, q_p1, q_p2, q_ldi0, q_ldis, q_lda0, q_ldas, q_sto0, q_stos, q_as, q_d1i, q_d1r, q_d2]
  rw [e25_7]
  rw [e25_9]
  rfl
theorem p25f {x y z : Int32} {w : iv_S} (h : ¬ (y ≤ x ∧ x ≤ z)) : iv_X (d + 1) 25 [.int x, .int y, .int z] w = some (some (.int 0), w) := by
  rw [en_25]
  by_cases h0 : x < y
  · skip
    simp only [e25_0, e25_1, q_p1, q_p2, q_ldi0, q_ldis, q_lda0, q_ldas, q_sto0, q_stos, q_as, q_d1i, q_d1r, q_d2]
    rw [e25_2, q_p2, if_pos (h0)]
    simp only [e25_8, q_p1, q_p2, q_ldi0, q_ldis, q_lda0, q_ldas, q_sto0, q_stos, q_as, q_d1i, q_d1r, q_d2]
    rw [e25_9]
    rfl
  · skip
    simp only [e25_0, e25_1, q_p1, q_p2, q_ldi0, q_ldis, q_lda0, q_ldas, q_sto0, q_stos, q_as, q_d1i, q_d1r, q_d2]
    rw [e25_2, q_p2, if_neg (h0)]
    simp only [e25_3, e25_4, q_p1, q_p2, q_ldi0, q_ldis, q_lda0, q_ldas, q_sto0, q_stos, q_as, q_d1i, q_d1r, q_d2]
    rw [e25_5, q_p2, if_pos (Int32.not_le.mp (fun h1 => h ⟨Int32.not_lt.mp h0, h1⟩))]
    simp only [e25_8, q_p1, q_p2, q_ldi0, q_ldis, q_lda0, q_ldas, q_sto0, q_stos, q_as, q_d1i, q_d1r, q_d2]
    rw [e25_9]
    rfl
theorem r4 {x y : Int32} (h : ¬ (0 ≤ x ∧ x < F 2 0)) : iv_X (d + 2) 4 [.ref 1, .int x, .int y] (md_h A F dyn, s) = some (some (.int (-1)), (md_h A F dyn, s)) := by
  rw [en_4]
  simp only [e4_0, e4_1, e4_2, q_p1, q_p2, q_ldi0, q_ldis, q_lda0, q_ldas, q_sto0, q_stos, q_as, q_d1i, q_d1r, q_d2, gf_1_0, gf_1_1, gf_1_2, gf_1_3, gf_1_4, gf_1_5]
  rw [e4_3, iv_inv2 (Nat.le_of_ble_eq_true rfl) rfl (lq_rc hg_2 rfl), p102f h, iv_res_s]
  rw [e4_4, q_p1, if_pos (rfl)]
  simp only [e4_10, q_p1, q_p2, q_ldi0, q_ldis, q_lda0, q_ldas, q_sto0, q_stos, q_as, q_d1i, q_d1r, q_d2, gf_1_0, gf_1_1, gf_1_2, gf_1_3, gf_1_4, gf_1_5]
  rw [e4_11]
  rfl
theorem r5 {x b y k m g : Int32} (h : ¬ (0 ≤ x ∧ x < F 2 3)) : iv_X (d + 2) 5 [.ref 1, .int x, .int b, .int y, .int k, .int m, .int g] (md_h A F dyn, s) = some (some (.int (-1)), (md_h A F dyn, s)) := by
  rw [en_5]
  simp only [e5_0, e5_1, e5_2, q_p1, q_p2, q_ldi0, q_ldis, q_lda0, q_ldas, q_sto0, q_stos, q_as, q_d1i, q_d1r, q_d2, gf_1_0, gf_1_1, gf_1_2, gf_1_3, gf_1_4, gf_1_5]
  rw [e5_3, iv_inv2 (Nat.le_of_ble_eq_true rfl) rfl (lq_rc hg_2 rfl), p103f h, iv_res_s]
  rw [e5_4, q_p1, if_pos (rfl)]
  simp only [e5_10, q_p1, q_p2, q_ldi0, q_ldis, q_lda0, q_ldas, q_sto0, q_stos, q_as, q_d1i, q_d1r, q_d2, gf_1_0, gf_1_1, gf_1_2, gf_1_3, gf_1_4, gf_1_5]
  rw [e5_11]
  rfl
theorem r10 {x y : Int32} (h : ¬ (0 ≤ x ∧ x < F 2 0)) : iv_X (d + 2) 10 [.ref 1, .int x, .int y] (md_h A F dyn, s) = some (some (.int 0), (md_h A F dyn, s)) := by
  rw [en_10]
  simp only [e10_0, e10_1, e10_2, q_p1, q_p2, q_ldi0, q_ldis, q_lda0, q_ldas, q_sto0, q_stos, q_as, q_d1i, q_d1r, q_d2, gf_1_0, gf_1_1, gf_1_2, gf_1_3, gf_1_4, gf_1_5]
  rw [e10_3, iv_inv2 (Nat.le_of_ble_eq_true rfl) rfl (lq_rc hg_2 rfl), p102f h, iv_res_s]
  rw [e10_4, q_p1, if_pos (rfl)]
  simp only [e10_13, q_p1, q_p2, q_ldi0, q_ldis, q_lda0, q_ldas, q_sto0, q_stos, q_as, q_d1i, q_d1r, q_d2, gf_1_0, gf_1_1, gf_1_2, gf_1_3, gf_1_4, gf_1_5]
  rw [e10_14]
  rfl
theorem r11 {x : Int32} (h : ¬ (0 ≤ x ∧ x < F 2 3)) : iv_X (d + 2) 11 [.ref 1, .int x] (md_h A F dyn, s) = some (some (.int 0), (md_h A F dyn, s)) := by
  rw [en_11]
  simp only [e11_0, e11_1, e11_2, q_p1, q_p2, q_ldi0, q_ldis, q_lda0, q_ldas, q_sto0, q_stos, q_as, q_d1i, q_d1r, q_d2, gf_1_0, gf_1_1, gf_1_2, gf_1_3, gf_1_4, gf_1_5]
  rw [e11_3, iv_inv2 (Nat.le_of_ble_eq_true rfl) rfl (lq_rc hg_2 rfl), p103f h, iv_res_s]
  rw [e11_4, q_p1, if_pos (rfl)]
  simp only [e11_10, q_p1, q_p2, q_ldi0, q_ldis, q_lda0, q_ldas, q_sto0, q_stos, q_as, q_d1i, q_d1r, q_d2, gf_1_0, gf_1_1, gf_1_2, gf_1_3, gf_1_4, gf_1_5]
  rw [e11_11]
  rfl
theorem r12 {x y z : Int32} (h : ¬ (0 ≤ x ∧ x < F 2 3)) : iv_X (d + 2) 12 [.ref 1, .int x, .int y, .int z] (md_h A F dyn, s) = some (some (.int 0), (md_h A F dyn, s)) := by
  rw [en_12]
  simp only [e12_0, e12_1, e12_2, q_p1, q_p2, q_ldi0, q_ldis, q_lda0, q_ldas, q_sto0, q_stos, q_as, q_d1i, q_d1r, q_d2, gf_1_0, gf_1_1, gf_1_2, gf_1_3, gf_1_4, gf_1_5]
  rw [e12_3, iv_inv2 (Nat.le_of_ble_eq_true rfl) rfl (lq_rc hg_2 rfl), p103f h, iv_res_s]
  rw [e12_4, q_p1, if_pos (rfl)]
  simp only [e12_15, q_p1, q_p2, q_ldi0, q_ldis, q_lda0, q_ldas, q_sto0, q_stos, q_as, q_d1i, q_d1r, q_d2, gf_1_0, gf_1_1, gf_1_2, gf_1_3, gf_1_4, gf_1_5]
  rw [e12_16]
  rfl
theorem r13 {x : Int32} (h : ¬ (0 ≤ x ∧ x < F 2 0)) : iv_X (d + 2) 13 [.ref 1, .int x] (md_h A F dyn, s) = some (some (.int (-1)), (md_h A F dyn, s)) := by
  rw [en_13]
  simp only [e13_0, e13_1, e13_2, q_p1, q_p2, q_ldi0, q_ldis, q_lda0, q_ldas, q_sto0, q_stos, q_as, q_d1i, q_d1r, q_d2, gf_1_0, gf_1_1, gf_1_2, gf_1_3, gf_1_4, gf_1_5]
  rw [e13_3, iv_inv2 (Nat.le_of_ble_eq_true rfl) rfl (lq_rc hg_2 rfl), p102f h, iv_res_s]
  rw [e13_4, q_p1, if_neg (fun h => h rfl)]
  simp only [e13_5, q_p1, q_p2, q_ldi0, q_ldis, q_lda0, q_ldas, q_sto0, q_stos, q_as, q_d1i, q_d1r, q_d2, gf_1_0, gf_1_1, gf_1_2, gf_1_3, gf_1_4, gf_1_5]
  rw [e13_6]
  rfl
theorem r23 {x y : Int32} (h : ¬ (0 ≤ x ∧ x < F 53 0)) : iv_X (d + 2) 23 [.ref 1, .int x, .int y] (md_h A F dyn, s) = some (some (.int 0), (md_h A F dyn, s)) := by
  rw [en_23]
  simp only [e23_0, e23_1, e23_2, q_p1, q_p2, q_ldi0, q_ldis, q_lda0, q_ldas, q_sto0, q_stos, q_as, q_d1i, q_d1r, q_d2, gf_1_0, gf_1_1, gf_1_2, gf_1_3, gf_1_4, gf_1_5]
  rw [e23_3, iv_inv2 (Nat.le_of_ble_eq_true rfl) rfl (lq_rc hg_53 rfl), p111f h, iv_res_s]
  rw [e23_4, q_p1, if_pos (rfl)]
  simp only [e23_22, q_p1, q_p2, q_ldi0, q_ldis, q_lda0, q_ldas, q_sto0, q_stos, q_as, q_d1i, q_d1r, q_d2, gf_1_0, gf_1_1, gf_1_2, gf_1_3, gf_1_4, gf_1_5]
  rw [e23_23]
  rfl
theorem r14 {x y z : Int32} (h : ¬ (0 ≤ x ∧ x < F 53 0)) : iv_X (d + 3) 14 [.ref 1, .int x, .int y, .int z] (md_h A F dyn, s) = some (some (.int 0), (md_h A F dyn, s)) := by
  rw [en_14]
  simp only [e14_0, e14_1, e14_2, q_p1, q_p2, q_ldi0, q_ldis, q_lda0, q_ldas, q_sto0, q_stos, q_as, q_d1i, q_d1r, q_d2, gf_1_0, gf_1_1, gf_1_2, gf_1_3, gf_1_4, gf_1_5]
  rw [e14_3, iv_inv3 (Nat.le_of_ble_eq_true rfl) rfl (lq_rc hg_1 rfl), r23 h, iv_res_s]
  rw [e14_4, q_p1, if_pos (rfl)]
  simp only [e14_10, q_p1, q_p2, q_ldi0, q_ldis, q_lda0, q_ldas, q_sto0, q_stos, q_as, q_d1i, q_d1r, q_d2, gf_1_0, gf_1_1, gf_1_2, gf_1_3, gf_1_4, gf_1_5]
  rw [e14_11]
  rfl
theorem r15 {x y z : Int32} (h : ¬ (0 ≤ x ∧ x < F 53 0)) : iv_X (d + 3) 15 [.ref 1, .int x, .int y, .int z] (md_h A F dyn, s) = some (some (.int 0), (md_h A F dyn, s)) := by
  rw [en_15]
  simp only [e15_0, e15_1, e15_2, q_p1, q_p2, q_ldi0, q_ldis, q_lda0, q_ldas, q_sto0, q_stos, q_as, q_d1i, q_d1r, q_d2, gf_1_0, gf_1_1, gf_1_2, gf_1_3, gf_1_4, gf_1_5]
  rw [e15_3, iv_inv3 (Nat.le_of_ble_eq_true rfl) rfl (lq_rc hg_1 rfl), r23 h, iv_res_s]
  rw [e15_4, q_p1, if_pos (rfl)]
  simp only [e15_10, q_p1, q_p2, q_ldi0, q_ldis, q_lda0, q_ldas, q_sto0, q_stos, q_as, q_d1i, q_d1r, q_d2, gf_1_0, gf_1_1, gf_1_2, gf_1_3, gf_1_4, gf_1_5]
  rw [e15_11]
  rfl
theorem r16 {x y z : Int32} (h : ¬ (0 ≤ x ∧ x < F 53 0)) : iv_X (d + 3) 16 [.ref 1, .int x, .int y, .int z] (md_h A F dyn, s) = some (some (.int 0), (md_h A F dyn, s)) := by
  rw [en_16]
  simp only [e16_0, e16_1, e16_2, q_p1, q_p2, q_ldi0, q_ldis, q_lda0, q_ldas, q_sto0, q_stos, q_as, q_d1i, q_d1r, q_d2, gf_1_0, gf_1_1, gf_1_2, gf_1_3, gf_1_4, gf_1_5]
  rw [e16_3, iv_inv3 (Nat.le_of_ble_eq_true rfl) rfl (lq_rc hg_1 rfl), r23 h, iv_res_s]
  rw [e16_4, q_p1, if_pos (rfl)]
  simp only [e16_10, q_p1, q_p2, q_ldi0, q_ldis, q_lda0, q_ldas, q_sto0, q_stos, q_as, q_d1i, q_d1r, q_d2, gf_1_0, gf_1_1, gf_1_2, gf_1_3, gf_1_4, gf_1_5]
  rw [e16_11]
  rfl
theorem r17 {x y : Int32} (h : ¬ (0 ≤ x ∧ x < F 53 0)) : iv_X (d + 2) 17 [.ref 1, .int x, .int y] (md_h A F dyn, s) = some (some (.int (-1)), (md_h A F dyn, s)) := by
  rw [en_17]
  simp only [e17_0, e17_1, e17_2, q_p1, q_p2, q_ldi0, q_ldis, q_lda0, q_ldas, q_sto0, q_stos, q_as, q_d1i, q_d1r, q_d2, gf_1_0, gf_1_1, gf_1_2, gf_1_3, gf_1_4, gf_1_5]
  rw [e17_3, iv_inv2 (Nat.le_of_ble_eq_true rfl) rfl (lq_rc hg_53 rfl), p111f h, iv_res_s]
  rw [e17_4, q_p1, if_pos (rfl)]
  simp only [e17_15, q_p1, q_p2, q_ldi0, q_ldis, q_lda0, q_ldas, q_sto0, q_stos, q_as, q_d1i, q_d1r, q_d2, gf_1_0, gf_1_1, gf_1_2, gf_1_3, gf_1_4, gf_1_5]
  rw [e17_16]
  rfl
theorem r18 {x y z : Int32} (h : ¬ (0 ≤ x ∧ x < F 53 0)) : iv_X (d + 3) 18 [.ref 1, .int x, .int y, .int z] (md_h A F dyn, s) = some (some (.int (-1)), (md_h A F dyn, s)) := by
  rw [en_18]
  simp only [e18_0, e18_1, e18_2, q_p1, q_p2, q_ldi0, q_ldis, q_lda0, q_ldas, q_sto0, q_stos, q_as, q_d1i, q_d1r, q_d2, gf_1_0, gf_1_1, gf_1_2, gf_1_3, gf_1_4, gf_1_5]
  rw [e18_3, iv_inv3 (Nat.le_of_ble_eq_true rfl) rfl (lq_rc hg_1 rfl), r23 h, iv_res_s]
  rw [e18_4, q_p1, if_pos (rfl)]
  simp only [e18_10, q_p1, q_p2, q_ldi0, q_ldis, q_lda0, q_ldas, q_sto0, q_stos, q_as, q_d1i, q_d1r, q_d2, gf_1_0, gf_1_1, gf_1_2, gf_1_3, gf_1_4, gf_1_5]
  rw [e18_11]
  rfl
theorem r21 {x y : Int32} (h : ¬ (0 ≤ x ∧ x < F 77 0)) : iv_X (d + 2) 21 [.ref 1, .int x, .int y] (md_h A F dyn, s) = some (some (.int (-1)), (md_h A F dyn, s)) := by
  rw [en_21]
  simp only [e21_0, e21_1, e21_2, q_p1, q_p2, q_ldi0, q_ldis, q_lda0, q_ldas, q_sto0, q_stos, q_as, q_d1i, q_d1r, q_d2, gf_1_0, gf_1_1, gf_1_2, gf_1_3, gf_1_4, gf_1_5]
  rw [e21_3, iv_inv2 (Nat.le_of_ble_eq_true rfl) rfl (lq_rc hg_77 rfl), p88f h, iv_res_s]
  rw [e21_4, q_p1, if_pos (rfl)]
  simp only [e21_10, q_p1, q_p2, q_ldi0, q_ldis, q_lda0, q_ldas, q_sto0, q_stos, q_as, q_d1i, q_d1r, q_d2, gf_1_0, gf_1_1, gf_1_2, gf_1_3, gf_1_4, gf_1_5]
  rw [e21_11]
  rfl
theorem r22 {x y : Int32} (h : ¬ (0 ≤ x ∧ x < F 77 0)) : iv_X (d + 2) 22 [.ref 1, .int x, .int y] (md_h A F dyn, s) = some (some (.int (-1)), (md_h A F dyn, s)) := by
  rw [en_22]
  simp only [e22_0, e22_1, e22_2, q_p1, q_p2, q_ldi0, q_ldis, q_lda0, q_ldas, q_sto0, q_stos, q_as, q_d1i, q_d1r, q_d2, gf_1_0, gf_1_1, gf_1_2, gf_1_3, gf_1_4, gf_1_5]
  rw [e22_3, iv_inv2 (Nat.le_of_ble_eq_true rfl) rfl (lq_rc hg_77 rfl), p88f h, iv_res_s]
  rw [e22_4, q_p1, if_neg (fun h => h rfl)]
  simp only [e22_5, q_p1, q_p2, q_ldi0, q_ldis, q_lda0, q_ldas, q_sto0, q_stos, q_as, q_d1i, q_d1r, q_d2, gf_1_0, gf_1_1, gf_1_2, gf_1_3, gf_1_4, gf_1_5]
  rw [e22_6]
  rfl
theorem m27 {x y : Int32} (h0 : ¬ F 158 2 = 14) (h : ¬ (0 ≤ x ∧ x ≤ F 158 0 - 1)) : iv_X (d + 2) 27 [.ref 158, .int x, .int y] (md_h A F dyn, s) = some (some (.int (-1)), (md_h A F dyn, s)) := by
  rw [en_27]
  simp only [e27_0, e27_1, e27_2, q_p1, q_p2, q_ldi0, q_ldis, q_lda0, q_ldas, q_sto0, q_stos, q_as, q_d1i, q_d1r, q_d2, gf_158_0, gf_158_2, gf_158_7, gf_158_24, gf_158_41]
  rw [e27_3, q_p2, if_neg (h0)]
  simp only [e27_4, e27_5, e27_6, e27_7, e27_8, e27_9, q_p1, q_p2, q_ldi0, q_ldis, q_lda0, q_ldas, q_sto0, q_stos, q_as, q_d1i, q_d1r, q_d2, gf_158_0, gf_158_2, gf_158_7, gf_158_24, gf_158_41]
  rw [e27_10, iv_inv3 (Nat.le_of_ble_eq_true rfl) rfl rfl, p25f h, iv_res_s]
  rw [e27_11, q_p1, if_pos (rfl)]
  simp only [e27_17, q_p1, q_p2, q_ldi0, q_ldis, q_lda0, q_ldas, q_sto0, q_stos, q_as, q_d1i, q_d1r, q_d2, gf_158_0, gf_158_2, gf_158_7, gf_158_24, gf_158_41]
  rw [e27_18]
  rfl
theorem m28 {x b y k m g : Int32} (h0 : ¬ F 158 7 = 24) (h : ¬ (0 ≤ x ∧ x ≤ F 158 2 - 1)) : iv_X (d + 2) 28 [.ref 158, .int x, .int b, .int y, .int k, .int m, .int g] (md_h A F dyn, s) = some (some (.int (-1)), (md_h A F dyn, s)) := by
  rw [en_28]
  simp only [e28_0, e28_1, e28_2, q_p1, q_p2, q_ldi0, q_ldis, q_lda0, q_ldas, q_sto0, q_stos, q_as, q_d1i, q_d1r, q_d2, gf_158_0, gf_158_2, gf_158_7, gf_158_24, gf_158_41]
  rw [e28_3, q_p2, if_neg (h0)]
  simp only [e28_4, e28_5, e28_6, e28_7, e28_8, e28_9, q_p1, q_p2, q_ldi0, q_ldis, q_lda0, q_ldas, q_sto0, q_stos, q_as, q_d1i, q_d1r, q_d2, gf_158_0, gf_158_2, gf_158_7, gf_158_24, gf_158_41]
  rw [e28_10, iv_inv3 (Nat.le_of_ble_eq_true rfl) rfl rfl, p25f h, iv_res_s]
  rw [e28_11, q_p1, if_pos (rfl)]
  simp only [e28_30, q_p1, q_p2, q_ldi0, q_ldis, q_lda0, q_ldas, q_sto0, q_stos, q_as, q_d1i, q_d1r, q_d2, gf_158_0, gf_158_2, gf_158_7, gf_158_24, gf_158_41]
  rw [e28_31]
  rfl
theorem m34 {x y : Int32} (h : ¬ (0 ≤ x ∧ x ≤ F 158 0 - 1)) : iv_X (d + 2) 34 [.ref 158, .int x, .int y] (md_h A F dyn, s) = some (some (.int 0), (md_h A F dyn, s)) := by
  rw [en_34]
  simp only [e34_0, e34_1, e34_2, e34_3, e34_4, e34_5, q_p1, q_p2, q_ldi0, q_ldis, q_lda0, q_ldas, q_sto0, q_stos, q_as, q_d1i, q_d1r, q_d2, gf_158_0, gf_158_2, gf_158_7, gf_158_24, gf_158_41]
  rw [e34_6, iv_inv3 (Nat.le_of_ble_eq_true rfl) rfl rfl, p25f h, iv_res_s]
  rw [e34_7, q_p1, if_pos (rfl)]
  simp only [e34_19, q_p1, q_p2, q_ldi0, q_ldis, q_lda0, q_ldas, q_sto0, q_stos, q_as, q_d1i, q_d1r, q_d2, gf_158_0, gf_158_2, gf_158_7, gf_158_24, gf_158_41]
  rw [e34_20]
  rfl
theorem m35 {x : Int32} (h : ¬ (0 ≤ x ∧ x ≤ F 158 2 - 1)) : iv_X (d + 2) 35 [.ref 158, .int x] (md_h A F dyn, s) = some (some (.int 0), (md_h A F dyn, s)) := by
  rw [en_35]
  simp only [e35_0, e35_1, e35_2, e35_3, e35_4, e35_5, q_p1, q_p2, q_ldi0, q_ldis, q_lda0, q_ldas, q_sto0, q_stos, q_as, q_d1i, q_d1r, q_d2, gf_158_0, gf_158_2, gf_158_7, gf_158_24, gf_158_41]
  rw [e35_6, iv_inv3 (Nat.le_of_ble_eq_true rfl) rfl rfl, p25f h, iv_res_s]
  rw [e35_7, q_p1, if_pos (rfl)]
  simp only [e35_19, q_p1, q_p2, q_ldi0, q_ldis, q_lda0, q_ldas, q_sto0, q_stos, q_as, q_d1i, q_d1r, q_d2, gf_158_0, gf_158_2, gf_158_7, gf_158_24, gf_158_41]
  rw [e35_20]
  rfl
theorem m36 {x y z : Int32} (h : ¬ (0 ≤ x ∧ x ≤ F 158 2 - 1)) : iv_X (d + 2) 36 [.ref 158, .int x, .int y, .int z] (md_h A F dyn, s) = some (some (.int 0), (md_h A F dyn, s)) := by
  rw [en_36]
  simp only [e36_0, e36_1, e36_2, e36_3, e36_4, e36_5, q_p1, q_p2, q_ldi0, q_ldis, q_lda0, q_ldas, q_sto0, q_stos, q_as, q_d1i, q_d1r, q_d2, gf_158_0, gf_158_2, gf_158_7, gf_158_24, gf_158_41]
  rw [e36_6, iv_inv3 (Nat.le_of_ble_eq_true rfl) rfl rfl, p25f h, iv_res_s]
  rw [e36_7, q_p1, if_pos (rfl)]
  simp only [e36_18, q_p1, q_p2, q_ldi0, q_ldis, q_lda0, q_ldas, q_sto0, q_stos, q_as, q_d1i, q_d1r, q_d2, gf_158_0, gf_158_2, gf_158_7, gf_158_24, gf_158_41]
  rw [e36_19]
  rfl
theorem m37 {x : Int32} (h0 : ¬ F 158 24 = 10) (h : ¬ (0 ≤ x ∧ x ≤ F 158 0 - 1)) : iv_X (d + 2) 37 [.ref 158, .int x] (md_h A F dyn, s) = some (some (.int (-1)), (md_h A F dyn, s)) := by
  rw [en_37]
  simp only [e37_0, e37_1, e37_2, q_p1, q_p2, q_ldi0, q_ldis, q_lda0, q_ldas, q_sto0, q_stos, q_as, q_d1i, q_d1r, q_d2, gf_158_0, gf_158_2, gf_158_7, gf_158_24, gf_158_41]
  rw [e37_3, q_p2, if_neg (h0)]
  simp only [e37_4, e37_5, e37_6, e37_7, e37_8, e37_9, q_p1, q_p2, q_ldi0, q_ldis, q_lda0, q_ldas, q_sto0, q_stos, q_as, q_d1i, q_d1r, q_d2, gf_158_0, gf_158_2, gf_158_7, gf_158_24, gf_158_41]
  rw [e37_10, iv_inv3 (Nat.le_of_ble_eq_true rfl) rfl rfl, p25f h, iv_res_s]
  rw [e37_11, q_p1, if_neg (fun h => h rfl)]
  simp only [e37_12, q_p1, q_p2, q_ldi0, q_ldis, q_lda0, q_ldas, q_sto0, q_stos, q_as, q_d1i, q_d1r, q_d2, gf_158_0, gf_158_2, gf_158_7, gf_158_24, gf_158_41]
  rw [e37_13]
  rfl
theorem m38 {x y : Int32} (h : ¬ (0 ≤ x ∧ x ≤ F 158 24 - 1)) : iv_X (d + 2) 38 [.ref 158, .int x, .int y] (md_h A F dyn, s) = some (some (.int 0), (md_h A F dyn, s)) := by
  rw [en_38]
  simp only [e38_0, e38_1, e38_2, e38_3, e38_4, e38_5, q_p1, q_p2, q_ldi0, q_ldis, q_lda0, q_ldas, q_sto0, q_stos, q_as, q_d1i, q_d1r, q_d2, gf_158_0, gf_158_2, gf_158_7, gf_158_24, gf_158_41]
  rw [e38_6, iv_inv3 (Nat.le_of_ble_eq_true rfl) rfl rfl, p25f h, iv_res_s]
  rw [e38_7, q_p1, if_pos (rfl)]
  simp only [e38_16, q_p1, q_p2, q_ldi0, q_ldis, q_lda0, q_ldas, q_sto0, q_stos, q_as, q_d1i, q_d1r, q_d2, gf_158_0, gf_158_2, gf_158_7, gf_158_24, gf_158_41]
  rw [e38_17]
  rfl
theorem m39 {x y z : Int32} (h : ¬ (0 ≤ x ∧ x ≤ F 158 24 - 1)) : iv_X (d + 3) 39 [.ref 158, .int x, .int y, .int z] (md_h A F dyn, s) = some (some (.int 0), (md_h A F dyn, s)) := by
  rw [en_39]
  simp only [e39_0, e39_1, e39_2, q_p1, q_p2, q_ldi0, q_ldis, q_lda0, q_ldas, q_sto0, q_stos, q_as, q_d1i, q_d1r, q_d2, gf_158_0, gf_158_2, gf_158_7, gf_158_24, gf_158_41]
  rw [e39_3, iv_inv3 (Nat.le_of_ble_eq_true rfl) rfl (lq_rc hg_158 rfl), m38 h, iv_res_s]
  rw [e39_4, q_p1, if_pos (rfl)]
  simp only [e39_25, q_p1, q_p2, q_ldi0, q_ldis, q_lda0, q_ldas, q_sto0, q_stos, q_as, q_d1i, q_d1r, q_d2, gf_158_0, gf_158_2, gf_158_7, gf_158_24, gf_158_41]
  rw [e39_26]
  rfl
theorem m40 {x y z : Int32} (h : ¬ (0 ≤ x ∧ x ≤ F 158 24 - 1)) : iv_X (d + 3) 40 [.ref 158, .int x, .int y, .int z] (md_h A F dyn, s) = some (some (.int 0), (md_h A F dyn, s)) := by
  rw [en_40]
  simp only [e40_0, e40_1, e40_2, q_p1, q_p2, q_ldi0, q_ldis, q_lda0, q_ldas, q_sto0, q_stos, q_as, q_d1i, q_d1r, q_d2, gf_158_0, gf_158_2, gf_158_7, gf_158_24, gf_158_41]
  rw [e40_3, iv_inv3 (Nat.le_of_ble_eq_true rfl) rfl (lq_rc hg_158 rfl), m38 h, iv_res_s]
  rw [e40_4, q_p1, if_pos (rfl)]
  simp only [e40_25, q_p1, q_p2, q_ldi0, q_ldis, q_lda0, q_ldas, q_sto0, q_stos, q_as, q_d1i, q_d1r, q_d2, gf_158_0, gf_158_2, gf_158_7, gf_158_24, gf_158_41]
  rw [e40_26]
  rfl
theorem m41 {x y z : Int32} (h : ¬ (0 ≤ x ∧ x ≤ F 158 24 - 1)) : iv_X (d + 3) 41 [.ref 158, .int x, .int y, .int z] (md_h A F dyn, s) = some (some (.int 0), (md_h A F dyn, s)) := by
  rw [en_41]
  simp only [e41_0, e41_1, e41_2, q_p1, q_p2, q_ldi0, q_ldis, q_lda0, q_ldas, q_sto0, q_stos, q_as, q_d1i, q_d1r, q_d2, gf_158_0, gf_158_2, gf_158_7, gf_158_24, gf_158_41]
  rw [e41_3, iv_inv3 (Nat.le_of_ble_eq_true rfl) rfl (lq_rc hg_158 rfl), m38 h, iv_res_s]
  rw [e41_4, q_p1, if_pos (rfl)]
  simp only [e41_11, q_p1, q_p2, q_ldi0, q_ldis, q_lda0, q_ldas, q_sto0, q_stos, q_as, q_d1i, q_d1r, q_d2, gf_158_0, gf_158_2, gf_158_7, gf_158_24, gf_158_41]
  rw [e41_12]
  rfl
theorem m56 {x y : Int32} (h : ¬ (0 ≤ x ∧ x ≤ F 158 24 - 1)) : iv_X (d + 2) 56 [.ref 158, .int x, .int y] (md_h A F dyn, s) = some (some (.int (-1)), (md_h A F dyn, s)) := by
  rw [en_56]
  simp only [e56_0, e56_1, e56_2, e56_3, e56_4, e56_5, q_p1, q_p2, q_ldi0, q_ldis, q_lda0, q_ldas, q_sto0, q_stos, q_as, q_d1i, q_d1r, q_d2, gf_158_0, gf_158_2, gf_158_7, gf_158_24, gf_158_41]
  rw [e56_6, iv_inv3 (Nat.le_of_ble_eq_true rfl) rfl rfl, p25f h, iv_res_s]
  rw [e56_7, q_p1, if_pos (rfl)]
  simp only [e56_13, q_p1, q_p2, q_ldi0, q_ldis, q_lda0, q_ldas, q_sto0, q_stos, q_as, q_d1i, q_d1r, q_d2, gf_158_0, gf_158_2, gf_158_7, gf_158_24, gf_158_41]
  rw [e56_14]
  rfl
theorem m57 {x y z : Int32} (h : ¬ (0 ≤ x ∧ x ≤ F 158 24 - 1)) : iv_X (d + 3) 57 [.ref 158, .int x, .int y, .int z] (md_h A F dyn, s) = some (some (.int (-1)), (md_h A F dyn, s)) := by
  rw [en_57]
  simp only [e57_0, e57_1, e57_2, q_p1, q_p2, q_ldi0, q_ldis, q_lda0, q_ldas, q_sto0, q_stos, q_as, q_d1i, q_d1r, q_d2, gf_158_0, gf_158_2, gf_158_7, gf_158_24, gf_158_41]
  rw [e57_3, iv_inv3 (Nat.le_of_ble_eq_true rfl) rfl (lq_rc hg_158 rfl), m38 h, iv_res_s]
  rw [e57_4, q_p1, if_pos (rfl)]
  simp only [e57_10, q_p1, q_p2, q_ldi0, q_ldis, q_lda0, q_ldas, q_sto0, q_stos, q_as, q_d1i, q_d1r, q_d2, gf_158_0, gf_158_2, gf_158_7, gf_158_24, gf_158_41]
  rw [e57_11]
  rfl
theorem m60 {x y : Int32} (h : ¬ (0 ≤ x ∧ x ≤ F 158 41 - 1)) : iv_X (d + 2) 60 [.ref 158, .int x, .int y] (md_h A F dyn, s) = some (some (.int (-1)), (md_h A F dyn, s)) := by
  rw [en_60]
  simp only [e60_0, e60_1, e60_2, e60_3, e60_4, e60_5, q_p1, q_p2, q_ldi0, q_ldis, q_lda0, q_ldas, q_sto0, q_stos, q_as, q_d1i, q_d1r, q_d2, gf_158_0, gf_158_2, gf_158_7, gf_158_24, gf_158_41]
  rw [e60_6, iv_inv3 (Nat.le_of_ble_eq_true rfl) rfl rfl, p25f h, iv_res_s]
  rw [e60_7, q_p1, if_pos (rfl)]
  simp only [e60_22, q_p1, q_p2, q_ldi0, q_ldis, q_lda0, q_ldas, q_sto0, q_stos, q_as, q_d1i, q_d1r, q_d2, gf_158_0, gf_158_2, gf_158_7, gf_158_24, gf_158_41]
  rw [e60_23]
  rfl
theorem m63 {x y : Int32} (h : ¬ (0 ≤ x ∧ x ≤ F 158 41 - 1)) : iv_X (d + 2) 63 [.ref 158, .int x, .int y] (md_h A F dyn, s) = some (some (.int (-1)), (md_h A F dyn, s)) := by
  rw [en_63]
  simp only [e63_0, e63_1, e63_2, e63_3, e63_4, e63_5, q_p1, q_p2, q_ldi0, q_ldis, q_lda0, q_ldas, q_sto0, q_stos, q_as, q_d1i, q_d1r, q_d2, gf_158_0, gf_158_2, gf_158_7, gf_158_24, gf_158_41]
  rw [e63_6, iv_inv3 (Nat.le_of_ble_eq_true rfl) rfl rfl, p25f h, iv_res_s]
  rw [e63_7, q_p1, if_pos (rfl)]
  simp only [e63_11, q_p1, q_p2, q_ldi0, q_ldis, q_lda0, q_ldas, q_sto0, q_stos, q_as, q_d1i, q_d1r, q_d2, gf_158_0, gf_158_2, gf_158_7, gf_158_24, gf_158_41]
  rw [e63_12]
  rfl
theorem a19 : iv_X (d + 1) 19 [.ref 1] (md_h A F dyn, s) = some (some (.int (F 77 0)), (md_h A F dyn, s)) := by
  rw [en_19]
  simp only [e19_0, e19_1, e19_2, q_p1, q_p2, q_ldi0, q_ldis, q_lda0, q_ldas, q_sto0, q_stos, q_as, q_d1i, q_d1r, q_d2, gf_1_4, gf_77_0]
  rw [e19_3]
  rfl
theorem a20 : iv_X (d + 1) 20 [.ref 1] (md_h A F dyn, s) = some (some (.int (F 155 8)), (md_h A F dyn, s)) := by
  rw [en_20]
  simp only [e20_0, e20_1, e20_2, q_p1, q_p2, q_ldi0, q_ldis, q_lda0, q_ldas, q_sto0, q_stos, q_as, q_d1i, q_d1r, q_d2, gf_1_5, gf_155_8]
  rw [e20_3]
  rfl
theorem a58 : iv_X (d + 1) 58 [.ref 158] (md_h A F dyn, s) = some (some (.int (F 158 41)), (md_h A F dyn, s)) := by
  rw [en_58]
  simp only [e58_0, e58_1, q_p1, q_p2, q_ldi0, q_ldis, q_lda0, q_ldas, q_sto0, q_stos, q_as, q_d1i, q_d1r, q_d2, gf_158_41]
  rw [e58_2]
  rfl
theorem a59 : iv_X (d + 1) 59 [.ref 158] (md_h A F dyn, s) = some (some (.int (F 158 39)), (md_h A F dyn, s)) := by
  rw [en_59]
  simp only [e59_0, e59_1, q_p1, q_p2, q_ldi0, q_ldis, q_lda0, q_ldas, q_sto0, q_stos, q_as, q_d1i, q_d1r, q_d2, gf_158_39]
  rw [e59_2]
  rfl
end LEAF2
