/-! the law's rows hold -/
theorem iv_chk_cat {cc : ByteArray} {code : List iv_I} {fl : List (Instr × Nat × Nat × Nat)} : ∀ (l1 l2 : List iv_I) (k : Nat), iv_chk cc code fl k l1 = true → iv_chk cc code fl (k + l1.length) l2 = true → iv_chk cc code fl k (l1 ++ l2) = true
  | [], l2, k, _, h => h
  | I :: l1, l2, k, h1, h2 => by
    rw [List.cons_append]
    unfold iv_chk at h1 ⊢
    simp only [Bool.and_eq_true] at h1 ⊢
    exact ⟨h1.1, h1.2.1, h1.2.2.1, iv_chk_cat l1 l2 (k + 1) h1.2.2.2 (by rw [show k + 1 + l1.length = k + (I :: l1).length by simp only [List.length_cons]; omega]; exact h2)⟩
theorem lk_0 : iv_chk code mc_1 fl_L 0 ((mc_1.drop 0).take 50) = true := by decide +kernel
theorem lk_1 : iv_chk code mc_1 fl_L 50 ((mc_1.drop 50).take 50) = true := by decide +kernel
theorem lk_2 : iv_chk code mc_1 fl_L 100 ((mc_1.drop 100).take 50) = true := by decide +kernel
theorem lk_3 : iv_chk code mc_1 fl_L 150 ((mc_1.drop 150).take 50) = true := by decide +kernel
