/-! bits (the first rows began as the rows on bits that are given for pasting) -/
def tb (x : Int32) (i : Nat) : Bool := x.toBitVec.getLsbD i
theorem tb_ext {x y : Int32} (h : ∀ i, i < 32 → tb x i = tb y i) : x = y := Int32.toBitVec_inj.mp (BitVec.eq_of_getLsbD_eq (fun i hi => h i hi))
theorem tb_or (x y : Int32) (i : Nat) : tb (x ||| y) i = (tb x i || tb y i) := by unfold tb; rw [Int32.toBitVec_or, BitVec.getLsbD_or]
theorem tb_and (x y : Int32) (i : Nat) : tb (x &&& y) i = (tb x i && tb y i) := by unfold tb; rw [Int32.toBitVec_and, BitVec.getLsbD_and]
theorem tb_0 (i : Nat) : tb (nI 0) i = false := BitVec.getLsbD_zero
theorem tb_sl : ∀ n, n < 32 → ((nI n &&& 31).toBitVec.smod 32).toNat = n := by decide +kernel
theorem tb_shl (n : Nat) (hn : n < 32) (x : Int32) {i : Nat} (hi : i < 32) : tb (x <<< (nI n &&& 31)) i = (decide (n ≤ i) && tb x (i - n)) := by
  unfold tb
  rw [Int32.toBitVec_shiftLeft]
  show (x.toBitVec <<< ((nI n &&& 31).toBitVec.smod 32).toNat).getLsbD i = _
  rw [tb_sl n hn, BitVec.getLsbD_shiftLeft]
  rcases Nat.lt_or_ge i n with h | h
  · simp [h, Nat.not_le.mpr h]
  · simp [hi, h, Nat.not_lt.mpr h]
theorem tb_sshr (n : Nat) (hn : n < 32) (x : Int32) {i : Nat} (hi : i < 32) : tb (x >>> (nI n &&& 31)) i = if n + i < 32 then tb x (n + i) else tb x 31 := by
  unfold tb
  rw [Int32.toBitVec_shiftRight]
  show (x.toBitVec.sshiftRight ((nI n &&& 31).toBitVec.smod 32).toNat).getLsbD i = _
  rw [tb_sl n hn, BitVec.getLsbD_sshiftRight, BitVec.msb_eq_getLsbD_last]
  simp [hi]
theorem tb_one : ∀ i, i < 32 → tb (nI 1) i = decide (i = 0) := by decide +kernel
theorem tb_bI {b : Bool} : ∀ i, i < 32 → tb (bI b) i = (decide (i = 0) && b) := by
  cases b
  · intro i _
    rw [Bool.and_false]
    exact tb_0 i
  · intro i hi
    rw [Bool.and_true]
    exact tb_one i hi
theorem tb_bt {k i : Nat} (hk : k < 32) (hi : i < 32) : tb (bt k) i = decide (k = i) := by
  unfold bt
  rw [tb_shl k hk _ hi, tb_one _ (by omega)]
  rcases Nat.lt_trichotomy k i with h | h | h
  · simp [show k ≠ i by omega, show ¬ i - k = 0 by omega]
  · simp [h]
  · simp [show k ≠ i by omega, show ¬ k ≤ i by omega]
theorem tb_test {x : Int32} {k : Nat} (hk : k < 31) : (x >>> (nI k &&& 31)) &&& nI 1 = bI (tb x k) := by
  apply tb_ext
  intro i hi
  rw [tb_and, tb_sshr k (by omega) _ hi, tb_one i hi, tb_bI i hi]
  by_cases h : i = 0
  · subst h
    rw [if_pos (show k + 0 < 32 by omega)]
    simp
  · simp [h]
theorem bI_1' {b : Bool} : (bI b = nI 1) = (b = true) := by cases b <;> simp [bI, nI]
theorem ixb_no {x : Int32} {n : Nat} (h : ixb x (n + 1) = false) (hn : n + 1 < 2 ^ 31) : x < nI 0 ∨ (¬ x < nI 0 ∧ nI n < x ∧ ¬ x ≤ nI n) := by
  simp only [ixb, decide_eq_false_iff_not] at h
  by_cases h0 : x < nI 0
  · exact .inl h0
  · refine .inr ⟨h0, ?_⟩
    have h1 : nI 0 ≤ x := Int32.not_lt.mp h0
    have h2 : nI (n + 1) ≤ x := Int32.not_lt.mp (fun h3 => h ⟨h1, h3⟩)
    have h3 : nI n < nI (n + 1) := nI_lt (by omega) hn
    have h4 : nI n < x := by
      rw [Int32.lt_iff_toInt_lt] at h3 ⊢
      rw [Int32.le_iff_toInt_le] at h2
      omega
    exact ⟨h4, Int32.not_le.mpr h4⟩
theorem ixb_m1 {n : Nat} : ixb (-1) n = false := by
  simp only [ixb, decide_eq_false_iff_not]
  exact fun h => absurd h.1 (by decide)
theorem ixb_ne {x : Int32} {n : Nat} (h : ixb x n = true) : ¬ x = -1 := by
  intro e
  rw [e, ixb_m1] at h
  exact absurd h (by decide)
theorem ix_f {x : Int32} {n : Nat} (h : ¬ ixb x n = true) : ixb x n = false := by
  cases e : ixb x n
  · rfl
  · exact absurd e h
