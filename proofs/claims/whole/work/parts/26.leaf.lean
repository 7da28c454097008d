/-! leaves: what the small questions answer, on any state -/
section LEAF
variable {A F : Nat → Nat → Int32} {dyn : Nat → Option iv_C} {s : Nat × Nat} {d : Nat} {x y z : Int32}
def lf_b (p : Prop) [Decidable p] : Int32 := if p then 1 else 0
theorem sp_102 : iv_X (d + 1) 102 [.ref 2, .int x] (md_h A F dyn, s) = some (some (.int (if 0 ≤ x ∧ x < F 2 0 then 1 else 0)), (md_h A F dyn, s)) := by
  rw [en_102]
  simp only [e102_0, e102_1, e102_2, e102_3, e102_4, e102_5, e102_6, e102_7, e102_8, e102_9, q_p1, q_p2, q_ldi0, q_ldis, q_lda0, q_ldas, gf_2_0, q_rz0, q_rz1]
  by_cases h0 : x < 0
  · rw [if_pos h0, if_neg (fun h => absurd h.1 (Int32.not_le.mpr h0))]
  · rw [if_neg h0]
    by_cases h1 : F 2 0 ≤ x
    · rw [if_pos h1, if_neg (fun h => absurd h.2 (Int32.not_lt.mpr h1))]
    · rw [if_neg h1, if_pos ⟨Int32.not_lt.mp h0, Int32.not_le.mp h1⟩]
end LEAF
