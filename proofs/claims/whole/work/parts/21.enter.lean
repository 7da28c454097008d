/-! a method's beginning, a call: as equations -/
def iv_res (r : iv_R) (st : List Value) (q : List Value → iv_S → iv_R) : iv_R := match r with
  | some (u, w') => q (u.toList ++ st) w'
  | none => none
theorem iv_res_v {w : iv_S} {st : List Value} {q : List Value → iv_S → iv_R} : iv_res (some (none, w)) st q = q st w := rfl
theorem iv_res_s {a : Value} {w : iv_S} {st : List Value} {q : List Value → iv_S → iv_R} : iv_res (some (some a, w)) st q = q (a :: st) w := rfl
section IVT
variable {call : Nat → List Value → iv_S → iv_R} {x : Nat} {ok : List Value → Bool} {st : List Value} {w : iv_S} {q : List Value → iv_S → iv_R}
theorem iv_inv1 {v0 : Value} (h8 : st.length ≤ 8) (ha : st.all iv_isv = true) (ho : ok [v0] = true) : iv_inv call x 1 ok (v0 :: st) w q = iv_res (call x [v0] w) st q := by
  unfold iv_inv
  rw [if_pos (by simp only [List.length_cons]; omega)]
  simp only [List.drop_succ_cons, List.drop_zero, List.take_succ_cons, List.take_zero, List.reverse_cons, List.reverse_nil, List.nil_append, List.cons_append]
  rw [if_pos h8, if_pos ha, if_pos ho]
  rfl
theorem iv_inv2 {v0 v1 : Value} (h8 : st.length ≤ 8) (ha : st.all iv_isv = true) (ho : ok [v0, v1] = true) : iv_inv call x 2 ok (v1 :: v0 :: st) w q = iv_res (call x [v0, v1] w) st q := by
  unfold iv_inv
  rw [if_pos (by simp only [List.length_cons]; omega)]
  simp only [List.drop_succ_cons, List.drop_zero, List.take_succ_cons, List.take_zero, List.reverse_cons, List.reverse_nil, List.nil_append, List.cons_append]
  rw [if_pos h8, if_pos ha, if_pos ho]
  rfl
theorem iv_inv3 {v0 v1 v2 : Value} (h8 : st.length ≤ 8) (ha : st.all iv_isv = true) (ho : ok [v0, v1, v2] = true) : iv_inv call x 3 ok (v2 :: v1 :: v0 :: st) w q = iv_res (call x [v0, v1, v2] w) st q := by
  unfold iv_inv
  rw [if_pos (by simp only [List.length_cons]; omega)]
  simp only [List.drop_succ_cons, List.drop_zero, List.take_succ_cons, List.take_zero, List.reverse_cons, List.reverse_nil, List.nil_append, List.cons_append]
  rw [if_pos h8, if_pos ha, if_pos ho]
  rfl
theorem iv_inv4 {v0 v1 v2 v3 : Value} (h8 : st.length ≤ 8) (ha : st.all iv_isv = true) (ho : ok [v0, v1, v2, v3] = true) : iv_inv call x 4 ok (v3 :: v2 :: v1 :: v0 :: st) w q = iv_res (call x [v0, v1, v2, v3] w) st q := by
  unfold iv_inv
  rw [if_pos (by simp only [List.length_cons]; omega)]
  simp only [List.drop_succ_cons, List.drop_zero, List.take_succ_cons, List.take_zero, List.reverse_cons, List.reverse_nil, List.nil_append, List.cons_append]
  rw [if_pos h8, if_pos ha, if_pos ho]
  rfl
theorem iv_inv5 {v0 v1 v2 v3 v4 : Value} (h8 : st.length ≤ 8) (ha : st.all iv_isv = true) (ho : ok [v0, v1, v2, v3, v4] = true) : iv_inv call x 5 ok (v4 :: v3 :: v2 :: v1 :: v0 :: st) w q = iv_res (call x [v0, v1, v2, v3, v4] w) st q := by
  unfold iv_inv
  rw [if_pos (by simp only [List.length_cons]; omega)]
  simp only [List.drop_succ_cons, List.drop_zero, List.take_succ_cons, List.take_zero, List.reverse_cons, List.reverse_nil, List.nil_append, List.cons_append]
  rw [if_pos h8, if_pos ha, if_pos ho]
  rfl
theorem iv_inv6 {v0 v1 v2 v3 v4 v5 : Value} (h8 : st.length ≤ 8) (ha : st.all iv_isv = true) (ho : ok [v0, v1, v2, v3, v4, v5] = true) : iv_inv call x 6 ok (v5 :: v4 :: v3 :: v2 :: v1 :: v0 :: st) w q = iv_res (call x [v0, v1, v2, v3, v4, v5] w) st q := by
  unfold iv_inv
  rw [if_pos (by simp only [List.length_cons]; omega)]
  simp only [List.drop_succ_cons, List.drop_zero, List.take_succ_cons, List.take_zero, List.reverse_cons, List.reverse_nil, List.nil_append, List.cons_append]
  rw [if_pos h8, if_pos ha, if_pos ho]
  rfl
theorem iv_inv7 {v0 v1 v2 v3 v4 v5 v6 : Value} (h8 : st.length ≤ 8) (ha : st.all iv_isv = true) (ho : ok [v0, v1, v2, v3, v4, v5, v6] = true) : iv_inv call x 7 ok (v6 :: v5 :: v4 :: v3 :: v2 :: v1 :: v0 :: st) w q = iv_res (call x [v0, v1, v2, v3, v4, v5, v6] w) st q := by
  unfold iv_inv
  rw [if_pos (by simp only [List.length_cons]; omega)]
  simp only [List.drop_succ_cons, List.drop_zero, List.take_succ_cons, List.take_zero, List.reverse_cons, List.reverse_nil, List.nil_append, List.cons_append]
  rw [if_pos h8, if_pos ha, if_pos ho]
  rfl
end IVT
theorem en_2 {d : Nat} {w : iv_S} {a0 : Nat} : iv_X (d + 1) 2 [.ref a0] w = iv_V (iv_X d) mc_2 none 0 [.ref a0] [] w := rfl
theorem en_3 {d : Nat} {w : iv_S} {a0 : Nat} {x1 : Int32} : iv_X (d + 1) 3 [.ref a0, .int x1] w = iv_V (iv_X d) mc_3 (some .int) 0 [.ref a0, .int x1] [] w := rfl
theorem en_4 {d : Nat} {w : iv_S} {a0 : Nat} {x1 : Int32} {x2 : Int32} : iv_X (d + 1) 4 [.ref a0, .int x1, .int x2] w = iv_V (iv_X d) mc_4 (some .int) 0 [.ref a0, .int x1, .int x2, iv_un] [] w := rfl
theorem en_5 {d : Nat} {w : iv_S} {a0 : Nat} {x1 : Int32} {x2 : Int32} {x3 : Int32} {x4 : Int32} {x5 : Int32} {x6 : Int32} : iv_X (d + 1) 5 [.ref a0, .int x1, .int x2, .int x3, .int x4, .int x5, .int x6] w = iv_V (iv_X d) mc_5 (some .int) 0 [.ref a0, .int x1, .int x2, .int x3, .int x4, .int x5, .int x6, iv_un] [] w := rfl
theorem en_6 {d : Nat} {w : iv_S} {a0 : Nat} {x1 : Int32} {x2 : Int32} {x3 : Int32} {x4 : Int32} : iv_X (d + 1) 6 [.ref a0, .int x1, .int x2, .int x3, .int x4] w = iv_V (iv_X d) mc_6 (some .boolean) 0 [.ref a0, .int x1, .int x2, .int x3, .int x4] [] w := rfl
theorem en_7 {d : Nat} {w : iv_S} {a0 : Nat} {x1 : Int32} {x2 : Int32} : iv_X (d + 1) 7 [.ref a0, .int x1, .int x2] w = iv_V (iv_X d) mc_7 (some .boolean) 0 [.ref a0, .int x1, .int x2] [] w := rfl
theorem en_8 {d : Nat} {w : iv_S} {a0 : Nat} {x1 : Int32} {x2 : Int32} : iv_X (d + 1) 8 [.ref a0, .int x1, .int x2] w = iv_V (iv_X d) mc_8 (some .boolean) 0 [.ref a0, .int x1, .int x2] [] w := rfl
theorem en_9 {d : Nat} {w : iv_S} {a0 : Nat} {x1 : Int32} {x2 : Int32} : iv_X (d + 1) 9 [.ref a0, .int x1, .int x2] w = iv_V (iv_X d) mc_9 (some .boolean) 0 [.ref a0, .int x1, .int x2] [] w := rfl
theorem en_10 {d : Nat} {w : iv_S} {a0 : Nat} {x1 : Int32} {x2 : Int32} : iv_X (d + 1) 10 [.ref a0, .int x1, .int x2] w = iv_V (iv_X d) mc_10 (some .boolean) 0 [.ref a0, .int x1, .int x2] [] w := rfl
theorem en_11 {d : Nat} {w : iv_S} {a0 : Nat} {x1 : Int32} : iv_X (d + 1) 11 [.ref a0, .int x1] w = iv_V (iv_X d) mc_11 (some .boolean) 0 [.ref a0, .int x1] [] w := rfl
theorem en_12 {d : Nat} {w : iv_S} {a0 : Nat} {x1 : Int32} {x2 : Int32} {x3 : Int32} : iv_X (d + 1) 12 [.ref a0, .int x1, .int x2, .int x3] w = iv_V (iv_X d) mc_12 (some .boolean) 0 [.ref a0, .int x1, .int x2, .int x3] [] w := rfl
theorem en_13 {d : Nat} {w : iv_S} {a0 : Nat} {x1 : Int32} : iv_X (d + 1) 13 [.ref a0, .int x1] w = iv_V (iv_X d) mc_13 (some .int) 0 [.ref a0, .int x1] [] w := rfl
theorem en_14 {d : Nat} {w : iv_S} {a0 : Nat} {x1 : Int32} {x2 : Int32} {x3 : Int32} : iv_X (d + 1) 14 [.ref a0, .int x1, .int x2, .int x3] w = iv_V (iv_X d) mc_14 (some .boolean) 0 [.ref a0, .int x1, .int x2, .int x3] [] w := rfl
theorem en_15 {d : Nat} {w : iv_S} {a0 : Nat} {x1 : Int32} {x2 : Int32} {x3 : Int32} : iv_X (d + 1) 15 [.ref a0, .int x1, .int x2, .int x3] w = iv_V (iv_X d) mc_15 (some .boolean) 0 [.ref a0, .int x1, .int x2, .int x3] [] w := rfl
theorem en_16 {d : Nat} {w : iv_S} {a0 : Nat} {x1 : Int32} {x2 : Int32} {x3 : Int32} : iv_X (d + 1) 16 [.ref a0, .int x1, .int x2, .int x3] w = iv_V (iv_X d) mc_16 (some .boolean) 0 [.ref a0, .int x1, .int x2, .int x3] [] w := rfl
theorem en_17 {d : Nat} {w : iv_S} {a0 : Nat} {x1 : Int32} {x2 : Int32} : iv_X (d + 1) 17 [.ref a0, .int x1, .int x2] w = iv_V (iv_X d) mc_17 (some .int) 0 [.ref a0, .int x1, .int x2, iv_un, iv_un, iv_un] [] w := rfl
theorem en_18 {d : Nat} {w : iv_S} {a0 : Nat} {x1 : Int32} {x2 : Int32} {x3 : Int32} : iv_X (d + 1) 18 [.ref a0, .int x1, .int x2, .int x3] w = iv_V (iv_X d) mc_18 (some .int) 0 [.ref a0, .int x1, .int x2, .int x3] [] w := rfl
theorem en_19 {d : Nat} {w : iv_S} {a0 : Nat} : iv_X (d + 1) 19 [.ref a0] w = iv_V (iv_X d) mc_19 (some .int) 0 [.ref a0] [] w := rfl
theorem en_20 {d : Nat} {w : iv_S} {a0 : Nat} : iv_X (d + 1) 20 [.ref a0] w = iv_V (iv_X d) mc_20 (some .int) 0 [.ref a0] [] w := rfl
theorem en_21 {d : Nat} {w : iv_S} {a0 : Nat} {x1 : Int32} {x2 : Int32} : iv_X (d + 1) 21 [.ref a0, .int x1, .int x2] w = iv_V (iv_X d) mc_21 (some .int) 0 [.ref a0, .int x1, .int x2] [] w := rfl
theorem en_22 {d : Nat} {w : iv_S} {a0 : Nat} {x1 : Int32} {x2 : Int32} : iv_X (d + 1) 22 [.ref a0, .int x1, .int x2] w = iv_V (iv_X d) mc_22 (some .int) 0 [.ref a0, .int x1, .int x2] [] w := rfl
theorem en_23 {d : Nat} {w : iv_S} {a0 : Nat} {x1 : Int32} {x2 : Int32} : iv_X (d + 1) 23 [.ref a0, .int x1, .int x2] w = iv_V (iv_X d) mc_23 (some .boolean) 0 [.ref a0, .int x1, .int x2] [] w := rfl
theorem en_24 {d : Nat} {w : iv_S} {a0 : Nat} : iv_X (d + 1) 24 [.ref a0] w = iv_V (iv_X d) mc_24 none 0 [.ref a0] [] w := rfl
theorem en_25 {d : Nat} {w : iv_S} {x0 : Int32} {x1 : Int32} {x2 : Int32} : iv_X (d + 1) 25 [.int x0, .int x1, .int x2] w = iv_V (iv_X d) mc_25 (some .boolean) 0 [.int x0, .int x1, .int x2] [] w := rfl
theorem en_26 {d : Nat} {w : iv_S} {a0 : Nat} {x1 : Int32} : iv_X (d + 1) 26 [.ref a0, .int x1] w = iv_V (iv_X d) mc_26 (some .int) 0 [.ref a0, .int x1] [] w := rfl
theorem en_27 {d : Nat} {w : iv_S} {a0 : Nat} {x1 : Int32} {x2 : Int32} : iv_X (d + 1) 27 [.ref a0, .int x1, .int x2] w = iv_V (iv_X d) mc_27 (some .int) 0 [.ref a0, .int x1, .int x2] [] w := rfl
theorem en_28 {d : Nat} {w : iv_S} {a0 : Nat} {x1 : Int32} {x2 : Int32} {x3 : Int32} {x4 : Int32} {x5 : Int32} {x6 : Int32} : iv_X (d + 1) 28 [.ref a0, .int x1, .int x2, .int x3, .int x4, .int x5, .int x6] w = iv_V (iv_X d) mc_28 (some .int) 0 [.ref a0, .int x1, .int x2, .int x3, .int x4, .int x5, .int x6] [] w := rfl
theorem en_29 {d : Nat} {w : iv_S} {a0 : Nat} {x1 : Int32} {x2 : Int32} {x3 : Int32} {x4 : Int32} : iv_X (d + 1) 29 [.ref a0, .int x1, .int x2, .int x3, .int x4] w = iv_V (iv_X d) mc_29 (some .boolean) 0 [.ref a0, .int x1, .int x2, .int x3, .int x4, iv_un] [] w := rfl
theorem en_30 {d : Nat} {w : iv_S} {a0 : Nat} {x1 : Int32} {x2 : Int32} : iv_X (d + 1) 30 [.ref a0, .int x1, .int x2] w = iv_V (iv_X d) mc_30 (some .boolean) 0 [.ref a0, .int x1, .int x2] [] w := rfl
theorem en_31 {d : Nat} {w : iv_S} {a0 : Nat} {x1 : Int32} : iv_X (d + 1) 31 [.ref a0, .int x1] w = iv_V (iv_X d) mc_31 (some .int) 0 [.ref a0, .int x1, iv_un, iv_un, iv_un] [] w := rfl
theorem en_32 {d : Nat} {w : iv_S} {a0 : Nat} {x1 : Int32} {x2 : Int32} : iv_X (d + 1) 32 [.ref a0, .int x1, .int x2] w = iv_V (iv_X d) mc_32 (some .boolean) 0 [.ref a0, .int x1, .int x2] [] w := rfl
theorem en_33 {d : Nat} {w : iv_S} {a0 : Nat} {x1 : Int32} {x2 : Int32} : iv_X (d + 1) 33 [.ref a0, .int x1, .int x2] w = iv_V (iv_X d) mc_33 (some .boolean) 0 [.ref a0, .int x1, .int x2] [] w := rfl
theorem en_34 {d : Nat} {w : iv_S} {a0 : Nat} {x1 : Int32} {x2 : Int32} : iv_X (d + 1) 34 [.ref a0, .int x1, .int x2] w = iv_V (iv_X d) mc_34 (some .boolean) 0 [.ref a0, .int x1, .int x2] [] w := rfl
theorem en_35 {d : Nat} {w : iv_S} {a0 : Nat} {x1 : Int32} : iv_X (d + 1) 35 [.ref a0, .int x1] w = iv_V (iv_X d) mc_35 (some .boolean) 0 [.ref a0, .int x1] [] w := rfl
theorem en_36 {d : Nat} {w : iv_S} {a0 : Nat} {x1 : Int32} {x2 : Int32} {x3 : Int32} : iv_X (d + 1) 36 [.ref a0, .int x1, .int x2, .int x3] w = iv_V (iv_X d) mc_36 (some .boolean) 0 [.ref a0, .int x1, .int x2, .int x3] [] w := rfl
theorem en_37 {d : Nat} {w : iv_S} {a0 : Nat} {x1 : Int32} : iv_X (d + 1) 37 [.ref a0, .int x1] w = iv_V (iv_X d) mc_37 (some .int) 0 [.ref a0, .int x1] [] w := rfl
theorem en_38 {d : Nat} {w : iv_S} {a0 : Nat} {x1 : Int32} {x2 : Int32} : iv_X (d + 1) 38 [.ref a0, .int x1, .int x2] w = iv_V (iv_X d) mc_38 (some .boolean) 0 [.ref a0, .int x1, .int x2, iv_un, iv_un] [] w := rfl
theorem en_39 {d : Nat} {w : iv_S} {a0 : Nat} {x1 : Int32} {x2 : Int32} {x3 : Int32} : iv_X (d + 1) 39 [.ref a0, .int x1, .int x2, .int x3] w = iv_V (iv_X d) mc_39 (some .boolean) 0 [.ref a0, .int x1, .int x2, .int x3] [] w := rfl
theorem en_40 {d : Nat} {w : iv_S} {a0 : Nat} {x1 : Int32} {x2 : Int32} {x3 : Int32} : iv_X (d + 1) 40 [.ref a0, .int x1, .int x2, .int x3] w = iv_V (iv_X d) mc_40 (some .boolean) 0 [.ref a0, .int x1, .int x2, .int x3, iv_un, iv_un] [] w := rfl
theorem en_41 {d : Nat} {w : iv_S} {a0 : Nat} {x1 : Int32} {x2 : Int32} {x3 : Int32} : iv_X (d + 1) 41 [.ref a0, .int x1, .int x2, .int x3] w = iv_V (iv_X d) mc_41 (some .boolean) 0 [.ref a0, .int x1, .int x2, .int x3] [] w := rfl
theorem en_42 {d : Nat} {w : iv_S} {x0 : Int32} {x1 : Int32} {x2 : Int32} : iv_X (d + 1) 42 [.int x0, .int x1, .int x2] w = iv_V (iv_X d) mc_42 (some .boolean) 0 [.int x0, .int x1, .int x2] [] w := rfl
theorem en_43 {d : Nat} {w : iv_S} {a0 : Nat} {x1 : Int32} : iv_X (d + 1) 43 [.ref a0, .int x1] w = iv_V (iv_X d) mc_43 (some .boolean) 0 [.ref a0, .int x1, iv_un, iv_un, iv_un] [] w := rfl
theorem en_44 {d : Nat} {w : iv_S} {x0 : Int32} {x1 : Int32} {x2 : Int32} {x3 : Int32} {x4 : Int32} : iv_X (d + 1) 44 [.int x0, .int x1, .int x2, .int x3, .int x4] w = iv_V (iv_X d) mc_44 (some .boolean) 0 [.int x0, .int x1, .int x2, .int x3, .int x4] [] w := rfl
theorem en_45 {d : Nat} {w : iv_S} {a0 : Nat} {x1 : Int32} {x2 : Int32} {x3 : Int32} {x4 : Int32} : iv_X (d + 1) 45 [.ref a0, .int x1, .int x2, .int x3, .int x4] w = iv_V (iv_X d) mc_45 (some .boolean) 0 [.ref a0, .int x1, .int x2, .int x3, .int x4, iv_un, iv_un, iv_un] [] w := rfl
theorem en_46 {d : Nat} {w : iv_S} {a0 : Nat} {x1 : Int32} {x2 : Int32} {x3 : Int32} : iv_X (d + 1) 46 [.ref a0, .int x1, .int x2, .int x3] w = iv_V (iv_X d) mc_46 (some .boolean) 0 [.ref a0, .int x1, .int x2, .int x3, iv_un, iv_un, iv_un, iv_un, iv_un, iv_un, iv_un] [] w := rfl
theorem en_47 {d : Nat} {w : iv_S} {a0 : Nat} {x1 : Int32} {x2 : Int32} {x3 : Int32} : iv_X (d + 1) 47 [.ref a0, .int x1, .int x2, .int x3] w = iv_V (iv_X d) mc_47 (some .int) 0 [.ref a0, .int x1, .int x2, .int x3, iv_un, iv_un, iv_un, iv_un, iv_un, iv_un] [] w := rfl
theorem en_48 {d : Nat} {w : iv_S} {a0 : Nat} {x1 : Int32} : iv_X (d + 1) 48 [.ref a0, .int x1] w = iv_V (iv_X d) mc_48 (some .boolean) 0 [.ref a0, .int x1, iv_un, iv_un, iv_un] [] w := rfl
theorem en_49 {d : Nat} {w : iv_S} {a0 : Nat} {x1 : Int32} {x2 : Int32} : iv_X (d + 1) 49 [.ref a0, .int x1, .int x2] w = iv_V (iv_X d) mc_49 (some .int) 0 [.ref a0, .int x1, .int x2, iv_un] [] w := rfl
theorem en_50 {d : Nat} {w : iv_S} {a0 : Nat} {x1 : Int32} : iv_X (d + 1) 50 [.ref a0, .int x1] w = iv_V (iv_X d) mc_50 (some .int) 0 [.ref a0, .int x1, iv_un, iv_un, iv_un] [] w := rfl
theorem en_51 {d : Nat} {w : iv_S} {a0 : Nat} {x1 : Int32} : iv_X (d + 1) 51 [.ref a0, .int x1] w = iv_V (iv_X d) mc_51 (some .int) 0 [.ref a0, .int x1, iv_un, iv_un, iv_un, iv_un, iv_un, iv_un] [] w := rfl
theorem en_52 {d : Nat} {w : iv_S} {a0 : Nat} {x1 : Int32} {x2 : Int32} : iv_X (d + 1) 52 [.ref a0, .int x1, .int x2] w = iv_V (iv_X d) mc_52 (some .int) 0 [.ref a0, .int x1, .int x2, iv_un, iv_un] [] w := rfl
theorem en_53 {d : Nat} {w : iv_S} {a0 : Nat} {x1 : Int32} {x2 : Int32} : iv_X (d + 1) 53 [.ref a0, .int x1, .int x2] w = iv_V (iv_X d) mc_53 (some .boolean) 0 [.ref a0, .int x1, .int x2, iv_un, iv_un] [] w := rfl
theorem en_54 {d : Nat} {w : iv_S} {a0 : Nat} {x1 : Int32} : iv_X (d + 1) 54 [.ref a0, .int x1] w = iv_V (iv_X d) mc_54 (some .boolean) 0 [.ref a0, .int x1, iv_un] [] w := rfl
theorem en_55 {d : Nat} {w : iv_S} {a0 : Nat} {x1 : Int32} : iv_X (d + 1) 55 [.ref a0, .int x1] w = iv_V (iv_X d) mc_55 (some .int) 0 [.ref a0, .int x1, iv_un, iv_un, iv_un, iv_un, iv_un] [] w := rfl
theorem en_56 {d : Nat} {w : iv_S} {a0 : Nat} {x1 : Int32} {x2 : Int32} : iv_X (d + 1) 56 [.ref a0, .int x1, .int x2] w = iv_V (iv_X d) mc_56 (some .int) 0 [.ref a0, .int x1, .int x2, iv_un, iv_un, iv_un] [] w := rfl
theorem en_57 {d : Nat} {w : iv_S} {a0 : Nat} {x1 : Int32} {x2 : Int32} {x3 : Int32} : iv_X (d + 1) 57 [.ref a0, .int x1, .int x2, .int x3] w = iv_V (iv_X d) mc_57 (some .int) 0 [.ref a0, .int x1, .int x2, .int x3, iv_un] [] w := rfl
theorem en_58 {d : Nat} {w : iv_S} {a0 : Nat} : iv_X (d + 1) 58 [.ref a0] w = iv_V (iv_X d) mc_58 (some .int) 0 [.ref a0] [] w := rfl
theorem en_59 {d : Nat} {w : iv_S} {a0 : Nat} : iv_X (d + 1) 59 [.ref a0] w = iv_V (iv_X d) mc_59 (some .int) 0 [.ref a0] [] w := rfl
theorem en_60 {d : Nat} {w : iv_S} {a0 : Nat} {x1 : Int32} {x2 : Int32} : iv_X (d + 1) 60 [.ref a0, .int x1, .int x2] w = iv_V (iv_X d) mc_60 (some .int) 0 [.ref a0, .int x1, .int x2] [] w := rfl
theorem en_61 {d : Nat} {w : iv_S} {a0 : Nat} {x1 : Int32} : iv_X (d + 1) 61 [.ref a0, .int x1] w = iv_V (iv_X d) mc_61 none 0 [.ref a0, .int x1] [] w := rfl
theorem en_62 {d : Nat} {w : iv_S} {a0 : Nat} {x1 : Int32} {x2 : Int32} : iv_X (d + 1) 62 [.ref a0, .int x1, .int x2] w = iv_V (iv_X d) mc_62 none 0 [.ref a0, .int x1, .int x2] [] w := rfl
theorem en_63 {d : Nat} {w : iv_S} {a0 : Nat} {x1 : Int32} {x2 : Int32} : iv_X (d + 1) 63 [.ref a0, .int x1, .int x2] w = iv_V (iv_X d) mc_63 (some .int) 0 [.ref a0, .int x1, .int x2, iv_un] [] w := rfl
theorem en_64 {d : Nat} {w : iv_S} {a0 : Nat} {a1 : Nat} {a2 : Nat} {a3 : Nat} {a4 : Nat} {a5 : Nat} : iv_X (d + 1) 64 [.ref a0, .ref a1, .ref a2, .ref a3, .ref a4, .ref a5] w = iv_V (iv_X d) mc_64 none 0 [.ref a0, .ref a1, .ref a2, .ref a3, .ref a4, .ref a5] [] w := rfl
theorem en_65 {d : Nat} {w : iv_S} {a0 : Nat} {x1 : Int32} {x2 : Int32} : iv_X (d + 1) 65 [.ref a0, .int x1, .int x2] w = iv_V (iv_X d) mc_65 (some .int) 0 [.ref a0, .int x1, .int x2, iv_un] [] w := rfl
theorem en_66 {d : Nat} {w : iv_S} {a0 : Nat} {x1 : Int32} {x2 : Int32} : iv_X (d + 1) 66 [.ref a0, .int x1, .int x2] w = iv_V (iv_X d) mc_66 (some .boolean) 0 [.ref a0, .int x1, .int x2, iv_un] [] w := rfl
theorem en_67 {d : Nat} {w : iv_S} {a0 : Nat} {x1 : Int32} {x2 : Int32} : iv_X (d + 1) 67 [.ref a0, .int x1, .int x2] w = iv_V (iv_X d) mc_67 (some .int) 0 [.ref a0, .int x1, .int x2, iv_un, iv_un, iv_un, iv_un, iv_un] [] w := rfl
theorem en_68 {d : Nat} {w : iv_S} {a0 : Nat} {a1 : Nat} : iv_X (d + 1) 68 [.ref a0, .ref a1] w = iv_V (iv_X d) mc_68 (some .boolean) 0 [.ref a0, .ref a1, iv_un, iv_un] [] w := rfl
theorem en_69 {d : Nat} {w : iv_S} {a0 : Nat} {x1 : Int32} {x2 : Int32} : iv_X (d + 1) 69 [.ref a0, .int x1, .int x2] w = iv_V (iv_X d) mc_69 (some .int) 0 [.ref a0, .int x1, .int x2, iv_un, iv_un, iv_un] [] w := rfl
theorem en_70 {d : Nat} {w : iv_S} {a0 : Nat} {x1 : Int32} {x2 : Int32} {x3 : Int32} : iv_X (d + 1) 70 [.ref a0, .int x1, .int x2, .int x3] w = iv_V (iv_X d) mc_70 (some .int) 0 [.ref a0, .int x1, .int x2, .int x3, iv_un, iv_un, iv_un] [] w := rfl
theorem en_71 {d : Nat} {w : iv_S} {a0 : Nat} {x1 : Int32} {x2 : Int32} {x3 : Int32} {x4 : Int32} : iv_X (d + 1) 71 [.ref a0, .int x1, .int x2, .int x3, .int x4] w = iv_V (iv_X d) mc_71 (some .int) 0 [.ref a0, .int x1, .int x2, .int x3, .int x4, iv_un, iv_un] [] w := rfl
theorem en_72 {d : Nat} {w : iv_S} {a0 : Nat} {x1 : Int32} {x2 : Int32} {x3 : Int32} : iv_X (d + 1) 72 [.ref a0, .int x1, .int x2, .int x3] w = iv_V (iv_X d) mc_72 (some .int) 0 [.ref a0, .int x1, .int x2, .int x3, iv_un, iv_un, iv_un] [] w := rfl
theorem en_73 {d : Nat} {w : iv_S} {a0 : Nat} {x1 : Int32} {a2 : Nat} {x3 : Int32} : iv_X (d + 1) 73 [.ref a0, .int x1, .ref a2, .int x3] w = iv_V (iv_X d) mc_73 (some .int) 0 [.ref a0, .int x1, .ref a2, .int x3, iv_un, iv_un, iv_un, iv_un, iv_un] [] w := rfl
theorem en_74 {d : Nat} {w : iv_S} {a0 : Nat} {x1 : Int32} {a2 : Nat} {x3 : Int32} {x4 : Int32} {x5 : Int32} : iv_X (d + 1) 74 [.ref a0, .int x1, .ref a2, .int x3, .int x4, .int x5] w = iv_V (iv_X d) mc_74 (some .int) 0 [.ref a0, .int x1, .ref a2, .int x3, .int x4, .int x5, iv_un, iv_un, iv_un] [] w := rfl
theorem en_75 {d : Nat} {w : iv_S} {a0 : Nat} {x1 : Int32} : iv_X (d + 1) 75 [.ref a0, .int x1] w = iv_V (iv_X d) mc_75 none 0 [.ref a0, .int x1] [] w := rfl
theorem en_76 {d : Nat} {w : iv_S} {a0 : Nat} {x1 : Int32} {x2 : Int32} {x3 : Int32} : iv_X (d + 1) 76 [.ref a0, .int x1, .int x2, .int x3] w = iv_V (iv_X d) mc_76 (some .boolean) 0 [.ref a0, .int x1, .int x2, .int x3] [] w := rfl
theorem en_77 {d : Nat} {w : iv_S} {a0 : Nat} {x1 : Int32} {x2 : Int32} : iv_X (d + 1) 77 [.ref a0, .int x1, .int x2] w = iv_V (iv_X d) mc_77 (some .boolean) 0 [.ref a0, .int x1, .int x2, iv_un] [] w := rfl
theorem en_78 {d : Nat} {w : iv_S} {a0 : Nat} {x1 : Int32} {x2 : Int32} {x3 : Int32} : iv_X (d + 1) 78 [.ref a0, .int x1, .int x2, .int x3] w = iv_V (iv_X d) mc_78 none 0 [.ref a0, .int x1, .int x2, .int x3] [] w := rfl
theorem en_79 {d : Nat} {w : iv_S} {a0 : Nat} {x1 : Int32} {x2 : Int32} : iv_X (d + 1) 79 [.ref a0, .int x1, .int x2] w = iv_V (iv_X d) mc_79 (some .boolean) 0 [.ref a0, .int x1, .int x2] [] w := rfl
theorem en_80 {d : Nat} {w : iv_S} {a0 : Nat} {x1 : Int32} : iv_X (d + 1) 80 [.ref a0, .int x1] w = iv_V (iv_X d) mc_80 (some .boolean) 0 [.ref a0, .int x1] [] w := rfl
theorem en_81 {d : Nat} {w : iv_S} {a0 : Nat} : iv_X (d + 1) 81 [.ref a0] w = iv_V (iv_X d) mc_81 none 0 [.ref a0, iv_un] [] w := rfl
theorem en_82 {d : Nat} {w : iv_S} {a0 : Nat} {x1 : Int32} : iv_X (d + 1) 82 [.ref a0, .int x1] w = iv_V (iv_X d) mc_82 (some .boolean) 0 [.ref a0, .int x1] [] w := rfl
theorem en_83 {d : Nat} {w : iv_S} {a0 : Nat} {x1 : Int32} : iv_X (d + 1) 83 [.ref a0, .int x1] w = iv_V (iv_X d) mc_83 (some .boolean) 0 [.ref a0, .int x1] [] w := rfl
theorem en_84 {d : Nat} {w : iv_S} {a0 : Nat} {x1 : Int32} {x2 : Int32} : iv_X (d + 1) 84 [.ref a0, .int x1, .int x2] w = iv_V (iv_X d) mc_84 (some .boolean) 0 [.ref a0, .int x1, .int x2] [] w := rfl
theorem en_85 {d : Nat} {w : iv_S} {a0 : Nat} {x1 : Int32} {x2 : Int32} : iv_X (d + 1) 85 [.ref a0, .int x1, .int x2] w = iv_V (iv_X d) mc_85 none 0 [.ref a0, .int x1, .int x2, iv_un] [] w := rfl
theorem en_86 {d : Nat} {w : iv_S} {a0 : Nat} {x1 : Int32} {x2 : Int32} : iv_X (d + 1) 86 [.ref a0, .int x1, .int x2] w = iv_V (iv_X d) mc_86 (some .boolean) 0 [.ref a0, .int x1, .int x2, iv_un, iv_un] [] w := rfl
theorem en_87 {d : Nat} {w : iv_S} {a0 : Nat} : iv_X (d + 1) 87 [.ref a0] w = iv_V (iv_X d) mc_87 none 0 [.ref a0, iv_un] [] w := rfl
theorem en_88 {d : Nat} {w : iv_S} {a0 : Nat} {x1 : Int32} : iv_X (d + 1) 88 [.ref a0, .int x1] w = iv_V (iv_X d) mc_88 (some .boolean) 0 [.ref a0, .int x1] [] w := rfl
theorem en_89 {d : Nat} {w : iv_S} {a0 : Nat} {x1 : Int32} {x2 : Int32} {x3 : Int32} {x4 : Int32} {x5 : Int32} {x6 : Int32} : iv_X (d + 1) 89 [.ref a0, .int x1, .int x2, .int x3, .int x4, .int x5, .int x6] w = iv_V (iv_X d) mc_89 (some .boolean) 0 [.ref a0, .int x1, .int x2, .int x3, .int x4, .int x5, .int x6, iv_un, iv_un, iv_un] [] w := rfl
theorem en_90 {d : Nat} {w : iv_S} {a0 : Nat} {x1 : Int32} : iv_X (d + 1) 90 [.ref a0, .int x1] w = iv_V (iv_X d) mc_90 (some .int) 0 [.ref a0, .int x1] [] w := rfl
theorem en_91 {d : Nat} {w : iv_S} {a0 : Nat} {x1 : Int32} : iv_X (d + 1) 91 [.ref a0, .int x1] w = iv_V (iv_X d) mc_91 none 0 [.ref a0, .int x1, iv_un, iv_un] [] w := rfl
theorem en_92 {d : Nat} {w : iv_S} {a0 : Nat} {x1 : Int32} {x2 : Int32} : iv_X (d + 1) 92 [.ref a0, .int x1, .int x2] w = iv_V (iv_X d) mc_92 none 0 [.ref a0, .int x1, .int x2] [] w := rfl
theorem en_93 {d : Nat} {w : iv_S} {a0 : Nat} {x1 : Int32} : iv_X (d + 1) 93 [.ref a0, .int x1] w = iv_V (iv_X d) mc_93 none 0 [.ref a0, .int x1] [] w := rfl
theorem en_94 {d : Nat} {w : iv_S} {a0 : Nat} {x1 : Int32} : iv_X (d + 1) 94 [.ref a0, .int x1] w = iv_V (iv_X d) mc_94 none 0 [.ref a0, .int x1] [] w := rfl
theorem en_95 {d : Nat} {w : iv_S} {a0 : Nat} {x1 : Int32} : iv_X (d + 1) 95 [.ref a0, .int x1] w = iv_V (iv_X d) mc_95 (some .boolean) 0 [.ref a0, .int x1] [] w := rfl
theorem en_96 {d : Nat} {w : iv_S} {a0 : Nat} {x1 : Int32} {x2 : Int32} {a3 : Nat} {x4 : Int32} : iv_X (d + 1) 96 [.ref a0, .int x1, .int x2, .ref a3, .int x4] w = iv_V (iv_X d) mc_96 none 0 [.ref a0, .int x1, .int x2, .ref a3, .int x4] [] w := rfl
theorem en_97 {d : Nat} {w : iv_S} {a0 : Nat} : iv_X (d + 1) 97 [.ref a0] w = iv_V (iv_X d) mc_97 none 0 [.ref a0, iv_un] [] w := rfl
theorem en_98 {d : Nat} {w : iv_S} {a0 : Nat} {x1 : Int32} : iv_X (d + 1) 98 [.ref a0, .int x1] w = iv_V (iv_X d) mc_98 (some .boolean) 0 [.ref a0, .int x1] [] w := rfl
theorem en_99 {d : Nat} {w : iv_S} {a0 : Nat} {x1 : Int32} {x2 : Int32} {x3 : Int32} : iv_X (d + 1) 99 [.ref a0, .int x1, .int x2, .int x3] w = iv_V (iv_X d) mc_99 (some (.object "RuleGraph$Composition")) 0 [.ref a0, .int x1, .int x2, .int x3, iv_un] [] w := rfl
theorem en_100 {d : Nat} {w : iv_S} {a0 : Nat} {x1 : Int32} {x2 : Int32} {a3 : Nat} {x4 : Int32} : iv_X (d + 1) 100 [.ref a0, .int x1, .int x2, .ref a3, .int x4] w = iv_V (iv_X d) mc_100 (some .int) 0 [.ref a0, .int x1, .int x2, .ref a3, .int x4] [] w := rfl
theorem en_101 {d : Nat} {w : iv_S} {a0 : Nat} : iv_X (d + 1) 101 [.ref a0] w = iv_V (iv_X d) mc_101 none 0 [.ref a0, iv_un] [] w := rfl
theorem en_102 {d : Nat} {w : iv_S} {a0 : Nat} {x1 : Int32} : iv_X (d + 1) 102 [.ref a0, .int x1] w = iv_V (iv_X d) mc_102 (some .boolean) 0 [.ref a0, .int x1] [] w := rfl
theorem en_103 {d : Nat} {w : iv_S} {a0 : Nat} {x1 : Int32} : iv_X (d + 1) 103 [.ref a0, .int x1] w = iv_V (iv_X d) mc_103 (some .boolean) 0 [.ref a0, .int x1] [] w := rfl
theorem en_104 {d : Nat} {w : iv_S} {a0 : Nat} {x1 : Int32} : iv_X (d + 1) 104 [.ref a0, .int x1] w = iv_V (iv_X d) mc_104 (some .boolean) 0 [.ref a0, .int x1] [] w := rfl
theorem en_105 {d : Nat} {w : iv_S} {a0 : Nat} {x1 : Int32} : iv_X (d + 1) 105 [.ref a0, .int x1] w = iv_V (iv_X d) mc_105 (some .boolean) 0 [.ref a0, .int x1] [] w := rfl
theorem en_106 {d : Nat} {w : iv_S} {a0 : Nat} {x1 : Int32} {x2 : Int32} : iv_X (d + 1) 106 [.ref a0, .int x1, .int x2] w = iv_V (iv_X d) mc_106 (some .boolean) 0 [.ref a0, .int x1, .int x2] [] w := rfl
theorem en_107 {d : Nat} {w : iv_S} {a0 : Nat} {x1 : Int32} : iv_X (d + 1) 107 [.ref a0, .int x1] w = iv_V (iv_X d) mc_107 (some .int) 0 [.ref a0, .int x1, iv_un, iv_un] [] w := rfl
theorem en_108 {d : Nat} {w : iv_S} {a0 : Nat} {x1 : Int32} : iv_X (d + 1) 108 [.ref a0, .int x1] w = iv_V (iv_X d) mc_108 (some .int) 0 [.ref a0, .int x1, iv_un] [] w := rfl
theorem en_109 {d : Nat} {w : iv_S} {a0 : Nat} {x1 : Int32} {x2 : Int32} : iv_X (d + 1) 109 [.ref a0, .int x1, .int x2] w = iv_V (iv_X d) mc_109 (some .int) 0 [.ref a0, .int x1, .int x2, iv_un, iv_un] [] w := rfl
theorem en_110 {d : Nat} {w : iv_S} {a0 : Nat} : iv_X (d + 1) 110 [.ref a0] w = iv_V (iv_X d) mc_110 none 0 [.ref a0] [] w := rfl
theorem en_111 {d : Nat} {w : iv_S} {a0 : Nat} {x1 : Int32} : iv_X (d + 1) 111 [.ref a0, .int x1] w = iv_V (iv_X d) mc_111 (some .boolean) 0 [.ref a0, .int x1] [] w := rfl
theorem en_112 {d : Nat} {w : iv_S} {a0 : Nat} {x1 : Int32} {x2 : Int32} : iv_X (d + 1) 112 [.ref a0, .int x1, .int x2] w = iv_V (iv_X d) mc_112 none 0 [.ref a0, .int x1, .int x2, iv_un] [] w := rfl
theorem en_113 {d : Nat} {w : iv_S} {a0 : Nat} {x1 : Int32} : iv_X (d + 1) 113 [.ref a0, .int x1] w = iv_V (iv_X d) mc_113 (some .int) 0 [.ref a0, .int x1] [] w := rfl
theorem en_114 {d : Nat} {w : iv_S} {a0 : Nat} {x1 : Int32} {x2 : Int32} {x3 : Int32} : iv_X (d + 1) 114 [.ref a0, .int x1, .int x2, .int x3] w = iv_V (iv_X d) mc_114 (some .boolean) 0 [.ref a0, .int x1, .int x2, .int x3, iv_un] [] w := rfl
theorem en_115 {d : Nat} {w : iv_S} {a0 : Nat} {x1 : Int32} {x2 : Int32} {x3 : Int32} : iv_X (d + 1) 115 [.ref a0, .int x1, .int x2, .int x3] w = iv_V (iv_X d) mc_115 (some .int) 0 [.ref a0, .int x1, .int x2, .int x3] [] w := rfl
