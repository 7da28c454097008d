/-! reads, writes, locals and the stack, as equations -/
section MDA
variable {st L : List Value} {w : iv_S} {x y v : Int32} {a i : Nat} {u : Value}
theorem q_p1 {q : Int32 → List Value → iv_R} : iv_p1 (.int x :: st) q = q x st := rfl
theorem q_p2 {q : Int32 → Int32 → List Value → iv_R} : iv_p2 (.int y :: .int x :: st) q = q x y st := rfl
theorem q_ldi0 {q : Int32 → iv_R} : iv_ldi (.int x :: L) 0 q = q x := rfl
theorem q_ldis {q : Int32 → iv_R} : iv_ldi (u :: L) (i + 1) q = iv_ldi L i q := rfl
theorem q_lda0 {q : Value → iv_R} : iv_lda (.ref a :: L) 0 q = q (.ref a) := rfl
theorem q_ldan {q : Value → iv_R} : iv_lda (.null :: L) 0 q = q .null := rfl
theorem q_ldas {q : Value → iv_R} : iv_lda (u :: L) (i + 1) q = iv_lda L i q := rfl
theorem q_sto0 {z : Value} {q : List Value → iv_R} : iv_sto (u :: L) 0 z q = q (z :: L) := rfl
theorem q_stos {z : Value} {q : List Value → iv_R} : iv_sto (u :: L) (i + 1) z q = iv_sto L i z (fun L' => q (u :: L')) := by
  unfold iv_sto
  by_cases h : i < L.length
  · rw [if_pos h, if_pos (by simp only [List.length_cons]; omega)]
    rfl
  · rw [if_neg h, if_neg (by simp only [List.length_cons]; omega)]
theorem q_as {q : Nat → List Value → iv_R} : iv_as (.ref a :: st) q = q a st := rfl
theorem q_d1i {q : Value → List Value → iv_R} : iv_d1 (.int x :: st) q = q (.int x) st := rfl
theorem q_d1r {q : Value → List Value → iv_R} : iv_d1 (.ref a :: st) q = q (.ref a) st := rfl
theorem q_d2 {q : Value → Value → List Value → iv_R} : iv_d2 (.int x :: .ref a :: st) q = q (.int x) (.ref a) st := rfl
theorem q_oi {q : List Value → iv_R} : iv_oi [.ref a] q = q [] := rfl
theorem q_rz0 : iv_ret (some .boolean) [.int 0] w = some (some (.int 0), w) := rfl
theorem q_rz1 : iv_ret (some .boolean) [.int 1] w = some (some (.int 1), w) := rfl
theorem q_ri : iv_ret (some .int) [.int x] w = some (some (.int x), w) := rfl
theorem q_rv : iv_rev none [] w = some (none, w) := rfl
theorem q_rr {C : String} : iv_rea (some (.object C)) [.ref a] w = some (some (.ref a), w) := rfl
theorem q_rc {t : Nat} {vs as : List Value} {h : Nat → Option iv_C} {s : Nat × Nat} (hw : h a = some (t, vs)) : iv_rc (h, s) (.ref a :: as) t = true := by
  unfold iv_rc
  simp only [hw, decide_true]
end MDA
section MDB
variable {A F : Nat → Nat → Int32} {dyn : Nat → Option iv_C} {s : Nat × Nat} {st : List Value}
/-- an element of a static array -/
theorem q_ald {a t n j : Nat} {l : List (Option Nat)} {p : FieldType → Bool} {ty : FieldType} {q : Value → List Value → iv_R} (hq : md_ly[a]? = some (some (t, n, l))) (ht : 100 ≤ t ∧ t < 103) (hy : iv_ar t = some ty) (hp : p ty = true) (hj : j < n) (hn : n < 2 ^ 31) : iv_ald (md_h A F dyn, s) (.int (nI j) :: .ref a :: st) p q = q (.int (A a j)) st := by
  unfold iv_ald
  simp only [md_arr hq ht, hy, hp, if_true, if_neg (nI_pos (show j < 2 ^ 31 by omega)), nI_clamp (show j < 2 ^ 31 by omega), md_at hj]
theorem q_ast {a t n j : Nat} {l : List (Option Nat)} {p : FieldType → Bool} {ty : FieldType} {x v : Int32} {q : List Value → iv_S → iv_R} (hq : md_ly[a]? = some (some (t, n, l))) (ht : 100 ≤ t ∧ t < 103) (hy : iv_ar t = some ty) (hp : p ty = true) (hv : narrow ty (.int x) = .int v) (hj : j < n) (hn : n < 2 ^ 31) : iv_ast (md_h A F dyn, s) (.int x :: .int (nI j) :: .ref a :: st) p q = q st (md_h (md_up A a j v) F dyn, s) := by
  unfold iv_ast
  have h150 : ¬ t = 150 := by omega
  simp only [md_arr hq ht, hy, hp, if_true, if_neg h150, if_neg (nI_pos (show j < 2 ^ 31 by omega)), nI_clamp (show j < 2 ^ 31 by omega), md_len, if_pos hj, hv]
  rw [md_putA hq ht]
theorem q_len {a t n : Nat} {l : List (Option Nat)} {ty : FieldType} {q : Int32 → List Value → iv_R} (hq : md_ly[a]? = some (some (t, n, l))) (ht : 100 ≤ t ∧ t < 103) (hy : iv_ar t = some ty) : iv_len (md_h A F dyn, s) (.ref a :: st) q = q (nI n) st := by
  unfold iv_len
  simp only [md_arr hq ht, hy, md_len]
  rfl
theorem q_pf {a t n j : Nat} {l : List (Option Nat)} {v : Int32} {q : List Value → iv_S → iv_R} (hq : md_ly[a]? = some (some (t, n, l))) (ht : ¬ (100 ≤ t ∧ t < 103)) (hl : l[j]? = some none) (hlen : j < (md_flds F a 0 l).length) (hf : iv_fit (iv_ft t j) (.int v) = true) : iv_pf (md_h A F dyn, s) (.int v :: .ref a :: st) t j q = q st (md_h A (md_up F a j v) dyn, s) := by
  have e : md_h A F dyn a = some (t, md_flds F a 0 l) := by simp only [md_h, hq, md_cell, if_neg ht]
  unfold iv_pf
  simp only [e, if_true, if_pos hlen, hf]
  rw [md_putF hq ht hl]
theorem gf_1_0 {q : Value → List Value → iv_R} : iv_gf (md_h A F dyn, s) (.ref 1 :: st) 0 0 q = q (.ref 2) st := rfl
theorem gf_1_1 {q : Value → List Value → iv_R} : iv_gf (md_h A F dyn, s) (.ref 1 :: st) 0 1 q = q (.ref 35) st := rfl
theorem gf_1_2 {q : Value → List Value → iv_R} : iv_gf (md_h A F dyn, s) (.ref 1 :: st) 0 2 q = q (.ref 44) st := rfl
theorem gf_1_3 {q : Value → List Value → iv_R} : iv_gf (md_h A F dyn, s) (.ref 1 :: st) 0 3 q = q (.ref 53) st := rfl
theorem gf_1_4 {q : Value → List Value → iv_R} : iv_gf (md_h A F dyn, s) (.ref 1 :: st) 0 4 q = q (.ref 77) st := rfl
theorem gf_1_5 {q : Value → List Value → iv_R} : iv_gf (md_h A F dyn, s) (.ref 1 :: st) 0 5 q = q (.ref 155) st := rfl
theorem gf_2_0 {q : Value → List Value → iv_R} : iv_gf (md_h A F dyn, s) (.ref 2 :: st) 10 0 q = q (.int (F 2 0)) st := rfl
theorem pf_2_0 {v : Int32} {q : List Value → iv_S → iv_R} : iv_pf (md_h A F dyn, s) (.int v :: .ref 2 :: st) 10 0 q = q st (md_h A (md_up F 2 0 v) dyn, s) := q_pf (a := 2) (t := 10) (n := 0) rfl (by decide) rfl (by simp [md_flds]) rfl
theorem gf_2_1 {q : Value → List Value → iv_R} : iv_gf (md_h A F dyn, s) (.ref 2 :: st) 10 1 q = q (.ref 3) st := rfl
theorem gf_2_2 {q : Value → List Value → iv_R} : iv_gf (md_h A F dyn, s) (.ref 2 :: st) 10 2 q = q (.ref 4) st := rfl
theorem gf_2_3 {q : Value → List Value → iv_R} : iv_gf (md_h A F dyn, s) (.ref 2 :: st) 10 3 q = q (.int (F 2 3)) st := rfl
theorem pf_2_3 {v : Int32} {q : List Value → iv_S → iv_R} : iv_pf (md_h A F dyn, s) (.int v :: .ref 2 :: st) 10 3 q = q st (md_h A (md_up F 2 3 v) dyn, s) := q_pf (a := 2) (t := 10) (n := 0) rfl (by decide) rfl (by simp [md_flds]) rfl
theorem gf_2_4 {q : Value → List Value → iv_R} : iv_gf (md_h A F dyn, s) (.ref 2 :: st) 10 4 q = q (.ref 17) st := rfl
theorem gf_2_5 {q : Value → List Value → iv_R} : iv_gf (md_h A F dyn, s) (.ref 2 :: st) 10 5 q = q (.ref 18) st := rfl
theorem gf_2_6 {q : Value → List Value → iv_R} : iv_gf (md_h A F dyn, s) (.ref 2 :: st) 10 6 q = q (.ref 19) st := rfl
theorem gf_2_7 {q : Value → List Value → iv_R} : iv_gf (md_h A F dyn, s) (.ref 2 :: st) 10 7 q = q (.ref 20) st := rfl
theorem gf_5_0 {q : Value → List Value → iv_R} : iv_gf (md_h A F dyn, s) (.ref 5 :: st) 7 0 q = q (.ref 6) st := rfl
theorem gf_5_1 {q : Value → List Value → iv_R} : iv_gf (md_h A F dyn, s) (.ref 5 :: st) 7 1 q = q (.int (F 5 1)) st := rfl
theorem pf_5_1 {v : Int32} {q : List Value → iv_S → iv_R} : iv_pf (md_h A F dyn, s) (.int v :: .ref 5 :: st) 7 1 q = q st (md_h A (md_up F 5 1 v) dyn, s) := q_pf (a := 5) (t := 7) (n := 0) rfl (by decide) rfl (by simp [md_flds]) rfl
theorem gf_7_0 {q : Value → List Value → iv_R} : iv_gf (md_h A F dyn, s) (.ref 7 :: st) 7 0 q = q (.ref 8) st := rfl
theorem gf_7_1 {q : Value → List Value → iv_R} : iv_gf (md_h A F dyn, s) (.ref 7 :: st) 7 1 q = q (.int (F 7 1)) st := rfl
theorem pf_7_1 {v : Int32} {q : List Value → iv_S → iv_R} : iv_pf (md_h A F dyn, s) (.int v :: .ref 7 :: st) 7 1 q = q st (md_h A (md_up F 7 1 v) dyn, s) := q_pf (a := 7) (t := 7) (n := 0) rfl (by decide) rfl (by simp [md_flds]) rfl
theorem gf_9_0 {q : Value → List Value → iv_R} : iv_gf (md_h A F dyn, s) (.ref 9 :: st) 7 0 q = q (.ref 10) st := rfl
theorem gf_9_1 {q : Value → List Value → iv_R} : iv_gf (md_h A F dyn, s) (.ref 9 :: st) 7 1 q = q (.int (F 9 1)) st := rfl
theorem pf_9_1 {v : Int32} {q : List Value → iv_S → iv_R} : iv_pf (md_h A F dyn, s) (.int v :: .ref 9 :: st) 7 1 q = q st (md_h A (md_up F 9 1 v) dyn, s) := q_pf (a := 9) (t := 7) (n := 0) rfl (by decide) rfl (by simp [md_flds]) rfl
theorem gf_11_0 {q : Value → List Value → iv_R} : iv_gf (md_h A F dyn, s) (.ref 11 :: st) 7 0 q = q (.ref 12) st := rfl
theorem gf_11_1 {q : Value → List Value → iv_R} : iv_gf (md_h A F dyn, s) (.ref 11 :: st) 7 1 q = q (.int (F 11 1)) st := rfl
theorem pf_11_1 {v : Int32} {q : List Value → iv_S → iv_R} : iv_pf (md_h A F dyn, s) (.int v :: .ref 11 :: st) 7 1 q = q st (md_h A (md_up F 11 1 v) dyn, s) := q_pf (a := 11) (t := 7) (n := 0) rfl (by decide) rfl (by simp [md_flds]) rfl
theorem gf_13_0 {q : Value → List Value → iv_R} : iv_gf (md_h A F dyn, s) (.ref 13 :: st) 7 0 q = q (.ref 14) st := rfl
theorem gf_13_1 {q : Value → List Value → iv_R} : iv_gf (md_h A F dyn, s) (.ref 13 :: st) 7 1 q = q (.int (F 13 1)) st := rfl
theorem pf_13_1 {v : Int32} {q : List Value → iv_S → iv_R} : iv_pf (md_h A F dyn, s) (.int v :: .ref 13 :: st) 7 1 q = q st (md_h A (md_up F 13 1 v) dyn, s) := q_pf (a := 13) (t := 7) (n := 0) rfl (by decide) rfl (by simp [md_flds]) rfl
theorem gf_15_0 {q : Value → List Value → iv_R} : iv_gf (md_h A F dyn, s) (.ref 15 :: st) 7 0 q = q (.ref 16) st := rfl
theorem gf_15_1 {q : Value → List Value → iv_R} : iv_gf (md_h A F dyn, s) (.ref 15 :: st) 7 1 q = q (.int (F 15 1)) st := rfl
theorem pf_15_1 {v : Int32} {q : List Value → iv_S → iv_R} : iv_pf (md_h A F dyn, s) (.int v :: .ref 15 :: st) 7 1 q = q st (md_h A (md_up F 15 1 v) dyn, s) := q_pf (a := 15) (t := 7) (n := 0) rfl (by decide) rfl (by simp [md_flds]) rfl
theorem gf_35_0 {q : Value → List Value → iv_R} : iv_gf (md_h A F dyn, s) (.ref 35 :: st) 9 0 q = q (.ref 36) st := rfl
theorem gf_35_1 {q : Value → List Value → iv_R} : iv_gf (md_h A F dyn, s) (.ref 35 :: st) 9 1 q = q (.int (F 35 1)) st := rfl
theorem pf_35_1 {v : Int32} {q : List Value → iv_S → iv_R} : iv_pf (md_h A F dyn, s) (.int v :: .ref 35 :: st) 9 1 q = q st (md_h A (md_up F 35 1 v) dyn, s) := q_pf (a := 35) (t := 9) (n := 0) rfl (by decide) rfl (by simp [md_flds]) rfl
theorem gf_35_2 {q : Value → List Value → iv_R} : iv_gf (md_h A F dyn, s) (.ref 35 :: st) 9 2 q = q (.ref 37) st := rfl
theorem gf_38_0 {q : Value → List Value → iv_R} : iv_gf (md_h A F dyn, s) (.ref 38 :: st) 3 0 q = q (.ref 39) st := rfl
theorem gf_38_1 {q : Value → List Value → iv_R} : iv_gf (md_h A F dyn, s) (.ref 38 :: st) 3 1 q = q (.int (F 38 1)) st := rfl
theorem pf_38_1 {v : Int32} {q : List Value → iv_S → iv_R} : iv_pf (md_h A F dyn, s) (.int v :: .ref 38 :: st) 3 1 q = q st (md_h A (md_up F 38 1 v) dyn, s) := q_pf (a := 38) (t := 3) (n := 0) rfl (by decide) rfl (by simp [md_flds]) rfl
theorem gf_38_2 {q : Value → List Value → iv_R} : iv_gf (md_h A F dyn, s) (.ref 38 :: st) 3 2 q = q (.int (F 38 2)) st := rfl
theorem pf_38_2 {v : Int32} {q : List Value → iv_S → iv_R} (hv : iv_fit .boolean (.int v) = true) : iv_pf (md_h A F dyn, s) (.int v :: .ref 38 :: st) 3 2 q = q st (md_h A (md_up F 38 2 v) dyn, s) := q_pf (a := 38) (t := 3) (n := 0) rfl (by decide) rfl (by simp [md_flds]) hv
theorem gf_40_0 {q : Value → List Value → iv_R} : iv_gf (md_h A F dyn, s) (.ref 40 :: st) 3 0 q = q (.ref 41) st := rfl
theorem gf_40_1 {q : Value → List Value → iv_R} : iv_gf (md_h A F dyn, s) (.ref 40 :: st) 3 1 q = q (.int (F 40 1)) st := rfl
theorem pf_40_1 {v : Int32} {q : List Value → iv_S → iv_R} : iv_pf (md_h A F dyn, s) (.int v :: .ref 40 :: st) 3 1 q = q st (md_h A (md_up F 40 1 v) dyn, s) := q_pf (a := 40) (t := 3) (n := 0) rfl (by decide) rfl (by simp [md_flds]) rfl
theorem gf_40_2 {q : Value → List Value → iv_R} : iv_gf (md_h A F dyn, s) (.ref 40 :: st) 3 2 q = q (.int (F 40 2)) st := rfl
theorem pf_40_2 {v : Int32} {q : List Value → iv_S → iv_R} (hv : iv_fit .boolean (.int v) = true) : iv_pf (md_h A F dyn, s) (.int v :: .ref 40 :: st) 3 2 q = q st (md_h A (md_up F 40 2 v) dyn, s) := q_pf (a := 40) (t := 3) (n := 0) rfl (by decide) rfl (by simp [md_flds]) hv
theorem gf_42_0 {q : Value → List Value → iv_R} : iv_gf (md_h A F dyn, s) (.ref 42 :: st) 3 0 q = q (.ref 43) st := rfl
theorem gf_42_1 {q : Value → List Value → iv_R} : iv_gf (md_h A F dyn, s) (.ref 42 :: st) 3 1 q = q (.int (F 42 1)) st := rfl
theorem pf_42_1 {v : Int32} {q : List Value → iv_S → iv_R} : iv_pf (md_h A F dyn, s) (.int v :: .ref 42 :: st) 3 1 q = q st (md_h A (md_up F 42 1 v) dyn, s) := q_pf (a := 42) (t := 3) (n := 0) rfl (by decide) rfl (by simp [md_flds]) rfl
theorem gf_42_2 {q : Value → List Value → iv_R} : iv_gf (md_h A F dyn, s) (.ref 42 :: st) 3 2 q = q (.int (F 42 2)) st := rfl
theorem pf_42_2 {v : Int32} {q : List Value → iv_S → iv_R} (hv : iv_fit .boolean (.int v) = true) : iv_pf (md_h A F dyn, s) (.int v :: .ref 42 :: st) 3 2 q = q st (md_h A (md_up F 42 2 v) dyn, s) := q_pf (a := 42) (t := 3) (n := 0) rfl (by decide) rfl (by simp [md_flds]) hv
theorem gf_44_0 {q : Value → List Value → iv_R} : iv_gf (md_h A F dyn, s) (.ref 44 :: st) 5 0 q = q (.ref 45) st := rfl
theorem gf_44_1 {q : Value → List Value → iv_R} : iv_gf (md_h A F dyn, s) (.ref 44 :: st) 5 1 q = q (.ref 46) st := rfl
theorem gf_44_2 {q : Value → List Value → iv_R} : iv_gf (md_h A F dyn, s) (.ref 44 :: st) 5 2 q = q (.ref 51) st := rfl
theorem gf_47_0 {q : Value → List Value → iv_R} : iv_gf (md_h A F dyn, s) (.ref 47 :: st) 7 0 q = q (.ref 48) st := rfl
theorem gf_47_1 {q : Value → List Value → iv_R} : iv_gf (md_h A F dyn, s) (.ref 47 :: st) 7 1 q = q (.int (F 47 1)) st := rfl
theorem pf_47_1 {v : Int32} {q : List Value → iv_S → iv_R} : iv_pf (md_h A F dyn, s) (.int v :: .ref 47 :: st) 7 1 q = q st (md_h A (md_up F 47 1 v) dyn, s) := q_pf (a := 47) (t := 7) (n := 0) rfl (by decide) rfl (by simp [md_flds]) rfl
theorem gf_49_0 {q : Value → List Value → iv_R} : iv_gf (md_h A F dyn, s) (.ref 49 :: st) 7 0 q = q (.ref 50) st := rfl
theorem gf_49_1 {q : Value → List Value → iv_R} : iv_gf (md_h A F dyn, s) (.ref 49 :: st) 7 1 q = q (.int (F 49 1)) st := rfl
theorem pf_49_1 {v : Int32} {q : List Value → iv_S → iv_R} : iv_pf (md_h A F dyn, s) (.int v :: .ref 49 :: st) 7 1 q = q st (md_h A (md_up F 49 1 v) dyn, s) := q_pf (a := 49) (t := 7) (n := 0) rfl (by decide) rfl (by simp [md_flds]) rfl
theorem gf_51_0 {q : Value → List Value → iv_R} : iv_gf (md_h A F dyn, s) (.ref 51 :: st) 7 0 q = q (.ref 52) st := rfl
theorem gf_51_1 {q : Value → List Value → iv_R} : iv_gf (md_h A F dyn, s) (.ref 51 :: st) 7 1 q = q (.int (F 51 1)) st := rfl
theorem pf_51_1 {v : Int32} {q : List Value → iv_S → iv_R} : iv_pf (md_h A F dyn, s) (.int v :: .ref 51 :: st) 7 1 q = q st (md_h A (md_up F 51 1 v) dyn, s) := q_pf (a := 51) (t := 7) (n := 0) rfl (by decide) rfl (by simp [md_flds]) rfl
theorem gf_53_0 {q : Value → List Value → iv_R} : iv_gf (md_h A F dyn, s) (.ref 53 :: st) 11 0 q = q (.int (F 53 0)) st := rfl
theorem pf_53_0 {v : Int32} {q : List Value → iv_S → iv_R} : iv_pf (md_h A F dyn, s) (.int v :: .ref 53 :: st) 11 0 q = q st (md_h A (md_up F 53 0 v) dyn, s) := q_pf (a := 53) (t := 11) (n := 0) rfl (by decide) rfl (by simp [md_flds]) rfl
theorem gf_53_1 {q : Value → List Value → iv_R} : iv_gf (md_h A F dyn, s) (.ref 53 :: st) 11 1 q = q (.ref 54) st := rfl
theorem gf_53_2 {q : Value → List Value → iv_R} : iv_gf (md_h A F dyn, s) (.ref 53 :: st) 11 2 q = q (.ref 55) st := rfl
theorem gf_53_3 {q : Value → List Value → iv_R} : iv_gf (md_h A F dyn, s) (.ref 53 :: st) 11 3 q = q (.ref 66) st := rfl
theorem gf_77_0 {q : Value → List Value → iv_R} : iv_gf (md_h A F dyn, s) (.ref 77 :: st) 6 0 q = q (.int (F 77 0)) st := rfl
theorem pf_77_0 {v : Int32} {q : List Value → iv_S → iv_R} : iv_pf (md_h A F dyn, s) (.int v :: .ref 77 :: st) 6 0 q = q st (md_h A (md_up F 77 0 v) dyn, s) := q_pf (a := 77) (t := 6) (n := 0) rfl (by decide) rfl (by simp [md_flds]) rfl
theorem gf_77_1 {q : Value → List Value → iv_R} : iv_gf (md_h A F dyn, s) (.ref 77 :: st) 6 1 q = q (.ref 78) st := rfl
theorem gf_77_2 {q : Value → List Value → iv_R} : iv_gf (md_h A F dyn, s) (.ref 77 :: st) 6 2 q = q (.ref 103) st := rfl
theorem gf_77_3 {q : Value → List Value → iv_R} : iv_gf (md_h A F dyn, s) (.ref 77 :: st) 6 3 q = q (.ref 152) st := rfl
theorem gf_77_4 {q : Value → List Value → iv_R} : iv_gf (md_h A F dyn, s) (.ref 77 :: st) 6 4 q = q (.ref 154) st := rfl
theorem gf_77_5 {q : Value → List Value → iv_R} : iv_gf (md_h A F dyn, s) (.ref 77 :: st) 6 5 q = q (.int (F 77 5)) st := rfl
theorem pf_77_5 {v : Int32} {q : List Value → iv_S → iv_R} : iv_pf (md_h A F dyn, s) (.int v :: .ref 77 :: st) 6 5 q = q st (md_h A (md_up F 77 5 v) dyn, s) := q_pf (a := 77) (t := 6) (n := 0) rfl (by decide) rfl (by simp [md_flds]) rfl
theorem gf_104_0 {q : Value → List Value → iv_R} : iv_gf (md_h A F dyn, s) (.ref 104 :: st) 7 0 q = q (.ref 105) st := rfl
theorem gf_104_1 {q : Value → List Value → iv_R} : iv_gf (md_h A F dyn, s) (.ref 104 :: st) 7 1 q = q (.int (F 104 1)) st := rfl
theorem pf_104_1 {v : Int32} {q : List Value → iv_S → iv_R} : iv_pf (md_h A F dyn, s) (.int v :: .ref 104 :: st) 7 1 q = q st (md_h A (md_up F 104 1 v) dyn, s) := q_pf (a := 104) (t := 7) (n := 0) rfl (by decide) rfl (by simp [md_flds]) rfl
theorem gf_106_0 {q : Value → List Value → iv_R} : iv_gf (md_h A F dyn, s) (.ref 106 :: st) 7 0 q = q (.ref 107) st := rfl
theorem gf_106_1 {q : Value → List Value → iv_R} : iv_gf (md_h A F dyn, s) (.ref 106 :: st) 7 1 q = q (.int (F 106 1)) st := rfl
theorem pf_106_1 {v : Int32} {q : List Value → iv_S → iv_R} : iv_pf (md_h A F dyn, s) (.int v :: .ref 106 :: st) 7 1 q = q st (md_h A (md_up F 106 1 v) dyn, s) := q_pf (a := 106) (t := 7) (n := 0) rfl (by decide) rfl (by simp [md_flds]) rfl
theorem gf_108_0 {q : Value → List Value → iv_R} : iv_gf (md_h A F dyn, s) (.ref 108 :: st) 7 0 q = q (.ref 109) st := rfl
theorem gf_108_1 {q : Value → List Value → iv_R} : iv_gf (md_h A F dyn, s) (.ref 108 :: st) 7 1 q = q (.int (F 108 1)) st := rfl
theorem pf_108_1 {v : Int32} {q : List Value → iv_S → iv_R} : iv_pf (md_h A F dyn, s) (.int v :: .ref 108 :: st) 7 1 q = q st (md_h A (md_up F 108 1 v) dyn, s) := q_pf (a := 108) (t := 7) (n := 0) rfl (by decide) rfl (by simp [md_flds]) rfl
theorem gf_110_0 {q : Value → List Value → iv_R} : iv_gf (md_h A F dyn, s) (.ref 110 :: st) 7 0 q = q (.ref 111) st := rfl
theorem gf_110_1 {q : Value → List Value → iv_R} : iv_gf (md_h A F dyn, s) (.ref 110 :: st) 7 1 q = q (.int (F 110 1)) st := rfl
theorem pf_110_1 {v : Int32} {q : List Value → iv_S → iv_R} : iv_pf (md_h A F dyn, s) (.int v :: .ref 110 :: st) 7 1 q = q st (md_h A (md_up F 110 1 v) dyn, s) := q_pf (a := 110) (t := 7) (n := 0) rfl (by decide) rfl (by simp [md_flds]) rfl
theorem gf_112_0 {q : Value → List Value → iv_R} : iv_gf (md_h A F dyn, s) (.ref 112 :: st) 7 0 q = q (.ref 113) st := rfl
theorem gf_112_1 {q : Value → List Value → iv_R} : iv_gf (md_h A F dyn, s) (.ref 112 :: st) 7 1 q = q (.int (F 112 1)) st := rfl
theorem pf_112_1 {v : Int32} {q : List Value → iv_S → iv_R} : iv_pf (md_h A F dyn, s) (.int v :: .ref 112 :: st) 7 1 q = q st (md_h A (md_up F 112 1 v) dyn, s) := q_pf (a := 112) (t := 7) (n := 0) rfl (by decide) rfl (by simp [md_flds]) rfl
theorem gf_114_0 {q : Value → List Value → iv_R} : iv_gf (md_h A F dyn, s) (.ref 114 :: st) 7 0 q = q (.ref 115) st := rfl
theorem gf_114_1 {q : Value → List Value → iv_R} : iv_gf (md_h A F dyn, s) (.ref 114 :: st) 7 1 q = q (.int (F 114 1)) st := rfl
theorem pf_114_1 {v : Int32} {q : List Value → iv_S → iv_R} : iv_pf (md_h A F dyn, s) (.int v :: .ref 114 :: st) 7 1 q = q st (md_h A (md_up F 114 1 v) dyn, s) := q_pf (a := 114) (t := 7) (n := 0) rfl (by decide) rfl (by simp [md_flds]) rfl
theorem gf_116_0 {q : Value → List Value → iv_R} : iv_gf (md_h A F dyn, s) (.ref 116 :: st) 7 0 q = q (.ref 117) st := rfl
theorem gf_116_1 {q : Value → List Value → iv_R} : iv_gf (md_h A F dyn, s) (.ref 116 :: st) 7 1 q = q (.int (F 116 1)) st := rfl
theorem pf_116_1 {v : Int32} {q : List Value → iv_S → iv_R} : iv_pf (md_h A F dyn, s) (.int v :: .ref 116 :: st) 7 1 q = q st (md_h A (md_up F 116 1 v) dyn, s) := q_pf (a := 116) (t := 7) (n := 0) rfl (by decide) rfl (by simp [md_flds]) rfl
theorem gf_118_0 {q : Value → List Value → iv_R} : iv_gf (md_h A F dyn, s) (.ref 118 :: st) 7 0 q = q (.ref 119) st := rfl
theorem gf_118_1 {q : Value → List Value → iv_R} : iv_gf (md_h A F dyn, s) (.ref 118 :: st) 7 1 q = q (.int (F 118 1)) st := rfl
theorem pf_118_1 {v : Int32} {q : List Value → iv_S → iv_R} : iv_pf (md_h A F dyn, s) (.int v :: .ref 118 :: st) 7 1 q = q st (md_h A (md_up F 118 1 v) dyn, s) := q_pf (a := 118) (t := 7) (n := 0) rfl (by decide) rfl (by simp [md_flds]) rfl
theorem gf_120_0 {q : Value → List Value → iv_R} : iv_gf (md_h A F dyn, s) (.ref 120 :: st) 7 0 q = q (.ref 121) st := rfl
theorem gf_120_1 {q : Value → List Value → iv_R} : iv_gf (md_h A F dyn, s) (.ref 120 :: st) 7 1 q = q (.int (F 120 1)) st := rfl
theorem pf_120_1 {v : Int32} {q : List Value → iv_S → iv_R} : iv_pf (md_h A F dyn, s) (.int v :: .ref 120 :: st) 7 1 q = q st (md_h A (md_up F 120 1 v) dyn, s) := q_pf (a := 120) (t := 7) (n := 0) rfl (by decide) rfl (by simp [md_flds]) rfl
theorem gf_122_0 {q : Value → List Value → iv_R} : iv_gf (md_h A F dyn, s) (.ref 122 :: st) 7 0 q = q (.ref 123) st := rfl
theorem gf_122_1 {q : Value → List Value → iv_R} : iv_gf (md_h A F dyn, s) (.ref 122 :: st) 7 1 q = q (.int (F 122 1)) st := rfl
theorem pf_122_1 {v : Int32} {q : List Value → iv_S → iv_R} : iv_pf (md_h A F dyn, s) (.int v :: .ref 122 :: st) 7 1 q = q st (md_h A (md_up F 122 1 v) dyn, s) := q_pf (a := 122) (t := 7) (n := 0) rfl (by decide) rfl (by simp [md_flds]) rfl
theorem gf_124_0 {q : Value → List Value → iv_R} : iv_gf (md_h A F dyn, s) (.ref 124 :: st) 7 0 q = q (.ref 125) st := rfl
theorem gf_124_1 {q : Value → List Value → iv_R} : iv_gf (md_h A F dyn, s) (.ref 124 :: st) 7 1 q = q (.int (F 124 1)) st := rfl
theorem pf_124_1 {v : Int32} {q : List Value → iv_S → iv_R} : iv_pf (md_h A F dyn, s) (.int v :: .ref 124 :: st) 7 1 q = q st (md_h A (md_up F 124 1 v) dyn, s) := q_pf (a := 124) (t := 7) (n := 0) rfl (by decide) rfl (by simp [md_flds]) rfl
theorem gf_126_0 {q : Value → List Value → iv_R} : iv_gf (md_h A F dyn, s) (.ref 126 :: st) 7 0 q = q (.ref 127) st := rfl
theorem gf_126_1 {q : Value → List Value → iv_R} : iv_gf (md_h A F dyn, s) (.ref 126 :: st) 7 1 q = q (.int (F 126 1)) st := rfl
theorem pf_126_1 {v : Int32} {q : List Value → iv_S → iv_R} : iv_pf (md_h A F dyn, s) (.int v :: .ref 126 :: st) 7 1 q = q st (md_h A (md_up F 126 1 v) dyn, s) := q_pf (a := 126) (t := 7) (n := 0) rfl (by decide) rfl (by simp [md_flds]) rfl
theorem gf_128_0 {q : Value → List Value → iv_R} : iv_gf (md_h A F dyn, s) (.ref 128 :: st) 7 0 q = q (.ref 129) st := rfl
theorem gf_128_1 {q : Value → List Value → iv_R} : iv_gf (md_h A F dyn, s) (.ref 128 :: st) 7 1 q = q (.int (F 128 1)) st := rfl
theorem pf_128_1 {v : Int32} {q : List Value → iv_S → iv_R} : iv_pf (md_h A F dyn, s) (.int v :: .ref 128 :: st) 7 1 q = q st (md_h A (md_up F 128 1 v) dyn, s) := q_pf (a := 128) (t := 7) (n := 0) rfl (by decide) rfl (by simp [md_flds]) rfl
theorem gf_130_0 {q : Value → List Value → iv_R} : iv_gf (md_h A F dyn, s) (.ref 130 :: st) 7 0 q = q (.ref 131) st := rfl
theorem gf_130_1 {q : Value → List Value → iv_R} : iv_gf (md_h A F dyn, s) (.ref 130 :: st) 7 1 q = q (.int (F 130 1)) st := rfl
theorem pf_130_1 {v : Int32} {q : List Value → iv_S → iv_R} : iv_pf (md_h A F dyn, s) (.int v :: .ref 130 :: st) 7 1 q = q st (md_h A (md_up F 130 1 v) dyn, s) := q_pf (a := 130) (t := 7) (n := 0) rfl (by decide) rfl (by simp [md_flds]) rfl
theorem gf_132_0 {q : Value → List Value → iv_R} : iv_gf (md_h A F dyn, s) (.ref 132 :: st) 7 0 q = q (.ref 133) st := rfl
theorem gf_132_1 {q : Value → List Value → iv_R} : iv_gf (md_h A F dyn, s) (.ref 132 :: st) 7 1 q = q (.int (F 132 1)) st := rfl
theorem pf_132_1 {v : Int32} {q : List Value → iv_S → iv_R} : iv_pf (md_h A F dyn, s) (.int v :: .ref 132 :: st) 7 1 q = q st (md_h A (md_up F 132 1 v) dyn, s) := q_pf (a := 132) (t := 7) (n := 0) rfl (by decide) rfl (by simp [md_flds]) rfl
theorem gf_134_0 {q : Value → List Value → iv_R} : iv_gf (md_h A F dyn, s) (.ref 134 :: st) 7 0 q = q (.ref 135) st := rfl
theorem gf_134_1 {q : Value → List Value → iv_R} : iv_gf (md_h A F dyn, s) (.ref 134 :: st) 7 1 q = q (.int (F 134 1)) st := rfl
theorem pf_134_1 {v : Int32} {q : List Value → iv_S → iv_R} : iv_pf (md_h A F dyn, s) (.int v :: .ref 134 :: st) 7 1 q = q st (md_h A (md_up F 134 1 v) dyn, s) := q_pf (a := 134) (t := 7) (n := 0) rfl (by decide) rfl (by simp [md_flds]) rfl
theorem gf_136_0 {q : Value → List Value → iv_R} : iv_gf (md_h A F dyn, s) (.ref 136 :: st) 7 0 q = q (.ref 137) st := rfl
theorem gf_136_1 {q : Value → List Value → iv_R} : iv_gf (md_h A F dyn, s) (.ref 136 :: st) 7 1 q = q (.int (F 136 1)) st := rfl
theorem pf_136_1 {v : Int32} {q : List Value → iv_S → iv_R} : iv_pf (md_h A F dyn, s) (.int v :: .ref 136 :: st) 7 1 q = q st (md_h A (md_up F 136 1 v) dyn, s) := q_pf (a := 136) (t := 7) (n := 0) rfl (by decide) rfl (by simp [md_flds]) rfl
theorem gf_138_0 {q : Value → List Value → iv_R} : iv_gf (md_h A F dyn, s) (.ref 138 :: st) 7 0 q = q (.ref 139) st := rfl
theorem gf_138_1 {q : Value → List Value → iv_R} : iv_gf (md_h A F dyn, s) (.ref 138 :: st) 7 1 q = q (.int (F 138 1)) st := rfl
theorem pf_138_1 {v : Int32} {q : List Value → iv_S → iv_R} : iv_pf (md_h A F dyn, s) (.int v :: .ref 138 :: st) 7 1 q = q st (md_h A (md_up F 138 1 v) dyn, s) := q_pf (a := 138) (t := 7) (n := 0) rfl (by decide) rfl (by simp [md_flds]) rfl
theorem gf_140_0 {q : Value → List Value → iv_R} : iv_gf (md_h A F dyn, s) (.ref 140 :: st) 7 0 q = q (.ref 141) st := rfl
theorem gf_140_1 {q : Value → List Value → iv_R} : iv_gf (md_h A F dyn, s) (.ref 140 :: st) 7 1 q = q (.int (F 140 1)) st := rfl
theorem pf_140_1 {v : Int32} {q : List Value → iv_S → iv_R} : iv_pf (md_h A F dyn, s) (.int v :: .ref 140 :: st) 7 1 q = q st (md_h A (md_up F 140 1 v) dyn, s) := q_pf (a := 140) (t := 7) (n := 0) rfl (by decide) rfl (by simp [md_flds]) rfl
theorem gf_142_0 {q : Value → List Value → iv_R} : iv_gf (md_h A F dyn, s) (.ref 142 :: st) 7 0 q = q (.ref 143) st := rfl
theorem gf_142_1 {q : Value → List Value → iv_R} : iv_gf (md_h A F dyn, s) (.ref 142 :: st) 7 1 q = q (.int (F 142 1)) st := rfl
theorem pf_142_1 {v : Int32} {q : List Value → iv_S → iv_R} : iv_pf (md_h A F dyn, s) (.int v :: .ref 142 :: st) 7 1 q = q st (md_h A (md_up F 142 1 v) dyn, s) := q_pf (a := 142) (t := 7) (n := 0) rfl (by decide) rfl (by simp [md_flds]) rfl
theorem gf_144_0 {q : Value → List Value → iv_R} : iv_gf (md_h A F dyn, s) (.ref 144 :: st) 7 0 q = q (.ref 145) st := rfl
theorem gf_144_1 {q : Value → List Value → iv_R} : iv_gf (md_h A F dyn, s) (.ref 144 :: st) 7 1 q = q (.int (F 144 1)) st := rfl
theorem pf_144_1 {v : Int32} {q : List Value → iv_S → iv_R} : iv_pf (md_h A F dyn, s) (.int v :: .ref 144 :: st) 7 1 q = q st (md_h A (md_up F 144 1 v) dyn, s) := q_pf (a := 144) (t := 7) (n := 0) rfl (by decide) rfl (by simp [md_flds]) rfl
theorem gf_146_0 {q : Value → List Value → iv_R} : iv_gf (md_h A F dyn, s) (.ref 146 :: st) 7 0 q = q (.ref 147) st := rfl
theorem gf_146_1 {q : Value → List Value → iv_R} : iv_gf (md_h A F dyn, s) (.ref 146 :: st) 7 1 q = q (.int (F 146 1)) st := rfl
theorem pf_146_1 {v : Int32} {q : List Value → iv_S → iv_R} : iv_pf (md_h A F dyn, s) (.int v :: .ref 146 :: st) 7 1 q = q st (md_h A (md_up F 146 1 v) dyn, s) := q_pf (a := 146) (t := 7) (n := 0) rfl (by decide) rfl (by simp [md_flds]) rfl
theorem gf_148_0 {q : Value → List Value → iv_R} : iv_gf (md_h A F dyn, s) (.ref 148 :: st) 7 0 q = q (.ref 149) st := rfl
theorem gf_148_1 {q : Value → List Value → iv_R} : iv_gf (md_h A F dyn, s) (.ref 148 :: st) 7 1 q = q (.int (F 148 1)) st := rfl
theorem pf_148_1 {v : Int32} {q : List Value → iv_S → iv_R} : iv_pf (md_h A F dyn, s) (.int v :: .ref 148 :: st) 7 1 q = q st (md_h A (md_up F 148 1 v) dyn, s) := q_pf (a := 148) (t := 7) (n := 0) rfl (by decide) rfl (by simp [md_flds]) rfl
theorem gf_150_0 {q : Value → List Value → iv_R} : iv_gf (md_h A F dyn, s) (.ref 150 :: st) 7 0 q = q (.ref 151) st := rfl
theorem gf_150_1 {q : Value → List Value → iv_R} : iv_gf (md_h A F dyn, s) (.ref 150 :: st) 7 1 q = q (.int (F 150 1)) st := rfl
theorem pf_150_1 {v : Int32} {q : List Value → iv_S → iv_R} : iv_pf (md_h A F dyn, s) (.int v :: .ref 150 :: st) 7 1 q = q st (md_h A (md_up F 150 1 v) dyn, s) := q_pf (a := 150) (t := 7) (n := 0) rfl (by decide) rfl (by simp [md_flds]) rfl
theorem gf_152_0 {q : Value → List Value → iv_R} : iv_gf (md_h A F dyn, s) (.ref 152 :: st) 7 0 q = q (.ref 153) st := rfl
theorem gf_152_1 {q : Value → List Value → iv_R} : iv_gf (md_h A F dyn, s) (.ref 152 :: st) 7 1 q = q (.int (F 152 1)) st := rfl
theorem pf_152_1 {v : Int32} {q : List Value → iv_S → iv_R} : iv_pf (md_h A F dyn, s) (.int v :: .ref 152 :: st) 7 1 q = q st (md_h A (md_up F 152 1 v) dyn, s) := q_pf (a := 152) (t := 7) (n := 0) rfl (by decide) rfl (by simp [md_flds]) rfl
theorem gf_155_0 {q : Value → List Value → iv_R} : iv_gf (md_h A F dyn, s) (.ref 155 :: st) 2 0 q = q (.ref 2) st := rfl
theorem gf_155_1 {q : Value → List Value → iv_R} : iv_gf (md_h A F dyn, s) (.ref 155 :: st) 2 1 q = q (.ref 35) st := rfl
theorem gf_155_2 {q : Value → List Value → iv_R} : iv_gf (md_h A F dyn, s) (.ref 155 :: st) 2 2 q = q (.ref 44) st := rfl
theorem gf_155_3 {q : Value → List Value → iv_R} : iv_gf (md_h A F dyn, s) (.ref 155 :: st) 2 3 q = q (.ref 53) st := rfl
theorem gf_155_4 {q : Value → List Value → iv_R} : iv_gf (md_h A F dyn, s) (.ref 155 :: st) 2 4 q = q (.ref 77) st := rfl
theorem gf_155_5 {q : Value → List Value → iv_R} : iv_gf (md_h A F dyn, s) (.ref 155 :: st) 2 5 q = q (.ref 156) st := rfl
theorem gf_155_6 {q : Value → List Value → iv_R} : iv_gf (md_h A F dyn, s) (.ref 155 :: st) 2 6 q = q (.ref 157) st := rfl
theorem gf_155_7 {q : Value → List Value → iv_R} : iv_gf (md_h A F dyn, s) (.ref 155 :: st) 2 7 q = q (.int (F 155 7)) st := rfl
theorem pf_155_7 {v : Int32} {q : List Value → iv_S → iv_R} : iv_pf (md_h A F dyn, s) (.int v :: .ref 155 :: st) 2 7 q = q st (md_h A (md_up F 155 7 v) dyn, s) := q_pf (a := 155) (t := 2) (n := 0) rfl (by decide) rfl (by simp [md_flds]) rfl
theorem gf_155_8 {q : Value → List Value → iv_R} : iv_gf (md_h A F dyn, s) (.ref 155 :: st) 2 8 q = q (.int (F 155 8)) st := rfl
theorem pf_155_8 {v : Int32} {q : List Value → iv_S → iv_R} : iv_pf (md_h A F dyn, s) (.int v :: .ref 155 :: st) 2 8 q = q st (md_h A (md_up F 155 8 v) dyn, s) := q_pf (a := 155) (t := 2) (n := 0) rfl (by decide) rfl (by simp [md_flds]) rfl
theorem gf_158_0 {q : Value → List Value → iv_R} : iv_gf (md_h A F dyn, s) (.ref 158 :: st) 1 0 q = q (.int (F 158 0)) st := rfl
theorem pf_158_0 {v : Int32} {q : List Value → iv_S → iv_R} : iv_pf (md_h A F dyn, s) (.int v :: .ref 158 :: st) 1 0 q = q st (md_h A (md_up F 158 0 v) dyn, s) := q_pf (a := 158) (t := 1) (n := 0) rfl (by decide) rfl (by simp [md_flds]) rfl
theorem gf_158_1 {q : Value → List Value → iv_R} : iv_gf (md_h A F dyn, s) (.ref 158 :: st) 1 1 q = q (.ref 159) st := rfl
theorem gf_158_2 {q : Value → List Value → iv_R} : iv_gf (md_h A F dyn, s) (.ref 158 :: st) 1 2 q = q (.int (F 158 2)) st := rfl
theorem pf_158_2 {v : Int32} {q : List Value → iv_S → iv_R} : iv_pf (md_h A F dyn, s) (.int v :: .ref 158 :: st) 1 2 q = q st (md_h A (md_up F 158 2 v) dyn, s) := q_pf (a := 158) (t := 1) (n := 0) rfl (by decide) rfl (by simp [md_flds]) rfl
theorem gf_158_3 {q : Value → List Value → iv_R} : iv_gf (md_h A F dyn, s) (.ref 158 :: st) 1 3 q = q (.ref 160) st := rfl
theorem gf_158_4 {q : Value → List Value → iv_R} : iv_gf (md_h A F dyn, s) (.ref 158 :: st) 1 4 q = q (.ref 161) st := rfl
theorem gf_158_5 {q : Value → List Value → iv_R} : iv_gf (md_h A F dyn, s) (.ref 158 :: st) 1 5 q = q (.ref 162) st := rfl
theorem gf_158_6 {q : Value → List Value → iv_R} : iv_gf (md_h A F dyn, s) (.ref 158 :: st) 1 6 q = q (.ref 163) st := rfl
theorem gf_158_7 {q : Value → List Value → iv_R} : iv_gf (md_h A F dyn, s) (.ref 158 :: st) 1 7 q = q (.int (F 158 7)) st := rfl
theorem pf_158_7 {v : Int32} {q : List Value → iv_S → iv_R} : iv_pf (md_h A F dyn, s) (.int v :: .ref 158 :: st) 1 7 q = q st (md_h A (md_up F 158 7 v) dyn, s) := q_pf (a := 158) (t := 1) (n := 0) rfl (by decide) rfl (by simp [md_flds]) rfl
theorem gf_158_8 {q : Value → List Value → iv_R} : iv_gf (md_h A F dyn, s) (.ref 158 :: st) 1 8 q = q (.ref 164) st := rfl
theorem gf_158_9 {q : Value → List Value → iv_R} : iv_gf (md_h A F dyn, s) (.ref 158 :: st) 1 9 q = q (.ref 165) st := rfl
theorem gf_158_10 {q : Value → List Value → iv_R} : iv_gf (md_h A F dyn, s) (.ref 158 :: st) 1 10 q = q (.ref 166) st := rfl
theorem gf_158_11 {q : Value → List Value → iv_R} : iv_gf (md_h A F dyn, s) (.ref 158 :: st) 1 11 q = q (.ref 167) st := rfl
theorem gf_158_12 {q : Value → List Value → iv_R} : iv_gf (md_h A F dyn, s) (.ref 158 :: st) 1 12 q = q (.ref 168) st := rfl
theorem gf_158_13 {q : Value → List Value → iv_R} : iv_gf (md_h A F dyn, s) (.ref 158 :: st) 1 13 q = q (.ref 169) st := rfl
theorem gf_158_14 {q : Value → List Value → iv_R} : iv_gf (md_h A F dyn, s) (.ref 158 :: st) 1 14 q = q (.ref 170) st := rfl
theorem gf_158_15 {q : Value → List Value → iv_R} : iv_gf (md_h A F dyn, s) (.ref 158 :: st) 1 15 q = q (.ref 171) st := rfl
theorem gf_158_16 {q : Value → List Value → iv_R} : iv_gf (md_h A F dyn, s) (.ref 158 :: st) 1 16 q = q (.ref 172) st := rfl
theorem gf_158_17 {q : Value → List Value → iv_R} : iv_gf (md_h A F dyn, s) (.ref 158 :: st) 1 17 q = q (.ref 173) st := rfl
theorem gf_158_18 {q : Value → List Value → iv_R} : iv_gf (md_h A F dyn, s) (.ref 158 :: st) 1 18 q = q (.ref 174) st := rfl
theorem gf_158_19 {q : Value → List Value → iv_R} : iv_gf (md_h A F dyn, s) (.ref 158 :: st) 1 19 q = q (.ref 175) st := rfl
theorem gf_158_20 {q : Value → List Value → iv_R} : iv_gf (md_h A F dyn, s) (.ref 158 :: st) 1 20 q = q (.ref 176) st := rfl
theorem gf_158_21 {q : Value → List Value → iv_R} : iv_gf (md_h A F dyn, s) (.ref 158 :: st) 1 21 q = q (.ref 177) st := rfl
theorem gf_158_22 {q : Value → List Value → iv_R} : iv_gf (md_h A F dyn, s) (.ref 158 :: st) 1 22 q = q (.ref 178) st := rfl
theorem gf_158_23 {q : Value → List Value → iv_R} : iv_gf (md_h A F dyn, s) (.ref 158 :: st) 1 23 q = q (.ref 179) st := rfl
theorem gf_158_24 {q : Value → List Value → iv_R} : iv_gf (md_h A F dyn, s) (.ref 158 :: st) 1 24 q = q (.int (F 158 24)) st := rfl
theorem pf_158_24 {v : Int32} {q : List Value → iv_S → iv_R} : iv_pf (md_h A F dyn, s) (.int v :: .ref 158 :: st) 1 24 q = q st (md_h A (md_up F 158 24 v) dyn, s) := q_pf (a := 158) (t := 1) (n := 0) rfl (by decide) rfl (by simp [md_flds]) rfl
theorem gf_158_25 {q : Value → List Value → iv_R} : iv_gf (md_h A F dyn, s) (.ref 158 :: st) 1 25 q = q (.ref 180) st := rfl
theorem gf_158_26 {q : Value → List Value → iv_R} : iv_gf (md_h A F dyn, s) (.ref 158 :: st) 1 26 q = q (.ref 181) st := rfl
theorem gf_158_27 {q : Value → List Value → iv_R} : iv_gf (md_h A F dyn, s) (.ref 158 :: st) 1 27 q = q (.ref 182) st := rfl
theorem gf_158_28 {q : Value → List Value → iv_R} : iv_gf (md_h A F dyn, s) (.ref 158 :: st) 1 28 q = q (.int (F 158 28)) st := rfl
theorem pf_158_28 {v : Int32} {q : List Value → iv_S → iv_R} : iv_pf (md_h A F dyn, s) (.int v :: .ref 158 :: st) 1 28 q = q st (md_h A (md_up F 158 28 v) dyn, s) := q_pf (a := 158) (t := 1) (n := 0) rfl (by decide) rfl (by simp [md_flds]) rfl
theorem gf_158_29 {q : Value → List Value → iv_R} : iv_gf (md_h A F dyn, s) (.ref 158 :: st) 1 29 q = q (.ref 183) st := rfl
theorem gf_158_30 {q : Value → List Value → iv_R} : iv_gf (md_h A F dyn, s) (.ref 158 :: st) 1 30 q = q (.ref 184) st := rfl
theorem gf_158_31 {q : Value → List Value → iv_R} : iv_gf (md_h A F dyn, s) (.ref 158 :: st) 1 31 q = q (.ref 185) st := rfl
theorem gf_158_32 {q : Value → List Value → iv_R} : iv_gf (md_h A F dyn, s) (.ref 158 :: st) 1 32 q = q (.ref 186) st := rfl
theorem gf_158_33 {q : Value → List Value → iv_R} : iv_gf (md_h A F dyn, s) (.ref 158 :: st) 1 33 q = q (.ref 187) st := rfl
theorem gf_158_34 {q : Value → List Value → iv_R} : iv_gf (md_h A F dyn, s) (.ref 158 :: st) 1 34 q = q (.ref 188) st := rfl
theorem gf_158_35 {q : Value → List Value → iv_R} : iv_gf (md_h A F dyn, s) (.ref 158 :: st) 1 35 q = q (.ref 189) st := rfl
theorem gf_158_36 {q : Value → List Value → iv_R} : iv_gf (md_h A F dyn, s) (.ref 158 :: st) 1 36 q = q (.ref 190) st := rfl
theorem gf_158_37 {q : Value → List Value → iv_R} : iv_gf (md_h A F dyn, s) (.ref 158 :: st) 1 37 q = q (.ref 191) st := rfl
theorem gf_158_38 {q : Value → List Value → iv_R} : iv_gf (md_h A F dyn, s) (.ref 158 :: st) 1 38 q = q (.ref 192) st := rfl
theorem gf_158_39 {q : Value → List Value → iv_R} : iv_gf (md_h A F dyn, s) (.ref 158 :: st) 1 39 q = q (.int (F 158 39)) st := rfl
theorem pf_158_39 {v : Int32} {q : List Value → iv_S → iv_R} : iv_pf (md_h A F dyn, s) (.int v :: .ref 158 :: st) 1 39 q = q st (md_h A (md_up F 158 39 v) dyn, s) := q_pf (a := 158) (t := 1) (n := 0) rfl (by decide) rfl (by simp [md_flds]) rfl
theorem gf_158_40 {q : Value → List Value → iv_R} : iv_gf (md_h A F dyn, s) (.ref 158 :: st) 1 40 q = q (.ref 193) st := rfl
theorem gf_158_41 {q : Value → List Value → iv_R} : iv_gf (md_h A F dyn, s) (.ref 158 :: st) 1 41 q = q (.int (F 158 41)) st := rfl
theorem pf_158_41 {v : Int32} {q : List Value → iv_S → iv_R} : iv_pf (md_h A F dyn, s) (.int v :: .ref 158 :: st) 1 41 q = q st (md_h A (md_up F 158 41 v) dyn, s) := q_pf (a := 158) (t := 1) (n := 0) rfl (by decide) rfl (by simp [md_flds]) rfl
theorem gf_158_42 {q : Value → List Value → iv_R} : iv_gf (md_h A F dyn, s) (.ref 158 :: st) 1 42 q = q (.ref 194) st := rfl
theorem gf_158_43 {q : Value → List Value → iv_R} : iv_gf (md_h A F dyn, s) (.ref 158 :: st) 1 43 q = q (.ref 195) st := rfl
theorem gf_158_44 {q : Value → List Value → iv_R} : iv_gf (md_h A F dyn, s) (.ref 158 :: st) 1 44 q = q (.ref 196) st := rfl
theorem gf_158_45 {q : Value → List Value → iv_R} : iv_gf (md_h A F dyn, s) (.ref 158 :: st) 1 45 q = q (.ref 197) st := rfl
theorem gf_158_46 {q : Value → List Value → iv_R} : iv_gf (md_h A F dyn, s) (.ref 158 :: st) 1 46 q = q (.ref 198) st := rfl
theorem gf_158_47 {q : Value → List Value → iv_R} : iv_gf (md_h A F dyn, s) (.ref 158 :: st) 1 47 q = q (.int (F 158 47)) st := rfl
theorem pf_158_47 {v : Int32} {q : List Value → iv_S → iv_R} : iv_pf (md_h A F dyn, s) (.int v :: .ref 158 :: st) 1 47 q = q st (md_h A (md_up F 158 47 v) dyn, s) := q_pf (a := 158) (t := 1) (n := 0) rfl (by decide) rfl (by simp [md_flds]) rfl
theorem al_4 {j : Nat} {q : Value → List Value → iv_R} (hj : j < 6) : iv_ald (md_h A F dyn, s) (.int (nI j) :: .ref 4 :: st) iv_isA q = q (.ref (5 + 2 * j)) st := by
  have e : ∀ j, j < 6 → (([.ref 5, .ref 7, .ref 9, .ref 11, .ref 13, .ref 15] : List Value))[j]? = some (.ref (5 + 2 * j)) := by decide +kernel
  unfold iv_ald
  simp only [hg_4, iv_ar, iv_isA, if_true, if_neg (nI_pos (show j < 2 ^ 31 by omega)), nI_clamp (show j < 2 ^ 31 by omega), e j hj]
theorem al_20 {j : Nat} {q : Value → List Value → iv_R} (hj : j < 14) : iv_ald (md_h A F dyn, s) (.int (nI j) :: .ref 20 :: st) iv_isA q = q (.ref (21 + j)) st := by
  have e : ∀ j, j < 14 → (([.ref 21, .ref 22, .ref 23, .ref 24, .ref 25, .ref 26, .ref 27, .ref 28, .ref 29, .ref 30, .ref 31, .ref 32, .ref 33, .ref 34] : List Value))[j]? = some (.ref (21 + j)) := by decide +kernel
  unfold iv_ald
  simp only [hg_20, iv_ar, iv_isA, if_true, if_neg (nI_pos (show j < 2 ^ 31 by omega)), nI_clamp (show j < 2 ^ 31 by omega), e j hj]
theorem al_37 {j : Nat} {q : Value → List Value → iv_R} (hj : j < 3) : iv_ald (md_h A F dyn, s) (.int (nI j) :: .ref 37 :: st) iv_isA q = q (.ref (38 + 2 * j)) st := by
  have e : ∀ j, j < 3 → (([.ref 38, .ref 40, .ref 42] : List Value))[j]? = some (.ref (38 + 2 * j)) := by decide +kernel
  unfold iv_ald
  simp only [hg_37, iv_ar, iv_isA, if_true, if_neg (nI_pos (show j < 2 ^ 31 by omega)), nI_clamp (show j < 2 ^ 31 by omega), e j hj]
theorem al_46 {j : Nat} {q : Value → List Value → iv_R} (hj : j < 2) : iv_ald (md_h A F dyn, s) (.int (nI j) :: .ref 46 :: st) iv_isA q = q (.ref (47 + 2 * j)) st := by
  have e : ∀ j, j < 2 → (([.ref 47, .ref 49] : List Value))[j]? = some (.ref (47 + 2 * j)) := by decide +kernel
  unfold iv_ald
  simp only [hg_46, iv_ar, iv_isA, if_true, if_neg (nI_pos (show j < 2 ^ 31 by omega)), nI_clamp (show j < 2 ^ 31 by omega), e j hj]
theorem al_55 {j : Nat} {q : Value → List Value → iv_R} (hj : j < 10) : iv_ald (md_h A F dyn, s) (.int (nI j) :: .ref 55 :: st) iv_isA q = q (.ref (56 + j)) st := by
  have e : ∀ j, j < 10 → (([.ref 56, .ref 57, .ref 58, .ref 59, .ref 60, .ref 61, .ref 62, .ref 63, .ref 64, .ref 65] : List Value))[j]? = some (.ref (56 + j)) := by decide +kernel
  unfold iv_ald
  simp only [hg_55, iv_ar, iv_isA, if_true, if_neg (nI_pos (show j < 2 ^ 31 by omega)), nI_clamp (show j < 2 ^ 31 by omega), e j hj]
theorem al_66 {j : Nat} {q : Value → List Value → iv_R} (hj : j < 10) : iv_ald (md_h A F dyn, s) (.int (nI j) :: .ref 66 :: st) iv_isA q = q (.ref (67 + j)) st := by
  have e : ∀ j, j < 10 → (([.ref 67, .ref 68, .ref 69, .ref 70, .ref 71, .ref 72, .ref 73, .ref 74, .ref 75, .ref 76] : List Value))[j]? = some (.ref (67 + j)) := by decide +kernel
  unfold iv_ald
  simp only [hg_66, iv_ar, iv_isA, if_true, if_neg (nI_pos (show j < 2 ^ 31 by omega)), nI_clamp (show j < 2 ^ 31 by omega), e j hj]
theorem al_78 {j : Nat} {q : Value → List Value → iv_R} (hj : j < 24) : iv_ald (md_h A F dyn, s) (.int (nI j) :: .ref 78 :: st) iv_isA q = q (.ref (79 + j)) st := by
  have e : ∀ j, j < 24 → (([.ref 79, .ref 80, .ref 81, .ref 82, .ref 83, .ref 84, .ref 85, .ref 86, .ref 87, .ref 88, .ref 89, .ref 90, .ref 91, .ref 92, .ref 93, .ref 94, .ref 95, .ref 96, .ref 97, .ref 98, .ref 99, .ref 100, .ref 101, .ref 102] : List Value))[j]? = some (.ref (79 + j)) := by decide +kernel
  unfold iv_ald
  simp only [hg_78, iv_ar, iv_isA, if_true, if_neg (nI_pos (show j < 2 ^ 31 by omega)), nI_clamp (show j < 2 ^ 31 by omega), e j hj]
theorem al_103 {j : Nat} {q : Value → List Value → iv_R} (hj : j < 24) : iv_ald (md_h A F dyn, s) (.int (nI j) :: .ref 103 :: st) iv_isA q = q (.ref (104 + 2 * j)) st := by
  have e : ∀ j, j < 24 → (([.ref 104, .ref 106, .ref 108, .ref 110, .ref 112, .ref 114, .ref 116, .ref 118, .ref 120, .ref 122, .ref 124, .ref 126, .ref 128, .ref 130, .ref 132, .ref 134, .ref 136, .ref 138, .ref 140, .ref 142, .ref 144, .ref 146, .ref 148, .ref 150] : List Value))[j]? = some (.ref (104 + 2 * j)) := by decide +kernel
  unfold iv_ald
  simp only [hg_103, iv_ar, iv_isA, if_true, if_neg (nI_pos (show j < 2 ^ 31 by omega)), nI_clamp (show j < 2 ^ 31 by omega), e j hj]
end MDB
theorem ly_or : ∀ j, j < 6 → md_ly[6 + 2 * j]? = some (some (100, 4, []))
  | 0, _ => rfl
  | 1, _ => rfl
  | 2, _ => rfl
  | 3, _ => rfl
  | 4, _ => rfl
  | 5, _ => rfl
  | n + 6, h => absurd h (by omega)
theorem ly_cv : ∀ j, j < 14 → md_ly[21 + j]? = some (some (100, 6, []))
  | 0, _ => rfl
  | 1, _ => rfl
  | 2, _ => rfl
  | 3, _ => rfl
  | 4, _ => rfl
  | 5, _ => rfl
  | 6, _ => rfl
  | 7, _ => rfl
  | 8, _ => rfl
  | 9, _ => rfl
  | 10, _ => rfl
  | 11, _ => rfl
  | 12, _ => rfl
  | 13, _ => rfl
  | n + 14, h => absurd h (by omega)
theorem ly_sq : ∀ j, j < 2 → md_ly[48 + 2 * j]? = some (some (100, 4, []))
  | 0, _ => rfl
  | 1, _ => rfl
  | n + 2, h => absurd h (by omega)
theorem ly_vl : ∀ j, j < 10 → md_ly[56 + j]? = some (some (100, 14, []))
  | 0, _ => rfl
  | 1, _ => rfl
  | 2, _ => rfl
  | 3, _ => rfl
  | 4, _ => rfl
  | 5, _ => rfl
  | 6, _ => rfl
  | 7, _ => rfl
  | 8, _ => rfl
  | 9, _ => rfl
  | n + 10, h => absurd h (by omega)
theorem ly_el : ∀ j, j < 10 → md_ly[67 + j]? = some (some (100, 42, []))
  | 0, _ => rfl
  | 1, _ => rfl
  | 2, _ => rfl
  | 3, _ => rfl
  | 4, _ => rfl
  | 5, _ => rfl
  | 6, _ => rfl
  | 7, _ => rfl
  | 8, _ => rfl
  | 9, _ => rfl
  | n + 10, h => absurd h (by omega)
theorem ly_fc : ∀ j, j < 24 → md_ly[79 + j]? = some (some (100, 6, []))
  | 0, _ => rfl
  | 1, _ => rfl
  | 2, _ => rfl
  | 3, _ => rfl
  | 4, _ => rfl
  | 5, _ => rfl
  | 6, _ => rfl
  | 7, _ => rfl
  | 8, _ => rfl
  | 9, _ => rfl
  | 10, _ => rfl
  | 11, _ => rfl
  | 12, _ => rfl
  | 13, _ => rfl
  | 14, _ => rfl
  | 15, _ => rfl
  | 16, _ => rfl
  | 17, _ => rfl
  | 18, _ => rfl
  | 19, _ => rfl
  | 20, _ => rfl
  | 21, _ => rfl
  | 22, _ => rfl
  | 23, _ => rfl
  | n + 24, h => absurd h (by omega)
theorem ly_wy : ∀ j, j < 24 → md_ly[105 + 2 * j]? = some (some (100, 16, []))
  | 0, _ => rfl
  | 1, _ => rfl
  | 2, _ => rfl
  | 3, _ => rfl
  | 4, _ => rfl
  | 5, _ => rfl
  | 6, _ => rfl
  | 7, _ => rfl
  | 8, _ => rfl
  | 9, _ => rfl
  | 10, _ => rfl
  | 11, _ => rfl
  | 12, _ => rfl
  | 13, _ => rfl
  | 14, _ => rfl
  | 15, _ => rfl
  | 16, _ => rfl
  | 17, _ => rfl
  | 18, _ => rfl
  | 19, _ => rfl
  | 20, _ => rfl
  | 21, _ => rfl
  | 22, _ => rfl
  | 23, _ => rfl
  | n + 24, h => absurd h (by omega)
theorem ly_orow : ∀ j, j < 6 → md_ly[5 + 2 * j]? = some (some (7, 0, [some (6 + 2 * j), none]))
  | 0, _ => rfl
  | 1, _ => rfl
  | 2, _ => rfl
  | 3, _ => rfl
  | 4, _ => rfl
  | 5, _ => rfl
  | n + 6, h => absurd h (by omega)
theorem ly_srow : ∀ j, j < 2 → md_ly[47 + 2 * j]? = some (some (7, 0, [some (48 + 2 * j), none]))
  | 0, _ => rfl
  | 1, _ => rfl
  | n + 2, h => absurd h (by omega)
theorem ly_wrow : ∀ j, j < 24 → md_ly[104 + 2 * j]? = some (some (7, 0, [some (105 + 2 * j), none]))
  | 0, _ => rfl
  | 1, _ => rfl
  | 2, _ => rfl
  | 3, _ => rfl
  | 4, _ => rfl
  | 5, _ => rfl
  | 6, _ => rfl
  | 7, _ => rfl
  | 8, _ => rfl
  | 9, _ => rfl
  | 10, _ => rfl
  | 11, _ => rfl
  | 12, _ => rfl
  | 13, _ => rfl
  | 14, _ => rfl
  | 15, _ => rfl
  | 16, _ => rfl
  | 17, _ => rfl
  | 18, _ => rfl
  | 19, _ => rfl
  | 20, _ => rfl
  | 21, _ => rfl
  | 22, _ => rfl
  | 23, _ => rfl
  | n + 24, h => absurd h (by omega)
theorem ly_comp : ∀ j, j < 3 → md_ly[38 + 2 * j]? = some (some (3, 0, [some (39 + 2 * j), none, none]))
  | 0, _ => rfl
  | 1, _ => rfl
  | 2, _ => rfl
  | n + 3, h => absurd h (by omega)
