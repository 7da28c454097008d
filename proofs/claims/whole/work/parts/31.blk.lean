/-! the state by blocks: g b r j, a block, a row, a column -/
abbrev Gs : Type := Nat → Nat → Nat → Int32
def gu (g : Gs) (b r j : Nat) (v : Int32) : Gs := fun b' r' j' => if b' = b then (if r' = r then (if j' = j then v else g b' r' j') else g b' r' j') else g b' r' j'
theorem gu_ne {g : Gs} {b r j b' : Nat} {v : Int32} (h : b' ≠ b) : gu g b r j v b' = g b' := by
  funext r' j'
  simp only [gu, if_neg h]
theorem gu_nr {g : Gs} {b r j r' : Nat} {v : Int32} (h : r' ≠ r) : gu g b r j v b r' = g b r' := by
  funext j'
  simp only [gu, if_neg h, if_true]
theorem gu_nj {g : Gs} {b r j j' : Nat} {v : Int32} (h : j' ≠ j) : gu g b r j v b r j' = g b r j' := by simp only [gu, if_neg h, if_true]
theorem gu_eq {g : Gs} {b r j : Nat} {v : Int32} : gu g b r j v b r j = v := by simp only [gu, if_true]
def ga (k : Nat) : Nat × Nat := if 199 ≤ k then (100000 + k, 0)
  else if 6 ≤ k ∧ k < 17 ∧ k % 2 = 0 then (6, (k - 6) / 2)
  else if 21 ≤ k ∧ k < 35 then (21, k - 21)
  else if k = 48 ∨ k = 50 then (48, (k - 48) / 2)
  else if 56 ≤ k ∧ k < 66 then (56, k - 56)
  else if 67 ≤ k ∧ k < 77 then (67, k - 67)
  else if 79 ≤ k ∧ k < 103 then (79, k - 79)
  else if 105 ≤ k ∧ k < 152 ∧ k % 2 = 1 then (105, (k - 105) / 2)
  else (k, 0)
def gai (b r : Nat) : Nat := if 100000 ≤ b then b - 100000 else if b = 6 ∨ b = 48 ∨ b = 105 then b + 2 * r else b + r
theorem ga_inv (k : Nat) : gai (ga k).1 (ga k).2 = k := by
  unfold ga
  repeat' split
  all_goals (unfold gai; dsimp only; repeat' split)
  all_goals omega
theorem ga_lt {k : Nat} : (ga k).1 < 199 ∨ 100000 ≤ (ga k).1 := by
  unfold ga
  repeat' split
  all_goals (dsimp only; omega)
def gfb (k i : Nat) : Nat × Nat × Nat := if k = 158 ∧ i < 60 then (400 + i, 0, 0)
  else if i = 1 ∧ 5 ≤ k ∧ k < 17 ∧ k % 2 = 1 then (205, (k - 5) / 2, 0)
  else if i = 1 ∧ 38 ≤ k ∧ k < 44 ∧ k % 2 = 0 then (238, (k - 38) / 2, 0)
  else if i = 2 ∧ 38 ≤ k ∧ k < 44 ∧ k % 2 = 0 then (239, (k - 38) / 2, 0)
  else if i = 1 ∧ (k = 47 ∨ k = 49) then (247, (k - 47) / 2, 0)
  else if i = 1 ∧ 104 ≤ k ∧ k < 152 ∧ k % 2 = 0 then (304, (k - 104) / 2, 0)
  else if k = 2 ∧ i = 0 then (200, 0, 0)
  else if k = 2 ∧ i = 3 then (203, 0, 0)
  else if k = 35 ∧ i = 1 then (235, 0, 0)
  else if k = 51 ∧ i = 1 then (251, 0, 0)
  else if k = 53 ∧ i = 0 then (253, 0, 0)
  else if k = 77 ∧ i = 0 then (277, 0, 0)
  else if k = 77 ∧ i = 5 then (278, 0, 0)
  else if k = 152 ∧ i = 1 then (352, 0, 0)
  else if k = 155 ∧ i = 7 then (355, 0, 0)
  else if k = 155 ∧ i = 8 then (356, 0, 0)
  else (200000 + k, 0, i)
def gfi (b r j : Nat) : Nat × Nat := if 200000 ≤ b then (b - 200000, j) else if 400 ≤ b then (158, b - 400) else if b = 205 then (5 + 2 * r, 1) else if b = 238 then (38 + 2 * r, 1) else if b = 239 then (38 + 2 * r, 2) else if b = 247 then (47 + 2 * r, 1) else if b = 304 then (104 + 2 * r, 1)
  else if b = 200 then (2, 0)
  else if b = 203 then (2, 3)
  else if b = 235 then (35, 1)
  else if b = 251 then (51, 1)
  else if b = 253 then (53, 0)
  else if b = 277 then (77, 0)
  else if b = 278 then (77, 5)
  else if b = 352 then (152, 1)
  else if b = 355 then (155, 7)
  else if b = 356 then (155, 8)
  else (0, 0)
theorem gfb_all (k i : Nat) : gfi (gfb k i).1 (gfb k i).2.1 (gfb k i).2.2 = (k, i) ∧ 200 ≤ (gfb k i).1 ∧ ((gfb k i).1 < 100000 ∨ 200000 ≤ (gfb k i).1) := by
  by_cases h0 : k = 158 ∧ i < 60
  · rw [show gfb k i = (400 + i, 0, 0) by unfold gfb; rw [if_pos h0]]
    refine ⟨?_, by dsimp only; omega, by dsimp only; omega⟩
    rw [h0.1]
    unfold gfi
    dsimp only
    rw [if_neg (by omega), if_pos (by omega), show 400 + i - 400 = i by omega]
  by_cases h1 : i = 1 ∧ 5 ≤ k ∧ k < 17 ∧ k % 2 = 1
  · rw [show gfb k i = (205, (k - 5) / 2, 0) by unfold gfb; rw [if_neg h0, if_pos h1]]
    refine ⟨?_, by dsimp only; omega, by dsimp only; omega⟩
    rw [h1.1]
    show (5 + 2 * ((k - 5) / 2), 1) = (k, 1)
    rw [show 5 + 2 * ((k - 5) / 2) = k by omega]
  by_cases h2 : i = 1 ∧ 38 ≤ k ∧ k < 44 ∧ k % 2 = 0
  · rw [show gfb k i = (238, (k - 38) / 2, 0) by unfold gfb; rw [if_neg h0, if_neg h1, if_pos h2]]
    refine ⟨?_, by dsimp only; omega, by dsimp only; omega⟩
    rw [h2.1]
    show (38 + 2 * ((k - 38) / 2), 1) = (k, 1)
    rw [show 38 + 2 * ((k - 38) / 2) = k by omega]
  by_cases h3 : i = 2 ∧ 38 ≤ k ∧ k < 44 ∧ k % 2 = 0
  · rw [show gfb k i = (239, (k - 38) / 2, 0) by unfold gfb; rw [if_neg h0, if_neg h1, if_neg h2, if_pos h3]]
    refine ⟨?_, by dsimp only; omega, by dsimp only; omega⟩
    rw [h3.1]
    show (38 + 2 * ((k - 38) / 2), 2) = (k, 2)
    rw [show 38 + 2 * ((k - 38) / 2) = k by omega]
  by_cases h4 : i = 1 ∧ (k = 47 ∨ k = 49)
  · rw [show gfb k i = (247, (k - 47) / 2, 0) by unfold gfb; rw [if_neg h0, if_neg h1, if_neg h2, if_neg h3, if_pos h4]]
    refine ⟨?_, by dsimp only; omega, by dsimp only; omega⟩
    rw [h4.1]
    show (47 + 2 * ((k - 47) / 2), 1) = (k, 1)
    rw [show 47 + 2 * ((k - 47) / 2) = k by omega]
  by_cases h5 : i = 1 ∧ 104 ≤ k ∧ k < 152 ∧ k % 2 = 0
  · rw [show gfb k i = (304, (k - 104) / 2, 0) by unfold gfb; rw [if_neg h0, if_neg h1, if_neg h2, if_neg h3, if_neg h4, if_pos h5]]
    refine ⟨?_, by dsimp only; omega, by dsimp only; omega⟩
    rw [h5.1]
    show (104 + 2 * ((k - 104) / 2), 1) = (k, 1)
    rw [show 104 + 2 * ((k - 104) / 2) = k by omega]
  by_cases h6 : k = 2 ∧ i = 0
  · rw [show gfb k i = (200, 0, 0) by unfold gfb; rw [if_neg h0, if_neg h1, if_neg h2, if_neg h3, if_neg h4, if_neg h5, if_pos h6]]
    refine ⟨?_, by dsimp only; omega, by dsimp only; omega⟩
    rw [h6.1, h6.2]
    rfl
  by_cases h7 : k = 2 ∧ i = 3
  · rw [show gfb k i = (203, 0, 0) by unfold gfb; rw [if_neg h0, if_neg h1, if_neg h2, if_neg h3, if_neg h4, if_neg h5, if_neg h6, if_pos h7]]
    refine ⟨?_, by dsimp only; omega, by dsimp only; omega⟩
    rw [h7.1, h7.2]
    rfl
  by_cases h8 : k = 35 ∧ i = 1
  · rw [show gfb k i = (235, 0, 0) by unfold gfb; rw [if_neg h0, if_neg h1, if_neg h2, if_neg h3, if_neg h4, if_neg h5, if_neg h6, if_neg h7, if_pos h8]]
    refine ⟨?_, by dsimp only; omega, by dsimp only; omega⟩
    rw [h8.1, h8.2]
    rfl
  by_cases h9 : k = 51 ∧ i = 1
  · rw [show gfb k i = (251, 0, 0) by unfold gfb; rw [if_neg h0, if_neg h1, if_neg h2, if_neg h3, if_neg h4, if_neg h5, if_neg h6, if_neg h7, if_neg h8, if_pos h9]]
    refine ⟨?_, by dsimp only; omega, by dsimp only; omega⟩
    rw [h9.1, h9.2]
    rfl
  by_cases h10 : k = 53 ∧ i = 0
  · rw [show gfb k i = (253, 0, 0) by unfold gfb; rw [if_neg h0, if_neg h1, if_neg h2, if_neg h3, if_neg h4, if_neg h5, if_neg h6, if_neg h7, if_neg h8, if_neg h9, if_pos h10]]
    refine ⟨?_, by dsimp only; omega, by dsimp only; omega⟩
    rw [h10.1, h10.2]
    rfl
  by_cases h11 : k = 77 ∧ i = 0
  · rw [show gfb k i = (277, 0, 0) by unfold gfb; rw [if_neg h0, if_neg h1, if_neg h2, if_neg h3, if_neg h4, if_neg h5, if_neg h6, if_neg h7, if_neg h8, if_neg h9, if_neg h10, if_pos h11]]
    refine ⟨?_, by dsimp only; omega, by dsimp only; omega⟩
    rw [h11.1, h11.2]
    rfl
  by_cases h12 : k = 77 ∧ i = 5
  · rw [show gfb k i = (278, 0, 0) by unfold gfb; rw [if_neg h0, if_neg h1, if_neg h2, if_neg h3, if_neg h4, if_neg h5, if_neg h6, if_neg h7, if_neg h8, if_neg h9, if_neg h10, if_neg h11, if_pos h12]]
    refine ⟨?_, by dsimp only; omega, by dsimp only; omega⟩
    rw [h12.1, h12.2]
    rfl
  by_cases h13 : k = 152 ∧ i = 1
  · rw [show gfb k i = (352, 0, 0) by unfold gfb; rw [if_neg h0, if_neg h1, if_neg h2, if_neg h3, if_neg h4, if_neg h5, if_neg h6, if_neg h7, if_neg h8, if_neg h9, if_neg h10, if_neg h11, if_neg h12, if_pos h13]]
    refine ⟨?_, by dsimp only; omega, by dsimp only; omega⟩
    rw [h13.1, h13.2]
    rfl
  by_cases h14 : k = 155 ∧ i = 7
  · rw [show gfb k i = (355, 0, 0) by unfold gfb; rw [if_neg h0, if_neg h1, if_neg h2, if_neg h3, if_neg h4, if_neg h5, if_neg h6, if_neg h7, if_neg h8, if_neg h9, if_neg h10, if_neg h11, if_neg h12, if_neg h13, if_pos h14]]
    refine ⟨?_, by dsimp only; omega, by dsimp only; omega⟩
    rw [h14.1, h14.2]
    rfl
  by_cases h15 : k = 155 ∧ i = 8
  · rw [show gfb k i = (356, 0, 0) by unfold gfb; rw [if_neg h0, if_neg h1, if_neg h2, if_neg h3, if_neg h4, if_neg h5, if_neg h6, if_neg h7, if_neg h8, if_neg h9, if_neg h10, if_neg h11, if_neg h12, if_neg h13, if_neg h14, if_pos h15]]
    refine ⟨?_, by dsimp only; omega, by dsimp only; omega⟩
    rw [h15.1, h15.2]
    rfl
  rw [show gfb k i = (200000 + k, 0, i) by unfold gfb; rw [if_neg h0, if_neg h1, if_neg h2, if_neg h3, if_neg h4, if_neg h5, if_neg h6, if_neg h7, if_neg h8, if_neg h9, if_neg h10, if_neg h11, if_neg h12, if_neg h13, if_neg h14, if_neg h15]]
  refine ⟨?_, by dsimp only; omega, by dsimp only; omega⟩
  unfold gfi
  dsimp only
  rw [if_pos (by omega), show 200000 + k - 200000 = k by omega]
theorem gfb_inv (k i : Nat) : gfi (gfb k i).1 (gfb k i).2.1 (gfb k i).2.2 = (k, i) := (gfb_all k i).1
theorem gfb_lt {k i : Nat} : 200 ≤ (gfb k i).1 ∧ ((gfb k i).1 < 100000 ∨ 200000 ≤ (gfb k i).1) := (gfb_all k i).2
def gA (g : Gs) (k : Nat) : Nat → Int32 := g (ga k).1 (ga k).2
def gF (g : Gs) (k i : Nat) : Int32 := g (gfb k i).1 (gfb k i).2.1 (gfb k i).2.2
def gh (g : Gs) (dyn : Nat → Option iv_C) : Nat → Option iv_C := md_h (gA g) (gF g) dyn
theorem gA_up {g : Gs} {a b r j : Nat} {v : Int32} (h : ga a = (b, r)) : md_up (gA g) a j v = gA (gu g b r j v) := by
  funext k i
  by_cases hk : k = a
  · subst hk
    simp only [md_up, gA, h, gu, if_true]
  · rw [md_up_row hk]
    unfold gA gu
    by_cases h1 : (ga k).1 = b
    · by_cases h2 : (ga k).2 = r
      · exact absurd (by rw [← ga_inv k, ← ga_inv a, h, h1, h2]) hk
      · rw [if_pos h1, if_neg h2]
    · rw [if_neg h1]
theorem gF_up {g : Gs} {a i b r j : Nat} {v : Int32} (h : gfb a i = (b, r, j)) : md_up (gF g) a i v = gF (gu g b r j v) := by
  funext k i'
  by_cases hk : k = a ∧ i' = i
  · obtain ⟨h1, h2⟩ := hk
    subst h1 h2
    simp only [md_up, gF, h, gu, if_true]
  · have e : md_up (gF g) a i v k i' = gF g k i' := by
      by_cases h1 : k = a
      · subst h1
        exact md_up_el (fun h2 => hk ⟨rfl, h2⟩)
      · rw [md_up_row h1]
    rw [e]
    unfold gF gu
    by_cases h1 : (gfb k i').1 = b
    · by_cases h2 : (gfb k i').2.1 = r
      · by_cases h3 : (gfb k i').2.2 = j
        · have e1 := gfb_inv k i'
          have e2 := gfb_inv a i
          rw [h1, h2, h3] at e1
          rw [h] at e2
          have e3 := e1.symm.trans e2
          exact absurd ⟨congrArg Prod.fst e3, congrArg Prod.snd e3⟩ hk
        · rw [if_pos h1, if_pos h2, if_neg h3]
      · rw [if_pos h1, if_neg h2]
    · rw [if_neg h1]
theorem gF_A {g : Gs} {b r j : Nat} {v : Int32} (h : b < 199) : gF (gu g b r j v) = gF g := by
  funext k i
  unfold gF gu
  rw [if_neg (by have := @gfb_lt k i; omega)]
theorem gA_F {g : Gs} {b r j : Nat} {v : Int32} (h : 200 ≤ b ∧ b < 100000) : gA (gu g b r j v) = gA g := by
  funext k i
  unfold gA gu
  rw [if_neg (by have := @ga_lt k; omega)]
section GH
variable {g : Gs} {dyn : Nat → Option iv_C} {s : Nat × Nat} {st : List Value}
theorem gh_ald {a t n j b r : Nat} {l : List (Option Nat)} {p : FieldType → Bool} {ty : FieldType} {q : Value → List Value → iv_R} (hq : md_ly[a]? = some (some (t, n, l))) (ht : 100 ≤ t ∧ t < 103) (hy : iv_ar t = some ty) (hp : p ty = true) (hb : ga a = (b, r)) (hj : j < n) (hn : n < 2 ^ 31) : iv_ald (gh g dyn, s) (.int (nI j) :: .ref a :: st) p q = q (.int (g b r j)) st := by
  unfold gh
  rw [q_ald hq ht hy hp hj hn]
  unfold gA
  rw [hb]
theorem gh_ast {a t n j b r : Nat} {l : List (Option Nat)} {p : FieldType → Bool} {ty : FieldType} {x v : Int32} {q : List Value → iv_S → iv_R} (hq : md_ly[a]? = some (some (t, n, l))) (ht : 100 ≤ t ∧ t < 103) (hy : iv_ar t = some ty) (hp : p ty = true) (hv : narrow ty (.int x) = .int v) (hb : ga a = (b, r)) (hb' : b < 199) (hj : j < n) (hn : n < 2 ^ 31) : iv_ast (gh g dyn, s) (.int x :: .int (nI j) :: .ref a :: st) p q = q st (gh (gu g b r j v) dyn, s) := by
  unfold gh
  rw [q_ast hq ht hy hp hv hj hn, gA_up hb, gF_A hb']
theorem gh_gf {a t n y : Nat} {l : List (Option Nat)} {v : Value} {q : Value → List Value → iv_R} (hq : md_ly[a]? = some (some (t, n, l))) (ht : ¬ (100 ≤ t ∧ t < 103)) (hv : (md_flds (gF g) a 0 l)[y]? = some v) : iv_gf (gh g dyn, s) (.ref a :: st) t y q = q v st := by
  have e : md_h (gA g) (gF g) dyn a = some (t, md_flds (gF g) a 0 l) := by simp only [md_h, hq, md_cell, if_neg ht]
  unfold gh iv_gf
  simp only [e, if_true, hv]
theorem gh_pf {a t n i b r : Nat} {l : List (Option Nat)} {v : Int32} {q : List Value → iv_S → iv_R} (hq : md_ly[a]? = some (some (t, n, l))) (ht : ¬ (100 ≤ t ∧ t < 103)) (hl : l[i]? = some none) (hlen : i < (md_flds (gF g) a 0 l).length) (hf : iv_fit (iv_ft t i) (.int v) = true) (hb : gfb a i = (b, r, 0)) (hb' : 200 ≤ b ∧ b < 100000) : iv_pf (gh g dyn, s) (.int v :: .ref a :: st) t i q = q st (gh (gu g b r 0 v) dyn, s) := by
  unfold gh
  rw [q_pf hq ht hl hlen hf, gF_up hb, gA_F hb']
theorem gh_rc {a t n : Nat} {l : List (Option Nat)} {as : List Value} (hq : md_ly[a]? = some (some (t, n, l))) (ht : ¬ (100 ≤ t ∧ t < 103)) : iv_rc (gh g dyn, s) (.ref a :: as) t = true := by
  refine q_rc (vs := md_flds (gF g) a 0 l) ?_
  simp only [gh, md_h, hq, md_cell, if_neg ht]
def bI (b : Bool) : Int32 := if b then 1 else 0
theorem bI_t : bI true = 1 := rfl
theorem bI_f : bI false = 0 := rfl
theorem bI_0 {b : Bool} : (bI b = 0) = (b = false) := by cases b <;> simp [bI]
theorem bI_1 {b : Bool} : (bI b = 1) = (b = true) := by cases b <;> simp [bI]
theorem bI_nar {b : Bool} : narrow .boolean (.int (bI b)) = .int (bI b) := by cases b <;> rfl
theorem bI_fit {b : Bool} : iv_fit .boolean (.int (bI b)) = true := by cases b <;> rfl
theorem q_rb {b : Bool} {w : iv_S} : iv_ret (some .boolean) [.int (bI b)] w = some (some (.int (bI b)), w) := by cases b <;> rfl
theorem ga_o {j : Nat} (h : j < 6) : ga (6 + 2 * j) = (6, j) := by
  unfold ga
  rw [if_neg (by omega), if_pos (by omega), show (6 + 2 * j - 6) / 2 = j by omega]
theorem ga_cv {j : Nat} (h : j < 14) : ga (21 + j) = (21, j) := by
  unfold ga
  rw [if_neg (by omega), if_neg (by omega), if_pos (by omega), show 21 + j - 21 = j by omega]
theorem ga_sq {j : Nat} (h : j < 2) : ga (48 + 2 * j) = (48, j) := by
  unfold ga
  rw [if_neg (by omega), if_neg (by omega), if_neg (by omega), if_pos (by omega), show (48 + 2 * j - 48) / 2 = j by omega]
theorem ga_vl {j : Nat} (h : j < 10) : ga (56 + j) = (56, j) := by
  unfold ga
  rw [if_neg (by omega), if_neg (by omega), if_neg (by omega), if_neg (by omega), if_pos (by omega), show 56 + j - 56 = j by omega]
theorem ga_el {j : Nat} (h : j < 10) : ga (67 + j) = (67, j) := by
  unfold ga
  rw [if_neg (by omega), if_neg (by omega), if_neg (by omega), if_neg (by omega), if_neg (by omega), if_pos (by omega), show 67 + j - 67 = j by omega]
theorem ga_fc {j : Nat} (h : j < 24) : ga (79 + j) = (79, j) := by
  unfold ga
  rw [if_neg (by omega), if_neg (by omega), if_neg (by omega), if_neg (by omega), if_neg (by omega), if_neg (by omega), if_pos (by omega), show 79 + j - 79 = j by omega]
theorem ga_wy {j : Nat} (h : j < 24) : ga (105 + 2 * j) = (105, j) := by
  unfold ga
  rw [if_neg (by omega), if_neg (by omega), if_neg (by omega), if_neg (by omega), if_neg (by omega), if_neg (by omega), if_neg (by omega), if_pos (by omega), show (105 + 2 * j - 105) / 2 = j by omega]
theorem rc_1 {as : List Value} : iv_rc (gh g dyn, s) (.ref 1 :: as) 0 = true := gh_rc (a := 1) (t := 0) rfl (by decide)
theorem gf_1_0' {q : Value → List Value → iv_R} : iv_gf (gh g dyn, s) (.ref 1 :: st) 0 0 q = q (.ref 2) st := rfl
theorem gf_1_1' {q : Value → List Value → iv_R} : iv_gf (gh g dyn, s) (.ref 1 :: st) 0 1 q = q (.ref 35) st := rfl
theorem gf_1_2' {q : Value → List Value → iv_R} : iv_gf (gh g dyn, s) (.ref 1 :: st) 0 2 q = q (.ref 44) st := rfl
theorem gf_1_3' {q : Value → List Value → iv_R} : iv_gf (gh g dyn, s) (.ref 1 :: st) 0 3 q = q (.ref 53) st := rfl
theorem gf_1_4' {q : Value → List Value → iv_R} : iv_gf (gh g dyn, s) (.ref 1 :: st) 0 4 q = q (.ref 77) st := rfl
theorem gf_1_5' {q : Value → List Value → iv_R} : iv_gf (gh g dyn, s) (.ref 1 :: st) 0 5 q = q (.ref 155) st := rfl
theorem rc_2 {as : List Value} : iv_rc (gh g dyn, s) (.ref 2 :: as) 10 = true := gh_rc (a := 2) (t := 10) rfl (by decide)
theorem gf_2_0' {q : Value → List Value → iv_R} : iv_gf (gh g dyn, s) (.ref 2 :: st) 10 0 q = q (.int (g 200 0 0)) st := rfl
theorem pf_2_0' {v : Int32} {q : List Value → iv_S → iv_R} : iv_pf (gh g dyn, s) (.int v :: .ref 2 :: st) 10 0 q = q st (gh (gu g 200 0 0 v) dyn, s) := gh_pf (a := 2) (t := 10) (n := 0) rfl (by decide) rfl (by simp [md_flds]) rfl rfl (by decide)
theorem gf_2_1' {q : Value → List Value → iv_R} : iv_gf (gh g dyn, s) (.ref 2 :: st) 10 1 q = q (.ref 3) st := rfl
theorem gf_2_2' {q : Value → List Value → iv_R} : iv_gf (gh g dyn, s) (.ref 2 :: st) 10 2 q = q (.ref 4) st := rfl
theorem gf_2_3' {q : Value → List Value → iv_R} : iv_gf (gh g dyn, s) (.ref 2 :: st) 10 3 q = q (.int (g 203 0 0)) st := rfl
theorem pf_2_3' {v : Int32} {q : List Value → iv_S → iv_R} : iv_pf (gh g dyn, s) (.int v :: .ref 2 :: st) 10 3 q = q st (gh (gu g 203 0 0 v) dyn, s) := gh_pf (a := 2) (t := 10) (n := 0) rfl (by decide) rfl (by simp [md_flds]) rfl rfl (by decide)
theorem gf_2_4' {q : Value → List Value → iv_R} : iv_gf (gh g dyn, s) (.ref 2 :: st) 10 4 q = q (.ref 17) st := rfl
theorem gf_2_5' {q : Value → List Value → iv_R} : iv_gf (gh g dyn, s) (.ref 2 :: st) 10 5 q = q (.ref 18) st := rfl
theorem gf_2_6' {q : Value → List Value → iv_R} : iv_gf (gh g dyn, s) (.ref 2 :: st) 10 6 q = q (.ref 19) st := rfl
theorem gf_2_7' {q : Value → List Value → iv_R} : iv_gf (gh g dyn, s) (.ref 2 :: st) 10 7 q = q (.ref 20) st := rfl
theorem la_3 {j : Nat} {q : Value → List Value → iv_R} (hj : j < 6) : iv_ald (gh g dyn, s) (.int (nI j) :: .ref 3 :: st) iv_isI q = q (.int (g 3 0 j)) st := gh_ald (a := 3) (t := 100) (n := 6) (l := []) (ty := .int) (b := 3) (r := 0) rfl (by decide) rfl rfl rfl hj (by decide)
theorem ll_3 {q : Int32 → List Value → iv_R} : iv_len (gh g dyn, s) (.ref 3 :: st) q = q (nI 6) st := q_len (a := 3) (t := 100) (n := 6) (l := []) (ty := .int) rfl (by decide) rfl
theorem sa_3 {j : Nat} {x : Int32} {q : List Value → iv_S → iv_R} (hj : j < 6) : iv_ast (gh g dyn, s) (.int x :: .int (nI j) :: .ref 3 :: st) iv_isI q = q st (gh (gu g 3 0 j x) dyn, s) := gh_ast (a := 3) (t := 100) (n := 6) (l := []) (ty := .int) (b := 3) (r := 0) rfl (by decide) rfl rfl rfl rfl (by decide) hj (by decide)
theorem la_17 {j : Nat} {q : Value → List Value → iv_R} (hj : j < 14) : iv_ald (gh g dyn, s) (.int (nI j) :: .ref 17 :: st) iv_isI q = q (.int (g 17 0 j)) st := gh_ald (a := 17) (t := 100) (n := 14) (l := []) (ty := .int) (b := 17) (r := 0) rfl (by decide) rfl rfl rfl hj (by decide)
theorem ll_17 {q : Int32 → List Value → iv_R} : iv_len (gh g dyn, s) (.ref 17 :: st) q = q (nI 14) st := q_len (a := 17) (t := 100) (n := 14) (l := []) (ty := .int) rfl (by decide) rfl
theorem sa_17 {j : Nat} {x : Int32} {q : List Value → iv_S → iv_R} (hj : j < 14) : iv_ast (gh g dyn, s) (.int x :: .int (nI j) :: .ref 17 :: st) iv_isI q = q st (gh (gu g 17 0 j x) dyn, s) := gh_ast (a := 17) (t := 100) (n := 14) (l := []) (ty := .int) (b := 17) (r := 0) rfl (by decide) rfl rfl rfl rfl (by decide) hj (by decide)
theorem la_18 {j : Nat} {q : Value → List Value → iv_R} (hj : j < 14) : iv_ald (gh g dyn, s) (.int (nI j) :: .ref 18 :: st) iv_isI q = q (.int (g 18 0 j)) st := gh_ald (a := 18) (t := 100) (n := 14) (l := []) (ty := .int) (b := 18) (r := 0) rfl (by decide) rfl rfl rfl hj (by decide)
theorem ll_18 {q : Int32 → List Value → iv_R} : iv_len (gh g dyn, s) (.ref 18 :: st) q = q (nI 14) st := q_len (a := 18) (t := 100) (n := 14) (l := []) (ty := .int) rfl (by decide) rfl
theorem sa_18 {j : Nat} {x : Int32} {q : List Value → iv_S → iv_R} (hj : j < 14) : iv_ast (gh g dyn, s) (.int x :: .int (nI j) :: .ref 18 :: st) iv_isI q = q st (gh (gu g 18 0 j x) dyn, s) := gh_ast (a := 18) (t := 100) (n := 14) (l := []) (ty := .int) (b := 18) (r := 0) rfl (by decide) rfl rfl rfl rfl (by decide) hj (by decide)
theorem la_19 {j : Nat} {q : Value → List Value → iv_R} (hj : j < 14) : iv_ald (gh g dyn, s) (.int (nI j) :: .ref 19 :: st) iv_isZ q = q (.int (g 19 0 j)) st := gh_ald (a := 19) (t := 101) (n := 14) (l := []) (ty := .boolean) (b := 19) (r := 0) rfl (by decide) rfl rfl rfl hj (by decide)
theorem ll_19 {q : Int32 → List Value → iv_R} : iv_len (gh g dyn, s) (.ref 19 :: st) q = q (nI 14) st := q_len (a := 19) (t := 101) (n := 14) (l := []) (ty := .boolean) rfl (by decide) rfl
theorem sa_19 {j : Nat} {b : Bool} {q : List Value → iv_S → iv_R} (hj : j < 14) : iv_ast (gh g dyn, s) (.int (bI b) :: .int (nI j) :: .ref 19 :: st) iv_isZ q = q st (gh (gu g 19 0 j (bI b)) dyn, s) := gh_ast (a := 19) (t := 101) (n := 14) (l := []) (ty := .boolean) (b := 19) (r := 0) rfl (by decide) rfl rfl bI_nar rfl (by decide) hj (by decide)
theorem sa_19_0 {j : Nat} {q : List Value → iv_S → iv_R} (hj : j < 14) : iv_ast (gh g dyn, s) (.int (nI 0) :: .int (nI j) :: .ref 19 :: st) iv_isZ q = q st (gh (gu g 19 0 j (bI false)) dyn, s) := gh_ast (a := 19) (t := 101) (n := 14) (l := []) (ty := .boolean) (b := 19) (r := 0) rfl (by decide) rfl rfl rfl rfl (by decide) hj (by decide)
theorem sa_19_1 {j : Nat} {q : List Value → iv_S → iv_R} (hj : j < 14) : iv_ast (gh g dyn, s) (.int (nI 1) :: .int (nI j) :: .ref 19 :: st) iv_isZ q = q st (gh (gu g 19 0 j (bI true)) dyn, s) := gh_ast (a := 19) (t := 101) (n := 14) (l := []) (ty := .boolean) (b := 19) (r := 0) rfl (by decide) rfl rfl rfl rfl (by decide) hj (by decide)
theorem rc_35 {as : List Value} : iv_rc (gh g dyn, s) (.ref 35 :: as) 9 = true := gh_rc (a := 35) (t := 9) rfl (by decide)
theorem gf_35_0' {q : Value → List Value → iv_R} : iv_gf (gh g dyn, s) (.ref 35 :: st) 9 0 q = q (.ref 36) st := rfl
theorem gf_35_1' {q : Value → List Value → iv_R} : iv_gf (gh g dyn, s) (.ref 35 :: st) 9 1 q = q (.int (g 235 0 0)) st := rfl
theorem pf_35_1' {v : Int32} {q : List Value → iv_S → iv_R} : iv_pf (gh g dyn, s) (.int v :: .ref 35 :: st) 9 1 q = q st (gh (gu g 235 0 0 v) dyn, s) := gh_pf (a := 35) (t := 9) (n := 0) rfl (by decide) rfl (by simp [md_flds]) rfl rfl (by decide)
theorem gf_35_2' {q : Value → List Value → iv_R} : iv_gf (gh g dyn, s) (.ref 35 :: st) 9 2 q = q (.ref 37) st := rfl
theorem rc_44 {as : List Value} : iv_rc (gh g dyn, s) (.ref 44 :: as) 5 = true := gh_rc (a := 44) (t := 5) rfl (by decide)
theorem gf_44_0' {q : Value → List Value → iv_R} : iv_gf (gh g dyn, s) (.ref 44 :: st) 5 0 q = q (.ref 45) st := rfl
theorem gf_44_1' {q : Value → List Value → iv_R} : iv_gf (gh g dyn, s) (.ref 44 :: st) 5 1 q = q (.ref 46) st := rfl
theorem gf_44_2' {q : Value → List Value → iv_R} : iv_gf (gh g dyn, s) (.ref 44 :: st) 5 2 q = q (.ref 51) st := rfl
theorem la_45 {j : Nat} {q : Value → List Value → iv_R} (hj : j < 6) : iv_ald (gh g dyn, s) (.int (nI j) :: .ref 45 :: st) iv_isI q = q (.int (g 45 0 j)) st := gh_ald (a := 45) (t := 100) (n := 6) (l := []) (ty := .int) (b := 45) (r := 0) rfl (by decide) rfl rfl rfl hj (by decide)
theorem ll_45 {q : Int32 → List Value → iv_R} : iv_len (gh g dyn, s) (.ref 45 :: st) q = q (nI 6) st := q_len (a := 45) (t := 100) (n := 6) (l := []) (ty := .int) rfl (by decide) rfl
theorem sa_45 {j : Nat} {x : Int32} {q : List Value → iv_S → iv_R} (hj : j < 6) : iv_ast (gh g dyn, s) (.int x :: .int (nI j) :: .ref 45 :: st) iv_isI q = q st (gh (gu g 45 0 j x) dyn, s) := gh_ast (a := 45) (t := 100) (n := 6) (l := []) (ty := .int) (b := 45) (r := 0) rfl (by decide) rfl rfl rfl rfl (by decide) hj (by decide)
theorem rc_51 {as : List Value} : iv_rc (gh g dyn, s) (.ref 51 :: as) 7 = true := gh_rc (a := 51) (t := 7) rfl (by decide)
theorem gf_51_0' {q : Value → List Value → iv_R} : iv_gf (gh g dyn, s) (.ref 51 :: st) 7 0 q = q (.ref 52) st := rfl
theorem gf_51_1' {q : Value → List Value → iv_R} : iv_gf (gh g dyn, s) (.ref 51 :: st) 7 1 q = q (.int (g 251 0 0)) st := rfl
theorem pf_51_1' {v : Int32} {q : List Value → iv_S → iv_R} : iv_pf (gh g dyn, s) (.int v :: .ref 51 :: st) 7 1 q = q st (gh (gu g 251 0 0 v) dyn, s) := gh_pf (a := 51) (t := 7) (n := 0) rfl (by decide) rfl (by simp [md_flds]) rfl rfl (by decide)
theorem la_52 {j : Nat} {q : Value → List Value → iv_R} (hj : j < 16) : iv_ald (gh g dyn, s) (.int (nI j) :: .ref 52 :: st) iv_isI q = q (.int (g 52 0 j)) st := gh_ald (a := 52) (t := 100) (n := 16) (l := []) (ty := .int) (b := 52) (r := 0) rfl (by decide) rfl rfl rfl hj (by decide)
theorem ll_52 {q : Int32 → List Value → iv_R} : iv_len (gh g dyn, s) (.ref 52 :: st) q = q (nI 16) st := q_len (a := 52) (t := 100) (n := 16) (l := []) (ty := .int) rfl (by decide) rfl
theorem sa_52 {j : Nat} {x : Int32} {q : List Value → iv_S → iv_R} (hj : j < 16) : iv_ast (gh g dyn, s) (.int x :: .int (nI j) :: .ref 52 :: st) iv_isI q = q st (gh (gu g 52 0 j x) dyn, s) := gh_ast (a := 52) (t := 100) (n := 16) (l := []) (ty := .int) (b := 52) (r := 0) rfl (by decide) rfl rfl rfl rfl (by decide) hj (by decide)
theorem rc_53 {as : List Value} : iv_rc (gh g dyn, s) (.ref 53 :: as) 11 = true := gh_rc (a := 53) (t := 11) rfl (by decide)
theorem gf_53_0' {q : Value → List Value → iv_R} : iv_gf (gh g dyn, s) (.ref 53 :: st) 11 0 q = q (.int (g 253 0 0)) st := rfl
theorem pf_53_0' {v : Int32} {q : List Value → iv_S → iv_R} : iv_pf (gh g dyn, s) (.int v :: .ref 53 :: st) 11 0 q = q st (gh (gu g 253 0 0 v) dyn, s) := gh_pf (a := 53) (t := 11) (n := 0) rfl (by decide) rfl (by simp [md_flds]) rfl rfl (by decide)
theorem gf_53_1' {q : Value → List Value → iv_R} : iv_gf (gh g dyn, s) (.ref 53 :: st) 11 1 q = q (.ref 54) st := rfl
theorem gf_53_2' {q : Value → List Value → iv_R} : iv_gf (gh g dyn, s) (.ref 53 :: st) 11 2 q = q (.ref 55) st := rfl
theorem gf_53_3' {q : Value → List Value → iv_R} : iv_gf (gh g dyn, s) (.ref 53 :: st) 11 3 q = q (.ref 66) st := rfl
theorem la_54 {j : Nat} {q : Value → List Value → iv_R} (hj : j < 10) : iv_ald (gh g dyn, s) (.int (nI j) :: .ref 54 :: st) iv_isI q = q (.int (g 54 0 j)) st := gh_ald (a := 54) (t := 100) (n := 10) (l := []) (ty := .int) (b := 54) (r := 0) rfl (by decide) rfl rfl rfl hj (by decide)
theorem ll_54 {q : Int32 → List Value → iv_R} : iv_len (gh g dyn, s) (.ref 54 :: st) q = q (nI 10) st := q_len (a := 54) (t := 100) (n := 10) (l := []) (ty := .int) rfl (by decide) rfl
theorem sa_54 {j : Nat} {x : Int32} {q : List Value → iv_S → iv_R} (hj : j < 10) : iv_ast (gh g dyn, s) (.int x :: .int (nI j) :: .ref 54 :: st) iv_isI q = q st (gh (gu g 54 0 j x) dyn, s) := gh_ast (a := 54) (t := 100) (n := 10) (l := []) (ty := .int) (b := 54) (r := 0) rfl (by decide) rfl rfl rfl rfl (by decide) hj (by decide)
theorem rc_77 {as : List Value} : iv_rc (gh g dyn, s) (.ref 77 :: as) 6 = true := gh_rc (a := 77) (t := 6) rfl (by decide)
theorem gf_77_0' {q : Value → List Value → iv_R} : iv_gf (gh g dyn, s) (.ref 77 :: st) 6 0 q = q (.int (g 277 0 0)) st := rfl
theorem pf_77_0' {v : Int32} {q : List Value → iv_S → iv_R} : iv_pf (gh g dyn, s) (.int v :: .ref 77 :: st) 6 0 q = q st (gh (gu g 277 0 0 v) dyn, s) := gh_pf (a := 77) (t := 6) (n := 0) rfl (by decide) rfl (by simp [md_flds]) rfl rfl (by decide)
theorem gf_77_1' {q : Value → List Value → iv_R} : iv_gf (gh g dyn, s) (.ref 77 :: st) 6 1 q = q (.ref 78) st := rfl
theorem gf_77_2' {q : Value → List Value → iv_R} : iv_gf (gh g dyn, s) (.ref 77 :: st) 6 2 q = q (.ref 103) st := rfl
theorem gf_77_3' {q : Value → List Value → iv_R} : iv_gf (gh g dyn, s) (.ref 77 :: st) 6 3 q = q (.ref 152) st := rfl
theorem gf_77_4' {q : Value → List Value → iv_R} : iv_gf (gh g dyn, s) (.ref 77 :: st) 6 4 q = q (.ref 154) st := rfl
theorem gf_77_5' {q : Value → List Value → iv_R} : iv_gf (gh g dyn, s) (.ref 77 :: st) 6 5 q = q (.int (g 278 0 0)) st := rfl
theorem pf_77_5' {v : Int32} {q : List Value → iv_S → iv_R} : iv_pf (gh g dyn, s) (.int v :: .ref 77 :: st) 6 5 q = q st (gh (gu g 278 0 0 v) dyn, s) := gh_pf (a := 77) (t := 6) (n := 0) rfl (by decide) rfl (by simp [md_flds]) rfl rfl (by decide)
theorem rc_152 {as : List Value} : iv_rc (gh g dyn, s) (.ref 152 :: as) 7 = true := gh_rc (a := 152) (t := 7) rfl (by decide)
theorem gf_152_0' {q : Value → List Value → iv_R} : iv_gf (gh g dyn, s) (.ref 152 :: st) 7 0 q = q (.ref 153) st := rfl
theorem gf_152_1' {q : Value → List Value → iv_R} : iv_gf (gh g dyn, s) (.ref 152 :: st) 7 1 q = q (.int (g 352 0 0)) st := rfl
theorem pf_152_1' {v : Int32} {q : List Value → iv_S → iv_R} : iv_pf (gh g dyn, s) (.int v :: .ref 152 :: st) 7 1 q = q st (gh (gu g 352 0 0 v) dyn, s) := gh_pf (a := 152) (t := 7) (n := 0) rfl (by decide) rfl (by simp [md_flds]) rfl rfl (by decide)
theorem la_153 {j : Nat} {q : Value → List Value → iv_R} (hj : j < 16) : iv_ald (gh g dyn, s) (.int (nI j) :: .ref 153 :: st) iv_isI q = q (.int (g 153 0 j)) st := gh_ald (a := 153) (t := 100) (n := 16) (l := []) (ty := .int) (b := 153) (r := 0) rfl (by decide) rfl rfl rfl hj (by decide)
theorem ll_153 {q : Int32 → List Value → iv_R} : iv_len (gh g dyn, s) (.ref 153 :: st) q = q (nI 16) st := q_len (a := 153) (t := 100) (n := 16) (l := []) (ty := .int) rfl (by decide) rfl
theorem sa_153 {j : Nat} {x : Int32} {q : List Value → iv_S → iv_R} (hj : j < 16) : iv_ast (gh g dyn, s) (.int x :: .int (nI j) :: .ref 153 :: st) iv_isI q = q st (gh (gu g 153 0 j x) dyn, s) := gh_ast (a := 153) (t := 100) (n := 16) (l := []) (ty := .int) (b := 153) (r := 0) rfl (by decide) rfl rfl rfl rfl (by decide) hj (by decide)
theorem la_154 {j : Nat} {q : Value → List Value → iv_R} (hj : j < 112) : iv_ald (gh g dyn, s) (.int (nI j) :: .ref 154 :: st) iv_isC q = q (.int (g 154 0 j)) st := gh_ald (a := 154) (t := 102) (n := 112) (l := []) (ty := .char) (b := 154) (r := 0) rfl (by decide) rfl rfl rfl hj (by decide)
theorem ll_154 {q : Int32 → List Value → iv_R} : iv_len (gh g dyn, s) (.ref 154 :: st) q = q (nI 112) st := q_len (a := 154) (t := 102) (n := 112) (l := []) (ty := .char) rfl (by decide) rfl
theorem rc_155 {as : List Value} : iv_rc (gh g dyn, s) (.ref 155 :: as) 2 = true := gh_rc (a := 155) (t := 2) rfl (by decide)
theorem gf_155_0' {q : Value → List Value → iv_R} : iv_gf (gh g dyn, s) (.ref 155 :: st) 2 0 q = q (.ref 2) st := rfl
theorem gf_155_1' {q : Value → List Value → iv_R} : iv_gf (gh g dyn, s) (.ref 155 :: st) 2 1 q = q (.ref 35) st := rfl
theorem gf_155_2' {q : Value → List Value → iv_R} : iv_gf (gh g dyn, s) (.ref 155 :: st) 2 2 q = q (.ref 44) st := rfl
theorem gf_155_3' {q : Value → List Value → iv_R} : iv_gf (gh g dyn, s) (.ref 155 :: st) 2 3 q = q (.ref 53) st := rfl
theorem gf_155_4' {q : Value → List Value → iv_R} : iv_gf (gh g dyn, s) (.ref 155 :: st) 2 4 q = q (.ref 77) st := rfl
theorem gf_155_5' {q : Value → List Value → iv_R} : iv_gf (gh g dyn, s) (.ref 155 :: st) 2 5 q = q (.ref 156) st := rfl
theorem gf_155_6' {q : Value → List Value → iv_R} : iv_gf (gh g dyn, s) (.ref 155 :: st) 2 6 q = q (.ref 157) st := rfl
theorem gf_155_7' {q : Value → List Value → iv_R} : iv_gf (gh g dyn, s) (.ref 155 :: st) 2 7 q = q (.int (g 355 0 0)) st := rfl
theorem pf_155_7' {v : Int32} {q : List Value → iv_S → iv_R} : iv_pf (gh g dyn, s) (.int v :: .ref 155 :: st) 2 7 q = q st (gh (gu g 355 0 0 v) dyn, s) := gh_pf (a := 155) (t := 2) (n := 0) rfl (by decide) rfl (by simp [md_flds]) rfl rfl (by decide)
theorem gf_155_8' {q : Value → List Value → iv_R} : iv_gf (gh g dyn, s) (.ref 155 :: st) 2 8 q = q (.int (g 356 0 0)) st := rfl
theorem pf_155_8' {v : Int32} {q : List Value → iv_S → iv_R} : iv_pf (gh g dyn, s) (.int v :: .ref 155 :: st) 2 8 q = q st (gh (gu g 356 0 0 v) dyn, s) := gh_pf (a := 155) (t := 2) (n := 0) rfl (by decide) rfl (by simp [md_flds]) rfl rfl (by decide)
theorem la_156 {j : Nat} {q : Value → List Value → iv_R} (hj : j < 16) : iv_ald (gh g dyn, s) (.int (nI j) :: .ref 156 :: st) iv_isI q = q (.int (g 156 0 j)) st := gh_ald (a := 156) (t := 100) (n := 16) (l := []) (ty := .int) (b := 156) (r := 0) rfl (by decide) rfl rfl rfl hj (by decide)
theorem ll_156 {q : Int32 → List Value → iv_R} : iv_len (gh g dyn, s) (.ref 156 :: st) q = q (nI 16) st := q_len (a := 156) (t := 100) (n := 16) (l := []) (ty := .int) rfl (by decide) rfl
theorem sa_156 {j : Nat} {x : Int32} {q : List Value → iv_S → iv_R} (hj : j < 16) : iv_ast (gh g dyn, s) (.int x :: .int (nI j) :: .ref 156 :: st) iv_isI q = q st (gh (gu g 156 0 j x) dyn, s) := gh_ast (a := 156) (t := 100) (n := 16) (l := []) (ty := .int) (b := 156) (r := 0) rfl (by decide) rfl rfl rfl rfl (by decide) hj (by decide)
theorem la_157 {j : Nat} {q : Value → List Value → iv_R} (hj : j < 16) : iv_ald (gh g dyn, s) (.int (nI j) :: .ref 157 :: st) iv_isI q = q (.int (g 157 0 j)) st := gh_ald (a := 157) (t := 100) (n := 16) (l := []) (ty := .int) (b := 157) (r := 0) rfl (by decide) rfl rfl rfl hj (by decide)
theorem ll_157 {q : Int32 → List Value → iv_R} : iv_len (gh g dyn, s) (.ref 157 :: st) q = q (nI 16) st := q_len (a := 157) (t := 100) (n := 16) (l := []) (ty := .int) rfl (by decide) rfl
theorem sa_157 {j : Nat} {x : Int32} {q : List Value → iv_S → iv_R} (hj : j < 16) : iv_ast (gh g dyn, s) (.int x :: .int (nI j) :: .ref 157 :: st) iv_isI q = q st (gh (gu g 157 0 j x) dyn, s) := gh_ast (a := 157) (t := 100) (n := 16) (l := []) (ty := .int) (b := 157) (r := 0) rfl (by decide) rfl rfl rfl rfl (by decide) hj (by decide)
theorem rc_158 {as : List Value} : iv_rc (gh g dyn, s) (.ref 158 :: as) 1 = true := gh_rc (a := 158) (t := 1) rfl (by decide)
theorem gf_158_0' {q : Value → List Value → iv_R} : iv_gf (gh g dyn, s) (.ref 158 :: st) 1 0 q = q (.int (g 400 0 0)) st := rfl
theorem pf_158_0' {v : Int32} {q : List Value → iv_S → iv_R} : iv_pf (gh g dyn, s) (.int v :: .ref 158 :: st) 1 0 q = q st (gh (gu g 400 0 0 v) dyn, s) := gh_pf (a := 158) (t := 1) (n := 0) rfl (by decide) rfl (by simp [md_flds]) rfl rfl (by decide)
theorem gf_158_1' {q : Value → List Value → iv_R} : iv_gf (gh g dyn, s) (.ref 158 :: st) 1 1 q = q (.ref 159) st := rfl
theorem gf_158_2' {q : Value → List Value → iv_R} : iv_gf (gh g dyn, s) (.ref 158 :: st) 1 2 q = q (.int (g 402 0 0)) st := rfl
theorem pf_158_2' {v : Int32} {q : List Value → iv_S → iv_R} : iv_pf (gh g dyn, s) (.int v :: .ref 158 :: st) 1 2 q = q st (gh (gu g 402 0 0 v) dyn, s) := gh_pf (a := 158) (t := 1) (n := 0) rfl (by decide) rfl (by simp [md_flds]) rfl rfl (by decide)
theorem gf_158_3' {q : Value → List Value → iv_R} : iv_gf (gh g dyn, s) (.ref 158 :: st) 1 3 q = q (.ref 160) st := rfl
theorem gf_158_4' {q : Value → List Value → iv_R} : iv_gf (gh g dyn, s) (.ref 158 :: st) 1 4 q = q (.ref 161) st := rfl
theorem gf_158_5' {q : Value → List Value → iv_R} : iv_gf (gh g dyn, s) (.ref 158 :: st) 1 5 q = q (.ref 162) st := rfl
theorem gf_158_6' {q : Value → List Value → iv_R} : iv_gf (gh g dyn, s) (.ref 158 :: st) 1 6 q = q (.ref 163) st := rfl
theorem gf_158_7' {q : Value → List Value → iv_R} : iv_gf (gh g dyn, s) (.ref 158 :: st) 1 7 q = q (.int (g 407 0 0)) st := rfl
theorem pf_158_7' {v : Int32} {q : List Value → iv_S → iv_R} : iv_pf (gh g dyn, s) (.int v :: .ref 158 :: st) 1 7 q = q st (gh (gu g 407 0 0 v) dyn, s) := gh_pf (a := 158) (t := 1) (n := 0) rfl (by decide) rfl (by simp [md_flds]) rfl rfl (by decide)
theorem gf_158_8' {q : Value → List Value → iv_R} : iv_gf (gh g dyn, s) (.ref 158 :: st) 1 8 q = q (.ref 164) st := rfl
theorem gf_158_9' {q : Value → List Value → iv_R} : iv_gf (gh g dyn, s) (.ref 158 :: st) 1 9 q = q (.ref 165) st := rfl
theorem gf_158_10' {q : Value → List Value → iv_R} : iv_gf (gh g dyn, s) (.ref 158 :: st) 1 10 q = q (.ref 166) st := rfl
theorem gf_158_11' {q : Value → List Value → iv_R} : iv_gf (gh g dyn, s) (.ref 158 :: st) 1 11 q = q (.ref 167) st := rfl
theorem gf_158_12' {q : Value → List Value → iv_R} : iv_gf (gh g dyn, s) (.ref 158 :: st) 1 12 q = q (.ref 168) st := rfl
theorem gf_158_13' {q : Value → List Value → iv_R} : iv_gf (gh g dyn, s) (.ref 158 :: st) 1 13 q = q (.ref 169) st := rfl
theorem gf_158_14' {q : Value → List Value → iv_R} : iv_gf (gh g dyn, s) (.ref 158 :: st) 1 14 q = q (.ref 170) st := rfl
theorem gf_158_15' {q : Value → List Value → iv_R} : iv_gf (gh g dyn, s) (.ref 158 :: st) 1 15 q = q (.ref 171) st := rfl
theorem gf_158_16' {q : Value → List Value → iv_R} : iv_gf (gh g dyn, s) (.ref 158 :: st) 1 16 q = q (.ref 172) st := rfl
theorem gf_158_17' {q : Value → List Value → iv_R} : iv_gf (gh g dyn, s) (.ref 158 :: st) 1 17 q = q (.ref 173) st := rfl
theorem gf_158_18' {q : Value → List Value → iv_R} : iv_gf (gh g dyn, s) (.ref 158 :: st) 1 18 q = q (.ref 174) st := rfl
theorem gf_158_19' {q : Value → List Value → iv_R} : iv_gf (gh g dyn, s) (.ref 158 :: st) 1 19 q = q (.ref 175) st := rfl
theorem gf_158_20' {q : Value → List Value → iv_R} : iv_gf (gh g dyn, s) (.ref 158 :: st) 1 20 q = q (.ref 176) st := rfl
theorem gf_158_21' {q : Value → List Value → iv_R} : iv_gf (gh g dyn, s) (.ref 158 :: st) 1 21 q = q (.ref 177) st := rfl
theorem gf_158_22' {q : Value → List Value → iv_R} : iv_gf (gh g dyn, s) (.ref 158 :: st) 1 22 q = q (.ref 178) st := rfl
theorem gf_158_23' {q : Value → List Value → iv_R} : iv_gf (gh g dyn, s) (.ref 158 :: st) 1 23 q = q (.ref 179) st := rfl
theorem gf_158_24' {q : Value → List Value → iv_R} : iv_gf (gh g dyn, s) (.ref 158 :: st) 1 24 q = q (.int (g 424 0 0)) st := rfl
theorem pf_158_24' {v : Int32} {q : List Value → iv_S → iv_R} : iv_pf (gh g dyn, s) (.int v :: .ref 158 :: st) 1 24 q = q st (gh (gu g 424 0 0 v) dyn, s) := gh_pf (a := 158) (t := 1) (n := 0) rfl (by decide) rfl (by simp [md_flds]) rfl rfl (by decide)
theorem gf_158_25' {q : Value → List Value → iv_R} : iv_gf (gh g dyn, s) (.ref 158 :: st) 1 25 q = q (.ref 180) st := rfl
theorem gf_158_26' {q : Value → List Value → iv_R} : iv_gf (gh g dyn, s) (.ref 158 :: st) 1 26 q = q (.ref 181) st := rfl
theorem gf_158_27' {q : Value → List Value → iv_R} : iv_gf (gh g dyn, s) (.ref 158 :: st) 1 27 q = q (.ref 182) st := rfl
theorem gf_158_28' {q : Value → List Value → iv_R} : iv_gf (gh g dyn, s) (.ref 158 :: st) 1 28 q = q (.int (g 428 0 0)) st := rfl
theorem pf_158_28' {v : Int32} {q : List Value → iv_S → iv_R} : iv_pf (gh g dyn, s) (.int v :: .ref 158 :: st) 1 28 q = q st (gh (gu g 428 0 0 v) dyn, s) := gh_pf (a := 158) (t := 1) (n := 0) rfl (by decide) rfl (by simp [md_flds]) rfl rfl (by decide)
theorem gf_158_29' {q : Value → List Value → iv_R} : iv_gf (gh g dyn, s) (.ref 158 :: st) 1 29 q = q (.ref 183) st := rfl
theorem gf_158_30' {q : Value → List Value → iv_R} : iv_gf (gh g dyn, s) (.ref 158 :: st) 1 30 q = q (.ref 184) st := rfl
theorem gf_158_31' {q : Value → List Value → iv_R} : iv_gf (gh g dyn, s) (.ref 158 :: st) 1 31 q = q (.ref 185) st := rfl
theorem gf_158_32' {q : Value → List Value → iv_R} : iv_gf (gh g dyn, s) (.ref 158 :: st) 1 32 q = q (.ref 186) st := rfl
theorem gf_158_33' {q : Value → List Value → iv_R} : iv_gf (gh g dyn, s) (.ref 158 :: st) 1 33 q = q (.ref 187) st := rfl
theorem gf_158_34' {q : Value → List Value → iv_R} : iv_gf (gh g dyn, s) (.ref 158 :: st) 1 34 q = q (.ref 188) st := rfl
theorem gf_158_35' {q : Value → List Value → iv_R} : iv_gf (gh g dyn, s) (.ref 158 :: st) 1 35 q = q (.ref 189) st := rfl
theorem gf_158_36' {q : Value → List Value → iv_R} : iv_gf (gh g dyn, s) (.ref 158 :: st) 1 36 q = q (.ref 190) st := rfl
theorem gf_158_37' {q : Value → List Value → iv_R} : iv_gf (gh g dyn, s) (.ref 158 :: st) 1 37 q = q (.ref 191) st := rfl
theorem gf_158_38' {q : Value → List Value → iv_R} : iv_gf (gh g dyn, s) (.ref 158 :: st) 1 38 q = q (.ref 192) st := rfl
theorem gf_158_39' {q : Value → List Value → iv_R} : iv_gf (gh g dyn, s) (.ref 158 :: st) 1 39 q = q (.int (g 439 0 0)) st := rfl
theorem pf_158_39' {v : Int32} {q : List Value → iv_S → iv_R} : iv_pf (gh g dyn, s) (.int v :: .ref 158 :: st) 1 39 q = q st (gh (gu g 439 0 0 v) dyn, s) := gh_pf (a := 158) (t := 1) (n := 0) rfl (by decide) rfl (by simp [md_flds]) rfl rfl (by decide)
theorem gf_158_40' {q : Value → List Value → iv_R} : iv_gf (gh g dyn, s) (.ref 158 :: st) 1 40 q = q (.ref 193) st := rfl
theorem gf_158_41' {q : Value → List Value → iv_R} : iv_gf (gh g dyn, s) (.ref 158 :: st) 1 41 q = q (.int (g 441 0 0)) st := rfl
theorem pf_158_41' {v : Int32} {q : List Value → iv_S → iv_R} : iv_pf (gh g dyn, s) (.int v :: .ref 158 :: st) 1 41 q = q st (gh (gu g 441 0 0 v) dyn, s) := gh_pf (a := 158) (t := 1) (n := 0) rfl (by decide) rfl (by simp [md_flds]) rfl rfl (by decide)
theorem gf_158_42' {q : Value → List Value → iv_R} : iv_gf (gh g dyn, s) (.ref 158 :: st) 1 42 q = q (.ref 194) st := rfl
theorem gf_158_43' {q : Value → List Value → iv_R} : iv_gf (gh g dyn, s) (.ref 158 :: st) 1 43 q = q (.ref 195) st := rfl
theorem gf_158_44' {q : Value → List Value → iv_R} : iv_gf (gh g dyn, s) (.ref 158 :: st) 1 44 q = q (.ref 196) st := rfl
theorem gf_158_45' {q : Value → List Value → iv_R} : iv_gf (gh g dyn, s) (.ref 158 :: st) 1 45 q = q (.ref 197) st := rfl
theorem gf_158_46' {q : Value → List Value → iv_R} : iv_gf (gh g dyn, s) (.ref 158 :: st) 1 46 q = q (.ref 198) st := rfl
theorem gf_158_47' {q : Value → List Value → iv_R} : iv_gf (gh g dyn, s) (.ref 158 :: st) 1 47 q = q (.int (g 447 0 0)) st := rfl
theorem pf_158_47' {v : Int32} {q : List Value → iv_S → iv_R} : iv_pf (gh g dyn, s) (.int v :: .ref 158 :: st) 1 47 q = q st (gh (gu g 447 0 0 v) dyn, s) := gh_pf (a := 158) (t := 1) (n := 0) rfl (by decide) rfl (by simp [md_flds]) rfl rfl (by decide)
theorem la_159 {j : Nat} {q : Value → List Value → iv_R} (hj : j < 6) : iv_ald (gh g dyn, s) (.int (nI j) :: .ref 159 :: st) iv_isI q = q (.int (g 159 0 j)) st := gh_ald (a := 159) (t := 100) (n := 6) (l := []) (ty := .int) (b := 159) (r := 0) rfl (by decide) rfl rfl rfl hj (by decide)
theorem ll_159 {q : Int32 → List Value → iv_R} : iv_len (gh g dyn, s) (.ref 159 :: st) q = q (nI 6) st := q_len (a := 159) (t := 100) (n := 6) (l := []) (ty := .int) rfl (by decide) rfl
theorem sa_159 {j : Nat} {x : Int32} {q : List Value → iv_S → iv_R} (hj : j < 6) : iv_ast (gh g dyn, s) (.int x :: .int (nI j) :: .ref 159 :: st) iv_isI q = q st (gh (gu g 159 0 j x) dyn, s) := gh_ast (a := 159) (t := 100) (n := 6) (l := []) (ty := .int) (b := 159) (r := 0) rfl (by decide) rfl rfl rfl rfl (by decide) hj (by decide)
theorem la_160 {j : Nat} {q : Value → List Value → iv_R} (hj : j < 14) : iv_ald (gh g dyn, s) (.int (nI j) :: .ref 160 :: st) iv_isI q = q (.int (g 160 0 j)) st := gh_ald (a := 160) (t := 100) (n := 14) (l := []) (ty := .int) (b := 160) (r := 0) rfl (by decide) rfl rfl rfl hj (by decide)
theorem ll_160 {q : Int32 → List Value → iv_R} : iv_len (gh g dyn, s) (.ref 160 :: st) q = q (nI 14) st := q_len (a := 160) (t := 100) (n := 14) (l := []) (ty := .int) rfl (by decide) rfl
theorem sa_160 {j : Nat} {x : Int32} {q : List Value → iv_S → iv_R} (hj : j < 14) : iv_ast (gh g dyn, s) (.int x :: .int (nI j) :: .ref 160 :: st) iv_isI q = q st (gh (gu g 160 0 j x) dyn, s) := gh_ast (a := 160) (t := 100) (n := 14) (l := []) (ty := .int) (b := 160) (r := 0) rfl (by decide) rfl rfl rfl rfl (by decide) hj (by decide)
theorem la_161 {j : Nat} {q : Value → List Value → iv_R} (hj : j < 14) : iv_ald (gh g dyn, s) (.int (nI j) :: .ref 161 :: st) iv_isI q = q (.int (g 161 0 j)) st := gh_ald (a := 161) (t := 100) (n := 14) (l := []) (ty := .int) (b := 161) (r := 0) rfl (by decide) rfl rfl rfl hj (by decide)
theorem ll_161 {q : Int32 → List Value → iv_R} : iv_len (gh g dyn, s) (.ref 161 :: st) q = q (nI 14) st := q_len (a := 161) (t := 100) (n := 14) (l := []) (ty := .int) rfl (by decide) rfl
theorem sa_161 {j : Nat} {x : Int32} {q : List Value → iv_S → iv_R} (hj : j < 14) : iv_ast (gh g dyn, s) (.int x :: .int (nI j) :: .ref 161 :: st) iv_isI q = q st (gh (gu g 161 0 j x) dyn, s) := gh_ast (a := 161) (t := 100) (n := 14) (l := []) (ty := .int) (b := 161) (r := 0) rfl (by decide) rfl rfl rfl rfl (by decide) hj (by decide)
theorem la_162 {j : Nat} {q : Value → List Value → iv_R} (hj : j < 14) : iv_ald (gh g dyn, s) (.int (nI j) :: .ref 162 :: st) iv_isZ q = q (.int (g 162 0 j)) st := gh_ald (a := 162) (t := 101) (n := 14) (l := []) (ty := .boolean) (b := 162) (r := 0) rfl (by decide) rfl rfl rfl hj (by decide)
theorem ll_162 {q : Int32 → List Value → iv_R} : iv_len (gh g dyn, s) (.ref 162 :: st) q = q (nI 14) st := q_len (a := 162) (t := 101) (n := 14) (l := []) (ty := .boolean) rfl (by decide) rfl
theorem sa_162 {j : Nat} {b : Bool} {q : List Value → iv_S → iv_R} (hj : j < 14) : iv_ast (gh g dyn, s) (.int (bI b) :: .int (nI j) :: .ref 162 :: st) iv_isZ q = q st (gh (gu g 162 0 j (bI b)) dyn, s) := gh_ast (a := 162) (t := 101) (n := 14) (l := []) (ty := .boolean) (b := 162) (r := 0) rfl (by decide) rfl rfl bI_nar rfl (by decide) hj (by decide)
theorem sa_162_0 {j : Nat} {q : List Value → iv_S → iv_R} (hj : j < 14) : iv_ast (gh g dyn, s) (.int (nI 0) :: .int (nI j) :: .ref 162 :: st) iv_isZ q = q st (gh (gu g 162 0 j (bI false)) dyn, s) := gh_ast (a := 162) (t := 101) (n := 14) (l := []) (ty := .boolean) (b := 162) (r := 0) rfl (by decide) rfl rfl rfl rfl (by decide) hj (by decide)
theorem sa_162_1 {j : Nat} {q : List Value → iv_S → iv_R} (hj : j < 14) : iv_ast (gh g dyn, s) (.int (nI 1) :: .int (nI j) :: .ref 162 :: st) iv_isZ q = q st (gh (gu g 162 0 j (bI true)) dyn, s) := gh_ast (a := 162) (t := 101) (n := 14) (l := []) (ty := .boolean) (b := 162) (r := 0) rfl (by decide) rfl rfl rfl rfl (by decide) hj (by decide)
theorem la_163 {j : Nat} {q : Value → List Value → iv_R} (hj : j < 84) : iv_ald (gh g dyn, s) (.int (nI j) :: .ref 163 :: st) iv_isI q = q (.int (g 163 0 j)) st := gh_ald (a := 163) (t := 100) (n := 84) (l := []) (ty := .int) (b := 163) (r := 0) rfl (by decide) rfl rfl rfl hj (by decide)
theorem ll_163 {q : Int32 → List Value → iv_R} : iv_len (gh g dyn, s) (.ref 163 :: st) q = q (nI 84) st := q_len (a := 163) (t := 100) (n := 84) (l := []) (ty := .int) rfl (by decide) rfl
theorem sa_163 {j : Nat} {x : Int32} {q : List Value → iv_S → iv_R} (hj : j < 84) : iv_ast (gh g dyn, s) (.int x :: .int (nI j) :: .ref 163 :: st) iv_isI q = q st (gh (gu g 163 0 j x) dyn, s) := gh_ast (a := 163) (t := 100) (n := 84) (l := []) (ty := .int) (b := 163) (r := 0) rfl (by decide) rfl rfl rfl rfl (by decide) hj (by decide)
theorem la_164 {j : Nat} {q : Value → List Value → iv_R} (hj : j < 24) : iv_ald (gh g dyn, s) (.int (nI j) :: .ref 164 :: st) iv_isI q = q (.int (g 164 0 j)) st := gh_ald (a := 164) (t := 100) (n := 24) (l := []) (ty := .int) (b := 164) (r := 0) rfl (by decide) rfl rfl rfl hj (by decide)
theorem ll_164 {q : Int32 → List Value → iv_R} : iv_len (gh g dyn, s) (.ref 164 :: st) q = q (nI 24) st := q_len (a := 164) (t := 100) (n := 24) (l := []) (ty := .int) rfl (by decide) rfl
theorem sa_164 {j : Nat} {x : Int32} {q : List Value → iv_S → iv_R} (hj : j < 24) : iv_ast (gh g dyn, s) (.int x :: .int (nI j) :: .ref 164 :: st) iv_isI q = q st (gh (gu g 164 0 j x) dyn, s) := gh_ast (a := 164) (t := 100) (n := 24) (l := []) (ty := .int) (b := 164) (r := 0) rfl (by decide) rfl rfl rfl rfl (by decide) hj (by decide)
theorem la_165 {j : Nat} {q : Value → List Value → iv_R} (hj : j < 24) : iv_ald (gh g dyn, s) (.int (nI j) :: .ref 165 :: st) iv_isZ q = q (.int (g 165 0 j)) st := gh_ald (a := 165) (t := 101) (n := 24) (l := []) (ty := .boolean) (b := 165) (r := 0) rfl (by decide) rfl rfl rfl hj (by decide)
theorem ll_165 {q : Int32 → List Value → iv_R} : iv_len (gh g dyn, s) (.ref 165 :: st) q = q (nI 24) st := q_len (a := 165) (t := 101) (n := 24) (l := []) (ty := .boolean) rfl (by decide) rfl
theorem sa_165 {j : Nat} {b : Bool} {q : List Value → iv_S → iv_R} (hj : j < 24) : iv_ast (gh g dyn, s) (.int (bI b) :: .int (nI j) :: .ref 165 :: st) iv_isZ q = q st (gh (gu g 165 0 j (bI b)) dyn, s) := gh_ast (a := 165) (t := 101) (n := 24) (l := []) (ty := .boolean) (b := 165) (r := 0) rfl (by decide) rfl rfl bI_nar rfl (by decide) hj (by decide)
theorem sa_165_0 {j : Nat} {q : List Value → iv_S → iv_R} (hj : j < 24) : iv_ast (gh g dyn, s) (.int (nI 0) :: .int (nI j) :: .ref 165 :: st) iv_isZ q = q st (gh (gu g 165 0 j (bI false)) dyn, s) := gh_ast (a := 165) (t := 101) (n := 24) (l := []) (ty := .boolean) (b := 165) (r := 0) rfl (by decide) rfl rfl rfl rfl (by decide) hj (by decide)
theorem sa_165_1 {j : Nat} {q : List Value → iv_S → iv_R} (hj : j < 24) : iv_ast (gh g dyn, s) (.int (nI 1) :: .int (nI j) :: .ref 165 :: st) iv_isZ q = q st (gh (gu g 165 0 j (bI true)) dyn, s) := gh_ast (a := 165) (t := 101) (n := 24) (l := []) (ty := .boolean) (b := 165) (r := 0) rfl (by decide) rfl rfl rfl rfl (by decide) hj (by decide)
theorem la_166 {j : Nat} {q : Value → List Value → iv_R} (hj : j < 24) : iv_ald (gh g dyn, s) (.int (nI j) :: .ref 166 :: st) iv_isI q = q (.int (g 166 0 j)) st := gh_ald (a := 166) (t := 100) (n := 24) (l := []) (ty := .int) (b := 166) (r := 0) rfl (by decide) rfl rfl rfl hj (by decide)
theorem ll_166 {q : Int32 → List Value → iv_R} : iv_len (gh g dyn, s) (.ref 166 :: st) q = q (nI 24) st := q_len (a := 166) (t := 100) (n := 24) (l := []) (ty := .int) rfl (by decide) rfl
theorem sa_166 {j : Nat} {x : Int32} {q : List Value → iv_S → iv_R} (hj : j < 24) : iv_ast (gh g dyn, s) (.int x :: .int (nI j) :: .ref 166 :: st) iv_isI q = q st (gh (gu g 166 0 j x) dyn, s) := gh_ast (a := 166) (t := 100) (n := 24) (l := []) (ty := .int) (b := 166) (r := 0) rfl (by decide) rfl rfl rfl rfl (by decide) hj (by decide)
theorem la_167 {j : Nat} {q : Value → List Value → iv_R} (hj : j < 24) : iv_ald (gh g dyn, s) (.int (nI j) :: .ref 167 :: st) iv_isI q = q (.int (g 167 0 j)) st := gh_ald (a := 167) (t := 100) (n := 24) (l := []) (ty := .int) (b := 167) (r := 0) rfl (by decide) rfl rfl rfl hj (by decide)
theorem ll_167 {q : Int32 → List Value → iv_R} : iv_len (gh g dyn, s) (.ref 167 :: st) q = q (nI 24) st := q_len (a := 167) (t := 100) (n := 24) (l := []) (ty := .int) rfl (by decide) rfl
theorem sa_167 {j : Nat} {x : Int32} {q : List Value → iv_S → iv_R} (hj : j < 24) : iv_ast (gh g dyn, s) (.int x :: .int (nI j) :: .ref 167 :: st) iv_isI q = q st (gh (gu g 167 0 j x) dyn, s) := gh_ast (a := 167) (t := 100) (n := 24) (l := []) (ty := .int) (b := 167) (r := 0) rfl (by decide) rfl rfl rfl rfl (by decide) hj (by decide)
theorem la_168 {j : Nat} {q : Value → List Value → iv_R} (hj : j < 24) : iv_ald (gh g dyn, s) (.int (nI j) :: .ref 168 :: st) iv_isI q = q (.int (g 168 0 j)) st := gh_ald (a := 168) (t := 100) (n := 24) (l := []) (ty := .int) (b := 168) (r := 0) rfl (by decide) rfl rfl rfl hj (by decide)
theorem ll_168 {q : Int32 → List Value → iv_R} : iv_len (gh g dyn, s) (.ref 168 :: st) q = q (nI 24) st := q_len (a := 168) (t := 100) (n := 24) (l := []) (ty := .int) rfl (by decide) rfl
theorem sa_168 {j : Nat} {x : Int32} {q : List Value → iv_S → iv_R} (hj : j < 24) : iv_ast (gh g dyn, s) (.int x :: .int (nI j) :: .ref 168 :: st) iv_isI q = q st (gh (gu g 168 0 j x) dyn, s) := gh_ast (a := 168) (t := 100) (n := 24) (l := []) (ty := .int) (b := 168) (r := 0) rfl (by decide) rfl rfl rfl rfl (by decide) hj (by decide)
theorem la_169 {j : Nat} {q : Value → List Value → iv_R} (hj : j < 24) : iv_ald (gh g dyn, s) (.int (nI j) :: .ref 169 :: st) iv_isI q = q (.int (g 169 0 j)) st := gh_ald (a := 169) (t := 100) (n := 24) (l := []) (ty := .int) (b := 169) (r := 0) rfl (by decide) rfl rfl rfl hj (by decide)
theorem ll_169 {q : Int32 → List Value → iv_R} : iv_len (gh g dyn, s) (.ref 169 :: st) q = q (nI 24) st := q_len (a := 169) (t := 100) (n := 24) (l := []) (ty := .int) rfl (by decide) rfl
theorem sa_169 {j : Nat} {x : Int32} {q : List Value → iv_S → iv_R} (hj : j < 24) : iv_ast (gh g dyn, s) (.int x :: .int (nI j) :: .ref 169 :: st) iv_isI q = q st (gh (gu g 169 0 j x) dyn, s) := gh_ast (a := 169) (t := 100) (n := 24) (l := []) (ty := .int) (b := 169) (r := 0) rfl (by decide) rfl rfl rfl rfl (by decide) hj (by decide)
theorem la_170 {j : Nat} {q : Value → List Value → iv_R} (hj : j < 3) : iv_ald (gh g dyn, s) (.int (nI j) :: .ref 170 :: st) iv_isI q = q (.int (g 170 0 j)) st := gh_ald (a := 170) (t := 100) (n := 3) (l := []) (ty := .int) (b := 170) (r := 0) rfl (by decide) rfl rfl rfl hj (by decide)
theorem ll_170 {q : Int32 → List Value → iv_R} : iv_len (gh g dyn, s) (.ref 170 :: st) q = q (nI 3) st := q_len (a := 170) (t := 100) (n := 3) (l := []) (ty := .int) rfl (by decide) rfl
theorem sa_170 {j : Nat} {x : Int32} {q : List Value → iv_S → iv_R} (hj : j < 3) : iv_ast (gh g dyn, s) (.int x :: .int (nI j) :: .ref 170 :: st) iv_isI q = q st (gh (gu g 170 0 j x) dyn, s) := gh_ast (a := 170) (t := 100) (n := 3) (l := []) (ty := .int) (b := 170) (r := 0) rfl (by decide) rfl rfl rfl rfl (by decide) hj (by decide)
theorem la_171 {j : Nat} {q : Value → List Value → iv_R} (hj : j < 9) : iv_ald (gh g dyn, s) (.int (nI j) :: .ref 171 :: st) iv_isI q = q (.int (g 171 0 j)) st := gh_ald (a := 171) (t := 100) (n := 9) (l := []) (ty := .int) (b := 171) (r := 0) rfl (by decide) rfl rfl rfl hj (by decide)
theorem ll_171 {q : Int32 → List Value → iv_R} : iv_len (gh g dyn, s) (.ref 171 :: st) q = q (nI 9) st := q_len (a := 171) (t := 100) (n := 9) (l := []) (ty := .int) rfl (by decide) rfl
theorem sa_171 {j : Nat} {x : Int32} {q : List Value → iv_S → iv_R} (hj : j < 9) : iv_ast (gh g dyn, s) (.int x :: .int (nI j) :: .ref 171 :: st) iv_isI q = q st (gh (gu g 171 0 j x) dyn, s) := gh_ast (a := 171) (t := 100) (n := 9) (l := []) (ty := .int) (b := 171) (r := 0) rfl (by decide) rfl rfl rfl rfl (by decide) hj (by decide)
theorem la_172 {j : Nat} {q : Value → List Value → iv_R} (hj : j < 9) : iv_ald (gh g dyn, s) (.int (nI j) :: .ref 172 :: st) iv_isI q = q (.int (g 172 0 j)) st := gh_ald (a := 172) (t := 100) (n := 9) (l := []) (ty := .int) (b := 172) (r := 0) rfl (by decide) rfl rfl rfl hj (by decide)
theorem ll_172 {q : Int32 → List Value → iv_R} : iv_len (gh g dyn, s) (.ref 172 :: st) q = q (nI 9) st := q_len (a := 172) (t := 100) (n := 9) (l := []) (ty := .int) rfl (by decide) rfl
theorem sa_172 {j : Nat} {x : Int32} {q : List Value → iv_S → iv_R} (hj : j < 9) : iv_ast (gh g dyn, s) (.int x :: .int (nI j) :: .ref 172 :: st) iv_isI q = q st (gh (gu g 172 0 j x) dyn, s) := gh_ast (a := 172) (t := 100) (n := 9) (l := []) (ty := .int) (b := 172) (r := 0) rfl (by decide) rfl rfl rfl rfl (by decide) hj (by decide)
theorem la_173 {j : Nat} {q : Value → List Value → iv_R} (hj : j < 9) : iv_ald (gh g dyn, s) (.int (nI j) :: .ref 173 :: st) iv_isI q = q (.int (g 173 0 j)) st := gh_ald (a := 173) (t := 100) (n := 9) (l := []) (ty := .int) (b := 173) (r := 0) rfl (by decide) rfl rfl rfl hj (by decide)
theorem ll_173 {q : Int32 → List Value → iv_R} : iv_len (gh g dyn, s) (.ref 173 :: st) q = q (nI 9) st := q_len (a := 173) (t := 100) (n := 9) (l := []) (ty := .int) rfl (by decide) rfl
theorem sa_173 {j : Nat} {x : Int32} {q : List Value → iv_S → iv_R} (hj : j < 9) : iv_ast (gh g dyn, s) (.int x :: .int (nI j) :: .ref 173 :: st) iv_isI q = q st (gh (gu g 173 0 j x) dyn, s) := gh_ast (a := 173) (t := 100) (n := 9) (l := []) (ty := .int) (b := 173) (r := 0) rfl (by decide) rfl rfl rfl rfl (by decide) hj (by decide)
theorem la_174 {j : Nat} {q : Value → List Value → iv_R} (hj : j < 3) : iv_ald (gh g dyn, s) (.int (nI j) :: .ref 174 :: st) iv_isZ q = q (.int (g 174 0 j)) st := gh_ald (a := 174) (t := 101) (n := 3) (l := []) (ty := .boolean) (b := 174) (r := 0) rfl (by decide) rfl rfl rfl hj (by decide)
theorem ll_174 {q : Int32 → List Value → iv_R} : iv_len (gh g dyn, s) (.ref 174 :: st) q = q (nI 3) st := q_len (a := 174) (t := 101) (n := 3) (l := []) (ty := .boolean) rfl (by decide) rfl
theorem sa_174 {j : Nat} {b : Bool} {q : List Value → iv_S → iv_R} (hj : j < 3) : iv_ast (gh g dyn, s) (.int (bI b) :: .int (nI j) :: .ref 174 :: st) iv_isZ q = q st (gh (gu g 174 0 j (bI b)) dyn, s) := gh_ast (a := 174) (t := 101) (n := 3) (l := []) (ty := .boolean) (b := 174) (r := 0) rfl (by decide) rfl rfl bI_nar rfl (by decide) hj (by decide)
theorem sa_174_0 {j : Nat} {q : List Value → iv_S → iv_R} (hj : j < 3) : iv_ast (gh g dyn, s) (.int (nI 0) :: .int (nI j) :: .ref 174 :: st) iv_isZ q = q st (gh (gu g 174 0 j (bI false)) dyn, s) := gh_ast (a := 174) (t := 101) (n := 3) (l := []) (ty := .boolean) (b := 174) (r := 0) rfl (by decide) rfl rfl rfl rfl (by decide) hj (by decide)
theorem sa_174_1 {j : Nat} {q : List Value → iv_S → iv_R} (hj : j < 3) : iv_ast (gh g dyn, s) (.int (nI 1) :: .int (nI j) :: .ref 174 :: st) iv_isZ q = q st (gh (gu g 174 0 j (bI true)) dyn, s) := gh_ast (a := 174) (t := 101) (n := 3) (l := []) (ty := .boolean) (b := 174) (r := 0) rfl (by decide) rfl rfl rfl rfl (by decide) hj (by decide)
theorem la_175 {j : Nat} {q : Value → List Value → iv_R} (hj : j < 6) : iv_ald (gh g dyn, s) (.int (nI j) :: .ref 175 :: st) iv_isI q = q (.int (g 175 0 j)) st := gh_ald (a := 175) (t := 100) (n := 6) (l := []) (ty := .int) (b := 175) (r := 0) rfl (by decide) rfl rfl rfl hj (by decide)
theorem ll_175 {q : Int32 → List Value → iv_R} : iv_len (gh g dyn, s) (.ref 175 :: st) q = q (nI 6) st := q_len (a := 175) (t := 100) (n := 6) (l := []) (ty := .int) rfl (by decide) rfl
theorem sa_175 {j : Nat} {x : Int32} {q : List Value → iv_S → iv_R} (hj : j < 6) : iv_ast (gh g dyn, s) (.int x :: .int (nI j) :: .ref 175 :: st) iv_isI q = q st (gh (gu g 175 0 j x) dyn, s) := gh_ast (a := 175) (t := 100) (n := 6) (l := []) (ty := .int) (b := 175) (r := 0) rfl (by decide) rfl rfl rfl rfl (by decide) hj (by decide)
theorem la_176 {j : Nat} {q : Value → List Value → iv_R} (hj : j < 2) : iv_ald (gh g dyn, s) (.int (nI j) :: .ref 176 :: st) iv_isI q = q (.int (g 176 0 j)) st := gh_ald (a := 176) (t := 100) (n := 2) (l := []) (ty := .int) (b := 176) (r := 0) rfl (by decide) rfl rfl rfl hj (by decide)
theorem ll_176 {q : Int32 → List Value → iv_R} : iv_len (gh g dyn, s) (.ref 176 :: st) q = q (nI 2) st := q_len (a := 176) (t := 100) (n := 2) (l := []) (ty := .int) rfl (by decide) rfl
theorem sa_176 {j : Nat} {x : Int32} {q : List Value → iv_S → iv_R} (hj : j < 2) : iv_ast (gh g dyn, s) (.int x :: .int (nI j) :: .ref 176 :: st) iv_isI q = q st (gh (gu g 176 0 j x) dyn, s) := gh_ast (a := 176) (t := 100) (n := 2) (l := []) (ty := .int) (b := 176) (r := 0) rfl (by decide) rfl rfl rfl rfl (by decide) hj (by decide)
theorem la_177 {j : Nat} {q : Value → List Value → iv_R} (hj : j < 8) : iv_ald (gh g dyn, s) (.int (nI j) :: .ref 177 :: st) iv_isI q = q (.int (g 177 0 j)) st := gh_ald (a := 177) (t := 100) (n := 8) (l := []) (ty := .int) (b := 177) (r := 0) rfl (by decide) rfl rfl rfl hj (by decide)
theorem ll_177 {q : Int32 → List Value → iv_R} : iv_len (gh g dyn, s) (.ref 177 :: st) q = q (nI 8) st := q_len (a := 177) (t := 100) (n := 8) (l := []) (ty := .int) rfl (by decide) rfl
theorem sa_177 {j : Nat} {x : Int32} {q : List Value → iv_S → iv_R} (hj : j < 8) : iv_ast (gh g dyn, s) (.int x :: .int (nI j) :: .ref 177 :: st) iv_isI q = q st (gh (gu g 177 0 j x) dyn, s) := gh_ast (a := 177) (t := 100) (n := 8) (l := []) (ty := .int) (b := 177) (r := 0) rfl (by decide) rfl rfl rfl rfl (by decide) hj (by decide)
theorem la_178 {j : Nat} {q : Value → List Value → iv_R} (hj : j < 6) : iv_ald (gh g dyn, s) (.int (nI j) :: .ref 178 :: st) iv_isI q = q (.int (g 178 0 j)) st := gh_ald (a := 178) (t := 100) (n := 6) (l := []) (ty := .int) (b := 178) (r := 0) rfl (by decide) rfl rfl rfl hj (by decide)
theorem ll_178 {q : Int32 → List Value → iv_R} : iv_len (gh g dyn, s) (.ref 178 :: st) q = q (nI 6) st := q_len (a := 178) (t := 100) (n := 6) (l := []) (ty := .int) rfl (by decide) rfl
theorem sa_178 {j : Nat} {x : Int32} {q : List Value → iv_S → iv_R} (hj : j < 6) : iv_ast (gh g dyn, s) (.int x :: .int (nI j) :: .ref 178 :: st) iv_isI q = q st (gh (gu g 178 0 j x) dyn, s) := gh_ast (a := 178) (t := 100) (n := 6) (l := []) (ty := .int) (b := 178) (r := 0) rfl (by decide) rfl rfl rfl rfl (by decide) hj (by decide)
theorem la_179 {j : Nat} {q : Value → List Value → iv_R} (hj : j < 24) : iv_ald (gh g dyn, s) (.int (nI j) :: .ref 179 :: st) iv_isI q = q (.int (g 179 0 j)) st := gh_ald (a := 179) (t := 100) (n := 24) (l := []) (ty := .int) (b := 179) (r := 0) rfl (by decide) rfl rfl rfl hj (by decide)
theorem ll_179 {q : Int32 → List Value → iv_R} : iv_len (gh g dyn, s) (.ref 179 :: st) q = q (nI 24) st := q_len (a := 179) (t := 100) (n := 24) (l := []) (ty := .int) rfl (by decide) rfl
theorem sa_179 {j : Nat} {x : Int32} {q : List Value → iv_S → iv_R} (hj : j < 24) : iv_ast (gh g dyn, s) (.int x :: .int (nI j) :: .ref 179 :: st) iv_isI q = q st (gh (gu g 179 0 j x) dyn, s) := gh_ast (a := 179) (t := 100) (n := 24) (l := []) (ty := .int) (b := 179) (r := 0) rfl (by decide) rfl rfl rfl rfl (by decide) hj (by decide)
theorem la_180 {j : Nat} {q : Value → List Value → iv_R} (hj : j < 10) : iv_ald (gh g dyn, s) (.int (nI j) :: .ref 180 :: st) iv_isI q = q (.int (g 180 0 j)) st := gh_ald (a := 180) (t := 100) (n := 10) (l := []) (ty := .int) (b := 180) (r := 0) rfl (by decide) rfl rfl rfl hj (by decide)
theorem ll_180 {q : Int32 → List Value → iv_R} : iv_len (gh g dyn, s) (.ref 180 :: st) q = q (nI 10) st := q_len (a := 180) (t := 100) (n := 10) (l := []) (ty := .int) rfl (by decide) rfl
theorem sa_180 {j : Nat} {x : Int32} {q : List Value → iv_S → iv_R} (hj : j < 10) : iv_ast (gh g dyn, s) (.int x :: .int (nI j) :: .ref 180 :: st) iv_isI q = q st (gh (gu g 180 0 j x) dyn, s) := gh_ast (a := 180) (t := 100) (n := 10) (l := []) (ty := .int) (b := 180) (r := 0) rfl (by decide) rfl rfl rfl rfl (by decide) hj (by decide)
theorem la_181 {j : Nat} {q : Value → List Value → iv_R} (hj : j < 140) : iv_ald (gh g dyn, s) (.int (nI j) :: .ref 181 :: st) iv_isI q = q (.int (g 181 0 j)) st := gh_ald (a := 181) (t := 100) (n := 140) (l := []) (ty := .int) (b := 181) (r := 0) rfl (by decide) rfl rfl rfl hj (by decide)
theorem ll_181 {q : Int32 → List Value → iv_R} : iv_len (gh g dyn, s) (.ref 181 :: st) q = q (nI 140) st := q_len (a := 181) (t := 100) (n := 140) (l := []) (ty := .int) rfl (by decide) rfl
theorem sa_181 {j : Nat} {x : Int32} {q : List Value → iv_S → iv_R} (hj : j < 140) : iv_ast (gh g dyn, s) (.int x :: .int (nI j) :: .ref 181 :: st) iv_isI q = q st (gh (gu g 181 0 j x) dyn, s) := gh_ast (a := 181) (t := 100) (n := 140) (l := []) (ty := .int) (b := 181) (r := 0) rfl (by decide) rfl rfl rfl rfl (by decide) hj (by decide)
theorem la_182 {j : Nat} {q : Value → List Value → iv_R} (hj : j < 420) : iv_ald (gh g dyn, s) (.int (nI j) :: .ref 182 :: st) iv_isI q = q (.int (g 182 0 j)) st := gh_ald (a := 182) (t := 100) (n := 420) (l := []) (ty := .int) (b := 182) (r := 0) rfl (by decide) rfl rfl rfl hj (by decide)
theorem ll_182 {q : Int32 → List Value → iv_R} : iv_len (gh g dyn, s) (.ref 182 :: st) q = q (nI 420) st := q_len (a := 182) (t := 100) (n := 420) (l := []) (ty := .int) rfl (by decide) rfl
theorem sa_182 {j : Nat} {x : Int32} {q : List Value → iv_S → iv_R} (hj : j < 420) : iv_ast (gh g dyn, s) (.int x :: .int (nI j) :: .ref 182 :: st) iv_isI q = q st (gh (gu g 182 0 j x) dyn, s) := gh_ast (a := 182) (t := 100) (n := 420) (l := []) (ty := .int) (b := 182) (r := 0) rfl (by decide) rfl rfl rfl rfl (by decide) hj (by decide)
theorem la_183 {j : Nat} {q : Value → List Value → iv_R} (hj : j < 16) : iv_ald (gh g dyn, s) (.int (nI j) :: .ref 183 :: st) iv_isI q = q (.int (g 183 0 j)) st := gh_ald (a := 183) (t := 100) (n := 16) (l := []) (ty := .int) (b := 183) (r := 0) rfl (by decide) rfl rfl rfl hj (by decide)
theorem ll_183 {q : Int32 → List Value → iv_R} : iv_len (gh g dyn, s) (.ref 183 :: st) q = q (nI 16) st := q_len (a := 183) (t := 100) (n := 16) (l := []) (ty := .int) rfl (by decide) rfl
theorem sa_183 {j : Nat} {x : Int32} {q : List Value → iv_S → iv_R} (hj : j < 16) : iv_ast (gh g dyn, s) (.int x :: .int (nI j) :: .ref 183 :: st) iv_isI q = q st (gh (gu g 183 0 j x) dyn, s) := gh_ast (a := 183) (t := 100) (n := 16) (l := []) (ty := .int) (b := 183) (r := 0) rfl (by decide) rfl rfl rfl rfl (by decide) hj (by decide)
theorem la_184 {j : Nat} {q : Value → List Value → iv_R} (hj : j < 16) : iv_ald (gh g dyn, s) (.int (nI j) :: .ref 184 :: st) iv_isI q = q (.int (g 184 0 j)) st := gh_ald (a := 184) (t := 100) (n := 16) (l := []) (ty := .int) (b := 184) (r := 0) rfl (by decide) rfl rfl rfl hj (by decide)
theorem ll_184 {q : Int32 → List Value → iv_R} : iv_len (gh g dyn, s) (.ref 184 :: st) q = q (nI 16) st := q_len (a := 184) (t := 100) (n := 16) (l := []) (ty := .int) rfl (by decide) rfl
theorem sa_184 {j : Nat} {x : Int32} {q : List Value → iv_S → iv_R} (hj : j < 16) : iv_ast (gh g dyn, s) (.int x :: .int (nI j) :: .ref 184 :: st) iv_isI q = q st (gh (gu g 184 0 j x) dyn, s) := gh_ast (a := 184) (t := 100) (n := 16) (l := []) (ty := .int) (b := 184) (r := 0) rfl (by decide) rfl rfl rfl rfl (by decide) hj (by decide)
theorem la_185 {j : Nat} {q : Value → List Value → iv_R} (hj : j < 16) : iv_ald (gh g dyn, s) (.int (nI j) :: .ref 185 :: st) iv_isI q = q (.int (g 185 0 j)) st := gh_ald (a := 185) (t := 100) (n := 16) (l := []) (ty := .int) (b := 185) (r := 0) rfl (by decide) rfl rfl rfl hj (by decide)
theorem ll_185 {q : Int32 → List Value → iv_R} : iv_len (gh g dyn, s) (.ref 185 :: st) q = q (nI 16) st := q_len (a := 185) (t := 100) (n := 16) (l := []) (ty := .int) rfl (by decide) rfl
theorem sa_185 {j : Nat} {x : Int32} {q : List Value → iv_S → iv_R} (hj : j < 16) : iv_ast (gh g dyn, s) (.int x :: .int (nI j) :: .ref 185 :: st) iv_isI q = q st (gh (gu g 185 0 j x) dyn, s) := gh_ast (a := 185) (t := 100) (n := 16) (l := []) (ty := .int) (b := 185) (r := 0) rfl (by decide) rfl rfl rfl rfl (by decide) hj (by decide)
theorem la_186 {j : Nat} {q : Value → List Value → iv_R} (hj : j < 16) : iv_ald (gh g dyn, s) (.int (nI j) :: .ref 186 :: st) iv_isI q = q (.int (g 186 0 j)) st := gh_ald (a := 186) (t := 100) (n := 16) (l := []) (ty := .int) (b := 186) (r := 0) rfl (by decide) rfl rfl rfl hj (by decide)
theorem ll_186 {q : Int32 → List Value → iv_R} : iv_len (gh g dyn, s) (.ref 186 :: st) q = q (nI 16) st := q_len (a := 186) (t := 100) (n := 16) (l := []) (ty := .int) rfl (by decide) rfl
theorem sa_186 {j : Nat} {x : Int32} {q : List Value → iv_S → iv_R} (hj : j < 16) : iv_ast (gh g dyn, s) (.int x :: .int (nI j) :: .ref 186 :: st) iv_isI q = q st (gh (gu g 186 0 j x) dyn, s) := gh_ast (a := 186) (t := 100) (n := 16) (l := []) (ty := .int) (b := 186) (r := 0) rfl (by decide) rfl rfl rfl rfl (by decide) hj (by decide)
theorem la_187 {j : Nat} {q : Value → List Value → iv_R} (hj : j < 16) : iv_ald (gh g dyn, s) (.int (nI j) :: .ref 187 :: st) iv_isZ q = q (.int (g 187 0 j)) st := gh_ald (a := 187) (t := 101) (n := 16) (l := []) (ty := .boolean) (b := 187) (r := 0) rfl (by decide) rfl rfl rfl hj (by decide)
theorem ll_187 {q : Int32 → List Value → iv_R} : iv_len (gh g dyn, s) (.ref 187 :: st) q = q (nI 16) st := q_len (a := 187) (t := 101) (n := 16) (l := []) (ty := .boolean) rfl (by decide) rfl
theorem sa_187 {j : Nat} {b : Bool} {q : List Value → iv_S → iv_R} (hj : j < 16) : iv_ast (gh g dyn, s) (.int (bI b) :: .int (nI j) :: .ref 187 :: st) iv_isZ q = q st (gh (gu g 187 0 j (bI b)) dyn, s) := gh_ast (a := 187) (t := 101) (n := 16) (l := []) (ty := .boolean) (b := 187) (r := 0) rfl (by decide) rfl rfl bI_nar rfl (by decide) hj (by decide)
theorem sa_187_0 {j : Nat} {q : List Value → iv_S → iv_R} (hj : j < 16) : iv_ast (gh g dyn, s) (.int (nI 0) :: .int (nI j) :: .ref 187 :: st) iv_isZ q = q st (gh (gu g 187 0 j (bI false)) dyn, s) := gh_ast (a := 187) (t := 101) (n := 16) (l := []) (ty := .boolean) (b := 187) (r := 0) rfl (by decide) rfl rfl rfl rfl (by decide) hj (by decide)
theorem sa_187_1 {j : Nat} {q : List Value → iv_S → iv_R} (hj : j < 16) : iv_ast (gh g dyn, s) (.int (nI 1) :: .int (nI j) :: .ref 187 :: st) iv_isZ q = q st (gh (gu g 187 0 j (bI true)) dyn, s) := gh_ast (a := 187) (t := 101) (n := 16) (l := []) (ty := .boolean) (b := 187) (r := 0) rfl (by decide) rfl rfl rfl rfl (by decide) hj (by decide)
theorem la_188 {j : Nat} {q : Value → List Value → iv_R} (hj : j < 16) : iv_ald (gh g dyn, s) (.int (nI j) :: .ref 188 :: st) iv_isI q = q (.int (g 188 0 j)) st := gh_ald (a := 188) (t := 100) (n := 16) (l := []) (ty := .int) (b := 188) (r := 0) rfl (by decide) rfl rfl rfl hj (by decide)
theorem ll_188 {q : Int32 → List Value → iv_R} : iv_len (gh g dyn, s) (.ref 188 :: st) q = q (nI 16) st := q_len (a := 188) (t := 100) (n := 16) (l := []) (ty := .int) rfl (by decide) rfl
theorem sa_188 {j : Nat} {x : Int32} {q : List Value → iv_S → iv_R} (hj : j < 16) : iv_ast (gh g dyn, s) (.int x :: .int (nI j) :: .ref 188 :: st) iv_isI q = q st (gh (gu g 188 0 j x) dyn, s) := gh_ast (a := 188) (t := 100) (n := 16) (l := []) (ty := .int) (b := 188) (r := 0) rfl (by decide) rfl rfl rfl rfl (by decide) hj (by decide)
theorem la_189 {j : Nat} {q : Value → List Value → iv_R} (hj : j < 16) : iv_ald (gh g dyn, s) (.int (nI j) :: .ref 189 :: st) iv_isI q = q (.int (g 189 0 j)) st := gh_ald (a := 189) (t := 100) (n := 16) (l := []) (ty := .int) (b := 189) (r := 0) rfl (by decide) rfl rfl rfl hj (by decide)
theorem ll_189 {q : Int32 → List Value → iv_R} : iv_len (gh g dyn, s) (.ref 189 :: st) q = q (nI 16) st := q_len (a := 189) (t := 100) (n := 16) (l := []) (ty := .int) rfl (by decide) rfl
theorem sa_189 {j : Nat} {x : Int32} {q : List Value → iv_S → iv_R} (hj : j < 16) : iv_ast (gh g dyn, s) (.int x :: .int (nI j) :: .ref 189 :: st) iv_isI q = q st (gh (gu g 189 0 j x) dyn, s) := gh_ast (a := 189) (t := 100) (n := 16) (l := []) (ty := .int) (b := 189) (r := 0) rfl (by decide) rfl rfl rfl rfl (by decide) hj (by decide)
theorem la_190 {j : Nat} {q : Value → List Value → iv_R} (hj : j < 16) : iv_ald (gh g dyn, s) (.int (nI j) :: .ref 190 :: st) iv_isI q = q (.int (g 190 0 j)) st := gh_ald (a := 190) (t := 100) (n := 16) (l := []) (ty := .int) (b := 190) (r := 0) rfl (by decide) rfl rfl rfl hj (by decide)
theorem ll_190 {q : Int32 → List Value → iv_R} : iv_len (gh g dyn, s) (.ref 190 :: st) q = q (nI 16) st := q_len (a := 190) (t := 100) (n := 16) (l := []) (ty := .int) rfl (by decide) rfl
theorem sa_190 {j : Nat} {x : Int32} {q : List Value → iv_S → iv_R} (hj : j < 16) : iv_ast (gh g dyn, s) (.int x :: .int (nI j) :: .ref 190 :: st) iv_isI q = q st (gh (gu g 190 0 j x) dyn, s) := gh_ast (a := 190) (t := 100) (n := 16) (l := []) (ty := .int) (b := 190) (r := 0) rfl (by decide) rfl rfl rfl rfl (by decide) hj (by decide)
theorem la_191 {j : Nat} {q : Value → List Value → iv_R} (hj : j < 17) : iv_ald (gh g dyn, s) (.int (nI j) :: .ref 191 :: st) iv_isI q = q (.int (g 191 0 j)) st := gh_ald (a := 191) (t := 100) (n := 17) (l := []) (ty := .int) (b := 191) (r := 0) rfl (by decide) rfl rfl rfl hj (by decide)
theorem ll_191 {q : Int32 → List Value → iv_R} : iv_len (gh g dyn, s) (.ref 191 :: st) q = q (nI 17) st := q_len (a := 191) (t := 100) (n := 17) (l := []) (ty := .int) rfl (by decide) rfl
theorem sa_191 {j : Nat} {x : Int32} {q : List Value → iv_S → iv_R} (hj : j < 17) : iv_ast (gh g dyn, s) (.int x :: .int (nI j) :: .ref 191 :: st) iv_isI q = q st (gh (gu g 191 0 j x) dyn, s) := gh_ast (a := 191) (t := 100) (n := 17) (l := []) (ty := .int) (b := 191) (r := 0) rfl (by decide) rfl rfl rfl rfl (by decide) hj (by decide)
theorem la_192 {j : Nat} {q : Value → List Value → iv_R} (hj : j < 17) : iv_ald (gh g dyn, s) (.int (nI j) :: .ref 192 :: st) iv_isI q = q (.int (g 192 0 j)) st := gh_ald (a := 192) (t := 100) (n := 17) (l := []) (ty := .int) (b := 192) (r := 0) rfl (by decide) rfl rfl rfl hj (by decide)
theorem ll_192 {q : Int32 → List Value → iv_R} : iv_len (gh g dyn, s) (.ref 192 :: st) q = q (nI 17) st := q_len (a := 192) (t := 100) (n := 17) (l := []) (ty := .int) rfl (by decide) rfl
theorem sa_192 {j : Nat} {x : Int32} {q : List Value → iv_S → iv_R} (hj : j < 17) : iv_ast (gh g dyn, s) (.int x :: .int (nI j) :: .ref 192 :: st) iv_isI q = q st (gh (gu g 192 0 j x) dyn, s) := gh_ast (a := 192) (t := 100) (n := 17) (l := []) (ty := .int) (b := 192) (r := 0) rfl (by decide) rfl rfl rfl rfl (by decide) hj (by decide)
theorem la_193 {j : Nat} {q : Value → List Value → iv_R} (hj : j < 16) : iv_ald (gh g dyn, s) (.int (nI j) :: .ref 193 :: st) iv_isI q = q (.int (g 193 0 j)) st := gh_ald (a := 193) (t := 100) (n := 16) (l := []) (ty := .int) (b := 193) (r := 0) rfl (by decide) rfl rfl rfl hj (by decide)
theorem ll_193 {q : Int32 → List Value → iv_R} : iv_len (gh g dyn, s) (.ref 193 :: st) q = q (nI 16) st := q_len (a := 193) (t := 100) (n := 16) (l := []) (ty := .int) rfl (by decide) rfl
theorem sa_193 {j : Nat} {x : Int32} {q : List Value → iv_S → iv_R} (hj : j < 16) : iv_ast (gh g dyn, s) (.int x :: .int (nI j) :: .ref 193 :: st) iv_isI q = q st (gh (gu g 193 0 j x) dyn, s) := gh_ast (a := 193) (t := 100) (n := 16) (l := []) (ty := .int) (b := 193) (r := 0) rfl (by decide) rfl rfl rfl rfl (by decide) hj (by decide)
theorem la_194 {j : Nat} {q : Value → List Value → iv_R} (hj : j < 144) : iv_ald (gh g dyn, s) (.int (nI j) :: .ref 194 :: st) iv_isI q = q (.int (g 194 0 j)) st := gh_ald (a := 194) (t := 100) (n := 144) (l := []) (ty := .int) (b := 194) (r := 0) rfl (by decide) rfl rfl rfl hj (by decide)
theorem ll_194 {q : Int32 → List Value → iv_R} : iv_len (gh g dyn, s) (.ref 194 :: st) q = q (nI 144) st := q_len (a := 194) (t := 100) (n := 144) (l := []) (ty := .int) rfl (by decide) rfl
theorem sa_194 {j : Nat} {x : Int32} {q : List Value → iv_S → iv_R} (hj : j < 144) : iv_ast (gh g dyn, s) (.int x :: .int (nI j) :: .ref 194 :: st) iv_isI q = q st (gh (gu g 194 0 j x) dyn, s) := gh_ast (a := 194) (t := 100) (n := 144) (l := []) (ty := .int) (b := 194) (r := 0) rfl (by decide) rfl rfl rfl rfl (by decide) hj (by decide)
theorem la_195 {j : Nat} {q : Value → List Value → iv_R} (hj : j < 24) : iv_ald (gh g dyn, s) (.int (nI j) :: .ref 195 :: st) iv_isI q = q (.int (g 195 0 j)) st := gh_ald (a := 195) (t := 100) (n := 24) (l := []) (ty := .int) (b := 195) (r := 0) rfl (by decide) rfl rfl rfl hj (by decide)
theorem ll_195 {q : Int32 → List Value → iv_R} : iv_len (gh g dyn, s) (.ref 195 :: st) q = q (nI 24) st := q_len (a := 195) (t := 100) (n := 24) (l := []) (ty := .int) rfl (by decide) rfl
theorem sa_195 {j : Nat} {x : Int32} {q : List Value → iv_S → iv_R} (hj : j < 24) : iv_ast (gh g dyn, s) (.int x :: .int (nI j) :: .ref 195 :: st) iv_isI q = q st (gh (gu g 195 0 j x) dyn, s) := gh_ast (a := 195) (t := 100) (n := 24) (l := []) (ty := .int) (b := 195) (r := 0) rfl (by decide) rfl rfl rfl rfl (by decide) hj (by decide)
theorem la_196 {j : Nat} {q : Value → List Value → iv_R} (hj : j < 384) : iv_ald (gh g dyn, s) (.int (nI j) :: .ref 196 :: st) iv_isI q = q (.int (g 196 0 j)) st := gh_ald (a := 196) (t := 100) (n := 384) (l := []) (ty := .int) (b := 196) (r := 0) rfl (by decide) rfl rfl rfl hj (by decide)
theorem ll_196 {q : Int32 → List Value → iv_R} : iv_len (gh g dyn, s) (.ref 196 :: st) q = q (nI 384) st := q_len (a := 196) (t := 100) (n := 384) (l := []) (ty := .int) rfl (by decide) rfl
theorem sa_196 {j : Nat} {x : Int32} {q : List Value → iv_S → iv_R} (hj : j < 384) : iv_ast (gh g dyn, s) (.int x :: .int (nI j) :: .ref 196 :: st) iv_isI q = q st (gh (gu g 196 0 j x) dyn, s) := gh_ast (a := 196) (t := 100) (n := 384) (l := []) (ty := .int) (b := 196) (r := 0) rfl (by decide) rfl rfl rfl rfl (by decide) hj (by decide)
theorem la_197 {j : Nat} {q : Value → List Value → iv_R} (hj : j < 384) : iv_ald (gh g dyn, s) (.int (nI j) :: .ref 197 :: st) iv_isI q = q (.int (g 197 0 j)) st := gh_ald (a := 197) (t := 100) (n := 384) (l := []) (ty := .int) (b := 197) (r := 0) rfl (by decide) rfl rfl rfl hj (by decide)
theorem ll_197 {q : Int32 → List Value → iv_R} : iv_len (gh g dyn, s) (.ref 197 :: st) q = q (nI 384) st := q_len (a := 197) (t := 100) (n := 384) (l := []) (ty := .int) rfl (by decide) rfl
theorem sa_197 {j : Nat} {x : Int32} {q : List Value → iv_S → iv_R} (hj : j < 384) : iv_ast (gh g dyn, s) (.int x :: .int (nI j) :: .ref 197 :: st) iv_isI q = q st (gh (gu g 197 0 j x) dyn, s) := gh_ast (a := 197) (t := 100) (n := 384) (l := []) (ty := .int) (b := 197) (r := 0) rfl (by decide) rfl rfl rfl rfl (by decide) hj (by decide)
theorem la_198 {j : Nat} {q : Value → List Value → iv_R} (hj : j < 128) : iv_ald (gh g dyn, s) (.int (nI j) :: .ref 198 :: st) iv_isI q = q (.int (g 198 0 j)) st := gh_ald (a := 198) (t := 100) (n := 128) (l := []) (ty := .int) (b := 198) (r := 0) rfl (by decide) rfl rfl rfl hj (by decide)
theorem ll_198 {q : Int32 → List Value → iv_R} : iv_len (gh g dyn, s) (.ref 198 :: st) q = q (nI 128) st := q_len (a := 198) (t := 100) (n := 128) (l := []) (ty := .int) rfl (by decide) rfl
theorem sa_198 {j : Nat} {x : Int32} {q : List Value → iv_S → iv_R} (hj : j < 128) : iv_ast (gh g dyn, s) (.int x :: .int (nI j) :: .ref 198 :: st) iv_isI q = q st (gh (gu g 198 0 j x) dyn, s) := gh_ast (a := 198) (t := 100) (n := 128) (l := []) (ty := .int) (b := 198) (r := 0) rfl (by decide) rfl rfl rfl rfl (by decide) hj (by decide)
theorem la_6 {i j : Nat} {q : Value → List Value → iv_R} (hi : i < 6) (hj : j < 4) : iv_ald (gh g dyn, s) (.int (nI j) :: .ref (6 + 2 * i) :: st) iv_isI q = q (.int (g 6 i j)) st := gh_ald (t := 100) (n := 4) (l := []) (ty := .int) (ly_or i hi) (by decide) rfl rfl (ga_o hi) hj (by decide)
theorem sa_6 {i j : Nat} {x : Int32} {q : List Value → iv_S → iv_R} (hi : i < 6) (hj : j < 4) : iv_ast (gh g dyn, s) (.int x :: .int (nI j) :: .ref (6 + 2 * i) :: st) iv_isI q = q st (gh (gu g 6 i j x) dyn, s) := gh_ast (t := 100) (n := 4) (l := []) (ty := .int) (ly_or i hi) (by decide) rfl rfl rfl (ga_o hi) (by decide) hj (by decide)
theorem ll_6 {i : Nat} {q : Int32 → List Value → iv_R} (hi : i < 6) : iv_len (gh g dyn, s) (.ref (6 + 2 * i) :: st) q = q (nI 4) st := q_len (t := 100) (n := 4) (l := []) (ty := .int) (ly_or i hi) (by decide) rfl
theorem la_21 {i j : Nat} {q : Value → List Value → iv_R} (hi : i < 14) (hj : j < 6) : iv_ald (gh g dyn, s) (.int (nI j) :: .ref (21 + i) :: st) iv_isI q = q (.int (g 21 i j)) st := gh_ald (t := 100) (n := 6) (l := []) (ty := .int) (ly_cv i hi) (by decide) rfl rfl (ga_cv hi) hj (by decide)
theorem sa_21 {i j : Nat} {x : Int32} {q : List Value → iv_S → iv_R} (hi : i < 14) (hj : j < 6) : iv_ast (gh g dyn, s) (.int x :: .int (nI j) :: .ref (21 + i) :: st) iv_isI q = q st (gh (gu g 21 i j x) dyn, s) := gh_ast (t := 100) (n := 6) (l := []) (ty := .int) (ly_cv i hi) (by decide) rfl rfl rfl (ga_cv hi) (by decide) hj (by decide)
theorem ll_21 {i : Nat} {q : Int32 → List Value → iv_R} (hi : i < 14) : iv_len (gh g dyn, s) (.ref (21 + i) :: st) q = q (nI 6) st := q_len (t := 100) (n := 6) (l := []) (ty := .int) (ly_cv i hi) (by decide) rfl
theorem la_48 {i j : Nat} {q : Value → List Value → iv_R} (hi : i < 2) (hj : j < 4) : iv_ald (gh g dyn, s) (.int (nI j) :: .ref (48 + 2 * i) :: st) iv_isI q = q (.int (g 48 i j)) st := gh_ald (t := 100) (n := 4) (l := []) (ty := .int) (ly_sq i hi) (by decide) rfl rfl (ga_sq hi) hj (by decide)
theorem sa_48 {i j : Nat} {x : Int32} {q : List Value → iv_S → iv_R} (hi : i < 2) (hj : j < 4) : iv_ast (gh g dyn, s) (.int x :: .int (nI j) :: .ref (48 + 2 * i) :: st) iv_isI q = q st (gh (gu g 48 i j x) dyn, s) := gh_ast (t := 100) (n := 4) (l := []) (ty := .int) (ly_sq i hi) (by decide) rfl rfl rfl (ga_sq hi) (by decide) hj (by decide)
theorem ll_48 {i : Nat} {q : Int32 → List Value → iv_R} (hi : i < 2) : iv_len (gh g dyn, s) (.ref (48 + 2 * i) :: st) q = q (nI 4) st := q_len (t := 100) (n := 4) (l := []) (ty := .int) (ly_sq i hi) (by decide) rfl
theorem la_56 {i j : Nat} {q : Value → List Value → iv_R} (hi : i < 10) (hj : j < 14) : iv_ald (gh g dyn, s) (.int (nI j) :: .ref (56 + i) :: st) iv_isI q = q (.int (g 56 i j)) st := gh_ald (t := 100) (n := 14) (l := []) (ty := .int) (ly_vl i hi) (by decide) rfl rfl (ga_vl hi) hj (by decide)
theorem sa_56 {i j : Nat} {x : Int32} {q : List Value → iv_S → iv_R} (hi : i < 10) (hj : j < 14) : iv_ast (gh g dyn, s) (.int x :: .int (nI j) :: .ref (56 + i) :: st) iv_isI q = q st (gh (gu g 56 i j x) dyn, s) := gh_ast (t := 100) (n := 14) (l := []) (ty := .int) (ly_vl i hi) (by decide) rfl rfl rfl (ga_vl hi) (by decide) hj (by decide)
theorem ll_56 {i : Nat} {q : Int32 → List Value → iv_R} (hi : i < 10) : iv_len (gh g dyn, s) (.ref (56 + i) :: st) q = q (nI 14) st := q_len (t := 100) (n := 14) (l := []) (ty := .int) (ly_vl i hi) (by decide) rfl
theorem la_67 {i j : Nat} {q : Value → List Value → iv_R} (hi : i < 10) (hj : j < 42) : iv_ald (gh g dyn, s) (.int (nI j) :: .ref (67 + i) :: st) iv_isI q = q (.int (g 67 i j)) st := gh_ald (t := 100) (n := 42) (l := []) (ty := .int) (ly_el i hi) (by decide) rfl rfl (ga_el hi) hj (by decide)
theorem sa_67 {i j : Nat} {x : Int32} {q : List Value → iv_S → iv_R} (hi : i < 10) (hj : j < 42) : iv_ast (gh g dyn, s) (.int x :: .int (nI j) :: .ref (67 + i) :: st) iv_isI q = q st (gh (gu g 67 i j x) dyn, s) := gh_ast (t := 100) (n := 42) (l := []) (ty := .int) (ly_el i hi) (by decide) rfl rfl rfl (ga_el hi) (by decide) hj (by decide)
theorem ll_67 {i : Nat} {q : Int32 → List Value → iv_R} (hi : i < 10) : iv_len (gh g dyn, s) (.ref (67 + i) :: st) q = q (nI 42) st := q_len (t := 100) (n := 42) (l := []) (ty := .int) (ly_el i hi) (by decide) rfl
theorem la_79 {i j : Nat} {q : Value → List Value → iv_R} (hi : i < 24) (hj : j < 6) : iv_ald (gh g dyn, s) (.int (nI j) :: .ref (79 + i) :: st) iv_isI q = q (.int (g 79 i j)) st := gh_ald (t := 100) (n := 6) (l := []) (ty := .int) (ly_fc i hi) (by decide) rfl rfl (ga_fc hi) hj (by decide)
theorem sa_79 {i j : Nat} {x : Int32} {q : List Value → iv_S → iv_R} (hi : i < 24) (hj : j < 6) : iv_ast (gh g dyn, s) (.int x :: .int (nI j) :: .ref (79 + i) :: st) iv_isI q = q st (gh (gu g 79 i j x) dyn, s) := gh_ast (t := 100) (n := 6) (l := []) (ty := .int) (ly_fc i hi) (by decide) rfl rfl rfl (ga_fc hi) (by decide) hj (by decide)
theorem ll_79 {i : Nat} {q : Int32 → List Value → iv_R} (hi : i < 24) : iv_len (gh g dyn, s) (.ref (79 + i) :: st) q = q (nI 6) st := q_len (t := 100) (n := 6) (l := []) (ty := .int) (ly_fc i hi) (by decide) rfl
theorem la_105 {i j : Nat} {q : Value → List Value → iv_R} (hi : i < 24) (hj : j < 16) : iv_ald (gh g dyn, s) (.int (nI j) :: .ref (105 + 2 * i) :: st) iv_isI q = q (.int (g 105 i j)) st := gh_ald (t := 100) (n := 16) (l := []) (ty := .int) (ly_wy i hi) (by decide) rfl rfl (ga_wy hi) hj (by decide)
theorem sa_105 {i j : Nat} {x : Int32} {q : List Value → iv_S → iv_R} (hi : i < 24) (hj : j < 16) : iv_ast (gh g dyn, s) (.int x :: .int (nI j) :: .ref (105 + 2 * i) :: st) iv_isI q = q st (gh (gu g 105 i j x) dyn, s) := gh_ast (t := 100) (n := 16) (l := []) (ty := .int) (ly_wy i hi) (by decide) rfl rfl rfl (ga_wy hi) (by decide) hj (by decide)
theorem ll_105 {i : Nat} {q : Int32 → List Value → iv_R} (hi : i < 24) : iv_len (gh g dyn, s) (.ref (105 + 2 * i) :: st) q = q (nI 16) st := q_len (t := 100) (n := 16) (l := []) (ty := .int) (ly_wy i hi) (by decide) rfl
theorem gfb_orow {j : Nat} (h : j < 6) : gfb (5 + 2 * j) 1 = (205, j, 0) := by
  unfold gfb
  rw [if_neg (by omega), if_pos (by omega), show (5 + 2 * j - 5) / 2 = j by omega]
theorem gf_5_0' {i : Nat} {q : Value → List Value → iv_R} (hi : i < 6) : iv_gf (gh g dyn, s) (.ref (5 + 2 * i) :: st) 7 0 q = q (.ref (6 + 2 * i)) st := gh_gf (t := 7) (ly_orow i hi) (by decide) rfl
theorem gf_5_1' {i : Nat} {q : Value → List Value → iv_R} (hi : i < 6) : iv_gf (gh g dyn, s) (.ref (5 + 2 * i) :: st) 7 1 q = q (.int (g 205 i 0)) st := by
  refine (gh_gf (t := 7) (ly_orow i hi) (by decide) rfl).trans ?_
  unfold gF
  rw [gfb_orow hi]
theorem pf_5_1' {i : Nat} {v : Int32} {q : List Value → iv_S → iv_R} (hi : i < 6) : iv_pf (gh g dyn, s) (.int v :: .ref (5 + 2 * i) :: st) 7 1 q = q st (gh (gu g 205 i 0 v) dyn, s) := gh_pf (t := 7) (n := 0) (ly_orow i hi) (by decide) rfl (by simp [md_flds]) rfl (gfb_orow hi) (by decide)
theorem rc_5 {i : Nat} {as : List Value} (hi : i < 6) : iv_rc (gh g dyn, s) (.ref (5 + 2 * i) :: as) 7 = true := gh_rc (ly_orow i hi) (by decide)
theorem gfb_srow {j : Nat} (h : j < 2) : gfb (47 + 2 * j) 1 = (247, j, 0) := by
  unfold gfb
  rw [if_neg (by omega), if_neg (by omega), if_neg (by omega), if_neg (by omega), if_pos (by omega), show (47 + 2 * j - 47) / 2 = j by omega]
theorem gf_47_0' {i : Nat} {q : Value → List Value → iv_R} (hi : i < 2) : iv_gf (gh g dyn, s) (.ref (47 + 2 * i) :: st) 7 0 q = q (.ref (48 + 2 * i)) st := gh_gf (t := 7) (ly_srow i hi) (by decide) rfl
theorem gf_47_1' {i : Nat} {q : Value → List Value → iv_R} (hi : i < 2) : iv_gf (gh g dyn, s) (.ref (47 + 2 * i) :: st) 7 1 q = q (.int (g 247 i 0)) st := by
  refine (gh_gf (t := 7) (ly_srow i hi) (by decide) rfl).trans ?_
  unfold gF
  rw [gfb_srow hi]
theorem pf_47_1' {i : Nat} {v : Int32} {q : List Value → iv_S → iv_R} (hi : i < 2) : iv_pf (gh g dyn, s) (.int v :: .ref (47 + 2 * i) :: st) 7 1 q = q st (gh (gu g 247 i 0 v) dyn, s) := gh_pf (t := 7) (n := 0) (ly_srow i hi) (by decide) rfl (by simp [md_flds]) rfl (gfb_srow hi) (by decide)
theorem rc_47 {i : Nat} {as : List Value} (hi : i < 2) : iv_rc (gh g dyn, s) (.ref (47 + 2 * i) :: as) 7 = true := gh_rc (ly_srow i hi) (by decide)
theorem gfb_wrow {j : Nat} (h : j < 24) : gfb (104 + 2 * j) 1 = (304, j, 0) := by
  unfold gfb
  rw [if_neg (by omega), if_neg (by omega), if_neg (by omega), if_neg (by omega), if_neg (by omega), if_pos (by omega), show (104 + 2 * j - 104) / 2 = j by omega]
theorem gf_104_0' {i : Nat} {q : Value → List Value → iv_R} (hi : i < 24) : iv_gf (gh g dyn, s) (.ref (104 + 2 * i) :: st) 7 0 q = q (.ref (105 + 2 * i)) st := gh_gf (t := 7) (ly_wrow i hi) (by decide) rfl
theorem gf_104_1' {i : Nat} {q : Value → List Value → iv_R} (hi : i < 24) : iv_gf (gh g dyn, s) (.ref (104 + 2 * i) :: st) 7 1 q = q (.int (g 304 i 0)) st := by
  refine (gh_gf (t := 7) (ly_wrow i hi) (by decide) rfl).trans ?_
  unfold gF
  rw [gfb_wrow hi]
theorem pf_104_1' {i : Nat} {v : Int32} {q : List Value → iv_S → iv_R} (hi : i < 24) : iv_pf (gh g dyn, s) (.int v :: .ref (104 + 2 * i) :: st) 7 1 q = q st (gh (gu g 304 i 0 v) dyn, s) := gh_pf (t := 7) (n := 0) (ly_wrow i hi) (by decide) rfl (by simp [md_flds]) rfl (gfb_wrow hi) (by decide)
theorem rc_104 {i : Nat} {as : List Value} (hi : i < 24) : iv_rc (gh g dyn, s) (.ref (104 + 2 * i) :: as) 7 = true := gh_rc (ly_wrow i hi) (by decide)
theorem gfb_comp1 {j : Nat} (h : j < 3) : gfb (38 + 2 * j) 1 = (238, j, 0) := by
  unfold gfb
  rw [if_neg (by omega), if_neg (by omega), if_pos (by omega), show (38 + 2 * j - 38) / 2 = j by omega]
theorem gf_38_1' {i : Nat} {q : Value → List Value → iv_R} (hi : i < 3) : iv_gf (gh g dyn, s) (.ref (38 + 2 * i) :: st) 3 1 q = q (.int (g 238 i 0)) st := by
  refine (gh_gf (t := 3) (ly_comp i hi) (by decide) rfl).trans ?_
  unfold gF
  rw [gfb_comp1 hi]
theorem gfb_comp2 {j : Nat} (h : j < 3) : gfb (38 + 2 * j) 2 = (239, j, 0) := by
  unfold gfb
  rw [if_neg (by omega), if_neg (by omega), if_neg (by omega), if_pos (by omega), show (38 + 2 * j - 38) / 2 = j by omega]
theorem gf_38_2' {i : Nat} {q : Value → List Value → iv_R} (hi : i < 3) : iv_gf (gh g dyn, s) (.ref (38 + 2 * i) :: st) 3 2 q = q (.int (g 239 i 0)) st := by
  refine (gh_gf (t := 3) (ly_comp i hi) (by decide) rfl).trans ?_
  unfold gF
  rw [gfb_comp2 hi]
theorem gf_38_0' {i : Nat} {q : Value → List Value → iv_R} (hi : i < 3) : iv_gf (gh g dyn, s) (.ref (38 + 2 * i) :: st) 3 0 q = q (.ref (39 + 2 * i)) st := gh_gf (t := 3) (ly_comp i hi) (by decide) rfl
theorem pf_38_1' {i : Nat} {v : Int32} {q : List Value → iv_S → iv_R} (hi : i < 3) : iv_pf (gh g dyn, s) (.int v :: .ref (38 + 2 * i) :: st) 3 1 q = q st (gh (gu g 238 i 0 v) dyn, s) := gh_pf (t := 3) (n := 0) (ly_comp i hi) (by decide) rfl (by simp [md_flds]) rfl (gfb_comp1 hi) (by decide)
theorem pf_38_2' {i : Nat} {b : Bool} {q : List Value → iv_S → iv_R} (hi : i < 3) : iv_pf (gh g dyn, s) (.int (bI b) :: .ref (38 + 2 * i) :: st) 3 2 q = q st (gh (gu g 239 i 0 (bI b)) dyn, s) := gh_pf (t := 3) (n := 0) (ly_comp i hi) (by decide) rfl (by simp [md_flds]) bI_fit (gfb_comp2 hi) (by decide)
theorem rc_38 {i : Nat} {as : List Value} (hi : i < 3) : iv_rc (gh g dyn, s) (.ref (38 + 2 * i) :: as) 3 = true := gh_rc (ly_comp i hi) (by decide)
theorem al_4' {j : Nat} {q : Value → List Value → iv_R} (hj : j < 6) : iv_ald (gh g dyn, s) (.int (nI j) :: .ref 4 :: st) iv_isA q = q (.ref (5 + 2 * j)) st := al_4 hj
theorem al_20' {j : Nat} {q : Value → List Value → iv_R} (hj : j < 14) : iv_ald (gh g dyn, s) (.int (nI j) :: .ref 20 :: st) iv_isA q = q (.ref (21 + j)) st := al_20 hj
theorem al_37' {j : Nat} {q : Value → List Value → iv_R} (hj : j < 3) : iv_ald (gh g dyn, s) (.int (nI j) :: .ref 37 :: st) iv_isA q = q (.ref (38 + 2 * j)) st := al_37 hj
theorem al_46' {j : Nat} {q : Value → List Value → iv_R} (hj : j < 2) : iv_ald (gh g dyn, s) (.int (nI j) :: .ref 46 :: st) iv_isA q = q (.ref (47 + 2 * j)) st := al_46 hj
theorem al_55' {j : Nat} {q : Value → List Value → iv_R} (hj : j < 10) : iv_ald (gh g dyn, s) (.int (nI j) :: .ref 55 :: st) iv_isA q = q (.ref (56 + j)) st := al_55 hj
theorem al_66' {j : Nat} {q : Value → List Value → iv_R} (hj : j < 10) : iv_ald (gh g dyn, s) (.int (nI j) :: .ref 66 :: st) iv_isA q = q (.ref (67 + j)) st := al_66 hj
theorem al_78' {j : Nat} {q : Value → List Value → iv_R} (hj : j < 24) : iv_ald (gh g dyn, s) (.int (nI j) :: .ref 78 :: st) iv_isA q = q (.ref (79 + j)) st := al_78 hj
theorem al_103' {j : Nat} {q : Value → List Value → iv_R} (hj : j < 24) : iv_ald (gh g dyn, s) (.int (nI j) :: .ref 103 :: st) iv_isA q = q (.ref (104 + 2 * j)) st := al_103 hj
end GH
section NI
variable {a b : Nat}
theorem ni_lt (ha : a < 2 ^ 31) (hb : b < 2 ^ 31) : (nI a < nI b) = (a < b) := propext (nI_ltI ha hb)
theorem ni_le (ha : a < 2 ^ 31) (hb : b < 2 ^ 31) : (nI a ≤ nI b) = (a ≤ b) := propext (nI_leI ha hb)
theorem ni_eq (ha : a < 2 ^ 31) (hb : b < 2 ^ 31) : (nI a = nI b) = (a = b) := propext (nI_eq ha hb)
theorem ni_sub (h : b ≤ a) : nI a - nI b = nI (a - b) := pk_sub h
theorem ni_m1 (h : a < 2 ^ 31) : (nI a = -1) = False := by
  refine eq_false (fun e => ?_)
  have e1 := congrArg Int32.toInt e
  rw [nI_toInt h] at e1
  have : (-1 : Int32).toInt = -1 := by decide
  omega
theorem ni_m1' (h : a < 2 ^ 31) : ((-1 : Int32) = nI a) = False := by rw [eq_comm (a := (-1 : Int32)), ni_m1 h]
theorem ni_m1lt (h : a < 2 ^ 31) : ((-1 : Int32) < nI a) = True := by
  refine eq_true ?_
  rw [Int32.lt_iff_toInt_lt, nI_toInt h]
  have : (-1 : Int32).toInt = -1 := by decide
  omega
theorem ni_m1le (h : a < 2 ^ 31) : ((-1 : Int32) ≤ nI a) = True := by
  refine eq_true ?_
  rw [Int32.le_iff_toInt_le, nI_toInt h]
  have : (-1 : Int32).toInt = -1 := by decide
  omega
theorem ni_ltm1 (h : a < 2 ^ 31) : (nI a < (-1 : Int32)) = False := by
  refine eq_false ?_
  rw [Int32.lt_iff_toInt_lt, nI_toInt h]
  have : (-1 : Int32).toInt = -1 := by decide
  omega
theorem ni_lem1 (h : a < 2 ^ 31) : (nI a ≤ (-1 : Int32)) = False := by
  refine eq_false ?_
  rw [Int32.le_iff_toInt_le, nI_toInt h]
  have : (-1 : Int32).toInt = -1 := by decide
  omega
theorem nd_lt_t (h : a < b) : (a < b) = True := eq_true h
theorem nd_lt_f (h : b ≤ a) : (a < b) = False := eq_false (Nat.not_lt.mpr h)
theorem nd_le_t (h : a ≤ b) : (a ≤ b) = True := eq_true h
theorem nd_le_f (h : b < a) : (a ≤ b) = False := eq_false (Nat.not_le.mpr h)
theorem nd_eq_t (h : a = b) : (a = b) = True := eq_true h
theorem nd_eq_f (h : a ≠ b) : (a = b) = False := eq_false h
end NI
theorem bI_t' : bI true = nI 1 := rfl
theorem bI_f' : bI false = nI 0 := rfl
theorem bI_0' {b : Bool} : (bI b = nI 0) = (b = false) := by cases b <;> simp [bI, nI]
theorem q_rz0' {w : iv_S} : iv_ret (some .boolean) [.int (nI 0)] w = some (some (.int (nI 0)), w) := rfl
theorem q_rz1' {w : iv_S} : iv_ret (some .boolean) [.int (nI 1)] w = some (some (.int (nI 1)), w) := rfl
def ixb (x : Int32) (n : Nat) : Bool := decide (nI 0 ≤ x ∧ x < nI n)
def inb (x y z : Int32) : Bool := decide (y ≤ x ∧ x ≤ z)
theorem ixb_t {j n : Nat} (h : j < n) (hn : n < 2 ^ 31) : ixb (nI j) n = true := by
  simp only [ixb, decide_eq_true_eq]
  exact ⟨nI_le (by omega) (by omega), nI_lt h hn⟩
theorem ixb_of {x : Int32} {n : Nat} (h : ixb x n = true) (hn : n < 2 ^ 31) : ∃ j, j < n ∧ x = nI j := by
  simp only [ixb, decide_eq_true_eq] at h
  rcases pk_ix x hn with h1 | h1 | h1
  · exact absurd h.1 (Int32.not_le.mpr h1)
  · exact absurd h.2 (Int32.not_lt.mpr h1)
  · exact h1
theorem ixb_ti {x : Int32} {n : Nat} : (ixb x n = true) = (0 ≤ x.toInt ∧ x.toInt < (nI n).toInt) := by
  simp only [ixb, decide_eq_true_eq, Int32.le_iff_toInt_le, Int32.lt_iff_toInt_lt]
  rfl
theorem inb_ti {x y z : Int32} : (inb x y z = true) = (y.toInt ≤ x.toInt ∧ x.toInt ≤ z.toInt) := by
  simp only [inb, decide_eq_true_eq, Int32.le_iff_toInt_le]
theorem inb_0 {x : Int32} {n : Nat} (hn : n < 2 ^ 30) : inb x (nI 0) (nI n - nI 1) = ixb x n := by
  apply Bool.eq_iff_iff.mpr
  rw [ixb_ti, inb_ti, pk_sub_toInt hn (by omega), nI_toInt (by omega), nI_toInt (by omega)]
  omega
theorem inb_0' {x : Int32} {n : Nat} (hn : n < 2 ^ 30) : inb x (nI 0) (nI n) = ixb x (n + 1) := by
  apply Bool.eq_iff_iff.mpr
  rw [ixb_ti, inb_ti, nI_toInt (by omega), nI_toInt (by omega), nI_toInt (by omega)]
  omega
theorem inb_m {x : Int32} {n : Nat} (hn : n < 2 ^ 30) : inb x (-1) (nI n - nI 1) = (decide (x = -1) || ixb x n) := by
  apply Bool.eq_iff_iff.mpr
  rw [Bool.or_eq_true, ixb_ti, inb_ti, pk_sub_toInt hn (by omega), nI_toInt (by omega), decide_eq_true_eq, ← Int32.toInt_inj]
  have : (-1 : Int32).toInt = -1 := by decide
  omega
theorem inb_m' {x : Int32} {n : Nat} (hn : n < 2 ^ 30) : inb x (-1) (nI n) = (decide (x = -1) || ixb x (n + 1)) := by
  apply Bool.eq_iff_iff.mpr
  rw [Bool.or_eq_true, ixb_ti, inb_ti, nI_toInt (by omega), nI_toInt (by omega), decide_eq_true_eq, ← Int32.toInt_inj]
  have : (-1 : Int32).toInt = -1 := by decide
  omega
theorem iv_dn {c D : Nat} (h : c + 1 ≤ D) : ∃ d, D = d + 1 ∧ c ≤ d := ⟨D - 1, by omega, by omega⟩
