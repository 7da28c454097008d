/-! the static cells: A k j is element j of the array at k, F k i is int field i of the object at k; what comes later is dyn -/
def md_ints (n : Nat) (f : Nat → Int32) : List Value := (List.range n).map fun j => .int (f j)
def md_flds (F : Nat → Nat → Int32) (k : Nat) : Nat → List (Option Nat) → List Value
  | _, [] => []
  | i, some r :: l => .ref r :: md_flds F k (i + 1) l
  | i, none :: l => .int (F k i) :: md_flds F k (i + 1) l
def md_cell (A F : Nat → Nat → Int32) (k : Nat) (q : Nat × Nat × List (Option Nat)) : iv_C := if 100 ≤ q.1 ∧ q.1 < 103 then (q.1, md_ints q.2.1 (A k)) else (q.1, md_flds F k 0 q.2.2)
def md_ly : List (Option (Nat × Nat × List (Option Nat))) := [
  none,
  some (0, 0, [some 2, some 35, some 44, some 53, some 77, some 155]),
  some (10, 0, [none, some 3, some 4, none, some 17, some 18, some 19, some 20]),
  some (100, 6, []),
  some (106, 0, [some 5, some 7, some 9, some 11, some 13, some 15]),
  some (7, 0, [some 6, none]),
  some (100, 4, []),
  some (7, 0, [some 8, none]),
  some (100, 4, []),
  some (7, 0, [some 10, none]),
  some (100, 4, []),
  some (7, 0, [some 12, none]),
  some (100, 4, []),
  some (7, 0, [some 14, none]),
  some (100, 4, []),
  some (7, 0, [some 16, none]),
  some (100, 4, []),
  some (100, 14, []),
  some (100, 14, []),
  some (101, 14, []),
  some (103, 0, [some 21, some 22, some 23, some 24, some 25, some 26, some 27, some 28, some 29, some 30, some 31, some 32, some 33, some 34]),
  some (100, 6, []),
  some (100, 6, []),
  some (100, 6, []),
  some (100, 6, []),
  some (100, 6, []),
  some (100, 6, []),
  some (100, 6, []),
  some (100, 6, []),
  some (100, 6, []),
  some (100, 6, []),
  some (100, 6, []),
  some (100, 6, []),
  some (100, 6, []),
  some (100, 6, []),
  some (9, 0, [some 36, none, some 37]),
  none,
  some (104, 0, [some 38, some 40, some 42]),
  some (3, 0, [some 39, none, none]),
  none,
  some (3, 0, [some 41, none, none]),
  none,
  some (3, 0, [some 43, none, none]),
  none,
  some (5, 0, [some 45, some 46, some 51]),
  some (100, 6, []),
  some (106, 0, [some 47, some 49]),
  some (7, 0, [some 48, none]),
  some (100, 4, []),
  some (7, 0, [some 50, none]),
  some (100, 4, []),
  some (7, 0, [some 52, none]),
  some (100, 16, []),
  some (11, 0, [none, some 54, some 55, some 66]),
  some (100, 10, []),
  some (103, 0, [some 56, some 57, some 58, some 59, some 60, some 61, some 62, some 63, some 64, some 65]),
  some (100, 14, []),
  some (100, 14, []),
  some (100, 14, []),
  some (100, 14, []),
  some (100, 14, []),
  some (100, 14, []),
  some (100, 14, []),
  some (100, 14, []),
  some (100, 14, []),
  some (100, 14, []),
  some (103, 0, [some 67, some 68, some 69, some 70, some 71, some 72, some 73, some 74, some 75, some 76]),
  some (100, 42, []),
  some (100, 42, []),
  some (100, 42, []),
  some (100, 42, []),
  some (100, 42, []),
  some (100, 42, []),
  some (100, 42, []),
  some (100, 42, []),
  some (100, 42, []),
  some (100, 42, []),
  some (6, 0, [none, some 78, some 103, some 152, some 154, none]),
  some (103, 0, [some 79, some 80, some 81, some 82, some 83, some 84, some 85, some 86, some 87, some 88, some 89, some 90, some 91, some 92, some 93, some 94, some 95, some 96, some 97, some 98, some 99, some 100, some 101, some 102]),
  some (100, 6, []),
  some (100, 6, []),
  some (100, 6, []),
  some (100, 6, []),
  some (100, 6, []),
  some (100, 6, []),
  some (100, 6, []),
  some (100, 6, []),
  some (100, 6, []),
  some (100, 6, []),
  some (100, 6, []),
  some (100, 6, []),
  some (100, 6, []),
  some (100, 6, []),
  some (100, 6, []),
  some (100, 6, []),
  some (100, 6, []),
  some (100, 6, []),
  some (100, 6, []),
  some (100, 6, []),
  some (100, 6, []),
  some (100, 6, []),
  some (100, 6, []),
  some (100, 6, []),
  some (106, 0, [some 104, some 106, some 108, some 110, some 112, some 114, some 116, some 118, some 120, some 122, some 124, some 126, some 128, some 130, some 132, some 134, some 136, some 138, some 140, some 142, some 144, some 146, some 148, some 150]),
  some (7, 0, [some 105, none]),
  some (100, 16, []),
  some (7, 0, [some 107, none]),
  some (100, 16, []),
  some (7, 0, [some 109, none]),
  some (100, 16, []),
  some (7, 0, [some 111, none]),
  some (100, 16, []),
  some (7, 0, [some 113, none]),
  some (100, 16, []),
  some (7, 0, [some 115, none]),
  some (100, 16, []),
  some (7, 0, [some 117, none]),
  some (100, 16, []),
  some (7, 0, [some 119, none]),
  some (100, 16, []),
  some (7, 0, [some 121, none]),
  some (100, 16, []),
  some (7, 0, [some 123, none]),
  some (100, 16, []),
  some (7, 0, [some 125, none]),
  some (100, 16, []),
  some (7, 0, [some 127, none]),
  some (100, 16, []),
  some (7, 0, [some 129, none]),
  some (100, 16, []),
  some (7, 0, [some 131, none]),
  some (100, 16, []),
  some (7, 0, [some 133, none]),
  some (100, 16, []),
  some (7, 0, [some 135, none]),
  some (100, 16, []),
  some (7, 0, [some 137, none]),
  some (100, 16, []),
  some (7, 0, [some 139, none]),
  some (100, 16, []),
  some (7, 0, [some 141, none]),
  some (100, 16, []),
  some (7, 0, [some 143, none]),
  some (100, 16, []),
  some (7, 0, [some 145, none]),
  some (100, 16, []),
  some (7, 0, [some 147, none]),
  some (100, 16, []),
  some (7, 0, [some 149, none]),
  some (100, 16, []),
  some (7, 0, [some 151, none]),
  some (100, 16, []),
  some (7, 0, [some 153, none]),
  some (100, 16, []),
  some (102, 112, []),
  some (2, 0, [some 2, some 35, some 44, some 53, some 77, some 156, some 157, none, none]),
  some (100, 16, []),
  some (100, 16, []),
  some (1, 0, [none, some 159, none, some 160, some 161, some 162, some 163, none, some 164, some 165, some 166, some 167, some 168, some 169, some 170, some 171, some 172, some 173, some 174, some 175, some 176, some 177, some 178, some 179, none, some 180, some 181, some 182, none, some 183, some 184, some 185, some 186, some 187, some 188, some 189, some 190, some 191, some 192, none, some 193, none, some 194, some 195, some 196, some 197, some 198, none]),
  some (100, 6, []),
  some (100, 14, []),
  some (100, 14, []),
  some (101, 14, []),
  some (100, 84, []),
  some (100, 24, []),
  some (101, 24, []),
  some (100, 24, []),
  some (100, 24, []),
  some (100, 24, []),
  some (100, 24, []),
  some (100, 3, []),
  some (100, 9, []),
  some (100, 9, []),
  some (100, 9, []),
  some (101, 3, []),
  some (100, 6, []),
  some (100, 2, []),
  some (100, 8, []),
  some (100, 6, []),
  some (100, 24, []),
  some (100, 10, []),
  some (100, 140, []),
  some (100, 420, []),
  some (100, 16, []),
  some (100, 16, []),
  some (100, 16, []),
  some (100, 16, []),
  some (101, 16, []),
  some (100, 16, []),
  some (100, 16, []),
  some (100, 16, []),
  some (100, 17, []),
  some (100, 17, []),
  some (100, 16, []),
  some (100, 144, []),
  some (100, 24, []),
  some (100, 384, []),
  some (100, 384, []),
  some (100, 128, [])]
def md_h (A F : Nat → Nat → Int32) (dyn : Nat → Option iv_C) (k : Nat) : Option iv_C := match md_ly[k]? with
  | some (some q) => some (md_cell A F k q)
  | _ => dyn k
def md_up (A : Nat → Nat → Int32) (a j : Nat) (v : Int32) : Nat → Nat → Int32 := fun k => if k = a then (fun i => if i = j then v else A k i) else A k
theorem md_up_same {A : Nat → Nat → Int32} {a j : Nat} {v : Int32} : md_up A a j v a j = v := by simp [md_up]
theorem md_up_row {A : Nat → Nat → Int32} {a k j : Nat} {v : Int32} (h : k ≠ a) : md_up A a j v k = A k := by simp [md_up, h]
theorem md_up_el {A : Nat → Nat → Int32} {a i j : Nat} {v : Int32} (h : i ≠ j) : md_up A a j v a i = A a i := by simp [md_up, h]
theorem md_len {n : Nat} {f : Nat → Int32} : (md_ints n f).length = n := by simp [md_ints]
theorem md_at {n j : Nat} {f : Nat → Int32} (h : j < n) : (md_ints n f)[j]? = some (.int (f j)) := by simp [md_ints, h]
theorem md_none {n j : Nat} {f : Nat → Int32} (h : n ≤ j) : (md_ints n f)[j]? = none := by simp [md_ints, h]
theorem md_set {n j : Nat} {f : Nat → Int32} {v : Int32} : (md_ints n f).set j (.int v) = md_ints n (fun i => if i = j then v else f i) := by
  apply List.ext_getElem?
  intro i
  rw [List.getElem?_set, md_len]
  by_cases hi : i < n
  · rw [md_at hi, md_at hi]
    by_cases hji : j = i
    · subst hji
      rw [if_pos rfl, if_pos hi, if_pos rfl]
    · rw [if_neg hji, if_neg (Ne.symm hji)]
  · rw [md_none (Nat.le_of_not_lt hi), md_none (Nat.le_of_not_lt hi)]
    by_cases hji : j = i
    · subst hji
      rw [if_pos rfl, if_neg hi]
    · rw [if_neg hji]
theorem md_flds_congr {F G : Nat → Nat → Int32} {k : Nat} : ∀ (l : List (Option Nat)) (i : Nat), (∀ j, i ≤ j → F k j = G k j) → md_flds F k i l = md_flds G k i l
  | [], _, _ => rfl
  | some r :: l, i, h => by
    simp only [md_flds]
    rw [md_flds_congr l (i + 1) (fun j hj => h j (by omega))]
  | none :: l, i, h => by
    simp only [md_flds]
    rw [h i (Nat.le_refl i), md_flds_congr l (i + 1) (fun j hj => h j (by omega))]
theorem md_flds_set {F : Nat → Nat → Int32} {k : Nat} {v : Int32} : ∀ (l : List (Option Nat)) (i j : Nat), l[j]? = some none → (md_flds F k i l).set j (.int v) = md_flds (md_up F k (i + j) v) k i l
  | [], i, j, h => by simp at h
  | some r :: l, i, j, h => by
    cases j with
    | zero => simp at h
    | succ j =>
      simp only [List.getElem?_cons_succ] at h
      simp only [md_flds, List.set_cons_succ]
      rw [md_flds_set l (i + 1) j h, show i + 1 + j = i + (j + 1) by omega]
  | none :: l, i, j, h => by
    cases j with
    | zero =>
      simp only [md_flds, List.set_cons_zero, Nat.add_zero]
      rw [md_up_same, md_flds_congr (F := F) (G := md_up F k i v) l (i + 1) (fun j hj => (md_up_el (show j ≠ i by omega)).symm)]
    | succ j =>
      simp only [List.getElem?_cons_succ] at h
      simp only [md_flds, List.set_cons_succ]
      rw [md_flds_set l (i + 1) j h, show i + 1 + j = i + (j + 1) by omega, md_up_el (by omega)]
/-- a write to an array -/
theorem md_putA {A F : Nat → Nat → Int32} {dyn : Nat → Option iv_C} {a j t n : Nat} {l : List (Option Nat)} {v : Int32} (hq : md_ly[a]? = some (some (t, n, l))) (ht : 100 ≤ t ∧ t < 103) : iv_put (md_h A F dyn) a (t, (md_ints n (A a)).set j (.int v)) = md_h (md_up A a j v) F dyn := by
  funext k
  by_cases hk : k = a
  · subst hk
    simp only [iv_put, if_true, md_h, hq, md_cell, if_pos ht, md_set, md_up]
  · simp only [iv_put, if_neg hk, md_h]
    cases md_ly[k]? with
    | none => rfl
    | some q => cases q with
      | none => rfl
      | some q => simp only [md_cell, md_up_row hk]
/-- .. to an object's int field -/
theorem md_putF {A F : Nat → Nat → Int32} {dyn : Nat → Option iv_C} {a j t n : Nat} {l : List (Option Nat)} {v : Int32} (hq : md_ly[a]? = some (some (t, n, l))) (ht : ¬ (100 ≤ t ∧ t < 103)) (hl : l[j]? = some none) : iv_put (md_h A F dyn) a (t, (md_flds F a 0 l).set j (.int v)) = md_h A (md_up F a j v) dyn := by
  funext k
  by_cases hk : k = a
  · subst hk
    simp only [iv_put, if_true, md_h, hq, md_cell, if_neg ht]
    rw [md_flds_set l 0 j hl, Nat.zero_add]
  · simp only [iv_put, if_neg hk, md_h]
    cases md_ly[k]? with
    | none => rfl
    | some q => cases q with
      | none => rfl
      | some q =>
        simp only [md_cell]
        rw [md_flds_congr (F := F) (G := md_up F a j v) q.2.2 0 (fun j _ => by rw [md_up_row hk])]
/-- .. to another cell -/
theorem md_putD {A F : Nat → Nat → Int32} {dyn : Nat → Option iv_C} {a : Nat} {c : iv_C} (hq : ∀ q, md_ly[a]? ≠ some (some q)) : iv_put (md_h A F dyn) a c = md_h A F (iv_put dyn a c) := by
  funext k
  by_cases hk : k = a
  · subst hk
    rw [show iv_put (md_h A F dyn) k c k = some c by simp [iv_put]]
    unfold md_h
    cases h : md_ly[k]? with
    | none => exact (show iv_put dyn k c k = some c by simp [iv_put]).symm
    | some q => cases q with
      | none => exact (show iv_put dyn k c k = some c by simp [iv_put]).symm
      | some q => exact absurd h (hq q)
  · simp only [iv_put, if_neg hk, md_h]
theorem md_dyn {A F : Nat → Nat → Int32} {dyn : Nat → Option iv_C} {a : Nat} (hq : ∀ q, md_ly[a]? ≠ some (some q)) : md_h A F dyn a = dyn a := by
  unfold md_h
  split
  · rename_i q h
    exact absurd h (hq q)
  · rfl
theorem md_late {a : Nat} (h : 199 ≤ a) : ∀ q, md_ly[a]? ≠ some (some q) := by
  intro q hq
  have h1 : a < md_ly.length := (List.getElem?_eq_some_iff.mp hq).1
  rw [show md_ly.length = 199 by decide +kernel] at h1
  omega
theorem md_arr {A F : Nat → Nat → Int32} {dyn : Nat → Option iv_C} {a t n : Nat} {l : List (Option Nat)} (hq : md_ly[a]? = some (some (t, n, l))) (ht : 100 ≤ t ∧ t < 103) : md_h A F dyn a = some (t, md_ints n (A a)) := by
  simp only [md_h, hq, md_cell, if_pos ht]
theorem hg_1 {A F : Nat → Nat → Int32} {dyn : Nat → Option iv_C} : md_h A F dyn 1 = some (0, [.ref 2, .ref 35, .ref 44, .ref 53, .ref 77, .ref 155]) := rfl
theorem hg_2 {A F : Nat → Nat → Int32} {dyn : Nat → Option iv_C} : md_h A F dyn 2 = some (10, [.int (F 2 0), .ref 3, .ref 4, .int (F 2 3), .ref 17, .ref 18, .ref 19, .ref 20]) := rfl
theorem hg_3 {A F : Nat → Nat → Int32} {dyn : Nat → Option iv_C} : md_h A F dyn 3 = some (100, md_ints 6 (A 3)) := rfl
theorem hg_4 {A F : Nat → Nat → Int32} {dyn : Nat → Option iv_C} : md_h A F dyn 4 = some (106, [.ref 5, .ref 7, .ref 9, .ref 11, .ref 13, .ref 15]) := rfl
theorem hg_5 {A F : Nat → Nat → Int32} {dyn : Nat → Option iv_C} : md_h A F dyn 5 = some (7, [.ref 6, .int (F 5 1)]) := rfl
theorem hg_6 {A F : Nat → Nat → Int32} {dyn : Nat → Option iv_C} : md_h A F dyn 6 = some (100, md_ints 4 (A 6)) := rfl
theorem hg_7 {A F : Nat → Nat → Int32} {dyn : Nat → Option iv_C} : md_h A F dyn 7 = some (7, [.ref 8, .int (F 7 1)]) := rfl
theorem hg_8 {A F : Nat → Nat → Int32} {dyn : Nat → Option iv_C} : md_h A F dyn 8 = some (100, md_ints 4 (A 8)) := rfl
theorem hg_9 {A F : Nat → Nat → Int32} {dyn : Nat → Option iv_C} : md_h A F dyn 9 = some (7, [.ref 10, .int (F 9 1)]) := rfl
theorem hg_10 {A F : Nat → Nat → Int32} {dyn : Nat → Option iv_C} : md_h A F dyn 10 = some (100, md_ints 4 (A 10)) := rfl
theorem hg_11 {A F : Nat → Nat → Int32} {dyn : Nat → Option iv_C} : md_h A F dyn 11 = some (7, [.ref 12, .int (F 11 1)]) := rfl
theorem hg_12 {A F : Nat → Nat → Int32} {dyn : Nat → Option iv_C} : md_h A F dyn 12 = some (100, md_ints 4 (A 12)) := rfl
theorem hg_13 {A F : Nat → Nat → Int32} {dyn : Nat → Option iv_C} : md_h A F dyn 13 = some (7, [.ref 14, .int (F 13 1)]) := rfl
theorem hg_14 {A F : Nat → Nat → Int32} {dyn : Nat → Option iv_C} : md_h A F dyn 14 = some (100, md_ints 4 (A 14)) := rfl
theorem hg_15 {A F : Nat → Nat → Int32} {dyn : Nat → Option iv_C} : md_h A F dyn 15 = some (7, [.ref 16, .int (F 15 1)]) := rfl
theorem hg_16 {A F : Nat → Nat → Int32} {dyn : Nat → Option iv_C} : md_h A F dyn 16 = some (100, md_ints 4 (A 16)) := rfl
theorem hg_17 {A F : Nat → Nat → Int32} {dyn : Nat → Option iv_C} : md_h A F dyn 17 = some (100, md_ints 14 (A 17)) := rfl
theorem hg_18 {A F : Nat → Nat → Int32} {dyn : Nat → Option iv_C} : md_h A F dyn 18 = some (100, md_ints 14 (A 18)) := rfl
theorem hg_19 {A F : Nat → Nat → Int32} {dyn : Nat → Option iv_C} : md_h A F dyn 19 = some (101, md_ints 14 (A 19)) := rfl
theorem hg_20 {A F : Nat → Nat → Int32} {dyn : Nat → Option iv_C} : md_h A F dyn 20 = some (103, [.ref 21, .ref 22, .ref 23, .ref 24, .ref 25, .ref 26, .ref 27, .ref 28, .ref 29, .ref 30, .ref 31, .ref 32, .ref 33, .ref 34]) := rfl
theorem hg_21 {A F : Nat → Nat → Int32} {dyn : Nat → Option iv_C} : md_h A F dyn 21 = some (100, md_ints 6 (A 21)) := rfl
theorem hg_22 {A F : Nat → Nat → Int32} {dyn : Nat → Option iv_C} : md_h A F dyn 22 = some (100, md_ints 6 (A 22)) := rfl
theorem hg_23 {A F : Nat → Nat → Int32} {dyn : Nat → Option iv_C} : md_h A F dyn 23 = some (100, md_ints 6 (A 23)) := rfl
theorem hg_24 {A F : Nat → Nat → Int32} {dyn : Nat → Option iv_C} : md_h A F dyn 24 = some (100, md_ints 6 (A 24)) := rfl
theorem hg_25 {A F : Nat → Nat → Int32} {dyn : Nat → Option iv_C} : md_h A F dyn 25 = some (100, md_ints 6 (A 25)) := rfl
theorem hg_26 {A F : Nat → Nat → Int32} {dyn : Nat → Option iv_C} : md_h A F dyn 26 = some (100, md_ints 6 (A 26)) := rfl
theorem hg_27 {A F : Nat → Nat → Int32} {dyn : Nat → Option iv_C} : md_h A F dyn 27 = some (100, md_ints 6 (A 27)) := rfl
theorem hg_28 {A F : Nat → Nat → Int32} {dyn : Nat → Option iv_C} : md_h A F dyn 28 = some (100, md_ints 6 (A 28)) := rfl
theorem hg_29 {A F : Nat → Nat → Int32} {dyn : Nat → Option iv_C} : md_h A F dyn 29 = some (100, md_ints 6 (A 29)) := rfl
theorem hg_30 {A F : Nat → Nat → Int32} {dyn : Nat → Option iv_C} : md_h A F dyn 30 = some (100, md_ints 6 (A 30)) := rfl
theorem hg_31 {A F : Nat → Nat → Int32} {dyn : Nat → Option iv_C} : md_h A F dyn 31 = some (100, md_ints 6 (A 31)) := rfl
theorem hg_32 {A F : Nat → Nat → Int32} {dyn : Nat → Option iv_C} : md_h A F dyn 32 = some (100, md_ints 6 (A 32)) := rfl
theorem hg_33 {A F : Nat → Nat → Int32} {dyn : Nat → Option iv_C} : md_h A F dyn 33 = some (100, md_ints 6 (A 33)) := rfl
theorem hg_34 {A F : Nat → Nat → Int32} {dyn : Nat → Option iv_C} : md_h A F dyn 34 = some (100, md_ints 6 (A 34)) := rfl
theorem hg_35 {A F : Nat → Nat → Int32} {dyn : Nat → Option iv_C} : md_h A F dyn 35 = some (9, [.ref 36, .int (F 35 1), .ref 37]) := rfl
theorem hg_37 {A F : Nat → Nat → Int32} {dyn : Nat → Option iv_C} : md_h A F dyn 37 = some (104, [.ref 38, .ref 40, .ref 42]) := rfl
theorem hg_38 {A F : Nat → Nat → Int32} {dyn : Nat → Option iv_C} : md_h A F dyn 38 = some (3, [.ref 39, .int (F 38 1), .int (F 38 2)]) := rfl
theorem hg_40 {A F : Nat → Nat → Int32} {dyn : Nat → Option iv_C} : md_h A F dyn 40 = some (3, [.ref 41, .int (F 40 1), .int (F 40 2)]) := rfl
theorem hg_42 {A F : Nat → Nat → Int32} {dyn : Nat → Option iv_C} : md_h A F dyn 42 = some (3, [.ref 43, .int (F 42 1), .int (F 42 2)]) := rfl
theorem hg_44 {A F : Nat → Nat → Int32} {dyn : Nat → Option iv_C} : md_h A F dyn 44 = some (5, [.ref 45, .ref 46, .ref 51]) := rfl
theorem hg_45 {A F : Nat → Nat → Int32} {dyn : Nat → Option iv_C} : md_h A F dyn 45 = some (100, md_ints 6 (A 45)) := rfl
theorem hg_46 {A F : Nat → Nat → Int32} {dyn : Nat → Option iv_C} : md_h A F dyn 46 = some (106, [.ref 47, .ref 49]) := rfl
theorem hg_47 {A F : Nat → Nat → Int32} {dyn : Nat → Option iv_C} : md_h A F dyn 47 = some (7, [.ref 48, .int (F 47 1)]) := rfl
theorem hg_48 {A F : Nat → Nat → Int32} {dyn : Nat → Option iv_C} : md_h A F dyn 48 = some (100, md_ints 4 (A 48)) := rfl
theorem hg_49 {A F : Nat → Nat → Int32} {dyn : Nat → Option iv_C} : md_h A F dyn 49 = some (7, [.ref 50, .int (F 49 1)]) := rfl
theorem hg_50 {A F : Nat → Nat → Int32} {dyn : Nat → Option iv_C} : md_h A F dyn 50 = some (100, md_ints 4 (A 50)) := rfl
theorem hg_51 {A F : Nat → Nat → Int32} {dyn : Nat → Option iv_C} : md_h A F dyn 51 = some (7, [.ref 52, .int (F 51 1)]) := rfl
theorem hg_52 {A F : Nat → Nat → Int32} {dyn : Nat → Option iv_C} : md_h A F dyn 52 = some (100, md_ints 16 (A 52)) := rfl
theorem hg_53 {A F : Nat → Nat → Int32} {dyn : Nat → Option iv_C} : md_h A F dyn 53 = some (11, [.int (F 53 0), .ref 54, .ref 55, .ref 66]) := rfl
theorem hg_54 {A F : Nat → Nat → Int32} {dyn : Nat → Option iv_C} : md_h A F dyn 54 = some (100, md_ints 10 (A 54)) := rfl
theorem hg_55 {A F : Nat → Nat → Int32} {dyn : Nat → Option iv_C} : md_h A F dyn 55 = some (103, [.ref 56, .ref 57, .ref 58, .ref 59, .ref 60, .ref 61, .ref 62, .ref 63, .ref 64, .ref 65]) := rfl
theorem hg_56 {A F : Nat → Nat → Int32} {dyn : Nat → Option iv_C} : md_h A F dyn 56 = some (100, md_ints 14 (A 56)) := rfl
theorem hg_57 {A F : Nat → Nat → Int32} {dyn : Nat → Option iv_C} : md_h A F dyn 57 = some (100, md_ints 14 (A 57)) := rfl
theorem hg_58 {A F : Nat → Nat → Int32} {dyn : Nat → Option iv_C} : md_h A F dyn 58 = some (100, md_ints 14 (A 58)) := rfl
theorem hg_59 {A F : Nat → Nat → Int32} {dyn : Nat → Option iv_C} : md_h A F dyn 59 = some (100, md_ints 14 (A 59)) := rfl
theorem hg_60 {A F : Nat → Nat → Int32} {dyn : Nat → Option iv_C} : md_h A F dyn 60 = some (100, md_ints 14 (A 60)) := rfl
theorem hg_61 {A F : Nat → Nat → Int32} {dyn : Nat → Option iv_C} : md_h A F dyn 61 = some (100, md_ints 14 (A 61)) := rfl
theorem hg_62 {A F : Nat → Nat → Int32} {dyn : Nat → Option iv_C} : md_h A F dyn 62 = some (100, md_ints 14 (A 62)) := rfl
theorem hg_63 {A F : Nat → Nat → Int32} {dyn : Nat → Option iv_C} : md_h A F dyn 63 = some (100, md_ints 14 (A 63)) := rfl
theorem hg_64 {A F : Nat → Nat → Int32} {dyn : Nat → Option iv_C} : md_h A F dyn 64 = some (100, md_ints 14 (A 64)) := rfl
theorem hg_65 {A F : Nat → Nat → Int32} {dyn : Nat → Option iv_C} : md_h A F dyn 65 = some (100, md_ints 14 (A 65)) := rfl
theorem hg_66 {A F : Nat → Nat → Int32} {dyn : Nat → Option iv_C} : md_h A F dyn 66 = some (103, [.ref 67, .ref 68, .ref 69, .ref 70, .ref 71, .ref 72, .ref 73, .ref 74, .ref 75, .ref 76]) := rfl
theorem hg_67 {A F : Nat → Nat → Int32} {dyn : Nat → Option iv_C} : md_h A F dyn 67 = some (100, md_ints 42 (A 67)) := rfl
theorem hg_68 {A F : Nat → Nat → Int32} {dyn : Nat → Option iv_C} : md_h A F dyn 68 = some (100, md_ints 42 (A 68)) := rfl
theorem hg_69 {A F : Nat → Nat → Int32} {dyn : Nat → Option iv_C} : md_h A F dyn 69 = some (100, md_ints 42 (A 69)) := rfl
theorem hg_70 {A F : Nat → Nat → Int32} {dyn : Nat → Option iv_C} : md_h A F dyn 70 = some (100, md_ints 42 (A 70)) := rfl
theorem hg_71 {A F : Nat → Nat → Int32} {dyn : Nat → Option iv_C} : md_h A F dyn 71 = some (100, md_ints 42 (A 71)) := rfl
theorem hg_72 {A F : Nat → Nat → Int32} {dyn : Nat → Option iv_C} : md_h A F dyn 72 = some (100, md_ints 42 (A 72)) := rfl
theorem hg_73 {A F : Nat → Nat → Int32} {dyn : Nat → Option iv_C} : md_h A F dyn 73 = some (100, md_ints 42 (A 73)) := rfl
theorem hg_74 {A F : Nat → Nat → Int32} {dyn : Nat → Option iv_C} : md_h A F dyn 74 = some (100, md_ints 42 (A 74)) := rfl
theorem hg_75 {A F : Nat → Nat → Int32} {dyn : Nat → Option iv_C} : md_h A F dyn 75 = some (100, md_ints 42 (A 75)) := rfl
theorem hg_76 {A F : Nat → Nat → Int32} {dyn : Nat → Option iv_C} : md_h A F dyn 76 = some (100, md_ints 42 (A 76)) := rfl
theorem hg_77 {A F : Nat → Nat → Int32} {dyn : Nat → Option iv_C} : md_h A F dyn 77 = some (6, [.int (F 77 0), .ref 78, .ref 103, .ref 152, .ref 154, .int (F 77 5)]) := rfl
theorem hg_78 {A F : Nat → Nat → Int32} {dyn : Nat → Option iv_C} : md_h A F dyn 78 = some (103, [.ref 79, .ref 80, .ref 81, .ref 82, .ref 83, .ref 84, .ref 85, .ref 86, .ref 87, .ref 88, .ref 89, .ref 90, .ref 91, .ref 92, .ref 93, .ref 94, .ref 95, .ref 96, .ref 97, .ref 98, .ref 99, .ref 100, .ref 101, .ref 102]) := rfl
theorem hg_79 {A F : Nat → Nat → Int32} {dyn : Nat → Option iv_C} : md_h A F dyn 79 = some (100, md_ints 6 (A 79)) := rfl
theorem hg_80 {A F : Nat → Nat → Int32} {dyn : Nat → Option iv_C} : md_h A F dyn 80 = some (100, md_ints 6 (A 80)) := rfl
theorem hg_81 {A F : Nat → Nat → Int32} {dyn : Nat → Option iv_C} : md_h A F dyn 81 = some (100, md_ints 6 (A 81)) := rfl
theorem hg_82 {A F : Nat → Nat → Int32} {dyn : Nat → Option iv_C} : md_h A F dyn 82 = some (100, md_ints 6 (A 82)) := rfl
theorem hg_83 {A F : Nat → Nat → Int32} {dyn : Nat → Option iv_C} : md_h A F dyn 83 = some (100, md_ints 6 (A 83)) := rfl
theorem hg_84 {A F : Nat → Nat → Int32} {dyn : Nat → Option iv_C} : md_h A F dyn 84 = some (100, md_ints 6 (A 84)) := rfl
theorem hg_85 {A F : Nat → Nat → Int32} {dyn : Nat → Option iv_C} : md_h A F dyn 85 = some (100, md_ints 6 (A 85)) := rfl
theorem hg_86 {A F : Nat → Nat → Int32} {dyn : Nat → Option iv_C} : md_h A F dyn 86 = some (100, md_ints 6 (A 86)) := rfl
theorem hg_87 {A F : Nat → Nat → Int32} {dyn : Nat → Option iv_C} : md_h A F dyn 87 = some (100, md_ints 6 (A 87)) := rfl
theorem hg_88 {A F : Nat → Nat → Int32} {dyn : Nat → Option iv_C} : md_h A F dyn 88 = some (100, md_ints 6 (A 88)) := rfl
theorem hg_89 {A F : Nat → Nat → Int32} {dyn : Nat → Option iv_C} : md_h A F dyn 89 = some (100, md_ints 6 (A 89)) := rfl
theorem hg_90 {A F : Nat → Nat → Int32} {dyn : Nat → Option iv_C} : md_h A F dyn 90 = some (100, md_ints 6 (A 90)) := rfl
theorem hg_91 {A F : Nat → Nat → Int32} {dyn : Nat → Option iv_C} : md_h A F dyn 91 = some (100, md_ints 6 (A 91)) := rfl
theorem hg_92 {A F : Nat → Nat → Int32} {dyn : Nat → Option iv_C} : md_h A F dyn 92 = some (100, md_ints 6 (A 92)) := rfl
theorem hg_93 {A F : Nat → Nat → Int32} {dyn : Nat → Option iv_C} : md_h A F dyn 93 = some (100, md_ints 6 (A 93)) := rfl
theorem hg_94 {A F : Nat → Nat → Int32} {dyn : Nat → Option iv_C} : md_h A F dyn 94 = some (100, md_ints 6 (A 94)) := rfl
theorem hg_95 {A F : Nat → Nat → Int32} {dyn : Nat → Option iv_C} : md_h A F dyn 95 = some (100, md_ints 6 (A 95)) := rfl
theorem hg_96 {A F : Nat → Nat → Int32} {dyn : Nat → Option iv_C} : md_h A F dyn 96 = some (100, md_ints 6 (A 96)) := rfl
theorem hg_97 {A F : Nat → Nat → Int32} {dyn : Nat → Option iv_C} : md_h A F dyn 97 = some (100, md_ints 6 (A 97)) := rfl
theorem hg_98 {A F : Nat → Nat → Int32} {dyn : Nat → Option iv_C} : md_h A F dyn 98 = some (100, md_ints 6 (A 98)) := rfl
theorem hg_99 {A F : Nat → Nat → Int32} {dyn : Nat → Option iv_C} : md_h A F dyn 99 = some (100, md_ints 6 (A 99)) := rfl
theorem hg_100 {A F : Nat → Nat → Int32} {dyn : Nat → Option iv_C} : md_h A F dyn 100 = some (100, md_ints 6 (A 100)) := rfl
theorem hg_101 {A F : Nat → Nat → Int32} {dyn : Nat → Option iv_C} : md_h A F dyn 101 = some (100, md_ints 6 (A 101)) := rfl
theorem hg_102 {A F : Nat → Nat → Int32} {dyn : Nat → Option iv_C} : md_h A F dyn 102 = some (100, md_ints 6 (A 102)) := rfl
theorem hg_103 {A F : Nat → Nat → Int32} {dyn : Nat → Option iv_C} : md_h A F dyn 103 = some (106, [.ref 104, .ref 106, .ref 108, .ref 110, .ref 112, .ref 114, .ref 116, .ref 118, .ref 120, .ref 122, .ref 124, .ref 126, .ref 128, .ref 130, .ref 132, .ref 134, .ref 136, .ref 138, .ref 140, .ref 142, .ref 144, .ref 146, .ref 148, .ref 150]) := rfl
theorem hg_104 {A F : Nat → Nat → Int32} {dyn : Nat → Option iv_C} : md_h A F dyn 104 = some (7, [.ref 105, .int (F 104 1)]) := rfl
theorem hg_105 {A F : Nat → Nat → Int32} {dyn : Nat → Option iv_C} : md_h A F dyn 105 = some (100, md_ints 16 (A 105)) := rfl
theorem hg_106 {A F : Nat → Nat → Int32} {dyn : Nat → Option iv_C} : md_h A F dyn 106 = some (7, [.ref 107, .int (F 106 1)]) := rfl
theorem hg_107 {A F : Nat → Nat → Int32} {dyn : Nat → Option iv_C} : md_h A F dyn 107 = some (100, md_ints 16 (A 107)) := rfl
theorem hg_108 {A F : Nat → Nat → Int32} {dyn : Nat → Option iv_C} : md_h A F dyn 108 = some (7, [.ref 109, .int (F 108 1)]) := rfl
theorem hg_109 {A F : Nat → Nat → Int32} {dyn : Nat → Option iv_C} : md_h A F dyn 109 = some (100, md_ints 16 (A 109)) := rfl
theorem hg_110 {A F : Nat → Nat → Int32} {dyn : Nat → Option iv_C} : md_h A F dyn 110 = some (7, [.ref 111, .int (F 110 1)]) := rfl
theorem hg_111 {A F : Nat → Nat → Int32} {dyn : Nat → Option iv_C} : md_h A F dyn 111 = some (100, md_ints 16 (A 111)) := rfl
theorem hg_112 {A F : Nat → Nat → Int32} {dyn : Nat → Option iv_C} : md_h A F dyn 112 = some (7, [.ref 113, .int (F 112 1)]) := rfl
theorem hg_113 {A F : Nat → Nat → Int32} {dyn : Nat → Option iv_C} : md_h A F dyn 113 = some (100, md_ints 16 (A 113)) := rfl
theorem hg_114 {A F : Nat → Nat → Int32} {dyn : Nat → Option iv_C} : md_h A F dyn 114 = some (7, [.ref 115, .int (F 114 1)]) := rfl
theorem hg_115 {A F : Nat → Nat → Int32} {dyn : Nat → Option iv_C} : md_h A F dyn 115 = some (100, md_ints 16 (A 115)) := rfl
theorem hg_116 {A F : Nat → Nat → Int32} {dyn : Nat → Option iv_C} : md_h A F dyn 116 = some (7, [.ref 117, .int (F 116 1)]) := rfl
theorem hg_117 {A F : Nat → Nat → Int32} {dyn : Nat → Option iv_C} : md_h A F dyn 117 = some (100, md_ints 16 (A 117)) := rfl
theorem hg_118 {A F : Nat → Nat → Int32} {dyn : Nat → Option iv_C} : md_h A F dyn 118 = some (7, [.ref 119, .int (F 118 1)]) := rfl
theorem hg_119 {A F : Nat → Nat → Int32} {dyn : Nat → Option iv_C} : md_h A F dyn 119 = some (100, md_ints 16 (A 119)) := rfl
theorem hg_120 {A F : Nat → Nat → Int32} {dyn : Nat → Option iv_C} : md_h A F dyn 120 = some (7, [.ref 121, .int (F 120 1)]) := rfl
theorem hg_121 {A F : Nat → Nat → Int32} {dyn : Nat → Option iv_C} : md_h A F dyn 121 = some (100, md_ints 16 (A 121)) := rfl
theorem hg_122 {A F : Nat → Nat → Int32} {dyn : Nat → Option iv_C} : md_h A F dyn 122 = some (7, [.ref 123, .int (F 122 1)]) := rfl
theorem hg_123 {A F : Nat → Nat → Int32} {dyn : Nat → Option iv_C} : md_h A F dyn 123 = some (100, md_ints 16 (A 123)) := rfl
theorem hg_124 {A F : Nat → Nat → Int32} {dyn : Nat → Option iv_C} : md_h A F dyn 124 = some (7, [.ref 125, .int (F 124 1)]) := rfl
theorem hg_125 {A F : Nat → Nat → Int32} {dyn : Nat → Option iv_C} : md_h A F dyn 125 = some (100, md_ints 16 (A 125)) := rfl
theorem hg_126 {A F : Nat → Nat → Int32} {dyn : Nat → Option iv_C} : md_h A F dyn 126 = some (7, [.ref 127, .int (F 126 1)]) := rfl
theorem hg_127 {A F : Nat → Nat → Int32} {dyn : Nat → Option iv_C} : md_h A F dyn 127 = some (100, md_ints 16 (A 127)) := rfl
theorem hg_128 {A F : Nat → Nat → Int32} {dyn : Nat → Option iv_C} : md_h A F dyn 128 = some (7, [.ref 129, .int (F 128 1)]) := rfl
theorem hg_129 {A F : Nat → Nat → Int32} {dyn : Nat → Option iv_C} : md_h A F dyn 129 = some (100, md_ints 16 (A 129)) := rfl
theorem hg_130 {A F : Nat → Nat → Int32} {dyn : Nat → Option iv_C} : md_h A F dyn 130 = some (7, [.ref 131, .int (F 130 1)]) := rfl
theorem hg_131 {A F : Nat → Nat → Int32} {dyn : Nat → Option iv_C} : md_h A F dyn 131 = some (100, md_ints 16 (A 131)) := rfl
theorem hg_132 {A F : Nat → Nat → Int32} {dyn : Nat → Option iv_C} : md_h A F dyn 132 = some (7, [.ref 133, .int (F 132 1)]) := rfl
theorem hg_133 {A F : Nat → Nat → Int32} {dyn : Nat → Option iv_C} : md_h A F dyn 133 = some (100, md_ints 16 (A 133)) := rfl
theorem hg_134 {A F : Nat → Nat → Int32} {dyn : Nat → Option iv_C} : md_h A F dyn 134 = some (7, [.ref 135, .int (F 134 1)]) := rfl
theorem hg_135 {A F : Nat → Nat → Int32} {dyn : Nat → Option iv_C} : md_h A F dyn 135 = some (100, md_ints 16 (A 135)) := rfl
theorem hg_136 {A F : Nat → Nat → Int32} {dyn : Nat → Option iv_C} : md_h A F dyn 136 = some (7, [.ref 137, .int (F 136 1)]) := rfl
theorem hg_137 {A F : Nat → Nat → Int32} {dyn : Nat → Option iv_C} : md_h A F dyn 137 = some (100, md_ints 16 (A 137)) := rfl
theorem hg_138 {A F : Nat → Nat → Int32} {dyn : Nat → Option iv_C} : md_h A F dyn 138 = some (7, [.ref 139, .int (F 138 1)]) := rfl
theorem hg_139 {A F : Nat → Nat → Int32} {dyn : Nat → Option iv_C} : md_h A F dyn 139 = some (100, md_ints 16 (A 139)) := rfl
theorem hg_140 {A F : Nat → Nat → Int32} {dyn : Nat → Option iv_C} : md_h A F dyn 140 = some (7, [.ref 141, .int (F 140 1)]) := rfl
theorem hg_141 {A F : Nat → Nat → Int32} {dyn : Nat → Option iv_C} : md_h A F dyn 141 = some (100, md_ints 16 (A 141)) := rfl
theorem hg_142 {A F : Nat → Nat → Int32} {dyn : Nat → Option iv_C} : md_h A F dyn 142 = some (7, [.ref 143, .int (F 142 1)]) := rfl
theorem hg_143 {A F : Nat → Nat → Int32} {dyn : Nat → Option iv_C} : md_h A F dyn 143 = some (100, md_ints 16 (A 143)) := rfl
theorem hg_144 {A F : Nat → Nat → Int32} {dyn : Nat → Option iv_C} : md_h A F dyn 144 = some (7, [.ref 145, .int (F 144 1)]) := rfl
theorem hg_145 {A F : Nat → Nat → Int32} {dyn : Nat → Option iv_C} : md_h A F dyn 145 = some (100, md_ints 16 (A 145)) := rfl
theorem hg_146 {A F : Nat → Nat → Int32} {dyn : Nat → Option iv_C} : md_h A F dyn 146 = some (7, [.ref 147, .int (F 146 1)]) := rfl
theorem hg_147 {A F : Nat → Nat → Int32} {dyn : Nat → Option iv_C} : md_h A F dyn 147 = some (100, md_ints 16 (A 147)) := rfl
theorem hg_148 {A F : Nat → Nat → Int32} {dyn : Nat → Option iv_C} : md_h A F dyn 148 = some (7, [.ref 149, .int (F 148 1)]) := rfl
theorem hg_149 {A F : Nat → Nat → Int32} {dyn : Nat → Option iv_C} : md_h A F dyn 149 = some (100, md_ints 16 (A 149)) := rfl
theorem hg_150 {A F : Nat → Nat → Int32} {dyn : Nat → Option iv_C} : md_h A F dyn 150 = some (7, [.ref 151, .int (F 150 1)]) := rfl
theorem hg_151 {A F : Nat → Nat → Int32} {dyn : Nat → Option iv_C} : md_h A F dyn 151 = some (100, md_ints 16 (A 151)) := rfl
theorem hg_152 {A F : Nat → Nat → Int32} {dyn : Nat → Option iv_C} : md_h A F dyn 152 = some (7, [.ref 153, .int (F 152 1)]) := rfl
theorem hg_153 {A F : Nat → Nat → Int32} {dyn : Nat → Option iv_C} : md_h A F dyn 153 = some (100, md_ints 16 (A 153)) := rfl
theorem hg_154 {A F : Nat → Nat → Int32} {dyn : Nat → Option iv_C} : md_h A F dyn 154 = some (102, md_ints 112 (A 154)) := rfl
theorem hg_155 {A F : Nat → Nat → Int32} {dyn : Nat → Option iv_C} : md_h A F dyn 155 = some (2, [.ref 2, .ref 35, .ref 44, .ref 53, .ref 77, .ref 156, .ref 157, .int (F 155 7), .int (F 155 8)]) := rfl
theorem hg_156 {A F : Nat → Nat → Int32} {dyn : Nat → Option iv_C} : md_h A F dyn 156 = some (100, md_ints 16 (A 156)) := rfl
theorem hg_157 {A F : Nat → Nat → Int32} {dyn : Nat → Option iv_C} : md_h A F dyn 157 = some (100, md_ints 16 (A 157)) := rfl
theorem hg_158 {A F : Nat → Nat → Int32} {dyn : Nat → Option iv_C} : md_h A F dyn 158 = some (1, [.int (F 158 0), .ref 159, .int (F 158 2), .ref 160, .ref 161, .ref 162, .ref 163, .int (F 158 7), .ref 164, .ref 165, .ref 166, .ref 167, .ref 168, .ref 169, .ref 170, .ref 171, .ref 172, .ref 173, .ref 174, .ref 175, .ref 176, .ref 177, .ref 178, .ref 179, .int (F 158 24), .ref 180, .ref 181, .ref 182, .int (F 158 28), .ref 183, .ref 184, .ref 185, .ref 186, .ref 187, .ref 188, .ref 189, .ref 190, .ref 191, .ref 192, .int (F 158 39), .ref 193, .int (F 158 41), .ref 194, .ref 195, .ref 196, .ref 197, .ref 198, .int (F 158 47)]) := rfl
theorem hg_159 {A F : Nat → Nat → Int32} {dyn : Nat → Option iv_C} : md_h A F dyn 159 = some (100, md_ints 6 (A 159)) := rfl
theorem hg_160 {A F : Nat → Nat → Int32} {dyn : Nat → Option iv_C} : md_h A F dyn 160 = some (100, md_ints 14 (A 160)) := rfl
theorem hg_161 {A F : Nat → Nat → Int32} {dyn : Nat → Option iv_C} : md_h A F dyn 161 = some (100, md_ints 14 (A 161)) := rfl
theorem hg_162 {A F : Nat → Nat → Int32} {dyn : Nat → Option iv_C} : md_h A F dyn 162 = some (101, md_ints 14 (A 162)) := rfl
theorem hg_163 {A F : Nat → Nat → Int32} {dyn : Nat → Option iv_C} : md_h A F dyn 163 = some (100, md_ints 84 (A 163)) := rfl
theorem hg_164 {A F : Nat → Nat → Int32} {dyn : Nat → Option iv_C} : md_h A F dyn 164 = some (100, md_ints 24 (A 164)) := rfl
theorem hg_165 {A F : Nat → Nat → Int32} {dyn : Nat → Option iv_C} : md_h A F dyn 165 = some (101, md_ints 24 (A 165)) := rfl
theorem hg_166 {A F : Nat → Nat → Int32} {dyn : Nat → Option iv_C} : md_h A F dyn 166 = some (100, md_ints 24 (A 166)) := rfl
theorem hg_167 {A F : Nat → Nat → Int32} {dyn : Nat → Option iv_C} : md_h A F dyn 167 = some (100, md_ints 24 (A 167)) := rfl
theorem hg_168 {A F : Nat → Nat → Int32} {dyn : Nat → Option iv_C} : md_h A F dyn 168 = some (100, md_ints 24 (A 168)) := rfl
theorem hg_169 {A F : Nat → Nat → Int32} {dyn : Nat → Option iv_C} : md_h A F dyn 169 = some (100, md_ints 24 (A 169)) := rfl
theorem hg_170 {A F : Nat → Nat → Int32} {dyn : Nat → Option iv_C} : md_h A F dyn 170 = some (100, md_ints 3 (A 170)) := rfl
theorem hg_171 {A F : Nat → Nat → Int32} {dyn : Nat → Option iv_C} : md_h A F dyn 171 = some (100, md_ints 9 (A 171)) := rfl
theorem hg_172 {A F : Nat → Nat → Int32} {dyn : Nat → Option iv_C} : md_h A F dyn 172 = some (100, md_ints 9 (A 172)) := rfl
theorem hg_173 {A F : Nat → Nat → Int32} {dyn : Nat → Option iv_C} : md_h A F dyn 173 = some (100, md_ints 9 (A 173)) := rfl
theorem hg_174 {A F : Nat → Nat → Int32} {dyn : Nat → Option iv_C} : md_h A F dyn 174 = some (101, md_ints 3 (A 174)) := rfl
theorem hg_175 {A F : Nat → Nat → Int32} {dyn : Nat → Option iv_C} : md_h A F dyn 175 = some (100, md_ints 6 (A 175)) := rfl
theorem hg_176 {A F : Nat → Nat → Int32} {dyn : Nat → Option iv_C} : md_h A F dyn 176 = some (100, md_ints 2 (A 176)) := rfl
theorem hg_177 {A F : Nat → Nat → Int32} {dyn : Nat → Option iv_C} : md_h A F dyn 177 = some (100, md_ints 8 (A 177)) := rfl
theorem hg_178 {A F : Nat → Nat → Int32} {dyn : Nat → Option iv_C} : md_h A F dyn 178 = some (100, md_ints 6 (A 178)) := rfl
theorem hg_179 {A F : Nat → Nat → Int32} {dyn : Nat → Option iv_C} : md_h A F dyn 179 = some (100, md_ints 24 (A 179)) := rfl
theorem hg_180 {A F : Nat → Nat → Int32} {dyn : Nat → Option iv_C} : md_h A F dyn 180 = some (100, md_ints 10 (A 180)) := rfl
theorem hg_181 {A F : Nat → Nat → Int32} {dyn : Nat → Option iv_C} : md_h A F dyn 181 = some (100, md_ints 140 (A 181)) := rfl
theorem hg_182 {A F : Nat → Nat → Int32} {dyn : Nat → Option iv_C} : md_h A F dyn 182 = some (100, md_ints 420 (A 182)) := rfl
theorem hg_183 {A F : Nat → Nat → Int32} {dyn : Nat → Option iv_C} : md_h A F dyn 183 = some (100, md_ints 16 (A 183)) := rfl
theorem hg_184 {A F : Nat → Nat → Int32} {dyn : Nat → Option iv_C} : md_h A F dyn 184 = some (100, md_ints 16 (A 184)) := rfl
theorem hg_185 {A F : Nat → Nat → Int32} {dyn : Nat → Option iv_C} : md_h A F dyn 185 = some (100, md_ints 16 (A 185)) := rfl
theorem hg_186 {A F : Nat → Nat → Int32} {dyn : Nat → Option iv_C} : md_h A F dyn 186 = some (100, md_ints 16 (A 186)) := rfl
theorem hg_187 {A F : Nat → Nat → Int32} {dyn : Nat → Option iv_C} : md_h A F dyn 187 = some (101, md_ints 16 (A 187)) := rfl
theorem hg_188 {A F : Nat → Nat → Int32} {dyn : Nat → Option iv_C} : md_h A F dyn 188 = some (100, md_ints 16 (A 188)) := rfl
theorem hg_189 {A F : Nat → Nat → Int32} {dyn : Nat → Option iv_C} : md_h A F dyn 189 = some (100, md_ints 16 (A 189)) := rfl
theorem hg_190 {A F : Nat → Nat → Int32} {dyn : Nat → Option iv_C} : md_h A F dyn 190 = some (100, md_ints 16 (A 190)) := rfl
theorem hg_191 {A F : Nat → Nat → Int32} {dyn : Nat → Option iv_C} : md_h A F dyn 191 = some (100, md_ints 17 (A 191)) := rfl
theorem hg_192 {A F : Nat → Nat → Int32} {dyn : Nat → Option iv_C} : md_h A F dyn 192 = some (100, md_ints 17 (A 192)) := rfl
theorem hg_193 {A F : Nat → Nat → Int32} {dyn : Nat → Option iv_C} : md_h A F dyn 193 = some (100, md_ints 16 (A 193)) := rfl
theorem hg_194 {A F : Nat → Nat → Int32} {dyn : Nat → Option iv_C} : md_h A F dyn 194 = some (100, md_ints 144 (A 194)) := rfl
theorem hg_195 {A F : Nat → Nat → Int32} {dyn : Nat → Option iv_C} : md_h A F dyn 195 = some (100, md_ints 24 (A 195)) := rfl
theorem hg_196 {A F : Nat → Nat → Int32} {dyn : Nat → Option iv_C} : md_h A F dyn 196 = some (100, md_ints 384 (A 196)) := rfl
theorem hg_197 {A F : Nat → Nat → Int32} {dyn : Nat → Option iv_C} : md_h A F dyn 197 = some (100, md_ints 384 (A 197)) := rfl
theorem hg_198 {A F : Nat → Nat → Int32} {dyn : Nat → Option iv_C} : md_h A F dyn 198 = some (100, md_ints 128 (A 198)) := rfl
