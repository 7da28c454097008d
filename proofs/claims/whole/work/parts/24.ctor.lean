/-! the two constructors, by counting -/
def md_A0 : Nat → Nat → Int32 := fun k j => if k = 45 then ([1, 2, 4, 8, 16, 32] : List Int32).getD j 0 else 0
def md_F0 : Nat → Nat → Int32 := fun _ _ => 0
def md_w1 : iv_S := (fun k => if k = 1 then some (0, [.null, .null, .null, .null, .null, .null]) else none, 1, 6)
def md_d0 (k : Nat) : Option iv_C := match k with
  | 36 => some (107, List.replicate 24 .null)
  | 39 => some (105, List.replicate 3 .null)
  | 41 => some (105, List.replicate 3 .null)
  | 43 => some (105, List.replicate 3 .null)
  | _ => none
def md_ck (lo hi : Nat) (r : iv_R) (n z : Nat) : Bool := match r with
  | some (none, w) => decide (w.2.1 = n) && decide (w.2.2 = z) && (List.range (hi - lo)).all (fun k => decide (w.1 (lo + k) = md_h md_A0 md_F0 md_d0 (lo + k)))
  | _ => false
theorem md_c1 : md_ck 1 158 (iv_call 1000 4 2 [.ref 1] md_w1) 157 1686 = true := by decide +kernel
def md_z (r : iv_R) : Bool := match r with
  | some (_, w) => decide (w.1 0 = none)
  | none => true
def md_get (r : iv_R) : iv_S := match r with
  | some (_, w) => w
  | none => (fun _ => none, 0, 0)
def md_r1 : iv_S := md_get (iv_call 1000 4 2 [.ref 1] md_w1)
def md_dm : List Value := [.int 0, .null, .int 0, .null, .null, .null, .null, .int 0, .null, .null, .null, .null, .null, .null, .null, .null, .null, .null, .null, .null, .null, .null, .null, .null, .int 0, .null, .null, .null, .int 0, .null, .null, .null, .null, .null, .null, .null, .null, .null, .null, .int 0, .null, .int 0, .null, .null, .null, .null, .null, .int 0]
def md_w2 : iv_S := (iv_put md_r1.1 158 (1, md_dm), 158, 1734)
theorem md_c2 : md_ck 1 199 (iv_call 1000 2 24 [.ref 158] md_w2) 198 3901 = true := by decide +kernel
theorem md_ck_of {lo hi n z : Nat} {r : iv_R} (h : md_ck lo hi r n z = true) : ∃ w : iv_S, r = some (none, w) ∧ w.2.1 = n ∧ w.2.2 = z ∧ ∀ k, lo ≤ k → k < hi → w.1 k = md_h md_A0 md_F0 md_d0 k := by
  unfold md_ck at h
  split at h
  · rename_i w
    simp only [Bool.and_eq_true, decide_eq_true_eq, List.all_eq_true, List.mem_range] at h
    refine ⟨w, rfl, h.1.1, h.1.2, fun k h1 h2 => ?_⟩
    have h3 := h.2 (k - lo) (by omega)
    rwa [show lo + (k - lo) = k by omega] at h3
  · cases h
theorem md_c20 (w : iv_S) (h : iv_call 1000 2 24 [.ref 158] md_w2 = some (none, w)) : w.1 0 = none := by
  have h1 : md_z (iv_call 1000 2 24 [.ref 158] md_w2) = true := by decide +kernel
  rw [h] at h1
  exact of_decide_eq_true h1
/-- the script's cell, and the state behind both constructors -/
def md_e (c0 : iv_C) (k : Nat) : Option iv_C := if k = 0 then some c0 else none
theorem md_start (c0 : iv_C) : ∃ w1 w2 : iv_S, (∀ d, iv_X (d + 4) 2 [.ref 1] (iv_put (md_e c0) 1 (0, [.null, .null, .null, .null, .null, .null]), 1, 6) = some (none, w1)) ∧ w1.2 = (157, 1686) ∧ (∀ d, iv_X (d + 4) 24 [.ref 158] (iv_put w1.1 158 (1, md_dm), 158, 1734) = some (none, w2)) ∧
    ∃ dyn, w2 = (md_h md_A0 md_F0 dyn, 198, 3901) ∧ dyn 0 = some c0 ∧ ∀ k, k = 36 ∨ k = 39 ∨ k = 41 ∨ k = 43 → dyn k = md_d0 k := by
  obtain ⟨v1, h1, h2, h3, h4⟩ := md_ck_of md_c1
  obtain ⟨v2, g1, g2, g3, g4⟩ := md_ck_of md_c2
  have hr : md_r1 = v1 := by unfold md_r1; rw [h1]; rfl
  have e1 : iv_ext (md_e c0) md_w1 = (iv_put (md_e c0) 1 (0, [.null, .null, .null, .null, .null, .null]), 1, 6) := by
    refine Prod.ext (funext fun k => ?_) rfl
    simp only [iv_ext, md_w1, iv_put]
    by_cases hk : k = 1
    · simp only [if_pos hk]
    · simp only [if_neg hk]
  have e2 : iv_ext (md_e c0) md_w2 = (iv_put (iv_ext (md_e c0) v1).1 158 (1, md_dm), 158, 1734) := by
    unfold md_w2
    rw [iv_ext_put, hr]
  have c1 := iv_call_x (e := md_e c0) 1000 4 2 [.ref 1] md_w1 _ h1
  have c2 := iv_call_x (e := md_e c0) 1000 2 24 [.ref 158] md_w2 _ g1
  rw [e1] at c1
  rw [e2] at c2
  refine ⟨iv_ext (md_e c0) v1, iv_ext (md_e c0) v2, fun d => iv_X_mono 4 (d + 4) _ _ _ _ (by omega) (iv_X_call 1000 4 _ _ _ _ c1), Prod.ext h2 h3, fun d => iv_X_mono 2 (d + 4) _ _ _ _ (by omega) (iv_X_call 1000 2 _ _ _ _ c2), (iv_ext (md_e c0) v2).1, ?_, ?_, ?_⟩
  · refine Prod.ext (funext fun k => ?_) (Prod.ext g2 g3)
    show (iv_ext (md_e c0) v2).1 k = md_h md_A0 md_F0 (iv_ext (md_e c0) v2).1 k
    cases h : md_ly[k]? with
    | none => rw [md_dyn (fun q hq => by rw [h] at hq; cases hq)]
    | some q => cases q with
      | none => rw [md_dyn (fun q hq => by rw [h] at hq; cases hq)]
      | some q =>
        have hk : k < md_ly.length := (List.getElem?_eq_some_iff.mp h).1
        rw [show md_ly.length = 199 by decide +kernel] at hk
        have hk0 : 1 ≤ k := by
          rcases Nat.eq_zero_or_pos k with h0 | h0
          · rw [h0] at h; cases h
          · exact h0
        have h5 := g4 k hk0 hk
        have h6 : md_h md_A0 md_F0 md_d0 k = some (md_cell md_A0 md_F0 k q) := by simp only [md_h, h]
        have h7 : md_h md_A0 md_F0 (iv_ext (md_e c0) v2).1 k = some (md_cell md_A0 md_F0 k q) := by simp only [md_h, h]
        rw [h7]
        exact iv_ext_at (h5.trans h6)
  · have g0 : v2.1 0 = none ∨ ∃ c, v2.1 0 = some c := by cases v2.1 0 with
      | none => exact Or.inl rfl
      | some c => exact Or.inr ⟨c, rfl⟩
    have g5 : v2.1 0 = none := md_c20 v2 g1
    simp only [iv_ext, g5, md_e, if_true]
  · intro k hk
    have hk1 : 1 ≤ k ∧ k < 199 ∧ ∀ q, md_ly[k]? ≠ some (some q) := by
      rcases hk with rfl | rfl | rfl | rfl
      · exact ⟨by omega, by omega, fun q h => by cases h⟩
      · exact ⟨by omega, by omega, fun q h => by cases h⟩
      · exact ⟨by omega, by omega, fun q h => by cases h⟩
      · exact ⟨by omega, by omega, fun q h => by cases h⟩
    have h5 := g4 k hk1.1 hk1.2.1
    rw [md_dyn hk1.2.2] at h5
    have h6 : ∃ c, md_d0 k = some c := by
      rcases hk with rfl | rfl | rfl | rfl
      · exact ⟨_, rfl⟩
      · exact ⟨_, rfl⟩
      · exact ⟨_, rfl⟩
      · exact ⟨_, rfl⟩
    obtain ⟨c, h6⟩ := h6
    rw [h6] at h5 ⊢
    exact iv_ext_at h5
