/-! the fresh state, and the law -/
def g00 : Gs := fun b _ j => if b = 45 then ([1, 2, 4, 8, 16, 32] : List Int32).getD j 0 else 0
theorem g00_0 {b r j : Nat} (h : b ≠ 45) : g00 b r j = nI 0 := by
  unfold g00
  rw [if_neg h]
  rfl
theorem g00_45 {x : Nat} (h : x < 6) : g00 45 0 x = bt x := by
  have : ∀ x, x < 6 → g00 45 0 x = bt x := by decide
  exact this x h
theorem g00_A : gA g00 = md_A0 := by
  funext k j
  show g00 (ga k).1 (ga k).2 j = md_A0 k j
  by_cases h : k = 45
  · subst h
    rfl
  · have h1 : (ga k).1 ≠ 45 := by
      unfold ga
      repeat' split
      all_goals (dsimp only; omega)
    unfold g00 md_A0
    rw [if_neg h1, if_neg h]
theorem g00_F : gF g00 = md_F0 := by
  funext k i
  show g00 (gfb k i).1 (gfb k i).2.1 (gfb k i).2.2 = md_F0 k i
  have h1 : (gfb k i).1 ≠ 45 := by
    have := (gfb_all k i).2.1
    omega
  unfold g00 md_F0
  rw [if_neg h1]
theorem Iv_0 {L : Nat} {xs : Nat → Int32} {dyn : Nat → Option iv_C} (h0 : dyn 0 = some (150, md_ints L xs)) (hd : ∀ k, k = 36 ∨ k = 39 ∨ k = 41 ∨ k = 43 → dyn k = md_d0 k) : Iv L xs 0 (md_h md_A0 md_F0 dyn, 198, 3901) := by
  have e : (md_h md_A0 md_F0 dyn, 198, 3901) = ((gh g00 dyn, 198, 3901) : iv_S) := by
    unfold gh
    rw [g00_A, g00_F]
  rw [e]
  refine ⟨0, 0, 0, 0, g00, dyn, 198, 3901, rfl, h0, by omega, by omega, by omega, ?_, ?_, ?_, ?_, ?_, ?_, ?_, ?_, ?_⟩
  · exact ⟨by omega, g00_0 (by decide), g00_0 (by decide), fun c hc => absurd hc (by omega)⟩
  · exact ⟨by omega, g00_0 (by decide), g00_0 (by decide), fun i hi => absurd hi (by omega), fun i _ _ => ⟨g00_0 (by decide), g00_0 (by decide), fun h _ => g00_0 (by decide)⟩⟩
  · intro x hx
    rw [g00_45 hx]
    have h175 : ∀ k y, tb (g00 175 0 k) y = false := fun k y => by
      rw [g00_0 (by decide)]
      exact tb_0 y
    refine ⟨by rw [tb_bt (by omega) (by omega)]; exact decide_eq_true rfl, fun k _ _ y _ h => absurd h (by rw [h175]; simp), fun S hS _ y hy h => ?_, fun y h1 h2 => ⟨by rw [tb_bt (by omega) h2]; exact decide_eq_false (by omega), h175 x y⟩⟩
    rw [tb_bt (by omega) (by omega)] at h
    rw [← of_decide_eq_true h]
    exact hS
  · exact fun q _ => ⟨0, by omega, g00_0 (by decide), g00_0 (by decide), fun j hj => absurd hj (by omega)⟩
  · exact fun c _ => ⟨0, by omega, g00_0 (by decide), g00_0 (by decide), fun j hj => absurd hj (by omega)⟩
  · exact ⟨by omega, g00_0 (by decide), g00_0 (by decide), fun i hi => absurd hi (by omega), fun i _ j hj => absurd hj (by omega), fun i _ j _ _ => g00_0 (by decide)⟩
  · exact ⟨by omega, g00_0 (by decide), g00_0 (by decide), List.replicate 24 .null, hd 36 (.inl rfl), by simp, fun i hi => absurd hi (by omega)⟩
  · intro x hx
    refine ⟨0, false, List.replicate 3 .null, by omega, g00_0 (by decide), g00_0 (by decide), g00_0 (by decide), g00_0 (by decide), ?_, by simp, fun j hj => absurd hj (by omega)⟩
    have h3 : x = 0 ∨ x = 1 ∨ x = 2 := by omega
    rcases h3 with rfl | rfl | rfl
    · exact hd 39 (.inr (.inl rfl))
    · exact hd 41 (.inr (.inr (.inl rfl)))
    · exact hd 43 (.inr (.inr (.inr rfl)))
  · exact ⟨⟨0, by omega, g00_0 (by decide), g00_0 (by decide), fun k hk => absurd hk (by omega)⟩, by rw [g00_0 (by decide), g00_0 (by decide)], g00_0 (by decide), g00_0 (by decide)⟩
theorem Iv_w0 {L N : Nat} {xs : Nat → Int32} {w : iv_S} (h : Iv L xs N w) : w.1 0 = some (150, md_ints L xs) := by
  obtain ⟨t, f, r, p, g, dyn, n, z, rfl, h0, _⟩ := h
  exact h0
theorem pu_law (L : Nat) (xs : Nat → Int32) (hL : L ≤ 3584) : ∃ (d : Nat) (w' : iv_S), iv_V (iv_X d) iv_lc (some .boolean) 0 (.ref 0 :: List.replicate (iv_lL - 1) iv_un) [] (iv_w0 L xs) = some (some (.int 1), w') ∧ (d + 1 ≤ room_1.frames ∧ 64 * d + 64 ≤ room_1.locals) ∧ (w'.2.1 ≤ room_1.cells ∧ w'.2.2 ≤ room_1.slots) := by
  have hd : 100 ≤ 996 + 4 := by omega
  refine lw_whole (P := Iv L xs) 996 L xs hL (by omega) (fun dyn h1 h2 => Iv_0 h1 h2) (fun n w h hn => ?_) (fun w hw => ?_)
  · obtain ⟨t, f, r, p, g, dyn, n', z, rfl, h0, h1, h2, h3, _⟩ := h
    exact ⟨by show n' ≤ _; omega, by show z ≤ _; omega⟩
  · obtain ⟨w', h1, h2⟩ := lw_loop (d := 996 + 4) (P := Iv L xs) (by omega) (fun n w h => Iv_w0 h) (fun n w h _ => Iv_up h)
      (fun w n h _ => pr_type hd (xs (7 * n + 1)) h)
      (fun w n h _ => pr_field hd (xs (7 * n + 1)) (xs (7 * n + 2)) h)
      (fun w n h _ => pr_rule hd (xs (7 * n + 1)) (xs (7 * n + 2)) (xs (7 * n + 3)) (xs (7 * n + 4)) (xs (7 * n + 5)) (xs (7 * n + 6)) h)
      (fun w n h _ => pr_part hd (xs (7 * n + 1)) (xs (7 * n + 2)) (xs (7 * n + 3)) (xs (7 * n + 4)) h)
      (fun w n h _ => pr_single hd (xs (7 * n + 1)) (xs (7 * n + 2)) h)
      (fun w n h _ => pr_extend hd (xs (7 * n + 1)) (xs (7 * n + 2)) h)
      (fun w n h _ => pr_member hd (xs (7 * n + 1)) (xs (7 * n + 2)) h)
      (fun w n h _ => pr_order hd (xs (7 * n + 1)) (xs (7 * n + 2)) h)
      (fun w n h _ => pr_cascade hd (xs (7 * n + 1)) h)
      (fun w n h _ => pr_convert hd (xs (7 * n + 1)) (xs (7 * n + 2)) (xs (7 * n + 3)) h)
      (fun w n h _ => pr_object hd (xs (7 * n + 1)) h)
      (fun w n h _ => pr_put hd (xs (7 * n + 1)) (xs (7 * n + 2)) (xs (7 * n + 3)) h)
      (fun w n h _ => pr_append hd (xs (7 * n + 1)) (xs (7 * n + 2)) (xs (7 * n + 3)) h)
      (fun w n h _ => pr_clear hd (xs (7 * n + 1)) (xs (7 * n + 2)) (xs (7 * n + 3)) h)
      (fun w n h _ => pr_validate hd (xs (7 * n + 1)) (xs (7 * n + 2)) h)
      (fun w n h _ => pr_look hd (xs (7 * n + 1)) (xs (7 * n + 2)) (xs (7 * n + 3)) h)
      (fun w n h _ => pr_found hd h)
      (fun w n h _ => pr_visits hd h)
      (fun w n h _ => pr_violation hd (xs (7 * n + 1)) (xs (7 * n + 2)) h)
      (fun w n h _ => pr_way hd (xs (7 * n + 1)) (xs (7 * n + 2)) h)
      (L / 7) 0 w (by omega) (by omega) hw
    rw [Nat.zero_add] at h2
    exact ⟨w', h1, h2⟩
