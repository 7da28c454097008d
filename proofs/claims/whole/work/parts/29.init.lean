/-! from the law's entry to its loop -/
theorem lw_init (d L : Nat) (xs : Nat → Int32) : ∃ dyn : Nat → Option iv_C, dyn 0 = some (150, md_ints L xs) ∧ (∀ k, k = 36 ∨ k = 39 ∨ k = 41 ∨ k = 43 → dyn k = md_d0 k) ∧
    iv_V (iv_X (d + 4)) mc_1 (some .boolean) 0 [.ref 0, iv_un, iv_un, iv_un] [] (iv_w0 L xs) = iv_V (iv_X (d + 4)) mc_1 (some .boolean) 10 [.ref 0, .ref 1, .ref 158, .int (nI 0)] [] (md_h md_A0 md_F0 dyn, 198, 3901) := by
  obtain ⟨⟨wh, wn⟩, w2, h1, h2, h3, dyn, h4, h5, h6⟩ := md_start (150, md_ints L xs)
  cases h2
  subst h4
  refine ⟨dyn, h5, h6, ?_⟩
  rw [e1_0]
  show iv_V (iv_X (d + 4)) mc_1 (some .boolean) 1 [.ref 0, iv_un, iv_un, iv_un] [.ref 1] (iv_put (md_e (150, md_ints L xs)) 1 (0, [.null, .null, .null, .null, .null, .null]), 1, 6) = _
  rw [e1_1, q_d1r, e1_2, iv_inv1 (Nat.le_of_ble_eq_true rfl) rfl rfl, h1 d, iv_res_v, e1_3, q_as, q_stos, q_sto0, e1_4]
  show iv_V (iv_X (d + 4)) mc_1 (some .boolean) 5 [.ref 0, .ref 1, iv_un, iv_un] [.ref 158] (iv_put wh 158 (1, md_dm), 158, 1734) = _
  rw [e1_5, q_d1r, e1_6, iv_inv1 (Nat.le_of_ble_eq_true rfl) rfl rfl, h3 d, iv_res_v, e1_7, q_as, q_stos, q_stos, q_sto0, e1_8, e1_9, q_p1, q_stos, q_stos, q_stos, q_sto0]
  rfl
/-- what is left to show: an invariant that holds at first, is kept by each call, and keeps the room -/
theorem lw_whole {P : Nat → iv_S → Prop} (d L : Nat) (xs : Nat → Int32) (hL : L ≤ 3584) (hd : d ≤ 1000) (h0 : ∀ dyn : Nat → Option iv_C, dyn 0 = some (150, md_ints L xs) → (∀ k, k = 36 ∨ k = 39 ∨ k = 41 ∨ k = 43 → dyn k = md_d0 k) → P 0 (md_h md_A0 md_F0 dyn, 198, 3901))
    (hend : ∀ n w, P n w → n ≤ 512 → w.2.1 ≤ 653207 ∧ w.2.2 ≤ 7142626) (hrun : ∀ w, P 0 w → ∃ w' : iv_S, iv_V (iv_X (d + 4)) mc_1 (some .boolean) 10 [.ref 0, .ref 1, .ref 158, .int (nI 0)] [] w = some (some (.int 1), w') ∧ P (L / 7) w') :
    ∃ (d : Nat) (w' : iv_S), iv_V (iv_X d) iv_lc (some .boolean) 0 (.ref 0 :: List.replicate (iv_lL - 1) iv_un) [] (iv_w0 L xs) = some (some (.int 1), w') ∧ (d + 1 ≤ room_1.frames ∧ 64 * d + 64 ≤ room_1.locals) ∧ (w'.2.1 ≤ room_1.cells ∧ w'.2.2 ≤ room_1.slots) := by
  obtain ⟨dyn, g1, g2, g3⟩ := lw_init d L xs
  obtain ⟨w', g4, g5⟩ := hrun _ (h0 dyn g1 g2)
  obtain ⟨g6, g7⟩ := hend _ _ g5 (by omega)
  refine ⟨d + 4, w', g3.trans g4, ⟨?_, ?_⟩, g6, g7⟩
  · show d + 4 + 1 ≤ 2048
    omega
  · show 64 * (d + 4) + 64 ≤ 84000
    omega
