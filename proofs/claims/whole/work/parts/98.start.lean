/-! the claim out of the small machine's run of the law -/
/-- WANTING: the small machine runs the law to 1 on every script, in the room -/
theorem pu_law (L : Nat) (xs : Nat → Int32) (hL : L ≤ 3584) : ∃ (d : Nat) (w' : iv_S), iv_V (iv_X d) iv_lc (some .boolean) 0 (.ref 0 :: List.replicate (iv_lL - 1) iv_un) [] (iv_w0 L xs) = some (some (.int 1), w') ∧ (d + 1 ≤ room_1.frames ∧ 64 * d + 64 ≤ room_1.locals) ∧ (w'.2.1 ≤ room_1.cells ∧ w'.2.2 ≤ room_1.slots) := by
  sorry
theorem whole_start {p : Program} {e : Env} {s : State} {m : MethodId} {below : List Frame} {meth : Method} {c : Code} (l : Launch) {b L : Nat} {xs : Nat → Int32} (hL : L ≤ 3584) (C0 : lw_At p s m meth c b L xs) : W p l e room_1 s m #[Value.ref b] below meth c s.heap [] 0 0 (lw_Z below #[Value.ref b] s) (entryFrame m ([Value.ref b] : List Value).toArray 4) := by
  obtain ⟨d, w', h1, h2, h3⟩ := pu_law L xs hL
  exact iv_law l C0 ck_ok h1 h2 h3
