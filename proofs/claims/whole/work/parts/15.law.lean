/-! the law: a run of the small machine that answers 1 gives the law's walk -/
def iv_w0 (L : Nat) (xs : Nat → Int32) : iv_S := (fun k => if k = 0 then some (150, (List.range L).map fun j => .int (xs j)) else none, 0, 0)
theorem iv_known {s : State} {A : Array Value} (hts : ∀ w ∈ lw_tbl, w.before A s = true) : ∃ D : va_G, iv_Kw D s := by
  have h : ∀ i : Nat, ∃ (cC : ClassId) (iS : Nat → Nat), ∀ q : vw_C, iv_cl[i]? = some q → u_Kn s q.1 q.2.1 q.2.2 cC iS := by
    intro i
    cases hq : iv_cl[i]? with
    | none => exact ⟨0, fun _ => 0, fun q h => by cases h⟩
    | some q =>
      have ck := ck_cl i q hq
      obtain ⟨cC, iS, h⟩ := u_known (ws := lw_tbl) hts (fun w hw => (ck.2.1 w hw).1) (hts _ ck.2.2.2.2.1)
      exact ⟨cC, iS, fun q' h' => by cases h'; exact h⟩
  refine ⟨(fun i => Classical.choose (h i), fun i => Classical.choose (Classical.choose_spec (h i))), fun i q hq => Classical.choose_spec (Classical.choose_spec (h i)) q hq, fun w hw hs => iv_stay hs (State.WarmedH.refl s) (hts w hw)⟩
set_option maxHeartbeats 4000000 in
theorem iv_law {p : Program} {e : Env} {s : State} {m : MethodId} {below : List Frame} {meth : Method} {c : Code} (l : Launch) {b L : Nat} {xs : Nat → Int32} (C0 : lw_At p s m meth c b L xs) {d : Nat} {w' : iv_S} (hok : ∀ x mL rt code, iv_M x = some (mL, rt, code) → iv_okm x code)
    (hrun : iv_V (iv_X d) iv_lc (some .boolean) 0 (.ref 0 :: List.replicate (iv_lL - 1) iv_un) [] (iv_w0 L xs) = some (some (.int 1), w')) (hF : d + 1 ≤ room_1.frames ∧ 64 * d + 64 ≤ room_1.locals) (hC : w'.2.1 ≤ room_1.cells ∧ w'.2.2 ≤ room_1.slots) :
    W p l e room_1 s m #[Value.ref b] below meth c s.heap [] 0 0 (lw_Z below #[Value.ref b] s) (entryFrame m ([Value.ref b] : List Value).toArray iv_lL) := by
  obtain ⟨hx, hb, hr, hml, hown, hts, hX, hbl, hlocks, -⟩ := C0
  obtain ⟨D, hW⟩ := iv_known hts
  rw [lg_entry_eq]
  obtain ⟨hok0, hok1⟩ := ck_law
  obtain ⟨n, hrun⟩ := iv_V_run hrun
  have hrep : iv_rep D b s.heap.size s (iv_w0 L xs) s.heap := by
    refine ⟨rfl, fun k x hk => ?_⟩
    simp only [iv_w0] at hk
    split at hk
    · rename_i hk0
      subst hk0
      cases hk
      obtain ⟨scr, h1, h2, h3, h4, h5⟩ := hX
      refine ⟨Or.inr ⟨.int, scr, ck_scr, h1, h2, h3, ?_, fun h => by cases h⟩, fun h => absurd rfl h⟩
      apply Array.ext_getElem?
      intro j
      conv => rhs; rw [List.getElem?_toArray, List.map_map, List.getElem?_map]
      by_cases hj : j < L
      · rw [h5 j hj, List.getElem?_range hj]; rfl
      · rw [Array.getElem?_eq_none (by omega), List.getElem?_eq_none (by simp; omega)]; rfl
    · cases hk
  have hent := iv_entry (r := iv_r b s.heap.size) (as := [.ref 0]) (nL := iv_lL) rfl (by decide)
  have key := iv_walk (R := room_1) (l := l) (e := e) (below := below) (args := #[Value.ref b]) (Q := lw_Z below #[Value.ref b] s) (D := D) (b := b) (z := s.heap.size) (n0 := 0) (s0 := 0) (nL := iv_lL) (d := d) (ini := false) (v := some (.int 1)) (w' := w') (rt := some .boolean) (call := iv_X d) (code := iv_lc) hx hb hown hW hbl ⟨by rw [Nat.zero_add]; exact hC.1, by rw [Nat.zero_add]; exact hC.2⟩ hml hF (fun x as w u w1 h => iv_sound l D b s.heap.size hbl hok d x as w u w1 h) (fun h => by cases h) (fun op pc L st w1 hd hf => by
      obtain ⟨rfl, hcs⟩ := iv_fin_ok hf
      refine ⟨iv_le.rf, fun H ls locs cells slots a1 a2 a3 a4 a5 => ?_⟩
      rcases hcs with ⟨rfl, ty, x1, h1, rfl, h2, hfit⟩ | ⟨rfl, ty, a, h1, rfl, h2, hA, hfit⟩ | ⟨rfl, h1, rfl, h2⟩
      · cases h2
        exact va_forget a3 (W.widen (k := room_1.cells) (n := room_1.slots) (by omega) (by omega) (lw_ret hx hb hr hlocks hd))
      · cases h1; cases hA
      · cases h1) hok1 n 0 _ [] _ hrun
  obtain ⟨h1, J, hJ, h2⟩ := key
  have h3 := h2 s.heap _ [] 0 0 hrep hent (fun q h => absurd h List.not_mem_nil) rfl rfl
  rw [hok0 J hJ] at h3
  exact h3
