/-! the invariant between the calls -/
def iT (t : Nat) (g : Gs) : Prop := t ≤ 6 ∧ g 200 0 0 = nI t ∧ g 400 0 0 = nI t ∧ iLn t g
def iCv (g : Gs) (i h : Nat) : Prop := ∃ z, z < 6 ∧ g 21 i h = nI z ∧ ((g 163 0 (6 * i + h) = nI 0 ∧ z = h) ∨ g 163 0 (6 * i + h) = nI (z + 1))
def iF1 (t : Nat) (g : Gs) (i : Nat) : Prop := (∃ c, c < t ∧ g 17 0 i = nI c ∧ g 160 0 i = nI c) ∧ (∃ k b, k < 4 ∧ g 18 0 i = nI k ∧ g 161 0 i = nI k ∧ g 19 0 i = bI b ∧ g 162 0 i = bI b ∧ (b = true → k = 1 ∨ k = 3)) ∧ ∀ h, h < 6 → iCv g i h
def iF0 (g : Gs) (i : Nat) : Prop := g 19 0 i = bI false ∧ g 162 0 i = bI false ∧ ∀ h, h < 6 → g 163 0 (6 * i + h) = nI 0
def iFd (t f : Nat) (g : Gs) : Prop := f ≤ 14 ∧ g 203 0 0 = nI f ∧ g 402 0 0 = nI f ∧ (∀ i, i < f → iF1 t g i) ∧ ∀ i, f ≤ i → i < 14 → iF0 g i
def iCl (g : Gs) : Prop := ∀ x, x < 6 → tb (g 45 0 x) x = true ∧ (∀ k, k < 6 → tb (g 45 0 x) k = true → ∀ y, y < 6 → tb (g 175 0 k) y = true → tb (g 45 0 x) y = true) ∧ (∀ S : Nat → Bool, S x = true → (∀ k, k < 6 → S k = true → ∀ y, y < 6 → tb (g 175 0 k) y = true → S y = true) → ∀ y, y < 6 → tb (g 45 0 x) y = true → S y = true) ∧ ∀ y, 6 ≤ y → y < 32 → tb (g 45 0 x) y = false ∧ tb (g 175 0 x) y = false
def iSq (g : Gs) : Prop := ∀ q, q < 2 → ∃ n, n ≤ 4 ∧ g 247 q 0 = nI n ∧ g 176 0 q = nI n ∧ ∀ j, j < n → ∃ z, z < 8 ∧ g 48 q j = nI z ∧ g 177 0 (4 * q + j) = nI z
def iOr (g : Gs) : Prop := ∀ c, c < 6 → ∃ n, n ≤ 4 ∧ g 205 c 0 = nI n ∧ g 178 0 c = nI n ∧ ∀ j, j < n → g 179 0 (4 * c + j) = g 6 c j ∧ (g 6 c j = -1 ∨ ∃ z, z < 6 ∧ g 6 c j = nI z)
def iVl (p : Nat) (g : Gs) (i j : Nat) : Prop := (g 18 0 j = nI 0 ∧ g 181 0 (14 * i + j) = g 56 i j) ∨ (g 18 0 j = nI 1 ∧ ((g 56 i j = -1 ∧ g 181 0 (14 * i + j) = nI 0) ∨ ∃ v, v < p ∧ g 56 i j = nI v ∧ g 181 0 (14 * i + j) = nI (v + 1))) ∨ ∃ k, (k = 2 ∨ k = 3) ∧ g 18 0 j = nI k ∧ ((g 56 i j = -1 ∧ g 181 0 (14 * i + j) = nI 0) ∨ ∃ v, v ≤ 3 ∧ g 56 i j = nI v ∧ g 181 0 (14 * i + j) = nI (v + 1) ∧ ∀ e, e < v → g 182 0 (3 * (14 * i + j) + e) = g 67 i (j * 3 + e) ∧ (k = 3 → ∃ w, w < p ∧ g 67 i (j * 3 + e) = nI w))
def iSt (t f p : Nat) (g : Gs) : Prop := p ≤ 10 ∧ g 253 0 0 = nI p ∧ g 424 0 0 = nI p ∧ (∀ i, i < p → ∃ c, c < t ∧ g 54 0 i = nI c ∧ g 180 0 i = nI c) ∧ (∀ i, i < 10 → ∀ j, j < f → iVl p g i j) ∧ ∀ i, i < 10 → ∀ j, f ≤ j → j < 14 → g 181 0 (14 * i + j) = nI 0
def iDm (dyn : Nat → Option iv_C) (n q k : Nat) (u v : Int32) : Prop := 199 ≤ q ∧ q ≤ n ∧ k < 4 ∧ dyn q = some (4, [.int (nI k), .int u, .int v])
def iRu (f n : Nat) (g : Gs) (dyn : Nat → Option iv_C) (i a : Nat) : Prop := 199 ≤ a ∧ a ≤ n ∧ ∃ fd m c e, fd < f ∧ 1 ≤ m ∧ m < 64 ∧ dyn a = some (8, [.int (nI fd), .int (bI e), .ref c, .int (nI m)]) ∧ g 164 0 i = nI fd ∧ g 165 0 i = bI e ∧ g 169 0 i = nI m ∧ ((∃ x, x < 3 ∧ c = 38 + 2 * x ∧ g 166 0 i = nI 4 ∧ g 167 0 i = nI x) ∨ ∃ k u v p q, 199 ≤ c ∧ c ≤ n ∧ 199 ≤ p ∧ p ≤ n ∧ iDm dyn n q k u v ∧ dyn c = some (3, [.ref p, .int (nI 1), .int (nI 1)]) ∧ dyn p = some (105, [.ref q]) ∧ g 166 0 i = nI k ∧ g 167 0 i = u ∧ g 168 0 i = v)
def iCo (n : Nat) (g : Gs) (dyn : Nat → Option iv_C) (x : Nat) : Prop := ∃ m b ps, m ≤ 3 ∧ g 238 x 0 = nI m ∧ g 170 0 x = nI m ∧ g 239 x 0 = bI b ∧ g 174 0 x = bI b ∧ dyn (39 + 2 * x) = some (105, ps) ∧ ps.length = 3 ∧ ∀ j, j < m → ∃ q k u v, ps[j]? = some (.ref q) ∧ iDm dyn n q k u v ∧ g 171 0 (3 * x + j) = nI k ∧ g 172 0 (3 * x + j) = u ∧ g 173 0 (3 * x + j) = v
def iRs (f r n : Nat) (g : Gs) (dyn : Nat → Option iv_C) : Prop := r ≤ 24 ∧ g 235 0 0 = nI r ∧ g 407 0 0 = nI r ∧ ∃ rs, dyn 36 = some (107, rs) ∧ rs.length = 24 ∧ ∀ i, i < r → ∃ a, rs[i]? = some (.ref a) ∧ iRu f n g dyn i a
def iCs (n : Nat) (g : Gs) (dyn : Nat → Option iv_C) : Prop := ∀ x, x < 3 → iCo n g dyn x
def iWy (g : Gs) (k : Nat) : Prop := (∀ i, i < 6 → g 194 0 (6 * k + i) = g 79 k i) ∧ (∃ fd, fd < 14 ∧ g 79 k 1 = nI fd) ∧ (g 79 k 2 = -1 ∨ ∃ e, e < 3 ∧ g 79 k 2 = nI e) ∧ ∃ n, n ≤ 15 ∧ g 304 k 0 = nI n ∧ g 195 0 k = nI n ∧ ∀ i, i < n → ∃ fd pl, fd < 14 ∧ pl < 4 ∧ g 105 k i = nI (4 * fd + pl) ∧ g 196 0 (16 * k + i) = nI fd ∧ g 197 0 (16 * k + i) = nI pl - nI 1
def iRp (g : Gs) : Prop := (∃ v, v ≤ 24 ∧ g 277 0 0 = nI v ∧ g 441 0 0 = nI v ∧ ∀ k, k < v → iWy g k) ∧ g 356 0 0 = g 439 0 0 ∧ g 355 0 0 = nI 0 ∧ g 352 0 0 = nI 0
/-- n calls made -/
def Iv (L : Nat) (xs : Nat → Int32) (N : Nat) (w : iv_S) : Prop := ∃ t f r p g dyn n z, w = (gh g dyn, n, z) ∧ dyn 0 = some (150, md_ints L xs) ∧ 198 ≤ n ∧ n ≤ 198 + 4 * N ∧ z ≤ 3901 + 11 * N ∧ iT t g ∧ iFd t f g ∧ iCl g ∧ iSq g ∧ iOr g ∧ iSt t f p g ∧ iRs f r n g dyn ∧ iCs n g dyn ∧ iRp g
theorem iLn_fr {t : Nat} {g g' : Gs} (h : iLn t g) (e159 : g' 159 = g 159) (e3 : g' 3 = g 3) : iLn t g' := by
  unfold iLn at h ⊢
  simpa only [e159, e3] using h
theorem iT_fr {t : Nat} {g g' : Gs} (h : iT t g) (e200 : g' 200 = g 200) (e400 : g' 400 = g 400) (e159 : g' 159 = g 159) (e3 : g' 3 = g 3) : iT t g' := by
  unfold iT iLn at h ⊢
  simpa only [e200, e400, e159, e3] using h
theorem iFd_fr {t f : Nat} {g g' : Gs} (h : iFd t f g) (e203 : g' 203 = g 203) (e402 : g' 402 = g 402) (e17 : g' 17 = g 17) (e160 : g' 160 = g 160) (e18 : g' 18 = g 18) (e161 : g' 161 = g 161) (e19 : g' 19 = g 19) (e162 : g' 162 = g 162) (e21 : g' 21 = g 21) (e163 : g' 163 = g 163) : iFd t f g' := by
  unfold iFd iF1 iF0 iCv at h ⊢
  simpa only [e203, e402, e17, e160, e18, e161, e19, e162, e21, e163] using h
theorem iCl_fr {g g' : Gs} (h : iCl  g) (e45 : g' 45 = g 45) (e175 : g' 175 = g 175) : iCl  g' := by
  unfold iCl at h ⊢
  simpa only [e45, e175] using h
theorem iSq_fr {g g' : Gs} (h : iSq  g) (e247 : g' 247 = g 247) (e176 : g' 176 = g 176) (e48 : g' 48 = g 48) (e177 : g' 177 = g 177) : iSq  g' := by
  unfold iSq at h ⊢
  simpa only [e247, e176, e48, e177] using h
theorem iOr_fr {g g' : Gs} (h : iOr  g) (e205 : g' 205 = g 205) (e178 : g' 178 = g 178) (e6 : g' 6 = g 6) (e179 : g' 179 = g 179) : iOr  g' := by
  unfold iOr at h ⊢
  simpa only [e205, e178, e6, e179] using h
theorem iSt_fr {t f p : Nat} {g g' : Gs} (h : iSt t f p g) (e253 : g' 253 = g 253) (e424 : g' 424 = g 424) (e54 : g' 54 = g 54) (e180 : g' 180 = g 180) (e18 : g' 18 = g 18) (e56 : g' 56 = g 56) (e181 : g' 181 = g 181) (e67 : g' 67 = g 67) (e182 : g' 182 = g 182) : iSt t f p g' := by
  unfold iSt iVl at h ⊢
  simpa only [e253, e424, e54, e180, e18, e56, e181, e67, e182] using h
theorem iRp_fr {g g' : Gs} (h : iRp  g) (e277 : g' 277 = g 277) (e441 : g' 441 = g 441) (e79 : g' 79 = g 79) (e194 : g' 194 = g 194) (e304 : g' 304 = g 304) (e195 : g' 195 = g 195) (e105 : g' 105 = g 105) (e196 : g' 196 = g 196) (e197 : g' 197 = g 197) (e356 : g' 356 = g 356) (e439 : g' 439 = g 439) (e355 : g' 355 = g 355) (e352 : g' 352 = g 352) : iRp  g' := by
  unfold iRp iWy at h ⊢
  simpa only [e277, e441, e79, e194, e304, e195, e105, e196, e197, e356, e439, e355, e352] using h
theorem iVl_fr {p i j : Nat} {g g' : Gs} (h : iVl p g i j) (e18 : g' 18 0 j = g 18 0 j) (e56 : g' 56 i j = g 56 i j) (e181 : g' 181 0 (14 * i + j) = g 181 0 (14 * i + j)) (e67 : ∀ e, e < 3 → g' 67 i (j * 3 + e) = g 67 i (j * 3 + e)) (e182 : ∀ e, e < 3 → g' 182 0 (3 * (14 * i + j) + e) = g 182 0 (3 * (14 * i + j) + e)) : iVl p g' i j := by
  unfold iVl at h ⊢
  rw [e18, e56, e181]
  rcases h with h | h | ⟨k, hk, h1, h2 | ⟨v, hv, h2, h3, h4⟩⟩
  · exact .inl h
  · exact .inr (.inl h)
  · exact .inr (.inr ⟨k, hk, h1, .inl h2⟩)
  · refine .inr (.inr ⟨k, hk, h1, .inr ⟨v, hv, h2, h3, fun e he => ?_⟩⟩)
    rw [e67 e (by omega), e182 e (by omega)]
    exact h4 e he
theorem iVl_up {p p' i j : Nat} {g : Gs} (h : iVl p g i j) (hp : p ≤ p') : iVl p' g i j := by
  unfold iVl at h ⊢
  rcases h with h | ⟨h0, h | ⟨v, hv, h1⟩⟩ | ⟨k, hk, h1, h2 | ⟨v, hv, h2, h3, h4⟩⟩
  · exact .inl h
  · exact .inr (.inl ⟨h0, .inl h⟩)
  · exact .inr (.inl ⟨h0, .inr ⟨v, by omega, h1⟩⟩)
  · exact .inr (.inr ⟨k, hk, h1, .inl h2⟩)
  · refine .inr (.inr ⟨k, hk, h1, .inr ⟨v, hv, h2, h3, fun e he => ⟨(h4 e he).1, fun h => ?_⟩⟩⟩)
    obtain ⟨w, hw, h5⟩ := (h4 e he).2 h
    exact ⟨w, by omega, h5⟩
theorem iDm_fr {dyn dyn' : Nat → Option iv_C} {n n' q k : Nat} {u v : Int32} (h : iDm dyn n q k u v) (hn : n ≤ n') (hd : ∀ a, 199 ≤ a → a ≤ n → dyn' a = dyn a) : iDm dyn' n' q k u v := by
  obtain ⟨h1, h2, h3, h4⟩ := h
  exact ⟨h1, by omega, h3, (hd q h1 h2).trans h4⟩
theorem iRu_fr {f f' n n' i a : Nat} {g g' : Gs} {dyn dyn' : Nat → Option iv_C} (h : iRu f n g dyn i a) (hf : f ≤ f') (hn : n ≤ n') (hd : ∀ a, 199 ≤ a → a ≤ n → dyn' a = dyn a) (e164 : g' 164 0 i = g 164 0 i) (e165 : g' 165 0 i = g 165 0 i) (e166 : g' 166 0 i = g 166 0 i) (e167 : g' 167 0 i = g 167 0 i) (e168 : g' 168 0 i = g 168 0 i) (e169 : g' 169 0 i = g 169 0 i) : iRu f' n' g' dyn' i a := by
  obtain ⟨h1, h2, fd, m, c, e, h3, h4, h5, h6, h7, h8, h9, h10⟩ := h
  refine ⟨h1, by omega, fd, m, c, e, by omega, h4, h5, (hd a h1 h2).trans h6, e164.trans h7, e165.trans h8, e169.trans h9, ?_⟩
  rcases h10 with ⟨x, h11, h12, h13, h14⟩ | ⟨k, u, v, p, q, h11, h12, h13, h14, h15, h16, h17, h18, h19, h20⟩
  · exact .inl ⟨x, h11, h12, e166.trans h13, e167.trans h14⟩
  · exact .inr ⟨k, u, v, p, q, h11, Nat.le_trans h12 hn, h13, Nat.le_trans h14 hn, iDm_fr h15 hn hd, (hd c h11 h12).trans h16, (hd p h13 h14).trans h17, e166.trans h18, e167.trans h19, e168.trans h20⟩
theorem iCo_fr {n n' x : Nat} {g g' : Gs} {dyn dyn' : Nat → Option iv_C} (h : iCo n g dyn x) (hn : n ≤ n') (hd : ∀ a, 199 ≤ a → a ≤ n → dyn' a = dyn a) (hx : dyn' (39 + 2 * x) = dyn (39 + 2 * x)) (e238 : g' 238 x 0 = g 238 x 0) (e170 : g' 170 0 x = g 170 0 x) (e239 : g' 239 x 0 = g 239 x 0) (e174 : g' 174 0 x = g 174 0 x) (e171 : ∀ j, j < 3 → g' 171 0 (3 * x + j) = g 171 0 (3 * x + j)) (e172 : ∀ j, j < 3 → g' 172 0 (3 * x + j) = g 172 0 (3 * x + j)) (e173 : ∀ j, j < 3 → g' 173 0 (3 * x + j) = g 173 0 (3 * x + j)) : iCo n' g' dyn' x := by
  obtain ⟨m, b, ps, h1, h2, h3, h4, h5, h6, h7, h8⟩ := h
  refine ⟨m, b, ps, h1, e238.trans h2, e170.trans h3, e239.trans h4, e174.trans h5, hx.trans h6, h7, fun j hj => ?_⟩
  obtain ⟨q, k, u, v, h9, h10, h11, h12, h13⟩ := h8 j hj
  exact ⟨q, k, u, v, h9, iDm_fr h10 hn hd, (e171 j (by omega)).trans h11, (e172 j (by omega)).trans h12, (e173 j (by omega)).trans h13⟩
theorem iRs_fr {f f' r n n' : Nat} {g g' : Gs} {dyn dyn' : Nat → Option iv_C} (h : iRs f r n g dyn) (hf : f ≤ f') (hn : n ≤ n') (hd : ∀ a, 199 ≤ a → a ≤ n → dyn' a = dyn a) (h36 : dyn' 36 = dyn 36) (e235 : g' 235 = g 235) (e407 : g' 407 = g 407) (e164 : g' 164 = g 164) (e165 : g' 165 = g 165) (e166 : g' 166 = g 166) (e167 : g' 167 = g 167) (e168 : g' 168 = g 168) (e169 : g' 169 = g 169) : iRs f' r n' g' dyn' := by
  obtain ⟨h1, h2, h3, rs, h4, h5, h6⟩ := h
  refine ⟨h1, by rw [e235]; exact h2, by rw [e407]; exact h3, rs, h36.trans h4, h5, fun i hi => ?_⟩
  obtain ⟨a, h7, h8⟩ := h6 i hi
  exact ⟨a, h7, iRu_fr h8 hf hn hd (by rw [e164]) (by rw [e165]) (by rw [e166]) (by rw [e167]) (by rw [e168]) (by rw [e169])⟩
theorem iCs_fr {n n' : Nat} {g g' : Gs} {dyn dyn' : Nat → Option iv_C} (h : iCs n g dyn) (hn : n ≤ n') (hd : ∀ a, 199 ≤ a → a ≤ n → dyn' a = dyn a) (h39 : dyn' 39 = dyn 39) (h41 : dyn' 41 = dyn 41) (h43 : dyn' 43 = dyn 43) (e238 : g' 238 = g 238) (e170 : g' 170 = g 170) (e239 : g' 239 = g 239) (e174 : g' 174 = g 174) (e171 : g' 171 = g 171) (e172 : g' 172 = g 172) (e173 : g' 173 = g 173) : iCs n' g' dyn' := by
  intro x hx
  refine iCo_fr (h x hx) hn hd ?_ (by rw [e238]) (by rw [e170]) (by rw [e239]) (by rw [e174]) (fun j _ => by rw [e171]) (fun j _ => by rw [e172]) (fun j _ => by rw [e173])
  have : x = 0 ∨ x = 1 ∨ x = 2 := by omega
  rcases this with rfl | rfl | rfl
  · exact h39
  · exact h41
  · exact h43
theorem lw_mk {d x y L n z n1 z1 : Nat} {xs : Nat → Int32} {as : List Value} {g g1 g2 : Gs} {dyn dyn1 : Nat → Option iv_C} {v : Int32} {P : iv_S → Prop} (h0 : dyn 0 = some (150, md_ints L xs)) (h1 : iv_X d x (.ref 1 :: as) (gh g dyn, n, z) = some (some (.int v), (gh g1 dyn1, n1, z1))) (h2 : dyn1 0 = some (150, md_ints L xs)) (h3 : iv_X d y (.ref 158 :: as) (gh g1 dyn1, n1, z1) = some (some (.int v), (gh g2 dyn1, n1, z1))) (h4 : P (gh g2 dyn1, n1, z1)) : lw_pair d x y as L xs (gh g dyn, n, z) P :=
  ⟨v, (gh g1 dyn1, n1, z1), (gh g2 dyn1, n1, z1), _, _, h0, hg_1 (A := gA g) (F := gF g) (dyn := dyn), h1, h2, hg_158 (A := gA g1) (F := gF g1) (dyn := dyn1), h3, h4⟩
theorem Iv_up {L N : Nat} {xs : Nat → Int32} {w : iv_S} (h : Iv L xs N w) : Iv L xs (N + 1) w := by
  obtain ⟨t, f, r, p, g, dyn, n, z, h1, h2, h3, h4, h5, h6⟩ := h
  exact ⟨t, f, r, p, g, dyn, n, z, h1, h2, h3, by omega, by omega, h6⟩
