/-! the reference's check is the function -/
def mD (b : Nat) : Bool := decide (b = 441 ∨ (183 ≤ b ∧ b ≤ 192) ∨ (194 ≤ b ∧ b ≤ 197) ∨ b = 428 ∨ b = 439)
def fD (g g' : Gs) : Prop := ∀ b, mD b = false → g' b = g b
theorem fD_rf {g : Gs} : fD g g := fun _ _ => rfl
theorem fD_tr {g g' g'' : Gs} (h : fD g g') (h' : fD g' g'') : fD g g'' := fun b hb => (h' b hb).trans (h b hb)
theorem fB_fD {g g' : Gs} (h : fB g g') : fD g g' := fun b hb => h b (by
  simp only [mD, mB, decide_eq_false_iff_not] at hb ⊢
  omega)
theorem fD_wd {g g' : Gs} (h : fD g g') : wd g g' := fun b hb => h b (by
  simp only [mv, mD, decide_eq_false_iff_not] at hb ⊢
  omega)
theorem fD_gu {g g' : Gs} {b r j : Nat} {v : Int32} (h : fD g g') (hb : mD b = true) : fD g (gu g' b r j v) := fun b' hb' => by
  rw [gu_ne (fun e => by rw [e, hb] at hb'; cases hb')]
  exact h b' hb'
/-- what lies below the d-th frame is as it was -/
def lwB (d : Nat) (g g' : Gs) : Prop := (∀ b j, 183 ≤ b → b ≤ 190 → j < d → g' b 0 j = g b 0 j) ∧ ∀ j, j ≤ d → g' 191 0 j = g 191 0 j ∧ g' 192 0 j = g 192 0 j
theorem lwB_rf {d : Nat} {g : Gs} : lwB d g g := ⟨fun _ _ _ _ _ => rfl, fun _ _ => ⟨rfl, rfl⟩⟩
theorem lwB_tr {d : Nat} {g g' g'' : Gs} (h : lwB d g g') (h' : lwB d g' g'') : lwB d g g'' := ⟨fun b j h1 h2 h3 => (h'.1 b j h1 h2 h3).trans (h.1 b j h1 h2 h3), fun j hj => ⟨(h'.2 j hj).1.trans (h.2 j hj).1, (h'.2 j hj).2.trans (h.2 j hj).2⟩⟩
theorem lwB_le {d d' : Nat} {g g' : Gs} (h : lwB d' g g') (hd : d ≤ d') : lwB d g g' := ⟨fun b j h1 h2 h3 => h.1 b j h1 h2 (by omega), fun j hj => h.2 j (by omega)⟩
theorem lwB_gu {d b j : Nat} {g g' : Gs} {v : Int32} (h : lwB d g g') (hb : (b < 183 ∨ 192 < b) ∨ (b ≤ 190 ∧ d ≤ j) ∨ d < j) : lwB d g (gu g' b 0 j v) := by
  refine ⟨fun b' j' h1 h2 h3 => ?_, fun j' hj => ⟨?_, ?_⟩⟩
  · rw [← h.1 b' j' h1 h2 h3]
    by_cases e : b' = b
    · subst e
      rw [gu_nj (by omega)]
    · rw [gu_ne e]
  · rw [← (h.2 j' hj).1]
    by_cases e : 191 = b
    · subst e
      rw [gu_nj (by omega)]
    · rw [gu_ne e]
  · rw [← (h.2 j' hj).2]
    by_cases e : 192 = b
    · subst e
      rw [gu_nj (by omega)]
    · rw [gu_ne e]
theorem lwB_fB {d : Nat} {g g' : Gs} (h : fB g g') : lwB d g g' := ⟨fun b j h1 h2 _ => by
  rw [h b (by simp only [mB, decide_eq_false_iff_not]; omega)], fun j _ => ⟨by rw [h 191 rfl], by rw [h 192 rfl]⟩⟩
def KB (g : Gs) (tr os : List (Nat × Nat)) (s : Sp) : Prop := rB g s.2 ∧ trB g tr ∧ oB g os ∧ g 439 0 0 = nI s.1 ∧ g 428 0 0 = nI os.length
theorem oB_lw {g g' : Gs} {os : List (Nat × Nat)} {d : Nat} (h : oB g os) (hl : lwB d g g') (hd : os.length ≤ d) : oB g' os := fun i q hq => by
  have h1 := gi_lt hq
  rw [hl.1 183 i (by omega) (by omega) (by omega), hl.1 184 i (by omega) (by omega) (by omega)]
  exact h i q hq
theorem trB_lw {g g' : Gs} {tr : List (Nat × Nat)} {d : Nat} (h : trB g tr) (hl : lwB d g g') (hd : tr.length ≤ d) : trB g' tr := fun i q hq => by
  have h1 := gi_lt hq
  rw [(hl.2 (i + 1) (by omega)).1, (hl.2 (i + 1) (by omega)).2]
  exact h i q hq
noncomputable def rn (D : Nat) (dyn : Nat → Option iv_C) (z : Nat × Nat) (a b : Int32) (n : Nat) (e : Int32) (g : Gs) : iv_R := iv_V (iv_X D) mc_52 (some .int) 10 [.ref 158, .int a, .int b, .int e, .int (nI n)] [] (gh g dyn, z)
def RB (g0 : Gs) (dyn : Nat → Option iv_C) (z : Nat × Nat) (D p : Nat) (os : List (Nat × Nat)) (rec : Rc) : Prop := ∀ (a b : Int32) (g : Gs) (tr : List (Nat × Nat)) (ob gr : Nat) (s : Sp) (n : Nat), wd g0 g → tr.length = os.length → gdP tr → ob < p → gr < 6 → vS s → KB g tr os s → n + 240 * (60 - s.1) ≤ 20000 → vS (rec tr ob gr s).2 ∧ ∃ e g1, (∀ E, 2 ≤ E → iv_X E 49 [.ref 158, .int (nI ob), .int (nI gr)] (gh g dyn, z) = some (some (.int e), (gh g1 dyn, z))) ∧ ∃ n' g', rn D dyn z a b n e g1 = rn D dyn z a b n' (rec tr ob gr s).1 g' ∧ rB g' (rec tr ob gr s).2.2 ∧ g' 439 0 0 = nI (rec tr ob gr s).2.1 ∧ ((rec tr ob gr s).1 = nI 0 → g' 428 0 0 = nI os.length) ∧ lwB os.length g g' ∧ fD g g' ∧ n' + 240 * (60 - (rec tr ob gr s).2.1) ≤ n + 240 * (60 - s.1)
/-- the d-th frame goes over field j, place q -/
def cfB (g : Gs) (d i h j q bf : Nat) : Prop := g 185 0 d = nI i ∧ g 186 0 d = nI h ∧ g 187 0 d = bI true ∧ g 188 0 d = nI j ∧ g 189 0 d = nI q ∧ g 190 0 d = nI bf
theorem pB {t f R p n0 : Nat} {g0 : Gs} {dyn : Nat → Option iv_C} {z : Nat × Nat} {E d ob gr : Nat} {os tr : List (Nat × Nat)} {rec : Rc} {a b : Int32} {i h j bf : Nat} (hW : Wd t f R p n0 g0 dyn) (hr : RB g0 dyn z (E + 1) p os rec) (hE : 4 ≤ E) (hd : d < 16) (hl : os.length = d + 1) (htl : tr.length = d) (hg : gdP tr) (ho : ob < p) (hgr : gr < 6) (htop : os[d]? = some (ob, gr)) (hh : h < 6) (hj : j < f) (hca : caS g0 j = true) (hha : hasS g0 ob j = true) : ∀ (k q : Nat) (g : Gs) (s : Sp) (n : Nat), q + k = tnS g0 ob j → wd g0 g → vS s → KB g tr os s → cfB g d i h j q bf → n + 240 * (60 - s.1) + k ≤ 20000 → vS (itS (goS rec g0 tr ob h j) k q s).2 ∧ ∃ n' g', rn (E + 1) dyn z a b n (nI 0) g = rn (E + 1) dyn z a b n' (itS (goS rec g0 tr ob h j) k q s).1 g' ∧ rB g' (itS (goS rec g0 tr ob h j) k q s).2.2 ∧ g' 439 0 0 = nI (itS (goS rec g0 tr ob h j) k q s).2.1 ∧ lwB d g g' ∧ fD g g' ∧ n' + 240 * (60 - (itS (goS rec g0 tr ob h j) k q s).2.1) ≤ n + 240 * (60 - s.1) + k ∧ ((itS (goS rec g0 tr ob h j) k q s).1 = nI 0 → KB g' tr os (itS (goS rec g0 tr ob h j) k q s).2 ∧ cfB g' d i h j (tnS g0 ob j) bf) := by
  obtain ⟨t1, t2, _⟩ := w_tg hW ho hj hca
  obtain ⟨hj14, _, _, _, _, _, _, _, _, h21⟩ := w_fd hW hj
  intro k
  induction k with
  | zero =>
    intro q g s n hq hw hs hK hcf hn
    have e : q = tnS g0 ob j := by omega
    subst e
    exact ⟨hs, n, g, rfl, hK.1, hK.2.2.2.1, lwB_rf, fD_rf, by simp only [itS]; omega, fun _ => ⟨hK, hcf⟩⟩
  | succ k ih =>
    intro q g s n hq hw hs hK hcf hn
    obtain ⟨k1, k2, k3, k4, k5⟩ := id hK
    obtain ⟨c1, c2, c3, c4, c5, c6⟩ := id hcf
    rw [hl] at k5
    have hdf : fD g (goB g d j (tpS g0 j q) q) := fD_gu (fD_gu (fD_gu fD_rf rfl) rfl) rfl
    have hlw : lwB d g (goB g d j (tpS g0 j q) q) := lwB_gu (lwB_gu (lwB_gu lwB_rf (.inr (.inr (by omega)))) (.inr (.inr (by omega)))) (.inr (.inl ⟨by omega, by omega⟩))
    have hne : ∀ b, b ≠ 191 → b ≠ 192 → b ≠ 189 → goB g d j (tpS g0 j q) q b = g b := fun b h1 h2 h3 => by
      unfold goB
      rw [gu_ne h3, gu_ne h2, gu_ne h1]
    have hK1 : KB (goB g d j (tpS g0 j q) q) (tr ++ [(j, tpS g0 j q)]) os s := by
      refine ⟨rB_fr k1 (hne _ (by decide) (by decide) (by decide)) (hne _ (by decide) (by decide) (by decide)) (hne _ (by decide) (by decide) (by decide)) (hne _ (by decide) (by decide) (by decide)) (hne _ (by decide) (by decide) (by decide)), fun x y hxy => ?_, fun x y hxy => ?_, by rw [hne _ (by decide) (by decide) (by decide)]; exact k4, by rw [hne _ (by decide) (by decide) (by decide), hl]; exact k5⟩
      · rcases ap_cs hxy with ⟨rfl, rfl⟩ | ⟨h5, h6⟩
        · simp [goB, gu, htl]
        · have h7 := k2 x y h6
          simp [goB, gu, show ¬ x = d by omega, h7]
      · rw [hne _ (by decide) (by decide) (by decide), hne _ (by decide) (by decide) (by decide)]
        exact k3 x y hxy
    obtain ⟨hv, e, g1, i1, n', g', i2, i3, i4, i5, i6, i7, i8⟩ := hr a b (goB g d j (tpS g0 j q) q) (tr ++ [(j, tpS g0 j q)]) (ttS g0 ob j q) (tuS g0 j h) s (n + 1) (wd_tr hw (fD_wd hdf)) (by rw [List.length_append, hl, htl]; rfl) (gdP_ap hg hj14 (t2 q (by omega)).2) (t2 q (by omega)).1 (h21 h hh).1 hs hK1 (by omega)
    have h183 := (k3 d _ htop).1
    have e51 := m51_go (s := z) (D := E) (show 2 ≤ E by omega) hW hw hd ho hj hh k5 h183 c2 c4 c5 hca hha (show q < tnS g0 ob j by omega) ⟨e, g1, i1 E (by omega), rfl⟩
    have es : rn (E + 1) dyn z a b n (nI 0) g = rn (E + 1) dyn z a b n' (goS rec g0 tr ob h j q s).1 g' := (r52_o (show n < 100000 by omega) hd k5 c3 e51).trans i2
    change vS (goS rec g0 tr ob h j q s).2 at hv
    change rB g' (goS rec g0 tr ob h j q s).2.2 at i3
    change g' 439 0 0 = nI (goS rec g0 tr ob h j q s).2.1 at i4
    change (goS rec g0 tr ob h j q s).1 = nI 0 → _ at i5
    change n' + 240 * (60 - (goS rec g0 tr ob h j q s).2.1) ≤ _ at i8
    rw [hl] at i5 i6
    have hlw' : lwB d g g' := lwB_tr hlw (lwB_le i6 (by omega))
    by_cases hc0 : (goS rec g0 tr ob h j q s).1 = nI 0
    · have hK2 : KB g' tr os (goS rec g0 tr ob h j q s).2 := ⟨i3, trB_lw (trB_lw k2 hlw (by omega)) (lwB_le i6 (show d ≤ d + 1 by omega)) (by omega), oB_lw hK1.2.2.1 i6 (by omega), i4, by rw [hl]; exact i5 hc0⟩
      have hf : ∀ x, 183 ≤ x → x ≤ 190 → g' x 0 d = goB g d j (tpS g0 j q) q x 0 d := fun x h1 h2 => i6.1 x d h1 h2 (by omega)
      have hcf2 : cfB g' d i h j (q + 1) bf := by
        refine ⟨?_, ?_, ?_, ?_, ?_, ?_⟩
        · rw [hf _ (by omega) (by omega), hne _ (by decide) (by decide) (by decide)]; exact c1
        · rw [hf _ (by omega) (by omega), hne _ (by decide) (by decide) (by decide)]; exact c2
        · rw [hf _ (by omega) (by omega), hne _ (by decide) (by decide) (by decide)]; exact c3
        · rw [hf _ (by omega) (by omega), hne _ (by decide) (by decide) (by decide)]; exact c4
        · rw [hf _ (by omega) (by omega)]
          unfold goB
          rw [gu_eq]
        · rw [hf _ (by omega) (by omega), hne _ (by decide) (by decide) (by decide)]; exact c6
      obtain ⟨hv', n2, g2, j1, j2, j3, j4, j5, j6, j7⟩ := ih (q + 1) g' _ n' (by omega) (wd_tr hw (fD_wd (fD_tr hdf i7))) hv hK2 hcf2 (by omega)
      simp only [itS, hc0, if_true]
      rw [hc0] at es
      exact ⟨hv', n2, g2, es.trans j1, j2, j3, lwB_tr hlw' j4, fD_tr (fD_tr hdf i7) j5, by omega, j7⟩
    · simp only [itS, hc0, if_false]
      exact ⟨hv, n', g', es, i3, i4, hlw', fD_tr hdf i7, by omega, fun h => h.elim⟩
theorem flB {t f R p n0 : Nat} {g0 : Gs} {dyn : Nat → Option iv_C} {z : Nat × Nat} {E d ob gr : Nat} {os tr : List (Nat × Nat)} {rec : Rc} {a b : Int32} {i h bf : Nat} (hW : Wd t f R p n0 g0 dyn) (hr : RB g0 dyn z (E + 1) p os rec) (hE : 4 ≤ E) (hd : d < 16) (hl : os.length = d + 1) (htl : tr.length = d) (hg : gdP tr) (ho : ob < p) (hgr : gr < 6) (htop : os[d]? = some (ob, gr)) (hh : h < 6) : ∀ (k j : Nat) (g : Gs) (s : Sp) (n : Nat), j + k = f → wd g0 g → vS s → KB g tr os s → cfB g d i h j 0 bf → n + 240 * (60 - s.1) + 4 * k ≤ 20000 → vS (itS (fieldS rec g0 tr ob h) k j s).2 ∧ ∃ n' g', rn (E + 1) dyn z a b n (nI 0) g = rn (E + 1) dyn z a b n' (itS (fieldS rec g0 tr ob h) k j s).1 g' ∧ rB g' (itS (fieldS rec g0 tr ob h) k j s).2.2 ∧ g' 439 0 0 = nI (itS (fieldS rec g0 tr ob h) k j s).2.1 ∧ lwB d g g' ∧ fD g g' ∧ n' + 240 * (60 - (itS (fieldS rec g0 tr ob h) k j s).2.1) ≤ n + 240 * (60 - s.1) + 4 * k ∧ ((itS (fieldS rec g0 tr ob h) k j s).1 = nI 0 → KB g' tr os (itS (fieldS rec g0 tr ob h) k j s).2 ∧ cfB g' d i h f 0 bf) := by
  intro k
  induction k with
  | zero =>
    intro j g s n hj hw hs hK hcf hn
    have e : j = f := by omega
    subst e
    exact ⟨hs, n, g, rfl, hK.1, hK.2.2.2.1, lwB_rf, fD_rf, by simp only [itS]; omega, fun _ => ⟨hK, hcf⟩⟩
  | succ k ih =>
    intro j g s n hj hw hs hK hcf hn
    -- a step over the field's end
    have hskip : ∀ (g : Gs) (s : Sp) (n q : Nat), wd g0 g → KB g tr os s → cfB g d i h j q bf → q ≤ 3 → ((caS g0 j && hasS g0 ob j) = true → q = tnS g0 ob j) → n < 100000 → ∃ g', rn (E + 1) dyn z a b n (nI 0) g = rn (E + 1) dyn z a b (n + 1) (nI 0) g' ∧ KB g' tr os s ∧ cfB g' d i h (j + 1) 0 bf ∧ lwB d g g' ∧ fD g g' := by
      intro g s n q hw hK hcf hq hno hn
      obtain ⟨k1, k2, k3, k4, k5⟩ := id hK
      obtain ⟨c1, c2, c3, c4, c5, c6⟩ := id hcf
      rw [hl] at k5
      have h183 := (k3 d _ htop).1
      have e51 := m51_skip (s := z) (D := E) (show 2 ≤ E by omega) hW hw hd ho (show j < f by omega) h183 c4 c5 hq hno
      have hlw : lwB d g (gu (gu g 188 0 d (nI (j + 1))) 189 0 d (nI 0)) := lwB_gu (lwB_gu lwB_rf (.inr (.inl ⟨by omega, by omega⟩))) (.inr (.inl ⟨by omega, by omega⟩))
      have hne : ∀ b, b ≠ 188 → b ≠ 189 → gu (gu g 188 0 d (nI (j + 1))) 189 0 d (nI 0) b = g b := fun b h1 h2 => by rw [gu_ne h2, gu_ne h1]
      refine ⟨_, r52_o hn hd k5 c3 e51, ⟨rB_fr k1 (hne _ (by decide) (by decide)) (hne _ (by decide) (by decide)) (hne _ (by decide) (by decide)) (hne _ (by decide) (by decide)) (hne _ (by decide) (by decide)), trB_fr k2 (hne _ (by decide) (by decide)) (hne _ (by decide) (by decide)), fun x y hxy => by rw [hne _ (by decide) (by decide), hne _ (by decide) (by decide)]; exact k3 x y hxy, by rw [hne _ (by decide) (by decide)]; exact k4, by rw [hne _ (by decide) (by decide), hl]; exact k5⟩, ⟨?_, ?_, ?_, ?_, ?_, ?_⟩, hlw, fD_gu (fD_gu fD_rf rfl) rfl⟩
      · rw [hne _ (by decide) (by decide)]; exact c1
      · rw [hne _ (by decide) (by decide)]; exact c2
      · rw [hne _ (by decide) (by decide)]; exact c3
      · rw [gu_ne (by decide), gu_eq]
      · rw [gu_eq]
      · rw [hne _ (by decide) (by decide)]; exact c6
    by_cases hfo : (caS g0 j && hasS g0 ob j) = true
    · obtain ⟨hca, hha⟩ := (Bool.and_eq_true _ _).mp hfo
      obtain ⟨t1, _⟩ := w_tg hW ho (show j < f by omega) hca
      have ef : fieldS rec g0 tr ob h j s = itS (goS rec g0 tr ob h j) (tnS g0 ob j) 0 s := by simp [fieldS, hca, hha]
      obtain ⟨hv, n1, g1, i1, i2, i3, i4, i5, i6, i7⟩ := pB (a := a) (b := b) (i := i) (bf := bf) hW hr hE hd hl htl hg ho hgr htop hh (show j < f by omega) hca hha (tnS g0 ob j) 0 g s n (by omega) hw hs hK hcf (by omega)
      rw [← ef] at hv i1 i2 i3 i6 i7
      by_cases hc0 : (fieldS rec g0 tr ob h j s).1 = nI 0
      · obtain ⟨hK1, hcf1⟩ := i7 hc0
        obtain ⟨g2, l1, l2, l3, l4, l5⟩ := hskip g1 _ n1 (tnS g0 ob j) (wd_tr hw (fD_wd i5)) hK1 hcf1 t1 (fun _ => rfl) (by omega)
        obtain ⟨hv', n3, g3, j1, j2, j3, j4, j5, j6, j7⟩ := ih (j + 1) g2 _ (n1 + 1) (by omega) (wd_tr hw (fD_wd (fD_tr i5 l5))) hv l2 l3 (by omega)
        simp only [itS, hc0, if_true]
        rw [hc0] at i1
        exact ⟨hv', n3, g3, i1.trans (l1.trans j1), j2, j3, lwB_tr i4 (lwB_tr l4 j4), fD_tr i5 (fD_tr l5 j5), by omega, j7⟩
      · simp only [itS, hc0, if_false]
        exact ⟨hv, n1, g1, i1, i2, i3, i4, i5, by omega, fun h => h.elim⟩
    · have ef : fieldS rec g0 tr ob h j s = (nI 0, s) := by
        unfold fieldS
        rw [if_neg hfo]
      obtain ⟨g2, l1, l2, l3, l4, l5⟩ := hskip g s n 0 hw hK hcf (by omega) (fun h => absurd h hfo) (by omega)
      obtain ⟨hv', n3, g3, j1, j2, j3, j4, j5, j6, j7⟩ := ih (j + 1) g2 s (n + 1) (by omega) (wd_tr hw (fD_wd l5)) hs l2 l3 (by omega)
      simp only [itS, ef, if_true]
      exact ⟨hv', n3, g3, l1.trans j1, j2, j3, lwB_tr l4 j4, fD_tr l5 j5, by omega, j7⟩
theorem sgB {t f R p n0 : Nat} {g0 : Gs} {dyn : Nat → Option iv_C} {z : Nat × Nat} {E d ob gr : Nat} {os tr : List (Nat × Nat)} {rec : Rc} {a b : Int32} {bf : Nat} (hW : Wd t f R p n0 g0 dyn) (hr : RB g0 dyn z (E + 1) p os rec) (hE : 4 ≤ E) (hd : d < 16) (hl : os.length = d + 1) (htl : tr.length = d) (hg : gdP tr) (ho : ob < p) (hgr : gr < 6) (htop : os[d]? = some (ob, gr)) (hle : leR rec) (hbf : bf ≤ 24) : ∀ (k i : Nat) (g : Gs) (s : Sp) (n : Nat), i + k = stN g0 ob gr → wd g0 g → vS s → s.2.length = bf → KB g tr os s → g 185 0 d = nI i → g 187 0 d = bI false → n + 240 * (60 - s.1) + (58 * k + 1) ≤ 20000 → vS (sgeS (stepS rec g0 f R tr ob gr) bf k i s).2 ∧ ∃ n' g', rn (E + 1) dyn z a b n (nI 0) g = rn (E + 1) dyn z a b n' (sgeS (stepS rec g0 f R tr ob gr) bf k i s).1 g' ∧ rB g' (sgeS (stepS rec g0 f R tr ob gr) bf k i s).2.2 ∧ g' 439 0 0 = nI (sgeS (stepS rec g0 f R tr ob gr) bf k i s).2.1 ∧ lwB d g g' ∧ fD g g' ∧ n' + 240 * (60 - (sgeS (stepS rec g0 f R tr ob gr) bf k i s).2.1) ≤ n + 240 * (60 - s.1) + (58 * k + 1) ∧ ((sgeS (stepS rec g0 f R tr ob gr) bf k i s).1 = nI 0 → g' 428 0 0 = nI d) := by
  obtain ⟨_, hc6, ho10, _⟩ := w_cl hW ho
  obtain ⟨hn4, _⟩ := w_or hW hc6
  have hN4 : stN g0 ob gr ≤ 4 := by
    unfold stN
    split
    · exact hn4
    · omega
  have hf14 := hW.2.1.1
  have h402 : g0 402 0 0 = nI f := hW.2.1.2.2.1
  intro k
  induction k with
  | zero =>
    intro i g s n hi hw hs hlen hK h185 h187 hn
    obtain ⟨k1, k2, k3, k4, k5⟩ := id hK
    rw [hl] at k5
    obtain ⟨h183, h184⟩ := k3 d _ htop
    have e50 := m50 (s := z) (D := E) (c := s.2.length) (r := none) hW hw hd ho hgr k5 h183 h184 h185 k1.1 (by omega) (fun h => absurd h (by omega))
    rw [if_pos (by omega)] at e50
    refine ⟨hs, n + 1, gu g 428 0 0 (nI d), r52_b (by omega) hd k5 h187 e50, rB_fr k1 (gu_ne (by decide)) (gu_ne (by decide)) (gu_ne (by decide)) (gu_ne (by decide)) (gu_ne (by decide)), by rw [gu_ne (by decide)]; exact k4, lwB_gu lwB_rf (.inl (.inr (by omega))), fD_gu fD_rf rfl, by simp only [sgeS]; omega, fun _ => gu_eq⟩
  | succ k ih =>
    intro i g s n hi hw hs hlen hK h185 h187 hn
    obtain ⟨k1, k2, k3, k4, k5⟩ := id hK
    have k5' := k5
    rw [hl] at k5
    obtain ⟨h183, h184⟩ := k3 d _ htop
    obtain ⟨h, hh'⟩ : ∃ h, h = stG g0 ob gr i := ⟨_, rfl⟩
    have hh : h < 6 := hh' ▸ w_st hW ho hgr (by omega)
    have hgt : gdT tr := ⟨by omega, hg⟩
    have hdf : fD g (bgB g d h s.2.length) := fD_gu (fD_gu (fD_gu (fD_gu (fD_gu fD_rf rfl) rfl) rfl) rfl) rfl
    have hlw : lwB d g (bgB g d h s.2.length) := lwB_gu (lwB_gu (lwB_gu (lwB_gu (lwB_gu lwB_rf (.inr (.inl ⟨by omega, by omega⟩))) (.inr (.inl ⟨by omega, by omega⟩))) (.inr (.inl ⟨by omega, by omega⟩))) (.inr (.inl ⟨by omega, by omega⟩))) (.inr (.inl ⟨by omega, by omega⟩))
    have hne : ∀ b, (b < 186 ∨ 190 < b) → bgB g d h s.2.length b = g b := fun b h1 => by
      unfold bgB
      rw [gu_ne (by omega), gu_ne (by omega), gu_ne (by omega), gu_ne (by omega), gu_ne (by omega)]
    have hwb : wd g0 (bgB g d h s.2.length) := wd_tr hw (fD_wd hdf)
    have k1b : rB (bgB g d h s.2.length) s.2 := rB_fr k1 (hne _ (by omega)) (hne _ (by omega)) (hne _ (by omega)) (hne _ (by omega)) (hne _ (by omega))
    have k2b : trB (bgB g d h s.2.length) tr := trB_fr k2 (hne _ (by omega)) (hne _ (by omega))
    obtain ⟨g1, i1, i2, i3⟩ := m47 (s := z) (D := E) (h := h) (sf := hasS g0 ob) (v3 := -1) (by omega) hW hgt ho hh (.inl ⟨rfl, fun _ _ => rfl⟩) hs.2 hwb k1b k2b (.inl (by rw [hne _ (by omega), htl]; exact k5))
    have i1' : iv_X E 47 [.ref 158, .int (nI ob), .int (nI h), .int (-1)] (gh (bgB g d h s.2.length) dyn, z) = some (some (.int (rulS g0 R tr ob h s.2).1), (gh g1 dyn, z)) := i1
    have i2' : rB g1 (rulS g0 R tr ob h s.2).2 := i2
    have e50 := m50 (s := z) (D := E) (c := s.2.length) (r := some (some (.int (rulS g0 R tr ob h s.2).1), (gh g1 dyn, z))) hW hw hd ho hgr k5 h183 h184 h185 k1.1 (by omega) (fun _ => ⟨_, g1, by rw [← hh']; exact i1', rfl⟩)
    rw [if_neg (by omega)] at e50
    have es := r52_b (a := a) (b := b) (n := n) (show n < 100000 by omega) hd k5 h187 e50
    change rn (E + 1) dyn z a b n (nI 0) g = rn (E + 1) dyn z a b (n + 1) (rulS g0 R tr ob h s.2).1 g1 at es
    have hv1 : vS (s.1, (rulS g0 R tr ob h s.2).2) := ⟨hs.1, ru_v hW ho hgt hs.2⟩
    have hst : stepS rec g0 f R tr ob gr i s = stageS rec g0 f R tr ob h s := by
      unfold stepS
      rw [hh']
    have h439 : g1 439 0 0 = nI s.1 := by rw [i3 439 rfl, hne _ (by omega)]; exact k4
    have hlw1 : lwB d g g1 := lwB_tr hlw (lwB_fB i3)
    have hdf1 : fD g g1 := fD_tr hdf (fB_fD i3)
    by_cases hc0 : (rulS g0 R tr ob h s.2).1 = nI 0
    · have hK1 : KB g1 tr os (s.1, (rulS g0 R tr ob h s.2).2) := ⟨i2', trB_fr k2b (i3 191 rfl) (i3 192 rfl), fun x y hxy => by rw [i3 183 rfl, i3 184 rfl, hne _ (by omega), hne _ (by omega)]; exact k3 x y hxy, h439, by rw [i3 428 rfl, hne _ (by omega)]; exact k5'⟩
      have hcf1 : cfB g1 d i h 0 0 bf := by
        refine ⟨by rw [i3 185 rfl, hne _ (by omega)]; exact h185, by rw [i3 186 rfl]; simp [bgB, gu], by rw [i3 187 rfl]; simp [bgB, gu], by rw [i3 188 rfl]; simp [bgB, gu], by rw [i3 189 rfl]; simp [bgB, gu], by rw [i3 190 rfl]; simp [bgB, gu, hlen]⟩
      obtain ⟨hv2, n2, g2, j1, j2, j3, j4, j5, j6, j7⟩ := flB (a := a) (b := b) (i := i) (bf := bf) hW hr hE hd hl htl hg ho hgr htop hh f 0 g1 (s.1, (rulS g0 R tr ob h s.2).2) (n + 1) (by omega) (wd_tr hw (fD_wd hdf1)) hv1 hK1 hcf1 (by omega)
      have hsg : stageS rec g0 f R tr ob h s = itS (fieldS rec g0 tr ob h) f 0 (s.1, (rulS g0 R tr ob h s.2).2) := by
        unfold stageS
        rw [if_pos hc0]
      rw [← hsg, ← hst] at hv2 j1 j2 j3 j6 j7
      rw [hc0] at es
      by_cases hc2 : (stepS rec g0 f R tr ob gr i s).1 = nI 0
      · obtain ⟨hK2, hcf2⟩ := j7 hc2
        obtain ⟨m1, m2, m3, m4, m5⟩ := id hK2
        obtain ⟨c1, c2, c3, c4, c5, c6⟩ := id hcf2
        rw [hl] at m5
        have hlb : bf ≤ (stepS rec g0 f R tr ob gr i s).2.2.length := by
          rw [hst, ← hlen]
          exact stageS_le hle s
        have hw2 : wd g0 g2 := wd_tr hw (fD_wd (fD_tr hdf1 j5))
        have e51 := m51_end (dyn := dyn) (s := z) (D := E) hd ho10 hf14 (show i ≤ 4 by omega) hv2.2.1 hlb m5 (m3 d _ htop).1 c4 (by rw [hw2 402 rfl]; exact h402) c1 m1.1 c6
        have es2 := r52_o (a := a) (b := b) (n := n2) (show n2 < 100000 by omega) hd m5 c3 e51
        rw [hc2] at j1
        obtain ⟨G, hG⟩ : ∃ G, G = gu (gu (gu g2 187 0 d (bI false)) 185 0 d (nI (i + 1))) 428 0 0 (nI (if (stepS rec g0 f R tr ob gr i s).2.2.length = bf then d + 1 else d)) := ⟨_, rfl⟩
        rw [← hG] at es2
        have hne2 : ∀ b, b ≠ 187 → b ≠ 185 → b ≠ 428 → G b = g2 b := fun b h1 h2 h3 => by rw [hG, gu_ne h3, gu_ne h2, gu_ne h1]
        have hlw3 : lwB d g2 G := hG ▸ lwB_gu (lwB_gu (lwB_gu lwB_rf (.inr (.inl ⟨by omega, by omega⟩))) (.inr (.inl ⟨by omega, by omega⟩))) (.inl (.inr (by omega)))
        have hdf3 : fD g2 G := hG ▸ fD_gu (fD_gu (fD_gu fD_rf rfl) rfl) rfl
        have hrB3 : rB G (stepS rec g0 f R tr ob gr i s).2.2 := rB_fr m1 (hne2 _ (by decide) (by decide) (by decide)) (hne2 _ (by decide) (by decide) (by decide)) (hne2 _ (by decide) (by decide) (by decide)) (hne2 _ (by decide) (by decide) (by decide)) (hne2 _ (by decide) (by decide) (by decide))
        have h439G : G 439 0 0 = nI (stepS rec g0 f R tr ob gr i s).2.1 := by rw [hne2 _ (by decide) (by decide) (by decide)]; exact m4
        have eall : rn (E + 1) dyn z a b n (nI 0) g = rn (E + 1) dyn z a b (n2 + 1) (nI 0) G := es.trans (j1.trans es2)
        by_cases hc3 : (stepS rec g0 f R tr ob gr i s).2.2.length = bf
        · rw [if_pos hc3] at hG
          have hK3 : KB G tr os (stepS rec g0 f R tr ob gr i s).2 := ⟨hrB3, trB_fr m2 (hne2 _ (by decide) (by decide) (by decide)) (hne2 _ (by decide) (by decide) (by decide)), fun x y hxy => by rw [hne2 _ (by decide) (by decide) (by decide), hne2 _ (by decide) (by decide) (by decide)]; exact m3 x y hxy, h439G, by rw [hG, gu_eq, hl]⟩
          obtain ⟨hv4, n4, g4, p1, p2, p3, p4, p5, p6, p7⟩ := ih (i + 1) G _ (n2 + 1) (by omega) (wd_tr hw2 (fD_wd hdf3)) hv2 hc3 hK3 (by rw [hG, gu_ne (by decide), gu_eq]) (by rw [hG, gu_ne (by decide), gu_ne (by decide), gu_eq]) (by omega)
          simp only [sgeS, hc2, hc3, and_self, if_true]
          exact ⟨hv4, n4, g4, eall.trans p1, p2, p3, lwB_tr hlw1 (lwB_tr j4 (lwB_tr hlw3 p4)), fD_tr hdf1 (fD_tr j5 (fD_tr hdf3 p5)), by omega, p7⟩
        · rw [if_neg hc3] at hG
          simp only [sgeS, hc3, and_false, if_false]
          rw [hc2]
          exact ⟨hv2, n2 + 1, G, eall, hrB3, h439G, lwB_tr hlw1 (lwB_tr j4 hlw3), fD_tr hdf1 (fD_tr j5 hdf3), by omega, fun _ => by rw [hG, gu_eq]⟩
      · simp only [sgeS, hc2, false_and, if_false]
        exact ⟨hv2, n2, g2, es.trans j1, j2, j3, lwB_tr hlw1 j4, fD_tr hdf1 j5, by omega, fun h => h.elim⟩
    · have hsg : stepS rec g0 f R tr ob gr i s = ((rulS g0 R tr ob h s.2).1, (s.1, (rulS g0 R tr ob h s.2).2)) := by
        rw [hst]
        unfold stageS
        rw [if_neg hc0]
      have hsge : sgeS (stepS rec g0 f R tr ob gr) bf (k + 1) i s = ((rulS g0 R tr ob h s.2).1, (s.1, (rulS g0 R tr ob h s.2).2)) := by
        simp only [sgeS, hsg, hc0, false_and, if_false]
      rw [hsge]
      exact ⟨hv1, n + 1, g1, es, i2', h439, hlw1, hdf1, by show n + 1 + 240 * (60 - s.1) ≤ _; omega, fun h => absurd h hc0⟩
theorem cB {t f R p n0 : Nat} {g0 : Gs} {dyn : Nat → Option iv_C} {z : Nat × Nat} {E : Nat} (hE : 4 ≤ E) (hW : Wd t f R p n0 g0 dyn) : ∀ (k : Nat) (os : List (Nat × Nat)), 17 ≤ k + os.length → os.length ≤ 16 → gdO os → RB g0 dyn z (E + 1) p os (chkS g0 f R k os) := by
  intro k
  induction k with
  | zero => exact fun os h1 h2 _ => absurd h1 (by omega)
  | succ k ih =>
    intro os h17 h16 hgo a b g tr ob gr s n hw hto hgt ho hgr hs hK hn
    obtain ⟨_, hc6, ho10, _⟩ := w_cl hW ho
    obtain ⟨k1, k2, k3, k4, k5⟩ := id hK
    have hs60 := hs.1
    have e49 := fun E' (h : 2 ≤ E') => m49 (s := z) h hW hw k5 k4 hs60 k3 h16 hgo ho hgr
    refine ⟨(chk_v hW (k + 1) os tr ob gr s hto hgt ho hs).1, ?_⟩
    by_cases hop : (ob, gr) ∈ os
    · simp only [chkS, hop, if_true]
      simp only [hop, if_true] at e49
      exact ⟨nI 0, g, e49, n, g, rfl, k1, k4, fun _ => k5, lwB_rf, fD_rf, by omega⟩
    · simp only [hop, if_false] at e49
      by_cases hrm : 60 ≤ s.1 ∨ 16 ≤ os.length
      · simp only [chkS, hop, if_false, hrm, if_true]
        simp only [hrm, if_true] at e49
        exact ⟨-5, g, e49, n, g, rfl, k1, k4, fun h => absurd h (by decide), lwB_rf, fD_rf, by omega⟩
      · simp only [hrm, if_false] at e49
        by_cases hor : stB g0 ob gr = true ∧ gdS g0 (clS g0 ob) = false
        · simp only [chkS, hop, if_false, hrm, hor, and_self, if_true]
          simp only [hor, and_self, if_true] at e49
          exact ⟨-3, gu g 439 0 0 (nI (s.1 + 1)), e49, n, gu g 439 0 0 (nI (s.1 + 1)), rfl, rB_fr k1 (gu_ne (by decide)) (gu_ne (by decide)) (gu_ne (by decide)) (gu_ne (by decide)) (gu_ne (by decide)), gu_eq, fun h => absurd h (by decide), lwB_gu lwB_rf (.inl (.inr (by omega))), fD_gu fD_rf rfl, by omega⟩
        · simp only [hor, if_false] at e49
          have es : chkS g0 f R (k + 1) os tr ob gr s = sgeS (stepS (chkS g0 f R k (os ++ [(ob, gr)])) g0 f R tr ob gr) s.2.length (stN g0 ob gr) 0 (s.1 + 1, s.2) := by
            simp only [chkS, hop, if_false, hrm, hor]
          rw [es]
          have hN4 : stN g0 ob gr ≤ 4 := by
            unfold stN
            split
            · exact (w_or hW hc6).1
            · omega
          obtain ⟨d, hd⟩ : ∃ d, d = os.length := ⟨_, rfl⟩
          rw [← hd] at e49 k5
          have hlen : (os ++ [(ob, gr)]).length = d + 1 := by rw [List.length_append, hd]; rfl
          have hne : ∀ b, b ≠ 439 → b ≠ 183 → b ≠ 184 → b ≠ 185 → b ≠ 187 → b ≠ 428 → psB g s.1 d ob gr b = g b := fun b h1 h2 h3 h4 h5 h6 => by
            unfold psB
            rw [gu_ne h6, gu_ne h5, gu_ne h4, gu_ne h3, gu_ne h2, gu_ne h1]
          have hdf : fD g (psB g s.1 d ob gr) := fD_gu (fD_gu (fD_gu (fD_gu (fD_gu (fD_gu fD_rf rfl) rfl) rfl) rfl) rfl) rfl
          have hlw : lwB d g (psB g s.1 d ob gr) := lwB_gu (lwB_gu (lwB_gu (lwB_gu (lwB_gu (lwB_gu lwB_rf (.inl (.inr (by omega)))) (.inr (.inl ⟨by omega, by omega⟩))) (.inr (.inl ⟨by omega, by omega⟩))) (.inr (.inl ⟨by omega, by omega⟩))) (.inr (.inl ⟨by omega, by omega⟩))) (.inl (.inr (by omega)))
          have hK1 : KB (psB g s.1 d ob gr) tr (os ++ [(ob, gr)]) (s.1 + 1, s.2) := by
            refine ⟨rB_fr k1 (hne _ (by decide) (by decide) (by decide) (by decide) (by decide) (by decide)) (hne _ (by decide) (by decide) (by decide) (by decide) (by decide) (by decide)) (hne _ (by decide) (by decide) (by decide) (by decide) (by decide) (by decide)) (hne _ (by decide) (by decide) (by decide) (by decide) (by decide) (by decide)) (hne _ (by decide) (by decide) (by decide) (by decide) (by decide) (by decide)), trB_fr k2 (hne _ (by decide) (by decide) (by decide) (by decide) (by decide) (by decide)) (hne _ (by decide) (by decide) (by decide) (by decide) (by decide) (by decide)), fun x y hxy => ?_, by simp [psB, gu], by rw [hlen]; simp [psB, gu]⟩
            rcases ap_cs hxy with ⟨rfl, rfl⟩ | ⟨h5, h6⟩
            · simp [psB, gu, hd]
            · have h7 := k3 x y h6
              simp [psB, gu, show ¬ x = d by omega, h7]
          have htop : (os ++ [(ob, gr)])[d]? = some (ob, gr) := by
            rw [hd, List.getElem?_append_right (Nat.le_refl _), Nat.sub_self]
            rfl
          obtain ⟨_, n', g', j1, j2, j3, j4, j5, j6, j7⟩ := sgB (a := a) (b := b) (d := d) hW (ih (os ++ [(ob, gr)]) (by omega) (by omega) (gdO_ap hgo ho10 hgr)) hE (by omega) hlen (by omega) hgt ho hgr htop (chkS_le k _) hs.2.1 (stN g0 ob gr) 0 (psB g s.1 d ob gr) (s.1 + 1, s.2) n (by omega) (wd_tr hw (fD_wd hdf)) ⟨by show s.1 + 1 ≤ 60; omega, hs.2⟩ rfl hK1 (by simp [psB, gu]) (by simp [psB, gu]) (by show n + 240 * (60 - (s.1 + 1)) + _ ≤ _; omega)
          refine ⟨nI 0, psB g s.1 d ob gr, e49, n', g', j1, j2, j3, fun h => ?_, ?_, fD_tr hdf j5, ?_⟩
          · rw [← hd]
            exact j7 h
          · rw [← hd]
            exact lwB_tr hlw j4
          · change _ ≤ n + 240 * (60 - (s.1 + 1)) + _ at j6
            omega
