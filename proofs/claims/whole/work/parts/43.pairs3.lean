/-! the closure, counted again by the reference; extend, member -/
def csub (S C : Int32) : Prop := ∀ y, y < 32 → tb S y = true → tb C y = true
def ccl (E : Nat → Int32) (S : Int32) : Prop := ∀ k, k < 6 → tb S k = true → ∀ y, y < 32 → tb (E k) y = true → tb S y = true
def cct (S : Int32) : Nat := (tb S 0).toNat + (tb S 1).toNat + (tb S 2).toNat + (tb S 3).toNat + (tb S 4).toNat + (tb S 5).toNat
theorem clI_sup {E : Nat → Int32} : ∀ (m k : Nat) (S : Int32) (y : Nat), tb S y = true → tb (clI E m k S) y = true
  | 0, _, _, _, h => h
  | m + 1, k, S, y, h => by
    unfold clI
    refine clI_sup m (k + 1) _ y ?_
    by_cases hk : tb S k = true
    · rw [if_pos hk, tb_or, h, Bool.true_or]
    · rw [if_neg hk]
      exact h
theorem clI_in {E : Nat → Int32} : ∀ (m k : Nat) (S : Int32) (k' y : Nat), k ≤ k' → k' < k + m → tb S k' = true → tb (E k') y = true → tb (clI E m k S) y = true
  | 0, k, S, k', y, h1, h2, _, _ => absurd h2 (by omega)
  | m + 1, k, S, k', y, h1, h2, h3, h4 => by
    unfold clI
    by_cases hk : k' = k
    · subst hk
      rw [if_pos h3]
      exact clI_sup m _ _ y (by rw [tb_or, h4, Bool.or_true])
    · refine clI_in m (k + 1) _ k' y (by omega) (by omega) ?_ h4
      by_cases hk2 : tb S k = true
      · rw [if_pos hk2, tb_or, h3, Bool.true_or]
      · rw [if_neg hk2]
        exact h3
theorem clI_sub {E : Nat → Int32} {C : Int32} (hC : ∀ k, k < 6 → tb C k = true → ∀ y, y < 32 → tb (E k) y = true → tb C y = true) : ∀ (m k : Nat) (S : Int32), k + m = 6 → csub S C → csub (clI E m k S) C
  | 0, _, _, _, h => h
  | m + 1, k, S, hm, h => by
    unfold clI
    refine clI_sub hC m (k + 1) _ (by omega) ?_
    by_cases hk : tb S k = true
    · rw [if_pos hk]
      intro y hy h1
      rw [tb_or, Bool.or_eq_true] at h1
      rcases h1 with h1 | h1
      · exact h y hy h1
      · exact hC k (by omega) (h k (by omega) hk) y hy h1
    · rw [if_neg hk]
      exact h
theorem clI_fix {E : Nat → Int32} {S : Int32} (hS : ccl E S) : ∀ (m k : Nat), k + m = 6 → clI E m k S = S
  | 0, _, _ => rfl
  | m + 1, k, hm => by
    unfold clI
    by_cases hk : tb S k = true
    · rw [if_pos hk, show (S ||| E k) = S from tb_ext (fun y hy => ?_)]
      · exact clI_fix hS m (k + 1) (by omega)
      · rw [tb_or]
        cases h1 : tb (E k) y with
        | false => rw [Bool.or_false]
        | true => rw [hS k (by omega) hk y hy h1, Bool.or_true]
    · rw [if_neg hk]
      exact clI_fix hS m (k + 1) (by omega)
theorem tn_le {a b : Bool} (h : a = true → b = true) : a.toNat ≤ b.toNat := by
  cases a
  · exact Nat.zero_le _
  · rw [h rfl]
    exact Nat.le_refl _
theorem cct_lt {S S' : Int32} {y : Nat} (h : ∀ y, tb S y = true → tb S' y = true) (hy : y < 6) (h1 : tb S y = false) (h2 : tb S' y = true) : cct S < cct S' := by
  have g0 := tn_le (h 0)
  have g1 := tn_le (h 1)
  have g2 := tn_le (h 2)
  have g3 := tn_le (h 3)
  have g4 := tn_le (h 4)
  have g5 := tn_le (h 5)
  have e1 : (tb S y).toNat = 0 := by rw [h1]; rfl
  have e2 : (tb S' y).toNat = 1 := by rw [h2]; rfl
  unfold cct
  have : y = 0 ∨ y = 1 ∨ y = 2 ∨ y = 3 ∨ y = 4 ∨ y = 5 := by omega
  rcases this with rfl | rfl | rfl | rfl | rfl | rfl <;> omega
theorem cct_le {S : Int32} : cct S ≤ 6 := by
  have g : ∀ y, (tb S y).toNat ≤ 1 := fun y => by cases tb S y <;> decide
  have g0 := g 0
  have g1 := g 1
  have g2 := g 2
  have g3 := g 3
  have g4 := g 4
  have g5 := g 5
  unfold cct
  omega
theorem clO_all {E : Nat → Int32} {C : Int32} {q : Nat} (hC : ∀ k, k < 6 → tb C k = true → ∀ y, y < 32 → tb (E k) y = true → tb C y = true) (hi : ∀ y, 6 ≤ y → y < 32 → tb C y = false) : ∀ (r : Nat) (S : Int32), csub S C → tb S q = true → (ccl E S ∨ 7 ≤ cct S + r) → ccl E (clO E r S) ∧ csub (clO E r S) C ∧ tb (clO E r S) q = true
  | 0, S, h1, h2, h3 => by
    refine ⟨?_, h1, h2⟩
    rcases h3 with h3 | h3
    · exact h3
    · have := @cct_le S
      omega
  | r + 1, S, h1, h2, h3 => by
    unfold clO
    refine clO_all hC hi r _ (clI_sub hC 6 0 S rfl h1) (clI_sup 6 0 S q h2) ?_
    by_cases hS : ccl E S
    · rw [clI_fix hS 6 0 rfl]
      exact .inl hS
    · refine .inr ?_
      have h4 := h3.resolve_left hS
      have : ∃ y, y < 6 ∧ tb S y = false ∧ tb (clI E 6 0 S) y = true := by
        refine Classical.byContradiction (fun hn => hS (fun k hk hk2 y hy h5 => ?_))
        have h6 := clI_in 6 0 S k y (by omega) (by omega) hk2 h5
        by_cases hy6 : y < 6
        · cases h7 : tb S y with
          | true => rfl
          | false => exact absurd ⟨y, hy6, h7, h6⟩ hn
        · have h7 := clI_sub hC 6 0 S rfl h1 y hy h6
          rw [hi y (by omega) hy] at h7
          exact absurd h7 (by decide)
      obtain ⟨y, hy, h5, h6⟩ := this
      have := cct_lt (fun y h => clI_sup 6 0 S y h) hy h5 h6
      omega
theorem iCl_clo {g : Gs} (h : iCl g) {q : Nat} (hq : q < 6) : clo (g 175 0) q = g 45 0 q := by
  obtain ⟨h1, h2, h3, h4⟩ := h q hq
  have hC : ∀ k, k < 6 → tb (g 45 0 q) k = true → ∀ y, y < 32 → tb (g 175 0 k) y = true → tb (g 45 0 q) y = true := by
    intro k hk hk2 y hy h5
    by_cases hy6 : y < 6
    · exact h2 k hk hk2 y hy6 h5
    · rw [((h k hk).2.2.2 y (by omega) hy).2] at h5
      exact absurd h5 (by decide)
  have hb : ∀ y, y < 32 → tb (bt q) y = decide (q = y) := fun y hy => tb_bt (by omega) hy
  obtain ⟨g1, g2, g3⟩ := clO_all (E := g 175 0) (q := q) hC (fun y h5 h6 => (h4 y h5 h6).1) 6 (bt q) (fun y hy h5 => by
      rw [hb y hy] at h5
      rw [← of_decide_eq_true h5]
      exact h1) (by rw [hb q (by omega)]; exact decide_eq_true rfl) (.inr (by
      unfold cct
      have : q = 0 ∨ q = 1 ∨ q = 2 ∨ q = 3 ∨ q = 4 ∨ q = 5 := by omega
      rcases this with rfl | rfl | rfl | rfl | rfl | rfl <;> decide))
  refine tb_ext (fun y hy => ?_)
  show tb (clO (g 175 0) 6 (bt q)) y = _
  by_cases hy6 : y < 6
  · apply Bool.eq_iff_iff.mpr
    exact ⟨g2 y hy, h3 (fun y => tb (clO (g 175 0) 6 (bt q)) y) g3 (fun k hk hk2 y hy h5 => g1 k hk hk2 y (by omega) h5) y hy6⟩
  · rw [(h4 y (by omega) hy).1]
    cases h5 : tb (clO (g 175 0) 6 (bt q)) y with
    | false => rfl
    | true =>
      have h6 := g2 y hy h5
      rw [(h4 y (by omega) hy).1] at h6
      exact h6.symm
theorem iCl_ext {g : Gs} {a b : Nat} (h : iCl g) (ha : a < 6) (hb : b < 6) (hab : tb (g 45 0 b) a = false) : iCl (gu (gwd g a b 6) 175 0 a (g 175 0 a ||| bt b)) := by
  have eC : ∀ x, x < 6 → gu (gwd g a b 6) 175 0 a (g 175 0 a ||| bt b) 45 0 x = if tb (g 45 0 x) a = true then (g 45 0 x ||| g 45 0 b) else g 45 0 x := by
    intro x hx
    rw [gu_ne (by decide)]
    unfold gwd
    by_cases h1 : tb (g 45 0 x) a = true
    · rw [if_pos ⟨rfl, rfl, hx, h1⟩, if_pos h1]
    · rw [if_neg (fun e => h1 e.2.2.2), if_neg h1]
  have eE : ∀ k y, y < 32 → tb (gu (gwd g a b 6) 175 0 a (g 175 0 a ||| bt b) 175 0 k) y = (tb (g 175 0 k) y || decide (k = a ∧ b = y)) := by
    intro k y hy
    by_cases hk : k = a
    · subst hk
      rw [gu_eq, tb_or, tb_bt (by omega) hy]
      simp
    · rw [gu_nj hk, gwd_ne (by decide)]
      simp [hk]
  intro x hx
  obtain ⟨h1, h2, h3, h4⟩ := h x hx
  obtain ⟨b1, b2, b3, b4⟩ := h b hb
  rw [eC x hx]
  by_cases hax : tb (g 45 0 x) a = true
  · rw [if_pos hax]
    refine ⟨by rw [tb_or, h1, Bool.true_or], fun k hk hk2 y hy h5 => ?_, fun S s1 s2 y hy h5 => ?_, fun y hy hy2 => ⟨by rw [tb_or, (h4 y hy hy2).1, (b4 y hy hy2).1]; rfl, ?_⟩⟩
    · rw [eE k y (by omega), Bool.or_eq_true, decide_eq_true_eq] at h5
      rw [tb_or, Bool.or_eq_true] at hk2
      rw [tb_or, Bool.or_eq_true]
      rcases h5 with h5 | ⟨rfl, rfl⟩
      · rcases hk2 with hk2 | hk2
        · exact .inl (h2 k hk hk2 y hy h5)
        · exact .inr (b2 k hk hk2 y hy h5)
      · exact .inr b1
    · have s3 : ∀ k, k < 6 → S k = true → ∀ y, y < 6 → tb (g 175 0 k) y = true → S y = true := fun k hk hk2 y hy h6 => s2 k hk hk2 y hy (by rw [eE k y (by omega), h6, Bool.true_or])
      rw [tb_or, Bool.or_eq_true] at h5
      rcases h5 with h5 | h5
      · exact h3 S s1 s3 y hy h5
      · have sa := h3 S s1 s3 a ha hax
        have sb := s2 a ha sa b hb (by rw [eE a b (by omega)]; simp)
        exact b3 S sb s3 y hy h5
    · rw [eE x y hy2, (h4 y hy hy2).2]
      simp
      omega
  · rw [if_neg hax]
    refine ⟨h1, fun k hk hk2 y hy h5 => ?_, fun S s1 s2 y hy h5 => ?_, fun y hy hy2 => ⟨(h4 y hy hy2).1, ?_⟩⟩
    · rw [eE k y (by omega), Bool.or_eq_true, decide_eq_true_eq] at h5
      rcases h5 with h5 | ⟨rfl, rfl⟩
      · exact h2 k hk hk2 y hy h5
      · exact absurd hk2 hax
    · exact h3 S s1 (fun k hk hk2 y hy h6 => s2 k hk hk2 y hy (by rw [eE k y (by omega), h6, Bool.true_or])) y hy h5
    · rw [eE x y hy2, (h4 y hy hy2).2]
      simp
      omega
theorem pr_extend {L N d : Nat} {xs : Nat → Int32} {w : iv_S} (hd : 100 ≤ d) (x y : Int32) (h : Iv L xs N w) : lw_pair d 8 32 [.int x, .int y] L xs w (Iv L xs (N + 1)) := by
  obtain ⟨t, f, r, p, g, dyn, n, z, rfl, h0, hn, hn', hz, hT, hF, hC, hS, hO, hV, hR, hK, hP⟩ := h
  obtain ⟨ht, hT1, hT2, hL⟩ := id hT
  obtain ⟨hf, hF1, hF2, hF3, hF4⟩ := id hF
  obtain ⟨hp, hV1, hV2, hV3, hV4, hV5⟩ := id hV
  by_cases hok : ixb x 6 = true ∧ ixb y 6 = true
  · obtain ⟨hx, hy⟩ := hok
    obtain ⟨a, ha, rfl⟩ := ixb_of hx (by omega)
    obtain ⟨b, hb, rfl⟩ := ixb_of hy (by omega)
    cases hab : tb (g 45 0 b) a with
    | true => exact lw_mk h0 (c8_c (by omega) ha hb hab) h0 (m32_c (by omega) ha hb (by rw [iCl_clo hC hb]; exact hab)) ⟨_, f, r, _, g, dyn, n, z, rfl, h0, hn, by omega, by omega, hT, hF, hC, hS, hO, hV, hR, hK, hP⟩
    | false =>
      have e175 : gwd g a b 6 175 = g 175 := gwd_ne (by decide)
      have e2 := m32_y (g := gwd g a b 6) (dyn := dyn) (s := (n, z)) (D := d) (a := a) (b := b) (by omega) ha hb (by rw [e175, iCl_clo hC hb]; exact hab)
      rw [e175] at e2
      exact lw_mk h0 (c8_y (by omega) ha hb hab) h0 e2 ⟨t, f, r, p, _, _, _, _, rfl, h0, hn, by omega, by omega, (iT_fr hT (by simp (disch := decide) only [gu_ne, gsq_ne, gcl_ne, gwd_ne]) (by simp (disch := decide) only [gu_ne, gsq_ne, gcl_ne, gwd_ne]) (by simp (disch := decide) only [gu_ne, gsq_ne, gcl_ne, gwd_ne]) (by simp (disch := decide) only [gu_ne, gsq_ne, gcl_ne, gwd_ne])), (iFd_fr hF (by simp (disch := decide) only [gu_ne, gsq_ne, gcl_ne, gwd_ne]) (by simp (disch := decide) only [gu_ne, gsq_ne, gcl_ne, gwd_ne]) (by simp (disch := decide) only [gu_ne, gsq_ne, gcl_ne, gwd_ne]) (by simp (disch := decide) only [gu_ne, gsq_ne, gcl_ne, gwd_ne]) (by simp (disch := decide) only [gu_ne, gsq_ne, gcl_ne, gwd_ne]) (by simp (disch := decide) only [gu_ne, gsq_ne, gcl_ne, gwd_ne]) (by simp (disch := decide) only [gu_ne, gsq_ne, gcl_ne, gwd_ne]) (by simp (disch := decide) only [gu_ne, gsq_ne, gcl_ne, gwd_ne]) (by simp (disch := decide) only [gu_ne, gsq_ne, gcl_ne, gwd_ne]) (by simp (disch := decide) only [gu_ne, gsq_ne, gcl_ne, gwd_ne])), (iCl_ext hC ha hb hab), (iSq_fr hS (by simp (disch := decide) only [gu_ne, gsq_ne, gcl_ne, gwd_ne]) (by simp (disch := decide) only [gu_ne, gsq_ne, gcl_ne, gwd_ne]) (by simp (disch := decide) only [gu_ne, gsq_ne, gcl_ne, gwd_ne]) (by simp (disch := decide) only [gu_ne, gsq_ne, gcl_ne, gwd_ne])), (iOr_fr hO (by simp (disch := decide) only [gu_ne, gsq_ne, gcl_ne, gwd_ne]) (by simp (disch := decide) only [gu_ne, gsq_ne, gcl_ne, gwd_ne]) (by simp (disch := decide) only [gu_ne, gsq_ne, gcl_ne, gwd_ne]) (by simp (disch := decide) only [gu_ne, gsq_ne, gcl_ne, gwd_ne])), (iSt_fr hV (by simp (disch := decide) only [gu_ne, gsq_ne, gcl_ne, gwd_ne]) (by simp (disch := decide) only [gu_ne, gsq_ne, gcl_ne, gwd_ne]) (by simp (disch := decide) only [gu_ne, gsq_ne, gcl_ne, gwd_ne]) (by simp (disch := decide) only [gu_ne, gsq_ne, gcl_ne, gwd_ne]) (by simp (disch := decide) only [gu_ne, gsq_ne, gcl_ne, gwd_ne]) (by simp (disch := decide) only [gu_ne, gsq_ne, gcl_ne, gwd_ne]) (by simp (disch := decide) only [gu_ne, gsq_ne, gcl_ne, gwd_ne]) (by simp (disch := decide) only [gu_ne, gsq_ne, gcl_ne, gwd_ne]) (by simp (disch := decide) only [gu_ne, gsq_ne, gcl_ne, gwd_ne])), (iRs_fr hR (Nat.le_refl _) (Nat.le_refl _) (fun _ _ _ => rfl) rfl (by simp (disch := decide) only [gu_ne, gsq_ne, gcl_ne, gwd_ne]) (by simp (disch := decide) only [gu_ne, gsq_ne, gcl_ne, gwd_ne]) (by simp (disch := decide) only [gu_ne, gsq_ne, gcl_ne, gwd_ne]) (by simp (disch := decide) only [gu_ne, gsq_ne, gcl_ne, gwd_ne]) (by simp (disch := decide) only [gu_ne, gsq_ne, gcl_ne, gwd_ne]) (by simp (disch := decide) only [gu_ne, gsq_ne, gcl_ne, gwd_ne]) (by simp (disch := decide) only [gu_ne, gsq_ne, gcl_ne, gwd_ne]) (by simp (disch := decide) only [gu_ne, gsq_ne, gcl_ne, gwd_ne])), (iCs_fr hK (Nat.le_refl _) (fun _ _ _ => rfl) rfl rfl rfl (by simp (disch := decide) only [gu_ne, gsq_ne, gcl_ne, gwd_ne]) (by simp (disch := decide) only [gu_ne, gsq_ne, gcl_ne, gwd_ne]) (by simp (disch := decide) only [gu_ne, gsq_ne, gcl_ne, gwd_ne]) (by simp (disch := decide) only [gu_ne, gsq_ne, gcl_ne, gwd_ne]) (by simp (disch := decide) only [gu_ne, gsq_ne, gcl_ne, gwd_ne]) (by simp (disch := decide) only [gu_ne, gsq_ne, gcl_ne, gwd_ne]) (by simp (disch := decide) only [gu_ne, gsq_ne, gcl_ne, gwd_ne])), (iRp_fr hP (by simp (disch := decide) only [gu_ne, gsq_ne, gcl_ne, gwd_ne]) (by simp (disch := decide) only [gu_ne, gsq_ne, gcl_ne, gwd_ne]) (by simp (disch := decide) only [gu_ne, gsq_ne, gcl_ne, gwd_ne]) (by simp (disch := decide) only [gu_ne, gsq_ne, gcl_ne, gwd_ne]) (by simp (disch := decide) only [gu_ne, gsq_ne, gcl_ne, gwd_ne]) (by simp (disch := decide) only [gu_ne, gsq_ne, gcl_ne, gwd_ne]) (by simp (disch := decide) only [gu_ne, gsq_ne, gcl_ne, gwd_ne]) (by simp (disch := decide) only [gu_ne, gsq_ne, gcl_ne, gwd_ne]) (by simp (disch := decide) only [gu_ne, gsq_ne, gcl_ne, gwd_ne]) (by simp (disch := decide) only [gu_ne, gsq_ne, gcl_ne, gwd_ne]) (by simp (disch := decide) only [gu_ne, gsq_ne, gcl_ne, gwd_ne]) (by simp (disch := decide) only [gu_ne, gsq_ne, gcl_ne, gwd_ne]) (by simp (disch := decide) only [gu_ne, gsq_ne, gcl_ne, gwd_ne]))⟩
  · exact lw_mk h0 (c8_no (by omega) hok) h0 (m32_no (by omega) hok) ⟨_, f, r, _, g, dyn, n, z, rfl, h0, hn, by omega, by omega, hT, hF, hC, hS, hO, hV, hR, hK, hP⟩
theorem pr_member {L N d : Nat} {xs : Nat → Int32} {w : iv_S} (hd : 100 ≤ d) (x y : Int32) (h : Iv L xs N w) : lw_pair d 9 33 [.int x, .int y] L xs w (Iv L xs (N + 1)) := by
  obtain ⟨t, f, r, p, g, dyn, n, z, rfl, h0, hn, hn', hz, hT, hF, hC, hS, hO, hV, hR, hK, hP⟩ := h
  obtain ⟨ht, hT1, hT2, hL⟩ := id hT
  obtain ⟨hf, hF1, hF2, hF3, hF4⟩ := id hF
  obtain ⟨hp, hV1, hV2, hV3, hV4, hV5⟩ := id hV
  by_cases hok : sqb x = true ∧ ixb y 8 = true
  · obtain ⟨hx, hy⟩ := hok
    obtain ⟨q, hq, rfl⟩ := sqb_of hx
    obtain ⟨k, hk, rfl⟩ := ixb_of hy (by omega)
    obtain ⟨m, hm, hm1, hm2, hm3⟩ := hS q hq
    by_cases h4 : m = 4
    · subst h4
      have e2 := m33_f (g := g) (dyn := dyn) (s := (n, z)) (D := d) (by omega) hq hy hm2
      by_cases hk6 : k < 6
      · exact lw_mk h0 (c9_fg (by omega) hq hk6 hm1) h0 e2 ⟨_, f, r, _, g, dyn, n, z, rfl, h0, hn, by omega, by omega, hT, hF, hC, hS, hO, hV, hR, hK, hP⟩
      · obtain ⟨k', rfl⟩ : ∃ k', k = 6 + k' := ⟨k - 6, by omega⟩
        exact lw_mk h0 (c9_fs (by omega) hq (by omega) hm1) h0 e2 ⟨_, f, r, _, g, dyn, n, z, rfl, h0, hn, by omega, by omega, hT, hF, hC, hS, hO, hV, hR, hK, hP⟩
    · by_cases hk6 : k < 6
      · skip
        have hS' : iSq (gu (gu (gu (gu g 48 q m (nI k)) 247 q 0 (nI (m + 1))) 177 0 (4 * q + m) (nI k)) 176 0 q (nI (m + 1))) := by
          intro q' hq'
          by_cases hqq : q' = q
          · subst hqq
            refine ⟨m + 1, by omega, by simp [gu], by simp [gu], fun j hj => ?_⟩
            by_cases hjm : j = m
            · subst hjm
              exact ⟨k, by omega, by simp [gu], by simp [gu]⟩
            · obtain ⟨z', g1, g2, g3⟩ := hm3 j (by omega)
              exact ⟨z', g1, by simp [gu, hjm, g2], by simp [gu, hjm, g3]⟩
          · obtain ⟨m', k1, k2, k3, k4⟩ := hS q' hq'
            refine ⟨m', k1, by simp [gu, hqq, k2], by simp [gu, hqq, k3], fun j hj => ?_⟩
            obtain ⟨z', g1, g2, g3⟩ := k4 j hj
            exact ⟨z', g1, by simp [gu, hqq, g2], by simp [gu, show ¬ 4 * q' + j = 4 * q + m by omega, g3]⟩
        exact lw_mk h0 (c9_yg (by omega) hq hk6 hm1 (by omega)) h0 (m33_y (n := m) (by omega) hq hy hm2 (by omega)) ⟨t, f, r, p, _, _, _, _, rfl, h0, hn, by omega, by omega, (iT_fr hT (by simp (disch := decide) only [gu_ne, gsq_ne, gcl_ne, gwd_ne]) (by simp (disch := decide) only [gu_ne, gsq_ne, gcl_ne, gwd_ne]) (by simp (disch := decide) only [gu_ne, gsq_ne, gcl_ne, gwd_ne]) (by simp (disch := decide) only [gu_ne, gsq_ne, gcl_ne, gwd_ne])), (iFd_fr hF (by simp (disch := decide) only [gu_ne, gsq_ne, gcl_ne, gwd_ne]) (by simp (disch := decide) only [gu_ne, gsq_ne, gcl_ne, gwd_ne]) (by simp (disch := decide) only [gu_ne, gsq_ne, gcl_ne, gwd_ne]) (by simp (disch := decide) only [gu_ne, gsq_ne, gcl_ne, gwd_ne]) (by simp (disch := decide) only [gu_ne, gsq_ne, gcl_ne, gwd_ne]) (by simp (disch := decide) only [gu_ne, gsq_ne, gcl_ne, gwd_ne]) (by simp (disch := decide) only [gu_ne, gsq_ne, gcl_ne, gwd_ne]) (by simp (disch := decide) only [gu_ne, gsq_ne, gcl_ne, gwd_ne]) (by simp (disch := decide) only [gu_ne, gsq_ne, gcl_ne, gwd_ne]) (by simp (disch := decide) only [gu_ne, gsq_ne, gcl_ne, gwd_ne])), (iCl_fr hC (by simp (disch := decide) only [gu_ne, gsq_ne, gcl_ne, gwd_ne]) (by simp (disch := decide) only [gu_ne, gsq_ne, gcl_ne, gwd_ne])), hS', (iOr_fr hO (by simp (disch := decide) only [gu_ne, gsq_ne, gcl_ne, gwd_ne]) (by simp (disch := decide) only [gu_ne, gsq_ne, gcl_ne, gwd_ne]) (by simp (disch := decide) only [gu_ne, gsq_ne, gcl_ne, gwd_ne]) (by simp (disch := decide) only [gu_ne, gsq_ne, gcl_ne, gwd_ne])), (iSt_fr hV (by simp (disch := decide) only [gu_ne, gsq_ne, gcl_ne, gwd_ne]) (by simp (disch := decide) only [gu_ne, gsq_ne, gcl_ne, gwd_ne]) (by simp (disch := decide) only [gu_ne, gsq_ne, gcl_ne, gwd_ne]) (by simp (disch := decide) only [gu_ne, gsq_ne, gcl_ne, gwd_ne]) (by simp (disch := decide) only [gu_ne, gsq_ne, gcl_ne, gwd_ne]) (by simp (disch := decide) only [gu_ne, gsq_ne, gcl_ne, gwd_ne]) (by simp (disch := decide) only [gu_ne, gsq_ne, gcl_ne, gwd_ne]) (by simp (disch := decide) only [gu_ne, gsq_ne, gcl_ne, gwd_ne]) (by simp (disch := decide) only [gu_ne, gsq_ne, gcl_ne, gwd_ne])), (iRs_fr hR (Nat.le_refl _) (Nat.le_refl _) (fun _ _ _ => rfl) rfl (by simp (disch := decide) only [gu_ne, gsq_ne, gcl_ne, gwd_ne]) (by simp (disch := decide) only [gu_ne, gsq_ne, gcl_ne, gwd_ne]) (by simp (disch := decide) only [gu_ne, gsq_ne, gcl_ne, gwd_ne]) (by simp (disch := decide) only [gu_ne, gsq_ne, gcl_ne, gwd_ne]) (by simp (disch := decide) only [gu_ne, gsq_ne, gcl_ne, gwd_ne]) (by simp (disch := decide) only [gu_ne, gsq_ne, gcl_ne, gwd_ne]) (by simp (disch := decide) only [gu_ne, gsq_ne, gcl_ne, gwd_ne]) (by simp (disch := decide) only [gu_ne, gsq_ne, gcl_ne, gwd_ne])), (iCs_fr hK (Nat.le_refl _) (fun _ _ _ => rfl) rfl rfl rfl (by simp (disch := decide) only [gu_ne, gsq_ne, gcl_ne, gwd_ne]) (by simp (disch := decide) only [gu_ne, gsq_ne, gcl_ne, gwd_ne]) (by simp (disch := decide) only [gu_ne, gsq_ne, gcl_ne, gwd_ne]) (by simp (disch := decide) only [gu_ne, gsq_ne, gcl_ne, gwd_ne]) (by simp (disch := decide) only [gu_ne, gsq_ne, gcl_ne, gwd_ne]) (by simp (disch := decide) only [gu_ne, gsq_ne, gcl_ne, gwd_ne]) (by simp (disch := decide) only [gu_ne, gsq_ne, gcl_ne, gwd_ne])), (iRp_fr hP (by simp (disch := decide) only [gu_ne, gsq_ne, gcl_ne, gwd_ne]) (by simp (disch := decide) only [gu_ne, gsq_ne, gcl_ne, gwd_ne]) (by simp (disch := decide) only [gu_ne, gsq_ne, gcl_ne, gwd_ne]) (by simp (disch := decide) only [gu_ne, gsq_ne, gcl_ne, gwd_ne]) (by simp (disch := decide) only [gu_ne, gsq_ne, gcl_ne, gwd_ne]) (by simp (disch := decide) only [gu_ne, gsq_ne, gcl_ne, gwd_ne]) (by simp (disch := decide) only [gu_ne, gsq_ne, gcl_ne, gwd_ne]) (by simp (disch := decide) only [gu_ne, gsq_ne, gcl_ne, gwd_ne]) (by simp (disch := decide) only [gu_ne, gsq_ne, gcl_ne, gwd_ne]) (by simp (disch := decide) only [gu_ne, gsq_ne, gcl_ne, gwd_ne]) (by simp (disch := decide) only [gu_ne, gsq_ne, gcl_ne, gwd_ne]) (by simp (disch := decide) only [gu_ne, gsq_ne, gcl_ne, gwd_ne]) (by simp (disch := decide) only [gu_ne, gsq_ne, gcl_ne, gwd_ne]))⟩
      · obtain ⟨k', rfl⟩ : ∃ k', k = 6 + k' := ⟨k - 6, by omega⟩
        have hS' : iSq (gu (gu (gu (gu g 48 q m (nI (6 + k'))) 247 q 0 (nI (m + 1))) 177 0 (4 * q + m) (nI (6 + k'))) 176 0 q (nI (m + 1))) := by
          intro q' hq'
          by_cases hqq : q' = q
          · subst hqq
            refine ⟨m + 1, by omega, by simp [gu], by simp [gu], fun j hj => ?_⟩
            by_cases hjm : j = m
            · subst hjm
              exact ⟨(6 + k'), by omega, by simp [gu], by simp [gu]⟩
            · obtain ⟨z', g1, g2, g3⟩ := hm3 j (by omega)
              exact ⟨z', g1, by simp [gu, hjm, g2], by simp [gu, hjm, g3]⟩
          · obtain ⟨m', k1, k2, k3, k4⟩ := hS q' hq'
            refine ⟨m', k1, by simp [gu, hqq, k2], by simp [gu, hqq, k3], fun j hj => ?_⟩
            obtain ⟨z', g1, g2, g3⟩ := k4 j hj
            exact ⟨z', g1, by simp [gu, hqq, g2], by simp [gu, show ¬ 4 * q' + j = 4 * q + m by omega, g3]⟩
        exact lw_mk h0 (c9_ys (by omega) hq (by omega) hm1 (by omega)) h0 (m33_y (n := m) (by omega) hq hy hm2 (by omega)) ⟨t, f, r, p, _, _, _, _, rfl, h0, hn, by omega, by omega, (iT_fr hT (by simp (disch := decide) only [gu_ne, gsq_ne, gcl_ne, gwd_ne]) (by simp (disch := decide) only [gu_ne, gsq_ne, gcl_ne, gwd_ne]) (by simp (disch := decide) only [gu_ne, gsq_ne, gcl_ne, gwd_ne]) (by simp (disch := decide) only [gu_ne, gsq_ne, gcl_ne, gwd_ne])), (iFd_fr hF (by simp (disch := decide) only [gu_ne, gsq_ne, gcl_ne, gwd_ne]) (by simp (disch := decide) only [gu_ne, gsq_ne, gcl_ne, gwd_ne]) (by simp (disch := decide) only [gu_ne, gsq_ne, gcl_ne, gwd_ne]) (by simp (disch := decide) only [gu_ne, gsq_ne, gcl_ne, gwd_ne]) (by simp (disch := decide) only [gu_ne, gsq_ne, gcl_ne, gwd_ne]) (by simp (disch := decide) only [gu_ne, gsq_ne, gcl_ne, gwd_ne]) (by simp (disch := decide) only [gu_ne, gsq_ne, gcl_ne, gwd_ne]) (by simp (disch := decide) only [gu_ne, gsq_ne, gcl_ne, gwd_ne]) (by simp (disch := decide) only [gu_ne, gsq_ne, gcl_ne, gwd_ne]) (by simp (disch := decide) only [gu_ne, gsq_ne, gcl_ne, gwd_ne])), (iCl_fr hC (by simp (disch := decide) only [gu_ne, gsq_ne, gcl_ne, gwd_ne]) (by simp (disch := decide) only [gu_ne, gsq_ne, gcl_ne, gwd_ne])), hS', (iOr_fr hO (by simp (disch := decide) only [gu_ne, gsq_ne, gcl_ne, gwd_ne]) (by simp (disch := decide) only [gu_ne, gsq_ne, gcl_ne, gwd_ne]) (by simp (disch := decide) only [gu_ne, gsq_ne, gcl_ne, gwd_ne]) (by simp (disch := decide) only [gu_ne, gsq_ne, gcl_ne, gwd_ne])), (iSt_fr hV (by simp (disch := decide) only [gu_ne, gsq_ne, gcl_ne, gwd_ne]) (by simp (disch := decide) only [gu_ne, gsq_ne, gcl_ne, gwd_ne]) (by simp (disch := decide) only [gu_ne, gsq_ne, gcl_ne, gwd_ne]) (by simp (disch := decide) only [gu_ne, gsq_ne, gcl_ne, gwd_ne]) (by simp (disch := decide) only [gu_ne, gsq_ne, gcl_ne, gwd_ne]) (by simp (disch := decide) only [gu_ne, gsq_ne, gcl_ne, gwd_ne]) (by simp (disch := decide) only [gu_ne, gsq_ne, gcl_ne, gwd_ne]) (by simp (disch := decide) only [gu_ne, gsq_ne, gcl_ne, gwd_ne]) (by simp (disch := decide) only [gu_ne, gsq_ne, gcl_ne, gwd_ne])), (iRs_fr hR (Nat.le_refl _) (Nat.le_refl _) (fun _ _ _ => rfl) rfl (by simp (disch := decide) only [gu_ne, gsq_ne, gcl_ne, gwd_ne]) (by simp (disch := decide) only [gu_ne, gsq_ne, gcl_ne, gwd_ne]) (by simp (disch := decide) only [gu_ne, gsq_ne, gcl_ne, gwd_ne]) (by simp (disch := decide) only [gu_ne, gsq_ne, gcl_ne, gwd_ne]) (by simp (disch := decide) only [gu_ne, gsq_ne, gcl_ne, gwd_ne]) (by simp (disch := decide) only [gu_ne, gsq_ne, gcl_ne, gwd_ne]) (by simp (disch := decide) only [gu_ne, gsq_ne, gcl_ne, gwd_ne]) (by simp (disch := decide) only [gu_ne, gsq_ne, gcl_ne, gwd_ne])), (iCs_fr hK (Nat.le_refl _) (fun _ _ _ => rfl) rfl rfl rfl (by simp (disch := decide) only [gu_ne, gsq_ne, gcl_ne, gwd_ne]) (by simp (disch := decide) only [gu_ne, gsq_ne, gcl_ne, gwd_ne]) (by simp (disch := decide) only [gu_ne, gsq_ne, gcl_ne, gwd_ne]) (by simp (disch := decide) only [gu_ne, gsq_ne, gcl_ne, gwd_ne]) (by simp (disch := decide) only [gu_ne, gsq_ne, gcl_ne, gwd_ne]) (by simp (disch := decide) only [gu_ne, gsq_ne, gcl_ne, gwd_ne]) (by simp (disch := decide) only [gu_ne, gsq_ne, gcl_ne, gwd_ne])), (iRp_fr hP (by simp (disch := decide) only [gu_ne, gsq_ne, gcl_ne, gwd_ne]) (by simp (disch := decide) only [gu_ne, gsq_ne, gcl_ne, gwd_ne]) (by simp (disch := decide) only [gu_ne, gsq_ne, gcl_ne, gwd_ne]) (by simp (disch := decide) only [gu_ne, gsq_ne, gcl_ne, gwd_ne]) (by simp (disch := decide) only [gu_ne, gsq_ne, gcl_ne, gwd_ne]) (by simp (disch := decide) only [gu_ne, gsq_ne, gcl_ne, gwd_ne]) (by simp (disch := decide) only [gu_ne, gsq_ne, gcl_ne, gwd_ne]) (by simp (disch := decide) only [gu_ne, gsq_ne, gcl_ne, gwd_ne]) (by simp (disch := decide) only [gu_ne, gsq_ne, gcl_ne, gwd_ne]) (by simp (disch := decide) only [gu_ne, gsq_ne, gcl_ne, gwd_ne]) (by simp (disch := decide) only [gu_ne, gsq_ne, gcl_ne, gwd_ne]) (by simp (disch := decide) only [gu_ne, gsq_ne, gcl_ne, gwd_ne]) (by simp (disch := decide) only [gu_ne, gsq_ne, gcl_ne, gwd_ne]))⟩
  · exact lw_mk h0 (c9_no (by omega) hok) h0 (m33_no (by omega) hok) ⟨_, f, r, _, g, dyn, n, z, rfl, h0, hn, by omega, by omega, hT, hF, hC, hS, hO, hV, hR, hK, hP⟩
