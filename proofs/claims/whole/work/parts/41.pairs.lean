/-! both alike, the invariant kept: type, field, order, cascade, convert, object -/
theorem iFd_up {t t' f : Nat} {g : Gs} (h : iFd t f g) (ht : t ≤ t') : iFd t' f g := by
  obtain ⟨h1, h2, h3, h4, h5⟩ := h
  refine ⟨h1, h2, h3, fun i hi => ?_, h5⟩
  obtain ⟨⟨c, hc, h6⟩, h7⟩ := h4 i hi
  exact ⟨⟨c, by omega, h6⟩, h7⟩
theorem iSt_up {t t' f p : Nat} {g : Gs} (h : iSt t f p g) (ht : t ≤ t') : iSt t' f p g := by
  obtain ⟨h1, h2, h3, h4, h5⟩ := h
  refine ⟨h1, h2, h3, fun i hi => ?_, h5⟩
  obtain ⟨c, hc, h6⟩ := h4 i hi
  exact ⟨c, by omega, h6⟩
theorem bt_or0 {k : Nat} : (bt k ||| nI 0) = (bt k ||| nI 0) := rfl
theorem pr_type {L N d : Nat} {xs : Nat → Int32} {w : iv_S} (hd : 100 ≤ d) (x : Int32) (h : Iv L xs N w) : lw_pair d 3 26 [.int x] L xs w (Iv L xs (N + 1)) := by
  obtain ⟨t, f, r, p, g, dyn, n, z, rfl, h0, hn, hn', hz, hT, hF, hC, hS, hO, hV, hR, hK, hP⟩ := h
  obtain ⟨ht, hT1, hT2, hL⟩ := id hT
  obtain ⟨hf, hF1, hF2, hF3, hF4⟩ := id hF
  obtain ⟨hp, hV1, hV2, hV3, hV4, hV5⟩ := id hV
  by_cases h6 : t = 6
  · subst h6
    have e2 := m26_f (g := g) (dyn := dyn) (s := (n, z)) (D := d) (x := x) (by omega) hT2
    by_cases hm : x = -1
    · subst hm
      exact lw_mk h0 (c3_fm (by omega) hT1) h0 e2 ⟨_, f, r, _, g, dyn, n, z, rfl, h0, hn, by omega, by omega, hT, hF, hC, hS, hO, hV, hR, hK, hP⟩
    · cases hx : ixb x 6 with
      | false => exact lw_mk h0 (c3_no (by omega) hT1 hx hm) h0 e2 ⟨_, f, r, _, g, dyn, n, z, rfl, h0, hn, by omega, by omega, hT, hF, hC, hS, hO, hV, hR, hK, hP⟩
      | true => exact lw_mk h0 (c3_f (by omega) hT1 hx) h0 e2 ⟨_, f, r, _, g, dyn, n, z, rfl, h0, hn, by omega, by omega, hT, hF, hC, hS, hO, hV, hR, hK, hP⟩
  · by_cases hm : x = -1
    · subst hm
      have hT' : iT (t + 1) (gu (gu (gu (gu g 3 0 t (bt t ||| nI 0)) 200 0 0 (nI (t + 1))) 159 0 t (-1)) 400 0 0 (nI (t + 1))) := by
        refine ⟨by omega, by simp [gu], by simp [gu], fun c hc => ?_⟩
        by_cases hct : c = t
        · subst hct
          exact .inl ⟨by simp [gu], by simp [gu]⟩
        · rcases hL c (by omega) with ⟨h1, h2⟩ | ⟨q, hq, h1, h2⟩
          · refine .inl ⟨?_, ?_⟩
            · simp [gu, hct, h1]
            · simp [gu, hct, h2]
          · refine .inr ⟨q, hq, ?_, ?_⟩
            · simp [gu, hct, h1]
            · simp [gu, hct, show q ≠ t by omega, h2]
      exact lw_mk h0 (c3_n (by omega) hT1 (by omega)) h0 (m26_y (t := t) (by omega) hT2 (by omega) (by simp)) ⟨t + 1, f, r, p, _, _, _, _, rfl, h0, hn, by omega, by omega, hT', (iFd_up (iFd_fr hF (by simp (disch := decide) only [gu_ne, gsq_ne, gcl_ne, gwd_ne]) (by simp (disch := decide) only [gu_ne, gsq_ne, gcl_ne, gwd_ne]) (by simp (disch := decide) only [gu_ne, gsq_ne, gcl_ne, gwd_ne]) (by simp (disch := decide) only [gu_ne, gsq_ne, gcl_ne, gwd_ne]) (by simp (disch := decide) only [gu_ne, gsq_ne, gcl_ne, gwd_ne]) (by simp (disch := decide) only [gu_ne, gsq_ne, gcl_ne, gwd_ne]) (by simp (disch := decide) only [gu_ne, gsq_ne, gcl_ne, gwd_ne]) (by simp (disch := decide) only [gu_ne, gsq_ne, gcl_ne, gwd_ne]) (by simp (disch := decide) only [gu_ne, gsq_ne, gcl_ne, gwd_ne]) (by simp (disch := decide) only [gu_ne, gsq_ne, gcl_ne, gwd_ne])) (Nat.le_succ t)), (iCl_fr hC (by simp (disch := decide) only [gu_ne, gsq_ne, gcl_ne, gwd_ne]) (by simp (disch := decide) only [gu_ne, gsq_ne, gcl_ne, gwd_ne])), (iSq_fr hS (by simp (disch := decide) only [gu_ne, gsq_ne, gcl_ne, gwd_ne]) (by simp (disch := decide) only [gu_ne, gsq_ne, gcl_ne, gwd_ne]) (by simp (disch := decide) only [gu_ne, gsq_ne, gcl_ne, gwd_ne]) (by simp (disch := decide) only [gu_ne, gsq_ne, gcl_ne, gwd_ne])), (iOr_fr hO (by simp (disch := decide) only [gu_ne, gsq_ne, gcl_ne, gwd_ne]) (by simp (disch := decide) only [gu_ne, gsq_ne, gcl_ne, gwd_ne]) (by simp (disch := decide) only [gu_ne, gsq_ne, gcl_ne, gwd_ne]) (by simp (disch := decide) only [gu_ne, gsq_ne, gcl_ne, gwd_ne])), (iSt_up (iSt_fr hV (by simp (disch := decide) only [gu_ne, gsq_ne, gcl_ne, gwd_ne]) (by simp (disch := decide) only [gu_ne, gsq_ne, gcl_ne, gwd_ne]) (by simp (disch := decide) only [gu_ne, gsq_ne, gcl_ne, gwd_ne]) (by simp (disch := decide) only [gu_ne, gsq_ne, gcl_ne, gwd_ne]) (by simp (disch := decide) only [gu_ne, gsq_ne, gcl_ne, gwd_ne]) (by simp (disch := decide) only [gu_ne, gsq_ne, gcl_ne, gwd_ne]) (by simp (disch := decide) only [gu_ne, gsq_ne, gcl_ne, gwd_ne]) (by simp (disch := decide) only [gu_ne, gsq_ne, gcl_ne, gwd_ne]) (by simp (disch := decide) only [gu_ne, gsq_ne, gcl_ne, gwd_ne])) (Nat.le_succ t)), (iRs_fr hR (Nat.le_refl _) (Nat.le_refl _) (fun _ _ _ => rfl) rfl (by simp (disch := decide) only [gu_ne, gsq_ne, gcl_ne, gwd_ne]) (by simp (disch := decide) only [gu_ne, gsq_ne, gcl_ne, gwd_ne]) (by simp (disch := decide) only [gu_ne, gsq_ne, gcl_ne, gwd_ne]) (by simp (disch := decide) only [gu_ne, gsq_ne, gcl_ne, gwd_ne]) (by simp (disch := decide) only [gu_ne, gsq_ne, gcl_ne, gwd_ne]) (by simp (disch := decide) only [gu_ne, gsq_ne, gcl_ne, gwd_ne]) (by simp (disch := decide) only [gu_ne, gsq_ne, gcl_ne, gwd_ne]) (by simp (disch := decide) only [gu_ne, gsq_ne, gcl_ne, gwd_ne])), (iCs_fr hK (Nat.le_refl _) (fun _ _ _ => rfl) rfl rfl rfl (by simp (disch := decide) only [gu_ne, gsq_ne, gcl_ne, gwd_ne]) (by simp (disch := decide) only [gu_ne, gsq_ne, gcl_ne, gwd_ne]) (by simp (disch := decide) only [gu_ne, gsq_ne, gcl_ne, gwd_ne]) (by simp (disch := decide) only [gu_ne, gsq_ne, gcl_ne, gwd_ne]) (by simp (disch := decide) only [gu_ne, gsq_ne, gcl_ne, gwd_ne]) (by simp (disch := decide) only [gu_ne, gsq_ne, gcl_ne, gwd_ne]) (by simp (disch := decide) only [gu_ne, gsq_ne, gcl_ne, gwd_ne])), (iRp_fr hP (by simp (disch := decide) only [gu_ne, gsq_ne, gcl_ne, gwd_ne]) (by simp (disch := decide) only [gu_ne, gsq_ne, gcl_ne, gwd_ne]) (by simp (disch := decide) only [gu_ne, gsq_ne, gcl_ne, gwd_ne]) (by simp (disch := decide) only [gu_ne, gsq_ne, gcl_ne, gwd_ne]) (by simp (disch := decide) only [gu_ne, gsq_ne, gcl_ne, gwd_ne]) (by simp (disch := decide) only [gu_ne, gsq_ne, gcl_ne, gwd_ne]) (by simp (disch := decide) only [gu_ne, gsq_ne, gcl_ne, gwd_ne]) (by simp (disch := decide) only [gu_ne, gsq_ne, gcl_ne, gwd_ne]) (by simp (disch := decide) only [gu_ne, gsq_ne, gcl_ne, gwd_ne]) (by simp (disch := decide) only [gu_ne, gsq_ne, gcl_ne, gwd_ne]) (by simp (disch := decide) only [gu_ne, gsq_ne, gcl_ne, gwd_ne]) (by simp (disch := decide) only [gu_ne, gsq_ne, gcl_ne, gwd_ne]) (by simp (disch := decide) only [gu_ne, gsq_ne, gcl_ne, gwd_ne]))⟩
    · cases hx : ixb x t with
      | false => exact lw_mk h0 (c3_no (by omega) hT1 hx hm) h0 (m26_no (t := t) (by omega) hT2 (by omega) hx hm) ⟨_, f, r, _, g, dyn, n, z, rfl, h0, hn, by omega, by omega, hT, hF, hC, hS, hO, hV, hR, hK, hP⟩
      | true =>
      obtain ⟨q, hq, rfl⟩ := ixb_of hx (by omega)
      have hT' : iT (t + 1) (gu (gu (gu (gu g 3 0 t (bt t ||| g 3 0 q)) 200 0 0 (nI (t + 1))) 159 0 t (nI q)) 400 0 0 (nI (t + 1))) := by
        refine ⟨by omega, by simp [gu], by simp [gu], fun c hc => ?_⟩
        by_cases hct : c = t
        · subst hct
          exact .inr ⟨q, hq, by simp [gu], by simp [gu, show q ≠ c by omega]⟩
        · rcases hL c (by omega) with ⟨h1, h2⟩ | ⟨q, hq, h1, h2⟩
          · refine .inl ⟨?_, ?_⟩
            · simp [gu, hct, h1]
            · simp [gu, hct, h2]
          · refine .inr ⟨q, hq, ?_, ?_⟩
            · simp [gu, hct, h1]
            · simp [gu, hct, show q ≠ t by omega, h2]
      exact lw_mk h0 (c3_p (by omega) hT1 (by omega) hq) h0 (m26_y (t := t) (by omega) hT2 (by omega) (by rw [hx, Bool.or_true])) ⟨t + 1, f, r, p, _, _, _, _, rfl, h0, hn, by omega, by omega, hT', (iFd_up (iFd_fr hF (by simp (disch := decide) only [gu_ne, gsq_ne, gcl_ne, gwd_ne]) (by simp (disch := decide) only [gu_ne, gsq_ne, gcl_ne, gwd_ne]) (by simp (disch := decide) only [gu_ne, gsq_ne, gcl_ne, gwd_ne]) (by simp (disch := decide) only [gu_ne, gsq_ne, gcl_ne, gwd_ne]) (by simp (disch := decide) only [gu_ne, gsq_ne, gcl_ne, gwd_ne]) (by simp (disch := decide) only [gu_ne, gsq_ne, gcl_ne, gwd_ne]) (by simp (disch := decide) only [gu_ne, gsq_ne, gcl_ne, gwd_ne]) (by simp (disch := decide) only [gu_ne, gsq_ne, gcl_ne, gwd_ne]) (by simp (disch := decide) only [gu_ne, gsq_ne, gcl_ne, gwd_ne]) (by simp (disch := decide) only [gu_ne, gsq_ne, gcl_ne, gwd_ne])) (Nat.le_succ t)), (iCl_fr hC (by simp (disch := decide) only [gu_ne, gsq_ne, gcl_ne, gwd_ne]) (by simp (disch := decide) only [gu_ne, gsq_ne, gcl_ne, gwd_ne])), (iSq_fr hS (by simp (disch := decide) only [gu_ne, gsq_ne, gcl_ne, gwd_ne]) (by simp (disch := decide) only [gu_ne, gsq_ne, gcl_ne, gwd_ne]) (by simp (disch := decide) only [gu_ne, gsq_ne, gcl_ne, gwd_ne]) (by simp (disch := decide) only [gu_ne, gsq_ne, gcl_ne, gwd_ne])), (iOr_fr hO (by simp (disch := decide) only [gu_ne, gsq_ne, gcl_ne, gwd_ne]) (by simp (disch := decide) only [gu_ne, gsq_ne, gcl_ne, gwd_ne]) (by simp (disch := decide) only [gu_ne, gsq_ne, gcl_ne, gwd_ne]) (by simp (disch := decide) only [gu_ne, gsq_ne, gcl_ne, gwd_ne])), (iSt_up (iSt_fr hV (by simp (disch := decide) only [gu_ne, gsq_ne, gcl_ne, gwd_ne]) (by simp (disch := decide) only [gu_ne, gsq_ne, gcl_ne, gwd_ne]) (by simp (disch := decide) only [gu_ne, gsq_ne, gcl_ne, gwd_ne]) (by simp (disch := decide) only [gu_ne, gsq_ne, gcl_ne, gwd_ne]) (by simp (disch := decide) only [gu_ne, gsq_ne, gcl_ne, gwd_ne]) (by simp (disch := decide) only [gu_ne, gsq_ne, gcl_ne, gwd_ne]) (by simp (disch := decide) only [gu_ne, gsq_ne, gcl_ne, gwd_ne]) (by simp (disch := decide) only [gu_ne, gsq_ne, gcl_ne, gwd_ne]) (by simp (disch := decide) only [gu_ne, gsq_ne, gcl_ne, gwd_ne])) (Nat.le_succ t)), (iRs_fr hR (Nat.le_refl _) (Nat.le_refl _) (fun _ _ _ => rfl) rfl (by simp (disch := decide) only [gu_ne, gsq_ne, gcl_ne, gwd_ne]) (by simp (disch := decide) only [gu_ne, gsq_ne, gcl_ne, gwd_ne]) (by simp (disch := decide) only [gu_ne, gsq_ne, gcl_ne, gwd_ne]) (by simp (disch := decide) only [gu_ne, gsq_ne, gcl_ne, gwd_ne]) (by simp (disch := decide) only [gu_ne, gsq_ne, gcl_ne, gwd_ne]) (by simp (disch := decide) only [gu_ne, gsq_ne, gcl_ne, gwd_ne]) (by simp (disch := decide) only [gu_ne, gsq_ne, gcl_ne, gwd_ne]) (by simp (disch := decide) only [gu_ne, gsq_ne, gcl_ne, gwd_ne])), (iCs_fr hK (Nat.le_refl _) (fun _ _ _ => rfl) rfl rfl rfl (by simp (disch := decide) only [gu_ne, gsq_ne, gcl_ne, gwd_ne]) (by simp (disch := decide) only [gu_ne, gsq_ne, gcl_ne, gwd_ne]) (by simp (disch := decide) only [gu_ne, gsq_ne, gcl_ne, gwd_ne]) (by simp (disch := decide) only [gu_ne, gsq_ne, gcl_ne, gwd_ne]) (by simp (disch := decide) only [gu_ne, gsq_ne, gcl_ne, gwd_ne]) (by simp (disch := decide) only [gu_ne, gsq_ne, gcl_ne, gwd_ne]) (by simp (disch := decide) only [gu_ne, gsq_ne, gcl_ne, gwd_ne])), (iRp_fr hP (by simp (disch := decide) only [gu_ne, gsq_ne, gcl_ne, gwd_ne]) (by simp (disch := decide) only [gu_ne, gsq_ne, gcl_ne, gwd_ne]) (by simp (disch := decide) only [gu_ne, gsq_ne, gcl_ne, gwd_ne]) (by simp (disch := decide) only [gu_ne, gsq_ne, gcl_ne, gwd_ne]) (by simp (disch := decide) only [gu_ne, gsq_ne, gcl_ne, gwd_ne]) (by simp (disch := decide) only [gu_ne, gsq_ne, gcl_ne, gwd_ne]) (by simp (disch := decide) only [gu_ne, gsq_ne, gcl_ne, gwd_ne]) (by simp (disch := decide) only [gu_ne, gsq_ne, gcl_ne, gwd_ne]) (by simp (disch := decide) only [gu_ne, gsq_ne, gcl_ne, gwd_ne]) (by simp (disch := decide) only [gu_ne, gsq_ne, gcl_ne, gwd_ne]) (by simp (disch := decide) only [gu_ne, gsq_ne, gcl_ne, gwd_ne]) (by simp (disch := decide) only [gu_ne, gsq_ne, gcl_ne, gwd_ne]) (by simp (disch := decide) only [gu_ne, gsq_ne, gcl_ne, gwd_ne]))⟩
theorem pr_order {L N d : Nat} {xs : Nat → Int32} {w : iv_S} (hd : 100 ≤ d) (x y : Int32) (h : Iv L xs N w) : lw_pair d 10 34 [.int x, .int y] L xs w (Iv L xs (N + 1)) := by
  obtain ⟨t, f, r, p, g, dyn, n, z, rfl, h0, hn, hn', hz, hT, hF, hC, hS, hO, hV, hR, hK, hP⟩ := h
  obtain ⟨ht, hT1, hT2, hL⟩ := id hT
  obtain ⟨hf, hF1, hF2, hF3, hF4⟩ := id hF
  obtain ⟨hp, hV1, hV2, hV3, hV4, hV5⟩ := id hV
  by_cases hok : ixb x t = true ∧ (y = -1 ∨ ixb y 6 = true)
  · obtain ⟨hx, hy⟩ := hok
    obtain ⟨c, hc, rfl⟩ := ixb_of hx (by omega)
    obtain ⟨m, hm, hm1, hm2, hm3⟩ := hO c (by omega)
    have hy2 : (decide (y = -1) || ixb y 6) = true := by
      rcases hy with hy | hy
      · simp [hy]
      · simp [hy]
    by_cases h4 : m = 4
    · subst h4
      have e2 := m34_f (g := g) (dyn := dyn) (s := (n, z)) (D := d) (by omega) hT2 ht hc hy2 hm2
      rcases hy with rfl | hy
      · exact lw_mk h0 (c10_fm (n := 0) (by omega) hT1 ht hc hm1) h0 e2 ⟨_, f, r, _, g, dyn, n, z, rfl, h0, hn, by omega, by omega, hT, hF, hC, hS, hO, hV, hR, hK, hP⟩
      · obtain ⟨k, hk, rfl⟩ := ixb_of hy (by omega)
        exact lw_mk h0 (c10_fg (n := 0) (by omega) hT1 ht hc hk hm1) h0 e2 ⟨_, f, r, _, g, dyn, n, z, rfl, h0, hn, by omega, by omega, hT, hF, hC, hS, hO, hV, hR, hK, hP⟩
    · rcases hy with rfl | hy
      · skip
        have hO' : iOr (gu (gu (gu (gu g 6 c m (-1)) 205 c 0 (nI (m + 1))) 179 0 (4 * c + m) (-1)) 178 0 c (nI (m + 1))) := by
          intro b hb
          by_cases hbc : b = c
          · subst hbc
            refine ⟨m + 1, by omega, by simp [gu], by simp [gu], fun j hj => ?_⟩
            by_cases hjm : j = m
            · subst hjm
              exact ⟨by simp [gu], .inl (by simp [gu])⟩
            · obtain ⟨g1, g2⟩ := hm3 j (by omega)
              refine ⟨by simp [gu, hjm, g1], ?_⟩
              rcases g2 with g2 | ⟨z', hz', g2⟩
              · exact .inl (by simp [gu, hjm, g2])
              · exact .inr ⟨z', hz', by simp [gu, hjm, g2]⟩
          · obtain ⟨m', k1, k2, k3, k4⟩ := hO b hb
            refine ⟨m', k1, by simp [gu, hbc, k2], by simp [gu, hbc, k3], fun j hj => ?_⟩
            obtain ⟨g1, g2⟩ := k4 j hj
            refine ⟨by simp [gu, hbc, show ¬ 4 * b + j = 4 * c + m by omega, g1], ?_⟩
            rcases g2 with g2 | ⟨z', hz', g2⟩
            · exact .inl (by simp [gu, hbc, g2])
            · exact .inr ⟨z', hz', by simp [gu, hbc, g2]⟩
        exact lw_mk h0 (c10_ym (by omega) hT1 ht hc hm1 (by omega)) h0 (m34_y (t := t) (n := m) (by omega) hT2 ht hc hy2 hm2 (by omega)) ⟨t, f, r, p, _, _, _, _, rfl, h0, hn, by omega, by omega, (iT_fr hT (by simp (disch := decide) only [gu_ne, gsq_ne, gcl_ne, gwd_ne]) (by simp (disch := decide) only [gu_ne, gsq_ne, gcl_ne, gwd_ne]) (by simp (disch := decide) only [gu_ne, gsq_ne, gcl_ne, gwd_ne]) (by simp (disch := decide) only [gu_ne, gsq_ne, gcl_ne, gwd_ne])), (iFd_fr hF (by simp (disch := decide) only [gu_ne, gsq_ne, gcl_ne, gwd_ne]) (by simp (disch := decide) only [gu_ne, gsq_ne, gcl_ne, gwd_ne]) (by simp (disch := decide) only [gu_ne, gsq_ne, gcl_ne, gwd_ne]) (by simp (disch := decide) only [gu_ne, gsq_ne, gcl_ne, gwd_ne]) (by simp (disch := decide) only [gu_ne, gsq_ne, gcl_ne, gwd_ne]) (by simp (disch := decide) only [gu_ne, gsq_ne, gcl_ne, gwd_ne]) (by simp (disch := decide) only [gu_ne, gsq_ne, gcl_ne, gwd_ne]) (by simp (disch := decide) only [gu_ne, gsq_ne, gcl_ne, gwd_ne]) (by simp (disch := decide) only [gu_ne, gsq_ne, gcl_ne, gwd_ne]) (by simp (disch := decide) only [gu_ne, gsq_ne, gcl_ne, gwd_ne])), (iCl_fr hC (by simp (disch := decide) only [gu_ne, gsq_ne, gcl_ne, gwd_ne]) (by simp (disch := decide) only [gu_ne, gsq_ne, gcl_ne, gwd_ne])), (iSq_fr hS (by simp (disch := decide) only [gu_ne, gsq_ne, gcl_ne, gwd_ne]) (by simp (disch := decide) only [gu_ne, gsq_ne, gcl_ne, gwd_ne]) (by simp (disch := decide) only [gu_ne, gsq_ne, gcl_ne, gwd_ne]) (by simp (disch := decide) only [gu_ne, gsq_ne, gcl_ne, gwd_ne])), hO', (iSt_fr hV (by simp (disch := decide) only [gu_ne, gsq_ne, gcl_ne, gwd_ne]) (by simp (disch := decide) only [gu_ne, gsq_ne, gcl_ne, gwd_ne]) (by simp (disch := decide) only [gu_ne, gsq_ne, gcl_ne, gwd_ne]) (by simp (disch := decide) only [gu_ne, gsq_ne, gcl_ne, gwd_ne]) (by simp (disch := decide) only [gu_ne, gsq_ne, gcl_ne, gwd_ne]) (by simp (disch := decide) only [gu_ne, gsq_ne, gcl_ne, gwd_ne]) (by simp (disch := decide) only [gu_ne, gsq_ne, gcl_ne, gwd_ne]) (by simp (disch := decide) only [gu_ne, gsq_ne, gcl_ne, gwd_ne]) (by simp (disch := decide) only [gu_ne, gsq_ne, gcl_ne, gwd_ne])), (iRs_fr hR (Nat.le_refl _) (Nat.le_refl _) (fun _ _ _ => rfl) rfl (by simp (disch := decide) only [gu_ne, gsq_ne, gcl_ne, gwd_ne]) (by simp (disch := decide) only [gu_ne, gsq_ne, gcl_ne, gwd_ne]) (by simp (disch := decide) only [gu_ne, gsq_ne, gcl_ne, gwd_ne]) (by simp (disch := decide) only [gu_ne, gsq_ne, gcl_ne, gwd_ne]) (by simp (disch := decide) only [gu_ne, gsq_ne, gcl_ne, gwd_ne]) (by simp (disch := decide) only [gu_ne, gsq_ne, gcl_ne, gwd_ne]) (by simp (disch := decide) only [gu_ne, gsq_ne, gcl_ne, gwd_ne]) (by simp (disch := decide) only [gu_ne, gsq_ne, gcl_ne, gwd_ne])), (iCs_fr hK (Nat.le_refl _) (fun _ _ _ => rfl) rfl rfl rfl (by simp (disch := decide) only [gu_ne, gsq_ne, gcl_ne, gwd_ne]) (by simp (disch := decide) only [gu_ne, gsq_ne, gcl_ne, gwd_ne]) (by simp (disch := decide) only [gu_ne, gsq_ne, gcl_ne, gwd_ne]) (by simp (disch := decide) only [gu_ne, gsq_ne, gcl_ne, gwd_ne]) (by simp (disch := decide) only [gu_ne, gsq_ne, gcl_ne, gwd_ne]) (by simp (disch := decide) only [gu_ne, gsq_ne, gcl_ne, gwd_ne]) (by simp (disch := decide) only [gu_ne, gsq_ne, gcl_ne, gwd_ne])), (iRp_fr hP (by simp (disch := decide) only [gu_ne, gsq_ne, gcl_ne, gwd_ne]) (by simp (disch := decide) only [gu_ne, gsq_ne, gcl_ne, gwd_ne]) (by simp (disch := decide) only [gu_ne, gsq_ne, gcl_ne, gwd_ne]) (by simp (disch := decide) only [gu_ne, gsq_ne, gcl_ne, gwd_ne]) (by simp (disch := decide) only [gu_ne, gsq_ne, gcl_ne, gwd_ne]) (by simp (disch := decide) only [gu_ne, gsq_ne, gcl_ne, gwd_ne]) (by simp (disch := decide) only [gu_ne, gsq_ne, gcl_ne, gwd_ne]) (by simp (disch := decide) only [gu_ne, gsq_ne, gcl_ne, gwd_ne]) (by simp (disch := decide) only [gu_ne, gsq_ne, gcl_ne, gwd_ne]) (by simp (disch := decide) only [gu_ne, gsq_ne, gcl_ne, gwd_ne]) (by simp (disch := decide) only [gu_ne, gsq_ne, gcl_ne, gwd_ne]) (by simp (disch := decide) only [gu_ne, gsq_ne, gcl_ne, gwd_ne]) (by simp (disch := decide) only [gu_ne, gsq_ne, gcl_ne, gwd_ne]))⟩
      · obtain ⟨k, hk, rfl⟩ := ixb_of hy (by omega)
        have hO' : iOr (gu (gu (gu (gu g 6 c m (nI k)) 205 c 0 (nI (m + 1))) 179 0 (4 * c + m) (nI k)) 178 0 c (nI (m + 1))) := by
          intro b hb
          by_cases hbc : b = c
          · subst hbc
            refine ⟨m + 1, by omega, by simp [gu], by simp [gu], fun j hj => ?_⟩
            by_cases hjm : j = m
            · subst hjm
              exact ⟨by simp [gu], .inr ⟨k, hk, by simp [gu]⟩⟩
            · obtain ⟨g1, g2⟩ := hm3 j (by omega)
              refine ⟨by simp [gu, hjm, g1], ?_⟩
              rcases g2 with g2 | ⟨z', hz', g2⟩
              · exact .inl (by simp [gu, hjm, g2])
              · exact .inr ⟨z', hz', by simp [gu, hjm, g2]⟩
          · obtain ⟨m', k1, k2, k3, k4⟩ := hO b hb
            refine ⟨m', k1, by simp [gu, hbc, k2], by simp [gu, hbc, k3], fun j hj => ?_⟩
            obtain ⟨g1, g2⟩ := k4 j hj
            refine ⟨by simp [gu, hbc, show ¬ 4 * b + j = 4 * c + m by omega, g1], ?_⟩
            rcases g2 with g2 | ⟨z', hz', g2⟩
            · exact .inl (by simp [gu, hbc, g2])
            · exact .inr ⟨z', hz', by simp [gu, hbc, g2]⟩
        exact lw_mk h0 (c10_yg (by omega) hT1 ht hc hk hm1 (by omega)) h0 (m34_y (t := t) (n := m) (by omega) hT2 ht hc hy2 hm2 (by omega)) ⟨t, f, r, p, _, _, _, _, rfl, h0, hn, by omega, by omega, (iT_fr hT (by simp (disch := decide) only [gu_ne, gsq_ne, gcl_ne, gwd_ne]) (by simp (disch := decide) only [gu_ne, gsq_ne, gcl_ne, gwd_ne]) (by simp (disch := decide) only [gu_ne, gsq_ne, gcl_ne, gwd_ne]) (by simp (disch := decide) only [gu_ne, gsq_ne, gcl_ne, gwd_ne])), (iFd_fr hF (by simp (disch := decide) only [gu_ne, gsq_ne, gcl_ne, gwd_ne]) (by simp (disch := decide) only [gu_ne, gsq_ne, gcl_ne, gwd_ne]) (by simp (disch := decide) only [gu_ne, gsq_ne, gcl_ne, gwd_ne]) (by simp (disch := decide) only [gu_ne, gsq_ne, gcl_ne, gwd_ne]) (by simp (disch := decide) only [gu_ne, gsq_ne, gcl_ne, gwd_ne]) (by simp (disch := decide) only [gu_ne, gsq_ne, gcl_ne, gwd_ne]) (by simp (disch := decide) only [gu_ne, gsq_ne, gcl_ne, gwd_ne]) (by simp (disch := decide) only [gu_ne, gsq_ne, gcl_ne, gwd_ne]) (by simp (disch := decide) only [gu_ne, gsq_ne, gcl_ne, gwd_ne]) (by simp (disch := decide) only [gu_ne, gsq_ne, gcl_ne, gwd_ne])), (iCl_fr hC (by simp (disch := decide) only [gu_ne, gsq_ne, gcl_ne, gwd_ne]) (by simp (disch := decide) only [gu_ne, gsq_ne, gcl_ne, gwd_ne])), (iSq_fr hS (by simp (disch := decide) only [gu_ne, gsq_ne, gcl_ne, gwd_ne]) (by simp (disch := decide) only [gu_ne, gsq_ne, gcl_ne, gwd_ne]) (by simp (disch := decide) only [gu_ne, gsq_ne, gcl_ne, gwd_ne]) (by simp (disch := decide) only [gu_ne, gsq_ne, gcl_ne, gwd_ne])), hO', (iSt_fr hV (by simp (disch := decide) only [gu_ne, gsq_ne, gcl_ne, gwd_ne]) (by simp (disch := decide) only [gu_ne, gsq_ne, gcl_ne, gwd_ne]) (by simp (disch := decide) only [gu_ne, gsq_ne, gcl_ne, gwd_ne]) (by simp (disch := decide) only [gu_ne, gsq_ne, gcl_ne, gwd_ne]) (by simp (disch := decide) only [gu_ne, gsq_ne, gcl_ne, gwd_ne]) (by simp (disch := decide) only [gu_ne, gsq_ne, gcl_ne, gwd_ne]) (by simp (disch := decide) only [gu_ne, gsq_ne, gcl_ne, gwd_ne]) (by simp (disch := decide) only [gu_ne, gsq_ne, gcl_ne, gwd_ne]) (by simp (disch := decide) only [gu_ne, gsq_ne, gcl_ne, gwd_ne])), (iRs_fr hR (Nat.le_refl _) (Nat.le_refl _) (fun _ _ _ => rfl) rfl (by simp (disch := decide) only [gu_ne, gsq_ne, gcl_ne, gwd_ne]) (by simp (disch := decide) only [gu_ne, gsq_ne, gcl_ne, gwd_ne]) (by simp (disch := decide) only [gu_ne, gsq_ne, gcl_ne, gwd_ne]) (by simp (disch := decide) only [gu_ne, gsq_ne, gcl_ne, gwd_ne]) (by simp (disch := decide) only [gu_ne, gsq_ne, gcl_ne, gwd_ne]) (by simp (disch := decide) only [gu_ne, gsq_ne, gcl_ne, gwd_ne]) (by simp (disch := decide) only [gu_ne, gsq_ne, gcl_ne, gwd_ne]) (by simp (disch := decide) only [gu_ne, gsq_ne, gcl_ne, gwd_ne])), (iCs_fr hK (Nat.le_refl _) (fun _ _ _ => rfl) rfl rfl rfl (by simp (disch := decide) only [gu_ne, gsq_ne, gcl_ne, gwd_ne]) (by simp (disch := decide) only [gu_ne, gsq_ne, gcl_ne, gwd_ne]) (by simp (disch := decide) only [gu_ne, gsq_ne, gcl_ne, gwd_ne]) (by simp (disch := decide) only [gu_ne, gsq_ne, gcl_ne, gwd_ne]) (by simp (disch := decide) only [gu_ne, gsq_ne, gcl_ne, gwd_ne]) (by simp (disch := decide) only [gu_ne, gsq_ne, gcl_ne, gwd_ne]) (by simp (disch := decide) only [gu_ne, gsq_ne, gcl_ne, gwd_ne])), (iRp_fr hP (by simp (disch := decide) only [gu_ne, gsq_ne, gcl_ne, gwd_ne]) (by simp (disch := decide) only [gu_ne, gsq_ne, gcl_ne, gwd_ne]) (by simp (disch := decide) only [gu_ne, gsq_ne, gcl_ne, gwd_ne]) (by simp (disch := decide) only [gu_ne, gsq_ne, gcl_ne, gwd_ne]) (by simp (disch := decide) only [gu_ne, gsq_ne, gcl_ne, gwd_ne]) (by simp (disch := decide) only [gu_ne, gsq_ne, gcl_ne, gwd_ne]) (by simp (disch := decide) only [gu_ne, gsq_ne, gcl_ne, gwd_ne]) (by simp (disch := decide) only [gu_ne, gsq_ne, gcl_ne, gwd_ne]) (by simp (disch := decide) only [gu_ne, gsq_ne, gcl_ne, gwd_ne]) (by simp (disch := decide) only [gu_ne, gsq_ne, gcl_ne, gwd_ne]) (by simp (disch := decide) only [gu_ne, gsq_ne, gcl_ne, gwd_ne]) (by simp (disch := decide) only [gu_ne, gsq_ne, gcl_ne, gwd_ne]) (by simp (disch := decide) only [gu_ne, gsq_ne, gcl_ne, gwd_ne]))⟩
  · exact lw_mk h0 (c10_no (by omega) hT1 ht hok) h0 (m34_no (by omega) hT2 ht hok) ⟨_, f, r, _, g, dyn, n, z, rfl, h0, hn, by omega, by omega, hT, hF, hC, hS, hO, hV, hR, hK, hP⟩
theorem pr_field {L N d : Nat} {xs : Nat → Int32} {w : iv_S} (hd : 100 ≤ d) (x y : Int32) (h : Iv L xs N w) : lw_pair d 4 27 [.int x, .int y] L xs w (Iv L xs (N + 1)) := by
  obtain ⟨t, f, r, p, g, dyn, n, z, rfl, h0, hn, hn', hz, hT, hF, hC, hS, hO, hV, hR, hK, hP⟩ := h
  obtain ⟨ht, hT1, hT2, hL⟩ := id hT
  obtain ⟨hf, hF1, hF2, hF3, hF4⟩ := id hF
  obtain ⟨hp, hV1, hV2, hV3, hV4, hV5⟩ := id hV
  by_cases hok : ixb x t = true ∧ ixb y 4 = true ∧ f < 14
  · obtain ⟨hx, hy, hf'⟩ := hok
    obtain ⟨c, hc, rfl⟩ := ixb_of hx (by omega)
    obtain ⟨k, hk, rfl⟩ := ixb_of hy (by omega)
    by_cases hk0 : k = 0
    · skip
      have hF' : iFd t (f + 1) (gu (gu (gu (gcl (gu (gsq (gu (gu g 17 0 f (nI c)) 18 0 f (nI k)) f 6) 203 0 0 (nI (f + 1))) f 10 (nI 0)) 160 0 f (nI c)) 161 0 f (nI k)) 402 0 0 (nI (f + 1))) := by
        refine ⟨by omega, by simp [gu, gcl, gsq], by simp [gu, gcl, gsq], fun i hi => ?_, fun i h1 h2 => ?_⟩
        · by_cases hif : i = f
          · subst hif
            obtain ⟨k1, k2, k3⟩ := hF4 i (by omega) (by omega)
            refine ⟨⟨c, hc, by simp [gu, gcl, gsq], by simp [gu, gcl, gsq]⟩, ⟨k, false, by omega, by simp [gu, gcl, gsq], by simp [gu, gcl, gsq], by simp [gu, gcl, gsq, k1], by simp [gu, gcl, gsq, k2], by simp⟩, fun h hh => ⟨h, hh, by simp [gu, gcl, gsq, hh], .inl ⟨by simp [gu, gcl, gsq, k3 h hh], rfl⟩⟩⟩
          · obtain ⟨⟨c', k1, k2, k3⟩, ⟨k', b, k4, k5, k6, k7, k8, k9⟩, k10⟩ := hF3 i (by omega)
            refine ⟨⟨c', k1, by simp [gu, gcl, gsq, hif, k2], by simp [gu, gcl, gsq, hif, k3]⟩, ⟨k', b, k4, by simp [gu, gcl, gsq, hif, k5], by simp [gu, gcl, gsq, hif, k6], by simp [gu, gcl, gsq, k7], by simp [gu, gcl, gsq, k8], k9⟩, fun h hh => ?_⟩
            obtain ⟨z', g1, g2, g3⟩ := k10 h hh
            exact ⟨z', g1, by simp [gu, gcl, gsq, hif, g2], by simpa [gu, gcl, gsq] using g3⟩
        · obtain ⟨k1, k2, k3⟩ := hF4 i (by omega) h2
          exact ⟨by simp [gu, gcl, gsq, k1], by simp [gu, gcl, gsq, k2], fun h hh => by simp [gu, gcl, gsq, k3 h hh]⟩
      have hV' : iSt t (f + 1) p (gu (gu (gu (gcl (gu (gsq (gu (gu g 17 0 f (nI c)) 18 0 f (nI k)) f 6) 203 0 0 (nI (f + 1))) f 10 (nI 0)) 160 0 f (nI c)) 161 0 f (nI k)) 402 0 0 (nI (f + 1))) := by
        refine ⟨hp, by simp [gu, gcl, gsq, hV1], by simp [gu, gcl, gsq, hV2], fun i hi => ?_, fun i hi j hj => ?_, fun i hi j h1 h2 => ?_⟩
        · obtain ⟨c', k1, k2, k3⟩ := hV3 i hi
          exact ⟨c', k1, by simp [gu, gcl, gsq, k2], by simp [gu, gcl, gsq, k3]⟩
        · by_cases hjf : j = f
          · subst hjf
            have k1 := hV5 i hi j (Nat.le_refl j) (by omega)
            exact .inl ⟨by simp [gu, gcl, gsq, hk0], by simp [gu, gcl, gsq, hi, k1]⟩
          · exact iVl_fr (hV4 i hi j (by omega)) (by simp [gu, gcl, gsq, hjf]) (by simp [gu, gcl, gsq, hjf]) (by simp [gu, gcl, gsq]) (fun e _ => by simp [gu, gcl, gsq]) (fun e _ => by simp [gu, gcl, gsq])
        · have k1 := hV5 i hi j (by omega) h2
          simp [gu, gcl, gsq, k1]
      exact lw_mk h0 (c4_i (k := k) (by omega) hT1 ht hF1 hf hc hk0 hf') h0 (m27_y (t := t) (f := f) (by omega) hT2 ht hF2 hf hx hy hf') ⟨t, f + 1, r, p, _, _, _, _, rfl, h0, hn, by omega, by omega, (iT_fr hT (by simp (disch := decide) only [gu_ne, gsq_ne, gcl_ne, gwd_ne]) (by simp (disch := decide) only [gu_ne, gsq_ne, gcl_ne, gwd_ne]) (by simp (disch := decide) only [gu_ne, gsq_ne, gcl_ne, gwd_ne]) (by simp (disch := decide) only [gu_ne, gsq_ne, gcl_ne, gwd_ne])), hF', (iCl_fr hC (by simp (disch := decide) only [gu_ne, gsq_ne, gcl_ne, gwd_ne]) (by simp (disch := decide) only [gu_ne, gsq_ne, gcl_ne, gwd_ne])), (iSq_fr hS (by simp (disch := decide) only [gu_ne, gsq_ne, gcl_ne, gwd_ne]) (by simp (disch := decide) only [gu_ne, gsq_ne, gcl_ne, gwd_ne]) (by simp (disch := decide) only [gu_ne, gsq_ne, gcl_ne, gwd_ne]) (by simp (disch := decide) only [gu_ne, gsq_ne, gcl_ne, gwd_ne])), (iOr_fr hO (by simp (disch := decide) only [gu_ne, gsq_ne, gcl_ne, gwd_ne]) (by simp (disch := decide) only [gu_ne, gsq_ne, gcl_ne, gwd_ne]) (by simp (disch := decide) only [gu_ne, gsq_ne, gcl_ne, gwd_ne]) (by simp (disch := decide) only [gu_ne, gsq_ne, gcl_ne, gwd_ne])), hV', (iRs_fr hR (Nat.le_succ f) (Nat.le_refl _) (fun _ _ _ => rfl) rfl (by simp (disch := decide) only [gu_ne, gsq_ne, gcl_ne, gwd_ne]) (by simp (disch := decide) only [gu_ne, gsq_ne, gcl_ne, gwd_ne]) (by simp (disch := decide) only [gu_ne, gsq_ne, gcl_ne, gwd_ne]) (by simp (disch := decide) only [gu_ne, gsq_ne, gcl_ne, gwd_ne]) (by simp (disch := decide) only [gu_ne, gsq_ne, gcl_ne, gwd_ne]) (by simp (disch := decide) only [gu_ne, gsq_ne, gcl_ne, gwd_ne]) (by simp (disch := decide) only [gu_ne, gsq_ne, gcl_ne, gwd_ne]) (by simp (disch := decide) only [gu_ne, gsq_ne, gcl_ne, gwd_ne])), (iCs_fr hK (Nat.le_refl _) (fun _ _ _ => rfl) rfl rfl rfl (by simp (disch := decide) only [gu_ne, gsq_ne, gcl_ne, gwd_ne]) (by simp (disch := decide) only [gu_ne, gsq_ne, gcl_ne, gwd_ne]) (by simp (disch := decide) only [gu_ne, gsq_ne, gcl_ne, gwd_ne]) (by simp (disch := decide) only [gu_ne, gsq_ne, gcl_ne, gwd_ne]) (by simp (disch := decide) only [gu_ne, gsq_ne, gcl_ne, gwd_ne]) (by simp (disch := decide) only [gu_ne, gsq_ne, gcl_ne, gwd_ne]) (by simp (disch := decide) only [gu_ne, gsq_ne, gcl_ne, gwd_ne])), (iRp_fr hP (by simp (disch := decide) only [gu_ne, gsq_ne, gcl_ne, gwd_ne]) (by simp (disch := decide) only [gu_ne, gsq_ne, gcl_ne, gwd_ne]) (by simp (disch := decide) only [gu_ne, gsq_ne, gcl_ne, gwd_ne]) (by simp (disch := decide) only [gu_ne, gsq_ne, gcl_ne, gwd_ne]) (by simp (disch := decide) only [gu_ne, gsq_ne, gcl_ne, gwd_ne]) (by simp (disch := decide) only [gu_ne, gsq_ne, gcl_ne, gwd_ne]) (by simp (disch := decide) only [gu_ne, gsq_ne, gcl_ne, gwd_ne]) (by simp (disch := decide) only [gu_ne, gsq_ne, gcl_ne, gwd_ne]) (by simp (disch := decide) only [gu_ne, gsq_ne, gcl_ne, gwd_ne]) (by simp (disch := decide) only [gu_ne, gsq_ne, gcl_ne, gwd_ne]) (by simp (disch := decide) only [gu_ne, gsq_ne, gcl_ne, gwd_ne]) (by simp (disch := decide) only [gu_ne, gsq_ne, gcl_ne, gwd_ne]) (by simp (disch := decide) only [gu_ne, gsq_ne, gcl_ne, gwd_ne]))⟩
    · skip
      have hF' : iFd t (f + 1) (gu (gu (gu (gcl (gu (gsq (gu (gu g 17 0 f (nI c)) 18 0 f (nI k)) f 6) 203 0 0 (nI (f + 1))) f 10 (-1)) 160 0 f (nI c)) 161 0 f (nI k)) 402 0 0 (nI (f + 1))) := by
        refine ⟨by omega, by simp [gu, gcl, gsq], by simp [gu, gcl, gsq], fun i hi => ?_, fun i h1 h2 => ?_⟩
        · by_cases hif : i = f
          · subst hif
            obtain ⟨k1, k2, k3⟩ := hF4 i (by omega) (by omega)
            refine ⟨⟨c, hc, by simp [gu, gcl, gsq], by simp [gu, gcl, gsq]⟩, ⟨k, false, by omega, by simp [gu, gcl, gsq], by simp [gu, gcl, gsq], by simp [gu, gcl, gsq, k1], by simp [gu, gcl, gsq, k2], by simp⟩, fun h hh => ⟨h, hh, by simp [gu, gcl, gsq, hh], .inl ⟨by simp [gu, gcl, gsq, k3 h hh], rfl⟩⟩⟩
          · obtain ⟨⟨c', k1, k2, k3⟩, ⟨k', b, k4, k5, k6, k7, k8, k9⟩, k10⟩ := hF3 i (by omega)
            refine ⟨⟨c', k1, by simp [gu, gcl, gsq, hif, k2], by simp [gu, gcl, gsq, hif, k3]⟩, ⟨k', b, k4, by simp [gu, gcl, gsq, hif, k5], by simp [gu, gcl, gsq, hif, k6], by simp [gu, gcl, gsq, k7], by simp [gu, gcl, gsq, k8], k9⟩, fun h hh => ?_⟩
            obtain ⟨z', g1, g2, g3⟩ := k10 h hh
            exact ⟨z', g1, by simp [gu, gcl, gsq, hif, g2], by simpa [gu, gcl, gsq] using g3⟩
        · obtain ⟨k1, k2, k3⟩ := hF4 i (by omega) h2
          exact ⟨by simp [gu, gcl, gsq, k1], by simp [gu, gcl, gsq, k2], fun h hh => by simp [gu, gcl, gsq, k3 h hh]⟩
      have hV' : iSt t (f + 1) p (gu (gu (gu (gcl (gu (gsq (gu (gu g 17 0 f (nI c)) 18 0 f (nI k)) f 6) 203 0 0 (nI (f + 1))) f 10 (-1)) 160 0 f (nI c)) 161 0 f (nI k)) 402 0 0 (nI (f + 1))) := by
        refine ⟨hp, by simp [gu, gcl, gsq, hV1], by simp [gu, gcl, gsq, hV2], fun i hi => ?_, fun i hi j hj => ?_, fun i hi j h1 h2 => ?_⟩
        · obtain ⟨c', k1, k2, k3⟩ := hV3 i hi
          exact ⟨c', k1, by simp [gu, gcl, gsq, k2], by simp [gu, gcl, gsq, k3]⟩
        · by_cases hjf : j = f
          · subst hjf
            have k1 := hV5 i hi j (Nat.le_refl j) (by omega)
            by_cases hk1 : k = 1
            · subst hk1
              exact .inr (.inl ⟨by simp [gu, gcl, gsq], .inl ⟨by simp [gu, gcl, gsq, hi], by simp [gu, gcl, gsq, k1]⟩⟩)
            · exact .inr (.inr ⟨k, by omega, by simp [gu, gcl, gsq], .inl ⟨by simp [gu, gcl, gsq, hi], by simp [gu, gcl, gsq, k1]⟩⟩)
          · exact iVl_fr (hV4 i hi j (by omega)) (by simp [gu, gcl, gsq, hjf]) (by simp [gu, gcl, gsq, hjf]) (by simp [gu, gcl, gsq]) (fun e _ => by simp [gu, gcl, gsq]) (fun e _ => by simp [gu, gcl, gsq])
        · have k1 := hV5 i hi j (by omega) h2
          simp [gu, gcl, gsq, k1]
      exact lw_mk h0 (c4_l (k := k) (by omega) hT1 ht hF1 hf hc ⟨by omega, hk⟩ hf') h0 (m27_y (t := t) (f := f) (by omega) hT2 ht hF2 hf hx hy hf') ⟨t, f + 1, r, p, _, _, _, _, rfl, h0, hn, by omega, by omega, (iT_fr hT (by simp (disch := decide) only [gu_ne, gsq_ne, gcl_ne, gwd_ne]) (by simp (disch := decide) only [gu_ne, gsq_ne, gcl_ne, gwd_ne]) (by simp (disch := decide) only [gu_ne, gsq_ne, gcl_ne, gwd_ne]) (by simp (disch := decide) only [gu_ne, gsq_ne, gcl_ne, gwd_ne])), hF', (iCl_fr hC (by simp (disch := decide) only [gu_ne, gsq_ne, gcl_ne, gwd_ne]) (by simp (disch := decide) only [gu_ne, gsq_ne, gcl_ne, gwd_ne])), (iSq_fr hS (by simp (disch := decide) only [gu_ne, gsq_ne, gcl_ne, gwd_ne]) (by simp (disch := decide) only [gu_ne, gsq_ne, gcl_ne, gwd_ne]) (by simp (disch := decide) only [gu_ne, gsq_ne, gcl_ne, gwd_ne]) (by simp (disch := decide) only [gu_ne, gsq_ne, gcl_ne, gwd_ne])), (iOr_fr hO (by simp (disch := decide) only [gu_ne, gsq_ne, gcl_ne, gwd_ne]) (by simp (disch := decide) only [gu_ne, gsq_ne, gcl_ne, gwd_ne]) (by simp (disch := decide) only [gu_ne, gsq_ne, gcl_ne, gwd_ne]) (by simp (disch := decide) only [gu_ne, gsq_ne, gcl_ne, gwd_ne])), hV', (iRs_fr hR (Nat.le_succ f) (Nat.le_refl _) (fun _ _ _ => rfl) rfl (by simp (disch := decide) only [gu_ne, gsq_ne, gcl_ne, gwd_ne]) (by simp (disch := decide) only [gu_ne, gsq_ne, gcl_ne, gwd_ne]) (by simp (disch := decide) only [gu_ne, gsq_ne, gcl_ne, gwd_ne]) (by simp (disch := decide) only [gu_ne, gsq_ne, gcl_ne, gwd_ne]) (by simp (disch := decide) only [gu_ne, gsq_ne, gcl_ne, gwd_ne]) (by simp (disch := decide) only [gu_ne, gsq_ne, gcl_ne, gwd_ne]) (by simp (disch := decide) only [gu_ne, gsq_ne, gcl_ne, gwd_ne]) (by simp (disch := decide) only [gu_ne, gsq_ne, gcl_ne, gwd_ne])), (iCs_fr hK (Nat.le_refl _) (fun _ _ _ => rfl) rfl rfl rfl (by simp (disch := decide) only [gu_ne, gsq_ne, gcl_ne, gwd_ne]) (by simp (disch := decide) only [gu_ne, gsq_ne, gcl_ne, gwd_ne]) (by simp (disch := decide) only [gu_ne, gsq_ne, gcl_ne, gwd_ne]) (by simp (disch := decide) only [gu_ne, gsq_ne, gcl_ne, gwd_ne]) (by simp (disch := decide) only [gu_ne, gsq_ne, gcl_ne, gwd_ne]) (by simp (disch := decide) only [gu_ne, gsq_ne, gcl_ne, gwd_ne]) (by simp (disch := decide) only [gu_ne, gsq_ne, gcl_ne, gwd_ne])), (iRp_fr hP (by simp (disch := decide) only [gu_ne, gsq_ne, gcl_ne, gwd_ne]) (by simp (disch := decide) only [gu_ne, gsq_ne, gcl_ne, gwd_ne]) (by simp (disch := decide) only [gu_ne, gsq_ne, gcl_ne, gwd_ne]) (by simp (disch := decide) only [gu_ne, gsq_ne, gcl_ne, gwd_ne]) (by simp (disch := decide) only [gu_ne, gsq_ne, gcl_ne, gwd_ne]) (by simp (disch := decide) only [gu_ne, gsq_ne, gcl_ne, gwd_ne]) (by simp (disch := decide) only [gu_ne, gsq_ne, gcl_ne, gwd_ne]) (by simp (disch := decide) only [gu_ne, gsq_ne, gcl_ne, gwd_ne]) (by simp (disch := decide) only [gu_ne, gsq_ne, gcl_ne, gwd_ne]) (by simp (disch := decide) only [gu_ne, gsq_ne, gcl_ne, gwd_ne]) (by simp (disch := decide) only [gu_ne, gsq_ne, gcl_ne, gwd_ne]) (by simp (disch := decide) only [gu_ne, gsq_ne, gcl_ne, gwd_ne]) (by simp (disch := decide) only [gu_ne, gsq_ne, gcl_ne, gwd_ne]))⟩
  · exact lw_mk h0 (c4_no (by omega) hT1 ht hF1 hf hok) h0 (m27_no (by omega) hT2 ht hF2 hf hok) ⟨_, f, r, _, g, dyn, n, z, rfl, h0, hn, by omega, by omega, hT, hF, hC, hS, hO, hV, hR, hK, hP⟩
theorem pr_cascade {L N d : Nat} {xs : Nat → Int32} {w : iv_S} (hd : 100 ≤ d) (x : Int32) (h : Iv L xs N w) : lw_pair d 11 35 [.int x] L xs w (Iv L xs (N + 1)) := by
  obtain ⟨t, f, r, p, g, dyn, n, z, rfl, h0, hn, hn', hz, hT, hF, hC, hS, hO, hV, hR, hK, hP⟩ := h
  obtain ⟨ht, hT1, hT2, hL⟩ := id hT
  obtain ⟨hf, hF1, hF2, hF3, hF4⟩ := id hF
  obtain ⟨hp, hV1, hV2, hV3, hV4, hV5⟩ := id hV
  cases hx : ixb x f with
  | false => exact lw_mk h0 (c11_x (by omega) hF1 hf hx) h0 (m35_x (by omega) hF2 hf hx) ⟨_, f, r, _, g, dyn, n, z, rfl, h0, hn, by omega, by omega, hT, hF, hC, hS, hO, hV, hR, hK, hP⟩
  | true =>
    obtain ⟨i, hi, rfl⟩ := ixb_of hx (by omega)
    obtain ⟨k1, ⟨k, b, k4, k5, k6, k7, k8, k9⟩, k10⟩ := hF3 i hi
    by_cases hk : k = 0 ∨ k = 2
    · exact lw_mk h0 (c11_n (by omega) hF1 hf hi hk k5) h0 (m35_n (by omega) hF2 hf hi hk k6) ⟨_, f, r, _, g, dyn, n, z, rfl, h0, hn, by omega, by omega, hT, hF, hC, hS, hO, hV, hR, hK, hP⟩
    · have hF' : iFd t f (gu (gu g 19 0 i (bI true)) 162 0 i (bI true)) := by
        refine ⟨hf, by simp [gu, hF1], by simp [gu, hF2], fun j hj => ?_, fun j h1 h2 => ?_⟩
        · by_cases hji : j = i
          · subst hji
            obtain ⟨c, g1, g2, g3⟩ := k1
            refine ⟨⟨c, g1, by simp [gu, g2], by simp [gu, g3]⟩, ⟨k, true, k4, by simp [gu, k5], by simp [gu, k6], by simp [gu], by simp [gu], fun _ => by omega⟩, fun h hh => ?_⟩
            obtain ⟨z', e1, e2, e3⟩ := k10 h hh
            exact ⟨z', e1, by simp [gu, e2], by simpa [gu] using e3⟩
          · obtain ⟨⟨c, g1, g2, g3⟩, ⟨k', b', g4, g5, g6, g7, g8, g9⟩, g10⟩ := hF3 j hj
            refine ⟨⟨c, g1, by simp [gu, g2], by simp [gu, g3]⟩, ⟨k', b', g4, by simp [gu, g5], by simp [gu, g6], by simp [gu, hji, g7], by simp [gu, hji, g8], g9⟩, fun h hh => ?_⟩
            obtain ⟨z', e1, e2, e3⟩ := g10 h hh
            exact ⟨z', e1, by simp [gu, e2], by simpa [gu] using e3⟩
        · obtain ⟨g1, g2, g3⟩ := hF4 j h1 h2
          exact ⟨by simp [gu, show j ≠ i by omega, g1], by simp [gu, show j ≠ i by omega, g2], fun h hh => by simp [gu, g3 h hh]⟩
      exact lw_mk h0 (c11_y (k := k) (by omega) hF1 hf hi (by omega) k5) h0 (m35_y (k := k) (by omega) hF2 hf hi (by omega) k6) ⟨t, f, r, p, _, _, _, _, rfl, h0, hn, by omega, by omega, (iT_fr hT (by simp (disch := decide) only [gu_ne, gsq_ne, gcl_ne, gwd_ne]) (by simp (disch := decide) only [gu_ne, gsq_ne, gcl_ne, gwd_ne]) (by simp (disch := decide) only [gu_ne, gsq_ne, gcl_ne, gwd_ne]) (by simp (disch := decide) only [gu_ne, gsq_ne, gcl_ne, gwd_ne])), hF', (iCl_fr hC (by simp (disch := decide) only [gu_ne, gsq_ne, gcl_ne, gwd_ne]) (by simp (disch := decide) only [gu_ne, gsq_ne, gcl_ne, gwd_ne])), (iSq_fr hS (by simp (disch := decide) only [gu_ne, gsq_ne, gcl_ne, gwd_ne]) (by simp (disch := decide) only [gu_ne, gsq_ne, gcl_ne, gwd_ne]) (by simp (disch := decide) only [gu_ne, gsq_ne, gcl_ne, gwd_ne]) (by simp (disch := decide) only [gu_ne, gsq_ne, gcl_ne, gwd_ne])), (iOr_fr hO (by simp (disch := decide) only [gu_ne, gsq_ne, gcl_ne, gwd_ne]) (by simp (disch := decide) only [gu_ne, gsq_ne, gcl_ne, gwd_ne]) (by simp (disch := decide) only [gu_ne, gsq_ne, gcl_ne, gwd_ne]) (by simp (disch := decide) only [gu_ne, gsq_ne, gcl_ne, gwd_ne])), (iSt_fr hV (by simp (disch := decide) only [gu_ne, gsq_ne, gcl_ne, gwd_ne]) (by simp (disch := decide) only [gu_ne, gsq_ne, gcl_ne, gwd_ne]) (by simp (disch := decide) only [gu_ne, gsq_ne, gcl_ne, gwd_ne]) (by simp (disch := decide) only [gu_ne, gsq_ne, gcl_ne, gwd_ne]) (by simp (disch := decide) only [gu_ne, gsq_ne, gcl_ne, gwd_ne]) (by simp (disch := decide) only [gu_ne, gsq_ne, gcl_ne, gwd_ne]) (by simp (disch := decide) only [gu_ne, gsq_ne, gcl_ne, gwd_ne]) (by simp (disch := decide) only [gu_ne, gsq_ne, gcl_ne, gwd_ne]) (by simp (disch := decide) only [gu_ne, gsq_ne, gcl_ne, gwd_ne])), (iRs_fr hR (Nat.le_refl _) (Nat.le_refl _) (fun _ _ _ => rfl) rfl (by simp (disch := decide) only [gu_ne, gsq_ne, gcl_ne, gwd_ne]) (by simp (disch := decide) only [gu_ne, gsq_ne, gcl_ne, gwd_ne]) (by simp (disch := decide) only [gu_ne, gsq_ne, gcl_ne, gwd_ne]) (by simp (disch := decide) only [gu_ne, gsq_ne, gcl_ne, gwd_ne]) (by simp (disch := decide) only [gu_ne, gsq_ne, gcl_ne, gwd_ne]) (by simp (disch := decide) only [gu_ne, gsq_ne, gcl_ne, gwd_ne]) (by simp (disch := decide) only [gu_ne, gsq_ne, gcl_ne, gwd_ne]) (by simp (disch := decide) only [gu_ne, gsq_ne, gcl_ne, gwd_ne])), (iCs_fr hK (Nat.le_refl _) (fun _ _ _ => rfl) rfl rfl rfl (by simp (disch := decide) only [gu_ne, gsq_ne, gcl_ne, gwd_ne]) (by simp (disch := decide) only [gu_ne, gsq_ne, gcl_ne, gwd_ne]) (by simp (disch := decide) only [gu_ne, gsq_ne, gcl_ne, gwd_ne]) (by simp (disch := decide) only [gu_ne, gsq_ne, gcl_ne, gwd_ne]) (by simp (disch := decide) only [gu_ne, gsq_ne, gcl_ne, gwd_ne]) (by simp (disch := decide) only [gu_ne, gsq_ne, gcl_ne, gwd_ne]) (by simp (disch := decide) only [gu_ne, gsq_ne, gcl_ne, gwd_ne])), (iRp_fr hP (by simp (disch := decide) only [gu_ne, gsq_ne, gcl_ne, gwd_ne]) (by simp (disch := decide) only [gu_ne, gsq_ne, gcl_ne, gwd_ne]) (by simp (disch := decide) only [gu_ne, gsq_ne, gcl_ne, gwd_ne]) (by simp (disch := decide) only [gu_ne, gsq_ne, gcl_ne, gwd_ne]) (by simp (disch := decide) only [gu_ne, gsq_ne, gcl_ne, gwd_ne]) (by simp (disch := decide) only [gu_ne, gsq_ne, gcl_ne, gwd_ne]) (by simp (disch := decide) only [gu_ne, gsq_ne, gcl_ne, gwd_ne]) (by simp (disch := decide) only [gu_ne, gsq_ne, gcl_ne, gwd_ne]) (by simp (disch := decide) only [gu_ne, gsq_ne, gcl_ne, gwd_ne]) (by simp (disch := decide) only [gu_ne, gsq_ne, gcl_ne, gwd_ne]) (by simp (disch := decide) only [gu_ne, gsq_ne, gcl_ne, gwd_ne]) (by simp (disch := decide) only [gu_ne, gsq_ne, gcl_ne, gwd_ne]) (by simp (disch := decide) only [gu_ne, gsq_ne, gcl_ne, gwd_ne]))⟩
theorem pr_convert {L N d : Nat} {xs : Nat → Int32} {w : iv_S} (hd : 100 ≤ d) (x y v : Int32) (h : Iv L xs N w) : lw_pair d 12 36 [.int x, .int y, .int v] L xs w (Iv L xs (N + 1)) := by
  obtain ⟨t, f, r, p, g, dyn, n, z, rfl, h0, hn, hn', hz, hT, hF, hC, hS, hO, hV, hR, hK, hP⟩ := h
  obtain ⟨ht, hT1, hT2, hL⟩ := id hT
  obtain ⟨hf, hF1, hF2, hF3, hF4⟩ := id hF
  obtain ⟨hp, hV1, hV2, hV3, hV4, hV5⟩ := id hV
  by_cases hok : ixb x f = true ∧ ixb y 6 = true ∧ ixb v 6 = true
  · obtain ⟨hx, hy, hv⟩ := hok
    obtain ⟨i, hi, rfl⟩ := ixb_of hx (by omega)
    obtain ⟨b, hb, rfl⟩ := ixb_of hy (by omega)
    obtain ⟨k, hk, rfl⟩ := ixb_of hv (by omega)
    have hF' : iFd t f (gu (gu g 21 i b (nI k)) 163 0 (6 * i + b) (nI (k + 1))) := by
      refine ⟨hf, by simp [gu, hF1], by simp [gu, hF2], fun j hj => ?_, fun j h1 h2 => ?_⟩
      · obtain ⟨⟨c, g1, g2, g3⟩, ⟨k', b', g4, g5, g6, g7, g8, g9⟩, g10⟩ := hF3 j hj
        refine ⟨⟨c, g1, by simp [gu, g2], by simp [gu, g3]⟩, ⟨k', b', g4, by simp [gu, g5], by simp [gu, g6], by simp [gu, g7], by simp [gu, g8], g9⟩, fun h hh => ?_⟩
        obtain ⟨z', e1, e2, e3⟩ := g10 h hh
        by_cases hjh : j = i ∧ h = b
        · obtain ⟨h1, h2⟩ := hjh
          subst h1 h2
          exact ⟨k, hk, by simp [gu], .inr (by simp [gu])⟩
        · have ha : ¬ 6 * j + h = 6 * i + b := by omega
          refine ⟨z', e1, ?_, by simpa [gu, ha] using e3⟩
          by_cases hj : j = i
          · simp [gu, hj, show ¬ h = b by omega]
            rw [← hj]
            exact e2
          · simp [gu, hj, e2]
      · obtain ⟨g1, g2, g3⟩ := hF4 j h1 h2
        exact ⟨by simp [gu, g1], by simp [gu, g2], fun h hh => by simp [gu, show ¬ 6 * j + h = 6 * i + b by omega, g3 h hh]⟩
    exact lw_mk h0 (c12_y (by omega) hF1 hf hi hb hk) h0 (m36_y (by omega) hF2 hf hi hb hk) ⟨t, f, r, p, _, _, _, _, rfl, h0, hn, by omega, by omega, (iT_fr hT (by simp (disch := decide) only [gu_ne, gsq_ne, gcl_ne, gwd_ne]) (by simp (disch := decide) only [gu_ne, gsq_ne, gcl_ne, gwd_ne]) (by simp (disch := decide) only [gu_ne, gsq_ne, gcl_ne, gwd_ne]) (by simp (disch := decide) only [gu_ne, gsq_ne, gcl_ne, gwd_ne])), hF', (iCl_fr hC (by simp (disch := decide) only [gu_ne, gsq_ne, gcl_ne, gwd_ne]) (by simp (disch := decide) only [gu_ne, gsq_ne, gcl_ne, gwd_ne])), (iSq_fr hS (by simp (disch := decide) only [gu_ne, gsq_ne, gcl_ne, gwd_ne]) (by simp (disch := decide) only [gu_ne, gsq_ne, gcl_ne, gwd_ne]) (by simp (disch := decide) only [gu_ne, gsq_ne, gcl_ne, gwd_ne]) (by simp (disch := decide) only [gu_ne, gsq_ne, gcl_ne, gwd_ne])), (iOr_fr hO (by simp (disch := decide) only [gu_ne, gsq_ne, gcl_ne, gwd_ne]) (by simp (disch := decide) only [gu_ne, gsq_ne, gcl_ne, gwd_ne]) (by simp (disch := decide) only [gu_ne, gsq_ne, gcl_ne, gwd_ne]) (by simp (disch := decide) only [gu_ne, gsq_ne, gcl_ne, gwd_ne])), (iSt_fr hV (by simp (disch := decide) only [gu_ne, gsq_ne, gcl_ne, gwd_ne]) (by simp (disch := decide) only [gu_ne, gsq_ne, gcl_ne, gwd_ne]) (by simp (disch := decide) only [gu_ne, gsq_ne, gcl_ne, gwd_ne]) (by simp (disch := decide) only [gu_ne, gsq_ne, gcl_ne, gwd_ne]) (by simp (disch := decide) only [gu_ne, gsq_ne, gcl_ne, gwd_ne]) (by simp (disch := decide) only [gu_ne, gsq_ne, gcl_ne, gwd_ne]) (by simp (disch := decide) only [gu_ne, gsq_ne, gcl_ne, gwd_ne]) (by simp (disch := decide) only [gu_ne, gsq_ne, gcl_ne, gwd_ne]) (by simp (disch := decide) only [gu_ne, gsq_ne, gcl_ne, gwd_ne])), (iRs_fr hR (Nat.le_refl _) (Nat.le_refl _) (fun _ _ _ => rfl) rfl (by simp (disch := decide) only [gu_ne, gsq_ne, gcl_ne, gwd_ne]) (by simp (disch := decide) only [gu_ne, gsq_ne, gcl_ne, gwd_ne]) (by simp (disch := decide) only [gu_ne, gsq_ne, gcl_ne, gwd_ne]) (by simp (disch := decide) only [gu_ne, gsq_ne, gcl_ne, gwd_ne]) (by simp (disch := decide) only [gu_ne, gsq_ne, gcl_ne, gwd_ne]) (by simp (disch := decide) only [gu_ne, gsq_ne, gcl_ne, gwd_ne]) (by simp (disch := decide) only [gu_ne, gsq_ne, gcl_ne, gwd_ne]) (by simp (disch := decide) only [gu_ne, gsq_ne, gcl_ne, gwd_ne])), (iCs_fr hK (Nat.le_refl _) (fun _ _ _ => rfl) rfl rfl rfl (by simp (disch := decide) only [gu_ne, gsq_ne, gcl_ne, gwd_ne]) (by simp (disch := decide) only [gu_ne, gsq_ne, gcl_ne, gwd_ne]) (by simp (disch := decide) only [gu_ne, gsq_ne, gcl_ne, gwd_ne]) (by simp (disch := decide) only [gu_ne, gsq_ne, gcl_ne, gwd_ne]) (by simp (disch := decide) only [gu_ne, gsq_ne, gcl_ne, gwd_ne]) (by simp (disch := decide) only [gu_ne, gsq_ne, gcl_ne, gwd_ne]) (by simp (disch := decide) only [gu_ne, gsq_ne, gcl_ne, gwd_ne])), (iRp_fr hP (by simp (disch := decide) only [gu_ne, gsq_ne, gcl_ne, gwd_ne]) (by simp (disch := decide) only [gu_ne, gsq_ne, gcl_ne, gwd_ne]) (by simp (disch := decide) only [gu_ne, gsq_ne, gcl_ne, gwd_ne]) (by simp (disch := decide) only [gu_ne, gsq_ne, gcl_ne, gwd_ne]) (by simp (disch := decide) only [gu_ne, gsq_ne, gcl_ne, gwd_ne]) (by simp (disch := decide) only [gu_ne, gsq_ne, gcl_ne, gwd_ne]) (by simp (disch := decide) only [gu_ne, gsq_ne, gcl_ne, gwd_ne]) (by simp (disch := decide) only [gu_ne, gsq_ne, gcl_ne, gwd_ne]) (by simp (disch := decide) only [gu_ne, gsq_ne, gcl_ne, gwd_ne]) (by simp (disch := decide) only [gu_ne, gsq_ne, gcl_ne, gwd_ne]) (by simp (disch := decide) only [gu_ne, gsq_ne, gcl_ne, gwd_ne]) (by simp (disch := decide) only [gu_ne, gsq_ne, gcl_ne, gwd_ne]) (by simp (disch := decide) only [gu_ne, gsq_ne, gcl_ne, gwd_ne]))⟩
  · exact lw_mk h0 (c12_no (by omega) hF1 hf hok) h0 (m36_no (by omega) hF2 hf hok) ⟨_, f, r, _, g, dyn, n, z, rfl, h0, hn, by omega, by omega, hT, hF, hC, hS, hO, hV, hR, hK, hP⟩
theorem pr_object {L N d : Nat} {xs : Nat → Int32} {w : iv_S} (hd : 100 ≤ d) (x : Int32) (h : Iv L xs N w) : lw_pair d 13 37 [.int x] L xs w (Iv L xs (N + 1)) := by
  obtain ⟨t, f, r, p, g, dyn, n, z, rfl, h0, hn, hn', hz, hT, hF, hC, hS, hO, hV, hR, hK, hP⟩ := h
  obtain ⟨ht, hT1, hT2, hL⟩ := id hT
  obtain ⟨hf, hF1, hF2, hF3, hF4⟩ := id hF
  obtain ⟨hp, hV1, hV2, hV3, hV4, hV5⟩ := id hV
  by_cases hok : ixb x t = true ∧ p < 10
  · obtain ⟨hx, hp'⟩ := hok
    obtain ⟨c, hc, rfl⟩ := ixb_of hx (by omega)
    have hV' : iSt t f (p + 1) (gu (gu (gu (gu g 54 0 p (nI c)) 253 0 0 (nI (p + 1))) 180 0 p (nI c)) 424 0 0 (nI (p + 1))) := by
      refine ⟨by omega, by simp [gu], by simp [gu], fun i hi => ?_, fun i hi j hj => ?_, fun i hi j h1 h2 => by simp [gu, hV5 i hi j h1 h2]⟩
      · by_cases hip : i = p
        · subst hip
          exact ⟨c, hc, by simp [gu], by simp [gu]⟩
        · obtain ⟨c', k1, k2, k3⟩ := hV3 i (by omega)
          exact ⟨c', k1, by simp [gu, hip, k2], by simp [gu, hip, k3]⟩
      · exact iVl_up (iVl_fr (hV4 i hi j hj) (by simp [gu]) (by simp [gu]) (by simp [gu]) (fun e _ => by simp [gu]) (fun e _ => by simp [gu])) (Nat.le_succ p)
    exact lw_mk h0 (c13_y (by omega) hT1 ht hV1 hp hc hp') h0 (m37_y (by omega) hT2 ht hV2 hp hc hp') ⟨t, f, r, p + 1, _, _, _, _, rfl, h0, hn, by omega, by omega, (iT_fr hT (by simp (disch := decide) only [gu_ne, gsq_ne, gcl_ne, gwd_ne]) (by simp (disch := decide) only [gu_ne, gsq_ne, gcl_ne, gwd_ne]) (by simp (disch := decide) only [gu_ne, gsq_ne, gcl_ne, gwd_ne]) (by simp (disch := decide) only [gu_ne, gsq_ne, gcl_ne, gwd_ne])), (iFd_fr hF (by simp (disch := decide) only [gu_ne, gsq_ne, gcl_ne, gwd_ne]) (by simp (disch := decide) only [gu_ne, gsq_ne, gcl_ne, gwd_ne]) (by simp (disch := decide) only [gu_ne, gsq_ne, gcl_ne, gwd_ne]) (by simp (disch := decide) only [gu_ne, gsq_ne, gcl_ne, gwd_ne]) (by simp (disch := decide) only [gu_ne, gsq_ne, gcl_ne, gwd_ne]) (by simp (disch := decide) only [gu_ne, gsq_ne, gcl_ne, gwd_ne]) (by simp (disch := decide) only [gu_ne, gsq_ne, gcl_ne, gwd_ne]) (by simp (disch := decide) only [gu_ne, gsq_ne, gcl_ne, gwd_ne]) (by simp (disch := decide) only [gu_ne, gsq_ne, gcl_ne, gwd_ne]) (by simp (disch := decide) only [gu_ne, gsq_ne, gcl_ne, gwd_ne])), (iCl_fr hC (by simp (disch := decide) only [gu_ne, gsq_ne, gcl_ne, gwd_ne]) (by simp (disch := decide) only [gu_ne, gsq_ne, gcl_ne, gwd_ne])), (iSq_fr hS (by simp (disch := decide) only [gu_ne, gsq_ne, gcl_ne, gwd_ne]) (by simp (disch := decide) only [gu_ne, gsq_ne, gcl_ne, gwd_ne]) (by simp (disch := decide) only [gu_ne, gsq_ne, gcl_ne, gwd_ne]) (by simp (disch := decide) only [gu_ne, gsq_ne, gcl_ne, gwd_ne])), (iOr_fr hO (by simp (disch := decide) only [gu_ne, gsq_ne, gcl_ne, gwd_ne]) (by simp (disch := decide) only [gu_ne, gsq_ne, gcl_ne, gwd_ne]) (by simp (disch := decide) only [gu_ne, gsq_ne, gcl_ne, gwd_ne]) (by simp (disch := decide) only [gu_ne, gsq_ne, gcl_ne, gwd_ne])), hV', (iRs_fr hR (Nat.le_refl _) (Nat.le_refl _) (fun _ _ _ => rfl) rfl (by simp (disch := decide) only [gu_ne, gsq_ne, gcl_ne, gwd_ne]) (by simp (disch := decide) only [gu_ne, gsq_ne, gcl_ne, gwd_ne]) (by simp (disch := decide) only [gu_ne, gsq_ne, gcl_ne, gwd_ne]) (by simp (disch := decide) only [gu_ne, gsq_ne, gcl_ne, gwd_ne]) (by simp (disch := decide) only [gu_ne, gsq_ne, gcl_ne, gwd_ne]) (by simp (disch := decide) only [gu_ne, gsq_ne, gcl_ne, gwd_ne]) (by simp (disch := decide) only [gu_ne, gsq_ne, gcl_ne, gwd_ne]) (by simp (disch := decide) only [gu_ne, gsq_ne, gcl_ne, gwd_ne])), (iCs_fr hK (Nat.le_refl _) (fun _ _ _ => rfl) rfl rfl rfl (by simp (disch := decide) only [gu_ne, gsq_ne, gcl_ne, gwd_ne]) (by simp (disch := decide) only [gu_ne, gsq_ne, gcl_ne, gwd_ne]) (by simp (disch := decide) only [gu_ne, gsq_ne, gcl_ne, gwd_ne]) (by simp (disch := decide) only [gu_ne, gsq_ne, gcl_ne, gwd_ne]) (by simp (disch := decide) only [gu_ne, gsq_ne, gcl_ne, gwd_ne]) (by simp (disch := decide) only [gu_ne, gsq_ne, gcl_ne, gwd_ne]) (by simp (disch := decide) only [gu_ne, gsq_ne, gcl_ne, gwd_ne])), (iRp_fr hP (by simp (disch := decide) only [gu_ne, gsq_ne, gcl_ne, gwd_ne]) (by simp (disch := decide) only [gu_ne, gsq_ne, gcl_ne, gwd_ne]) (by simp (disch := decide) only [gu_ne, gsq_ne, gcl_ne, gwd_ne]) (by simp (disch := decide) only [gu_ne, gsq_ne, gcl_ne, gwd_ne]) (by simp (disch := decide) only [gu_ne, gsq_ne, gcl_ne, gwd_ne]) (by simp (disch := decide) only [gu_ne, gsq_ne, gcl_ne, gwd_ne]) (by simp (disch := decide) only [gu_ne, gsq_ne, gcl_ne, gwd_ne]) (by simp (disch := decide) only [gu_ne, gsq_ne, gcl_ne, gwd_ne]) (by simp (disch := decide) only [gu_ne, gsq_ne, gcl_ne, gwd_ne]) (by simp (disch := decide) only [gu_ne, gsq_ne, gcl_ne, gwd_ne]) (by simp (disch := decide) only [gu_ne, gsq_ne, gcl_ne, gwd_ne]) (by simp (disch := decide) only [gu_ne, gsq_ne, gcl_ne, gwd_ne]) (by simp (disch := decide) only [gu_ne, gsq_ne, gcl_ne, gwd_ne]))⟩
  · exact lw_mk h0 (c13_no (by omega) hT1 ht hV1 hp hok) h0 (m37_no (by omega) hT2 ht hV2 hp hok) ⟨_, f, r, _, g, dyn, n, z, rfl, h0, hn, by omega, by omega, hT, hF, hC, hS, hO, hV, hR, hK, hP⟩
