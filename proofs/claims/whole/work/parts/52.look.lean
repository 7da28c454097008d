/-! look: both alike, the invariant kept -/
theorem c90_0 {g : Gs} {dyn : Nat → Option iv_C} {s : Nat × Nat} {D : Nat} (hD : 1 ≤ D) : iv_X D 90 [.ref 77, .int (nI 0)] (gh g dyn, s) = some (some (.int (g 277 0 0)), (gh g dyn, s)) := by
  obtain ⟨d, rfl, hd⟩ := iv_dn hD
  rw [en_90]
  simp (disch := omega) only [f90_0, f90_1, f90_2, f90_3, f90_4, f90_5, f90_6, f90_7, f90_8, f90_9, pf_77_0', gf_77_0', ni_pred, kv_e, kx_e, kw_e, kn_e, ct_s, ct_v, cr_t, q_ri, q_rz0', q_rz1', q_rb, q_rv, Nat.add_sub_cancel_left, ni_m1lt, ni_m1le, ni_ltm1, ni_lem1, Nat.add_sub_cancel, nI_add, pk_mul, ni_sub, ni_lt, ni_le, ni_eq, ni_m1, ni_m1', nd_lt_t, nd_lt_f, nd_le_t, nd_le_f, nd_eq_t, nd_eq_f, bI_t', bI_f', bI_0', ↓reduceIte, not_true_eq_false, not_false_eq_true, reduceCtorEq, Bool.true_and, Bool.and_true, Bool.false_and, Bool.and_false, Bool.true_or, Bool.or_true, Bool.false_or, Bool.or_false, decide_true, decide_false, gu_ne, gu_eq]
theorem c90_n {g : Gs} {dyn : Nat → Option iv_C} {s : Nat × Nat} {D : Nat} {x : Int32} (hD : 1 ≤ D) (hx : ¬ x = nI 0) : iv_X D 90 [.ref 77, .int x] (gh g dyn, s) = some (some (.int x), (gh (gu g 277 0 0 (nI 0)) dyn, s)) := by
  obtain ⟨d, rfl, hd⟩ := iv_dn hD
  rw [en_90]
  simp (disch := omega) only [f90_0, f90_1, f90_2, f90_3, f90_4, f90_5, f90_6, f90_7, f90_8, f90_9, pf_77_0', gf_77_0', ni_pred, kv_e, kx_e, kw_e, kn_e, ct_s, ct_v, cr_t, q_ri, q_rz0', q_rz1', q_rb, q_rv, Nat.add_sub_cancel_left, ni_m1lt, ni_m1le, ni_ltm1, ni_lem1, Nat.add_sub_cancel, nI_add, pk_mul, ni_sub, ni_lt, ni_le, ni_eq, ni_m1, ni_m1', nd_lt_t, nd_lt_f, nd_le_t, nd_le_f, nd_eq_t, nd_eq_f, bI_t', bI_f', bI_0', ↓reduceIte, not_true_eq_false, not_false_eq_true, reduceCtorEq, Bool.true_and, Bool.and_true, Bool.false_and, Bool.and_false, Bool.true_or, Bool.or_true, Bool.false_or, Bool.or_false, decide_true, decide_false, gu_ne, gu_eq, hx, if_false]
theorem iRp_of {g : Gs} {l : List Vi} (hg : gdL l) (hA : rA g l) (hB : rB g l) (h1 : g 356 0 0 = g 439 0 0) (h2 : g 355 0 0 = nI 0) (h3 : g 352 0 0 = nI 0) : iRp g := by
  refine ⟨⟨l.length, hg.1, hA.1, hB.1, fun k hk => ?_⟩, h1, h2, h3⟩
  obtain ⟨e, he⟩ : ∃ e, l[k]? = some e := ⟨l[k], List.getElem?_eq_getElem hk⟩
  obtain ⟨a1, a2, a3⟩ := hA.2 k e he
  obtain ⟨b1, b2, b3⟩ := hB.2 k e he
  obtain ⟨⟨fd, d1, d2⟩, d3, d4, d5⟩ := hg.2 k e he
  refine ⟨fun i hi => by rw [a1 i hi, b1 i hi], ⟨fd, d1, by rw [a1 1 (by omega)]; exact d2⟩, by rw [a1 2 (by omega)]; exact d3, e.2.length, d4, a2, b2, fun i hi => ?_⟩
  obtain ⟨q, hq⟩ : ∃ q, e.2[i]? = some q := ⟨e.2[i], List.getElem?_eq_getElem hi⟩
  obtain ⟨c1, c2⟩ := d5 i q hq
  exact ⟨q.1, q.2, c1, c2, a3 i q hq, (b3 i q hq).1, (b3 i q hq).2⟩
theorem rA_nil {g : Gs} (h : g 277 0 0 = nI 0) : rA g [] := ⟨h, fun k e hk => by simp at hk⟩
theorem rB_nil {g : Gs} (h : g 441 0 0 = nI 0) : rB g [] := ⟨h, fun k e hk => by simp at hk⟩
theorem gdL_nil : gdL [] := ⟨by simp, fun k e hk => by simp at hk⟩
theorem gdT_nil : gdT [] := ⟨by simp, fun k e hk => by simp at hk⟩
theorem trA_nil {g : Gs} (h : g 352 0 0 = nI 0) : trA g [] := ⟨h, fun k e hk => by simp at hk⟩
theorem trB_nil {g : Gs} : trB g [] := fun k e hk => by simp at hk
theorem Iv_of {L N t f r p n z : Nat} {xs : Nat → Int32} {g g' : Gs} {dyn : Nat → Option iv_C} (h0 : dyn 0 = some (150, md_ints L xs)) (hn : 198 ≤ n) (hn' : n ≤ 198 + 4 * N) (hz : z ≤ 3901 + 11 * N) (hW : Wd t f r p n g dyn) (hw : wd g g') (hP : iRp g') : Iv L xs (N + 1) (gh g' dyn, n, z) := by
  obtain ⟨hT, hF, hC, hS, hO, hV, hR, hK⟩ := Wd_fr hW hw
  exact ⟨t, f, r, p, g', dyn, n, z, rfl, h0, hn, by omega, by omega, hT, hF, hC, hS, hO, hV, hR, hK, hP⟩
theorem wd_gu {g0 g : Gs} {b r j : Nat} {v : Int32} (h : wd g0 g) (hb : mv b = true) : wd g0 (gu g b r j v) := fun b' hb' => by
  rw [gu_ne (fun e => by rw [e, hb] at hb'; cases hb')]
  exact h b' hb'
theorem pr_look {L N d : Nat} {xs : Nat → Int32} {w : iv_S} (hd : 100 ≤ d) (x y u : Int32) (h : Iv L xs N w) : lw_pair d 18 57 [.int x, .int y, .int u] L xs w (Iv L xs (N + 1)) := by
  obtain ⟨t, f, r, p, g, dyn, n, z, rfl, h0, hn, hn', hz, hT, hF, hC, hS, hO, hV, hR, hK, hP⟩ := h
  obtain ⟨ht, hT1, hT2, hL⟩ := id hT
  obtain ⟨hf, hF1, hF2, hF3, hF4⟩ := id hF
  obtain ⟨hp, hV1, hV2, hV3, hV4, hV5⟩ := id hV
  have hW : Wd t f r p n g dyn := ⟨hT, hF, hC, hS, hO, hV, hR, hK⟩
  obtain ⟨hP1, hP2, hP3, hP4⟩ := id hP
  rcases has_cases hT hF hV x y with ⟨h1, h2⟩ | ⟨i, j, c, w, k, rfl, rfl, hs⟩
  · exact lw_mk h0 (c18_h (by omega) (fun D hD => h1 dyn _ D hD)) h0 (m57_h (by omega) (fun D hD => h2 dyn _ D hD)) ⟨_, f, r, _, g, dyn, n, z, rfl, h0, hn, by omega, by omega, hT, hF, hC, hS, hO, hV, hR, hK, hP⟩
  · have hy := has_y hT hF hV hs
    have hry := fun (g' : Gs) (hw : wd g g') => has_ry hT hF hV hs (hw 424 rfl) (hw 402 rfl) (hw 180 rfl) (hw 160 rfl) (hw 159 rfl) (hw 3 rfl)
    obtain ⟨e, rfl, hd1⟩ := iv_dn (show 99 + 1 ≤ d by omega)
    cases hu : ixb u 6 with
    | false =>
      have e1 := hy dyn (n, z) e (by omega)
      have e2 := hry g wd_rf dyn (n, z) e (by omega)
      have e3 := x82 (g := g) (dyn := dyn) (s := (n, z)) (D := e) (x := u) (by omega)
      have e4 := x25 (w := (gh g dyn, n, z)) (D := e) (x := u) (y := nI 0) (z := nI 5) (by omega)
      rw [inb_0' (n := 5) (by omega)] at e4
      simp only [Nat.reduceAdd, hu] at e4
      rw [hu] at e3
      refine lw_mk h0 (v := -1) (g1 := g) (n1 := n) (z1 := z) ?_ h0 (g2 := g) ?_ ⟨_, f, r, _, g, dyn, n, z, rfl, h0, hn, by omega, by omega, hT, hF, hC, hS, hO, hV, hR, hK, hP⟩
      · rw [en_18]
        simp (disch := omega) only [f18_0, f18_1, f18_2, f18_3, f18_4, f18_5, f18_6, f18_7, f18_8, f18_9, f18_10, f18_11, f18_12, f18_13, f18_14, f18_15, f18_16, f18_17, f18_18, f18_19, f18_20, f18_21, f18_22, f18_23, f18_24, f18_25, f18_26, f18_27, gf_1_2', gf_1_4', pf_77_0', gf_1_5', rc_1, rc_2, rc_35, rc_44, rc_51, rc_53, rc_77, rc_152, rc_155, rc_5, rc_47, rc_104, rc_38, ni_pred, kv_e, kx_e, kw_e, kn_e, ct_s, ct_v, cr_t, q_ri, q_rz0', q_rz1', q_rb, q_rv, Nat.add_sub_cancel_left, ni_m1lt, ni_m1le, ni_ltm1, ni_lem1, Nat.add_sub_cancel, nI_add, pk_mul, ni_sub, ni_lt, ni_le, ni_eq, ni_m1, ni_m1', nd_lt_t, nd_lt_f, nd_le_t, nd_le_f, nd_eq_t, nd_eq_f, bI_t', bI_f', bI_0', ↓reduceIte, not_true_eq_false, not_false_eq_true, reduceCtorEq, Bool.true_and, Bool.and_true, Bool.false_and, Bool.and_false, Bool.true_or, Bool.or_true, Bool.false_or, Bool.or_false, decide_true, decide_false, gu_ne, gu_eq, e1, e3]
      · rw [en_57]
        simp (disch := omega) only [f57_0, f57_1, f57_2, f57_3, f57_4, f57_5, f57_6, f57_7, f57_8, f57_9, f57_10, f57_11, f57_12, f57_13, f57_14, f57_15, f57_16, f57_17, f57_18, f57_19, f57_20, f57_21, f57_22, f57_23, f57_24, f57_25, f57_26, f57_27, f57_28, f57_29, f57_30, f57_31, f57_32, f57_33, f57_34, f57_35, f57_36, f57_37, f57_38, pf_158_41', pf_158_28', gf_158_41', rc_158, ni_pred, kv_e, kx_e, kw_e, kn_e, ct_s, ct_v, cr_t, q_ri, q_rz0', q_rz1', q_rb, q_rv, Nat.add_sub_cancel_left, ni_m1lt, ni_m1le, ni_ltm1, ni_lem1, Nat.add_sub_cancel, nI_add, pk_mul, ni_sub, ni_lt, ni_le, ni_eq, ni_m1, ni_m1', nd_lt_t, nd_lt_f, nd_le_t, nd_le_f, nd_eq_t, nd_eq_f, bI_t', bI_f', bI_0', ↓reduceIte, not_true_eq_false, not_false_eq_true, reduceCtorEq, Bool.true_and, Bool.and_true, Bool.false_and, Bool.and_false, Bool.true_or, Bool.or_true, Bool.false_or, Bool.or_false, decide_true, decide_false, gu_ne, gu_eq, e2, e4]
    | true =>
      obtain ⟨m, hm, rfl⟩ := ixb_of hu (by omega)
      obtain ⟨s1, s2, s3, s4, s5, s6, s7, s8, s9, s10, s11, s12⟩ := id hs
      obtain ⟨sf, hsf⟩ : ∃ sf : Nat → Bool, sf = fun q => decide (j = q) := ⟨_, rfl⟩
      have hw1 : wd g (gu g 277 0 0 (nI 0)) := wd_gu wd_rf rfl
      have hF' : ∀ q, q < f → tb (nI 1 <<< (nI j &&& 31)) q = sf q := fun q hq => by
        rw [hsf]
        exact tb_bt (by omega) (by omega)
      obtain ⟨g2, i1, i2, i3⟩ := c72 (s := (n, z)) (l := []) (show 4 ≤ e by omega) hW s1 hm gdT_nil hF' gdL_nil hw1 (rA_nil gu_eq) (trA_nil (by rw [gu_ne (by decide)]; exact hP4))
      have hsel : ∀ q, q < f → (hasS g i q && decide (j = q)) = sf q := by
        intro q hq
        rw [hsf]
        by_cases hjq : j = q
        · subst hjq
          have : hasS g i j = true := by
            unfold hasS clS owS
            rw [s6, s8, nI_clamp (by omega), nI_clamp (by omega)]
            exact s12
          simp [this]
        · simp [hjq]
      have e1 := hy dyn (n, z) e (by omega)
      have e3 := x82 (g := g) (dyn := dyn) (s := (n, z)) (D := e) (x := nI m) (by omega)
      rw [hu] at e3
      have hgl := rl_gd (sel := seS g sf m) hW s1 gdT_nil r 0 [] (by omega) gdL_nil
      have hw2 : wd g g2 := wd_tr hw1 (fA_wd i3)
      -- the reference, from any state like g2
      have href : ∀ g3, wd g g3 → ∃ g5, iv_X e 47 [.ref 158, .int (nI i), .int (nI m), .int (nI j)] (gh (gu (gu g3 441 0 0 (nI 0)) 428 0 0 (nI 0)) dyn, n, z) = some (some (.int (rsS (seS g sf m) (ftS g) (acS g [] i) r 0 []).1), (gh g5 dyn, n, z)) ∧ rB g5 (rsS (seS g sf m) (ftS g) (acS g [] i) r 0 []).2 ∧ fB (gu (gu g3 441 0 0 (nI 0)) 428 0 0 (nI 0)) g5 := by
        intro g3 hw3
        exact m47 (show 4 ≤ e by omega) hW gdT_nil s1 hm (.inr ⟨j, by omega, rfl, hsel⟩) gdL_nil (wd_gu (wd_gu hw3 rfl) rfl) (rB_nil (by rw [gu_ne (by decide), gu_eq])) trB_nil (.inr ⟨gu_eq, rfl⟩)
      have e4 := fun g3 => x25 (w := (gh g3 dyn, n, z)) (D := e) (x := nI m) (y := nI 0) (z := nI 5) (by omega)
      simp only [inb_0' (n := 5) (show 5 < 2 ^ 30 by omega), Nat.reduceAdd, hu] at e4
      by_cases hc : (rsS (seS g sf m) (ftS g) (acS g [] i) r 0 []).1 = nI 0
      · obtain ⟨g5, j1, j2, j3⟩ := href g2 hw2
        have e2 := hry g2 hw2 dyn (n, z) e (by omega)
        rw [hc] at i1 j1
        have hb := fun b (h1 : mB b = false) (h2 : b ≠ 441) (h3 : b ≠ 428) => (j3 b h1).trans ((gu_ne h3).trans (gu_ne h2))
        have h6 : ∀ b, mB b = false → b ≠ 441 → b ≠ 428 → gu g5 441 0 0 (g5 441 0 0) b = g2 b := fun b h1 h2 h3 => (gu_ne h2).trans (hb b h1 h2 h3)
        have hrB : rB (gu g5 441 0 0 (g5 441 0 0)) (rsS (seS g sf m) (ftS g) (acS g [] i) r 0 []).2 := ⟨by rw [gu_eq]; exact j2.1, fun k e hk => by
          rw [gu_ne (by decide), gu_ne (by decide), gu_ne (by decide), gu_ne (by decide)]
          exact j2.2 k e hk⟩
        have hrA : rA (gu g5 441 0 0 (g5 441 0 0)) (rsS (seS g sf m) (ftS g) (acS g [] i) r 0 []).2 := rA_fr i2 (h6 277 rfl (by decide) (by decide)) (h6 79 rfl (by decide) (by decide)) (h6 304 rfl (by decide) (by decide)) (h6 105 rfl (by decide) (by decide))
        have hg2 : ∀ b, mA b = false → b ≠ 277 → g2 b = g b := fun b h1 h2 => (i3 b h1).trans (gu_ne h2)
        have hrp : iRp (gu g5 441 0 0 (g5 441 0 0)) := iRp_of hgl hrA hrB (by rw [h6 356 rfl (by decide) (by decide), h6 439 rfl (by decide) (by decide), hg2 356 rfl (by decide), hg2 439 rfl (by decide)]; exact hP2) (by rw [h6 355 rfl (by decide) (by decide), hg2 355 rfl (by decide)]; exact hP3) (by rw [h6 352 rfl (by decide) (by decide), hg2 352 rfl (by decide)]; exact hP4)
        refine lw_mk h0 (v := nI (rsS (seS g sf m) (ftS g) (acS g [] i) r 0 []).2.length) (g1 := g2) (n1 := n) (z1 := z) ?_ h0 (g2 := gu g5 441 0 0 (g5 441 0 0)) ?_ (Iv_of h0 hn hn' hz hW (wd_gu (wd_tr (wd_gu (wd_gu hw2 rfl) rfl) (fB_wd j3)) rfl) hrp)
        · have e5 := c90_0 (g := g2) (dyn := dyn) (s := (n, z)) (D := e) (by omega)
          rw [i2.1] at e5
          rw [en_18]
          simp (disch := omega) only [f18_0, f18_1, f18_2, f18_3, f18_4, f18_5, f18_6, f18_7, f18_8, f18_9, f18_10, f18_11, f18_12, f18_13, f18_14, f18_15, f18_16, f18_17, f18_18, f18_19, f18_20, f18_21, f18_22, f18_23, f18_24, f18_25, f18_26, f18_27, gf_1_2', gf_1_4', pf_77_0', gf_1_5', rc_1, rc_2, rc_35, rc_44, rc_51, rc_53, rc_77, rc_152, rc_155, rc_5, rc_47, rc_104, rc_38, ni_pred, kv_e, kx_e, kw_e, kn_e, ct_s, ct_v, cr_t, q_ri, q_rz0', q_rz1', q_rb, q_rv, Nat.add_sub_cancel_left, ni_m1lt, ni_m1le, ni_ltm1, ni_lem1, Nat.add_sub_cancel, nI_add, pk_mul, ni_sub, ni_lt, ni_le, ni_eq, ni_m1, ni_m1', nd_lt_t, nd_lt_f, nd_le_t, nd_le_f, nd_eq_t, nd_eq_f, bI_t', bI_f', bI_0', ↓reduceIte, not_true_eq_false, not_false_eq_true, reduceCtorEq, Bool.true_and, Bool.and_true, Bool.false_and, Bool.and_false, Bool.true_or, Bool.or_true, Bool.false_or, Bool.or_false, decide_true, decide_false, gu_ne, gu_eq, e1, e3, i1, e5]
        · rw [en_57]
          have j21 := j2.1
          simp (disch := omega) only [f57_0, f57_1, f57_2, f57_3, f57_4, f57_5, f57_6, f57_7, f57_8, f57_9, f57_10, f57_11, f57_12, f57_13, f57_14, f57_15, f57_16, f57_17, f57_18, f57_19, f57_20, f57_21, f57_22, f57_23, f57_24, f57_25, f57_26, f57_27, f57_28, f57_29, f57_30, f57_31, f57_32, f57_33, f57_34, f57_35, f57_36, f57_37, f57_38, pf_158_41', pf_158_28', gf_158_41', rc_158, ni_pred, kv_e, kx_e, kw_e, kn_e, ct_s, ct_v, cr_t, q_ri, q_rz0', q_rz1', q_rb, q_rv, Nat.add_sub_cancel_left, ni_m1lt, ni_m1le, ni_ltm1, ni_lem1, Nat.add_sub_cancel, nI_add, pk_mul, ni_sub, ni_lt, ni_le, ni_eq, ni_m1, ni_m1', nd_lt_t, nd_lt_f, nd_le_t, nd_le_f, nd_eq_t, nd_eq_f, bI_t', bI_f', bI_0', ↓reduceIte, not_true_eq_false, not_false_eq_true, reduceCtorEq, Bool.true_and, Bool.and_true, Bool.false_and, Bool.and_false, Bool.true_or, Bool.or_true, Bool.false_or, Bool.or_false, decide_true, decide_false, gu_ne, gu_eq, e2, e4, j1, j21]
      · have hw3 : wd g (gu g2 277 0 0 (nI 0)) := wd_gu hw2 rfl
        obtain ⟨g5, j1, j2, j3⟩ := href _ hw3
        have e2 := hry _ hw3 dyn (n, z) e (by omega)
        have hb := fun b (h1 : mB b = false) (h2 : b ≠ 441) (h3 : b ≠ 428) => (j3 b h1).trans ((gu_ne h3).trans (gu_ne h2))
        have h6 : ∀ b, mB b = false → b ≠ 441 → b ≠ 428 → gu g5 441 0 0 (nI 0) b = gu g2 277 0 0 (nI 0) b := fun b h1 h2 h3 => (gu_ne h2).trans (hb b h1 h2 h3)
        have hg2 : ∀ b, mA b = false → b ≠ 277 → gu g2 277 0 0 (nI 0) b = g b := fun b h1 h2 => (gu_ne h2).trans ((i3 b h1).trans (gu_ne h2))
        have hrp : iRp (gu g5 441 0 0 (nI 0)) := iRp_of gdL_nil (rA_nil (by rw [h6 277 rfl (by decide) (by decide), gu_eq])) (rB_nil gu_eq) (by rw [h6 356 rfl (by decide) (by decide), h6 439 rfl (by decide) (by decide), hg2 356 rfl (by decide), hg2 439 rfl (by decide)]; exact hP2) (by rw [h6 355 rfl (by decide) (by decide), hg2 355 rfl (by decide)]; exact hP3) (by rw [h6 352 rfl (by decide) (by decide), hg2 352 rfl (by decide)]; exact hP4)
        refine lw_mk h0 (v := (rsS (seS g sf m) (ftS g) (acS g [] i) r 0 []).1) (g1 := gu g2 277 0 0 (nI 0)) (n1 := n) (z1 := z) ?_ h0 (g2 := gu g5 441 0 0 (nI 0)) ?_ (Iv_of h0 hn hn' hz hW (wd_gu (wd_tr (wd_gu (wd_gu hw3 rfl) rfl) (fB_wd j3)) rfl) hrp)
        · have e5 := c90_n (g := g2) (dyn := dyn) (s := (n, z)) (D := e) (by omega) hc
          rw [en_18]
          simp (disch := omega) only [f18_0, f18_1, f18_2, f18_3, f18_4, f18_5, f18_6, f18_7, f18_8, f18_9, f18_10, f18_11, f18_12, f18_13, f18_14, f18_15, f18_16, f18_17, f18_18, f18_19, f18_20, f18_21, f18_22, f18_23, f18_24, f18_25, f18_26, f18_27, gf_1_2', gf_1_4', pf_77_0', gf_1_5', rc_1, rc_2, rc_35, rc_44, rc_51, rc_53, rc_77, rc_152, rc_155, rc_5, rc_47, rc_104, rc_38, ni_pred, kv_e, kx_e, kw_e, kn_e, ct_s, ct_v, cr_t, q_ri, q_rz0', q_rz1', q_rb, q_rv, Nat.add_sub_cancel_left, ni_m1lt, ni_m1le, ni_ltm1, ni_lem1, Nat.add_sub_cancel, nI_add, pk_mul, ni_sub, ni_lt, ni_le, ni_eq, ni_m1, ni_m1', nd_lt_t, nd_lt_f, nd_le_t, nd_le_f, nd_eq_t, nd_eq_f, bI_t', bI_f', bI_0', ↓reduceIte, not_true_eq_false, not_false_eq_true, reduceCtorEq, Bool.true_and, Bool.and_true, Bool.false_and, Bool.and_false, Bool.true_or, Bool.or_true, Bool.false_or, Bool.or_false, decide_true, decide_false, gu_ne, gu_eq, e1, e3, i1, e5]
        · rw [en_57]
          simp (disch := omega) only [f57_0, f57_1, f57_2, f57_3, f57_4, f57_5, f57_6, f57_7, f57_8, f57_9, f57_10, f57_11, f57_12, f57_13, f57_14, f57_15, f57_16, f57_17, f57_18, f57_19, f57_20, f57_21, f57_22, f57_23, f57_24, f57_25, f57_26, f57_27, f57_28, f57_29, f57_30, f57_31, f57_32, f57_33, f57_34, f57_35, f57_36, f57_37, f57_38, pf_158_41', pf_158_28', gf_158_41', rc_158, ni_pred, kv_e, kx_e, kw_e, kn_e, ct_s, ct_v, cr_t, q_ri, q_rz0', q_rz1', q_rb, q_rv, Nat.add_sub_cancel_left, ni_m1lt, ni_m1le, ni_ltm1, ni_lem1, Nat.add_sub_cancel, nI_add, pk_mul, ni_sub, ni_lt, ni_le, ni_eq, ni_m1, ni_m1', nd_lt_t, nd_lt_f, nd_le_t, nd_le_f, nd_eq_t, nd_eq_f, bI_t', bI_f', bI_0', ↓reduceIte, not_true_eq_false, not_false_eq_true, reduceCtorEq, Bool.true_and, Bool.and_true, Bool.false_and, Bool.and_false, Bool.true_or, Bool.or_true, Bool.false_or, Bool.or_false, decide_true, decide_false, gu_ne, gu_eq, e2, e4, j1, hc, if_false]
