/-! a rule as both sides see it; judge and looks -/
def kdS (g : Gs) (j : Nat) : Nat := (g 18 0 j).toNatClampNeg
def fdS (g : Gs) (r : Nat) : Nat := (g 164 0 r).toNatClampNeg
def elS (g : Gs) (r : Nat) : Bool := !decide (g 165 0 r = nI 0)
def xS (g : Gs) (r : Nat) : Nat := (g 167 0 r).toNatClampNeg
def isC (g : Gs) (r : Nat) : Bool := decide (g 166 0 r = nI 4)
def nDS (g : Gs) (r : Nat) : Nat := if isC g r then (g 170 0 (xS g r)).toNatClampNeg else 1
def dkS (g : Gs) (r p : Nat) : Nat := if isC g r then (g 171 0 (3 * xS g r + p)).toNatClampNeg else (g 166 0 r).toNatClampNeg
def daS (g : Gs) (r p : Nat) : Int32 := if isC g r then g 172 0 (3 * xS g r + p) else g 167 0 r
def dbS (g : Gs) (r p : Nat) : Int32 := if isC g r then g 173 0 (3 * xS g r + p) else g 168 0 r
def sgS (g : Gs) (r : Nat) : Bool := if isC g r then !decide (g 174 0 (xS g r) = nI 0) else true
def rvB (g : Gs) (i : Nat) : Prop := (isC g i = true ∧ g 166 0 i = nI 4 ∧ xS g i < 3 ∧ g 167 0 i = nI (xS g i) ∧ nDS g i ≤ 3 ∧ g 170 0 (xS g i) = nI (nDS g i) ∧ g 174 0 (xS g i) = bI (sgS g i) ∧ ∀ p, p < nDS g i → dkS g i p < 4 ∧ g 171 0 (3 * xS g i + p) = nI (dkS g i p) ∧ g 172 0 (3 * xS g i + p) = daS g i p ∧ g 173 0 (3 * xS g i + p) = dbS g i p) ∨ (isC g i = false ∧ nDS g i = 1 ∧ sgS g i = true ∧ dkS g i 0 < 4 ∧ g 166 0 i = nI (dkS g i 0) ∧ g 167 0 i = daS g i 0 ∧ g 168 0 i = dbS g i 0)
theorem bI_ne {b : Bool} {x : Int32} (h : x = bI b) : (!decide (x = nI 0)) = b := by
  rw [h]
  cases b <;> rfl
theorem rvw {f r n i : Nat} {g : Gs} {dyn : Nat → Option iv_C} (hf : f ≤ 14) (hR : iRs f r n g dyn) (hK : iCs n g dyn) (hi : i < r) : ∃ (rs : List Value) (a c m : Nat), dyn 36 = some (107, rs) ∧ rs[i]? = some (.ref a) ∧ 199 ≤ a ∧ m < 64 ∧ g 169 0 i = nI m ∧ dyn a = some (8, [.int (nI (fdS g i)), .int (bI (elS g i)), .ref c, .int (nI m)]) ∧ fdS g i < f ∧ g 164 0 i = nI (fdS g i) ∧ g 165 0 i = bI (elS g i) ∧ cmp g dyn c (nDS g i) (sgS g i) (dkS g i) (daS g i) (dbS g i) ∧ rvB g i := by
  obtain ⟨hr, _, _, rs, h36, hlen, hall⟩ := hR
  obtain ⟨a, ha, a1, a2, fd, m, c, e, hfd, hm1, hm2, hd, h164, h165, h169, h⟩ := hall i hi
  have e1 : fdS g i = fd := by
    unfold fdS
    rw [h164, nI_clamp (by omega)]
  have e2 : elS g i = e := bI_ne h165
  refine ⟨rs, a, c, m, h36, ha, a1, hm2, h169, by rw [e1, e2]; exact hd, by omega, by rw [e1]; exact h164, by rw [e2]; exact h165, ?_⟩
  rcases h with ⟨x, hx, hc, h166, h167⟩ | ⟨k, u, v, p, q, c1, c2, p1, p2, hq, hc, hp, h166, h167, h168⟩
  · have hx' : @LT.lt Nat instLTNat x 3 := hx
    have e3 : isC g i = true := by simp [isC, h166]
    have e4 : xS g i = x := by
      unfold xS
      rw [h167, nI_clamp (by omega)]
    obtain ⟨m', b, ps, k1, k2, k3, k4, k5, k6, k7, k8⟩ := hK x hx
    have e5 : nDS g i = m' := by
      simp only [nDS, e3, if_true, e4, k3]
      exact nI_clamp (by omega)
    have e6 : sgS g i = b := by
      simp only [sgS, e3, if_true, e4]
      exact bI_ne k5
    have hp : ∀ p, p < m' → ∃ q : Nat, ps[p]? = some (.ref q) ∧ 199 ≤ q ∧ dkS g i p < 4 ∧ dyn q = some (4, [.int (nI (dkS g i p)), .int (daS g i p), .int (dbS g i p)]) ∧ g 171 0 (3 * x + p) = nI (dkS g i p) ∧ g 172 0 (3 * x + p) = daS g i p ∧ g 173 0 (3 * x + p) = dbS g i p := by
      intro p hp
      obtain ⟨q, k, u, v, g1, ⟨d1, d2, d3, d4⟩, g3, g4, g5⟩ := k8 p hp
      have e7 : dkS g i p = k := by
        simp only [dkS, e3, if_true, e4, g3]
        exact nI_clamp (by omega)
      have e8 : daS g i p = u := by simp only [daS, e3, if_true, e4, g4]
      have e9 : dbS g i p = v := by simp only [dbS, e3, if_true, e4, g5]
      rw [e7, e8, e9]
      exact ⟨q, g1, d1, d3, d4, g3, g4, g5⟩
    rw [e5, e6]
    refine ⟨⟨k1, 39 + 2 * x, ps, isd_p hx, k6, fun j hj => ?_, .inl ⟨x, hx, hc, rfl, k2, k4⟩⟩, .inl ⟨e3, h166, by omega, by rw [e4]; exact h167, by omega, by rw [e4, e5]; exact k3, by rw [e4, e6]; exact k5, fun p hp' => ?_⟩⟩
    · obtain ⟨q, g1, d1, d3, d4, _⟩ := hp j hj
      exact ⟨q, g1, d1, d3, d4⟩
    · rw [e5] at hp'
      obtain ⟨q, g1, d1, d3, d4, g3, g4, g5⟩ := hp p hp'
      rw [e4]
      exact ⟨d3, g3, g4, g5⟩
  · obtain ⟨d1, d2, d3, d4⟩ := hq
    have e3 : isC g i = false := by
      simp only [isC, h166, decide_eq_false_iff_not]
      intro h
      rw [ni_eq (by omega) (by omega)] at h
      omega
    have e5 : nDS g i = 1 := by simp [nDS, e3]
    have e6 : sgS g i = true := by simp [sgS, e3]
    have e7 : ∀ p, dkS g i p = k := by
      intro p
      simp only [dkS, e3, Bool.false_eq_true, if_false, h166]
      exact nI_clamp (by omega)
    have e8 : ∀ p, daS g i p = u := fun p => by simp [daS, e3, h167]
    have e9 : ∀ p, dbS g i p = v := fun p => by simp [dbS, e3, h168]
    rw [e5, e6]
    refine ⟨⟨by omega, p, [.ref q], .inl p1, hp, fun j hj => ⟨q, by rw [show j = 0 by omega]; rfl, d1, by rw [e7]; exact d3, by rw [e7, e8, e9]; exact d4⟩, .inr ⟨c1, hc⟩⟩, .inr ⟨e3, e5, e6, by rw [e7]; exact d3, by rw [e7]; exact h166, by rw [e8]; exact h167, by rw [e9]; exact h168⟩⟩
def jS (br : Nat → Bool) (b : Bool) (mk : Int32 → Vi) : Nat → Nat → List Vi → Bool × List Vi
  | 0, _, l => (true, l)
  | k + 1, p, l => if br p then (if l.length < 24 then (if b then (true, l ++ [mk (-1)]) else jS br b mk k (p + 1) (l ++ [mk (nI p)])) else (false, l)) else jS br b mk k (p + 1) l
theorem jS_gd {br : Nat → Bool} {b : Bool} {mk : Int32 → Vi} (hm : ∀ p, gdV (mk p)) : ∀ (k p : Nat) (l : List Vi), gdL l → gdL (jS br b mk k p l).2 := by
  intro k
  induction k with
  | zero => exact fun p l h => h
  | succ k ih =>
    intro p l h
    simp only [jS]
    split
    · split
      · rename_i hl
        split
        · exact gdL_ap h hl (hm _)
        · exact ih _ _ (gdL_ap h hl (hm _))
      · exact h
    · exact ih _ _ h
theorem jS_cg {br br' : Nat → Bool} {b : Bool} {mk : Int32 → Vi} {m : Nat} (h : ∀ p, p < m → br p = br' p) : ∀ (k p : Nat) (l : List Vi), p + k ≤ m → jS br b mk k p l = jS br' b mk k p l := by
  intro k
  induction k with
  | zero => exact fun p l _ => rfl
  | succ k ih =>
    intro p l hk
    simp only [jS]
    rw [h p (by omega), ih (p + 1) _ (by omega), ih (p + 1) _ (by omega)]
def cdS (b : Bool) : Int32 := if b then nI 0 else -5
theorem le_cs {n : Nat} (h : n ≤ 24) : n < 24 ∨ n = 24 := by omega
theorem lp74 {dyn : Nat → Option iv_C} {s : Nat × Nat} {D ob r fd a : Nat} {pl val : Int32} {e8 m8 : Value} {c m : Nat} {b : Bool} {K : Nat → Nat} {A B : Nat → Int32} {tr : List (Nat × Nat)} (hD : 1 ≤ D) (ht : tr.length ≤ 15) (ha : 199 ≤ a) (hA : dyn a = some (8, [.int (nI fd), e8, .ref c, m8])) : ∀ (k p : Nat) (g : Gs) (l : List Vi) (u : Value), p + k = m → l.length ≤ 24 → cmp g dyn c m b K A B → rA g l → trA g tr → ∃ g', iv_V (iv_X D) mc_74 (some .int) 5 [.ref 155, .int (nI ob), .ref a, .int (nI r), .int pl, .int val, .ref c, .int (nI p), u] [] (gh g dyn, s) = some (some (.int (cdS (jS (fun p => brA (K p) (A p) (B p) val) b (fun p => (fcS (nI ob) (nI fd) pl (nI r) p val, tr)) k p l).1)), (gh g' dyn, s)) ∧ rA g' (jS (fun p => brA (K p) (A p) (B p) val) b (fun p => (fcS (nI ob) (nI fd) pl (nI r) p val, tr)) k p l).2 ∧ fA g g' := by
  intro k
  induction k with
  | zero =>
    intro p g l u hp hl hc hR hT
    have hm := hc.1
    obtain ⟨P, w0, w1, w2, w3, w4⟩ := cmp_w hc
    refine ⟨g, ?_, hR, fA_rf⟩
    simp (disch := omega) only [f74_0, f74_1, f74_2, f74_3, f74_4, f74_5, f74_6, f74_7, f74_8, f74_9, f74_10, f74_11, f74_12, f74_13, f74_14, f74_15, f74_16, f74_17, f74_18, f74_19, f74_20, f74_21, f74_22, f74_23, f74_24, f74_25, f74_26, f74_27, f74_28, f74_29, f74_30, f74_31, f74_32, f74_33, f74_34, f74_35, f74_36, f74_37, f74_38, f74_39, f74_40, f74_41, f74_42, f74_43, f74_44, gf_155_4', la_3, la_17, la_18, la_19, la_45, la_52, la_54, la_153, la_154, la_156, la_157, la_6, la_21, la_48, la_56, la_67, la_79, la_105, rc_1, rc_2, rc_35, rc_44, rc_51, rc_53, rc_77, rc_152, rc_155, rc_5, rc_47, rc_104, ni_pred, kv_e, kx_e, kw_e, kn_e, ct_s, ct_v, cr_t, q_ri, q_rz0', q_rz1', q_rb, q_rv, Nat.add_sub_cancel_left, ni_m1lt, ni_m1le, ni_ltm1, ni_lem1, Nat.add_sub_cancel, nI_add, pk_mul, ni_sub, ni_lt, ni_le, ni_eq, ni_m1, ni_m1', nd_lt_t, nd_lt_f, nd_le_t, nd_le_f, nd_eq_t, nd_eq_f, bI_t', bI_f', bI_0', ↓reduceIte, not_true_eq_false, not_false_eq_true, reduceCtorEq, Bool.true_and, Bool.and_true, Bool.false_and, Bool.and_false, Bool.true_or, Bool.or_true, Bool.false_or, Bool.or_false, decide_true, decide_false, gu_ne, gu_eq, w0, w1, w2, w3, jS, cdS, if_true]
  | succ k ih =>
    intro p g l u hp hl hc hR hT
    have hm := hc.1
    obtain ⟨P, w0, w1, w2, w3, w4⟩ := cmp_w hc
    obtain ⟨q, a1, a2, a3, a4⟩ := w4 p (by omega)
    have e1 := c80 (g := g) (dyn := dyn) (s := s) (x := val) hD a1 a2 a3
    cases hb : brA (K p) (A p) (B p) val with
    | false =>
      obtain ⟨g', i1, i2, i3⟩ := ih (p + 1) g l u (by omega) hl hc hR hT
      simp only [jS, hb, Bool.false_eq_true, if_false]
      refine ⟨g', ?_, i2, i3⟩
      rw [← i1, f74_5]
      simp (disch := omega) only [f74_0, f74_1, f74_2, f74_3, f74_4, f74_6, f74_7, f74_8, f74_9, f74_10, f74_11, f74_12, f74_13, f74_14, f74_15, f74_16, f74_17, f74_18, f74_19, f74_20, f74_21, f74_22, f74_23, f74_24, f74_25, f74_26, f74_27, f74_28, f74_29, f74_30, f74_31, f74_32, f74_33, f74_34, f74_35, f74_36, f74_37, f74_38, f74_39, f74_40, f74_41, f74_42, f74_43, f74_44, gf_155_4', la_3, la_17, la_18, la_19, la_45, la_52, la_54, la_153, la_154, la_156, la_157, la_6, la_21, la_48, la_56, la_67, la_79, la_105, rc_1, rc_2, rc_35, rc_44, rc_51, rc_53, rc_77, rc_152, rc_155, rc_5, rc_47, rc_104, ni_pred, kv_e, kx_e, kw_e, kn_e, ct_s, ct_v, cr_t, q_ri, q_rz0', q_rz1', q_rb, q_rv, Nat.add_sub_cancel_left, ni_m1lt, ni_m1le, ni_ltm1, ni_lem1, Nat.add_sub_cancel, nI_add, pk_mul, ni_sub, ni_lt, ni_le, ni_eq, ni_m1, ni_m1', nd_lt_t, nd_lt_f, nd_le_t, nd_le_f, nd_eq_t, nd_eq_f, bI_t', bI_f', bI_0', ↓reduceIte, not_true_eq_false, not_false_eq_true, reduceCtorEq, Bool.true_and, Bool.and_true, Bool.false_and, Bool.and_false, Bool.true_or, Bool.or_true, Bool.false_or, Bool.or_false, decide_true, decide_false, gu_ne, gu_eq, w0, w1, w2, w3, a4, e1, hb, a3, gd_gf, gd_rc, dgf_0, dgf_1, dgf_2, dgf_3, drc_s]
    | true =>
      rcases le_cs hl with h24 | h24
      · cases b with
        | true =>
          obtain ⟨g', i1, i2, i3⟩ := c89_y (g := g) (dyn := dyn) (s := s) (o := nI ob) (f := nI fd) (e := pl) (r := nI r) (p := -1) (v := val) hD h24 ht hR hT
          simp only [jS, hb, if_true, h24]
          refine ⟨g', ?_, i2, i3⟩
          have w2' : ∀ s st q, iv_gf (gh g' dyn, s) (.ref c :: st) 3 2 q = q (.int (bI true)) st := (cmp_w (cmp_fr hc (i3 238 rfl) (i3 239 rfl))).choose_spec.2.2.1
          simp (disch := omega) only [f74_0, f74_1, f74_2, f74_3, f74_4, f74_5, f74_6, f74_7, f74_8, f74_9, f74_10, f74_11, f74_12, f74_13, f74_14, f74_15, f74_16, f74_17, f74_18, f74_19, f74_20, f74_21, f74_22, f74_23, f74_24, f74_25, f74_26, f74_27, f74_28, f74_29, f74_30, f74_31, f74_32, f74_33, f74_34, f74_35, f74_36, f74_37, f74_38, f74_39, f74_40, f74_41, f74_42, f74_43, f74_44, gf_155_4', la_3, la_17, la_18, la_19, la_45, la_52, la_54, la_153, la_154, la_156, la_157, la_6, la_21, la_48, la_56, la_67, la_79, la_105, rc_1, rc_2, rc_35, rc_44, rc_51, rc_53, rc_77, rc_152, rc_155, rc_5, rc_47, rc_104, ni_pred, kv_e, kx_e, kw_e, kn_e, ct_s, ct_v, cr_t, q_ri, q_rz0', q_rz1', q_rb, q_rv, Nat.add_sub_cancel_left, ni_m1lt, ni_m1le, ni_ltm1, ni_lem1, Nat.add_sub_cancel, nI_add, pk_mul, ni_sub, ni_lt, ni_le, ni_eq, ni_m1, ni_m1', nd_lt_t, nd_lt_f, nd_le_t, nd_le_f, nd_eq_t, nd_eq_f, bI_t', bI_f', bI_0', ↓reduceIte, not_true_eq_false, not_false_eq_true, reduceCtorEq, Bool.true_and, Bool.and_true, Bool.false_and, Bool.and_false, Bool.true_or, Bool.or_true, Bool.false_or, Bool.or_false, decide_true, decide_false, gu_ne, gu_eq, w0, w1, w2, w3, w2', a4, e1, hb, a3, hA, i1, cdS, if_true, gd_gf, gd_rc, dgf_0, dgf_1, dgf_2, dgf_3, drc_s]
        | false =>
          obtain ⟨g1, i1, i2, i3⟩ := c89_y (g := g) (dyn := dyn) (s := s) (o := nI ob) (f := nI fd) (e := pl) (r := nI r) (p := nI p) (v := val) hD h24 ht hR hT
          have hc' := cmp_fr hc (i3 238 rfl) (i3 239 rfl)
          obtain ⟨g', j1, j2, j3⟩ := ih (p + 1) g1 _ (.int (nI p)) (by omega) (by rw [List.length_append]; simp only [List.length_singleton]; omega) hc' i2 (trA_fr hT (i3 352 rfl) (i3 153 rfl))
          simp only [jS, hb, if_true, h24, Bool.false_eq_true, if_false]
          refine ⟨g', ?_, j2, fA_tr i3 j3⟩
          have w2' : ∀ s st q, iv_gf (gh g1 dyn, s) (.ref c :: st) 3 2 q = q (.int (bI false)) st := (cmp_w hc').choose_spec.2.2.1
          rw [← j1, f74_5]
          simp (disch := omega) only [f74_0, f74_1, f74_2, f74_3, f74_4, f74_6, f74_7, f74_8, f74_9, f74_10, f74_11, f74_12, f74_13, f74_14, f74_15, f74_16, f74_17, f74_18, f74_19, f74_20, f74_21, f74_22, f74_23, f74_24, f74_25, f74_26, f74_27, f74_28, f74_29, f74_30, f74_31, f74_32, f74_33, f74_34, f74_35, f74_36, f74_37, f74_38, f74_39, f74_40, f74_41, f74_42, f74_43, f74_44, gf_155_4', la_3, la_17, la_18, la_19, la_45, la_52, la_54, la_153, la_154, la_156, la_157, la_6, la_21, la_48, la_56, la_67, la_79, la_105, rc_1, rc_2, rc_35, rc_44, rc_51, rc_53, rc_77, rc_152, rc_155, rc_5, rc_47, rc_104, ni_pred, kv_e, kx_e, kw_e, kn_e, ct_s, ct_v, cr_t, q_ri, q_rz0', q_rz1', q_rb, q_rv, Nat.add_sub_cancel_left, ni_m1lt, ni_m1le, ni_ltm1, ni_lem1, Nat.add_sub_cancel, nI_add, pk_mul, ni_sub, ni_lt, ni_le, ni_eq, ni_m1, ni_m1', nd_lt_t, nd_lt_f, nd_le_t, nd_le_f, nd_eq_t, nd_eq_f, bI_t', bI_f', bI_0', ↓reduceIte, not_true_eq_false, not_false_eq_true, reduceCtorEq, Bool.true_and, Bool.and_true, Bool.false_and, Bool.and_false, Bool.true_or, Bool.or_true, Bool.false_or, Bool.or_false, decide_true, decide_false, gu_ne, gu_eq, w0, w1, w2, w3, w2', a4, e1, hb, a3, hA, i1, gd_gf, gd_rc, dgf_0, dgf_1, dgf_2, dgf_3, drc_s]
      · have hN : g 277 0 0 = nI 24 := h24 ▸ hR.1
        have i1 := fun p => c89_f (g := g) (dyn := dyn) (s := s) (o := nI ob) (f := nI fd) (e := pl) (r := nI r) (p := p) (v := val) hD hN
        simp only [jS, hb, if_true, show ¬ l.length < 24 by omega, if_false]
        refine ⟨g, ?_, hR, fA_rf⟩
        cases b with
        | true => simp (disch := omega) only [f74_0, f74_1, f74_2, f74_3, f74_4, f74_5, f74_6, f74_7, f74_8, f74_9, f74_10, f74_11, f74_12, f74_13, f74_14, f74_15, f74_16, f74_17, f74_18, f74_19, f74_20, f74_21, f74_22, f74_23, f74_24, f74_25, f74_26, f74_27, f74_28, f74_29, f74_30, f74_31, f74_32, f74_33, f74_34, f74_35, f74_36, f74_37, f74_38, f74_39, f74_40, f74_41, f74_42, f74_43, f74_44, gf_155_4', la_3, la_17, la_18, la_19, la_45, la_52, la_54, la_153, la_154, la_156, la_157, la_6, la_21, la_48, la_56, la_67, la_79, la_105, rc_1, rc_2, rc_35, rc_44, rc_51, rc_53, rc_77, rc_152, rc_155, rc_5, rc_47, rc_104, ni_pred, kv_e, kx_e, kw_e, kn_e, ct_s, ct_v, cr_t, q_ri, q_rz0', q_rz1', q_rb, q_rv, Nat.add_sub_cancel_left, ni_m1lt, ni_m1le, ni_ltm1, ni_lem1, Nat.add_sub_cancel, nI_add, pk_mul, ni_sub, ni_lt, ni_le, ni_eq, ni_m1, ni_m1', nd_lt_t, nd_lt_f, nd_le_t, nd_le_f, nd_eq_t, nd_eq_f, bI_t', bI_f', bI_0', ↓reduceIte, not_true_eq_false, not_false_eq_true, reduceCtorEq, Bool.true_and, Bool.and_true, Bool.false_and, Bool.and_false, Bool.true_or, Bool.or_true, Bool.false_or, Bool.or_false, decide_true, decide_false, gu_ne, gu_eq, w0, w1, w2, w3, a4, e1, hb, a3, hA, i1, cdS, Bool.false_eq_true, if_false, gd_gf, gd_rc, dgf_0, dgf_1, dgf_2, dgf_3, drc_s]
        | false => simp (disch := omega) only [f74_0, f74_1, f74_2, f74_3, f74_4, f74_5, f74_6, f74_7, f74_8, f74_9, f74_10, f74_11, f74_12, f74_13, f74_14, f74_15, f74_16, f74_17, f74_18, f74_19, f74_20, f74_21, f74_22, f74_23, f74_24, f74_25, f74_26, f74_27, f74_28, f74_29, f74_30, f74_31, f74_32, f74_33, f74_34, f74_35, f74_36, f74_37, f74_38, f74_39, f74_40, f74_41, f74_42, f74_43, f74_44, gf_155_4', la_3, la_17, la_18, la_19, la_45, la_52, la_54, la_153, la_154, la_156, la_157, la_6, la_21, la_48, la_56, la_67, la_79, la_105, rc_1, rc_2, rc_35, rc_44, rc_51, rc_53, rc_77, rc_152, rc_155, rc_5, rc_47, rc_104, ni_pred, kv_e, kx_e, kw_e, kn_e, ct_s, ct_v, cr_t, q_ri, q_rz0', q_rz1', q_rb, q_rv, Nat.add_sub_cancel_left, ni_m1lt, ni_m1le, ni_ltm1, ni_lem1, Nat.add_sub_cancel, nI_add, pk_mul, ni_sub, ni_lt, ni_le, ni_eq, ni_m1, ni_m1', nd_lt_t, nd_lt_f, nd_le_t, nd_le_f, nd_eq_t, nd_eq_f, bI_t', bI_f', bI_0', ↓reduceIte, not_true_eq_false, not_false_eq_true, reduceCtorEq, Bool.true_and, Bool.and_true, Bool.false_and, Bool.and_false, Bool.true_or, Bool.or_true, Bool.false_or, Bool.or_false, decide_true, decide_false, gu_ne, gu_eq, w0, w1, w2, w3, a4, e1, hb, a3, hA, i1, cdS, Bool.false_eq_true, if_false, gd_gf, gd_rc, dgf_0, dgf_1, dgf_2, dgf_3, drc_s]
theorem c74 {g : Gs} {dyn : Nat → Option iv_C} {s : Nat × Nat} {D ob r fd a : Nat} {pl val : Int32} {e8 m8 : Value} {c m : Nat} {b : Bool} {K : Nat → Nat} {A B : Nat → Int32} {tr : List (Nat × Nat)} {l : List Vi} (hD : 2 ≤ D) (ht : tr.length ≤ 15) (ha : 199 ≤ a) (hA : dyn a = some (8, [.int (nI fd), e8, .ref c, m8])) (hl : l.length ≤ 24) (hc : cmp g dyn c m b K A B) (hR : rA g l) (hT : trA g tr) : ∃ g', iv_X D 74 [.ref 155, .int (nI ob), .ref a, .int (nI r), .int pl, .int val] (gh g dyn, s) = some (some (.int (cdS (jS (fun p => brA (K p) (A p) (B p) val) b (fun p => (fcS (nI ob) (nI fd) pl (nI r) p val, tr)) m 0 l).1)), (gh g' dyn, s)) ∧ rA g' (jS (fun p => brA (K p) (A p) (B p) val) b (fun p => (fcS (nI ob) (nI fd) pl (nI r) p val, tr)) m 0 l).2 ∧ fA g g' := by
  obtain ⟨d, rfl, hd⟩ := iv_dn hD
  obtain ⟨g', i1, i2, i3⟩ := lp74 (s := s) (ob := ob) (r := r) (pl := pl) (val := val) hd ht ha hA m 0 g l iv_un (by omega) hl hc hR hT
  refine ⟨g', ?_, i2, i3⟩
  rw [en_74, ← i1]
  simp (disch := omega) only [f74_0, f74_1, f74_2, f74_3, f74_4, f74_6, f74_7, f74_8, f74_9, f74_10, f74_11, f74_12, f74_13, f74_14, f74_15, f74_16, f74_17, f74_18, f74_19, f74_20, f74_21, f74_22, f74_23, f74_24, f74_25, f74_26, f74_27, f74_28, f74_29, f74_30, f74_31, f74_32, f74_33, f74_34, f74_35, f74_36, f74_37, f74_38, f74_39, f74_40, f74_41, f74_42, f74_43, f74_44, gf_155_4', la_3, la_17, la_18, la_19, la_45, la_52, la_54, la_153, la_154, la_156, la_157, la_6, la_21, la_48, la_56, la_67, la_79, la_105, rc_1, rc_2, rc_35, rc_44, rc_51, rc_53, rc_77, rc_152, rc_155, rc_5, rc_47, rc_104, ni_pred, kv_e, kx_e, kw_e, kn_e, ct_s, ct_v, cr_t, q_ri, q_rz0', q_rz1', q_rb, q_rv, Nat.add_sub_cancel_left, ni_m1lt, ni_m1le, ni_ltm1, ni_lem1, Nat.add_sub_cancel, nI_add, pk_mul, ni_sub, ni_lt, ni_le, ni_eq, ni_m1, ni_m1', nd_lt_t, nd_lt_f, nd_le_t, nd_le_f, nd_eq_t, nd_eq_f, bI_t', bI_f', bI_0', ↓reduceIte, not_true_eq_false, not_false_eq_true, reduceCtorEq, Bool.true_and, Bool.and_true, Bool.false_and, Bool.and_false, Bool.true_or, Bool.or_true, Bool.false_or, Bool.or_false, decide_true, decide_false, gu_ne, gu_eq, hA, gd_gf, gd_rc, dgf_0, dgf_1, dgf_2, dgf_3, drc_s]
theorem lp43 {g : Gs} {dyn : Nat → Option iv_C} {s : Nat × Nat} {D i fk : Nat} {e : Bool} (hD : 1 ≤ D) (hi : i < 24) (hf : fk < 4) (hE : g 165 0 i = bI e) (h166 : g 166 0 i = nI 4) (hx : xS g i < 3) (h167 : g 167 0 i = nI (xS g i)) (hm : nDS g i ≤ 3) (h170 : g 170 0 (xS g i) = nI (nDS g i)) (hp : ∀ p, p < nDS g i → dkS g i p < 4 ∧ g 171 0 (3 * xS g i + p) = nI (dkS g i p) ∧ g 172 0 (3 * xS g i + p) = daS g i p ∧ g 173 0 (3 * xS g i + p) = dbS g i p) : ∀ (k j : Nat) (b : Bool), j + k = nDS g i → iv_V (iv_X D) mc_43 (some .boolean) 29 [.ref 158, .int (nI i), .int (nI fk), .int (bI b), .int (nI j)] [] (gh g dyn, s) = some (some (.int (bI (b && alF (fun j => ftA (dkS g i j) fk e) k j))), (gh g dyn, s)) := by
  intro k
  induction k with
  | zero =>
    intro j b hj
    cases b <;> simp (disch := omega) only [f43_0, f43_1, f43_2, f43_3, f43_4, f43_5, f43_6, f43_7, f43_8, f43_9, f43_10, f43_11, f43_12, f43_13, f43_14, f43_15, f43_16, f43_17, f43_18, f43_19, f43_20, f43_21, f43_22, f43_23, f43_24, f43_25, f43_26, f43_27, f43_28, f43_29, f43_30, f43_31, f43_32, f43_33, f43_34, f43_35, f43_36, f43_37, f43_38, f43_39, f43_40, f43_41, f43_42, f43_43, f43_44, f43_45, f43_46, f43_47, f43_48, f43_49, f43_50, f43_51, f43_52, f43_53, f43_54, f43_55, f43_56, f43_57, f43_58, f43_59, f43_60, f43_61, f43_62, f43_63, f43_64, f43_65, gf_158_4', la_161, gf_158_8', la_164, gf_158_10', la_166, gf_158_9', la_165, gf_158_14', la_170, gf_158_11', la_167, gf_158_15', la_171, ni_pred, kv_e, kx_e, kw_e, kn_e, ct_s, ct_v, cr_t, q_ri, q_rz0', q_rz1', q_rb, q_rv, Nat.add_sub_cancel_left, ni_m1lt, ni_m1le, ni_ltm1, ni_lem1, Nat.add_sub_cancel, nI_add, pk_mul, ni_sub, ni_lt, ni_le, ni_eq, ni_m1, ni_m1', nd_lt_t, nd_lt_f, nd_le_t, nd_le_f, nd_eq_t, nd_eq_f, bI_t', bI_f', bI_0', ↓reduceIte, not_true_eq_false, not_false_eq_true, reduceCtorEq, Bool.true_and, Bool.and_true, Bool.false_and, Bool.and_false, Bool.true_or, Bool.or_true, Bool.false_or, Bool.or_false, decide_true, decide_false, gu_ne, gu_eq, h166, h167, h170, alF]
  | succ k ih =>
    intro j b hj
    obtain ⟨d1, d2, d3, d4⟩ := hp j (by omega)
    have e1 := m42 (w := (gh g dyn, s)) (e := e) hD d1 hf
    rw [f43_29]
    cases b with
    | false =>
      have e2 := ih (j + 1) false (by omega)
      simp only [bI_f', Bool.false_and] at e2
      simp (disch := omega) only [f43_0, f43_1, f43_2, f43_3, f43_4, f43_5, f43_6, f43_7, f43_8, f43_9, f43_10, f43_11, f43_12, f43_13, f43_14, f43_15, f43_16, f43_17, f43_18, f43_19, f43_20, f43_21, f43_22, f43_23, f43_24, f43_25, f43_26, f43_27, f43_28, f43_30, f43_31, f43_32, f43_33, f43_34, f43_35, f43_36, f43_37, f43_38, f43_39, f43_40, f43_41, f43_42, f43_43, f43_44, f43_45, f43_46, f43_47, f43_48, f43_49, f43_50, f43_51, f43_52, f43_53, f43_54, f43_55, f43_56, f43_57, f43_58, f43_59, f43_60, f43_61, f43_62, f43_63, f43_64, f43_65, gf_158_4', la_161, gf_158_8', la_164, gf_158_10', la_166, gf_158_9', la_165, gf_158_14', la_170, gf_158_11', la_167, gf_158_15', la_171, ni_pred, kv_e, kx_e, kw_e, kn_e, ct_s, ct_v, cr_t, q_ri, q_rz0', q_rz1', q_rb, q_rv, Nat.add_sub_cancel_left, ni_m1lt, ni_m1le, ni_ltm1, ni_lem1, Nat.add_sub_cancel, nI_add, pk_mul, ni_sub, ni_lt, ni_le, ni_eq, ni_m1, ni_m1', nd_lt_t, nd_lt_f, nd_le_t, nd_le_f, nd_eq_t, nd_eq_f, bI_t', bI_f', bI_0', ↓reduceIte, not_true_eq_false, not_false_eq_true, reduceCtorEq, Bool.true_and, Bool.and_true, Bool.false_and, Bool.and_false, Bool.true_or, Bool.or_true, Bool.false_or, Bool.or_false, decide_true, decide_false, gu_ne, gu_eq, h166, h167, h170, hE, alF, e2]
    | true =>
      cases hb : ftA (dkS g i j) fk e with
      | false =>
        have e2 := ih (j + 1) false (by omega)
        simp only [bI_f', Bool.false_and] at e2
        simp (disch := omega) only [f43_0, f43_1, f43_2, f43_3, f43_4, f43_5, f43_6, f43_7, f43_8, f43_9, f43_10, f43_11, f43_12, f43_13, f43_14, f43_15, f43_16, f43_17, f43_18, f43_19, f43_20, f43_21, f43_22, f43_23, f43_24, f43_25, f43_26, f43_27, f43_28, f43_30, f43_31, f43_32, f43_33, f43_34, f43_35, f43_36, f43_37, f43_38, f43_39, f43_40, f43_41, f43_42, f43_43, f43_44, f43_45, f43_46, f43_47, f43_48, f43_49, f43_50, f43_51, f43_52, f43_53, f43_54, f43_55, f43_56, f43_57, f43_58, f43_59, f43_60, f43_61, f43_62, f43_63, f43_64, f43_65, gf_158_4', la_161, gf_158_8', la_164, gf_158_10', la_166, gf_158_9', la_165, gf_158_14', la_170, gf_158_11', la_167, gf_158_15', la_171, ni_pred, kv_e, kx_e, kw_e, kn_e, ct_s, ct_v, cr_t, q_ri, q_rz0', q_rz1', q_rb, q_rv, Nat.add_sub_cancel_left, ni_m1lt, ni_m1le, ni_ltm1, ni_lem1, Nat.add_sub_cancel, nI_add, pk_mul, ni_sub, ni_lt, ni_le, ni_eq, ni_m1, ni_m1', nd_lt_t, nd_lt_f, nd_le_t, nd_le_f, nd_eq_t, nd_eq_f, bI_t', bI_f', bI_0', ↓reduceIte, not_true_eq_false, not_false_eq_true, reduceCtorEq, Bool.true_and, Bool.and_true, Bool.false_and, Bool.and_false, Bool.true_or, Bool.or_true, Bool.false_or, Bool.or_false, decide_true, decide_false, gu_ne, gu_eq, h166, h167, h170, hE, alF, e1, d2, hb, e2]
      | true =>
        have e2 := ih (j + 1) true (by omega)
        simp only [bI_t', Bool.true_and] at e2
        simp (disch := omega) only [f43_0, f43_1, f43_2, f43_3, f43_4, f43_5, f43_6, f43_7, f43_8, f43_9, f43_10, f43_11, f43_12, f43_13, f43_14, f43_15, f43_16, f43_17, f43_18, f43_19, f43_20, f43_21, f43_22, f43_23, f43_24, f43_25, f43_26, f43_27, f43_28, f43_30, f43_31, f43_32, f43_33, f43_34, f43_35, f43_36, f43_37, f43_38, f43_39, f43_40, f43_41, f43_42, f43_43, f43_44, f43_45, f43_46, f43_47, f43_48, f43_49, f43_50, f43_51, f43_52, f43_53, f43_54, f43_55, f43_56, f43_57, f43_58, f43_59, f43_60, f43_61, f43_62, f43_63, f43_64, f43_65, gf_158_4', la_161, gf_158_8', la_164, gf_158_10', la_166, gf_158_9', la_165, gf_158_14', la_170, gf_158_11', la_167, gf_158_15', la_171, ni_pred, kv_e, kx_e, kw_e, kn_e, ct_s, ct_v, cr_t, q_ri, q_rz0', q_rz1', q_rb, q_rv, Nat.add_sub_cancel_left, ni_m1lt, ni_m1le, ni_ltm1, ni_lem1, Nat.add_sub_cancel, nI_add, pk_mul, ni_sub, ni_lt, ni_le, ni_eq, ni_m1, ni_m1', nd_lt_t, nd_lt_f, nd_le_t, nd_le_f, nd_eq_t, nd_eq_f, bI_t', bI_f', bI_0', ↓reduceIte, not_true_eq_false, not_false_eq_true, reduceCtorEq, Bool.true_and, Bool.and_true, Bool.false_and, Bool.and_false, Bool.true_or, Bool.or_true, Bool.false_or, Bool.or_false, decide_true, decide_false, gu_ne, gu_eq, h166, h167, h170, hE, alF, e1, d2, hb, e2]
theorem m43 {g : Gs} {dyn : Nat → Option iv_C} {s : Nat × Nat} {D i fk fd : Nat} {e : Bool} (hD : 2 ≤ D) (hi : i < 24) (hf : fk < 4) (hfd : fd < 14) (hF : g 164 0 i = nI fd) (hS : g 161 0 fd = nI fk) (hE : g 165 0 i = bI e) (h : rvB g i) : iv_X D 43 [.ref 158, .int (nI i)] (gh g dyn, s) = some (some (.int (bI (alF (fun j => ftA (dkS g i j) fk e) (nDS g i) 0))), (gh g dyn, s)) := by
  obtain ⟨d, rfl, hd⟩ := iv_dn hD
  rw [en_43]
  rcases h with ⟨_, h166, hx, h167, hm, h170, h174, hp⟩ | ⟨_, hn, _, hk, h166, _, _⟩
  · have e1 := lp43 (D := d) (dyn := dyn) (s := s) hd hi hf hE h166 hx h167 hm h170 hp (nDS g i) 0 true (by omega)
    simp only [bI_t', Bool.true_and] at e1
    simp (disch := omega) only [f43_0, f43_1, f43_2, f43_3, f43_4, f43_5, f43_6, f43_7, f43_8, f43_9, f43_10, f43_11, f43_12, f43_13, f43_14, f43_15, f43_16, f43_17, f43_18, f43_19, f43_20, f43_21, f43_22, f43_23, f43_24, f43_25, f43_26, f43_27, f43_28, f43_30, f43_31, f43_32, f43_33, f43_34, f43_35, f43_36, f43_37, f43_38, f43_39, f43_40, f43_41, f43_42, f43_43, f43_44, f43_45, f43_46, f43_47, f43_48, f43_49, f43_50, f43_51, f43_52, f43_53, f43_54, f43_55, f43_56, f43_57, f43_58, f43_59, f43_60, f43_61, f43_62, f43_63, f43_64, f43_65, gf_158_4', la_161, gf_158_8', la_164, gf_158_10', la_166, gf_158_9', la_165, gf_158_14', la_170, gf_158_11', la_167, gf_158_15', la_171, ni_pred, kv_e, kx_e, kw_e, kn_e, ct_s, ct_v, cr_t, q_ri, q_rz0', q_rz1', q_rb, q_rv, Nat.add_sub_cancel_left, ni_m1lt, ni_m1le, ni_ltm1, ni_lem1, Nat.add_sub_cancel, nI_add, pk_mul, ni_sub, ni_lt, ni_le, ni_eq, ni_m1, ni_m1', nd_lt_t, nd_lt_f, nd_le_t, nd_le_f, nd_eq_t, nd_eq_f, bI_t', bI_f', bI_0', ↓reduceIte, not_true_eq_false, not_false_eq_true, reduceCtorEq, Bool.true_and, Bool.and_true, Bool.false_and, Bool.and_false, Bool.true_or, Bool.or_true, Bool.false_or, Bool.or_false, decide_true, decide_false, gu_ne, gu_eq, h166, hF, hS, e1]
  · have e1 := m42 (w := (gh g dyn, s)) (e := e) hd hk hf
    simp (disch := omega) only [f43_0, f43_1, f43_2, f43_3, f43_4, f43_5, f43_6, f43_7, f43_8, f43_9, f43_10, f43_11, f43_12, f43_13, f43_14, f43_15, f43_16, f43_17, f43_18, f43_19, f43_20, f43_21, f43_22, f43_23, f43_24, f43_25, f43_26, f43_27, f43_28, f43_30, f43_31, f43_32, f43_33, f43_34, f43_35, f43_36, f43_37, f43_38, f43_39, f43_40, f43_41, f43_42, f43_43, f43_44, f43_45, f43_46, f43_47, f43_48, f43_49, f43_50, f43_51, f43_52, f43_53, f43_54, f43_55, f43_56, f43_57, f43_58, f43_59, f43_60, f43_61, f43_62, f43_63, f43_64, f43_65, gf_158_4', la_161, gf_158_8', la_164, gf_158_10', la_166, gf_158_9', la_165, gf_158_14', la_170, gf_158_11', la_167, gf_158_15', la_171, ni_pred, kv_e, kx_e, kw_e, kn_e, ct_s, ct_v, cr_t, q_ri, q_rz0', q_rz1', q_rb, q_rv, Nat.add_sub_cancel_left, ni_m1lt, ni_m1le, ni_ltm1, ni_lem1, Nat.add_sub_cancel, nI_add, pk_mul, ni_sub, ni_lt, ni_le, ni_eq, ni_m1, ni_m1', nd_lt_t, nd_lt_f, nd_le_t, nd_le_f, nd_eq_t, nd_eq_f, bI_t', bI_f', bI_0', ↓reduceIte, not_true_eq_false, not_false_eq_true, reduceCtorEq, Bool.true_and, Bool.and_true, Bool.false_and, Bool.and_false, Bool.true_or, Bool.or_true, Bool.false_or, Bool.or_false, decide_true, decide_false, gu_ne, gu_eq, h166, hF, hS, hE, e1, hn, alF]
