/-! the rules of an object: what is tried, and RuleGraph's way -/
def mv (b : Nat) : Bool := decide (b = 52 ∨ b = 251 ∨ b = 79 ∨ b = 105 ∨ b = 304 ∨ b = 277 ∨ b = 153 ∨ b = 352 ∨ b = 156 ∨ b = 157 ∨ b = 355 ∨ b = 356 ∨ b = 154 ∨ b = 278 ∨ b = 428 ∨ b = 441 ∨ b = 439 ∨ b = 447 ∨ (183 ≤ b ∧ b ≤ 198))
/-- what a check reads is as it was -/
def wd (g0 g : Gs) : Prop := ∀ b, mv b = false → g b = g0 b
theorem wd_rf {g : Gs} : wd g g := fun _ _ => rfl
theorem wd_tr {g0 g g' : Gs} (h : wd g0 g) (h' : wd g g') : wd g0 g' := fun b hb => (h' b hb).trans (h b hb)
theorem fA_wd {g g' : Gs} (h : fA g g') : wd g g' := fun b hb => h b (by
  simp only [mv, mA, decide_eq_false_iff_not] at hb ⊢
  omega)
theorem fB_wd {g g' : Gs} (h : fB g g') : wd g g' := fun b hb => h b (by
  simp only [mv, mB, decide_eq_false_iff_not] at hb ⊢
  omega)
def Wd (t f r p n : Nat) (g : Gs) (dyn : Nat → Option iv_C) : Prop := iT t g ∧ iFd t f g ∧ iCl g ∧ iSq g ∧ iOr g ∧ iSt t f p g ∧ iRs f r n g dyn ∧ iCs n g dyn
theorem wd_wL {g0 g : Gs} (h : wd g0 g) : wL g0 g := ⟨h 161 rfl, h 164 rfl, h 166 rfl, h 167 rfl, h 168 rfl, h 170 rfl, h 171 rfl, h 172 rfl, h 173 rfl, h 174 rfl, h 181 rfl, h 182 rfl⟩
theorem Wd_fr {t f r p n : Nat} {g g' : Gs} {dyn : Nat → Option iv_C} (h : Wd t f r p n g dyn) (e : wd g g') : Wd t f r p n g' dyn := by
  obtain ⟨hT, hF, hC, hS, hO, hV, hR, hK⟩ := h
  exact ⟨(iT_fr hT (e 200 rfl) (e 400 rfl) (e 159 rfl) (e 3 rfl)), (iFd_fr hF (e 203 rfl) (e 402 rfl) (e 17 rfl) (e 160 rfl) (e 18 rfl) (e 161 rfl) (e 19 rfl) (e 162 rfl) (e 21 rfl) (e 163 rfl)), (iCl_fr hC (e 45 rfl) (e 175 rfl)), (iSq_fr hS (e 247 rfl) (e 176 rfl) (e 48 rfl) (e 177 rfl)), (iOr_fr hO (e 205 rfl) (e 178 rfl) (e 6 rfl) (e 179 rfl)), (iSt_fr hV (e 253 rfl) (e 424 rfl) (e 54 rfl) (e 180 rfl) (e 18 rfl) (e 56 rfl) (e 181 rfl) (e 67 rfl) (e 182 rfl)), iRs_fr hR (Nat.le_refl _) (Nat.le_refl _) (fun _ _ _ => rfl) rfl (e 235 rfl) (e 407 rfl) (e 164 rfl) (e 165 rfl) (e 166 rfl) (e 167 rfl) (e 168 rfl) (e 169 rfl), iCs_fr hK (Nat.le_refl _) (fun _ _ _ => rfl) rfl rfl rfl (e 238 rfl) (e 170 rfl) (e 239 rfl) (e 174 rfl) (e 171 rfl) (e 172 rfl) (e 173 rfl)⟩
def clS (g : Gs) (ob : Nat) : Nat := (g 54 0 ob).toNatClampNeg
def owS (g : Gs) (j : Nat) : Nat := (g 17 0 j).toNatClampNeg
def hasS (g : Gs) (ob j : Nat) : Bool := tb (g 3 0 (clS g ob)) (owS g j)
def szS (g : Gs) (ob j : Nat) : Nat := if 2 ≤ kdS g j then (g 56 ob j).toNatClampNeg else 0
def brS (g : Gs) (r : Nat) (val : Int32) (p : Nat) : Bool := brA (dkS g r p) (daS g r p) (dbS g r p) val
def mkS (g : Gs) (tr : List (Nat × Nat)) (ob r : Nat) (pl val p : Int32) : Vi := (fcS (nI ob) (nI (fdS g r)) pl (nI r) p val, tr)
def j1S (g : Gs) (tr : List (Nat × Nat)) (ob r : Nat) (pl val : Int32) (l : List Vi) : Bool × List Vi := jS (brS g r val) (sgS g r) (mkS g tr ob r pl val) (nDS g r) 0 l
def plS (rec : Nat → List Vi → Bool × List Vi) : Nat → Nat → List Vi → Bool × List Vi
  | 0, _, l => (true, l)
  | k + 1, q, l => if (rec q l).1 then plS rec k (q + 1) (rec q l).2 else (false, (rec q l).2)
def jeS (g : Gs) (tr : List (Nat × Nat)) (ob r q : Nat) (l : List Vi) : Bool × List Vi := j1S g tr ob r (nI q) (g 67 ob (fdS g r * 3 + q)) l
def acS (g : Gs) (tr : List (Nat × Nat)) (ob r : Nat) (l : List Vi) : Bool × List Vi := if elS g r then plS (jeS g tr ob r) (szS g ob (fdS g r)) 0 l else j1S g tr ob r (-1) (g 56 ob (fdS g r)) l
def ftS (g : Gs) (r : Nat) : Bool := alF (fun j => ftA (dkS g r j) (kdS g (fdS g r)) (elS g r)) (nDS g r) 0
def seS (g : Gs) (sf : Nat → Bool) (h r : Nat) : Bool := sf (fdS g r) && !decide ((g 169 0 r &&& g 45 0 h) = nI 0)
def rsS (sel fit : Nat → Bool) (act : Nat → List Vi → Bool × List Vi) : Nat → Nat → List Vi → Int32 × List Vi
  | 0, _, l => (nI 0, l)
  | k + 1, r, l => if sel r then (if fit r then (if (act r l).1 then rsS sel fit act k (r + 1) (act r l).2 else (-5, (act r l).2)) else (-4, l)) else rsS sel fit act k (r + 1) l
theorem alF_all {P : Nat → Bool} : ∀ (k j : Nat), alF P k j = true → ∀ i, j ≤ i → i < j + k → P i = true := by
  intro k
  induction k with
  | zero => exact fun j _ i h1 h2 => absurd h2 (by omega)
  | succ k ih =>
    intro j h i h1 h2
    simp only [alF, Bool.and_eq_true] at h
    by_cases hi : i = j
    · rw [hi]
      exact h.1
    · exact ih (j + 1) h.2 i (by omega) (by omega)
theorem mk_gd {g : Gs} {tr : List (Nat × Nat)} {ob r : Nat} {pl val : Int32} (ht : gdT tr) (hf : fdS g r < 14) (hp : pl = -1 ∨ ∃ k, k < 3 ∧ pl = nI k) (p : Int32) : gdV (mkS g tr ob r pl val p) := ⟨⟨fdS g r, hf, rfl⟩, hp, ht.1, ht.2⟩
theorem j1_gd {g : Gs} {tr : List (Nat × Nat)} {ob r : Nat} {pl val : Int32} {l : List Vi} (ht : gdT tr) (hf : fdS g r < 14) (hp : pl = -1 ∨ ∃ k, k < 3 ∧ pl = nI k) (h : gdL l) : gdL (j1S g tr ob r pl val l).2 := jS_gd (mk_gd ht hf hp) _ _ _ h
theorem pl_gd {g : Gs} {tr : List (Nat × Nat)} {ob r : Nat} (ht : gdT tr) (hf : fdS g r < 14) : ∀ (k q : Nat) (l : List Vi), q + k ≤ 3 → gdL l → gdL (plS (jeS g tr ob r) k q l).2 := by
  intro k
  induction k with
  | zero => exact fun q l _ h => h
  | succ k ih =>
    intro q l hq h
    have h1 : gdL (jeS g tr ob r q l).2 := j1_gd ht hf (.inr ⟨q, by omega, rfl⟩) h
    simp only [plS]
    split
    · exact ih _ _ (by omega) h1
    · exact h1
theorem ac_gd {g : Gs} {tr : List (Nat × Nat)} {ob r : Nat} {l : List Vi} (ht : gdT tr) (hf : fdS g r < 14) (hz : szS g ob (fdS g r) ≤ 3) (h : gdL l) : gdL (acS g tr ob r l).2 := by
  unfold acS
  split
  · exact pl_gd ht hf _ _ _ (by omega) h
  · exact j1_gd ht hf (.inl rfl) h
theorem rs_gd {sel fit : Nat → Bool} {act : Nat → List Vi → Bool × List Vi} {R : Nat} (ha : ∀ r l, r < R → gdL l → gdL (act r l).2) : ∀ (k r : Nat) (l : List Vi), r + k ≤ R → gdL l → gdL (rsS sel fit act k r l).2 := by
  intro k
  induction k with
  | zero => exact fun r l _ h => h
  | succ k ih =>
    intro r l hr h
    simp only [rsS]
    split
    · split
      · split
        · exact ih _ _ (by omega) (ha r l (by omega) h)
        · exact ha r l (by omega) h
      · exact h
    · exact ih _ _ (by omega) h
/-- a field of an object: its kind, and the value on both sides -/
theorem vl_cs {t f p : Nat} {g : Gs} {i j : Nat} (hF : iFd t f g) (hV : iSt t f p g) (hi : i < 10) (hj : j < f) : ∃ k, k < 4 ∧ kdS g j = k ∧ g 18 0 j = nI k ∧ g 161 0 j = nI k ∧ ((k = 0 ∧ szS g i j = 0 ∧ g 181 0 (14 * i + j) = g 56 i j) ∨ (k = 1 ∧ szS g i j = 0 ∧ ((g 56 i j = -1 ∧ g 181 0 (14 * i + j) = nI 0) ∨ ∃ v, v < p ∧ g 56 i j = nI v ∧ g 181 0 (14 * i + j) = nI (v + 1))) ∨ (2 ≤ k ∧ ((szS g i j = 0 ∧ g 56 i j = -1 ∧ g 181 0 (14 * i + j) = nI 0) ∨ (szS g i j ≤ 3 ∧ g 56 i j = nI (szS g i j) ∧ g 181 0 (14 * i + j) = nI (szS g i j + 1) ∧ ∀ e, e < szS g i j → g 182 0 (3 * (14 * i + j) + e) = g 67 i (j * 3 + e) ∧ (k = 3 → ∃ w, w < p ∧ g 67 i (j * 3 + e) = nI w))))) := by
  obtain ⟨_, _, _, hF3, _⟩ := hF
  obtain ⟨_, ⟨k, b, hk, h18, h161, _, _, _⟩, _⟩ := hF3 j hj
  obtain ⟨hp, _, _, _, hV4, _⟩ := hV
  have e1 : kdS g j = k := by
    unfold kdS
    rw [h18, nI_clamp (by omega)]
  refine ⟨k, hk, e1, h18, h161, ?_⟩
  have hz : szS g i j = if 2 ≤ k then (g 56 i j).toNatClampNeg else 0 := by
    unfold szS
    rw [e1]
  rcases hV4 i hi j hj with ⟨h1, h2⟩ | ⟨h1, h2⟩ | ⟨k', hk', h1, h2⟩
  · rw [h18, ni_eq (by omega) (by omega)] at h1
    subst h1
    exact .inl ⟨rfl, by rw [hz]; rfl, h2⟩
  · rw [h18, ni_eq (by omega) (by omega)] at h1
    subst h1
    exact .inr (.inl ⟨rfl, by rw [hz]; rfl, h2⟩)
  · rw [h18, ni_eq (by omega) (by omega)] at h1
    subst h1
    refine .inr (.inr ⟨by omega, ?_⟩)
    rw [if_pos (by omega)] at hz
    rcases h2 with ⟨h2, h3⟩ | ⟨v, hv, h2, h3, h4⟩
    · exact .inl ⟨by rw [hz, h2]; rfl, h2, h3⟩
    · have e2 : szS g i j = v := by rw [hz, h2, nI_clamp (by omega)]
      rw [e2]
      exact .inr ⟨hv, h2, h3, h4⟩
theorem n5_0 : ((-5 : Int32) = nI 0) = False := eq_false (by decide)
theorem n4_0 : ((-4 : Int32) = nI 0) = False := eq_false (by decide)
theorem n3_0 : ((-3 : Int32) = nI 0) = False := eq_false (by decide)
theorem n1_lt : ((-1 : Int32) < nI 0) = True := eq_true (by decide)
theorem c115 {g : Gs} {dyn : Nat → Option iv_C} {s : Nat × Nat} {D ob j q : Nat} (hD : 1 ≤ D) (ho : ob < 10) (hj : j < 14) (hq : q < 3) : iv_X D 115 [.ref 53, .int (nI ob), .int (nI j), .int (nI q)] (gh g dyn, s) = some (some (.int (g 67 ob (j * 3 + q))), (gh g dyn, s)) := by
  obtain ⟨d, rfl, hd⟩ := iv_dn hD
  rw [en_115]
  simp (disch := omega) only [f115_0, f115_1, f115_2, f115_3, f115_4, f115_5, f115_6, f115_7, f115_8, f115_9, f115_10, gf_53_3', la_3, la_17, la_18, la_19, la_45, la_52, la_54, la_153, la_154, la_156, la_157, la_6, la_21, la_48, la_56, la_67, la_79, la_105, al_4', al_20', al_37', al_46', al_55', al_66', al_78', al_103', ni_pred, kv_e, kx_e, kw_e, kn_e, ct_s, ct_v, cr_t, q_ri, q_rz0', q_rz1', q_rb, q_rv, Nat.add_sub_cancel_left, ni_m1lt, ni_m1le, ni_ltm1, ni_lem1, Nat.add_sub_cancel, nI_add, pk_mul, ni_sub, ni_lt, ni_le, ni_eq, ni_m1, ni_m1', nd_lt_t, nd_lt_f, nd_le_t, nd_le_f, nd_eq_t, nd_eq_f, bI_t', bI_f', bI_0', ↓reduceIte, not_true_eq_false, not_false_eq_true, reduceCtorEq, Bool.true_and, Bool.and_true, Bool.false_and, Bool.and_false, Bool.true_or, Bool.or_true, Bool.false_or, Bool.or_false, decide_true, decide_false, gu_ne, gu_eq]
theorem jd74 {g0 g : Gs} {dyn : Nat → Option iv_C} {s : Nat × Nat} {D ob r a c : Nat} {pl val : Int32} {e8 m8 : Value} {tr : List (Nat × Nat)} {l : List Vi} (hD : 2 ≤ D) (ht : gdT tr) (ha : 199 ≤ a) (hA : dyn a = some (8, [.int (nI (fdS g0 r)), e8, .ref c, m8])) (hl : gdL l) (hc : cmp g0 dyn c (nDS g0 r) (sgS g0 r) (dkS g0 r) (daS g0 r) (dbS g0 r)) (hw : wd g0 g) (hR : rA g l) (hT : trA g tr) : ∃ g', iv_X D 74 [.ref 155, .int (nI ob), .ref a, .int (nI r), .int pl, .int val] (gh g dyn, s) = some (some (.int (cdS (j1S g0 tr ob r pl val l).1)), (gh g' dyn, s)) ∧ rA g' (j1S g0 tr ob r pl val l).2 ∧ fA g g' := c74 hD ht.1 ha hA hl.1 (cmp_fr hc (hw 238 rfl) (hw 239 rfl)) hR hT
theorem lp73 {g0 : Gs} {dyn : Nat → Option iv_C} {s : Nat × Nat} {D ob r a c sz : Nat} {v5 : Int32} {e8 m8 : Value} {tr : List (Nat × Nat)} (hD : 2 ≤ D) (ht : gdT tr) (ho : ob < 10) (hf : fdS g0 r < 14) (hz : sz ≤ 3) (ha : 199 ≤ a) (hA : dyn a = some (8, [.int (nI (fdS g0 r)), e8, .ref c, m8])) (hc : cmp g0 dyn c (nDS g0 r) (sgS g0 r) (dkS g0 r) (daS g0 r) (dbS g0 r)) : ∀ (k q : Nat) (g : Gs) (l : List Vi), q + k = sz → gdL l → wd g0 g → rA g l → trA g tr → ∃ g', iv_V (iv_X D) mc_73 (some .int) 48 [.ref 155, .int (nI ob), .ref a, .int (nI r), .int (nI (fdS g0 r)), .int v5, .int (nI sz), .int (nI 0), .int (nI q)] [] (gh g dyn, s) = some (some (.int (cdS (plS (jeS g0 tr ob r) k q l).1)), (gh g' dyn, s)) ∧ rA g' (plS (jeS g0 tr ob r) k q l).2 ∧ fA g g' := by
  intro k
  induction k with
  | zero =>
    intro q g l hq hl hw hR hT
    refine ⟨g, ?_, hR, fA_rf⟩
    simp (disch := omega) only [f73_0, f73_1, f73_2, f73_3, f73_4, f73_5, f73_6, f73_7, f73_8, f73_9, f73_10, f73_11, f73_12, f73_13, f73_14, f73_15, f73_16, f73_17, f73_18, f73_19, f73_20, f73_21, f73_22, f73_23, f73_24, f73_25, f73_26, f73_27, f73_28, f73_29, f73_30, f73_31, f73_32, f73_33, f73_34, f73_35, f73_36, f73_37, f73_38, f73_39, f73_40, f73_41, f73_42, f73_43, f73_44, f73_45, f73_46, f73_47, f73_48, f73_49, f73_50, f73_51, f73_52, f73_53, f73_54, f73_55, f73_56, f73_57, f73_58, f73_59, f73_60, f73_61, f73_62, f73_63, f73_64, f73_65, f73_66, f73_67, f73_68, f73_69, gf_155_0', gf_2_5', gf_155_3', gf_53_2', la_3, la_17, la_18, la_19, la_45, la_52, la_54, la_153, la_154, la_156, la_157, la_6, la_21, la_48, la_56, la_67, la_79, la_105, al_55', rc_1, rc_2, rc_35, rc_44, rc_51, rc_53, rc_77, rc_152, rc_155, rc_5, rc_47, rc_104, ni_pred, kv_e, kx_e, kw_e, kn_e, ct_s, ct_v, cr_t, q_ri, q_rz0', q_rz1', q_rb, q_rv, Nat.add_sub_cancel_left, ni_m1lt, ni_m1le, ni_ltm1, ni_lem1, Nat.add_sub_cancel, nI_add, pk_mul, ni_sub, ni_lt, ni_le, ni_eq, ni_m1, ni_m1', nd_lt_t, nd_lt_f, nd_le_t, nd_le_f, nd_eq_t, nd_eq_f, bI_t', bI_f', bI_0', ↓reduceIte, not_true_eq_false, not_false_eq_true, reduceCtorEq, Bool.true_and, Bool.and_true, Bool.false_and, Bool.and_false, Bool.true_or, Bool.or_true, Bool.false_or, Bool.or_false, decide_true, decide_false, gu_ne, gu_eq, plS, cdS, if_true]
  | succ k ih =>
    intro q g l hq hl hw hR hT
    obtain ⟨g1, i1, i2, i3⟩ := jd74 (s := s) (ob := ob) (pl := nI q) (val := g0 67 ob (fdS g0 r * 3 + q)) hD ht ha hA hl hc hw hR hT
    have e1 := c115 (g := g) (dyn := dyn) (s := s) (D := D) (ob := ob) (j := fdS g0 r) (q := q) (by omega) ho hf (by omega)
    rw [hw 67 rfl] at e1
    have i1' : iv_X D 74 [.ref 155, .int (nI ob), .ref a, .int (nI r), .int (nI q), .int (g0 67 ob (fdS g0 r * 3 + q))] (gh g dyn, s) = some (some (.int (cdS (jeS g0 tr ob r q l).1)), (gh g1 dyn, s)) := i1
    have i2' : rA g1 (jeS g0 tr ob r q l).2 := i2
    cases hb : (jeS g0 tr ob r q l).1 with
    | true =>
      obtain ⟨g', j1, j2, j3⟩ := ih (q + 1) g1 _ (by omega) (j1_gd ht hf (.inr ⟨q, by omega, rfl⟩) hl) (wd_tr hw (fA_wd i3)) i2' (trA_fr hT (i3 352 rfl) (i3 153 rfl))
      simp only [plS, hb, if_true]
      refine ⟨g', ?_, j2, fA_tr i3 j3⟩
      simp only [hb, cdS, if_true] at i1'
      refine Eq.trans ?_ j1
      rw [f73_48]
      simp (disch := omega) only [f73_0, f73_1, f73_2, f73_3, f73_4, f73_5, f73_6, f73_7, f73_8, f73_9, f73_10, f73_11, f73_12, f73_13, f73_14, f73_15, f73_16, f73_17, f73_18, f73_19, f73_20, f73_21, f73_22, f73_23, f73_24, f73_25, f73_26, f73_27, f73_28, f73_29, f73_30, f73_31, f73_32, f73_33, f73_34, f73_35, f73_36, f73_37, f73_38, f73_39, f73_40, f73_41, f73_42, f73_43, f73_44, f73_45, f73_46, f73_47, f73_49, f73_50, f73_51, f73_52, f73_53, f73_54, f73_55, f73_56, f73_57, f73_58, f73_59, f73_60, f73_61, f73_62, f73_63, f73_64, f73_65, f73_66, f73_67, f73_68, f73_69, gf_155_0', gf_2_5', gf_155_3', gf_53_2', la_3, la_17, la_18, la_19, la_45, la_52, la_54, la_153, la_154, la_156, la_157, la_6, la_21, la_48, la_56, la_67, la_79, la_105, al_55', rc_1, rc_2, rc_35, rc_44, rc_51, rc_53, rc_77, rc_152, rc_155, rc_5, rc_47, rc_104, ni_pred, kv_e, kx_e, kw_e, kn_e, ct_s, ct_v, cr_t, q_ri, q_rz0', q_rz1', q_rb, q_rv, Nat.add_sub_cancel_left, ni_m1lt, ni_m1le, ni_ltm1, ni_lem1, Nat.add_sub_cancel, nI_add, pk_mul, ni_sub, ni_lt, ni_le, ni_eq, ni_m1, ni_m1', nd_lt_t, nd_lt_f, nd_le_t, nd_le_f, nd_eq_t, nd_eq_f, bI_t', bI_f', bI_0', ↓reduceIte, not_true_eq_false, not_false_eq_true, reduceCtorEq, Bool.true_and, Bool.and_true, Bool.false_and, Bool.and_false, Bool.true_or, Bool.or_true, Bool.false_or, Bool.or_false, decide_true, decide_false, gu_ne, gu_eq, e1, i1']
    | false =>
      simp only [plS, hb, Bool.false_eq_true, if_false]
      refine ⟨g1, ?_, i2', i3⟩
      simp only [hb, cdS, Bool.false_eq_true, if_false] at i1' ⊢
      rw [f73_48]
      by_cases hlast : sz ≤ q + 1
      · simp (disch := omega) only [f73_0, f73_1, f73_2, f73_3, f73_4, f73_5, f73_6, f73_7, f73_8, f73_9, f73_10, f73_11, f73_12, f73_13, f73_14, f73_15, f73_16, f73_17, f73_18, f73_19, f73_20, f73_21, f73_22, f73_23, f73_24, f73_25, f73_26, f73_27, f73_28, f73_29, f73_30, f73_31, f73_32, f73_33, f73_34, f73_35, f73_36, f73_37, f73_38, f73_39, f73_40, f73_41, f73_42, f73_43, f73_44, f73_45, f73_46, f73_47, f73_49, f73_50, f73_51, f73_52, f73_53, f73_54, f73_55, f73_56, f73_57, f73_58, f73_59, f73_60, f73_61, f73_62, f73_63, f73_64, f73_65, f73_66, f73_67, f73_68, f73_69, gf_155_0', gf_2_5', gf_155_3', gf_53_2', la_3, la_17, la_18, la_19, la_45, la_52, la_54, la_153, la_154, la_156, la_157, la_6, la_21, la_48, la_56, la_67, la_79, la_105, al_55', rc_1, rc_2, rc_35, rc_44, rc_51, rc_53, rc_77, rc_152, rc_155, rc_5, rc_47, rc_104, ni_pred, kv_e, kx_e, kw_e, kn_e, ct_s, ct_v, cr_t, q_ri, q_rz0', q_rz1', q_rb, q_rv, Nat.add_sub_cancel_left, ni_m1lt, ni_m1le, ni_ltm1, ni_lem1, Nat.add_sub_cancel, nI_add, pk_mul, ni_sub, ni_lt, ni_le, ni_eq, ni_m1, ni_m1', nd_lt_t, nd_lt_f, nd_le_t, nd_le_f, nd_eq_t, nd_eq_f, bI_t', bI_f', bI_0', ↓reduceIte, not_true_eq_false, not_false_eq_true, reduceCtorEq, Bool.true_and, Bool.and_true, Bool.false_and, Bool.and_false, Bool.true_or, Bool.or_true, Bool.false_or, Bool.or_false, decide_true, decide_false, gu_ne, gu_eq, e1, i1']
        simp (disch := omega) only [f73_0, f73_1, f73_2, f73_3, f73_4, f73_5, f73_6, f73_7, f73_8, f73_9, f73_10, f73_11, f73_12, f73_13, f73_14, f73_15, f73_16, f73_17, f73_18, f73_19, f73_20, f73_21, f73_22, f73_23, f73_24, f73_25, f73_26, f73_27, f73_28, f73_29, f73_30, f73_31, f73_32, f73_33, f73_34, f73_35, f73_36, f73_37, f73_38, f73_39, f73_40, f73_41, f73_42, f73_43, f73_44, f73_45, f73_46, f73_47, f73_48, f73_49, f73_50, f73_51, f73_52, f73_53, f73_54, f73_55, f73_56, f73_57, f73_58, f73_59, f73_60, f73_61, f73_62, f73_63, f73_64, f73_65, f73_66, f73_67, f73_68, f73_69, gf_155_0', gf_2_5', gf_155_3', gf_53_2', la_3, la_17, la_18, la_19, la_45, la_52, la_54, la_153, la_154, la_156, la_157, la_6, la_21, la_48, la_56, la_67, la_79, la_105, al_55', rc_1, rc_2, rc_35, rc_44, rc_51, rc_53, rc_77, rc_152, rc_155, rc_5, rc_47, rc_104, ni_pred, kv_e, kx_e, kw_e, kn_e, ct_s, ct_v, cr_t, q_ri, q_rz0', q_rz1', q_rb, q_rv, Nat.add_sub_cancel_left, ni_m1lt, ni_m1le, ni_ltm1, ni_lem1, Nat.add_sub_cancel, nI_add, pk_mul, ni_sub, ni_lt, ni_le, ni_eq, ni_m1, ni_m1', nd_lt_t, nd_lt_f, nd_le_t, nd_le_f, nd_eq_t, nd_eq_f, bI_t', bI_f', bI_0', ↓reduceIte, not_true_eq_false, not_false_eq_true, reduceCtorEq, Bool.true_and, Bool.and_true, Bool.false_and, Bool.and_false, Bool.true_or, Bool.or_true, Bool.false_or, Bool.or_false, decide_true, decide_false, gu_ne, gu_eq, n5_0]
      · simp (disch := omega) only [f73_0, f73_1, f73_2, f73_3, f73_4, f73_5, f73_6, f73_7, f73_8, f73_9, f73_10, f73_11, f73_12, f73_13, f73_14, f73_15, f73_16, f73_17, f73_18, f73_19, f73_20, f73_21, f73_22, f73_23, f73_24, f73_25, f73_26, f73_27, f73_28, f73_29, f73_30, f73_31, f73_32, f73_33, f73_34, f73_35, f73_36, f73_37, f73_38, f73_39, f73_40, f73_41, f73_42, f73_43, f73_44, f73_45, f73_46, f73_47, f73_49, f73_50, f73_51, f73_52, f73_53, f73_54, f73_55, f73_56, f73_57, f73_58, f73_59, f73_60, f73_61, f73_62, f73_63, f73_64, f73_65, f73_66, f73_67, f73_68, f73_69, gf_155_0', gf_2_5', gf_155_3', gf_53_2', la_3, la_17, la_18, la_19, la_45, la_52, la_54, la_153, la_154, la_156, la_157, la_6, la_21, la_48, la_56, la_67, la_79, la_105, al_55', rc_1, rc_2, rc_35, rc_44, rc_51, rc_53, rc_77, rc_152, rc_155, rc_5, rc_47, rc_104, ni_pred, kv_e, kx_e, kw_e, kn_e, ct_s, ct_v, cr_t, q_ri, q_rz0', q_rz1', q_rb, q_rv, Nat.add_sub_cancel_left, ni_m1lt, ni_m1le, ni_ltm1, ni_lem1, Nat.add_sub_cancel, nI_add, pk_mul, ni_sub, ni_lt, ni_le, ni_eq, ni_m1, ni_m1', nd_lt_t, nd_lt_f, nd_le_t, nd_le_f, nd_eq_t, nd_eq_f, bI_t', bI_f', bI_0', ↓reduceIte, not_true_eq_false, not_false_eq_true, reduceCtorEq, Bool.true_and, Bool.and_true, Bool.false_and, Bool.and_false, Bool.true_or, Bool.or_true, Bool.false_or, Bool.or_false, decide_true, decide_false, gu_ne, gu_eq, e1, i1']
        simp (disch := omega) only [f73_0, f73_1, f73_2, f73_3, f73_4, f73_5, f73_6, f73_7, f73_8, f73_9, f73_10, f73_11, f73_12, f73_13, f73_14, f73_15, f73_16, f73_17, f73_18, f73_19, f73_20, f73_21, f73_22, f73_23, f73_24, f73_25, f73_26, f73_27, f73_28, f73_29, f73_30, f73_31, f73_32, f73_33, f73_34, f73_35, f73_36, f73_37, f73_38, f73_39, f73_40, f73_41, f73_42, f73_43, f73_44, f73_45, f73_46, f73_47, f73_48, f73_49, f73_50, f73_51, f73_52, f73_53, f73_54, f73_55, f73_56, f73_57, f73_58, f73_59, f73_60, f73_61, f73_62, f73_63, f73_64, f73_65, f73_66, f73_67, f73_68, f73_69, gf_155_0', gf_2_5', gf_155_3', gf_53_2', la_3, la_17, la_18, la_19, la_45, la_52, la_54, la_153, la_154, la_156, la_157, la_6, la_21, la_48, la_56, la_67, la_79, la_105, al_55', rc_1, rc_2, rc_35, rc_44, rc_51, rc_53, rc_77, rc_152, rc_155, rc_5, rc_47, rc_104, ni_pred, kv_e, kx_e, kw_e, kn_e, ct_s, ct_v, cr_t, q_ri, q_rz0', q_rz1', q_rb, q_rv, Nat.add_sub_cancel_left, ni_m1lt, ni_m1le, ni_ltm1, ni_lem1, Nat.add_sub_cancel, nI_add, pk_mul, ni_sub, ni_lt, ni_le, ni_eq, ni_m1, ni_m1', nd_lt_t, nd_lt_f, nd_le_t, nd_le_f, nd_eq_t, nd_eq_f, bI_t', bI_f', bI_0', ↓reduceIte, not_true_eq_false, not_false_eq_true, reduceCtorEq, Bool.true_and, Bool.and_true, Bool.false_and, Bool.and_false, Bool.true_or, Bool.or_true, Bool.false_or, Bool.or_false, decide_true, decide_false, gu_ne, gu_eq, n5_0]
theorem c73 {t f R p n : Nat} {g0 g : Gs} {dyn : Nat → Option iv_C} {s : Nat × Nat} {D ob r a c m : Nat} {tr : List (Nat × Nat)} {l : List Vi} (hD : 3 ≤ D) (ht : gdT tr) (hW : Wd t f R p n g0 dyn) (ho : ob < p) (hf : fdS g0 r < f) (ha : 199 ≤ a) (hA : dyn a = some (8, [.int (nI (fdS g0 r)), .int (bI (elS g0 r)), .ref c, .int (nI m)])) (hc : cmp g0 dyn c (nDS g0 r) (sgS g0 r) (dkS g0 r) (daS g0 r) (dbS g0 r)) (hl : gdL l) (hw : wd g0 g) (hR : rA g l) (hT : trA g tr) : ∃ g', iv_X D 73 [.ref 155, .int (nI ob), .ref a, .int (nI r)] (gh g dyn, s) = some (some (.int (if ftS g0 r then cdS (acS g0 tr ob r l).1 else -4)), (gh g' dyn, s)) ∧ rA g' (if ftS g0 r then (acS g0 tr ob r l).2 else l) ∧ fA g g' := by
  obtain ⟨d, rfl, hd⟩ := iv_dn hD
  obtain ⟨hT', hF, hC, hS, hO, hV, hRs, hK⟩ := hW
  have hf14 : fdS g0 r < 14 := by
    have := hF.1
    omega
  have ho10 : ob < 10 := by
    have := hV.1
    omega
  have hc' := cmp_fr hc (hw 238 rfl) (hw 239 rfl)
  obtain ⟨P, _, _, _, w3, _⟩ := cmp_w hc'
  obtain ⟨k, hk, hkd, h18, h161, hcs⟩ := vl_cs hF hV ho10 hf
  have q18 := hw 18 rfl
  have q56 := hw 56 rfl
  have e0 := c77 (s := s) (e := elS g0 r) (fk := k) hd hk hc'
  have eft : alF (fun j => ftA (dkS g0 r j) k (elS g0 r)) (nDS g0 r) 0 = ftS g0 r := by
    unfold ftS
    rw [hkd]
  rw [eft] at e0
  cases hft : ftS g0 r with
  | false =>
    refine ⟨g, ?_, hR, fA_rf⟩
    simp only [Bool.false_eq_true, if_false]
    rw [en_73]
    simp (disch := omega) only [f73_0, f73_1, f73_2, f73_3, f73_4, f73_5, f73_6, f73_7, f73_8, f73_9, f73_10, f73_11, f73_12, f73_13, f73_14, f73_15, f73_16, f73_17, f73_18, f73_19, f73_20, f73_21, f73_22, f73_23, f73_24, f73_25, f73_26, f73_27, f73_28, f73_29, f73_30, f73_31, f73_32, f73_33, f73_34, f73_35, f73_36, f73_37, f73_38, f73_39, f73_40, f73_41, f73_42, f73_43, f73_44, f73_45, f73_46, f73_47, f73_49, f73_50, f73_51, f73_52, f73_53, f73_54, f73_55, f73_56, f73_57, f73_58, f73_59, f73_60, f73_61, f73_62, f73_63, f73_64, f73_65, f73_66, f73_67, f73_68, f73_69, gf_155_0', gf_2_5', gf_155_3', gf_53_2', la_3, la_17, la_18, la_19, la_45, la_52, la_54, la_153, la_154, la_156, la_157, la_6, la_21, la_48, la_56, la_67, la_79, la_105, al_55', rc_1, rc_2, rc_35, rc_44, rc_51, rc_53, rc_77, rc_152, rc_155, rc_5, rc_47, rc_104, ni_pred, kv_e, kx_e, kw_e, kn_e, ct_s, ct_v, cr_t, q_ri, q_rz0', q_rz1', q_rb, q_rv, Nat.add_sub_cancel_left, ni_m1lt, ni_m1le, ni_ltm1, ni_lem1, Nat.add_sub_cancel, nI_add, pk_mul, ni_sub, ni_lt, ni_le, ni_eq, ni_m1, ni_m1', nd_lt_t, nd_lt_f, nd_le_t, nd_le_f, nd_eq_t, nd_eq_f, bI_t', bI_f', bI_0', ↓reduceIte, not_true_eq_false, not_false_eq_true, reduceCtorEq, Bool.true_and, Bool.and_true, Bool.false_and, Bool.and_false, Bool.true_or, Bool.or_true, Bool.false_or, Bool.or_false, decide_true, decide_false, gu_ne, gu_eq, hA, q18, h18, e0, hft, w3, gd_gf, gd_rc, dgf_0, dgf_1, dgf_2, dgf_3, drc_s]
  | true =>
    simp only [if_true]
    cases hel : elS g0 r with
    | false =>
      rw [hel] at hA e0
      obtain ⟨g', i1, i2, i3⟩ := jd74 (s := s) (ob := ob) (pl := -1) (val := g0 56 ob (fdS g0 r)) hd ht ha hA hl hc hw hR hT
      have ea : acS g0 tr ob r l = j1S g0 tr ob r (-1) (g0 56 ob (fdS g0 r)) l := by simp [acS, hel]
      rw [ea]
      refine ⟨g', ?_, i2, i3⟩
      rw [en_73]
      simp only [bI_f'] at hA e0
      simp (disch := omega) only [f73_0, f73_1, f73_2, f73_3, f73_4, f73_5, f73_6, f73_7, f73_8, f73_9, f73_10, f73_11, f73_12, f73_13, f73_14, f73_15, f73_16, f73_17, f73_18, f73_19, f73_20, f73_21, f73_22, f73_23, f73_24, f73_25, f73_26, f73_27, f73_28, f73_29, f73_30, f73_31, f73_32, f73_33, f73_34, f73_35, f73_36, f73_37, f73_38, f73_39, f73_40, f73_41, f73_42, f73_43, f73_44, f73_45, f73_46, f73_47, f73_49, f73_50, f73_51, f73_52, f73_53, f73_54, f73_55, f73_56, f73_57, f73_58, f73_59, f73_60, f73_61, f73_62, f73_63, f73_64, f73_65, f73_66, f73_67, f73_68, f73_69, gf_155_0', gf_2_5', gf_155_3', gf_53_2', la_3, la_17, la_18, la_19, la_45, la_52, la_54, la_153, la_154, la_156, la_157, la_6, la_21, la_48, la_56, la_67, la_79, la_105, al_55', rc_1, rc_2, rc_35, rc_44, rc_51, rc_53, rc_77, rc_152, rc_155, rc_5, rc_47, rc_104, ni_pred, kv_e, kx_e, kw_e, kn_e, ct_s, ct_v, cr_t, q_ri, q_rz0', q_rz1', q_rb, q_rv, Nat.add_sub_cancel_left, ni_m1lt, ni_m1le, ni_ltm1, ni_lem1, Nat.add_sub_cancel, nI_add, pk_mul, ni_sub, ni_lt, ni_le, ni_eq, ni_m1, ni_m1', nd_lt_t, nd_lt_f, nd_le_t, nd_le_f, nd_eq_t, nd_eq_f, bI_t', bI_f', bI_0', ↓reduceIte, not_true_eq_false, not_false_eq_true, reduceCtorEq, Bool.true_and, Bool.and_true, Bool.false_and, Bool.and_false, Bool.true_or, Bool.or_true, Bool.false_or, Bool.or_false, decide_true, decide_false, gu_ne, gu_eq, hA, q18, h18, q56, e0, hft, w3, i1, gd_gf, gd_rc, dgf_0, dgf_1, dgf_2, dgf_3, drc_s]
    | true =>
      rw [hel] at hA e0
      have ea : acS g0 tr ob r l = plS (jeS g0 tr ob r) (szS g0 ob (fdS g0 r)) 0 l := by simp [acS, hel]
      rw [ea]
      have e4 := c104 (g := g) (dyn := dyn) (s := s) (D := d) (by omega) hf14 hk (by rw [q18]; exact h18)
      have hz : szS g0 ob (fdS g0 r) ≤ 3 := by
        rcases hcs with h | h | ⟨_, h | h⟩
        · omega
        · omega
        · omega
        · exact h.1
      have hloop := fun v5 => lp73 (s := s) (v5 := v5) hd ht ho10 hf14 hz ha hA hc (szS g0 ob (fdS g0 r)) 0 g l (by omega) hl hw hR hT
      simp only [bI_t'] at hA e0
      rcases hcs with ⟨rfl, hs0, _⟩ | ⟨rfl, hs0, _⟩ | ⟨h2, ⟨hs0, h56, _⟩ | ⟨_, h56, _⟩⟩
      · obtain ⟨g', i1, i2, i3⟩ := hloop (g0 56 ob (fdS g0 r))
        refine ⟨g', ?_, i2, i3⟩
        rw [en_73]
        rw [hs0] at i1 ⊢
        simp only [show decide (2 ≤ 0) = false from rfl] at e4
        simp (disch := omega) only [f73_0, f73_1, f73_2, f73_3, f73_4, f73_5, f73_6, f73_7, f73_8, f73_9, f73_10, f73_11, f73_12, f73_13, f73_14, f73_15, f73_16, f73_17, f73_18, f73_19, f73_20, f73_21, f73_22, f73_23, f73_24, f73_25, f73_26, f73_27, f73_28, f73_29, f73_30, f73_31, f73_32, f73_33, f73_34, f73_35, f73_36, f73_37, f73_38, f73_39, f73_40, f73_41, f73_42, f73_43, f73_44, f73_45, f73_46, f73_47, f73_49, f73_50, f73_51, f73_52, f73_53, f73_54, f73_55, f73_56, f73_57, f73_58, f73_59, f73_60, f73_61, f73_62, f73_63, f73_64, f73_65, f73_66, f73_67, f73_68, f73_69, gf_155_0', gf_2_5', gf_155_3', gf_53_2', la_3, la_17, la_18, la_19, la_45, la_52, la_54, la_153, la_154, la_156, la_157, la_6, la_21, la_48, la_56, la_67, la_79, la_105, al_55', rc_1, rc_2, rc_35, rc_44, rc_51, rc_53, rc_77, rc_152, rc_155, rc_5, rc_47, rc_104, ni_pred, kv_e, kx_e, kw_e, kn_e, ct_s, ct_v, cr_t, q_ri, q_rz0', q_rz1', q_rb, q_rv, Nat.add_sub_cancel_left, ni_m1lt, ni_m1le, ni_ltm1, ni_lem1, Nat.add_sub_cancel, nI_add, pk_mul, ni_sub, ni_lt, ni_le, ni_eq, ni_m1, ni_m1', nd_lt_t, nd_lt_f, nd_le_t, nd_le_f, nd_eq_t, nd_eq_f, bI_t', bI_f', bI_0', ↓reduceIte, not_true_eq_false, not_false_eq_true, reduceCtorEq, Bool.true_and, Bool.and_true, Bool.false_and, Bool.and_false, Bool.true_or, Bool.or_true, Bool.false_or, Bool.or_false, decide_true, decide_false, gu_ne, gu_eq, hA, q18, h18, q56, e0, hft, w3, e4, i1, gd_gf, gd_rc, dgf_0, dgf_1, dgf_2, dgf_3, drc_s]
      · obtain ⟨g', i1, i2, i3⟩ := hloop (g0 56 ob (fdS g0 r))
        refine ⟨g', ?_, i2, i3⟩
        rw [en_73]
        rw [hs0] at i1 ⊢
        simp only [show decide (2 ≤ 1) = false from rfl] at e4
        simp (disch := omega) only [f73_0, f73_1, f73_2, f73_3, f73_4, f73_5, f73_6, f73_7, f73_8, f73_9, f73_10, f73_11, f73_12, f73_13, f73_14, f73_15, f73_16, f73_17, f73_18, f73_19, f73_20, f73_21, f73_22, f73_23, f73_24, f73_25, f73_26, f73_27, f73_28, f73_29, f73_30, f73_31, f73_32, f73_33, f73_34, f73_35, f73_36, f73_37, f73_38, f73_39, f73_40, f73_41, f73_42, f73_43, f73_44, f73_45, f73_46, f73_47, f73_49, f73_50, f73_51, f73_52, f73_53, f73_54, f73_55, f73_56, f73_57, f73_58, f73_59, f73_60, f73_61, f73_62, f73_63, f73_64, f73_65, f73_66, f73_67, f73_68, f73_69, gf_155_0', gf_2_5', gf_155_3', gf_53_2', la_3, la_17, la_18, la_19, la_45, la_52, la_54, la_153, la_154, la_156, la_157, la_6, la_21, la_48, la_56, la_67, la_79, la_105, al_55', rc_1, rc_2, rc_35, rc_44, rc_51, rc_53, rc_77, rc_152, rc_155, rc_5, rc_47, rc_104, ni_pred, kv_e, kx_e, kw_e, kn_e, ct_s, ct_v, cr_t, q_ri, q_rz0', q_rz1', q_rb, q_rv, Nat.add_sub_cancel_left, ni_m1lt, ni_m1le, ni_ltm1, ni_lem1, Nat.add_sub_cancel, nI_add, pk_mul, ni_sub, ni_lt, ni_le, ni_eq, ni_m1, ni_m1', nd_lt_t, nd_lt_f, nd_le_t, nd_le_f, nd_eq_t, nd_eq_f, bI_t', bI_f', bI_0', ↓reduceIte, not_true_eq_false, not_false_eq_true, reduceCtorEq, Bool.true_and, Bool.and_true, Bool.false_and, Bool.and_false, Bool.true_or, Bool.or_true, Bool.false_or, Bool.or_false, decide_true, decide_false, gu_ne, gu_eq, hA, q18, h18, q56, e0, hft, w3, e4, i1, gd_gf, gd_rc, dgf_0, dgf_1, dgf_2, dgf_3, drc_s]
      · simp only [h2, decide_true] at e4
        refine ⟨g, ?_, by rw [hs0]; exact hR, fA_rf⟩
        rw [hs0, en_73]
        simp only [plS, cdS, if_true]
        simp (disch := omega) only [f73_0, f73_1, f73_2, f73_3, f73_4, f73_5, f73_6, f73_7, f73_8, f73_9, f73_10, f73_11, f73_12, f73_13, f73_14, f73_15, f73_16, f73_17, f73_18, f73_19, f73_20, f73_21, f73_22, f73_23, f73_24, f73_25, f73_26, f73_27, f73_28, f73_29, f73_30, f73_31, f73_32, f73_33, f73_34, f73_35, f73_36, f73_37, f73_38, f73_39, f73_40, f73_41, f73_42, f73_43, f73_44, f73_45, f73_46, f73_47, f73_48, f73_49, f73_50, f73_51, f73_52, f73_53, f73_54, f73_55, f73_56, f73_57, f73_58, f73_59, f73_60, f73_61, f73_62, f73_63, f73_64, f73_65, f73_66, f73_67, f73_68, f73_69, gf_155_0', gf_2_5', gf_155_3', gf_53_2', la_3, la_17, la_18, la_19, la_45, la_52, la_54, la_153, la_154, la_156, la_157, la_6, la_21, la_48, la_56, la_67, la_79, la_105, al_55', rc_1, rc_2, rc_35, rc_44, rc_51, rc_53, rc_77, rc_152, rc_155, rc_5, rc_47, rc_104, ni_pred, kv_e, kx_e, kw_e, kn_e, ct_s, ct_v, cr_t, q_ri, q_rz0', q_rz1', q_rb, q_rv, Nat.add_sub_cancel_left, ni_m1lt, ni_m1le, ni_ltm1, ni_lem1, Nat.add_sub_cancel, nI_add, pk_mul, ni_sub, ni_lt, ni_le, ni_eq, ni_m1, ni_m1', nd_lt_t, nd_lt_f, nd_le_t, nd_le_f, nd_eq_t, nd_eq_f, bI_t', bI_f', bI_0', ↓reduceIte, not_true_eq_false, not_false_eq_true, reduceCtorEq, Bool.true_and, Bool.and_true, Bool.false_and, Bool.and_false, Bool.true_or, Bool.or_true, Bool.false_or, Bool.or_false, decide_true, decide_false, gu_ne, gu_eq, hA, q18, h18, q56, h56, e0, hft, w3, e4, gd_gf, gd_rc, dgf_0, dgf_1, dgf_2, dgf_3, drc_s]
      · obtain ⟨g', i1, i2, i3⟩ := hloop (g0 56 ob (fdS g0 r))
        refine ⟨g', ?_, i2, i3⟩
        rw [en_73]
        simp only [h2, decide_true] at e4
        rw [h56] at i1
        simp (disch := omega) only [f73_0, f73_1, f73_2, f73_3, f73_4, f73_5, f73_6, f73_7, f73_8, f73_9, f73_10, f73_11, f73_12, f73_13, f73_14, f73_15, f73_16, f73_17, f73_18, f73_19, f73_20, f73_21, f73_22, f73_23, f73_24, f73_25, f73_26, f73_27, f73_28, f73_29, f73_30, f73_31, f73_32, f73_33, f73_34, f73_35, f73_36, f73_37, f73_38, f73_39, f73_40, f73_41, f73_42, f73_43, f73_44, f73_45, f73_46, f73_47, f73_49, f73_50, f73_51, f73_52, f73_53, f73_54, f73_55, f73_56, f73_57, f73_58, f73_59, f73_60, f73_61, f73_62, f73_63, f73_64, f73_65, f73_66, f73_67, f73_68, f73_69, gf_155_0', gf_2_5', gf_155_3', gf_53_2', la_3, la_17, la_18, la_19, la_45, la_52, la_54, la_153, la_154, la_156, la_157, la_6, la_21, la_48, la_56, la_67, la_79, la_105, al_55', rc_1, rc_2, rc_35, rc_44, rc_51, rc_53, rc_77, rc_152, rc_155, rc_5, rc_47, rc_104, ni_pred, kv_e, kx_e, kw_e, kn_e, ct_s, ct_v, cr_t, q_ri, q_rz0', q_rz1', q_rb, q_rv, Nat.add_sub_cancel_left, ni_m1lt, ni_m1le, ni_ltm1, ni_lem1, Nat.add_sub_cancel, nI_add, pk_mul, ni_sub, ni_lt, ni_le, ni_eq, ni_m1, ni_m1', nd_lt_t, nd_lt_f, nd_le_t, nd_le_f, nd_eq_t, nd_eq_f, bI_t', bI_f', bI_0', ↓reduceIte, not_true_eq_false, not_false_eq_true, reduceCtorEq, Bool.true_and, Bool.and_true, Bool.false_and, Bool.and_false, Bool.true_or, Bool.or_true, Bool.false_or, Bool.or_false, decide_true, decide_false, gu_ne, gu_eq, hA, q18, h18, q56, h56, e0, hft, w3, e4, i1, gd_gf, gd_rc, dgf_0, dgf_1, dgf_2, dgf_3, drc_s]
