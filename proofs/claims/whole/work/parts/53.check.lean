/-! the check as one function; what it asks of RuleGraph -/
abbrev Sp : Type := Nat × List Vi
def itS (rec : Nat → Sp → Int32 × Sp) : Nat → Nat → Sp → Int32 × Sp
  | 0, _, s => (nI 0, s)
  | k + 1, q, s => if (rec q s).1 = nI 0 then itS rec k (q + 1) (rec q s).2 else rec q s
def sgeS (rec : Nat → Sp → Int32 × Sp) (bf : Nat) : Nat → Nat → Sp → Int32 × Sp
  | 0, _, s => (nI 0, s)
  | k + 1, i, s => if (rec i s).1 = nI 0 ∧ (rec i s).2.2.length = bf then sgeS rec bf k (i + 1) (rec i s).2 else rec i s
def cnF (P : Nat → Bool) : Nat → Nat → Nat
  | 0, _ => 0
  | k + 1, j => (P j).toNat + cnF P k (j + 1)
def orN (g : Gs) (c : Nat) : Nat := (g 205 c 0).toNatClampNeg
def gdS (g : Gs) (c : Nat) : Bool := decide (cnF (fun i => decide (g 6 c i = -1)) (orN g c) 0 = 1) && !anF (fun i => decide (g 6 c i = nI 0)) (orN g c) 0
def stB (g : Gs) (ob gr : Nat) : Bool := decide (gr = 0) && decide (0 < orN g (clS g ob))
def stN (g : Gs) (ob gr : Nat) : Nat := if stB g ob gr then orN g (clS g ob) else 1
def stG (g : Gs) (ob gr i : Nat) : Nat := if stB g ob gr then (g 6 (clS g ob) i).toNatClampNeg else gr
def tuS (g : Gs) (j h : Nat) : Nat := (g 21 j h).toNatClampNeg
def caS (g : Gs) (j : Nat) : Bool := !decide (g 19 0 j = nI 0)
def tnS (g : Gs) (ob j : Nat) : Nat := if kdS g j = 3 then szS g ob j else if g 56 ob j = -1 then 0 else 1
def ttS (g : Gs) (ob j q : Nat) : Nat := if kdS g j = 3 then (g 67 ob (j * 3 + q)).toNatClampNeg else (g 56 ob j).toNatClampNeg
def tpS (g : Gs) (j q : Nat) : Nat := if kdS g j = 3 then q + 1 else 0
abbrev Rc : Type := List (Nat × Nat) → Nat → Nat → Sp → Int32 × Sp
def goS (rec : Rc) (g : Gs) (tr : List (Nat × Nat)) (ob h j q : Nat) (s : Sp) : Int32 × Sp := rec (tr ++ [(j, tpS g j q)]) (ttS g ob j q) (tuS g j h) s
def fieldS (rec : Rc) (g : Gs) (tr : List (Nat × Nat)) (ob h j : Nat) (s : Sp) : Int32 × Sp := if caS g j && hasS g ob j then itS (goS rec g tr ob h j) (tnS g ob j) 0 s else (nI 0, s)
def rulS (g : Gs) (R : Nat) (tr : List (Nat × Nat)) (ob h : Nat) (l : List Vi) : Int32 × List Vi := rsS (seS g (hasS g ob) h) (ftS g) (acS g tr ob) R 0 l
def stageS (rec : Rc) (g : Gs) (F R : Nat) (tr : List (Nat × Nat)) (ob h : Nat) (s : Sp) : Int32 × Sp := if (rulS g R tr ob h s.2).1 = nI 0 then itS (fieldS rec g tr ob h) F 0 (s.1, (rulS g R tr ob h s.2).2) else ((rulS g R tr ob h s.2).1, (s.1, (rulS g R tr ob h s.2).2))
def stepS (rec : Rc) (g : Gs) (F R : Nat) (tr : List (Nat × Nat)) (ob gr i : Nat) (s : Sp) : Int32 × Sp := stageS rec g F R tr ob (stG g ob gr i) s
def chkS (g : Gs) (F R : Nat) : Nat → List (Nat × Nat) → List (Nat × Nat) → Nat → Nat → Sp → Int32 × Sp
  | 0, _, _, _, _, s => (-5, s)
  | k + 1, os, tr, ob, gr, s => if (ob, gr) ∈ os then (nI 0, s) else if 60 ≤ s.1 ∨ 16 ≤ os.length then (-5, s) else if stB g ob gr = true ∧ gdS g (clS g ob) = false then (-3, (s.1 + 1, s.2)) else sgeS (stepS (chkS g F R k (os ++ [(ob, gr)])) g F R tr ob gr) s.2.length (stN g ob gr) 0 (s.1 + 1, s.2)
def vS (s : Sp) : Prop := s.1 ≤ 60 ∧ gdL s.2
def gdO (os : List (Nat × Nat)) : Prop := ∀ (i : Nat) (q : Nat × Nat), os[i]? = some q → q.1 < 10 ∧ q.2 < 6
def gdP (tr : List (Nat × Nat)) : Prop := ∀ (i : Nat) (q : Nat × Nat), tr[i]? = some q → q.1 < 14 ∧ q.2 < 4
theorem gdO_ap {os : List (Nat × Nat)} {a b : Nat} (h : gdO os) (ha : a < 10) (hb : b < 6) : gdO (os ++ [(a, b)]) := by
  intro i q hq
  rcases ap_cs hq with ⟨_, rfl⟩ | ⟨_, h1⟩
  · exact ⟨ha, hb⟩
  · exact h i q h1
theorem gdP_ap {os : List (Nat × Nat)} {a b : Nat} (h : gdP os) (ha : a < 14) (hb : b < 4) : gdP (os ++ [(a, b)]) := by
  intro i q hq
  rcases ap_cs hq with ⟨_, rfl⟩ | ⟨_, h1⟩
  · exact ⟨ha, hb⟩
  · exact h i q h1
theorem it_v {rec : Nat → Sp → Int32 × Sp} {m : Nat} (h : ∀ q s, q < m → vS s → vS (rec q s).2 ∧ s.1 ≤ (rec q s).2.1) : ∀ (k q : Nat) (s : Sp), q + k ≤ m → vS s → vS (itS rec k q s).2 ∧ s.1 ≤ (itS rec k q s).2.1 := by
  intro k
  induction k with
  | zero => exact fun q s _ hs => ⟨hs, Nat.le_refl _⟩
  | succ k ih =>
    intro q s hq hs
    obtain ⟨h1, h2⟩ := h q s (by omega) hs
    simp only [itS]
    split
    · obtain ⟨h3, h4⟩ := ih (q + 1) _ (by omega) h1
      exact ⟨h3, Nat.le_trans h2 h4⟩
    · exact ⟨h1, h2⟩
theorem sge_v {rec : Nat → Sp → Int32 × Sp} {m bf : Nat} (h : ∀ q s, q < m → vS s → vS (rec q s).2 ∧ s.1 ≤ (rec q s).2.1) : ∀ (k q : Nat) (s : Sp), q + k ≤ m → vS s → vS (sgeS rec bf k q s).2 ∧ s.1 ≤ (sgeS rec bf k q s).2.1 := by
  intro k
  induction k with
  | zero => exact fun q s _ hs => ⟨hs, Nat.le_refl _⟩
  | succ k ih =>
    intro q s hq hs
    obtain ⟨h1, h2⟩ := h q s (by omega) hs
    simp only [sgeS]
    split
    · obtain ⟨h3, h4⟩ := ih (q + 1) _ (by omega) h1
      exact ⟨h3, Nat.le_trans h2 h4⟩
    · exact ⟨h1, h2⟩
theorem w_cl {t f R p n : Nat} {g : Gs} {dyn : Nat → Option iv_C} {ob : Nat} (hW : Wd t f R p n g dyn) (ho : ob < p) : clS g ob < t ∧ clS g ob < 6 ∧ ob < 10 ∧ g 54 0 ob = nI (clS g ob) ∧ g 180 0 ob = nI (clS g ob) := by
  obtain ⟨hT, hF, hC, hS, hO, hV, hRs, hK⟩ := hW
  obtain ⟨c, hc, h1, h2⟩ := hV.2.2.2.1 ob ho
  have h3 := hT.1
  have h4 := hV.1
  have e : clS g ob = c := by
    unfold clS
    rw [h1, nI_clamp (by omega)]
  rw [e]
  exact ⟨hc, by omega, by omega, h1, h2⟩
theorem w_or {t f R p n : Nat} {g : Gs} {dyn : Nat → Option iv_C} {c : Nat} (hW : Wd t f R p n g dyn) (hc : c < 6) : orN g c ≤ 4 ∧ g 205 c 0 = nI (orN g c) ∧ g 178 0 c = nI (orN g c) ∧ ∀ j, j < orN g c → g 179 0 (4 * c + j) = g 6 c j ∧ (g 6 c j = -1 ∨ ∃ z, z < 6 ∧ g 6 c j = nI z) := by
  obtain ⟨hT, hF, hC, hS, hO, hV, hRs, hK⟩ := hW
  obtain ⟨m, h1, h2, h3, h4⟩ := hO c hc
  have e : orN g c = m := by
    unfold orN
    rw [h2, nI_clamp (by omega)]
  rw [e]
  exact ⟨h1, h2, h3, h4⟩
theorem m1_cl : (-1 : Int32).toNatClampNeg = 0 := by decide
theorem w_st {t f R p n : Nat} {g : Gs} {dyn : Nat → Option iv_C} {ob gr i : Nat} (hW : Wd t f R p n g dyn) (ho : ob < p) (hg : gr < 6) (hi : i < stN g ob gr) : stG g ob gr i < 6 := by
  obtain ⟨_, hc, _⟩ := w_cl hW ho
  obtain ⟨_, _, _, h⟩ := w_or hW hc
  unfold stN at hi
  unfold stG
  cases hb : stB g ob gr with
  | false => simpa [hb] using hg
  | true =>
    simp only [hb, if_true] at hi ⊢
    rcases (h i hi).2 with h1 | ⟨z, hz, h1⟩
    · rw [h1, m1_cl]
      omega
    · rw [h1, nI_clamp (by omega)]
      exact hz
theorem w_fd {t f R p n : Nat} {g : Gs} {dyn : Nat → Option iv_C} {j : Nat} (hW : Wd t f R p n g dyn) (hj : j < f) : j < 14 ∧ owS g j < 6 ∧ g 17 0 j = nI (owS g j) ∧ kdS g j < 4 ∧ g 18 0 j = nI (kdS g j) ∧ g 161 0 j = nI (kdS g j) ∧ g 19 0 j = bI (caS g j) ∧ g 162 0 j = bI (caS g j) ∧ (caS g j = true → kdS g j = 1 ∨ kdS g j = 3) ∧ ∀ h, h < 6 → tuS g j h < 6 ∧ g 21 j h = nI (tuS g j h) ∧ ((g 163 0 (6 * j + h) = nI 0 ∧ tuS g j h = h) ∨ g 163 0 (6 * j + h) = nI (tuS g j h + 1)) := by
  obtain ⟨hT, hF, hC, hS, hO, hV, hRs, hK⟩ := hW
  have hf := hF.1
  obtain ⟨⟨c, hc, h1, h2⟩, ⟨k, b, hk, k1, k2, k3, k4, k5⟩, h3⟩ := hF.2.2.2.1 j hj
  have ht := hT.1
  have e1 : owS g j = c := by
    unfold owS
    rw [h1, nI_clamp (by omega)]
  have e2 : kdS g j = k := by
    unfold kdS
    rw [k1, nI_clamp (by omega)]
  have e3 : caS g j = b := bI_ne k3
  rw [e1, e2, e3]
  refine ⟨by omega, by omega, h1, hk, k1, k2, k3, k4, k5, fun h hh => ?_⟩
  obtain ⟨z, hz, z1, z2⟩ := h3 h hh
  have e4 : tuS g j h = z := by
    unfold tuS
    rw [z1, nI_clamp (by omega)]
  rw [e4]
  exact ⟨hz, z1, z2⟩
/-- where a cascaded field leads -/
theorem w_tg {t f R p n : Nat} {g : Gs} {dyn : Nat → Option iv_C} {ob j : Nat} (hW : Wd t f R p n g dyn) (ho : ob < p) (hj : j < f) (hc : caS g j = true) : tnS g ob j ≤ 3 ∧ (∀ q, q < tnS g ob j → ttS g ob j q < p ∧ tpS g j q < 4) ∧ ((kdS g j = 1 ∧ ((tnS g ob j = 0 ∧ g 56 ob j = -1 ∧ g 181 0 (14 * ob + j) = nI 0) ∨ (tnS g ob j = 1 ∧ g 56 ob j = nI (ttS g ob j 0) ∧ g 181 0 (14 * ob + j) = nI (ttS g ob j 0 + 1)))) ∨ (kdS g j = 3 ∧ ((tnS g ob j = 0 ∧ g 56 ob j = -1 ∧ g 181 0 (14 * ob + j) = nI 0) ∨ (g 56 ob j = nI (tnS g ob j) ∧ g 181 0 (14 * ob + j) = nI (tnS g ob j + 1) ∧ ∀ q, q < tnS g ob j → g 67 ob (j * 3 + q) = nI (ttS g ob j q) ∧ g 182 0 (3 * (14 * ob + j) + q) = nI (ttS g ob j q))))) := by
  obtain ⟨_, _, ho10, _⟩ := w_cl hW ho
  obtain ⟨_, _, _, _, _, _, _, _, hk, _⟩ := w_fd hW hj
  obtain ⟨hT, hF, hC, hS, hO, hV, hRs, hK⟩ := hW
  have hp := hV.1
  obtain ⟨k, hk4, hkd, h18, h161, h⟩ := vl_cs hF hV ho10 hj
  rcases hk hc with hk1 | hk3
  · rw [hkd] at hk1
    subst hk1
    have e1 : tnS g ob j = if g 56 ob j = -1 then 0 else 1 := by simp [tnS, hkd]
    have e2 : ttS g ob j = fun _ => (g 56 ob j).toNatClampNeg := by
      funext q
      simp [ttS, hkd]
    have e3 : ∀ q, tpS g j q = 0 := fun q => by simp [tpS, hkd]
    rcases h with ⟨h, _⟩ | ⟨_, _, ⟨h1, h2⟩ | ⟨v, hv, h1, h2⟩⟩ | ⟨h, _⟩
    · omega
    · rw [if_pos h1] at e1
      rw [e1]
      exact ⟨by omega, fun q hq => absurd hq (by omega), .inl ⟨hkd, .inl ⟨rfl, h1, h2⟩⟩⟩
    · rw [if_neg (by rw [h1, ni_m1 (by omega)]; exact id)] at e1
      rw [e1, e2, h1, nI_clamp (by omega)]
      exact ⟨by omega, fun q hq => ⟨hv, by rw [e3]; omega⟩, .inl ⟨hkd, .inr ⟨rfl, rfl, h2⟩⟩⟩
    · omega
  · rw [hkd] at hk3
    subst hk3
    have e1 : tnS g ob j = szS g ob j := by simp [tnS, hkd]
    have e2 : ∀ q, ttS g ob j q = (g 67 ob (j * 3 + q)).toNatClampNeg := fun q => by simp [ttS, hkd]
    have e3 : ∀ q, tpS g j q = q + 1 := fun q => by simp [tpS, hkd]
    rcases h with ⟨h, _⟩ | ⟨h, _⟩ | ⟨_, ⟨h0, h1, h2⟩ | ⟨hv, h1, h2, h3⟩⟩
    · omega
    · omega
    · rw [e1, h0]
      exact ⟨by omega, fun q hq => absurd hq (by omega), .inr ⟨hkd, .inl ⟨rfl, h1, h2⟩⟩⟩
    · have h4 : ∀ q, q < szS g ob j → ttS g ob j q < p ∧ g 67 ob (j * 3 + q) = nI (ttS g ob j q) ∧ g 182 0 (3 * (14 * ob + j) + q) = nI (ttS g ob j q) := by
        intro q hq
        obtain ⟨h5, h6⟩ := h3 q hq
        obtain ⟨w, hw, h7⟩ := h6 rfl
        rw [e2, h7, nI_clamp (by omega), h5]
        exact ⟨hw, rfl, h7⟩
      rw [e1]
      exact ⟨hv, fun q hq => ⟨(h4 q hq).1, by rw [e3]; omega⟩, .inr ⟨hkd, .inr ⟨h1, h2, fun q hq => (h4 q hq).2⟩⟩⟩
theorem ru_v {t f R p n : Nat} {g : Gs} {dyn : Nat → Option iv_C} {ob h : Nat} {tr : List (Nat × Nat)} {l : List Vi} (hW : Wd t f R p n g dyn) (ho : ob < p) (ht : gdT tr) (hl : gdL l) : gdL (rulS g R tr ob h l).2 := rl_gd hW ho ht R 0 l (by omega) hl
theorem chk_v {t f R p n : Nat} {g : Gs} {dyn : Nat → Option iv_C} (hW : Wd t f R p n g dyn) : ∀ (k : Nat) (os tr : List (Nat × Nat)) (ob gr : Nat) (s : Sp), tr.length = os.length → gdP tr → ob < p → vS s → vS (chkS g f R k os tr ob gr s).2 ∧ s.1 ≤ (chkS g f R k os tr ob gr s).2.1 := by
  intro k
  induction k with
  | zero => exact fun os tr ob gr s _ _ _ hs => ⟨hs, Nat.le_refl _⟩
  | succ k ih =>
    intro os tr ob gr s hto hgt ho hs
    simp only [chkS]
    split
    · exact ⟨hs, Nat.le_refl _⟩
    · split
      · exact ⟨hs, Nat.le_refl _⟩
      · rename_i h60
        have hs' : vS (s.1 + 1, s.2) := ⟨by show s.1 + 1 ≤ 60; omega, hs.2⟩
        split
        · exact ⟨hs', Nat.le_succ _⟩
        · have ht : gdT tr := ⟨by omega, hgt⟩
          have hst : ∀ i s', i < stN g ob gr → vS s' → vS (stepS (chkS g f R k (os ++ [(ob, gr)])) g f R tr ob gr i s').2 ∧ s'.1 ≤ (stepS (chkS g f R k (os ++ [(ob, gr)])) g f R tr ob gr i s').2.1 := by
            intro i s' hi hs1
            have hr := ru_v (h := stG g ob gr i) hW ho ht hs1.2
            simp only [stepS, stageS]
            split
            · refine it_v (m := f) (rec := fieldS (chkS g f R k (os ++ [(ob, gr)])) g tr ob (stG g ob gr i)) (fun j s2 hj hs2 => ?_) f 0 (s'.1, _) (by omega) ⟨hs1.1, hr⟩
              simp only [fieldS]
              split
              · rename_i hca
                obtain ⟨hca, _⟩ := (Bool.and_eq_true _ _).mp hca
                obtain ⟨t1, t2, _⟩ := w_tg hW ho hj hca
                refine it_v (m := tnS g ob j) (fun q s3 hq hs3 => ?_) _ 0 s2 (by omega) hs2
                exact ih _ _ _ _ s3 (by simp only [List.length_append, List.length_singleton]; omega) (gdP_ap hgt (w_fd hW hj).1 (t2 q hq).2) (t2 q hq).1 hs3
              · exact ⟨hs2, Nat.le_refl _⟩
            · exact ⟨⟨hs1.1, hr⟩, Nat.le_refl _⟩
          obtain ⟨h1, h2⟩ := sge_v (bf := s.2.length) hst (stN g ob gr) 0 (s.1 + 1, s.2) (by omega) hs'
          exact ⟨h1, Nat.le_trans (Nat.le_succ _) h2⟩
def oA (g : Gs) (os : List (Nat × Nat)) : Prop := g 355 0 0 = nI os.length ∧ ∀ (i : Nat) (q : Nat × Nat), os[i]? = some q → g 156 0 i = nI q.1 ∧ g 157 0 i = nI q.2
theorem lp66 {g : Gs} {dyn : Nat → Option iv_C} {s : Nat × Nat} {D ob gr : Nat} {os : List (Nat × Nat)} (hO : oA g os) (hl : os.length ≤ 16) (hg : gdO os) (ho : ob < 10) (hgr : gr < 6) : ∀ (k i : Nat), i + k = os.length → iv_V (iv_X D) mc_66 (some .boolean) 2 [.ref 155, .int (nI ob), .int (nI gr), .int (nI i)] [] (gh g dyn, s) = some (some (.int (bI (decide ((ob, gr) ∈ os.drop i)))), (gh g dyn, s)) := by
  obtain ⟨h355, hO⟩ := hO
  intro k
  induction k with
  | zero =>
    intro i hi
    rw [List.drop_eq_nil_of_le (by omega)]
    simp only [List.not_mem_nil, decide_false]
    simp (disch := omega) only [f66_0, f66_1, f66_2, f66_3, f66_4, f66_5, f66_6, f66_7, f66_8, f66_9, f66_10, f66_11, f66_12, f66_13, f66_14, f66_15, f66_16, f66_17, f66_18, f66_19, f66_20, f66_21, f66_22, f66_23, gf_155_7', gf_155_5', gf_155_6', la_3, la_17, la_18, la_19, la_45, la_52, la_54, la_153, la_154, la_156, la_157, la_6, la_21, la_48, la_56, la_67, la_79, la_105, al_4', al_20', al_37', al_46', al_55', al_66', al_78', al_103', ni_pred, kv_e, kx_e, kw_e, kn_e, ct_s, ct_v, cr_t, q_ri, q_rz0', q_rz1', q_rb, q_rv, Nat.add_sub_cancel_left, ni_m1lt, ni_m1le, ni_ltm1, ni_lem1, Nat.add_sub_cancel, nI_add, pk_mul, ni_sub, ni_lt, ni_le, ni_eq, ni_m1, ni_m1', nd_lt_t, nd_lt_f, nd_le_t, nd_le_f, nd_eq_t, nd_eq_f, bI_t', bI_f', bI_0', ↓reduceIte, not_true_eq_false, not_false_eq_true, reduceCtorEq, Bool.true_and, Bool.and_true, Bool.false_and, Bool.and_false, Bool.true_or, Bool.or_true, Bool.false_or, Bool.or_false, decide_true, decide_false, gu_ne, gu_eq, h355]
  | succ k ih =>
    intro i hi
    have hlt : i < os.length := by omega
    have hq : os[i]? = some os[i] := List.getElem?_eq_getElem hlt
    obtain ⟨h1, h2⟩ := hO i _ hq
    obtain ⟨h3, h4⟩ := hg i _ hq
    rw [List.drop_eq_getElem_cons hlt]
    have e1 := ih (i + 1) (by omega)
    by_cases ha : os[i].1 = ob
    · by_cases hb : os[i].2 = gr
      · have : (ob, gr) = os[i] := by rw [← ha, ← hb]
        simp only [this, List.mem_cons, true_or, decide_true]
        rw [f66_2]
        simp (disch := omega) only [f66_0, f66_1, f66_3, f66_4, f66_5, f66_6, f66_7, f66_8, f66_9, f66_10, f66_11, f66_12, f66_13, f66_14, f66_15, f66_16, f66_17, f66_18, f66_19, f66_20, f66_21, f66_22, f66_23, gf_155_7', gf_155_5', gf_155_6', la_3, la_17, la_18, la_19, la_45, la_52, la_54, la_153, la_154, la_156, la_157, la_6, la_21, la_48, la_56, la_67, la_79, la_105, al_4', al_20', al_37', al_46', al_55', al_66', al_78', al_103', ni_pred, kv_e, kx_e, kw_e, kn_e, ct_s, ct_v, cr_t, q_ri, q_rz0', q_rz1', q_rb, q_rv, Nat.add_sub_cancel_left, ni_m1lt, ni_m1le, ni_ltm1, ni_lem1, Nat.add_sub_cancel, nI_add, pk_mul, ni_sub, ni_lt, ni_le, ni_eq, ni_m1, ni_m1', nd_lt_t, nd_lt_f, nd_le_t, nd_le_f, nd_eq_t, nd_eq_f, bI_t', bI_f', bI_0', ↓reduceIte, not_true_eq_false, not_false_eq_true, reduceCtorEq, Bool.true_and, Bool.and_true, Bool.false_and, Bool.and_false, Bool.true_or, Bool.or_true, Bool.false_or, Bool.or_false, decide_true, decide_false, gu_ne, gu_eq, h355, h1, h2, ha, hb]
      · have : ¬ (ob, gr) = os[i] := fun e => hb (by rw [← e])
        simp only [this, List.mem_cons, false_or]
        rw [← e1, f66_2]
        simp (disch := omega) only [f66_0, f66_1, f66_3, f66_4, f66_5, f66_6, f66_7, f66_8, f66_9, f66_10, f66_11, f66_12, f66_13, f66_14, f66_15, f66_16, f66_17, f66_18, f66_19, f66_20, f66_21, f66_22, f66_23, gf_155_7', gf_155_5', gf_155_6', la_3, la_17, la_18, la_19, la_45, la_52, la_54, la_153, la_154, la_156, la_157, la_6, la_21, la_48, la_56, la_67, la_79, la_105, al_4', al_20', al_37', al_46', al_55', al_66', al_78', al_103', ni_pred, kv_e, kx_e, kw_e, kn_e, ct_s, ct_v, cr_t, q_ri, q_rz0', q_rz1', q_rb, q_rv, Nat.add_sub_cancel_left, ni_m1lt, ni_m1le, ni_ltm1, ni_lem1, Nat.add_sub_cancel, nI_add, pk_mul, ni_sub, ni_lt, ni_le, ni_eq, ni_m1, ni_m1', nd_lt_t, nd_lt_f, nd_le_t, nd_le_f, nd_eq_t, nd_eq_f, bI_t', bI_f', bI_0', ↓reduceIte, not_true_eq_false, not_false_eq_true, reduceCtorEq, Bool.true_and, Bool.and_true, Bool.false_and, Bool.and_false, Bool.true_or, Bool.or_true, Bool.false_or, Bool.or_false, decide_true, decide_false, gu_ne, gu_eq, h355, h1, h2, ha, hb]
    · have : ¬ (ob, gr) = os[i] := fun e => ha (by rw [← e])
      simp only [this, List.mem_cons, false_or]
      rw [← e1, f66_2]
      simp (disch := omega) only [f66_0, f66_1, f66_3, f66_4, f66_5, f66_6, f66_7, f66_8, f66_9, f66_10, f66_11, f66_12, f66_13, f66_14, f66_15, f66_16, f66_17, f66_18, f66_19, f66_20, f66_21, f66_22, f66_23, gf_155_7', gf_155_5', gf_155_6', la_3, la_17, la_18, la_19, la_45, la_52, la_54, la_153, la_154, la_156, la_157, la_6, la_21, la_48, la_56, la_67, la_79, la_105, al_4', al_20', al_37', al_46', al_55', al_66', al_78', al_103', ni_pred, kv_e, kx_e, kw_e, kn_e, ct_s, ct_v, cr_t, q_ri, q_rz0', q_rz1', q_rb, q_rv, Nat.add_sub_cancel_left, ni_m1lt, ni_m1le, ni_ltm1, ni_lem1, Nat.add_sub_cancel, nI_add, pk_mul, ni_sub, ni_lt, ni_le, ni_eq, ni_m1, ni_m1', nd_lt_t, nd_lt_f, nd_le_t, nd_le_f, nd_eq_t, nd_eq_f, bI_t', bI_f', bI_0', ↓reduceIte, not_true_eq_false, not_false_eq_true, reduceCtorEq, Bool.true_and, Bool.and_true, Bool.false_and, Bool.and_false, Bool.true_or, Bool.or_true, Bool.false_or, Bool.or_false, decide_true, decide_false, gu_ne, gu_eq, h355, h1, h2, ha]
theorem c66 {g : Gs} {dyn : Nat → Option iv_C} {s : Nat × Nat} {D ob gr : Nat} {os : List (Nat × Nat)} (hD : 1 ≤ D) (hO : oA g os) (hl : os.length ≤ 16) (hg : gdO os) (ho : ob < 10) (hgr : gr < 6) : iv_X D 66 [.ref 155, .int (nI ob), .int (nI gr)] (gh g dyn, s) = some (some (.int (bI (decide ((ob, gr) ∈ os)))), (gh g dyn, s)) := by
  obtain ⟨d, rfl, hd⟩ := iv_dn hD
  have e1 := lp66 (D := d) (dyn := dyn) (s := s) hO hl hg ho hgr os.length 0 (by omega)
  rw [List.drop_zero] at e1
  rw [en_66, ← e1]
  simp (disch := omega) only [f66_0, f66_1, f66_3, f66_4, f66_5, f66_6, f66_7, f66_8, f66_9, f66_10, f66_11, f66_12, f66_13, f66_14, f66_15, f66_16, f66_17, f66_18, f66_19, f66_20, f66_21, f66_22, f66_23, gf_155_7', gf_155_5', gf_155_6', la_3, la_17, la_18, la_19, la_45, la_52, la_54, la_153, la_154, la_156, la_157, la_6, la_21, la_48, la_56, la_67, la_79, la_105, al_4', al_20', al_37', al_46', al_55', al_66', al_78', al_103', ni_pred, kv_e, kx_e, kw_e, kn_e, ct_s, ct_v, cr_t, q_ri, q_rz0', q_rz1', q_rb, q_rv, Nat.add_sub_cancel_left, ni_m1lt, ni_m1le, ni_ltm1, ni_lem1, Nat.add_sub_cancel, nI_add, pk_mul, ni_sub, ni_lt, ni_le, ni_eq, ni_m1, ni_m1', nd_lt_t, nd_lt_f, nd_le_t, nd_le_f, nd_eq_t, nd_eq_f, bI_t', bI_f', bI_0', ↓reduceIte, not_true_eq_false, not_false_eq_true, reduceCtorEq, Bool.true_and, Bool.and_true, Bool.false_and, Bool.and_false, Bool.true_or, Bool.or_true, Bool.false_or, Bool.or_false, decide_true, decide_false, gu_ne, gu_eq]
theorem lp68 {g : Gs} {dyn : Nat → Option iv_C} {s : Nat × Nat} {D c n : Nat} (hc : c < 6) (hn : n ≤ 4) (h205 : g 205 c 0 = nI n) : ∀ (k i a : Nat), i + k = n → a ≤ i → iv_V (iv_X D) mc_68 (some .boolean) 4 [.ref 155, .ref (5 + 2 * c), .int (nI a), .int (nI i)] [] (gh g dyn, s) = some (some (.int (bI (decide (a + cnF (fun i => decide (g 6 c i = -1)) k i = 1) && !anF (fun i => decide (g 6 c i = nI 0)) k i))), (gh g dyn, s)) := by
  intro k
  induction k with
  | zero =>
    intro i a hi ha
    by_cases h1 : a = 1
    · simp (disch := omega) only [f68_0, f68_1, f68_2, f68_3, f68_4, f68_5, f68_6, f68_7, f68_8, f68_9, f68_10, f68_11, f68_12, f68_13, f68_14, f68_15, f68_16, f68_17, f68_18, f68_19, f68_20, f68_21, f68_22, f68_23, f68_24, f68_25, f68_26, f68_27, f68_28, f68_29, f68_30, gf_5_1', gf_47_1', gf_51_1', gf_104_1', gf_152_1', gf_5_0', gf_47_0', gf_51_0', gf_104_0', gf_152_0', la_3, la_17, la_18, la_19, la_45, la_52, la_54, la_153, la_154, la_156, la_157, la_6, la_21, la_48, la_56, la_67, la_79, la_105, al_4', al_20', al_37', al_46', al_55', al_66', al_78', al_103', ni_pred, kv_e, kx_e, kw_e, kn_e, ct_s, ct_v, cr_t, q_ri, q_rz0', q_rz1', q_rb, q_rv, Nat.add_sub_cancel_left, ni_m1lt, ni_m1le, ni_ltm1, ni_lem1, Nat.add_sub_cancel, nI_add, pk_mul, ni_sub, ni_lt, ni_le, ni_eq, ni_m1, ni_m1', nd_lt_t, nd_lt_f, nd_le_t, nd_le_f, nd_eq_t, nd_eq_f, bI_t', bI_f', bI_0', ↓reduceIte, not_true_eq_false, not_false_eq_true, reduceCtorEq, Bool.true_and, Bool.and_true, Bool.false_and, Bool.and_false, Bool.true_or, Bool.or_true, Bool.false_or, Bool.or_false, decide_true, decide_false, gu_ne, gu_eq, h205, h1, cnF, anF, Bool.not_false, Nat.add_zero]
    · simp (disch := omega) only [f68_0, f68_1, f68_2, f68_3, f68_4, f68_5, f68_6, f68_7, f68_8, f68_9, f68_10, f68_11, f68_12, f68_13, f68_14, f68_15, f68_16, f68_17, f68_18, f68_19, f68_20, f68_21, f68_22, f68_23, f68_24, f68_25, f68_26, f68_27, f68_28, f68_29, f68_30, gf_5_1', gf_47_1', gf_51_1', gf_104_1', gf_152_1', gf_5_0', gf_47_0', gf_51_0', gf_104_0', gf_152_0', la_3, la_17, la_18, la_19, la_45, la_52, la_54, la_153, la_154, la_156, la_157, la_6, la_21, la_48, la_56, la_67, la_79, la_105, al_4', al_20', al_37', al_46', al_55', al_66', al_78', al_103', ni_pred, kv_e, kx_e, kw_e, kn_e, ct_s, ct_v, cr_t, q_ri, q_rz0', q_rz1', q_rb, q_rv, Nat.add_sub_cancel_left, ni_m1lt, ni_m1le, ni_ltm1, ni_lem1, Nat.add_sub_cancel, nI_add, pk_mul, ni_sub, ni_lt, ni_le, ni_eq, ni_m1, ni_m1', nd_lt_t, nd_lt_f, nd_le_t, nd_le_f, nd_eq_t, nd_eq_f, bI_t', bI_f', bI_0', ↓reduceIte, not_true_eq_false, not_false_eq_true, reduceCtorEq, Bool.true_and, Bool.and_true, Bool.false_and, Bool.and_false, Bool.true_or, Bool.or_true, Bool.false_or, Bool.or_false, decide_true, decide_false, gu_ne, gu_eq, h205, h1, cnF, anF, Bool.not_false, Nat.add_zero]
  | succ k ih =>
    intro i a hi ha
    rw [f68_4]
    by_cases h0 : g 6 c i = nI 0
    · simp only [cnF, anF, h0, decide_true, Bool.true_or, Bool.not_true, Bool.and_false]
      simp (disch := omega) only [f68_0, f68_1, f68_2, f68_3, f68_5, f68_6, f68_7, f68_8, f68_9, f68_10, f68_11, f68_12, f68_13, f68_14, f68_15, f68_16, f68_17, f68_18, f68_19, f68_20, f68_21, f68_22, f68_23, f68_24, f68_25, f68_26, f68_27, f68_28, f68_29, f68_30, gf_5_1', gf_47_1', gf_51_1', gf_104_1', gf_152_1', gf_5_0', gf_47_0', gf_51_0', gf_104_0', gf_152_0', la_3, la_17, la_18, la_19, la_45, la_52, la_54, la_153, la_154, la_156, la_157, la_6, la_21, la_48, la_56, la_67, la_79, la_105, al_4', al_20', al_37', al_46', al_55', al_66', al_78', al_103', ni_pred, kv_e, kx_e, kw_e, kn_e, ct_s, ct_v, cr_t, q_ri, q_rz0', q_rz1', q_rb, q_rv, Nat.add_sub_cancel_left, ni_m1lt, ni_m1le, ni_ltm1, ni_lem1, Nat.add_sub_cancel, nI_add, pk_mul, ni_sub, ni_lt, ni_le, ni_eq, ni_m1, ni_m1', nd_lt_t, nd_lt_f, nd_le_t, nd_le_f, nd_eq_t, nd_eq_f, bI_t', bI_f', bI_0', ↓reduceIte, not_true_eq_false, not_false_eq_true, reduceCtorEq, Bool.true_and, Bool.and_true, Bool.false_and, Bool.and_false, Bool.true_or, Bool.or_true, Bool.false_or, Bool.or_false, decide_true, decide_false, gu_ne, gu_eq, h205, h0]
    · by_cases h1 : g 6 c i = -1
      · have e1 := ih (i + 1) (a + 1) (by omega) (by omega)
        simp only [cnF, anF, h0, h1, decide_true, decide_false, Bool.false_or, Bool.toNat_true]
        rw [Nat.add_assoc] at e1
        have h0' : ((-1 : Int32) = nI 0) = False := eq_false (by decide)
        simp only [h0', decide_false, Bool.false_or]
        rw [← e1]
        simp (disch := omega) only [f68_0, f68_1, f68_2, f68_3, f68_5, f68_6, f68_7, f68_8, f68_9, f68_10, f68_11, f68_12, f68_13, f68_14, f68_15, f68_16, f68_17, f68_18, f68_19, f68_20, f68_21, f68_22, f68_23, f68_24, f68_25, f68_26, f68_27, f68_28, f68_29, f68_30, gf_5_1', gf_47_1', gf_51_1', gf_104_1', gf_152_1', gf_5_0', gf_47_0', gf_51_0', gf_104_0', gf_152_0', la_3, la_17, la_18, la_19, la_45, la_52, la_54, la_153, la_154, la_156, la_157, la_6, la_21, la_48, la_56, la_67, la_79, la_105, al_4', al_20', al_37', al_46', al_55', al_66', al_78', al_103', ni_pred, kv_e, kx_e, kw_e, kn_e, ct_s, ct_v, cr_t, q_ri, q_rz0', q_rz1', q_rb, q_rv, Nat.add_sub_cancel_left, ni_m1lt, ni_m1le, ni_ltm1, ni_lem1, Nat.add_sub_cancel, nI_add, pk_mul, ni_sub, ni_lt, ni_le, ni_eq, ni_m1, ni_m1', nd_lt_t, nd_lt_f, nd_le_t, nd_le_f, nd_eq_t, nd_eq_f, bI_t', bI_f', bI_0', ↓reduceIte, not_true_eq_false, not_false_eq_true, reduceCtorEq, Bool.true_and, Bool.and_true, Bool.false_and, Bool.and_false, Bool.true_or, Bool.or_true, Bool.false_or, Bool.or_false, decide_true, decide_false, gu_ne, gu_eq, h205, h1, h0', if_true, if_false]
      · have e1 := ih (i + 1) a (by omega) (by omega)
        simp only [cnF, anF, h0, h1, decide_false, Bool.false_or, Bool.toNat_false, Nat.zero_add]
        rw [← e1]
        simp (disch := omega) only [f68_0, f68_1, f68_2, f68_3, f68_5, f68_6, f68_7, f68_8, f68_9, f68_10, f68_11, f68_12, f68_13, f68_14, f68_15, f68_16, f68_17, f68_18, f68_19, f68_20, f68_21, f68_22, f68_23, f68_24, f68_25, f68_26, f68_27, f68_28, f68_29, f68_30, gf_5_1', gf_47_1', gf_51_1', gf_104_1', gf_152_1', gf_5_0', gf_47_0', gf_51_0', gf_104_0', gf_152_0', la_3, la_17, la_18, la_19, la_45, la_52, la_54, la_153, la_154, la_156, la_157, la_6, la_21, la_48, la_56, la_67, la_79, la_105, al_4', al_20', al_37', al_46', al_55', al_66', al_78', al_103', ni_pred, kv_e, kx_e, kw_e, kn_e, ct_s, ct_v, cr_t, q_ri, q_rz0', q_rz1', q_rb, q_rv, Nat.add_sub_cancel_left, ni_m1lt, ni_m1le, ni_ltm1, ni_lem1, Nat.add_sub_cancel, nI_add, pk_mul, ni_sub, ni_lt, ni_le, ni_eq, ni_m1, ni_m1', nd_lt_t, nd_lt_f, nd_le_t, nd_le_f, nd_eq_t, nd_eq_f, bI_t', bI_f', bI_0', ↓reduceIte, not_true_eq_false, not_false_eq_true, reduceCtorEq, Bool.true_and, Bool.and_true, Bool.false_and, Bool.and_false, Bool.true_or, Bool.or_true, Bool.false_or, Bool.or_false, decide_true, decide_false, gu_ne, gu_eq, h205, h0, h1, if_false]
theorem c68 {g : Gs} {dyn : Nat → Option iv_C} {s : Nat × Nat} {D c : Nat} (hD : 1 ≤ D) (hc : c < 6) (hn : orN g c ≤ 4) (h205 : g 205 c 0 = nI (orN g c)) : iv_X D 68 [.ref 155, .ref (5 + 2 * c)] (gh g dyn, s) = some (some (.int (bI (gdS g c))), (gh g dyn, s)) := by
  obtain ⟨d, rfl, hd⟩ := iv_dn hD
  have e1 := lp68 (D := d) (dyn := dyn) (s := s) hc hn h205 (orN g c) 0 0 (by omega) (by omega)
  rw [Nat.zero_add] at e1
  unfold gdS
  rw [en_68, ← e1]
  simp (disch := omega) only [f68_0, f68_1, f68_2, f68_3, f68_5, f68_6, f68_7, f68_8, f68_9, f68_10, f68_11, f68_12, f68_13, f68_14, f68_15, f68_16, f68_17, f68_18, f68_19, f68_20, f68_21, f68_22, f68_23, f68_24, f68_25, f68_26, f68_27, f68_28, f68_29, f68_30, gf_5_1', gf_47_1', gf_51_1', gf_104_1', gf_152_1', gf_5_0', gf_47_0', gf_51_0', gf_104_0', gf_152_0', la_3, la_17, la_18, la_19, la_45, la_52, la_54, la_153, la_154, la_156, la_157, la_6, la_21, la_48, la_56, la_67, la_79, la_105, al_4', al_20', al_37', al_46', al_55', al_66', al_78', al_103', ni_pred, kv_e, kx_e, kw_e, kn_e, ct_s, ct_v, cr_t, q_ri, q_rz0', q_rz1', q_rb, q_rv, Nat.add_sub_cancel_left, ni_m1lt, ni_m1le, ni_ltm1, ni_lem1, Nat.add_sub_cancel, nI_add, pk_mul, ni_sub, ni_lt, ni_le, ni_eq, ni_m1, ni_m1', nd_lt_t, nd_lt_f, nd_le_t, nd_le_f, nd_eq_t, nd_eq_f, bI_t', bI_f', bI_0', ↓reduceIte, not_true_eq_false, not_false_eq_true, reduceCtorEq, Bool.true_and, Bool.and_true, Bool.false_and, Bool.and_false, Bool.true_or, Bool.or_true, Bool.false_or, Bool.or_false, decide_true, decide_false, gu_ne, gu_eq]
theorem lp107 {g : Gs} {dyn : Nat → Option iv_C} {s : Nat × Nat} {t f R p n : Nat} {g0 : Gs} {D c : Nat} (hD : 1 ≤ D) (hW : Wd t f R p n g0 dyn) (hw : wd g0 g) (hc : c < 6) : ∀ (k j : Nat) (x : Int32), j + k = f → (∀ i, i < 32 → tb x i = (decide (i < j) && tb (g0 3 0 c) (owS g0 i))) → ∃ F, iv_V (iv_X D) mc_107 (some .int) 4 [.ref 2, .int (nI c), .int x, .int (nI j)] [] (gh g dyn, s) = some (some (.int F), (gh g dyn, s)) ∧ ∀ i, i < f → tb F i = tb (g0 3 0 c) (owS g0 i) := by
  have hf := hW.2.1.1
  have h203 : g0 203 0 0 = nI f := hW.2.1.2.1
  have q203 := hw 203 rfl
  intro k
  induction k with
  | zero =>
    intro j x hj hx
    refine ⟨x, ?_, fun i hi => by rw [hx i (by omega)]; simp [show i < j by omega]⟩
    simp (disch := omega) only [f107_0, f107_1, f107_2, f107_3, f107_4, f107_5, f107_6, f107_7, f107_8, f107_9, f107_10, f107_11, f107_12, f107_13, f107_14, f107_15, f107_16, f107_17, f107_18, f107_19, f107_20, f107_21, f107_22, gf_2_3', rc_1, rc_2, rc_35, rc_44, rc_51, rc_53, rc_77, rc_152, rc_155, rc_5, rc_47, rc_104, rc_38, ni_pred, kv_e, kx_e, kw_e, kn_e, ct_s, ct_v, cr_t, q_ri, q_rz0', q_rz1', q_rb, q_rv, Nat.add_sub_cancel_left, ni_m1lt, ni_m1le, ni_ltm1, ni_lem1, Nat.add_sub_cancel, nI_add, pk_mul, ni_sub, ni_lt, ni_le, ni_eq, ni_m1, ni_m1', nd_lt_t, nd_lt_f, nd_le_t, nd_le_f, nd_eq_t, nd_eq_f, bI_t', bI_f', bI_0', ↓reduceIte, not_true_eq_false, not_false_eq_true, reduceCtorEq, Bool.true_and, Bool.and_true, Bool.false_and, Bool.and_false, Bool.true_or, Bool.or_true, Bool.false_or, Bool.or_false, decide_true, decide_false, gu_ne, gu_eq, q203, h203]
  | succ k ih =>
    intro j x hj hx
    obtain ⟨w1, w2, w3, _⟩ := w_fd hW (show j < f by omega)
    have e1 := c106 (g := g) (dyn := dyn) (s := s) hD hc w1 w2 (by rw [hw 17 rfl]; exact w3)
    rw [hw 3 rfl] at e1
    cases hb : tb (g0 3 0 c) (owS g0 j) with
    | false =>
      obtain ⟨F, i1, i2⟩ := ih (j + 1) x (by omega) (fun i hi => by
        rw [hx i hi]
        by_cases hij : i = j
        · rw [hij, hb]
          simp
        · rw [show decide (i < j + 1) = decide (i < j) from decide_eq_decide.mpr ⟨fun h => by omega, fun h => by omega⟩])
      refine ⟨F, ?_, i2⟩
      rw [← i1, f107_4]
      simp (disch := omega) only [f107_0, f107_1, f107_2, f107_3, f107_5, f107_6, f107_7, f107_8, f107_9, f107_10, f107_11, f107_12, f107_13, f107_14, f107_15, f107_16, f107_17, f107_18, f107_19, f107_20, f107_21, f107_22, gf_2_3', rc_1, rc_2, rc_35, rc_44, rc_51, rc_53, rc_77, rc_152, rc_155, rc_5, rc_47, rc_104, rc_38, ni_pred, kv_e, kx_e, kw_e, kn_e, ct_s, ct_v, cr_t, q_ri, q_rz0', q_rz1', q_rb, q_rv, Nat.add_sub_cancel_left, ni_m1lt, ni_m1le, ni_ltm1, ni_lem1, Nat.add_sub_cancel, nI_add, pk_mul, ni_sub, ni_lt, ni_le, ni_eq, ni_m1, ni_m1', nd_lt_t, nd_lt_f, nd_le_t, nd_le_f, nd_eq_t, nd_eq_f, bI_t', bI_f', bI_0', ↓reduceIte, not_true_eq_false, not_false_eq_true, reduceCtorEq, Bool.true_and, Bool.and_true, Bool.false_and, Bool.and_false, Bool.true_or, Bool.or_true, Bool.false_or, Bool.or_false, decide_true, decide_false, gu_ne, gu_eq, q203, h203, e1, hb]
    | true =>
      obtain ⟨F, i1, i2⟩ := ih (j + 1) (x ||| (nI 1 <<< (nI j &&& 31))) (by omega) (fun i hi => by
        have hbt : tb (nI 1 <<< (nI j &&& 31)) i = decide (j = i) := tb_bt (by omega) hi
        rw [tb_or, hx i hi, hbt]
        by_cases hij : i = j
        · rw [hij, hb]
          simp
        · rw [show decide (i < j + 1) = decide (i < j) from decide_eq_decide.mpr ⟨fun h => by omega, fun h => by omega⟩]
          simp [show ¬ j = i by omega])
      refine ⟨F, ?_, i2⟩
      rw [← i1, f107_4]
      simp (disch := omega) only [f107_0, f107_1, f107_2, f107_3, f107_5, f107_6, f107_7, f107_8, f107_9, f107_10, f107_11, f107_12, f107_13, f107_14, f107_15, f107_16, f107_17, f107_18, f107_19, f107_20, f107_21, f107_22, gf_2_3', rc_1, rc_2, rc_35, rc_44, rc_51, rc_53, rc_77, rc_152, rc_155, rc_5, rc_47, rc_104, rc_38, ni_pred, kv_e, kx_e, kw_e, kn_e, ct_s, ct_v, cr_t, q_ri, q_rz0', q_rz1', q_rb, q_rv, Nat.add_sub_cancel_left, ni_m1lt, ni_m1le, ni_ltm1, ni_lem1, Nat.add_sub_cancel, nI_add, pk_mul, ni_sub, ni_lt, ni_le, ni_eq, ni_m1, ni_m1', nd_lt_t, nd_lt_f, nd_le_t, nd_le_f, nd_eq_t, nd_eq_f, bI_t', bI_f', bI_0', ↓reduceIte, not_true_eq_false, not_false_eq_true, reduceCtorEq, Bool.true_and, Bool.and_true, Bool.false_and, Bool.and_false, Bool.true_or, Bool.or_true, Bool.false_or, Bool.or_false, decide_true, decide_false, gu_ne, gu_eq, q203, h203, e1, hb]
theorem c107 {g : Gs} {dyn : Nat → Option iv_C} {s : Nat × Nat} {t f R p n : Nat} {g0 : Gs} {D ob : Nat} (hD : 2 ≤ D) (hW : Wd t f R p n g0 dyn) (hw : wd g0 g) (ho : ob < p) : ∃ F, iv_X D 107 [.ref 2, .int (nI (clS g0 ob))] (gh g dyn, s) = some (some (.int F), (gh g dyn, s)) ∧ ∀ i, i < f → tb F i = hasS g0 ob i := by
  obtain ⟨d, rfl, hd⟩ := iv_dn hD
  obtain ⟨F, i1, i2⟩ := lp107 (s := s) hd hW hw (w_cl hW ho).2.1 f 0 (nI 0) (by omega) (fun i hi => by simp [tb_0])
  refine ⟨F, ?_, i2⟩
  rw [← i1, en_107]
  simp (disch := omega) only [f107_0, f107_1, f107_2, f107_3, f107_5, f107_6, f107_7, f107_8, f107_9, f107_10, f107_11, f107_12, f107_13, f107_14, f107_15, f107_16, f107_17, f107_18, f107_19, f107_20, f107_21, f107_22, gf_2_3', rc_1, rc_2, rc_35, rc_44, rc_51, rc_53, rc_77, rc_152, rc_155, rc_5, rc_47, rc_104, rc_38, ni_pred, kv_e, kx_e, kw_e, kn_e, ct_s, ct_v, cr_t, q_ri, q_rz0', q_rz1', q_rb, q_rv, Nat.add_sub_cancel_left, ni_m1lt, ni_m1le, ni_ltm1, ni_lem1, Nat.add_sub_cancel, nI_add, pk_mul, ni_sub, ni_lt, ni_le, ni_eq, ni_m1, ni_m1', nd_lt_t, nd_lt_f, nd_le_t, nd_le_f, nd_eq_t, nd_eq_f, bI_t', bI_f', bI_0', ↓reduceIte, not_true_eq_false, not_false_eq_true, reduceCtorEq, Bool.true_and, Bool.and_true, Bool.false_and, Bool.and_false, Bool.true_or, Bool.or_true, Bool.false_or, Bool.or_false, decide_true, decide_false, gu_ne, gu_eq]
theorem lp48 {g : Gs} {dyn : Nat → Option iv_C} {s : Nat × Nat} {D c n : Nat} (hc : c < 6) (hn : n ≤ 4) (h178 : g 178 0 c = nI n) : ∀ (k i a : Nat) (b : Bool), i + k = n → a ≤ i → iv_V (iv_X D) mc_48 (some .boolean) 6 [.ref 158, .int (nI c), .int (nI a), .int (bI b), .int (nI i)] [] (gh g dyn, s) = some (some (.int (bI (decide (a + cnF (fun i => decide (g 179 0 (4 * c + i) = -1)) k i = 1) && !(b || anF (fun i => decide (g 179 0 (4 * c + i) = nI 0)) k i)))), (gh g dyn, s)) := by
  intro k
  induction k with
  | zero =>
    intro i a b hi ha
    by_cases h1 : a = 1
    · cases b <;> simp (disch := omega) only [f48_0, f48_1, f48_2, f48_3, f48_4, f48_5, f48_6, f48_7, f48_8, f48_9, f48_10, f48_11, f48_12, f48_13, f48_14, f48_15, f48_16, f48_17, f48_18, f48_19, f48_20, f48_21, f48_22, f48_23, f48_24, f48_25, f48_26, f48_27, f48_28, f48_29, f48_30, f48_31, f48_32, f48_33, f48_34, f48_35, f48_36, f48_37, f48_38, f48_39, f48_40, f48_41, f48_42, f48_43, f48_44, f48_45, f48_46, f48_47, f48_48, f48_49, f48_50, f48_51, f48_52, f48_53, gf_158_22', la_178, gf_158_23', la_179, ni_pred, kv_e, kx_e, kw_e, kn_e, ct_s, ct_v, cr_t, q_ri, q_rz0', q_rz1', q_rb, q_rv, Nat.add_sub_cancel_left, ni_m1lt, ni_m1le, ni_ltm1, ni_lem1, Nat.add_sub_cancel, nI_add, pk_mul, ni_sub, ni_lt, ni_le, ni_eq, ni_m1, ni_m1', nd_lt_t, nd_lt_f, nd_le_t, nd_le_f, nd_eq_t, nd_eq_f, bI_t', bI_f', bI_0', ↓reduceIte, not_true_eq_false, not_false_eq_true, reduceCtorEq, Bool.true_and, Bool.and_true, Bool.false_and, Bool.and_false, Bool.true_or, Bool.or_true, Bool.false_or, Bool.or_false, decide_true, decide_false, gu_ne, gu_eq, h178, h1, cnF, anF, Bool.not_false, Bool.not_true, Nat.add_zero]
    · cases b <;> simp (disch := omega) only [f48_0, f48_1, f48_2, f48_3, f48_4, f48_5, f48_6, f48_7, f48_8, f48_9, f48_10, f48_11, f48_12, f48_13, f48_14, f48_15, f48_16, f48_17, f48_18, f48_19, f48_20, f48_21, f48_22, f48_23, f48_24, f48_25, f48_26, f48_27, f48_28, f48_29, f48_30, f48_31, f48_32, f48_33, f48_34, f48_35, f48_36, f48_37, f48_38, f48_39, f48_40, f48_41, f48_42, f48_43, f48_44, f48_45, f48_46, f48_47, f48_48, f48_49, f48_50, f48_51, f48_52, f48_53, gf_158_22', la_178, gf_158_23', la_179, ni_pred, kv_e, kx_e, kw_e, kn_e, ct_s, ct_v, cr_t, q_ri, q_rz0', q_rz1', q_rb, q_rv, Nat.add_sub_cancel_left, ni_m1lt, ni_m1le, ni_ltm1, ni_lem1, Nat.add_sub_cancel, nI_add, pk_mul, ni_sub, ni_lt, ni_le, ni_eq, ni_m1, ni_m1', nd_lt_t, nd_lt_f, nd_le_t, nd_le_f, nd_eq_t, nd_eq_f, bI_t', bI_f', bI_0', ↓reduceIte, not_true_eq_false, not_false_eq_true, reduceCtorEq, Bool.true_and, Bool.and_true, Bool.false_and, Bool.and_false, Bool.true_or, Bool.or_true, Bool.false_or, Bool.or_false, decide_true, decide_false, gu_ne, gu_eq, h178, h1, cnF, anF, Bool.not_false, Bool.not_true, Nat.add_zero]
  | succ k ih =>
    intro i a b hi ha
    have h0' : ((-1 : Int32) = nI 0) = False := eq_false (by decide)
    have h0'' : (nI 0 = (-1 : Int32)) = False := eq_false (by decide)
    rw [f48_6]
    by_cases h0 : g 179 0 (4 * c + i) = nI 0
    · have e1 := ih (i + 1) a true (by omega) (by omega)
      simp only [cnF, anF, h0, h0'', decide_true, decide_false, Bool.true_or, Bool.or_true, Bool.not_true, Bool.and_false, Bool.toNat_false, Nat.zero_add] at e1 ⊢
      rw [← e1]
      cases b <;> simp (disch := omega) only [f48_0, f48_1, f48_2, f48_3, f48_4, f48_5, f48_7, f48_8, f48_9, f48_10, f48_11, f48_12, f48_13, f48_14, f48_15, f48_16, f48_17, f48_18, f48_19, f48_20, f48_21, f48_22, f48_23, f48_24, f48_25, f48_26, f48_27, f48_28, f48_29, f48_30, f48_31, f48_32, f48_33, f48_34, f48_35, f48_36, f48_37, f48_38, f48_39, f48_40, f48_41, f48_42, f48_43, f48_44, f48_45, f48_46, f48_47, f48_48, f48_49, f48_50, f48_51, f48_52, f48_53, gf_158_22', la_178, gf_158_23', la_179, ni_pred, kv_e, kx_e, kw_e, kn_e, ct_s, ct_v, cr_t, q_ri, q_rz0', q_rz1', q_rb, q_rv, Nat.add_sub_cancel_left, ni_m1lt, ni_m1le, ni_ltm1, ni_lem1, Nat.add_sub_cancel, nI_add, pk_mul, ni_sub, ni_lt, ni_le, ni_eq, ni_m1, ni_m1', nd_lt_t, nd_lt_f, nd_le_t, nd_le_f, nd_eq_t, nd_eq_f, bI_t', bI_f', bI_0', ↓reduceIte, not_true_eq_false, not_false_eq_true, reduceCtorEq, Bool.true_and, Bool.and_true, Bool.false_and, Bool.and_false, Bool.true_or, Bool.or_true, Bool.false_or, Bool.or_false, decide_true, decide_false, gu_ne, gu_eq, h178, h0, h0'', if_true, if_false]
    · by_cases h1 : g 179 0 (4 * c + i) = -1
      · have e1 := ih (i + 1) (a + 1) b (by omega) (by omega)
        simp only [cnF, anF, h0, h1, h0', decide_true, decide_false, Bool.false_or, Bool.toNat_true]
        rw [Nat.add_assoc] at e1
        rw [← e1]
        cases b <;> simp (disch := omega) only [f48_0, f48_1, f48_2, f48_3, f48_4, f48_5, f48_7, f48_8, f48_9, f48_10, f48_11, f48_12, f48_13, f48_14, f48_15, f48_16, f48_17, f48_18, f48_19, f48_20, f48_21, f48_22, f48_23, f48_24, f48_25, f48_26, f48_27, f48_28, f48_29, f48_30, f48_31, f48_32, f48_33, f48_34, f48_35, f48_36, f48_37, f48_38, f48_39, f48_40, f48_41, f48_42, f48_43, f48_44, f48_45, f48_46, f48_47, f48_48, f48_49, f48_50, f48_51, f48_52, f48_53, gf_158_22', la_178, gf_158_23', la_179, ni_pred, kv_e, kx_e, kw_e, kn_e, ct_s, ct_v, cr_t, q_ri, q_rz0', q_rz1', q_rb, q_rv, Nat.add_sub_cancel_left, ni_m1lt, ni_m1le, ni_ltm1, ni_lem1, Nat.add_sub_cancel, nI_add, pk_mul, ni_sub, ni_lt, ni_le, ni_eq, ni_m1, ni_m1', nd_lt_t, nd_lt_f, nd_le_t, nd_le_f, nd_eq_t, nd_eq_f, bI_t', bI_f', bI_0', ↓reduceIte, not_true_eq_false, not_false_eq_true, reduceCtorEq, Bool.true_and, Bool.and_true, Bool.false_and, Bool.and_false, Bool.true_or, Bool.or_true, Bool.false_or, Bool.or_false, decide_true, decide_false, gu_ne, gu_eq, h178, h1, h0', if_true, if_false]
      · have e1 := ih (i + 1) a b (by omega) (by omega)
        simp only [cnF, anF, h0, h1, decide_false, Bool.false_or, Bool.toNat_false, Nat.zero_add]
        rw [← e1]
        cases b <;> simp (disch := omega) only [f48_0, f48_1, f48_2, f48_3, f48_4, f48_5, f48_7, f48_8, f48_9, f48_10, f48_11, f48_12, f48_13, f48_14, f48_15, f48_16, f48_17, f48_18, f48_19, f48_20, f48_21, f48_22, f48_23, f48_24, f48_25, f48_26, f48_27, f48_28, f48_29, f48_30, f48_31, f48_32, f48_33, f48_34, f48_35, f48_36, f48_37, f48_38, f48_39, f48_40, f48_41, f48_42, f48_43, f48_44, f48_45, f48_46, f48_47, f48_48, f48_49, f48_50, f48_51, f48_52, f48_53, gf_158_22', la_178, gf_158_23', la_179, ni_pred, kv_e, kx_e, kw_e, kn_e, ct_s, ct_v, cr_t, q_ri, q_rz0', q_rz1', q_rb, q_rv, Nat.add_sub_cancel_left, ni_m1lt, ni_m1le, ni_ltm1, ni_lem1, Nat.add_sub_cancel, nI_add, pk_mul, ni_sub, ni_lt, ni_le, ni_eq, ni_m1, ni_m1', nd_lt_t, nd_lt_f, nd_le_t, nd_le_f, nd_eq_t, nd_eq_f, bI_t', bI_f', bI_0', ↓reduceIte, not_true_eq_false, not_false_eq_true, reduceCtorEq, Bool.true_and, Bool.and_true, Bool.false_and, Bool.and_false, Bool.true_or, Bool.or_true, Bool.false_or, Bool.or_false, decide_true, decide_false, gu_ne, gu_eq, h178, h0, h1, if_false]
theorem cn_cg {P Q : Nat → Bool} {n : Nat} (h : ∀ i, i < n → P i = Q i) : ∀ (k i : Nat), i + k ≤ n → cnF P k i = cnF Q k i ∧ anF P k i = anF Q k i := by
  intro k
  induction k with
  | zero => exact fun i _ => ⟨rfl, rfl⟩
  | succ k ih =>
    intro i hi
    simp only [cnF, anF]
    rw [h i (by omega), (ih (i + 1) (by omega)).1, (ih (i + 1) (by omega)).2]
    exact ⟨rfl, rfl⟩
theorem m48 {g : Gs} {dyn : Nat → Option iv_C} {s : Nat × Nat} {t f R p n : Nat} {g0 : Gs} {D c : Nat} (hD : 1 ≤ D) (hW : Wd t f R p n g0 dyn) (hw : wd g0 g) (hc : c < 6) : iv_X D 48 [.ref 158, .int (nI c)] (gh g dyn, s) = some (some (.int (bI (gdS g0 c))), (gh g dyn, s)) := by
  obtain ⟨d, rfl, hd⟩ := iv_dn hD
  obtain ⟨h1, h2, h3, h4⟩ := w_or hW hc
  have e1 := lp48 (g := g) (D := d) (dyn := dyn) (s := s) hc h1 (by rw [hw 178 rfl]; exact h3) (orN g0 c) 0 0 false (by omega) (by omega)
  rw [Nat.zero_add, Bool.false_or, hw 179 rfl] at e1
  have h5 := cn_cg (P := fun i => decide (g0 179 0 (4 * c + i) = -1)) (Q := fun i => decide (g0 6 c i = -1)) (n := orN g0 c) (fun i hi => by rw [(h4 i hi).1]) (orN g0 c) 0 (by omega)
  have h6 := cn_cg (P := fun i => decide (g0 179 0 (4 * c + i) = nI 0)) (Q := fun i => decide (g0 6 c i = nI 0)) (n := orN g0 c) (fun i hi => by rw [(h4 i hi).1]) (orN g0 c) 0 (by omega)
  rw [h5.1, h6.2] at e1
  unfold gdS
  rw [← e1, en_48]
  simp (disch := omega) only [f48_0, f48_1, f48_2, f48_3, f48_4, f48_5, f48_7, f48_8, f48_9, f48_10, f48_11, f48_12, f48_13, f48_14, f48_15, f48_16, f48_17, f48_18, f48_19, f48_20, f48_21, f48_22, f48_23, f48_24, f48_25, f48_26, f48_27, f48_28, f48_29, f48_30, f48_31, f48_32, f48_33, f48_34, f48_35, f48_36, f48_37, f48_38, f48_39, f48_40, f48_41, f48_42, f48_43, f48_44, f48_45, f48_46, f48_47, f48_48, f48_49, f48_50, f48_51, f48_52, f48_53, gf_158_22', la_178, gf_158_23', la_179, ni_pred, kv_e, kx_e, kw_e, kn_e, ct_s, ct_v, cr_t, q_ri, q_rz0', q_rz1', q_rb, q_rv, Nat.add_sub_cancel_left, ni_m1lt, ni_m1le, ni_ltm1, ni_lem1, Nat.add_sub_cancel, nI_add, pk_mul, ni_sub, ni_lt, ni_le, ni_eq, ni_m1, ni_m1', nd_lt_t, nd_lt_f, nd_le_t, nd_le_f, nd_eq_t, nd_eq_f, bI_t', bI_f', bI_0', ↓reduceIte, not_true_eq_false, not_false_eq_true, reduceCtorEq, Bool.true_and, Bool.and_true, Bool.false_and, Bool.and_false, Bool.true_or, Bool.or_true, Bool.false_or, Bool.or_false, decide_true, decide_false, gu_ne, gu_eq]
