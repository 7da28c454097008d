/-! way: the text of a violation, on both sides -/
theorem ch_c {c : Nat} (h : c < 128) : ((nI c).toUInt32 % 65536).toInt32 = nI c := by
  have : ∀ c, c < 128 → ((nI c).toUInt32 % 65536).toInt32 = nI c := by decide
  exact this c h
theorem nar_c {c : Nat} (h : c < 128) : narrow .char (.int (nI c)) = .int (nI c) := by
  have : ∀ c, c < 128 → (nI c).toUInt32.toUInt16.toUInt32.toInt32 = nI c := by decide
  exact congrArg Value.int (this c h)
theorem dv_10 {c : Nat} (h : c < 14) : nI c / nI 10 = nI (c / 10) := by
  have : ∀ c, c < 14 → nI c / nI 10 = nI (c / 10) := by decide
  exact this c h
theorem dv_4 {c : Nat} (h : c < 64) : nI c / nI 4 = nI (c / 4) := by
  have : ∀ c, c < 64 → nI c / nI 4 = nI (c / 4) := by decide
  exact this c h
theorem n10_0 : (nI 10 = (0 : Int32)) = False := eq_false (by decide)
theorem n4_0' : (nI 4 = (0 : Int32)) = False := eq_false (by decide)
theorem nm1 : nI 0 - nI 1 = (-1 : Int32) := by decide
theorem sa_154 {g : Gs} {dyn : Nat → Option iv_C} {s : Nat × Nat} {st : List Value} {j c : Nat} {q : List Value → iv_S → iv_R} (hj : j < 112) (hc : c < 128) : iv_ast (gh g dyn, s) (.int (nI c) :: .int (nI j) :: .ref 154 :: st) iv_isC q = q st (gh (gu g 154 0 j (nI c)) dyn, s) := gh_ast (a := 154) (t := 102) (n := 112) (l := []) (ty := .char) (b := 154) (r := 0) rfl (by decide) rfl rfl (nar_c hc) rfl (by decide) hj (by decide)
def stT (fd pl : Nat) : List Int32 := [nI 102] ++ (if fd < 10 then [] else [nI (48 + fd / 10)]) ++ [nI (48 + (fd - fd / 10 * 10))] ++ (if pl = 0 then [] else [nI 91, nI (48 + (pl - 1)), nI 93])
theorem stT_le {fd pl : Nat} : (stT fd pl).length ≤ 6 := by
  unfold stT
  split <;> split <;> simp
def wyL (q : Nat → Nat × Nat) : Nat → Nat → List Int32 → List Int32
  | 0, _, T => T
  | k + 1, i, T => wyL q k (i + 1) (T ++ stT (q i).1 (q i).2 ++ [nI 46])
theorem wyL_le {q : Nat → Nat × Nat} : ∀ (k i : Nat) (T : List Int32), (wyL q k i T).length ≤ T.length + 7 * k := by
  intro k
  induction k with
  | zero => exact fun i T => Nat.le_refl _
  | succ k ih =>
    intro i T
    have h1 := ih (i + 1) (T ++ stT (q i).1 (q i).2 ++ [nI 46])
    have h2 := stT_le (fd := (q i).1) (pl := (q i).2)
    simp only [List.length_append, List.length_singleton] at h1
    simp only [wyL]
    omega
def txA (g : Gs) (T : List Int32) : Prop := g 278 0 0 = nI T.length ∧ ∀ (j : Nat) (v : Int32), T[j]? = some v → g 154 0 j = v
def txB (g : Gs) (T : List Int32) : Prop := g 447 0 0 = nI T.length ∧ ∀ (j : Nat) (v : Int32), T[j]? = some v → g 198 0 j = v
def fT (g g' : Gs) : Prop := ∀ b, b ≠ 154 → b ≠ 278 → g' b = g b
def fU (g g' : Gs) : Prop := ∀ b, b ≠ 198 → b ≠ 447 → g' b = g b
theorem fT_rf {g : Gs} : fT g g := fun _ _ _ => rfl
theorem fU_rf {g : Gs} : fU g g := fun _ _ _ => rfl
theorem fT_tr {g g' g'' : Gs} (h : fT g g') (h' : fT g' g'') : fT g g'' := fun b h1 h2 => (h' b h1 h2).trans (h b h1 h2)
theorem fU_tr {g g' g'' : Gs} (h : fU g g') (h' : fU g' g'') : fU g g'' := fun b h1 h2 => (h' b h1 h2).trans (h b h1 h2)
theorem fT_wd {g g' : Gs} (h : fT g g') : wd g g' := fun b hb => by
  simp only [mv, decide_eq_false_iff_not] at hb
  exact h b (by omega) (by omega)
theorem fU_wd {g g' : Gs} (h : fU g g') : wd g g' := fun b hb => by
  simp only [mv, decide_eq_false_iff_not] at hb
  exact h b (by omega) (by omega)
theorem c93 {g : Gs} {dyn : Nat → Option iv_C} {s : Nat × Nat} {D c : Nat} {T : List Int32} (hD : 1 ≤ D) (hc : c < 128) (hT : T.length < 112) (h : txA g T) : ∃ g', iv_X D 93 [.ref 77, .int (nI c)] (gh g dyn, s) = some (none, (gh g' dyn, s)) ∧ txA g' (T ++ [nI c]) ∧ fT g g' := by
  obtain ⟨d, rfl, hd⟩ := iv_dn hD
  have h278 := h.1
  refine ⟨gu (gu g 154 0 T.length (nI c)) 278 0 0 (nI (T.length + 1)), ?_, ⟨by rw [gu_eq, List.length_append]; rfl, fun j v hv => ?_⟩, fun b h1 h2 => by rw [gu_ne h2, gu_ne h1]⟩
  · rw [en_93]
    simp (disch := omega) only [f93_0, f93_1, f93_2, f93_3, f93_4, f93_5, f93_6, f93_7, f93_8, f93_9, f93_10, f93_11, f93_12, f93_13, f93_14, f93_15, f93_16, f93_17, f93_18, gf_77_5', gf_77_4', pf_77_5', sa_3, sa_17, sa_18, sa_19, sa_19_0, sa_19_1, sa_45, sa_52, sa_54, sa_153, sa_156, sa_157, sa_6, sa_21, sa_48, sa_56, sa_67, sa_79, sa_105, ll_3, ll_17, ll_18, ll_19, ll_45, ll_52, ll_54, ll_153, ll_154, ll_156, ll_157, ll_6, ll_21, ll_48, ll_56, ll_67, ll_79, ll_105, ni_pred, kv_e, kx_e, kw_e, kn_e, ct_s, ct_v, cr_t, q_ri, q_rz0', q_rz1', q_rb, q_rv, Nat.add_sub_cancel_left, ni_m1lt, ni_m1le, ni_ltm1, ni_lem1, Nat.add_sub_cancel, nI_add, pk_mul, ni_sub, ni_lt, ni_le, ni_eq, ni_m1, ni_m1', nd_lt_t, nd_lt_f, nd_le_t, nd_le_f, nd_eq_t, nd_eq_f, bI_t', bI_f', bI_0', ↓reduceIte, not_true_eq_false, not_false_eq_true, reduceCtorEq, Bool.true_and, Bool.and_true, Bool.false_and, Bool.and_false, Bool.true_or, Bool.or_true, Bool.false_or, Bool.or_false, decide_true, decide_false, gu_ne, gu_eq, h278, sa_154]
  · rw [gu_ne (by decide)]
    rcases ap_cs hv with ⟨rfl, rfl⟩ | ⟨h1, h2⟩
    · rw [gu_eq]
    · rw [gu_nj (by omega)]
      exact h.2 j v h2
theorem m61 {g : Gs} {dyn : Nat → Option iv_C} {s : Nat × Nat} {D c : Nat} {T : List Int32} (hD : 1 ≤ D) (hT : T.length < 128) (h : txB g T) : ∃ g', iv_X D 61 [.ref 158, .int (nI c)] (gh g dyn, s) = some (none, (gh g' dyn, s)) ∧ txB g' (T ++ [nI c]) ∧ fU g g' := by
  obtain ⟨d, rfl, hd⟩ := iv_dn hD
  have h447 := h.1
  refine ⟨gu (gu g 198 0 T.length (nI c)) 447 0 0 (nI (T.length + 1)), ?_, ⟨by rw [gu_eq, List.length_append]; rfl, fun j v hv => ?_⟩, fun b h1 h2 => by rw [gu_ne h2, gu_ne h1]⟩
  · rw [en_61]
    simp (disch := omega) only [f61_0, f61_1, f61_2, f61_3, f61_4, f61_5, f61_6, f61_7, f61_8, f61_9, f61_10, f61_11, f61_12, gf_158_46', sa_198, gf_158_47', pf_158_47', ni_pred, kv_e, kx_e, kw_e, kn_e, ct_s, ct_v, cr_t, q_ri, q_rz0', q_rz1', q_rb, q_rv, Nat.add_sub_cancel_left, ni_m1lt, ni_m1le, ni_ltm1, ni_lem1, Nat.add_sub_cancel, nI_add, pk_mul, ni_sub, ni_lt, ni_le, ni_eq, ni_m1, ni_m1', nd_lt_t, nd_lt_f, nd_le_t, nd_le_f, nd_eq_t, nd_eq_f, bI_t', bI_f', bI_0', ↓reduceIte, not_true_eq_false, not_false_eq_true, reduceCtorEq, Bool.true_and, Bool.and_true, Bool.false_and, Bool.and_false, Bool.true_or, Bool.or_true, Bool.false_or, Bool.or_false, decide_true, decide_false, gu_ne, gu_eq, h447]
  · rw [gu_ne (by decide)]
    rcases ap_cs hv with ⟨rfl, rfl⟩ | ⟨h1, h2⟩
    · rw [gu_eq]
    · rw [gu_nj (by omega)]
      exact h.2 j v h2
theorem c92 {g : Gs} {dyn : Nat → Option iv_C} {s : Nat × Nat} {D fd pl : Nat} {x : Int32} {T : List Int32} (hD : 2 ≤ D) (hfd : fd < 14) (hpl : pl < 4) (hx : (pl = 0 ∧ x = -1) ∨ (1 ≤ pl ∧ x = nI (pl - 1))) (hT : T.length + 6 ≤ 112) (h : txA g T) : ∃ g', iv_X D 92 [.ref 77, .int (nI fd), .int x] (gh g dyn, s) = some (none, (gh g' dyn, s)) ∧ txA g' (T ++ stT fd pl) ∧ fT g g' := by
  obtain ⟨d, rfl, hd⟩ := iv_dn hD
  have d1 := dv_10 hfd
  by_cases h10 : fd < 10
  · rcases hx with ⟨rfl, rfl⟩ | ⟨hp1, rfl⟩
    · obtain ⟨g1, e1, t1, r1⟩ := c93 (g := g) (dyn := dyn) (s := s) (D := d) (c := 102) (T := T) hd (by omega) (by (try simp only [List.length_append, List.length_singleton]); omega) h
      obtain ⟨g2, e2, t2, r2⟩ := c93 (g := g1) (dyn := dyn) (s := s) (D := d) (c := 48 + (fd - fd / 10 * 10)) (T := (T ++ [nI (102)])) hd (by omega) (by (try simp only [List.length_append, List.length_singleton]); omega) t1
      have eT : T ++ stT fd 0 = T ++ [nI (102)] ++ [nI (48 + (fd - fd / 10 * 10))] := by
        simp [stT, h10]
      rw [eT]
      refine ⟨g2, ?_, t2, fT_tr (r1) r2⟩
      rw [en_92]
      simp (disch := omega) only [f92_0, f92_1, f92_2, f92_3, f92_4, f92_5, f92_6, f92_7, f92_8, f92_9, f92_10, f92_11, f92_12, f92_13, f92_14, f92_15, f92_16, f92_17, f92_18, f92_19, f92_20, f92_21, f92_22, f92_23, f92_24, f92_25, f92_26, f92_27, f92_28, f92_29, f92_30, f92_31, f92_32, f92_33, f92_34, f92_35, f92_36, f92_37, rc_1, rc_2, rc_35, rc_44, rc_51, rc_53, rc_77, rc_152, rc_155, rc_5, rc_47, rc_104, rc_38, ni_pred, kv_e, kx_e, kw_e, kn_e, ct_s, ct_v, cr_t, q_ri, q_rz0', q_rz1', q_rb, q_rv, Nat.add_sub_cancel_left, ni_m1lt, ni_m1le, ni_ltm1, ni_lem1, Nat.add_sub_cancel, nI_add, pk_mul, ni_sub, ni_lt, ni_le, ni_eq, ni_m1, ni_m1', nd_lt_t, nd_lt_f, nd_le_t, nd_le_f, nd_eq_t, nd_eq_f, bI_t', bI_f', bI_0', ↓reduceIte, not_true_eq_false, not_false_eq_true, reduceCtorEq, Bool.true_and, Bool.and_true, Bool.false_and, Bool.and_false, Bool.true_or, Bool.or_true, Bool.false_or, Bool.or_false, decide_true, decide_false, gu_ne, gu_eq, e1, e2, d1, n10_0, ch_c, if_true, if_false]
    · obtain ⟨g1, e1, t1, r1⟩ := c93 (g := g) (dyn := dyn) (s := s) (D := d) (c := 102) (T := T) hd (by omega) (by (try simp only [List.length_append, List.length_singleton]); omega) h
      obtain ⟨g2, e2, t2, r2⟩ := c93 (g := g1) (dyn := dyn) (s := s) (D := d) (c := 48 + (fd - fd / 10 * 10)) (T := (T ++ [nI (102)])) hd (by omega) (by (try simp only [List.length_append, List.length_singleton]); omega) t1
      obtain ⟨g3, e3, t3, r3⟩ := c93 (g := g2) (dyn := dyn) (s := s) (D := d) (c := 91) (T := ((T ++ [nI (102)]) ++ [nI (48 + (fd - fd / 10 * 10))])) hd (by omega) (by (try simp only [List.length_append, List.length_singleton]); omega) t2
      obtain ⟨g4, e4, t4, r4⟩ := c93 (g := g3) (dyn := dyn) (s := s) (D := d) (c := 48 + (pl - 1)) (T := (((T ++ [nI (102)]) ++ [nI (48 + (fd - fd / 10 * 10))]) ++ [nI (91)])) hd (by omega) (by (try simp only [List.length_append, List.length_singleton]); omega) t3
      obtain ⟨g5, e5, t5, r5⟩ := c93 (g := g4) (dyn := dyn) (s := s) (D := d) (c := 93) (T := ((((T ++ [nI (102)]) ++ [nI (48 + (fd - fd / 10 * 10))]) ++ [nI (91)]) ++ [nI (48 + (pl - 1))])) hd (by omega) (by (try simp only [List.length_append, List.length_singleton]); omega) t4
      have eT : T ++ stT fd pl = T ++ [nI (102)] ++ [nI (48 + (fd - fd / 10 * 10))] ++ [nI (91)] ++ [nI (48 + (pl - 1))] ++ [nI (93)] := by
        simp [stT, h10, show ¬ pl = 0 by omega]
      rw [eT]
      refine ⟨g5, ?_, t5, fT_tr (fT_tr (fT_tr (fT_tr (r1) r2) r3) r4) r5⟩
      rw [en_92]
      simp (disch := omega) only [f92_0, f92_1, f92_2, f92_3, f92_4, f92_5, f92_6, f92_7, f92_8, f92_9, f92_10, f92_11, f92_12, f92_13, f92_14, f92_15, f92_16, f92_17, f92_18, f92_19, f92_20, f92_21, f92_22, f92_23, f92_24, f92_25, f92_26, f92_27, f92_28, f92_29, f92_30, f92_31, f92_32, f92_33, f92_34, f92_35, f92_36, f92_37, rc_1, rc_2, rc_35, rc_44, rc_51, rc_53, rc_77, rc_152, rc_155, rc_5, rc_47, rc_104, rc_38, ni_pred, kv_e, kx_e, kw_e, kn_e, ct_s, ct_v, cr_t, q_ri, q_rz0', q_rz1', q_rb, q_rv, Nat.add_sub_cancel_left, ni_m1lt, ni_m1le, ni_ltm1, ni_lem1, Nat.add_sub_cancel, nI_add, pk_mul, ni_sub, ni_lt, ni_le, ni_eq, ni_m1, ni_m1', nd_lt_t, nd_lt_f, nd_le_t, nd_le_f, nd_eq_t, nd_eq_f, bI_t', bI_f', bI_0', ↓reduceIte, not_true_eq_false, not_false_eq_true, reduceCtorEq, Bool.true_and, Bool.and_true, Bool.false_and, Bool.and_false, Bool.true_or, Bool.or_true, Bool.false_or, Bool.or_false, decide_true, decide_false, gu_ne, gu_eq, e1, e2, e3, e4, e5, d1, n10_0, ch_c, if_true, if_false]
  · rcases hx with ⟨rfl, rfl⟩ | ⟨hp1, rfl⟩
    · obtain ⟨g1, e1, t1, r1⟩ := c93 (g := g) (dyn := dyn) (s := s) (D := d) (c := 102) (T := T) hd (by omega) (by (try simp only [List.length_append, List.length_singleton]); omega) h
      obtain ⟨g2, e2, t2, r2⟩ := c93 (g := g1) (dyn := dyn) (s := s) (D := d) (c := 48 + fd / 10) (T := (T ++ [nI (102)])) hd (by omega) (by (try simp only [List.length_append, List.length_singleton]); omega) t1
      obtain ⟨g3, e3, t3, r3⟩ := c93 (g := g2) (dyn := dyn) (s := s) (D := d) (c := 48 + (fd - fd / 10 * 10)) (T := ((T ++ [nI (102)]) ++ [nI (48 + fd / 10)])) hd (by omega) (by (try simp only [List.length_append, List.length_singleton]); omega) t2
      have eT : T ++ stT fd 0 = T ++ [nI (102)] ++ [nI (48 + fd / 10)] ++ [nI (48 + (fd - fd / 10 * 10))] := by
        simp [stT, h10]
      rw [eT]
      refine ⟨g3, ?_, t3, fT_tr (fT_tr (r1) r2) r3⟩
      rw [en_92]
      simp (disch := omega) only [f92_0, f92_1, f92_2, f92_3, f92_4, f92_5, f92_6, f92_7, f92_8, f92_9, f92_10, f92_11, f92_12, f92_13, f92_14, f92_15, f92_16, f92_17, f92_18, f92_19, f92_20, f92_21, f92_22, f92_23, f92_24, f92_25, f92_26, f92_27, f92_28, f92_29, f92_30, f92_31, f92_32, f92_33, f92_34, f92_35, f92_36, f92_37, rc_1, rc_2, rc_35, rc_44, rc_51, rc_53, rc_77, rc_152, rc_155, rc_5, rc_47, rc_104, rc_38, ni_pred, kv_e, kx_e, kw_e, kn_e, ct_s, ct_v, cr_t, q_ri, q_rz0', q_rz1', q_rb, q_rv, Nat.add_sub_cancel_left, ni_m1lt, ni_m1le, ni_ltm1, ni_lem1, Nat.add_sub_cancel, nI_add, pk_mul, ni_sub, ni_lt, ni_le, ni_eq, ni_m1, ni_m1', nd_lt_t, nd_lt_f, nd_le_t, nd_le_f, nd_eq_t, nd_eq_f, bI_t', bI_f', bI_0', ↓reduceIte, not_true_eq_false, not_false_eq_true, reduceCtorEq, Bool.true_and, Bool.and_true, Bool.false_and, Bool.and_false, Bool.true_or, Bool.or_true, Bool.false_or, Bool.or_false, decide_true, decide_false, gu_ne, gu_eq, e1, e2, e3, d1, n10_0, ch_c, if_true, if_false]
    · obtain ⟨g1, e1, t1, r1⟩ := c93 (g := g) (dyn := dyn) (s := s) (D := d) (c := 102) (T := T) hd (by omega) (by (try simp only [List.length_append, List.length_singleton]); omega) h
      obtain ⟨g2, e2, t2, r2⟩ := c93 (g := g1) (dyn := dyn) (s := s) (D := d) (c := 48 + fd / 10) (T := (T ++ [nI (102)])) hd (by omega) (by (try simp only [List.length_append, List.length_singleton]); omega) t1
      obtain ⟨g3, e3, t3, r3⟩ := c93 (g := g2) (dyn := dyn) (s := s) (D := d) (c := 48 + (fd - fd / 10 * 10)) (T := ((T ++ [nI (102)]) ++ [nI (48 + fd / 10)])) hd (by omega) (by (try simp only [List.length_append, List.length_singleton]); omega) t2
      obtain ⟨g4, e4, t4, r4⟩ := c93 (g := g3) (dyn := dyn) (s := s) (D := d) (c := 91) (T := (((T ++ [nI (102)]) ++ [nI (48 + fd / 10)]) ++ [nI (48 + (fd - fd / 10 * 10))])) hd (by omega) (by (try simp only [List.length_append, List.length_singleton]); omega) t3
      obtain ⟨g5, e5, t5, r5⟩ := c93 (g := g4) (dyn := dyn) (s := s) (D := d) (c := 48 + (pl - 1)) (T := ((((T ++ [nI (102)]) ++ [nI (48 + fd / 10)]) ++ [nI (48 + (fd - fd / 10 * 10))]) ++ [nI (91)])) hd (by omega) (by (try simp only [List.length_append, List.length_singleton]); omega) t4
      obtain ⟨g6, e6, t6, r6⟩ := c93 (g := g5) (dyn := dyn) (s := s) (D := d) (c := 93) (T := (((((T ++ [nI (102)]) ++ [nI (48 + fd / 10)]) ++ [nI (48 + (fd - fd / 10 * 10))]) ++ [nI (91)]) ++ [nI (48 + (pl - 1))])) hd (by omega) (by (try simp only [List.length_append, List.length_singleton]); omega) t5
      have eT : T ++ stT fd pl = T ++ [nI (102)] ++ [nI (48 + fd / 10)] ++ [nI (48 + (fd - fd / 10 * 10))] ++ [nI (91)] ++ [nI (48 + (pl - 1))] ++ [nI (93)] := by
        simp [stT, h10, show ¬ pl = 0 by omega]
      rw [eT]
      refine ⟨g6, ?_, t6, fT_tr (fT_tr (fT_tr (fT_tr (fT_tr (r1) r2) r3) r4) r5) r6⟩
      rw [en_92]
      simp (disch := omega) only [f92_0, f92_1, f92_2, f92_3, f92_4, f92_5, f92_6, f92_7, f92_8, f92_9, f92_10, f92_11, f92_12, f92_13, f92_14, f92_15, f92_16, f92_17, f92_18, f92_19, f92_20, f92_21, f92_22, f92_23, f92_24, f92_25, f92_26, f92_27, f92_28, f92_29, f92_30, f92_31, f92_32, f92_33, f92_34, f92_35, f92_36, f92_37, rc_1, rc_2, rc_35, rc_44, rc_51, rc_53, rc_77, rc_152, rc_155, rc_5, rc_47, rc_104, rc_38, ni_pred, kv_e, kx_e, kw_e, kn_e, ct_s, ct_v, cr_t, q_ri, q_rz0', q_rz1', q_rb, q_rv, Nat.add_sub_cancel_left, ni_m1lt, ni_m1le, ni_ltm1, ni_lem1, Nat.add_sub_cancel, nI_add, pk_mul, ni_sub, ni_lt, ni_le, ni_eq, ni_m1, ni_m1', nd_lt_t, nd_lt_f, nd_le_t, nd_le_f, nd_eq_t, nd_eq_f, bI_t', bI_f', bI_0', ↓reduceIte, not_true_eq_false, not_false_eq_true, reduceCtorEq, Bool.true_and, Bool.and_true, Bool.false_and, Bool.and_false, Bool.true_or, Bool.or_true, Bool.false_or, Bool.or_false, decide_true, decide_false, gu_ne, gu_eq, e1, e2, e3, e4, e5, e6, d1, n10_0, ch_c, if_true, if_false]
theorem m62 {g : Gs} {dyn : Nat → Option iv_C} {s : Nat × Nat} {D fd pl : Nat} {x : Int32} {T : List Int32} (hD : 2 ≤ D) (hfd : fd < 14) (hpl : pl < 4) (hx : (pl = 0 ∧ x = -1) ∨ (1 ≤ pl ∧ x = nI (pl - 1))) (hT : T.length + 6 ≤ 128) (h : txB g T) : ∃ g', iv_X D 62 [.ref 158, .int (nI fd), .int x] (gh g dyn, s) = some (none, (gh g' dyn, s)) ∧ txB g' (T ++ stT fd pl) ∧ fU g g' := by
  obtain ⟨d, rfl, hd⟩ := iv_dn hD
  have d1 := dv_10 hfd
  by_cases h10 : fd < 10
  · rcases hx with ⟨rfl, rfl⟩ | ⟨hp1, rfl⟩
    · obtain ⟨g1, e1, t1, r1⟩ := m61 (g := g) (dyn := dyn) (s := s) (D := d) (c := 102) (T := T) hd (by (try simp only [List.length_append, List.length_singleton]); omega) h
      obtain ⟨g2, e2, t2, r2⟩ := m61 (g := g1) (dyn := dyn) (s := s) (D := d) (c := 48 + (fd - fd / 10 * 10)) (T := (T ++ [nI (102)])) hd (by (try simp only [List.length_append, List.length_singleton]); omega) t1
      have eT : T ++ stT fd 0 = T ++ [nI (102)] ++ [nI (48 + (fd - fd / 10 * 10))] := by
        simp [stT, h10]
      rw [eT]
      refine ⟨g2, ?_, t2, fU_tr (r1) r2⟩
      rw [en_62]
      simp (disch := omega) only [f62_0, f62_1, f62_2, f62_3, f62_4, f62_5, f62_6, f62_7, f62_8, f62_9, f62_10, f62_11, f62_12, f62_13, f62_14, f62_15, f62_16, f62_17, f62_18, f62_19, f62_20, f62_21, f62_22, f62_23, f62_24, f62_25, f62_26, f62_27, f62_28, f62_29, f62_30, f62_31, f62_32, f62_33, rc_158, ni_pred, kv_e, kx_e, kw_e, kn_e, ct_s, ct_v, cr_t, q_ri, q_rz0', q_rz1', q_rb, q_rv, Nat.add_sub_cancel_left, ni_m1lt, ni_m1le, ni_ltm1, ni_lem1, Nat.add_sub_cancel, nI_add, pk_mul, ni_sub, ni_lt, ni_le, ni_eq, ni_m1, ni_m1', nd_lt_t, nd_lt_f, nd_le_t, nd_le_f, nd_eq_t, nd_eq_f, bI_t', bI_f', bI_0', ↓reduceIte, not_true_eq_false, not_false_eq_true, reduceCtorEq, Bool.true_and, Bool.and_true, Bool.false_and, Bool.and_false, Bool.true_or, Bool.or_true, Bool.false_or, Bool.or_false, decide_true, decide_false, gu_ne, gu_eq, e1, e2, d1, n10_0, ch_c, if_true, if_false, n1_lt]
    · obtain ⟨g1, e1, t1, r1⟩ := m61 (g := g) (dyn := dyn) (s := s) (D := d) (c := 102) (T := T) hd (by (try simp only [List.length_append, List.length_singleton]); omega) h
      obtain ⟨g2, e2, t2, r2⟩ := m61 (g := g1) (dyn := dyn) (s := s) (D := d) (c := 48 + (fd - fd / 10 * 10)) (T := (T ++ [nI (102)])) hd (by (try simp only [List.length_append, List.length_singleton]); omega) t1
      obtain ⟨g3, e3, t3, r3⟩ := m61 (g := g2) (dyn := dyn) (s := s) (D := d) (c := 91) (T := ((T ++ [nI (102)]) ++ [nI (48 + (fd - fd / 10 * 10))])) hd (by (try simp only [List.length_append, List.length_singleton]); omega) t2
      obtain ⟨g4, e4, t4, r4⟩ := m61 (g := g3) (dyn := dyn) (s := s) (D := d) (c := 48 + (pl - 1)) (T := (((T ++ [nI (102)]) ++ [nI (48 + (fd - fd / 10 * 10))]) ++ [nI (91)])) hd (by (try simp only [List.length_append, List.length_singleton]); omega) t3
      obtain ⟨g5, e5, t5, r5⟩ := m61 (g := g4) (dyn := dyn) (s := s) (D := d) (c := 93) (T := ((((T ++ [nI (102)]) ++ [nI (48 + (fd - fd / 10 * 10))]) ++ [nI (91)]) ++ [nI (48 + (pl - 1))])) hd (by (try simp only [List.length_append, List.length_singleton]); omega) t4
      have eT : T ++ stT fd pl = T ++ [nI (102)] ++ [nI (48 + (fd - fd / 10 * 10))] ++ [nI (91)] ++ [nI (48 + (pl - 1))] ++ [nI (93)] := by
        simp [stT, h10, show ¬ pl = 0 by omega]
      rw [eT]
      refine ⟨g5, ?_, t5, fU_tr (fU_tr (fU_tr (fU_tr (r1) r2) r3) r4) r5⟩
      rw [en_62]
      simp (disch := omega) only [f62_0, f62_1, f62_2, f62_3, f62_4, f62_5, f62_6, f62_7, f62_8, f62_9, f62_10, f62_11, f62_12, f62_13, f62_14, f62_15, f62_16, f62_17, f62_18, f62_19, f62_20, f62_21, f62_22, f62_23, f62_24, f62_25, f62_26, f62_27, f62_28, f62_29, f62_30, f62_31, f62_32, f62_33, rc_158, ni_pred, kv_e, kx_e, kw_e, kn_e, ct_s, ct_v, cr_t, q_ri, q_rz0', q_rz1', q_rb, q_rv, Nat.add_sub_cancel_left, ni_m1lt, ni_m1le, ni_ltm1, ni_lem1, Nat.add_sub_cancel, nI_add, pk_mul, ni_sub, ni_lt, ni_le, ni_eq, ni_m1, ni_m1', nd_lt_t, nd_lt_f, nd_le_t, nd_le_f, nd_eq_t, nd_eq_f, bI_t', bI_f', bI_0', ↓reduceIte, not_true_eq_false, not_false_eq_true, reduceCtorEq, Bool.true_and, Bool.and_true, Bool.false_and, Bool.and_false, Bool.true_or, Bool.or_true, Bool.false_or, Bool.or_false, decide_true, decide_false, gu_ne, gu_eq, e1, e2, e3, e4, e5, d1, n10_0, ch_c, if_true, if_false, n1_lt]
  · rcases hx with ⟨rfl, rfl⟩ | ⟨hp1, rfl⟩
    · obtain ⟨g1, e1, t1, r1⟩ := m61 (g := g) (dyn := dyn) (s := s) (D := d) (c := 102) (T := T) hd (by (try simp only [List.length_append, List.length_singleton]); omega) h
      obtain ⟨g2, e2, t2, r2⟩ := m61 (g := g1) (dyn := dyn) (s := s) (D := d) (c := 48 + fd / 10) (T := (T ++ [nI (102)])) hd (by (try simp only [List.length_append, List.length_singleton]); omega) t1
      obtain ⟨g3, e3, t3, r3⟩ := m61 (g := g2) (dyn := dyn) (s := s) (D := d) (c := 48 + (fd - fd / 10 * 10)) (T := ((T ++ [nI (102)]) ++ [nI (48 + fd / 10)])) hd (by (try simp only [List.length_append, List.length_singleton]); omega) t2
      have eT : T ++ stT fd 0 = T ++ [nI (102)] ++ [nI (48 + fd / 10)] ++ [nI (48 + (fd - fd / 10 * 10))] := by
        simp [stT, h10]
      rw [eT]
      refine ⟨g3, ?_, t3, fU_tr (fU_tr (r1) r2) r3⟩
      rw [en_62]
      simp (disch := omega) only [f62_0, f62_1, f62_2, f62_3, f62_4, f62_5, f62_6, f62_7, f62_8, f62_9, f62_10, f62_11, f62_12, f62_13, f62_14, f62_15, f62_16, f62_17, f62_18, f62_19, f62_20, f62_21, f62_22, f62_23, f62_24, f62_25, f62_26, f62_27, f62_28, f62_29, f62_30, f62_31, f62_32, f62_33, rc_158, ni_pred, kv_e, kx_e, kw_e, kn_e, ct_s, ct_v, cr_t, q_ri, q_rz0', q_rz1', q_rb, q_rv, Nat.add_sub_cancel_left, ni_m1lt, ni_m1le, ni_ltm1, ni_lem1, Nat.add_sub_cancel, nI_add, pk_mul, ni_sub, ni_lt, ni_le, ni_eq, ni_m1, ni_m1', nd_lt_t, nd_lt_f, nd_le_t, nd_le_f, nd_eq_t, nd_eq_f, bI_t', bI_f', bI_0', ↓reduceIte, not_true_eq_false, not_false_eq_true, reduceCtorEq, Bool.true_and, Bool.and_true, Bool.false_and, Bool.and_false, Bool.true_or, Bool.or_true, Bool.false_or, Bool.or_false, decide_true, decide_false, gu_ne, gu_eq, e1, e2, e3, d1, n10_0, ch_c, if_true, if_false, n1_lt]
    · obtain ⟨g1, e1, t1, r1⟩ := m61 (g := g) (dyn := dyn) (s := s) (D := d) (c := 102) (T := T) hd (by (try simp only [List.length_append, List.length_singleton]); omega) h
      obtain ⟨g2, e2, t2, r2⟩ := m61 (g := g1) (dyn := dyn) (s := s) (D := d) (c := 48 + fd / 10) (T := (T ++ [nI (102)])) hd (by (try simp only [List.length_append, List.length_singleton]); omega) t1
      obtain ⟨g3, e3, t3, r3⟩ := m61 (g := g2) (dyn := dyn) (s := s) (D := d) (c := 48 + (fd - fd / 10 * 10)) (T := ((T ++ [nI (102)]) ++ [nI (48 + fd / 10)])) hd (by (try simp only [List.length_append, List.length_singleton]); omega) t2
      obtain ⟨g4, e4, t4, r4⟩ := m61 (g := g3) (dyn := dyn) (s := s) (D := d) (c := 91) (T := (((T ++ [nI (102)]) ++ [nI (48 + fd / 10)]) ++ [nI (48 + (fd - fd / 10 * 10))])) hd (by (try simp only [List.length_append, List.length_singleton]); omega) t3
      obtain ⟨g5, e5, t5, r5⟩ := m61 (g := g4) (dyn := dyn) (s := s) (D := d) (c := 48 + (pl - 1)) (T := ((((T ++ [nI (102)]) ++ [nI (48 + fd / 10)]) ++ [nI (48 + (fd - fd / 10 * 10))]) ++ [nI (91)])) hd (by (try simp only [List.length_append, List.length_singleton]); omega) t4
      obtain ⟨g6, e6, t6, r6⟩ := m61 (g := g5) (dyn := dyn) (s := s) (D := d) (c := 93) (T := (((((T ++ [nI (102)]) ++ [nI (48 + fd / 10)]) ++ [nI (48 + (fd - fd / 10 * 10))]) ++ [nI (91)]) ++ [nI (48 + (pl - 1))])) hd (by (try simp only [List.length_append, List.length_singleton]); omega) t5
      have eT : T ++ stT fd pl = T ++ [nI (102)] ++ [nI (48 + fd / 10)] ++ [nI (48 + (fd - fd / 10 * 10))] ++ [nI (91)] ++ [nI (48 + (pl - 1))] ++ [nI (93)] := by
        simp [stT, h10, show ¬ pl = 0 by omega]
      rw [eT]
      refine ⟨g6, ?_, t6, fU_tr (fU_tr (fU_tr (fU_tr (fU_tr (r1) r2) r3) r4) r5) r6⟩
      rw [en_62]
      simp (disch := omega) only [f62_0, f62_1, f62_2, f62_3, f62_4, f62_5, f62_6, f62_7, f62_8, f62_9, f62_10, f62_11, f62_12, f62_13, f62_14, f62_15, f62_16, f62_17, f62_18, f62_19, f62_20, f62_21, f62_22, f62_23, f62_24, f62_25, f62_26, f62_27, f62_28, f62_29, f62_30, f62_31, f62_32, f62_33, rc_158, ni_pred, kv_e, kx_e, kw_e, kn_e, ct_s, ct_v, cr_t, q_ri, q_rz0', q_rz1', q_rb, q_rv, Nat.add_sub_cancel_left, ni_m1lt, ni_m1le, ni_ltm1, ni_lem1, Nat.add_sub_cancel, nI_add, pk_mul, ni_sub, ni_lt, ni_le, ni_eq, ni_m1, ni_m1', nd_lt_t, nd_lt_f, nd_le_t, nd_le_f, nd_eq_t, nd_eq_f, bI_t', bI_f', bI_0', ↓reduceIte, not_true_eq_false, not_false_eq_true, reduceCtorEq, Bool.true_and, Bool.and_true, Bool.false_and, Bool.and_false, Bool.true_or, Bool.or_true, Bool.false_or, Bool.or_false, decide_true, decide_false, gu_ne, gu_eq, e1, e2, e3, e4, e5, e6, d1, n10_0, ch_c, if_true, if_false, n1_lt]
def wyQ (g : Gs) (k i : Nat) : Nat × Nat := ((g 105 k i).toNatClampNeg / 4, (g 105 k i).toNatClampNeg % 4)
theorem ni_sub4 {fd pl : Nat} (hp : pl < 4) : nI (4 * fd + pl) - nI (fd * 4) = nI pl := by
  rw [ni_sub (by omega)]
  congr 1
  omega
theorem lp91 {dyn : Nat → Option iv_C} {s : Nat × Nat} {D k n : Nat} {g0 : Gs} (hD : 2 ≤ D) (hk : k < 24) (hn : n ≤ 15) (h304 : g0 304 k 0 = nI n) (hq : ∀ i, i < n → (wyQ g0 k i).1 < 14 ∧ (wyQ g0 k i).2 < 4 ∧ g0 105 k i = nI (4 * (wyQ g0 k i).1 + (wyQ g0 k i).2)) : ∀ (m i : Nat) (g : Gs) (T : List Int32), i + m = n → fT g0 g → T.length + 7 * m ≤ 105 → txA g T → ∃ g', iv_V (iv_X D) mc_91 none 10 [.ref 77, .int (nI k), .ref (104 + 2 * k), .int (nI i)] [] (gh g dyn, s) = iv_V (iv_X D) mc_91 none 35 [.ref 77, .int (nI k), .ref (104 + 2 * k), .int (nI n)] [] (gh g' dyn, s) ∧ txA g' (wyL (wyQ g0 k) m i T) ∧ fT g0 g' := by
  intro m
  induction m with
  | zero =>
    intro i g T hi hf hT h
    have e : i = n := by omega
    subst e
    have q304 := hf 304 (by decide) (by decide)
    refine ⟨g, ?_, h, hf⟩
    simp (disch := omega) only [f91_0, f91_1, f91_2, f91_3, f91_4, f91_5, f91_6, f91_7, f91_8, f91_9, f91_10, f91_11, f91_12, f91_13, f91_14, f91_15, f91_16, f91_17, f91_18, f91_19, f91_20, f91_21, f91_22, f91_23, f91_24, f91_25, f91_26, f91_27, f91_28, f91_29, f91_30, f91_31, f91_32, f91_33, f91_34, f91_36, f91_37, f91_38, f91_39, f91_40, f91_41, f91_42, f91_43, f91_44, f91_45, f91_46, f91_47, f91_48, f91_49, pf_77_5', gf_77_2', gf_5_1', gf_47_1', gf_51_1', gf_104_1', gf_152_1', gf_5_0', gf_47_0', gf_51_0', gf_104_0', gf_152_0', gf_77_1', la_3, la_17, la_18, la_19, la_45, la_52, la_54, la_153, la_154, la_156, la_157, la_6, la_21, la_48, la_56, la_67, la_79, la_105, al_4', al_20', al_37', al_46', al_55', al_66', al_78', al_103', rc_1, rc_2, rc_35, rc_44, rc_51, rc_53, rc_77, rc_152, rc_155, rc_5, rc_47, rc_104, rc_38, ni_pred, kv_e, kx_e, kw_e, kn_e, ct_s, ct_v, cr_t, q_ri, q_rz0', q_rz1', q_rb, q_rv, Nat.add_sub_cancel_left, ni_m1lt, ni_m1le, ni_ltm1, ni_lem1, Nat.add_sub_cancel, nI_add, pk_mul, ni_sub, ni_lt, ni_le, ni_eq, ni_m1, ni_m1', nd_lt_t, nd_lt_f, nd_le_t, nd_le_f, nd_eq_t, nd_eq_f, bI_t', bI_f', bI_0', ↓reduceIte, not_true_eq_false, not_false_eq_true, reduceCtorEq, Bool.true_and, Bool.and_true, Bool.false_and, Bool.and_false, Bool.true_or, Bool.or_true, Bool.false_or, Bool.or_false, decide_true, decide_false, gu_ne, gu_eq, q304, h304]
  | succ m ih =>
    intro i g T hi hf hT h
    have q304 := hf 304 (by decide) (by decide)
    have q105 := hf 105 (by decide) (by decide)
    obtain ⟨a1, a2, a3⟩ := hq i (by omega)
    have hst := stT_le (fd := (wyQ g0 k i).1) (pl := (wyQ g0 k i).2)
    obtain ⟨fd, hfd⟩ : ∃ fd, fd = (wyQ g0 k i).1 := ⟨_, rfl⟩
    obtain ⟨pl, hpl⟩ : ∃ pl, pl = (wyQ g0 k i).2 := ⟨_, rfl⟩
    rw [← hfd, ← hpl] at a3 hst
    rw [← hfd] at a1
    rw [← hpl] at a2
    obtain ⟨g1, i1, i2, i3⟩ := c92 (g := g) (dyn := dyn) (s := s) (D := D) (fd := fd) (pl := pl) (x := nI pl - nI 1) (T := T) hD a1 a2 (by
      by_cases h0 : pl = 0
      · exact .inl ⟨h0, by rw [h0]; exact nm1⟩
      · exact .inr ⟨by omega, ni_sub (by omega)⟩) (by omega) h
    obtain ⟨g2, j1, j2, j3⟩ := c93 (g := g1) (dyn := dyn) (s := s) (D := D) (c := 46) (T := T ++ stT fd pl) (by omega) (by omega) (by rw [List.length_append]; omega) i2
    obtain ⟨g', p1, p2, p3⟩ := ih (i + 1) g2 (T ++ stT fd pl ++ [nI 46]) (by omega) (fT_tr hf (fT_tr i3 j3)) (by simp only [List.length_append, List.length_singleton]; omega) j2
    refine ⟨g', ?_, by simp only [wyL]; rw [← hfd, ← hpl]; exact p2, p3⟩
    refine Eq.trans ?_ p1
    have hdv : (4 * fd + pl) / 4 = fd := by omega
    have hrm : 4 * fd + pl - fd * 4 = pl := by omega
    have d4 := dv_4 (c := 4 * fd + pl) (by omega)
    rw [hdv] at d4
    rw [f91_10]
    simp (disch := omega) only [f91_0, f91_1, f91_2, f91_3, f91_4, f91_5, f91_6, f91_7, f91_8, f91_9, f91_11, f91_12, f91_13, f91_14, f91_15, f91_16, f91_17, f91_18, f91_19, f91_20, f91_21, f91_22, f91_23, f91_24, f91_25, f91_26, f91_27, f91_28, f91_29, f91_30, f91_31, f91_32, f91_33, f91_34, f91_36, f91_37, f91_38, f91_39, f91_40, f91_41, f91_42, f91_43, f91_44, f91_45, f91_46, f91_47, f91_48, f91_49, pf_77_5', gf_77_2', gf_5_1', gf_47_1', gf_51_1', gf_104_1', gf_152_1', gf_5_0', gf_47_0', gf_51_0', gf_104_0', gf_152_0', gf_77_1', la_3, la_17, la_18, la_19, la_45, la_52, la_54, la_153, la_154, la_156, la_157, la_6, la_21, la_48, la_56, la_67, la_79, la_105, al_4', al_20', al_37', al_46', al_55', al_66', al_78', al_103', rc_1, rc_2, rc_35, rc_44, rc_51, rc_53, rc_77, rc_152, rc_155, rc_5, rc_47, rc_104, rc_38, ni_pred, kv_e, kx_e, kw_e, kn_e, ct_s, ct_v, cr_t, q_ri, q_rz0', q_rz1', q_rb, q_rv, Nat.add_sub_cancel_left, ni_m1lt, ni_m1le, ni_ltm1, ni_lem1, Nat.add_sub_cancel, nI_add, ni_sub4, pk_mul, ni_lt, ni_le, ni_eq, ni_m1, ni_m1', nd_lt_t, nd_lt_f, nd_le_t, nd_le_f, nd_eq_t, nd_eq_f, bI_t', bI_f', bI_0', ↓reduceIte, not_true_eq_false, not_false_eq_true, reduceCtorEq, Bool.true_and, Bool.and_true, Bool.false_and, Bool.and_false, Bool.true_or, Bool.or_true, Bool.false_or, Bool.or_false, decide_true, decide_false, gu_ne, gu_eq, q304, h304, q105, a3, d4, hrm, n4_0', i1, j1, if_false]
theorem c91 {dyn : Nat → Option iv_C} {s : Nat × Nat} {D k n fd pl : Nat} {g0 : Gs} {x : Int32} (hD : 3 ≤ D) (hk : k < 24) (hn : n ≤ 15) (h304 : g0 304 k 0 = nI n) (hq : ∀ i, i < n → (wyQ g0 k i).1 < 14 ∧ (wyQ g0 k i).2 < 4 ∧ g0 105 k i = nI (4 * (wyQ g0 k i).1 + (wyQ g0 k i).2)) (hfd : fd < 14) (hpl : pl < 4) (h1 : g0 79 k 1 = nI fd) (h2 : g0 79 k 2 = x) (hx : (pl = 0 ∧ x = -1) ∨ (1 ≤ pl ∧ x = nI (pl - 1))) : ∃ g', iv_X D 91 [.ref 77, .int (nI k)] (gh g0 dyn, s) = some (none, (gh g' dyn, s)) ∧ txA g' (wyL (wyQ g0 k) n 0 [] ++ stT fd pl) ∧ fT g0 g' := by
  obtain ⟨d, rfl, hd⟩ := iv_dn hD
  obtain ⟨g1, i1, i2, i3⟩ := lp91 (dyn := dyn) (s := s) (D := d) hd hk hn h304 hq n 0 (gu g0 278 0 0 (nI 0)) [] (by omega) (fun b h1 h2 => gu_ne h2) (by simp only [List.length_nil]; omega) ⟨gu_eq, fun j v hv => by simp at hv⟩
  have hl := wyL_le (q := wyQ g0 k) n 0 []
  simp only [List.length_nil] at hl
  obtain ⟨g2, j1, j2, j3⟩ := c92 (g := g1) (dyn := dyn) (s := s) (D := d) hd hfd hpl hx (by omega) i2
  refine ⟨g2, ?_, j2, fT_tr i3 j3⟩
  have q79 := i3 79 (by decide) (by decide)
  rw [en_91]
  simp (disch := omega) only [f91_0, f91_1, f91_2, f91_3, f91_4, f91_5, f91_6, f91_7, f91_8, f91_9, f91_11, f91_12, f91_13, f91_14, f91_15, f91_16, f91_17, f91_18, f91_19, f91_20, f91_21, f91_22, f91_23, f91_24, f91_25, f91_26, f91_27, f91_28, f91_29, f91_30, f91_31, f91_32, f91_33, f91_34, f91_36, f91_37, f91_38, f91_39, f91_40, f91_41, f91_42, f91_43, f91_44, f91_45, f91_46, f91_47, f91_48, f91_49, pf_77_5', gf_77_2', gf_5_1', gf_47_1', gf_51_1', gf_104_1', gf_152_1', gf_5_0', gf_47_0', gf_51_0', gf_104_0', gf_152_0', gf_77_1', la_3, la_17, la_18, la_19, la_45, la_52, la_54, la_153, la_154, la_156, la_157, la_6, la_21, la_48, la_56, la_67, la_79, la_105, al_4', al_20', al_37', al_46', al_55', al_66', al_78', al_103', rc_1, rc_2, rc_35, rc_44, rc_51, rc_53, rc_77, rc_152, rc_155, rc_5, rc_47, rc_104, rc_38, ni_pred, kv_e, kx_e, kw_e, kn_e, ct_s, ct_v, cr_t, q_ri, q_rz0', q_rz1', q_rb, q_rv, Nat.add_sub_cancel_left, ni_m1lt, ni_m1le, ni_ltm1, ni_lem1, Nat.add_sub_cancel, nI_add, pk_mul, ni_sub, ni_lt, ni_le, ni_eq, ni_m1, ni_m1', nd_lt_t, nd_lt_f, nd_le_t, nd_le_f, nd_eq_t, nd_eq_f, bI_t', bI_f', bI_0', ↓reduceIte, not_true_eq_false, not_false_eq_true, reduceCtorEq, Bool.true_and, Bool.and_true, Bool.false_and, Bool.and_false, Bool.true_or, Bool.or_true, Bool.false_or, Bool.or_false, decide_true, decide_false, gu_ne, gu_eq, i1]
  simp (disch := omega) only [f91_0, f91_1, f91_2, f91_3, f91_4, f91_5, f91_6, f91_7, f91_8, f91_9, f91_11, f91_12, f91_13, f91_14, f91_15, f91_16, f91_17, f91_18, f91_19, f91_20, f91_21, f91_22, f91_23, f91_24, f91_25, f91_26, f91_27, f91_28, f91_29, f91_30, f91_31, f91_32, f91_33, f91_34, f91_35, f91_36, f91_37, f91_38, f91_39, f91_40, f91_41, f91_42, f91_43, f91_44, f91_45, f91_46, f91_47, f91_48, f91_49, pf_77_5', gf_77_2', gf_5_1', gf_47_1', gf_51_1', gf_104_1', gf_152_1', gf_5_0', gf_47_0', gf_51_0', gf_104_0', gf_152_0', gf_77_1', la_3, la_17, la_18, la_19, la_45, la_52, la_54, la_153, la_154, la_156, la_157, la_6, la_21, la_48, la_56, la_67, la_79, la_105, al_4', al_20', al_37', al_46', al_55', al_66', al_78', al_103', rc_1, rc_2, rc_35, rc_44, rc_51, rc_53, rc_77, rc_152, rc_155, rc_5, rc_47, rc_104, rc_38, ni_pred, kv_e, kx_e, kw_e, kn_e, ct_s, ct_v, cr_t, q_ri, q_rz0', q_rz1', q_rb, q_rv, Nat.add_sub_cancel_left, ni_m1lt, ni_m1le, ni_ltm1, ni_lem1, Nat.add_sub_cancel, nI_add, pk_mul, ni_sub, ni_lt, ni_le, ni_eq, ni_m1, ni_m1', nd_lt_t, nd_lt_f, nd_le_t, nd_le_f, nd_eq_t, nd_eq_f, bI_t', bI_f', bI_0', ↓reduceIte, not_true_eq_false, not_false_eq_true, reduceCtorEq, Bool.true_and, Bool.and_true, Bool.false_and, Bool.and_false, Bool.true_or, Bool.or_true, Bool.false_or, Bool.or_false, decide_true, decide_false, gu_ne, gu_eq, q79, h1, h2, j1]
theorem lp63 {dyn : Nat → Option iv_C} {s : Nat × Nat} {D k n : Nat} {g0 : Gs} {q : Nat → Nat × Nat} {v2 : Int32} (hD : 2 ≤ D) (hk : k < 24) (hn : n ≤ 15) (h195 : g0 195 0 k = nI n) (hq : ∀ i, i < n → (q i).1 < 14 ∧ (q i).2 < 4 ∧ g0 196 0 (16 * k + i) = nI (q i).1 ∧ g0 197 0 (16 * k + i) = nI (q i).2 - nI 1) : ∀ (m i : Nat) (g : Gs) (T : List Int32), i + m = n → fU g0 g → T.length + 7 * m ≤ 105 → txB g T → ∃ g', iv_V (iv_X D) mc_63 (some .int) 18 [.ref 158, .int (nI k), .int v2, .int (nI i)] [] (gh g dyn, s) = iv_V (iv_X D) mc_63 (some .int) 47 [.ref 158, .int (nI k), .int v2, .int (nI n)] [] (gh g' dyn, s) ∧ txB g' (wyL q m i T) ∧ fU g0 g' := by
  intro m
  induction m with
  | zero =>
    intro i g T hi hf hT h
    have e : i = n := by omega
    subst e
    have q195 := hf 195 (by decide) (by decide)
    refine ⟨g, ?_, h, hf⟩
    simp (disch := omega) only [f63_0, f63_1, f63_2, f63_3, f63_4, f63_5, f63_6, f63_7, f63_8, f63_9, f63_10, f63_11, f63_12, f63_13, f63_14, f63_15, f63_16, f63_17, f63_18, f63_19, f63_20, f63_21, f63_22, f63_23, f63_24, f63_25, f63_26, f63_27, f63_28, f63_29, f63_30, f63_31, f63_32, f63_33, f63_34, f63_35, f63_36, f63_37, f63_38, f63_39, f63_40, f63_41, f63_42, f63_43, f63_44, f63_45, f63_46, f63_48, f63_49, f63_50, f63_51, f63_52, f63_53, f63_54, f63_55, f63_56, f63_57, f63_58, f63_59, f63_60, f63_61, f63_62, f63_63, f63_64, f63_65, f63_66, f63_67, f63_68, f63_69, f63_70, f63_71, f63_72, f63_73, f63_74, f63_75, f63_76, f63_77, f63_78, f63_79, f63_80, f63_81, gf_158_41', pf_158_47', gf_158_43', la_195, gf_158_44', la_196, gf_158_45', la_197, gf_158_42', la_194, gf_158_47', gf_158_46', la_198, rc_158, ni_pred, kv_e, kx_e, kw_e, kn_e, ct_s, ct_v, cr_t, q_ri, q_rz0', q_rz1', q_rb, q_rv, Nat.add_sub_cancel_left, ni_m1lt, ni_m1le, ni_ltm1, ni_lem1, Nat.add_sub_cancel, nI_add, pk_mul, ni_sub, ni_lt, ni_le, ni_eq, ni_m1, ni_m1', nd_lt_t, nd_lt_f, nd_le_t, nd_le_f, nd_eq_t, nd_eq_f, bI_t', bI_f', bI_0', ↓reduceIte, not_true_eq_false, not_false_eq_true, reduceCtorEq, Bool.true_and, Bool.and_true, Bool.false_and, Bool.and_false, Bool.true_or, Bool.or_true, Bool.false_or, Bool.or_false, decide_true, decide_false, gu_ne, gu_eq, q195, h195]
  | succ m ih =>
    intro i g T hi hf hT h
    have q195 := hf 195 (by decide) (by decide)
    have q196 := hf 196 (by decide) (by decide)
    have q197 := hf 197 (by decide) (by decide)
    obtain ⟨a1, a2, a3, a4⟩ := hq i (by omega)
    have hst := stT_le (fd := (q i).1) (pl := (q i).2)
    obtain ⟨g1, i1, i2, i3⟩ := m62 (g := g) (dyn := dyn) (s := s) (D := D) (fd := (q i).1) (pl := (q i).2) (x := nI (q i).2 - nI 1) (T := T) hD a1 a2 (by
      by_cases h0 : (q i).2 = 0
      · exact .inl ⟨h0, by rw [h0]; exact nm1⟩
      · exact .inr ⟨by omega, ni_sub (by omega)⟩) (by omega) h
    obtain ⟨g2, j1, j2, j3⟩ := m61 (g := g1) (dyn := dyn) (s := s) (D := D) (c := 46) (T := T ++ stT (q i).1 (q i).2) (by omega) (by rw [List.length_append]; omega) i2
    obtain ⟨g', p1, p2, p3⟩ := ih (i + 1) g2 (T ++ stT (q i).1 (q i).2 ++ [nI 46]) (by omega) (fU_tr hf (fU_tr i3 j3)) (by simp only [List.length_append, List.length_singleton]; omega) j2
    refine ⟨g', ?_, by simp only [wyL]; exact p2, p3⟩
    refine Eq.trans ?_ p1
    rw [f63_18]
    simp (disch := omega) only [f63_0, f63_1, f63_2, f63_3, f63_4, f63_5, f63_6, f63_7, f63_8, f63_9, f63_10, f63_11, f63_12, f63_13, f63_14, f63_15, f63_16, f63_17, f63_19, f63_20, f63_21, f63_22, f63_23, f63_24, f63_25, f63_26, f63_27, f63_28, f63_29, f63_30, f63_31, f63_32, f63_33, f63_34, f63_35, f63_36, f63_37, f63_38, f63_39, f63_40, f63_41, f63_42, f63_43, f63_44, f63_45, f63_46, f63_48, f63_49, f63_50, f63_51, f63_52, f63_53, f63_54, f63_55, f63_56, f63_57, f63_58, f63_59, f63_60, f63_61, f63_62, f63_63, f63_64, f63_65, f63_66, f63_67, f63_68, f63_69, f63_70, f63_71, f63_72, f63_73, f63_74, f63_75, f63_76, f63_77, f63_78, f63_79, f63_80, f63_81, gf_158_41', pf_158_47', gf_158_43', la_195, gf_158_44', la_196, gf_158_45', la_197, gf_158_42', la_194, gf_158_47', gf_158_46', la_198, rc_158, ni_pred, kv_e, kx_e, kw_e, kn_e, ct_s, ct_v, cr_t, q_ri, q_rz0', q_rz1', q_rb, q_rv, Nat.add_sub_cancel_left, ni_m1lt, ni_m1le, ni_ltm1, ni_lem1, Nat.add_sub_cancel, nI_add, pk_mul, ni_lt, ni_le, ni_eq, ni_m1, ni_m1', nd_lt_t, nd_lt_f, nd_le_t, nd_le_f, nd_eq_t, nd_eq_f, bI_t', bI_f', bI_0', ↓reduceIte, not_true_eq_false, not_false_eq_true, reduceCtorEq, Bool.true_and, Bool.and_true, Bool.false_and, Bool.and_false, Bool.true_or, Bool.or_true, Bool.false_or, Bool.or_false, decide_true, decide_false, gu_ne, gu_eq, q195, h195, q196, a3, q197, a4, i1, j1]
theorem pr_way {L N d : Nat} {xs : Nat → Int32} {w : iv_S} (hd : 100 ≤ d) (x y : Int32) (h : Iv L xs N w) : lw_pair d 22 63 [.int x, .int y] L xs w (Iv L xs (N + 1)) := by
  obtain ⟨t, f, r, p, g, dyn, n, z, rfl, h0, hn, hn', hz, hT, hF, hC, hS, hO, hV, hR, hK, hP⟩ := h
  obtain ⟨ht, hT1, hT2, hL⟩ := id hT
  obtain ⟨hf, hF1, hF2, hF3, hF4⟩ := id hF
  obtain ⟨hp, hV1, hV2, hV3, hV4, hV5⟩ := id hV
  have hW : Wd t f r p n g dyn := ⟨hT, hF, hC, hS, hO, hV, hR, hK⟩
  obtain ⟨⟨v, hv, w1, w2, w3⟩, hP2, hP3, hP4⟩ := id hP
  obtain ⟨d', rfl, hd1⟩ := iv_dn (show 99 + 1 ≤ d by omega)
  have e88 := x88 (g := g) (dyn := dyn) (s := (n, z)) (D := d') (x := x) (by omega) w1
  have e25 := fun g' => x25 (w := (gh g' dyn, n, z)) (D := d') (x := x) (y := nI 0) (z := nI v - nI 1) (by omega)
  simp only [inb_0 (n := v) (show v < 2 ^ 30 by omega)] at e25
  cases hx : ixb x v with
  | false =>
    simp only [hx] at e88 e25
    refine lw_mk h0 (v := -1) (g1 := g) (n1 := n) (z1 := z) ?_ h0 (g2 := g) ?_ ⟨_, f, r, _, g, dyn, n, z, rfl, h0, hn, by omega, by omega, hT, hF, hC, hS, hO, hV, hR, hK, hP⟩
    · rw [en_22]
      simp (disch := omega) only [f22_0, f22_1, f22_2, f22_3, f22_4, f22_5, f22_6, f22_7, f22_8, f22_9, f22_10, f22_11, f22_12, f22_13, f22_14, f22_15, f22_16, f22_17, f22_18, f22_19, f22_20, f22_21, f22_22, f22_23, f22_24, f22_25, f22_26, f22_27, f22_28, f22_29, f22_30, f22_31, f22_32, gf_1_4', gf_77_5', gf_77_4', la_3, la_17, la_18, la_19, la_45, la_52, la_54, la_153, la_154, la_156, la_157, la_6, la_21, la_48, la_56, la_67, la_79, la_105, al_4', al_20', al_37', al_46', al_55', al_66', al_78', al_103', rc_1, rc_2, rc_35, rc_44, rc_51, rc_53, rc_77, rc_152, rc_155, rc_5, rc_47, rc_104, rc_38, ni_pred, kv_e, kx_e, kw_e, kn_e, ct_s, ct_v, cr_t, q_ri, q_rz0', q_rz1', q_rb, q_rv, Nat.add_sub_cancel_left, ni_m1lt, ni_m1le, ni_ltm1, ni_lem1, Nat.add_sub_cancel, nI_add, pk_mul, ni_sub, ni_lt, ni_le, ni_eq, ni_m1, ni_m1', nd_lt_t, nd_lt_f, nd_le_t, nd_le_f, nd_eq_t, nd_eq_f, bI_t', bI_f', bI_0', ↓reduceIte, not_true_eq_false, not_false_eq_true, reduceCtorEq, Bool.true_and, Bool.and_true, Bool.false_and, Bool.and_false, Bool.true_or, Bool.or_true, Bool.false_or, Bool.or_false, decide_true, decide_false, gu_ne, gu_eq, e88]
    · rw [en_63]
      simp (disch := omega) only [f63_0, f63_1, f63_2, f63_3, f63_4, f63_5, f63_6, f63_7, f63_8, f63_9, f63_10, f63_11, f63_12, f63_13, f63_14, f63_15, f63_16, f63_17, f63_19, f63_20, f63_21, f63_22, f63_23, f63_24, f63_25, f63_26, f63_27, f63_28, f63_29, f63_30, f63_31, f63_32, f63_33, f63_34, f63_35, f63_36, f63_37, f63_38, f63_39, f63_40, f63_41, f63_42, f63_43, f63_44, f63_45, f63_46, f63_47, f63_48, f63_49, f63_50, f63_51, f63_52, f63_53, f63_54, f63_55, f63_56, f63_57, f63_58, f63_59, f63_60, f63_61, f63_62, f63_63, f63_64, f63_65, f63_66, f63_67, f63_68, f63_69, f63_70, f63_71, f63_72, f63_73, f63_74, f63_75, f63_76, f63_77, f63_78, f63_79, f63_80, f63_81, gf_158_41', pf_158_47', gf_158_43', la_195, gf_158_44', la_196, gf_158_45', la_197, gf_158_42', la_194, gf_158_47', gf_158_46', la_198, rc_158, ni_pred, kv_e, kx_e, kw_e, kn_e, ct_s, ct_v, cr_t, q_ri, q_rz0', q_rz1', q_rb, q_rv, Nat.add_sub_cancel_left, ni_m1lt, ni_m1le, ni_ltm1, ni_lem1, Nat.add_sub_cancel, nI_add, pk_mul, ni_lt, ni_le, ni_eq, ni_m1, ni_m1', nd_lt_t, nd_lt_f, nd_le_t, nd_le_f, nd_eq_t, nd_eq_f, bI_t', bI_f', bI_0', ↓reduceIte, not_true_eq_false, not_false_eq_true, reduceCtorEq, Bool.true_and, Bool.and_true, Bool.false_and, Bool.and_false, Bool.true_or, Bool.or_true, Bool.false_or, Bool.or_false, decide_true, decide_false, gu_ne, gu_eq, w2, e25]
  | true =>
    simp only [hx] at e88 e25
    obtain ⟨k, hk, rfl⟩ := ixb_of hx (by omega)
    obtain ⟨f1, ⟨fd, f2, f3⟩, f4, m, m1, m2, m3, m4⟩ := w3 k hk
    have hQ : ∀ i, i < m → (wyQ g k i).1 < 14 ∧ (wyQ g k i).2 < 4 ∧ g 105 k i = nI (4 * (wyQ g k i).1 + (wyQ g k i).2) ∧ g 196 0 (16 * k + i) = nI (wyQ g k i).1 ∧ g 197 0 (16 * k + i) = nI (wyQ g k i).2 - nI 1 := by
      intro i hi
      obtain ⟨a, b, a1, a2, a3, a4, a5⟩ := m4 i hi
      have e1 : wyQ g k i = (a, b) := by
        unfold wyQ
        rw [a3, nI_clamp (by omega)]
        exact Prod.ext (by show (4 * a + b) / 4 = a; omega) (by show (4 * a + b) % 4 = b; omega)
      rw [e1]
      exact ⟨a1, a2, a3, a4, a5⟩
    obtain ⟨pl, hpl, hxp⟩ : ∃ pl, pl < 4 ∧ ((pl = 0 ∧ g 79 k 2 = -1) ∨ (1 ≤ pl ∧ g 79 k 2 = nI (pl - 1))) := by
      rcases f4 with h | ⟨e, he, h⟩
      · exact ⟨0, by omega, .inl ⟨rfl, h⟩⟩
      · exact ⟨e + 1, by omega, .inr ⟨by omega, by rw [h, Nat.add_sub_cancel]⟩⟩
    obtain ⟨T, hTd⟩ : ∃ T, T = wyL (wyQ g k) m 0 [] ++ stT fd pl := ⟨_, rfl⟩
    have hTl : T.length ≤ 111 := by
      have h1 := wyL_le (q := wyQ g k) m 0 []
      have h2 := stT_le (fd := fd) (pl := pl)
      rw [hTd, List.length_append]
      simp only [List.length_nil] at h1
      omega
    obtain ⟨ga, a1, a2, a3⟩ := c91 (dyn := dyn) (s := (n, z)) (D := d') (by omega) (show k < 24 by omega) m1 m2 (fun i hi => ⟨(hQ i hi).1, (hQ i hi).2.1, (hQ i hi).2.2.1⟩) f2 hpl f3 rfl hxp
    rw [← hTd] at a2
    -- the reference, from any state like g
    have href : ∀ gc, (∀ b, b ≠ 154 → b ≠ 278 → gc b = g b) → ∃ ge, (∀ D, D = d' → iv_V (iv_X D) mc_63 (some .int) 18 [.ref 158, .int (nI k), .int y, .int (nI 0)] [] (gh (gu gc 447 0 0 (nI 0)) dyn, n, z) = iv_V (iv_X D) mc_63 (some .int) 65 [.ref 158, .int (nI k), .int y, .int (nI m)] [] (gh ge dyn, n, z)) ∧ txB ge T ∧ fU gc ge := by
      intro gc hgc
      have hb := fun b (h1 : b ≠ 154) (h2 : b ≠ 278) (h3 : b ≠ 447) => (gu_ne (g := gc) (r := 0) (j := 0) (v := nI 0) h3).trans (hgc b h1 h2)
      obtain ⟨g1, i1, i2, i3⟩ := lp63 (dyn := dyn) (s := (n, z)) (D := d') (v2 := y) (g0 := gu gc 447 0 0 (nI 0)) (q := wyQ g k) (by omega) (show k < 24 by omega) m1 (by rw [hb 195 (by decide) (by decide) (by decide)]; exact m3) (fun i hi => by
        rw [hb 196 (by decide) (by decide) (by decide), hb 197 (by decide) (by decide) (by decide)]
        exact ⟨(hQ i hi).1, (hQ i hi).2.1, (hQ i hi).2.2.2.1, (hQ i hi).2.2.2.2⟩) m 0 (gu gc 447 0 0 (nI 0)) [] (by omega) fU_rf (by simp only [List.length_nil]; omega) ⟨gu_eq, fun j v hv => by simp at hv⟩
      have hl := wyL_le (q := wyQ g k) m 0 []
      simp only [List.length_nil] at hl
      obtain ⟨g2, j1, j2, j3⟩ := m62 (g := g1) (dyn := dyn) (s := (n, z)) (D := d') (by omega) f2 hpl hxp (by omega) i2
      rw [← hTd] at j2
      refine ⟨g2, ?_, j2, fU_tr (fun b h1 h2 => gu_ne h2) (fU_tr i3 j3)⟩
      intro D hD
      subst hD
      rw [i1]
      have q194 := i3 194 (by decide) (by decide)
      rw [hb 194 (by decide) (by decide) (by decide)] at q194
      have t1 := f1 1 (by omega)
      have t2 := f1 2 (by omega)
      rw [f3] at t1
      simp (disch := omega) only [f63_0, f63_1, f63_2, f63_3, f63_4, f63_5, f63_6, f63_7, f63_8, f63_9, f63_10, f63_11, f63_12, f63_13, f63_14, f63_15, f63_16, f63_17, f63_19, f63_20, f63_21, f63_22, f63_23, f63_24, f63_25, f63_26, f63_27, f63_28, f63_29, f63_30, f63_31, f63_32, f63_33, f63_34, f63_35, f63_36, f63_37, f63_38, f63_39, f63_40, f63_41, f63_42, f63_43, f63_44, f63_45, f63_46, f63_47, f63_48, f63_49, f63_50, f63_51, f63_52, f63_53, f63_54, f63_55, f63_56, f63_57, f63_58, f63_59, f63_60, f63_61, f63_62, f63_63, f63_64, f63_66, f63_67, f63_68, f63_69, f63_70, f63_71, f63_72, f63_73, f63_74, f63_75, f63_76, f63_77, f63_78, f63_79, f63_80, f63_81, gf_158_41', pf_158_47', gf_158_43', la_195, gf_158_44', la_196, gf_158_45', la_197, gf_158_42', la_194, gf_158_47', gf_158_46', la_198, rc_158, ni_pred, kv_e, kx_e, kw_e, kn_e, ct_s, ct_v, cr_t, q_ri, q_rz0', q_rz1', q_rb, q_rv, Nat.add_sub_cancel_left, ni_m1lt, ni_m1le, ni_ltm1, ni_lem1, Nat.add_sub_cancel, nI_add, pk_mul, ni_lt, ni_le, ni_eq, ni_m1, ni_m1', nd_lt_t, nd_lt_f, nd_le_t, nd_le_f, nd_eq_t, nd_eq_f, bI_t', bI_f', bI_0', ↓reduceIte, not_true_eq_false, not_false_eq_true, reduceCtorEq, Bool.true_and, Bool.and_true, Bool.false_and, Bool.and_false, Bool.true_or, Bool.or_true, Bool.false_or, Bool.or_false, decide_true, decide_false, gu_ne, gu_eq, q194, t1, t2, j1]
    have hiv : ∀ ge, fU ga ge → Iv L xs (N + 1) (gh ge dyn, n, z) := by
      intro ge hge
      have hb : ∀ b, b ≠ 154 → b ≠ 278 → b ≠ 198 → b ≠ 447 → ge b = g b := fun b h1 h2 h3 h4 => (hge b h3 h4).trans (a3 b h1 h2)
      exact Iv_of h0 hn hn' hz hW (wd_tr (fT_wd a3) (fU_wd hge)) (iRp_fr hP (hb 277 (by decide) (by decide) (by decide) (by decide)) (hb 441 (by decide) (by decide) (by decide) (by decide)) (hb 79 (by decide) (by decide) (by decide) (by decide)) (hb 194 (by decide) (by decide) (by decide) (by decide)) (hb 304 (by decide) (by decide) (by decide) (by decide)) (hb 195 (by decide) (by decide) (by decide) (by decide)) (hb 105 (by decide) (by decide) (by decide) (by decide)) (hb 196 (by decide) (by decide) (by decide) (by decide)) (hb 197 (by decide) (by decide) (by decide) (by decide)) (hb 356 (by decide) (by decide) (by decide) (by decide)) (hb 439 (by decide) (by decide) (by decide) (by decide)) (hb 355 (by decide) (by decide) (by decide) (by decide)) (hb 352 (by decide) (by decide) (by decide) (by decide)))
    have h278 := a2.1
    have w2' : ga 441 0 0 = nI v := by rw [a3 441 (by decide) (by decide)]; exact w2
    by_cases hy1 : y = -1
    · subst hy1
      obtain ⟨ge, c1, c2, c3⟩ := href ga a3
      have h447 := c2.1
      refine lw_mk h0 (v := nI T.length) (g1 := ga) (n1 := n) (z1 := z) ?_ h0 (g2 := ge) ?_ (hiv ge c3)
      · rw [en_22]
        simp (disch := omega) only [f22_0, f22_1, f22_2, f22_3, f22_4, f22_5, f22_6, f22_7, f22_8, f22_9, f22_10, f22_11, f22_12, f22_13, f22_14, f22_15, f22_16, f22_17, f22_18, f22_19, f22_20, f22_21, f22_22, f22_23, f22_24, f22_25, f22_26, f22_27, f22_28, f22_29, f22_30, f22_31, f22_32, gf_1_4', gf_77_5', gf_77_4', la_3, la_17, la_18, la_19, la_45, la_52, la_54, la_153, la_154, la_156, la_157, la_6, la_21, la_48, la_56, la_67, la_79, la_105, al_4', al_20', al_37', al_46', al_55', al_66', al_78', al_103', rc_1, rc_2, rc_35, rc_44, rc_51, rc_53, rc_77, rc_152, rc_155, rc_5, rc_47, rc_104, rc_38, ni_pred, kv_e, kx_e, kw_e, kn_e, ct_s, ct_v, cr_t, q_ri, q_rz0', q_rz1', q_rb, q_rv, Nat.add_sub_cancel_left, ni_m1lt, ni_m1le, ni_ltm1, ni_lem1, Nat.add_sub_cancel, nI_add, pk_mul, ni_sub, ni_lt, ni_le, ni_eq, ni_m1, ni_m1', nd_lt_t, nd_lt_f, nd_le_t, nd_le_f, nd_eq_t, nd_eq_f, bI_t', bI_f', bI_0', ↓reduceIte, not_true_eq_false, not_false_eq_true, reduceCtorEq, Bool.true_and, Bool.and_true, Bool.false_and, Bool.and_false, Bool.true_or, Bool.or_true, Bool.false_or, Bool.or_false, decide_true, decide_false, gu_ne, gu_eq, e88, a1, h278]
      · rw [en_63]
        have c1' := c1 d' rfl
        have nm : ((-1 : Int32) ≤ -1) = True := eq_true (by decide)
        simp (disch := omega) only [f63_0, f63_1, f63_2, f63_3, f63_4, f63_5, f63_6, f63_7, f63_8, f63_9, f63_10, f63_11, f63_12, f63_13, f63_14, f63_15, f63_16, f63_17, f63_19, f63_20, f63_21, f63_22, f63_23, f63_24, f63_25, f63_26, f63_27, f63_28, f63_29, f63_30, f63_31, f63_32, f63_33, f63_34, f63_35, f63_36, f63_37, f63_38, f63_39, f63_40, f63_41, f63_42, f63_43, f63_44, f63_45, f63_46, f63_47, f63_48, f63_49, f63_50, f63_51, f63_52, f63_53, f63_54, f63_55, f63_56, f63_57, f63_58, f63_59, f63_60, f63_61, f63_62, f63_63, f63_64, f63_66, f63_67, f63_68, f63_69, f63_70, f63_71, f63_72, f63_73, f63_74, f63_75, f63_76, f63_77, f63_78, f63_79, f63_80, f63_81, gf_158_41', pf_158_47', gf_158_43', la_195, gf_158_44', la_196, gf_158_45', la_197, gf_158_42', la_194, gf_158_47', gf_158_46', la_198, rc_158, ni_pred, kv_e, kx_e, kw_e, kn_e, ct_s, ct_v, cr_t, q_ri, q_rz0', q_rz1', q_rb, q_rv, Nat.add_sub_cancel_left, ni_m1lt, ni_m1le, ni_ltm1, ni_lem1, Nat.add_sub_cancel, nI_add, pk_mul, ni_lt, ni_le, ni_eq, ni_m1, ni_m1', nd_lt_t, nd_lt_f, nd_le_t, nd_le_f, nd_eq_t, nd_eq_f, bI_t', bI_f', bI_0', ↓reduceIte, not_true_eq_false, not_false_eq_true, reduceCtorEq, Bool.true_and, Bool.and_true, Bool.false_and, Bool.and_false, Bool.true_or, Bool.or_true, Bool.false_or, Bool.or_false, decide_true, decide_false, gu_ne, gu_eq, w2', e25, c1', nm]
        simp (disch := omega) only [f63_0, f63_1, f63_2, f63_3, f63_4, f63_5, f63_6, f63_7, f63_8, f63_9, f63_10, f63_11, f63_12, f63_13, f63_14, f63_15, f63_16, f63_17, f63_19, f63_20, f63_21, f63_22, f63_23, f63_24, f63_25, f63_26, f63_27, f63_28, f63_29, f63_30, f63_31, f63_32, f63_33, f63_34, f63_35, f63_36, f63_37, f63_38, f63_39, f63_40, f63_41, f63_42, f63_43, f63_44, f63_45, f63_46, f63_47, f63_48, f63_49, f63_50, f63_51, f63_52, f63_53, f63_54, f63_55, f63_56, f63_57, f63_58, f63_59, f63_60, f63_61, f63_62, f63_63, f63_64, f63_65, f63_66, f63_67, f63_68, f63_69, f63_70, f63_71, f63_72, f63_73, f63_74, f63_75, f63_76, f63_77, f63_78, f63_79, f63_80, f63_81, gf_158_41', pf_158_47', gf_158_43', la_195, gf_158_44', la_196, gf_158_45', la_197, gf_158_42', la_194, gf_158_47', gf_158_46', la_198, rc_158, ni_pred, kv_e, kx_e, kw_e, kn_e, ct_s, ct_v, cr_t, q_ri, q_rz0', q_rz1', q_rb, q_rv, Nat.add_sub_cancel_left, ni_m1lt, ni_m1le, ni_ltm1, ni_lem1, Nat.add_sub_cancel, nI_add, pk_mul, ni_lt, ni_le, ni_eq, ni_m1, ni_m1', nd_lt_t, nd_lt_f, nd_le_t, nd_le_f, nd_eq_t, nd_eq_f, bI_t', bI_f', bI_0', ↓reduceIte, not_true_eq_false, not_false_eq_true, reduceCtorEq, Bool.true_and, Bool.and_true, Bool.false_and, Bool.and_false, Bool.true_or, Bool.or_true, Bool.false_or, Bool.or_false, decide_true, decide_false, gu_ne, gu_eq, h447]
    · by_cases hyn : y < nI 0
      · -- below the places
        have hyn2 : ¬ (-1 : Int32) ≤ y := by
          intro h
          rw [Int32.le_iff_toInt_le] at h
          rw [Int32.lt_iff_toInt_lt] at hyn
          have e1 : (-1 : Int32).toInt = -1 := by decide
          have e2 : (nI 0).toInt = 0 := by decide
          apply hy1
          apply Int32.toInt_inj.mp
          omega
        refine lw_mk h0 (v := -1) (g1 := ga) (n1 := n) (z1 := z) ?_ h0 (g2 := ga) ?_ (hiv ga fU_rf)
        · rw [en_22]
          simp (disch := omega) only [f22_0, f22_1, f22_2, f22_3, f22_4, f22_5, f22_6, f22_7, f22_8, f22_9, f22_10, f22_11, f22_12, f22_13, f22_14, f22_15, f22_16, f22_17, f22_18, f22_19, f22_20, f22_21, f22_22, f22_23, f22_24, f22_25, f22_26, f22_27, f22_28, f22_29, f22_30, f22_31, f22_32, gf_1_4', gf_77_5', gf_77_4', la_3, la_17, la_18, la_19, la_45, la_52, la_54, la_153, la_154, la_156, la_157, la_6, la_21, la_48, la_56, la_67, la_79, la_105, al_4', al_20', al_37', al_46', al_55', al_66', al_78', al_103', rc_1, rc_2, rc_35, rc_44, rc_51, rc_53, rc_77, rc_152, rc_155, rc_5, rc_47, rc_104, rc_38, ni_pred, kv_e, kx_e, kw_e, kn_e, ct_s, ct_v, cr_t, q_ri, q_rz0', q_rz1', q_rb, q_rv, Nat.add_sub_cancel_left, ni_m1lt, ni_m1le, ni_ltm1, ni_lem1, Nat.add_sub_cancel, nI_add, pk_mul, ni_sub, ni_lt, ni_le, ni_eq, ni_m1, ni_m1', nd_lt_t, nd_lt_f, nd_le_t, nd_le_f, nd_eq_t, nd_eq_f, bI_t', bI_f', bI_0', ↓reduceIte, not_true_eq_false, not_false_eq_true, reduceCtorEq, Bool.true_and, Bool.and_true, Bool.false_and, Bool.and_false, Bool.true_or, Bool.or_true, Bool.false_or, Bool.or_false, decide_true, decide_false, gu_ne, gu_eq, e88, a1, h278, hy1, hyn, if_true, if_false]
        · rw [en_63]
          simp (disch := omega) only [f63_0, f63_1, f63_2, f63_3, f63_4, f63_5, f63_6, f63_7, f63_8, f63_9, f63_10, f63_11, f63_12, f63_13, f63_14, f63_15, f63_16, f63_17, f63_19, f63_20, f63_21, f63_22, f63_23, f63_24, f63_25, f63_26, f63_27, f63_28, f63_29, f63_30, f63_31, f63_32, f63_33, f63_34, f63_35, f63_36, f63_37, f63_38, f63_39, f63_40, f63_41, f63_42, f63_43, f63_44, f63_45, f63_46, f63_47, f63_48, f63_49, f63_50, f63_51, f63_52, f63_53, f63_54, f63_55, f63_56, f63_57, f63_58, f63_59, f63_60, f63_61, f63_62, f63_63, f63_64, f63_66, f63_67, f63_68, f63_69, f63_70, f63_71, f63_72, f63_73, f63_74, f63_75, f63_76, f63_77, f63_78, f63_79, f63_80, f63_81, gf_158_41', pf_158_47', gf_158_43', la_195, gf_158_44', la_196, gf_158_45', la_197, gf_158_42', la_194, gf_158_47', gf_158_46', la_198, rc_158, ni_pred, kv_e, kx_e, kw_e, kn_e, ct_s, ct_v, cr_t, q_ri, q_rz0', q_rz1', q_rb, q_rv, Nat.add_sub_cancel_left, ni_m1lt, ni_m1le, ni_ltm1, ni_lem1, Nat.add_sub_cancel, nI_add, pk_mul, ni_lt, ni_le, ni_eq, ni_m1, ni_m1', nd_lt_t, nd_lt_f, nd_le_t, nd_le_f, nd_eq_t, nd_eq_f, bI_t', bI_f', bI_0', ↓reduceIte, not_true_eq_false, not_false_eq_true, reduceCtorEq, Bool.true_and, Bool.and_true, Bool.false_and, Bool.and_false, Bool.true_or, Bool.or_true, Bool.false_or, Bool.or_false, decide_true, decide_false, gu_ne, gu_eq, w2', e25, hyn2, if_false]
      · have hyn2 : (-1 : Int32) ≤ y := by
          rw [Int32.le_iff_toInt_le]
          rw [Int32.lt_iff_toInt_lt] at hyn
          have e1 : (-1 : Int32).toInt = -1 := by decide
          have e2 : (nI 0).toInt = 0 := by decide
          omega
        obtain ⟨ge, c1, c2, c3⟩ := href ga a3
        have h447 := c2.1
        have c1' := c1 d' rfl
        by_cases hyl : y < nI T.length
        · obtain ⟨j, hj, rfl⟩ : ∃ j, j < T.length ∧ y = nI j := ixb_of (by
            simp only [ixb, decide_eq_true_eq]
            exact ⟨i3_lt hyn, hyl⟩) (by omega)
          have hTj : T[j]? = some T[j] := List.getElem?_eq_getElem hj
          have ha := a2.2 j _ hTj
          have hb := c2.2 j _ hTj
          refine lw_mk h0 (v := T[j]) (g1 := ga) (n1 := n) (z1 := z) ?_ h0 (g2 := ge) ?_ (hiv ge c3)
          · rw [en_22]
            simp (disch := omega) only [f22_0, f22_1, f22_2, f22_3, f22_4, f22_5, f22_6, f22_7, f22_8, f22_9, f22_10, f22_11, f22_12, f22_13, f22_14, f22_15, f22_16, f22_17, f22_18, f22_19, f22_20, f22_21, f22_22, f22_23, f22_24, f22_25, f22_26, f22_27, f22_28, f22_29, f22_30, f22_31, f22_32, gf_1_4', gf_77_5', gf_77_4', la_3, la_17, la_18, la_19, la_45, la_52, la_54, la_153, la_154, la_156, la_157, la_6, la_21, la_48, la_56, la_67, la_79, la_105, al_4', al_20', al_37', al_46', al_55', al_66', al_78', al_103', rc_1, rc_2, rc_35, rc_44, rc_51, rc_53, rc_77, rc_152, rc_155, rc_5, rc_47, rc_104, rc_38, ni_pred, kv_e, kx_e, kw_e, kn_e, ct_s, ct_v, cr_t, q_ri, q_rz0', q_rz1', q_rb, q_rv, Nat.add_sub_cancel_left, ni_m1lt, ni_m1le, ni_ltm1, ni_lem1, Nat.add_sub_cancel, nI_add, pk_mul, ni_sub, ni_lt, ni_le, ni_eq, ni_m1, ni_m1', nd_lt_t, nd_lt_f, nd_le_t, nd_le_f, nd_eq_t, nd_eq_f, bI_t', bI_f', bI_0', ↓reduceIte, not_true_eq_false, not_false_eq_true, reduceCtorEq, Bool.true_and, Bool.and_true, Bool.false_and, Bool.and_false, Bool.true_or, Bool.or_true, Bool.false_or, Bool.or_false, decide_true, decide_false, gu_ne, gu_eq, e88, a1, h278, ha]
          · rw [en_63]
            simp (disch := omega) only [f63_0, f63_1, f63_2, f63_3, f63_4, f63_5, f63_6, f63_7, f63_8, f63_9, f63_10, f63_11, f63_12, f63_13, f63_14, f63_15, f63_16, f63_17, f63_19, f63_20, f63_21, f63_22, f63_23, f63_24, f63_25, f63_26, f63_27, f63_28, f63_29, f63_30, f63_31, f63_32, f63_33, f63_34, f63_35, f63_36, f63_37, f63_38, f63_39, f63_40, f63_41, f63_42, f63_43, f63_44, f63_45, f63_46, f63_47, f63_48, f63_49, f63_50, f63_51, f63_52, f63_53, f63_54, f63_55, f63_56, f63_57, f63_58, f63_59, f63_60, f63_61, f63_62, f63_63, f63_64, f63_66, f63_67, f63_68, f63_69, f63_70, f63_71, f63_72, f63_73, f63_74, f63_75, f63_76, f63_77, f63_78, f63_79, f63_80, f63_81, gf_158_41', pf_158_47', gf_158_43', la_195, gf_158_44', la_196, gf_158_45', la_197, gf_158_42', la_194, gf_158_47', gf_158_46', la_198, rc_158, ni_pred, kv_e, kx_e, kw_e, kn_e, ct_s, ct_v, cr_t, q_ri, q_rz0', q_rz1', q_rb, q_rv, Nat.add_sub_cancel_left, ni_m1lt, ni_m1le, ni_ltm1, ni_lem1, Nat.add_sub_cancel, nI_add, pk_mul, ni_lt, ni_le, ni_eq, ni_m1, ni_m1', nd_lt_t, nd_lt_f, nd_le_t, nd_le_f, nd_eq_t, nd_eq_f, bI_t', bI_f', bI_0', ↓reduceIte, not_true_eq_false, not_false_eq_true, reduceCtorEq, Bool.true_and, Bool.and_true, Bool.false_and, Bool.and_false, Bool.true_or, Bool.or_true, Bool.false_or, Bool.or_false, decide_true, decide_false, gu_ne, gu_eq, w2', e25, c1']
            simp (disch := omega) only [f63_0, f63_1, f63_2, f63_3, f63_4, f63_5, f63_6, f63_7, f63_8, f63_9, f63_10, f63_11, f63_12, f63_13, f63_14, f63_15, f63_16, f63_17, f63_19, f63_20, f63_21, f63_22, f63_23, f63_24, f63_25, f63_26, f63_27, f63_28, f63_29, f63_30, f63_31, f63_32, f63_33, f63_34, f63_35, f63_36, f63_37, f63_38, f63_39, f63_40, f63_41, f63_42, f63_43, f63_44, f63_45, f63_46, f63_47, f63_48, f63_49, f63_50, f63_51, f63_52, f63_53, f63_54, f63_55, f63_56, f63_57, f63_58, f63_59, f63_60, f63_61, f63_62, f63_63, f63_64, f63_65, f63_66, f63_67, f63_68, f63_69, f63_70, f63_71, f63_72, f63_73, f63_74, f63_75, f63_76, f63_77, f63_78, f63_79, f63_80, f63_81, gf_158_41', pf_158_47', gf_158_43', la_195, gf_158_44', la_196, gf_158_45', la_197, gf_158_42', la_194, gf_158_47', gf_158_46', la_198, rc_158, ni_pred, kv_e, kx_e, kw_e, kn_e, ct_s, ct_v, cr_t, q_ri, q_rz0', q_rz1', q_rb, q_rv, Nat.add_sub_cancel_left, ni_m1lt, ni_m1le, ni_ltm1, ni_lem1, Nat.add_sub_cancel, nI_add, pk_mul, ni_lt, ni_le, ni_eq, ni_m1, ni_m1', nd_lt_t, nd_lt_f, nd_le_t, nd_le_f, nd_eq_t, nd_eq_f, bI_t', bI_f', bI_0', ↓reduceIte, not_true_eq_false, not_false_eq_true, reduceCtorEq, Bool.true_and, Bool.and_true, Bool.false_and, Bool.and_false, Bool.true_or, Bool.or_true, Bool.false_or, Bool.or_false, decide_true, decide_false, gu_ne, gu_eq, h447, hb]
        · have hyl' : nI T.length ≤ y := i3_lt hyl
          refine lw_mk h0 (v := -1) (g1 := ga) (n1 := n) (z1 := z) ?_ h0 (g2 := ge) ?_ (hiv ge c3)
          · rw [en_22]
            simp (disch := omega) only [f22_0, f22_1, f22_2, f22_3, f22_4, f22_5, f22_6, f22_7, f22_8, f22_9, f22_10, f22_11, f22_12, f22_13, f22_14, f22_15, f22_16, f22_17, f22_18, f22_19, f22_20, f22_21, f22_22, f22_23, f22_24, f22_25, f22_26, f22_27, f22_28, f22_29, f22_30, f22_31, f22_32, gf_1_4', gf_77_5', gf_77_4', la_3, la_17, la_18, la_19, la_45, la_52, la_54, la_153, la_154, la_156, la_157, la_6, la_21, la_48, la_56, la_67, la_79, la_105, al_4', al_20', al_37', al_46', al_55', al_66', al_78', al_103', rc_1, rc_2, rc_35, rc_44, rc_51, rc_53, rc_77, rc_152, rc_155, rc_5, rc_47, rc_104, rc_38, ni_pred, kv_e, kx_e, kw_e, kn_e, ct_s, ct_v, cr_t, q_ri, q_rz0', q_rz1', q_rb, q_rv, Nat.add_sub_cancel_left, ni_m1lt, ni_m1le, ni_ltm1, ni_lem1, Nat.add_sub_cancel, nI_add, pk_mul, ni_sub, ni_lt, ni_le, ni_eq, ni_m1, ni_m1', nd_lt_t, nd_lt_f, nd_le_t, nd_le_f, nd_eq_t, nd_eq_f, bI_t', bI_f', bI_0', ↓reduceIte, not_true_eq_false, not_false_eq_true, reduceCtorEq, Bool.true_and, Bool.and_true, Bool.false_and, Bool.and_false, Bool.true_or, Bool.or_true, Bool.false_or, Bool.or_false, decide_true, decide_false, gu_ne, gu_eq, e88, a1, h278, hy1, hyn, hyl, if_false]
          · rw [en_63]
            simp (disch := omega) only [f63_0, f63_1, f63_2, f63_3, f63_4, f63_5, f63_6, f63_7, f63_8, f63_9, f63_10, f63_11, f63_12, f63_13, f63_14, f63_15, f63_16, f63_17, f63_19, f63_20, f63_21, f63_22, f63_23, f63_24, f63_25, f63_26, f63_27, f63_28, f63_29, f63_30, f63_31, f63_32, f63_33, f63_34, f63_35, f63_36, f63_37, f63_38, f63_39, f63_40, f63_41, f63_42, f63_43, f63_44, f63_45, f63_46, f63_47, f63_48, f63_49, f63_50, f63_51, f63_52, f63_53, f63_54, f63_55, f63_56, f63_57, f63_58, f63_59, f63_60, f63_61, f63_62, f63_63, f63_64, f63_66, f63_67, f63_68, f63_69, f63_70, f63_71, f63_72, f63_73, f63_74, f63_75, f63_76, f63_77, f63_78, f63_79, f63_80, f63_81, gf_158_41', pf_158_47', gf_158_43', la_195, gf_158_44', la_196, gf_158_45', la_197, gf_158_42', la_194, gf_158_47', gf_158_46', la_198, rc_158, ni_pred, kv_e, kx_e, kw_e, kn_e, ct_s, ct_v, cr_t, q_ri, q_rz0', q_rz1', q_rb, q_rv, Nat.add_sub_cancel_left, ni_m1lt, ni_m1le, ni_ltm1, ni_lem1, Nat.add_sub_cancel, nI_add, pk_mul, ni_lt, ni_le, ni_eq, ni_m1, ni_m1', nd_lt_t, nd_lt_f, nd_le_t, nd_le_f, nd_eq_t, nd_eq_f, bI_t', bI_f', bI_0', ↓reduceIte, not_true_eq_false, not_false_eq_true, reduceCtorEq, Bool.true_and, Bool.and_true, Bool.false_and, Bool.and_false, Bool.true_or, Bool.or_true, Bool.false_or, Bool.or_false, decide_true, decide_false, gu_ne, gu_eq, w2', e25, c1', hyn2, if_true]
            simp (disch := omega) only [f63_0, f63_1, f63_2, f63_3, f63_4, f63_5, f63_6, f63_7, f63_8, f63_9, f63_10, f63_11, f63_12, f63_13, f63_14, f63_15, f63_16, f63_17, f63_19, f63_20, f63_21, f63_22, f63_23, f63_24, f63_25, f63_26, f63_27, f63_28, f63_29, f63_30, f63_31, f63_32, f63_33, f63_34, f63_35, f63_36, f63_37, f63_38, f63_39, f63_40, f63_41, f63_42, f63_43, f63_44, f63_45, f63_46, f63_47, f63_48, f63_49, f63_50, f63_51, f63_52, f63_53, f63_54, f63_55, f63_56, f63_57, f63_58, f63_59, f63_60, f63_61, f63_62, f63_63, f63_64, f63_65, f63_66, f63_67, f63_68, f63_69, f63_70, f63_71, f63_72, f63_73, f63_74, f63_75, f63_76, f63_77, f63_78, f63_79, f63_80, f63_81, gf_158_41', pf_158_47', gf_158_43', la_195, gf_158_44', la_196, gf_158_45', la_197, gf_158_42', la_194, gf_158_47', gf_158_46', la_198, rc_158, ni_pred, kv_e, kx_e, kw_e, kn_e, ct_s, ct_v, cr_t, q_ri, q_rz0', q_rz1', q_rb, q_rv, Nat.add_sub_cancel_left, ni_m1lt, ni_m1le, ni_ltm1, ni_lem1, Nat.add_sub_cancel, nI_add, pk_mul, ni_lt, ni_le, ni_eq, ni_m1, ni_m1', nd_lt_t, nd_lt_f, nd_le_t, nd_le_f, nd_eq_t, nd_eq_f, bI_t', bI_f', bI_0', ↓reduceIte, not_true_eq_false, not_false_eq_true, reduceCtorEq, Bool.true_and, Bool.and_true, Bool.false_and, Bool.and_false, Bool.true_or, Bool.or_true, Bool.false_or, Bool.or_false, decide_true, decide_false, gu_ne, gu_eq, h447, hy1, hyl', if_false, if_true]
