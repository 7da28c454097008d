/-! switches, calls, ends; then whole runs -/
def iv_rm (d mc ms : Nat) : Room := { frames := d, cells := mc, slots := ms, locals := 64 * d }
def iv_Pc (D : va_G) (b z : Nat) (w : iv_S) (as : List Value) : Array Value → State → Prop := fun x U => x = (as.map (iv_mv (iv_r b z))).toArray ∧ iv_rep D b z U w U.heap ∧ iv_Kw D U
def iv_Qc (D : va_G) (b z : Nat) (w' : iv_S) (v : Option Value) : Array Value → State → Outcome → State → Prop := fun _ _ o t => o = .returned (v.map (iv_mv (iv_r b z))) ∧ iv_rep D b z t w' t.heap
def iv_Met (l : Launch) (D : va_G) (b z d x : Nat) (as : List Value) (w : iv_S) (v : Option Value) (w' : iv_S) : Prop := iv_le w w' ∧ ∃ (mL : Nat) (rt : Option FieldType) (code : List iv_I), iv_M x = some (mL, rt, code) ∧ Met l (iv_N x).1 [.code (iv_N x).1 (iv_N x).2 mL rt] (iv_rm d (w'.2.1 - w.2.1) (w'.2.2 - w.2.2)) (iv_Pc D b z w as) (iv_Qc D b z w' v) (w'.2.1 - w.2.1) (w'.2.2 - w.2.2) (fun q => z ≤ q)
theorem iv_blind {D : va_G} {b z : Nat} {w : iv_S} {as : List Value} : FrameBlind (iv_Pc D b z w as) := fun a U g mk h => ⟨h.1, iv_rep.moved (s := U) (U := U.calling g mk a) (Vm.Alike.refl U.vm) h.2.1, iv_Kw.moved (s := U) (U := U.calling g mk a) (State.WarmedH.refl U) h.2.2⟩
theorem iv_le.trans {w w1 w2 : iv_S} (h : iv_le w w1) (h' : iv_le w1 w2) : iv_le w w2 := ⟨Nat.le_trans h.1 h'.1, Nat.le_trans h.2 h'.2⟩
theorem iv_sum {r : Nat → Nat} : ∀ (st : List Value), st.all iv_isv = true → ((st.map (iv_mv r)).map fun v => v.category).sum = st.length
  | [], _ => rfl
  | a :: st, h => by
    simp only [List.all_cons, Bool.and_eq_true] at h
    simp only [List.map_cons, List.sum_cons, List.length_cons, iv_cat h.1, iv_sum st h.2]
    omega
theorem iv_split (st : List Value) (y : Nat) (f : Value → Value) : st.map f = (((st.take y).reverse).map f).reverse ++ (st.drop y).map f := by
  rw [← List.map_reverse, List.reverse_reverse, ← List.map_append, List.take_append_drop]
theorem iv_rc_ok {w : iv_S} {as : List Value} {t : Nat} (h : iv_rc w as t = true) : ∃ (b0 : Nat) (As fs : List Value), as = .ref b0 :: As ∧ w.1 b0 = some (t, fs) := by
  unfold iv_rc at h
  split at h
  · rename_i b0 As
    split at h
    · rename_i t' fs hw
      have ht := of_decide_eq_true h
      subst ht
      exact ⟨b0, As, fs, rfl, hw⟩
    · cases h
  · cases h
theorem iv_isr_ok {as : List Value} (h : iv_isr as = true) : ∃ (b0 : Nat) (As : List Value), as = .ref b0 :: As := by
  unfold iv_isr at h
  split at h
  · exact ⟨_, _, rfl⟩
  · cases h
theorem iv_sw_ok {code : List iv_I} {t : Int} {j : Nat} {J : iv_I} (h : code.findIdx? (fun J => decide ((J.1.1 : Int) = t)) = some j) (hJ : code[j]? = some J) : (J.1.1 : Int) = t := by
  obtain ⟨hlt, hp, -⟩ := List.findIdx?_eq_some_iff_getElem.mp h
  rw [(List.getElem?_eq_some_iff.mp hJ).2] at hp
  exact of_decide_eq_true hp
section IVD
variable {p : Program} {l : Launch} {e : Env} {R : Room} {s : State} {m : MethodId} {args : Array Value} {below : List Frame} {meth : Method} {c : Code} {Q : State → Prop}
variable {D : va_G} {b z n0 s0 nL d : Nat} {own : String} {cc : ByteArray} {code : List iv_I} {rt : Option FieldType} {call : Nat → List Value → iv_S → iv_R} {v : Option Value} {w' : iv_S} {K : iv_Q} {pc k : Nat} {L st : List Value} {w : iv_S}
theorem iv_callB {index x mL n : Nat} {rt' : Option FieldType} {mc ms : Nat} (hW : iv_Kw D s) (hRd : d + 1 ≤ R.frames ∧ 64 * d + 64 ≤ R.locals) (ck : iv_ckm x mL rt') (hn : (parseMethodDescriptor (iv_N x).1.desc).map (fun t => t.parameters.length) = some n) (hl : (Cond.methodLink own index (iv_N x).1).before args s = true) : CallB R s args own index (iv_N x).1 (iv_N x).2 mL rt' [.code (iv_N x).1 (iv_N x).2 mL rt'] (iv_rm d mc ms) mc ms n := by
  obtain ⟨c1, c2, c3, c4, c5⟩ := ck
  refine ⟨rfl, rfl, hRd.1, by show 8 + (mL + 11) + 64 * d ≤ R.locals; omega, fun w hw a' U hU => ?_, List.mem_cons_self, hW.use c1 rfl, hW.use c2 rfl, c3, fun sig h => ?_, hl⟩
  · rw [List.mem_singleton.mp hw]
    exact iv_stay rfl hU (hW.2 _ c1 rfl)
  · rw [h] at hn
    exact (Option.some.inj hn).symm
theorem iv_callN {index x mL n : Nat} {host : String} {rt' : Option FieldType} {mc ms : Nat} (hW : iv_Kw D s) (hRd : d + 1 ≤ R.frames ∧ 64 * d + 64 ≤ R.locals) (ck : iv_ckm x mL rt') (hn : (parseMethodDescriptor (iv_N x).1.desc).map (fun t => t.parameters.length) = some n) (hl : (Cond.methodLinkNest own index (iv_N x).1 host).before args s = true) : va_CN R s args own index (iv_N x).1 host (iv_N x).2 mL rt' [.code (iv_N x).1 (iv_N x).2 mL rt'] (iv_rm d mc ms) mc ms n := by
  obtain ⟨c1, c2, c3, c4, c5⟩ := ck
  refine ⟨⟨rfl, rfl, hRd.1, by show 8 + (mL + 11) + 64 * d ≤ R.locals; omega, fun w hw a' U hU => ?_, List.mem_cons_self⟩, hW.use c1 rfl, hW.use c2 rfl, c3, fun sig h => ?_, hl⟩
  · rw [List.mem_singleton.mp hw]
    exact iv_stay rfl hU (hW.2 _ c1 rfl)
  · rw [h] at hn
    exact (Option.some.inj hn).symm
/-- what stands behind every call -/
theorem iv_back {y : Nat} {w1 : iv_S} {u1 : Option Value} {mc ms : Nat} {H : Heap} {ls : Array Slot} {locs : List Loc} {cells slots : Nat} {st0 : List Value} {J : iv_I} {aa : Array Value} {Qa : State → Outcome → State → Prop} {free : Addr → Prop} (hQa : Qa = iv_Qc D b z w1 u1 aa) (hfree : free = fun q => z ≤ q) (hmc : mc = w1.2.1 - w.2.1) (hms : ms = w1.2.2 - w.2.2)
    (hr : va_Run p l e R s m args below meth c H locs cells slots mc ms (F0 m pc ls st0) ((st.drop y).map (iv_mv (iv_r b z))) Qa free) (g1 : iv_le w w1) (hJ : J.1.1 = pc + 3) (h3 : iv_T p l e R s m args below meth c Q D b z n0 s0 nL J.1.1 L (u1.toList ++ st.drop y) w1)
    (a2 : iv_fr (iv_r b z) nL L ls) (a3 : ∀ q ∈ locs, z ≤ q.base) (a4 : n0 + cells = w.2.1) (a5 : s0 + slots = w.2.2) : W p l e R s m args below meth c H locs cells slots Q (F0 m pc ls st0) := by
  subst hQa; subst hfree; subst hmc; subst hms
  refine iv_after hr fun v2 st₀ t H1 Lc hq ht hal hL => ?_
  obtain ⟨hv2, hrep⟩ := hq
  have hv3 : v2 = u1.map (iv_mv (iv_r b z)) := Outcome.returned.inj hv2
  subst hv3
  obtain ⟨g1a, g1b⟩ := g1
  have h4 := h3 H1 ls (locs ++ Lc) (cells + (w1.2.1 - w.2.1)) (slots + (w1.2.2 - w.2.2)) (by rw [← ht]; exact hrep.moved hal.symm) a2 (fun q5 h5 => by
    rcases List.mem_append.mp h5 with h6 | h6
    · exact a3 q5 h6
    · exact hL q5 h6) (by omega) (by omega)
  rw [hJ, List.map_append] at h4
  cases u1 with
  | none => exact h4
  | some u => exact h4
theorem iv_c_tableswitch (hx : p.tables.exec = Jvm.exec) (hb : c.code = cc) (hK : ∀ (k : Nat) (L st : List Value) (w : iv_S), K k L st w = some (v, w') → (iv_le w w' ∧ ∃ J, code[k]? = some J ∧ iv_T p l e R s m args below meth c Q D b z n0 s0 nL J.1.1 L st w)) {dflt lo hi : Int} {offs : Array Int} {len : Nat} (hd : decode cc pc = .ok (.tableswitch dflt lo hi offs, len)) (h : iv_p1 st (fun x st' => if x.toInt < lo ∨ hi < x.toInt then iv_sw code ((pc : Int) + dflt) (fun j => K j L st' w) else
      match offs[(x.toInt - lo).toNat]? with
      | some o => iv_sw code ((pc : Int) + o) (fun j => K j L st' w)
      | none => none) = some (v, w')) : iv_le w w' ∧ iv_T p l e R s m args below meth c Q D b z n0 s0 nL (pc) L st w := by
  unfold iv_p1 at h
  split at h
  · rename_i x st'
    dsimp only at h
    split at h
    · rename_i hout
      unfold iv_sw at h
      split at h
      · rename_i j hj
        obtain ⟨h1, J, h2, h3⟩ := hK _ _ _ _ h
        refine ⟨h1, fun H ls locs cells slots a1 a2 a3 a4 a5 => ?_⟩
        have h4 := h3 H ls locs cells slots a1 a2 a3 a4 a5
        exact lv_tableOut hx hb hd hout (iv_sw_ok hj h2).symm h4
      · cases h
    · rename_i hin
      split at h
      · rename_i o ho
        unfold iv_sw at h
        split at h
        · rename_i j hj
          obtain ⟨h1, J, h2, h3⟩ := hK _ _ _ _ h
          refine ⟨h1, fun H ls locs cells slots a1 a2 a3 a4 a5 => ?_⟩
          have h4 := h3 H ls locs cells slots a1 a2 a3 a4 a5
          exact lv_tableIn hx hb hd (fun h5 => hin (Or.inl h5)) (fun h5 => hin (Or.inr h5)) ho (iv_sw_ok hj h2).symm h4
        · cases h
      · cases h
  · cases h
theorem iv_c_lookupswitch (hx : p.tables.exec = Jvm.exec) (hb : c.code = cc) (hK : ∀ (k : Nat) (L st : List Value) (w : iv_S), K k L st w = some (v, w') → (iv_le w w' ∧ ∃ J, code[k]? = some J ∧ iv_T p l e R s m args below meth c Q D b z n0 s0 nL J.1.1 L st w)) {dflt : Int} {ps : Array (Int × Int)} {len : Nat} (hd : decode cc pc = .ok (.lookupswitch dflt ps, len)) (hp : (ps.toList.zip (ps.toList.drop 1)).all (fun (a, next) => a.1 < next.1) = true) (h : iv_p1 st (fun x st' => iv_sw code ((pc : Int) + Op.lookupswitch.offset ps.toList dflt x.toInt) (fun j => K j L st' w)) = some (v, w')) : iv_le w w' ∧ iv_T p l e R s m args below meth c Q D b z n0 s0 nL (pc) L st w := by
  unfold iv_p1 at h
  split at h
  · rename_i x st'
    dsimp only at h
    unfold iv_sw at h
    split at h
    · rename_i j hj
      obtain ⟨h1, J, h2, h3⟩ := hK _ _ _ _ h
      refine ⟨h1, fun H ls locs cells slots a1 a2 a3 a4 a5 => ?_⟩
      have h4 := h3 H ls locs cells slots a1 a2 a3 a4 a5
      exact lv_lookup hx hb hd hp rfl (iv_sw_ok hj h2).symm h4
    · cases h
  · cases h
theorem iv_c_virtual (hx : p.tables.exec = Jvm.exec) (hb : c.code = cc) (hK : ∀ (k : Nat) (L st : List Value) (w : iv_S), K k L st w = some (v, w') → (iv_le w w' ∧ ∃ J, code[k]? = some J ∧ iv_T p l e R s m args below meth c Q D b z n0 s0 nL J.1.1 L st w)) (hown : s.vm.findClass own = some m.cls) (hW : iv_Kw D s) (hbz : b < z) (hR : w'.2.1 ≤ n0 + R.cells ∧ w'.2.2 ≤ s0 + R.slots) (hml : c.maxLocals = nL) (hRd : d + 1 ≤ R.frames ∧ 64 * d + 64 ≤ R.locals) (hcall : ∀ x as w u w1, call x as w = some (u, w1) → iv_Met l D b z d x as w u w1) {index x y u : Nat} (hvi : iv_ckv x) (hnp : (parseMethodDescriptor (iv_N x).1.desc).map (fun t => t.parameters.length) = some (y - 1)) (hlink : lw_tbl[u]? = some (.methodLink own index (iv_N x).1) ∨ ∃ host, lw_tbl[u]? = some (.methodLinkNest own index (iv_N x).1 host)) (hd : decode cc pc = .ok (.invokevirtual index, 3)) (hn : ∀ J, code[k + 1]? = some J → J.1.1 = pc + 3) (h : iv_inv call x y (fun as => iv_rc w as (iv_mc x)) st w (fun st' w1 => K (k + 1) L st' w1) = some (v, w')) : iv_le w w' ∧ iv_T p l e R s m args below meth c Q D b z n0 s0 nL (pc) L st w := by
  unfold iv_inv at h
  split at h
  · rename_i h0
    split at h
    · rename_i h8
      split at h
      · rename_i hall
        split at h
        · rename_i hok
          split at h
          · rename_i u1 w1 hc
            obtain ⟨g1, mL, rt', code', gM, gMet⟩ := hcall _ _ _ _ _ hc
            obtain ⟨h1, J, h2, h3⟩ := hK _ _ _ _ h
            refine ⟨iv_le.trans g1 h1, fun H ls locs cells slots a1 a2 a3 a4 a5 => ?_⟩
            have ck := ck_m _ _ _ _ gM
            have hR8 : (((st.drop y).map (iv_mv (iv_r b z))).map fun v => v.category).sum ≤ 8 := by rw [iv_sum _ hall]; exact h8
            have hlsz : ls.size = nL := by obtain ⟨-, lv, q1, -⟩ := a2; exact q1.1
            have hroom : cells + (w1.2.1 - w.2.1) ≤ R.cells ∧ slots + (w1.2.2 - w.2.2) ≤ R.slots := by obtain ⟨p1, p2⟩ := g1; obtain ⟨p3, p4⟩ := h1; exact ⟨by omega, by omega⟩
            obtain ⟨b0, As, fs, hrev, hw⟩ := iv_rc_ok hok
            have hAs : As.length = y - 1 := by have h5 := congrArg List.length hrev; simp only [List.length_reverse, List.length_take, List.length_cons] at h5; omega
            obtain ⟨v1, v2, q, hq1, hq2⟩ := hvi
            rcases (a1.2 b0 _ hw).1 with ⟨q', f1, f2, cellV, f3, f4, f5, -⟩ | ⟨ty', cell', f1, -⟩
            · cases f1.symm.trans hq1
              have hst : st.map (iv_mv (iv_r b z)) = (As.map (iv_mv (iv_r b z))).reverse ++ .ref (iv_r b z b0) :: (st.drop y).map (iv_mv (iv_r b z)) := by
                rw [iv_split st y, hrev, List.map_cons, List.reverse_cons, List.append_assoc]; rfl
              have hp : PreV s H (iv_N x).1.cls (iv_r b z b0) (iv_Pc D b z w (st.take y).reverse) (As.map (iv_mv (iv_r b z))) := ⟨iv_blind, ⟨cellV, f3, by rw [f5]; rfl, by rw [f4, ← hq2]; exact (hW.1 _ _ hq1).2.1⟩, fun U hU hwU => ⟨by rw [hrev]; rfl, by rw [hU]; exact a1.moved hwU.alike, hW.moved hwU⟩⟩
              rw [hst]
              rcases hlink with hl | ⟨host, hl⟩
              · exact iv_back (y := y) (J := J) rfl rfl rfl rfl (va_runV (Ts := []) (As := As.map (iv_mv (iv_r b z))) ⟨hx, hb, hml, hown, fun _ h5 => absurd h5 List.not_mem_nil⟩ gMet ⟨iv_callB hW hRd ck hnp (hW.at hl rfl), hW.use v1 rfl, hW.use v2 rfl⟩ hp rfl (by rw [List.length_map]; exact hAs) hlsz rfl (lv_room hR8) hd hroom) g1 (hn J h2) h3 a2 a3 a4 a5
              · exact iv_back (y := y) (J := J) rfl rfl rfl rfl (va_runVN (Ts := []) (As := As.map (iv_mv (iv_r b z))) ⟨hx, hb, hml, hown, fun _ h5 => absurd h5 List.not_mem_nil⟩ gMet ⟨iv_callN hW hRd ck hnp (hW.at hl rfl), hW.use v1 rfl, hW.use v2 rfl⟩ hp rfl (by rw [List.length_map]; exact hAs) hlsz rfl (lv_room hR8) hd hroom) g1 (hn J h2) h3 a2 a3 a4 a5
            · exact absurd (ck_ar _ _ f1) (Nat.not_le.mpr (ck_cl _ _ hq1).1)
          · cases h
        · cases h
      · cases h
    · cases h
  · cases h
theorem iv_c_special (hx : p.tables.exec = Jvm.exec) (hb : c.code = cc) (hK : ∀ (k : Nat) (L st : List Value) (w : iv_S), K k L st w = some (v, w') → (iv_le w w' ∧ ∃ J, code[k]? = some J ∧ iv_T p l e R s m args below meth c Q D b z n0 s0 nL J.1.1 L st w)) (hown : s.vm.findClass own = some m.cls) (hW : iv_Kw D s) (hbz : b < z) (hR : w'.2.1 ≤ n0 + R.cells ∧ w'.2.2 ≤ s0 + R.slots) (hml : c.maxLocals = nL) (hRd : d + 1 ≤ R.frames ∧ 64 * d + 64 ≤ R.locals) (hcall : ∀ x as w u w1, call x as w = some (u, w1) → iv_Met l D b z d x as w u w1) {index x y u : Nat} (hvi : iv_cki x) (hnp : (parseMethodDescriptor (iv_N x).1.desc).map (fun t => t.parameters.length) = some (y - 1)) (hlink : lw_tbl[u]? = some (.methodLink own index (iv_N x).1)) (hd : decode cc pc = .ok (.invokespecial index, 3)) (hn : ∀ J, code[k + 1]? = some J → J.1.1 = pc + 3) (h : iv_inv call x y iv_isr st w (fun st' w1 => K (k + 1) L st' w1) = some (v, w')) : iv_le w w' ∧ iv_T p l e R s m args below meth c Q D b z n0 s0 nL (pc) L st w := by
  unfold iv_inv at h
  split at h
  · rename_i h0
    split at h
    · rename_i h8
      split at h
      · rename_i hall
        split at h
        · rename_i hok
          split at h
          · rename_i u1 w1 hc
            obtain ⟨g1, mL, rt', code', gM, gMet⟩ := hcall _ _ _ _ _ hc
            obtain ⟨h1, J, h2, h3⟩ := hK _ _ _ _ h
            refine ⟨iv_le.trans g1 h1, fun H ls locs cells slots a1 a2 a3 a4 a5 => ?_⟩
            have ck := ck_m _ _ _ _ gM
            have hR8 : (((st.drop y).map (iv_mv (iv_r b z))).map fun v => v.category).sum ≤ 8 := by rw [iv_sum _ hall]; exact h8
            have hlsz : ls.size = nL := by obtain ⟨-, lv, q1, -⟩ := a2; exact q1.1
            have hroom : cells + (w1.2.1 - w.2.1) ≤ R.cells ∧ slots + (w1.2.2 - w.2.2) ≤ R.slots := by obtain ⟨p1, p2⟩ := g1; obtain ⟨p3, p4⟩ := h1; exact ⟨by omega, by omega⟩
            obtain ⟨b0, As, hrev⟩ := iv_isr_ok hok
            have hAs : As.length = y - 1 := by have h5 := congrArg List.length hrev; simp only [List.length_reverse, List.length_take, List.length_cons] at h5; omega
            obtain ⟨v1, v2, v3⟩ := hvi
            have v4 := v3 _ _ _ gM
            subst v4
            have hst : st.map (iv_mv (iv_r b z)) = (As.map (iv_mv (iv_r b z))).reverse ++ .ref (iv_r b z b0) :: (st.drop y).map (iv_mv (iv_r b z)) := by
              rw [iv_split st y, hrev, List.map_cons, List.reverse_cons, List.append_assoc]; rfl
            have hp : PreS s H (iv_Pc D b z w (st.take y).reverse) (.ref (iv_r b z b0) :: As.map (iv_mv (iv_r b z))) := ⟨iv_blind, fun U hU hwU => ⟨by rw [hrev]; rfl, by rw [hU]; exact a1.moved hwU.alike, hW.moved hwU⟩⟩
            rw [hst]
            exact iv_back (y := y) (J := J) rfl rfl rfl rfl (va_runI (Ts := []) (As := As.map (iv_mv (iv_r b z))) ⟨hx, hb, hml, hown, fun _ h5 => absurd h5 List.not_mem_nil⟩ gMet ⟨iv_callB hW hRd ck hnp (hW.at hlink rfl), v2, hW.use v1 rfl⟩ hp rfl (by rw [List.length_map]; exact hAs) hlsz rfl (lv_room hR8) hd hroom) g1 (hn J h2) h3 a2 a3 a4 a5
          · cases h
        · cases h
      · cases h
    · cases h
  · cases h
theorem iv_c_static (hx : p.tables.exec = Jvm.exec) (hb : c.code = cc) (hK : ∀ (k : Nat) (L st : List Value) (w : iv_S), K k L st w = some (v, w') → (iv_le w w' ∧ ∃ J, code[k]? = some J ∧ iv_T p l e R s m args below meth c Q D b z n0 s0 nL J.1.1 L st w)) (hown : s.vm.findClass own = some m.cls) (hW : iv_Kw D s) (hbz : b < z) (hR : w'.2.1 ≤ n0 + R.cells ∧ w'.2.2 ≤ s0 + R.slots) (hml : c.maxLocals = nL) (hRd : d + 1 ≤ R.frames ∧ 64 * d + 64 ≤ R.locals) (hcall : ∀ x as w u w1, call x as w = some (u, w1) → iv_Met l D b z d x as w u w1) {index x y u : Nat} (hvi : Cond.static (iv_N x).1 ∈ lw_tbl) (hnp : (parseMethodDescriptor (iv_N x).1.desc).map (fun t => t.parameters.length) = some y) (hlink : lw_tbl[u]? = some (.methodLink own index (iv_N x).1)) (hd : decode cc pc = .ok (.invokestatic index, 3)) (hn : ∀ J, code[k + 1]? = some J → J.1.1 = pc + 3) (h : iv_inv call x y (fun _ => true) st w (fun st' w1 => K (k + 1) L st' w1) = some (v, w')) : iv_le w w' ∧ iv_T p l e R s m args below meth c Q D b z n0 s0 nL (pc) L st w := by
  unfold iv_inv at h
  split at h
  · rename_i h0
    split at h
    · rename_i h8
      split at h
      · rename_i hall
        split at h
        · rename_i hok
          split at h
          · rename_i u1 w1 hc
            obtain ⟨g1, mL, rt', code', gM, gMet⟩ := hcall _ _ _ _ _ hc
            obtain ⟨h1, J, h2, h3⟩ := hK _ _ _ _ h
            refine ⟨iv_le.trans g1 h1, fun H ls locs cells slots a1 a2 a3 a4 a5 => ?_⟩
            have ck := ck_m _ _ _ _ gM
            have hR8 : (((st.drop y).map (iv_mv (iv_r b z))).map fun v => v.category).sum ≤ 8 := by rw [iv_sum _ hall]; exact h8
            have hlsz : ls.size = nL := by obtain ⟨-, lv, q1, -⟩ := a2; exact q1.1
            have hroom : cells + (w1.2.1 - w.2.1) ≤ R.cells ∧ slots + (w1.2.2 - w.2.2) ≤ R.slots := by obtain ⟨p1, p2⟩ := g1; obtain ⟨p3, p4⟩ := h1; exact ⟨by omega, by omega⟩
            have hst : st.map (iv_mv (iv_r b z)) = ((st.take y).reverse.map (iv_mv (iv_r b z))).reverse ++ (st.drop y).map (iv_mv (iv_r b z)) := iv_split st y _
            have hp : PreS s H (iv_Pc D b z w (st.take y).reverse) ((st.take y).reverse.map (iv_mv (iv_r b z))) := ⟨iv_blind, fun U hU hwU => ⟨rfl, by rw [hU]; exact a1.moved hwU.alike, hW.moved hwU⟩⟩
            rw [hst]
            exact iv_back (y := y) (J := J) rfl rfl rfl rfl (va_runS (Ts := []) (As := (st.take y).reverse.map (iv_mv (iv_r b z))) ⟨hx, hb, hml, hown, fun _ h5 => absurd h5 List.not_mem_nil⟩ gMet ⟨iv_callB hW hRd ck hnp (hW.at hlink rfl), hW.use hvi rfl⟩ hp rfl (by rw [List.length_map, List.length_reverse, List.length_take]; omega) hlsz rfl (lv_room hR8) hd hroom) g1 (hn J h2) h3 a2 a3 a4 a5
          · cases h
        · cases h
      · cases h
    · cases h
  · cases h
theorem iv_c_objinit (hx : p.tables.exec = Jvm.exec) (hb : c.code = cc) (hK : ∀ (k : Nat) (L st : List Value) (w : iv_S), K k L st w = some (v, w') → (iv_le w w' ∧ ∃ J, code[k]? = some J ∧ iv_T p l e R s m args below meth c Q D b z n0 s0 nL J.1.1 L st w)) (hown : s.vm.findClass own = some m.cls) (hW : iv_Kw D s) (hbz : b < z) (hml : c.maxLocals = nL) (hRd : d + 1 ≤ R.frames ∧ 64 * d + 64 ≤ R.locals) (hcall : ∀ x as w u w1, call x as w = some (u, w1) → iv_Met l D b z d x as w u w1) {index u : Nat} (ck : Cond.instanceMethod Lib.objectInit ∈ lw_tbl ∧ Cond.code Lib.objectInit ⟨#[0xb1]⟩ 1 none ∈ lw_tbl) (hlink : lw_tbl[u]? = some (.methodLink own index Lib.objectInit)) (hd : decode cc pc = .ok (.invokespecial index, 3)) (hn : ∀ J, code[k + 1]? = some J → J.1.1 = pc + 3) (h : iv_oi st (fun st' => K (k + 1) L st' w) = some (v, w')) : iv_le w w' ∧ iv_T p l e R s m args below meth c Q D b z n0 s0 nL (pc) L st w := by
  unfold iv_oi at h
  split at h
  · rename_i a st'
    split at h
    · rename_i h8
      split at h
      · rename_i hall
        obtain ⟨h1, J, h2, h3⟩ := hK _ _ _ _ h
        refine ⟨h1, fun H ls locs cells slots a1 a2 a3 a4 a5 => ?_⟩
        have h4 := h3 H ls locs cells slots a1 a2 a3 a4 a5
        rw [hn J h2] at h4
        have hlsz : ls.size = nL := by obtain ⟨-, lv, q1, -⟩ := a2; exact q1.1
        have hR8 : ((st'.map (iv_mv (iv_r b z))).map fun v => v.category).sum ≤ 8 := by rw [iv_sum _ hall]; exact h8
        have hR9 := lv_room (m := m) (pc := pc) (ls := ls) (rest := .ref (iv_r b z a) :: st'.map (iv_mv (iv_r b z))) hR8
        exact W.objInit hx hb hown (hW.at hlink rfl) (hW.use ck.1 rfl) (hW.use ck.2 rfl) rfl (hlsz.trans hml.symm) rfl hd (by omega) (Nat.le_trans (Nat.add_le_add_right hR9 12) (by omega)) h4
      · cases h
    · cases h
  · cases h
end IVD
