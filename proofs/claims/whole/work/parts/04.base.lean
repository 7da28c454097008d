/-! what the pictures say of the machine's heap -/
def iv_mv (r : Nat → Nat) : Value → Value
  | .ref k => .ref (r k)
  | v => v
/-- the addresses: 0 is the script at b, the others lie from z on -/
def iv_r (b z : Nat) : Nat → Nat
  | 0 => b
  | k + 1 => z + k
theorem iv_r_inj {b z : Nat} (h : b < z) {i j : Nat} (e : iv_r b z i = iv_r b z j) : i = j := by
  cases i with
  | zero => cases j with
    | zero => rfl
    | succ j => simp only [iv_r] at e; omega
  | succ i => cases j with
    | zero => simp only [iv_r] at e; omega
    | succ j => simp only [iv_r] at e; omega
theorem iv_r_lo {b z k : Nat} (h : k ≠ 0) : z ≤ iv_r b z k := by
  cases k with
  | zero => exact absurd rfl h
  | succ k => simp only [iv_r]; omega
def iv_stab (w : Cond) : Bool := (w.onTables && w.keepsH) || (match w with
  | .arrayClass _ => true
  | .arrayOver (.object _) => true
  | .arrayOver (.array _) => true
  | _ => false)
/-- the words of the tables that stay, and the classes' numbers and slots -/
def iv_Kw (D : va_G) (U : State) : Prop := (∀ (i : Nat) (q : vw_C), iv_cl[i]? = some q → u_Kn U q.1 q.2.1 q.2.2 (D.1 i) (D.2 i)) ∧ ∀ w ∈ lw_tbl, iv_stab w = true → w.before #[] U = true
theorem iv_over {t : FieldType} (ht : (∃ C, t = .object C) ∨ ∃ u, t = .array u) {A A' : Array Value} {s U : State} (hvm : s.vm.Alike U.vm) (h : (Cond.arrayOver t).before A s = true) : (Cond.arrayOver t).before A' U = true := by
  rcases ht with ⟨C, rfl⟩ | ⟨u, rfl⟩
  · exact va_AO.use (va_AO.moved hvm (va_AO.of h))
  · obtain ⟨comp, c, k, h1, h2, h3, h4, h5⟩ := arrayOverA_spec h
    obtain ⟨k', hk', he⟩ := hvm.2.2 _ _ h3
    have hi : (U.vm.classes.findIdx? fun (x : Class) => match x.kind with | .array component _ => component == comp | _ => false) = some c := by
      rw [hvm.findIdx?_eq _ (fun _ => rfl)]
      exact h2
    have hkind : k'.kind = .array comp (.array u) := by rw [he]; exact h4
    have f1 : U.vm.findClass (FieldType.array u).toString = some comp := by rw [hvm.findClass]; exact h1
    have f2 : U.vm.findClass ("[" ++ (FieldType.array u).toString) = some c := by rw [hvm.findClass]; exact h5
    unfold Cond.before Cond.holds
    simp only [Cond.value]
    rw [f1, Option.bind_some]
    refine (congrArg (fun o : Option Nat => (o.bind (fun c => (U.vm.classes[c]?).map fun (k : Class) => match k.kind with | .array _ ty => decide (ty = FieldType.array u) && decide (U.vm.findClass ("[" ++ (FieldType.array u).toString) = some c) | _ => false) == some true)) hi).trans ?_
    simp [hk', hkind, f2]
theorem iv_stay {w : Cond} (hs : iv_stab w = true) {A A' : Array Value} {s U : State} (hW : s.WarmedH U.vm) (h : w.before A s = true) : w.before A' U = true := by
  unfold iv_stab at hs
  rcases Bool.or_eq_true_iff.mp hs with h1 | h1
  · simp only [Bool.and_eq_true] at h1
    have h2 := Cond.onTables_warmH (T := U) (args' := A') hW h1.1 h1.2 h
    rwa [State.setVm_self] at h2
  · split at h1
    · exact word_at hW (Or.inr ⟨_, rfl⟩) h
    · exact iv_over (Or.inl ⟨_, rfl⟩) hW.alike h
    · exact iv_over (Or.inr ⟨_, rfl⟩) hW.alike h
    · cases h1
theorem iv_Kw.use {D : va_G} {U : State} (h : iv_Kw D U) {w : Cond} (hw : w ∈ lw_tbl) (hs : iv_stab w = true) {A : Array Value} : w.before A U = true := iv_stay hs (State.WarmedH.refl U) (h.2 w hw hs)
theorem iv_Kw.at {D : va_G} {U : State} (h : iv_Kw D U) {w : Cond} {i : Nat} (hw : lw_tbl[i]? = some w) (hs : iv_stab w = true) {A : Array Value} : w.before A U = true := h.use (List.mem_of_getElem? hw) hs
theorem iv_Kw.moved {D : va_G} {s U : State} (hW : s.WarmedH U.vm) (h : iv_Kw D s) : iv_Kw D U := ⟨fun i q hq => u_Kn_moved hW.alike (h.1 i q hq), fun w hw hs => iv_stay hs hW (h.2 w hw hs)⟩
/-- the cell at the address a is what the picture says -/
def iv_at (D : va_G) (r : Nat → Nat) (s : State) (H : Heap) (a : Nat) (x : iv_C) : Prop :=
  (∃ q : vw_C, iv_cl[x.1]? = some q ∧ x.2.length = q.2.2 ∧ t_OB a (D.1 x.1) q.2.2 (D.2 x.1) H (vp_V (x.2.map (iv_mv r)))) ∨
  (∃ (ty : FieldType) (cell : Cell), iv_ar x.1 = some ty ∧ H[a]? = some cell ∧ s.isArrayOf cell ty ∧ cell.vm ≠ .unknown ∧ cell.slots = (x.2.map (iv_mv r)).toArray ∧ (iv_isA ty = true → va_RA s cell.cls ty))
def iv_rep (D : va_G) (b z : Nat) (s : State) (w : iv_S) (H : Heap) : Prop := H.size = z + w.2.1 ∧ ∀ (k : Nat) (x : iv_C), w.1 k = some x → iv_at D (iv_r b z) s H (iv_r b z k) x ∧ (x.1 ≠ 150 → k ≠ 0)
theorem iv_at.kept {D : va_G} {r : Nat → Nat} {s : State} {H H1 : Heap} {a : Nat} {x : iv_C} (h : iv_at D r s H a x) (e : H1[a]? = H[a]?) : iv_at D r s H1 a x := by
  rcases h with ⟨q, h1, h2, h3⟩ | ⟨ty, cell, h1, h2, h3⟩
  · exact Or.inl ⟨q, h1, h2, h3.kept e⟩
  · exact Or.inr ⟨ty, cell, h1, e.trans h2, h3⟩
theorem iv_at.moved {D : va_G} {r : Nat → Nat} {s U : State} {H : Heap} {a : Nat} {x : iv_C} (hv : s.vm.Alike U.vm) (h : iv_at D r s H a x) : iv_at D r U H a x := by
  rcases h with h | ⟨ty, cell, h1, h2, h3, h4, h5, h6⟩
  · exact Or.inl h
  · exact Or.inr ⟨ty, cell, h1, h2, State.isArrayOf_alike hv h3, h4, h5, fun q => (h6 q).moved hv⟩
theorem iv_at.lt {D : va_G} {r : Nat → Nat} {s : State} {H : Heap} {a : Nat} {x : iv_C} (h : iv_at D r s H a x) : a < H.size := by
  rcases h with ⟨q, h1, h2, cell, h3, -⟩ | ⟨ty, cell, h1, h2, -⟩
  · exact (Array.getElem?_eq_some_iff.mp h3).1
  · exact (Array.getElem?_eq_some_iff.mp h2).1
theorem iv_rep.moved {D : va_G} {b z : Nat} {s U : State} {w : iv_S} {H : Heap} (hv : s.vm.Alike U.vm) (h : iv_rep D b z s w H) : iv_rep D b z U w H := ⟨h.1, fun k x hk => ⟨(h.2 k x hk).1.moved hv, (h.2 k x hk).2⟩⟩
theorem iv_rep.put {D : va_G} {b z : Nat} {s : State} {w : iv_S} {H H1 : Heap} {a : Nat} {x0 x : iv_C} (hb : b < z) (h : iv_rep D b z s w H) (ha : w.1 a = some x0) (h0 : x0.1 ≠ 150) (hx : iv_at D (iv_r b z) s H1 (iv_r b z a) x) (e1 : H1.size = H.size) (e2 : ∀ q : Nat, q ≠ iv_r b z a → H1[q]? = H[q]?) : iv_rep D b z s (iv_put w.1 a x, w.2) H1 := by
  refine ⟨e1.trans h.1, fun k y hk => ?_⟩
  by_cases hka : k = a
  · subst hka
    simp only [iv_put, if_true] at hk
    cases hk
    exact ⟨hx, fun _ => (h.2 k x0 ha).2 h0⟩
  · simp only [iv_put, if_neg hka] at hk
    exact ⟨(h.2 k y hk).1.kept (e2 _ (fun q => hka (iv_r_inj hb q))), (h.2 k y hk).2⟩
theorem iv_rep.push {D : va_G} {b z : Nat} {s : State} {w : iv_S} {H H1 : Heap} {x : iv_C} {n : Nat} (h : iv_rep D b z s w H) (hx : iv_at D (iv_r b z) s H1 (z + w.2.1) x) (e1 : H1.size = H.size + 1) (e2 : ∀ q : Nat, q < H.size → H1[q]? = H[q]?) : iv_rep D b z s (iv_put w.1 (w.2.1 + 1) x, w.2.1 + 1, n) H1 := by
  refine ⟨by rw [e1, h.1]; rfl, fun k y hk => ?_⟩
  by_cases hka : k = w.2.1 + 1
  · subst hka
    simp only [iv_put, if_true] at hk
    cases hk
    exact ⟨hx, fun _ => by omega⟩
  · simp only [iv_put, if_neg hka] at hk
    exact ⟨(h.2 k y hk).1.kept (e2 _ (h.2 k y hk).1.lt), (h.2 k y hk).2⟩
/-- the locals -/
def iv_fr (r : Nat → Nat) (nL : Nat) (L : List Value) (ls : Array Slot) : Prop := L.length = nL ∧ ∃ lv, lv_has ls nL lv ∧ ∀ (i : Nat) (v : Value), L[i]? = some v → iv_isv v = true → (i, iv_mv r v) ∈ lv
theorem iv_fr.get {r : Nat → Nat} {nL : Nat} {L : List Value} {ls : Array Slot} (h : iv_fr r nL L ls) {i : Nat} {v : Value} (hv : L[i]? = some v) (hi : iv_isv v = true) : ls[i]? = some (.val (iv_mv r v)) := by
  obtain ⟨-, lv, h1, h2⟩ := h
  exact h1.2.2 _ (h2 i v hv hi)
theorem iv_cat {r : Nat → Nat} {v : Value} (h : iv_isv v = true) : (iv_mv r v).category = 1 := by
  cases v <;> first | rfl | cases h
theorem iv_fr.set {r : Nat → Nat} {nL : Nat} {L : List Value} {ls' : Array Slot} {lv : List (Nat × Value)} {i : Nat} {v : Value} (hn : L.length = nL) (h2 : ∀ (i : Nat) (v : Value), L[i]? = some v → iv_isv v = true → (i, iv_mv r v) ∈ lv) (hl : lv_has ls' nL ((i, iv_mv r v) :: lv.filter (fun q => !(q.1 == i) && !(q.1 + 1 == i && q.2.category == 2)))) : iv_fr r nL (L.set i v) ls' := by
  refine ⟨by rw [List.length_set]; exact hn, _, hl, fun j u hj hu => ?_⟩
  by_cases hji : j = i
  · subst hji
    rw [List.getElem?_set] at hj
    simp only [if_true] at hj
    split at hj
    · cases hj; exact List.mem_cons_self
    · cases hj
  · rw [List.getElem?_set_ne (Ne.symm hji)] at hj
    refine List.mem_cons_of_mem _ (List.mem_filter.mpr ⟨h2 j u hj hu, ?_⟩)
    simp [hji, iv_cat hu]
theorem iv_args_mem {r : Nat → Nat} : ∀ (as : List Value) (n i : Nat) (v : Value), as.all iv_isv = true → as[i]? = some v → (n + i, iv_mv r v) ∈ lv_args n (as.map (iv_mv r))
  | [], n, i, v, _, h => by simp at h
  | a :: as, n, i, v, ha, h => by
    simp only [List.all_cons, Bool.and_eq_true] at ha
    have hc : (iv_mv r a).category = 1 := iv_cat ha.1
    simp only [List.map_cons, lv_args, hc]
    cases i with
    | zero =>
      simp only [List.getElem?_cons_zero] at h
      cases h
      exact List.mem_cons_self
    | succ i =>
      simp only [List.getElem?_cons_succ] at h
      have h3 := iv_args_mem (r := r) as (n + 1) i v ha.2 h
      rw [show n + 1 + i = n + (i + 1) by omega] at h3
      exact List.mem_cons_of_mem _ (by simpa using h3)
theorem iv_sl_len {r : Nat → Nat} : ∀ (as : List Value), as.all iv_isv = true → (lg_sl (as.map (iv_mv r))).length = as.length
  | [], _ => rfl
  | a :: as, ha => by
    simp only [List.all_cons, Bool.and_eq_true] at ha
    have hc : (iv_mv r a).category = 1 := iv_cat ha.1
    have h3 := iv_sl_len (r := r) as ha.2
    simp only [lg_sl, List.map_cons, List.flatMap_cons, hc, List.length_append, List.length_cons] at h3 ⊢
    simp at h3 ⊢
    omega
theorem iv_entry {r : Nat → Nat} {as : List Value} {nL : Nat} (ha : as.all iv_isv = true) (hn : as.length ≤ nL) : iv_fr r nL (as ++ List.replicate (nL - as.length) iv_un) ((lg_sl (as.map (iv_mv r)) ++ List.replicate (nL - (lg_sl (as.map (iv_mv r))).length) Slot.unset).toArray) := by
  refine ⟨by simp; omega, _, lv_entry (as.map (iv_mv r)) (n := nL) (by rw [iv_sl_len as ha]; exact hn), fun i v hv hi => ?_⟩
  by_cases hl : i < as.length
  · rw [List.getElem?_append_left hl] at hv
    have h3 := iv_args_mem (r := r) as 0 i v ha hv
    rwa [Nat.zero_add] at h3
  · rw [List.getElem?_append_right (by omega), List.getElem?_replicate] at hv
    split at hv
    · cases hv; cases hi
    · cases hv
theorem iv_fit_ok {t : FieldType} {r : Nat → Nat} {v : Value} (h : iv_fit t v = true) : narrow t (iv_mv r v) = iv_mv r v ∧ fits t (iv_mv r v) = true := by
  unfold iv_fit at h
  split at h
  · exact ⟨rfl, rfl⟩
  · rename_i x
    simp only [Bool.or_eq_true, beq_iff_eq] at h
    rcases h with rfl | rfl
    · exact ⟨show narrow .boolean (.int 0) = .int 0 from rfl, show fits .boolean (.int 0) = true by decide +kernel⟩
    · exact ⟨show narrow .boolean (.int 1) = .int 1 from rfl, show fits .boolean (.int 1) = true by decide +kernel⟩
  · exact ⟨rfl, rfl⟩
  · exact ⟨rfl, rfl⟩
  · exact ⟨rfl, rfl⟩
  · exact ⟨rfl, rfl⟩
  · cases h
/-- what the classes' table says -/
def iv_ckc (i : Nat) (q : vw_C) : Prop := i < 100 ∧ (∀ w ∈ u_ws q.1 q.2.1 q.2.2, w ∈ lw_tbl ∧ iv_stab w = true) ∧ (∀ k, k < q.2.2 → parseFieldDescriptor (q.2.1 k).2.2.1 = some (iv_ft i k)) ∧ (∀ a, a < q.2.2 → ∀ b, b < q.2.2 → a ≠ b → (q.2.1 a).2.1 ≠ (q.2.1 b).2.1) ∧ Cond.instantiable q.1 q.2.2 ∈ lw_tbl ∧ Cond.initialized q.1 ∈ lw_tbl
/-- what the methods' table says -/
def iv_ckm (x mL : Nat) (rt : Option FieldType) : Prop := Cond.code (iv_N x).1 (iv_N x).2 mL rt ∈ lw_tbl ∧ Cond.initialized (iv_N x).1.cls ∈ lw_tbl ∧ ((iv_N x).1.cls ≠ "java/lang/invoke/MethodHandle" ∧ (iv_N x).1.cls ≠ "java/lang/invoke/VarHandle") ∧ plainName (iv_N x).1.cls = true ∧ mL ≤ 40
def iv_ckv (x : Nat) : Prop := Cond.instanceMethod (iv_N x).1 ∈ lw_tbl ∧ Cond.selects (iv_N x).1.cls (iv_N x).1 (iv_N x).1 ∈ lw_tbl ∧ ∃ q, iv_cl[iv_mc x]? = some q ∧ q.1 = (iv_N x).1.cls
def iv_cki (x : Nat) : Prop := Cond.instanceMethod (iv_N x).1 ∈ lw_tbl ∧ (iv_N x).1.name = "<init>" ∧ ∀ mL rt code, iv_M x = some (mL, rt, code) → rt = none
section IVB
variable {p : Program} {l : Launch} {e : Env} {R : Room} {s : State} {m : MethodId} {args : Array Value} {below : List Frame} {meth : Method} {c : Code} {H : Heap} {locs : List Loc} {cells slots : Nat} {Q : State → Prop}
variable {cc : ByteArray} {pc : Nat} {ls : Array Slot} {rest : List Value} {D : va_G} {own : String}
theorem iv_getf (hexec : p.tables.exec = Jvm.exec) (hb : c.code = cc) (hown : s.vm.findClass own = some m.cls) (hK : iv_Kw D s) {i k index j : Nat} {q : vw_C} (hc : iv_cl[i]? = some q) (hck : iv_ckc i q) (hk : k < q.2.2) (hlink : lw_tbl[j]? = some (.fieldLink own index (q.2.1 k).1 (q.2.1 k).2.1 (q.2.1 k).2.2.1) ∨ ∃ host, lw_tbl[j]? = some (.fieldLinkNest own index (q.2.1 k).1 (q.2.1 k).2.1 (q.2.1 k).2.2.1 host)) {a : Nat} {fs : List Value} {v : Value} (hob : t_OB a (D.1 i) q.2.2 (D.2 i) H (vp_V fs)) (hv : fs[k]? = some v) (hdg : decode cc pc = .ok (.getfield index, 3))
    (kk : W p l e R s m args below meth c H locs cells slots Q (F0 m (pc + 3) ls (v :: rest))) : W p l e R s m args below meth c H locs cells slots Q (F0 m pc ls (.ref a :: rest)) := by
  obtain ⟨C, T, N⟩ := q
  have hts : ∀ w ∈ u_ws C T N, w.before args s = true := fun w hw => hK.use (hck.2.1 w hw).1 (hck.2.1 w hw).2
  have hK' : va_K D iv_cl [] s := ⟨hK.1, fun k q h => by simp at h⟩
  have hP : va_P D iv_cl [(a, .inr (i, fs))] H := fun k x hx => by
    have hz : k < 1 := (List.getElem?_eq_some_iff.mp hx).1
    rw [show k = 0 by omega] at hx
    cases hx
    exact ⟨_, hc, hob⟩
  rcases hlink with h | ⟨host, h⟩
  · exact va_get (D := D) (cl := iv_cl) (tys := []) hexec hb hts (fun w h => h) hown hK' hP 0 rfl hc k hk (hK.at h rfl) (fun _ h => h) hv hdg kk
  · exact va_getN (D := D) (cl := iv_cl) (tys := []) hexec hb hts (fun w h => h) hown hK' hP 0 rfl hc k hk (hK.at h rfl) (fun _ h => h) hv hdg kk
theorem iv_putf (hexec : p.tables.exec = Jvm.exec) (hb : c.code = cc) (hown : s.vm.findClass own = some m.cls) (hK : iv_Kw D s) {i k index j : Nat} {q : vw_C} (hc : iv_cl[i]? = some q) (hck : iv_ckc i q) (hk : k < q.2.2)
    (hlink : (lw_tbl[j]? = some (.fieldLink own index (q.2.1 k).1 (q.2.1 k).2.1 (q.2.1 k).2.2.1) ∧ ((q.2.1 k).2.2.2 = false ∨ ((q.2.1 k).2.2.2 = true ∧ (q.2.1 k).1 = own ∧ meth.name = "<init>"))) ∨ ∃ host, lw_tbl[j]? = some (.fieldLinkNest own index (q.2.1 k).1 (q.2.1 k).2.1 (q.2.1 k).2.2.1 host) ∧ (q.2.1 k).2.2.2 = false)
    {a : Nat} {fs : List Value} {v : Value} (hob : t_OB a (D.1 i) q.2.2 (D.2 i) H (vp_V fs)) (hl : k < fs.length) (hn : narrow (iv_ft i k) v = v) (hfit : fits (iv_ft i k) v = true) (hdg : decode cc pc = .ok (.putfield index, 3))
    (kk : ∀ (H1 : Heap) (x : Nat), t_OB a (D.1 i) q.2.2 (D.2 i) H1 (vp_V (fs.set k v)) → H1.size = H.size → (∀ q : Nat, q ≠ a → H1[q]? = H[q]?) → W p l e R s m args below meth c H1 (locs ++ [⟨a, x⟩]) cells slots Q (F0 m (pc + 3) ls rest)) : W p l e R s m args below meth c H locs cells slots Q (F0 m pc ls (v :: .ref a :: rest)) := by
  obtain ⟨C, T, N⟩ := q
  have hts : ∀ w ∈ u_ws C T N, w.before args s = true := fun w hw => hK.use (hck.2.1 w hw).1 (hck.2.1 w hw).2
  have hK' : va_K D iv_cl [] s := ⟨hK.1, fun k q h => by simp at h⟩
  have hd := hck.2.2.1 k hk
  have hap := va_apart (own := own) hts (fun w h => h) (iv_ft i) hck.2.2.1 hck.2.2.2.1 hK' hc
  obtain ⟨cell, q1, q2, q3, q4⟩ := hob
  obtain ⟨hS, hfc, kC, hkC, hkind⟩ := hK.1 i _ hc
  obtain ⟨cf, kf, fi, f, hi, hsl⟩ := hS k hk
  have hlay := hts _ (u_in_lay hk)
  have hst := (u_facts hfc hkC (u_lays hts (fun w h => h) hk) hi).1
  have hfin : ∀ H' : Heap, H'[a]? = some (cell.setSlot f.slot v) → t_OB a (D.1 i) N (D.2 i) H' (vp_V (fs.set k v)) := fun H' e1 => by
    rw [hsl] at e1
    exact t_OB.to (V := updV (vp_V fs) k v) ⟨_, e1, q2, q3, t_set q4 hap hk v⟩ (fun j _ => vp_updV_set hl v j)
  unfold u_lay at hlay
  rcases hlink with ⟨h, hf | ⟨hf, hde, hin⟩⟩ | ⟨host, h, hf⟩
  · have hf : (T k).2.2.2 = false := hf
    rw [if_neg (by rw [hf]; decide)] at hlay
    have h6 := u_store hfc hkC hkind hlay hi hd hn hfit
    refine W.putK hexec hb (f := f) ⟨hown, hK.at h rfl, ⟨_, _, _, hi⟩, hst⟩ (by rw [q2]; exact h6) q1 q3 (by rw [hsl]; exact k2_hasslot (q4 k hk)) rfl rfl hdg fun H' e1 e2 e3 => ?_
    exact kk H' _ (hfin H' e1) e2 e3
  · have hf : (T k).2.2.2 = true := hf
    have hde : (T k).1 = own := hde
    rw [if_pos hf] at hlay
    have hcf : m.cls = cf := by
      obtain ⟨_, _, c', _, _, _, -, -, hf', -, -, -, hown2, -⟩ := Cond.laysFinal_spec hlay
      have e1 : c' = cf := by have := hi.symm.trans hf'; simp at this; exact this.1.symm
      rw [hde] at hown2
      rw [← e1]; exact Option.some.inj (hown.symm.trans hown2)
    have h6 := u_fits hfc hkC hkind (Or.inr hlay) hi hd hn hfit
    refine W.putFinK hexec hb hown (hK.at h rfl) hi hst hcf hin (by rw [q2]; exact h6) q1 q3 (by rw [hsl]; exact k2_hasslot (q4 k hk)) rfl rfl hdg fun H' e1 e2 e3 => ?_
    exact kk H' _ (hfin H' e1) e2 e3
  · have hf : (T k).2.2.2 = false := hf
    rw [if_neg (by rw [hf]; decide)] at hlay
    have h6 := u_store hfc hkC hkind hlay hi hd hn hfit
    refine va_WputK hexec hb (f := f) hown (hK.at h rfl) hi hst (by rw [q2]; exact h6) q1 q3 (by rw [hsl]; exact k2_hasslot (q4 k hk)) rfl rfl hdg fun H' e1 e2 e3 => ?_
    exact kk H' _ (hfin H' e1) e2 e3
theorem iv_newc (hexec : p.tables.exec = Jvm.exec) (hb : c.code = cc) (hown : s.vm.findClass own = some m.cls) (hK : iv_Kw D s) {i index j : Nat} {q : vw_C} (hc : iv_cl[i]? = some q) (hck : iv_ckc i q) (hlink : lw_tbl[j]? = some (.classLink own index q.1)) {fs : List Value} (hfs : ∀ j, j < q.2.2 → defaultValue (iv_ft i j) = vp_V fs j) (hcells : cells + 1 ≤ R.cells) (hslots : slots + q.2.2 ≤ R.slots) (hdg : decode cc pc = .ok (.new index, 3))
    (kk : ∀ (H1 : Heap), t_OB H.size (D.1 i) q.2.2 (D.2 i) H1 (vp_V fs) → H1.size = H.size + 1 → (∀ q : Nat, q < H.size → H1[q]? = H[q]?) → W p l e R s m args below meth c H1 locs (cells + 1) (slots + q.2.2) Q (F0 m (pc + 3) ls (.ref H.size :: rest))) : W p l e R s m args below meth c H locs cells slots Q (F0 m pc ls rest) := by
  obtain ⟨C, T, N⟩ := q
  have hts : ∀ w ∈ u_ws C T N, w.before args s = true := fun w hw => hK.use (hck.2.1 w hw).1 (hck.2.1 w hw).2
  have hKn := hK.1 i _ hc
  refine W.newcK hexec hb hown (hK.at hlink rfl) (hK.use hck.2.2.2.2.1 rfl) (hK.use hck.2.2.2.2.2 rfl) rfl hdg hcells hslots hKn.2.1 rfl fun H1 kC hkC e1 z1 o1 => ?_
  exact kk H1 ((u_born (iv_ft i) hts (fun w h => h) hKn hkC e1 hck.2.2.1).to hfs) z1 o1
/-- behind a call -/
theorem iv_after {mc ms : Nat} {g : JFrame} {Qa : State → Outcome → State → Prop} {free : Addr → Prop} (hr : va_Run p l e R s m args below meth c H locs cells slots mc ms g rest Qa free)
    (kk : ∀ (v : Option Value) (st₀ t : State) (H1 : Heap) (L : List Loc), Qa st₀ (.returned v) t → t.heap = H1 → s.vm.Alike t.vm → (∀ q ∈ L, free q.base) → W p l e R s m args below meth c H1 (locs ++ L) (cells + mc) (slots + ms) Q { g with pc := g.pc + 3, stack := v.toList ++ rest }) : W p l e R s m args below meth c H locs cells slots Q g := by
  intro T hT X
  obtain ⟨v, st₀, t, T', L, h0, X', hL, e1, e2, hq, st⟩ := hr T hT X
  obtain ⟨t2, a1, b1⟩ := kk v st₀ t T'.heap L hq e1.symm (by rw [← e2]; exact X'.warmed.alike) hL T' rfl X'
  exact ⟨t2, st t2 a1, b1⟩
end IVB
