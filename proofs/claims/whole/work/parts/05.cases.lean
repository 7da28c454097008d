/-! a run of the small machine is a walk of the method -/
def iv_T (p : Program) (l : Launch) (e : Env) (R : Room) (s : State) (m : MethodId) (args : Array Value) (below : List Frame) (meth : Method) (c : Code) (Q : State → Prop) (D : va_G) (b z n0 s0 nL : Nat) (pc : Nat) (L st : List Value) (w : iv_S) : Prop :=
  ∀ (H : Heap) (ls : Array Slot) (locs : List Loc) (cells slots : Nat), iv_rep D b z s w H → iv_fr (iv_r b z) nL L ls → (∀ q ∈ locs, z ≤ q.base) → n0 + cells = w.2.1 → s0 + slots = w.2.2 → W p l e R s m args below meth c H locs cells slots Q (F0 m pc ls (st.map (iv_mv (iv_r b z))))
def iv_le (w w' : iv_S) : Prop := w.2.1 ≤ w'.2.1 ∧ w.2.2 ≤ w'.2.2
section IVC
variable {p : Program} {l : Launch} {e : Env} {R : Room} {s : State} {m : MethodId} {args : Array Value} {below : List Frame} {meth : Method} {c : Code} {Q : State → Prop}
variable {D : va_G} {b z n0 s0 nL : Nat} {own : String} {cc : ByteArray} {code : List iv_I} {rt : Option FieldType} {call : Nat → List Value → iv_S → iv_R} {v : Option Value} {w' : iv_S} {K : iv_Q} {pc k : Nat} {L st : List Value} {w : iv_S}
theorem iv_c_iconst (hx : p.tables.exec = Jvm.exec) (hb : c.code = cc) (hK : ∀ (k : Nat) (L st : List Value) (w : iv_S), K k L st w = some (v, w') → (iv_le w w' ∧ ∃ J, code[k]? = some J ∧ iv_T p l e R s m args below meth c Q D b z n0 s0 nL J.1.1 L st w)) {n : Int} (hd : decode cc pc = .ok (.iconst n, 1)) (hn : ∀ J, code[k + 1]? = some J → J.1.1 = pc + 1) (h : K (k + 1) L (.int (Int32.ofInt n) :: st) w = some (v, w')) : iv_le w w' ∧ iv_T p l e R s m args below meth c Q D b z n0 s0 nL (pc) L st w := by
  obtain ⟨h1, J, h2, h3⟩ := hK _ _ _ _ h
  refine ⟨h1, fun H ls locs cells slots a1 a2 a3 a4 a5 => ?_⟩
  have h4 := h3 H ls locs cells slots a1 a2 a3 a4 a5
  rw [hn J h2] at h4
  exact lv_iconst hx hb hd rfl h4
theorem iv_c_bipush (hx : p.tables.exec = Jvm.exec) (hb : c.code = cc) (hK : ∀ (k : Nat) (L st : List Value) (w : iv_S), K k L st w = some (v, w') → (iv_le w w' ∧ ∃ J, code[k]? = some J ∧ iv_T p l e R s m args below meth c Q D b z n0 s0 nL J.1.1 L st w)) {n : Int} (hd : decode cc pc = .ok (.bipush n, 2)) (hn : ∀ J, code[k + 1]? = some J → J.1.1 = pc + 2) (h : K (k + 1) L (.int (Int8.ofInt n).toInt32 :: st) w = some (v, w')) : iv_le w w' ∧ iv_T p l e R s m args below meth c Q D b z n0 s0 nL (pc) L st w := by
  obtain ⟨h1, J, h2, h3⟩ := hK _ _ _ _ h
  refine ⟨h1, fun H ls locs cells slots a1 a2 a3 a4 a5 => ?_⟩
  have h4 := h3 H ls locs cells slots a1 a2 a3 a4 a5
  rw [hn J h2] at h4
  exact lv_bipush hx hb hd rfl h4
theorem iv_c_sipush (hx : p.tables.exec = Jvm.exec) (hb : c.code = cc) (hK : ∀ (k : Nat) (L st : List Value) (w : iv_S), K k L st w = some (v, w') → (iv_le w w' ∧ ∃ J, code[k]? = some J ∧ iv_T p l e R s m args below meth c Q D b z n0 s0 nL J.1.1 L st w)) {n : Int} (hd : decode cc pc = .ok (.sipush n, 3)) (hn : ∀ J, code[k + 1]? = some J → J.1.1 = pc + 3) (h : K (k + 1) L (.int (Int16.ofInt n).toInt32 :: st) w = some (v, w')) : iv_le w w' ∧ iv_T p l e R s m args below meth c Q D b z n0 s0 nL (pc) L st w := by
  obtain ⟨h1, J, h2, h3⟩ := hK _ _ _ _ h
  refine ⟨h1, fun H ls locs cells slots a1 a2 a3 a4 a5 => ?_⟩
  have h4 := h3 H ls locs cells slots a1 a2 a3 a4 a5
  rw [hn J h2] at h4
  exact lv_sipush hx hb hd rfl h4
theorem iv_c_null (hx : p.tables.exec = Jvm.exec) (hb : c.code = cc) (hK : ∀ (k : Nat) (L st : List Value) (w : iv_S), K k L st w = some (v, w') → (iv_le w w' ∧ ∃ J, code[k]? = some J ∧ iv_T p l e R s m args below meth c Q D b z n0 s0 nL J.1.1 L st w)) (hd : decode cc pc = .ok (.aconst_null, 1)) (hn : ∀ J, code[k + 1]? = some J → J.1.1 = pc + 1) (h : K (k + 1) L (.null :: st) w = some (v, w')) : iv_le w w' ∧ iv_T p l e R s m args below meth c Q D b z n0 s0 nL (pc) L st w := by
  obtain ⟨h1, J, h2, h3⟩ := hK _ _ _ _ h
  refine ⟨h1, fun H ls locs cells slots a1 a2 a3 a4 a5 => ?_⟩
  have h4 := h3 H ls locs cells slots a1 a2 a3 a4 a5
  rw [hn J h2] at h4
  exact lv_null hx hb hd h4
theorem iv_c_ldc (hx : p.tables.exec = Jvm.exec) (hb : c.code = cc) (hK : ∀ (k : Nat) (L st : List Value) (w : iv_S), K k L st w = some (v, w') → (iv_le w w' ∧ ∃ J, code[k]? = some J ∧ iv_T p l e R s m args below meth c Q D b z n0 s0 nL J.1.1 L st w)) (hown : s.vm.findClass own = some m.cls) (hW : iv_Kw D s) {index x u : Nat} (hlink : lw_tbl[u]? = some (.constant own index (Int32.ofNat x))) (hd : decode cc pc = .ok (.ldc index, 2)) (hn : ∀ J, code[k + 1]? = some J → J.1.1 = pc + 2) (h : K (k + 1) L (.int (Int32.ofNat x) :: st) w = some (v, w')) : iv_le w w' ∧ iv_T p l e R s m args below meth c Q D b z n0 s0 nL (pc) L st w := by
  obtain ⟨h1, J, h2, h3⟩ := hK _ _ _ _ h
  refine ⟨h1, fun H ls locs cells slots a1 a2 a3 a4 a5 => ?_⟩
  have h4 := h3 H ls locs cells slots a1 a2 a3 a4 a5
  rw [hn J h2] at h4
  exact lv_ldc hx hb hown (hW.at hlink rfl) hd h4
theorem iv_c_iload (hx : p.tables.exec = Jvm.exec) (hb : c.code = cc) (hK : ∀ (k : Nat) (L st : List Value) (w : iv_S), K k L st w = some (v, w') → (iv_le w w' ∧ ∃ J, code[k]? = some J ∧ iv_T p l e R s m args below meth c Q D b z n0 s0 nL J.1.1 L st w)) {i : Nat} (hd : decode cc pc = .ok (.iload i, 2)) (hn : ∀ J, code[k + 1]? = some J → J.1.1 = pc + 2) (h : iv_ldi L i (fun x => K (k + 1) L (.int x :: st) w) = some (v, w')) : iv_le w w' ∧ iv_T p l e R s m args below meth c Q D b z n0 s0 nL (pc) L st w := by
  unfold iv_ldi at h
  split at h
  · rename_i x hL
    obtain ⟨h1, J, h2, h3⟩ := hK _ _ _ _ h
    refine ⟨h1, fun H ls locs cells slots a1 a2 a3 a4 a5 => ?_⟩
    have h4 := h3 H ls locs cells slots a1 a2 a3 a4 a5
    rw [hn J h2] at h4
    exact lv_iload hx hb hd (a2.get hL rfl) h4
  · cases h
theorem iv_c_iload_n (hx : p.tables.exec = Jvm.exec) (hb : c.code = cc) (hK : ∀ (k : Nat) (L st : List Value) (w : iv_S), K k L st w = some (v, w') → (iv_le w w' ∧ ∃ J, code[k]? = some J ∧ iv_T p l e R s m args below meth c Q D b z n0 s0 nL J.1.1 L st w)) {i : Fin 4} (hd : decode cc pc = .ok (.iload_n i, 1)) (hn : ∀ J, code[k + 1]? = some J → J.1.1 = pc + 1) (h : iv_ldi L i.val (fun x => K (k + 1) L (.int x :: st) w) = some (v, w')) : iv_le w w' ∧ iv_T p l e R s m args below meth c Q D b z n0 s0 nL (pc) L st w := by
  unfold iv_ldi at h
  split at h
  · rename_i x hL
    obtain ⟨h1, J, h2, h3⟩ := hK _ _ _ _ h
    refine ⟨h1, fun H ls locs cells slots a1 a2 a3 a4 a5 => ?_⟩
    have h4 := h3 H ls locs cells slots a1 a2 a3 a4 a5
    rw [hn J h2] at h4
    exact lv_iload_n hx hb hd rfl (a2.get hL rfl) h4
  · cases h
theorem iv_c_aload (hx : p.tables.exec = Jvm.exec) (hb : c.code = cc) (hK : ∀ (k : Nat) (L st : List Value) (w : iv_S), K k L st w = some (v, w') → (iv_le w w' ∧ ∃ J, code[k]? = some J ∧ iv_T p l e R s m args below meth c Q D b z n0 s0 nL J.1.1 L st w)) {i : Nat} (hd : decode cc pc = .ok (.aload i, 2)) (hn : ∀ J, code[k + 1]? = some J → J.1.1 = pc + 2) (h : iv_lda L i (fun x => K (k + 1) L (x :: st) w) = some (v, w')) : iv_le w w' ∧ iv_T p l e R s m args below meth c Q D b z n0 s0 nL (pc) L st w := by
  unfold iv_lda at h
  split at h
  · rename_i x hL
    obtain ⟨h1, J, h2, h3⟩ := hK _ _ _ _ h
    refine ⟨h1, fun H ls locs cells slots a1 a2 a3 a4 a5 => ?_⟩
    have h4 := h3 H ls locs cells slots a1 a2 a3 a4 a5
    rw [hn J h2] at h4
    exact lv_aload hx hb hd (a2.get hL rfl) h4
  · rename_i hL
    obtain ⟨h1, J, h2, h3⟩ := hK _ _ _ _ h
    refine ⟨h1, fun H ls locs cells slots a1 a2 a3 a4 a5 => ?_⟩
    have h4 := h3 H ls locs cells slots a1 a2 a3 a4 a5
    rw [hn J h2] at h4
    exact lv_aloadN hx hb hd (a2.get hL rfl) h4
  · cases h
theorem iv_c_aload_n (hx : p.tables.exec = Jvm.exec) (hb : c.code = cc) (hK : ∀ (k : Nat) (L st : List Value) (w : iv_S), K k L st w = some (v, w') → (iv_le w w' ∧ ∃ J, code[k]? = some J ∧ iv_T p l e R s m args below meth c Q D b z n0 s0 nL J.1.1 L st w)) {i : Fin 4} (hd : decode cc pc = .ok (.aload_n i, 1)) (hn : ∀ J, code[k + 1]? = some J → J.1.1 = pc + 1) (h : iv_lda L i.val (fun x => K (k + 1) L (x :: st) w) = some (v, w')) : iv_le w w' ∧ iv_T p l e R s m args below meth c Q D b z n0 s0 nL (pc) L st w := by
  unfold iv_lda at h
  split at h
  · rename_i x hL
    obtain ⟨h1, J, h2, h3⟩ := hK _ _ _ _ h
    refine ⟨h1, fun H ls locs cells slots a1 a2 a3 a4 a5 => ?_⟩
    have h4 := h3 H ls locs cells slots a1 a2 a3 a4 a5
    rw [hn J h2] at h4
    exact lv_aload_n hx hb hd rfl (a2.get hL rfl) h4
  · rename_i hL
    obtain ⟨h1, J, h2, h3⟩ := hK _ _ _ _ h
    refine ⟨h1, fun H ls locs cells slots a1 a2 a3 a4 a5 => ?_⟩
    have h4 := h3 H ls locs cells slots a1 a2 a3 a4 a5
    rw [hn J h2] at h4
    exact lv_aload_nN hx hb hd rfl (a2.get hL rfl) h4
  · cases h
theorem iv_c_istore (hx : p.tables.exec = Jvm.exec) (hb : c.code = cc) (hK : ∀ (k : Nat) (L st : List Value) (w : iv_S), K k L st w = some (v, w') → (iv_le w w' ∧ ∃ J, code[k]? = some J ∧ iv_T p l e R s m args below meth c Q D b z n0 s0 nL J.1.1 L st w)) {i : Nat} (hd : decode cc pc = .ok (.istore i, 2)) (hn : ∀ J, code[k + 1]? = some J → J.1.1 = pc + 2) (h : iv_p1 st (fun x st' => iv_sto L i (.int x) (fun L' => K (k + 1) L' st' w)) = some (v, w')) : iv_le w w' ∧ iv_T p l e R s m args below meth c Q D b z n0 s0 nL (pc) L st w := by
  unfold iv_p1 at h
  split at h
  · unfold iv_sto at h
    split at h
    · rename_i hlt
      obtain ⟨h1, J, h2, h3⟩ := hK _ _ _ _ h
      refine ⟨h1, fun H ls locs cells slots a1 a2 a3 a4 a5 => ?_⟩
      obtain ⟨hl, lv, b1, b2⟩ := a2
      refine lv_istore hx hb hd b1 (by omega) rfl fun ls' b3 => ?_
      have h4 := h3 H ls' locs cells slots a1 (iv_fr.set hl b2 b3) a3 a4 a5
      rw [hn J h2] at h4
      exact h4
    · cases h
  · cases h
theorem iv_c_istore_n (hx : p.tables.exec = Jvm.exec) (hb : c.code = cc) (hK : ∀ (k : Nat) (L st : List Value) (w : iv_S), K k L st w = some (v, w') → (iv_le w w' ∧ ∃ J, code[k]? = some J ∧ iv_T p l e R s m args below meth c Q D b z n0 s0 nL J.1.1 L st w)) {i : Fin 4} (hd : decode cc pc = .ok (.istore_n i, 1)) (hn : ∀ J, code[k + 1]? = some J → J.1.1 = pc + 1) (h : iv_p1 st (fun x st' => iv_sto L i.val (.int x) (fun L' => K (k + 1) L' st' w)) = some (v, w')) : iv_le w w' ∧ iv_T p l e R s m args below meth c Q D b z n0 s0 nL (pc) L st w := by
  unfold iv_p1 at h
  split at h
  · unfold iv_sto at h
    split at h
    · rename_i hlt
      obtain ⟨h1, J, h2, h3⟩ := hK _ _ _ _ h
      refine ⟨h1, fun H ls locs cells slots a1 a2 a3 a4 a5 => ?_⟩
      obtain ⟨hl, lv, b1, b2⟩ := a2
      refine lv_istore_n hx hb hd rfl b1 (by omega) rfl fun ls' b3 => ?_
      have h4 := h3 H ls' locs cells slots a1 (iv_fr.set hl b2 b3) a3 a4 a5
      rw [hn J h2] at h4
      exact h4
    · cases h
  · cases h
theorem iv_c_astore (hx : p.tables.exec = Jvm.exec) (hb : c.code = cc) (hK : ∀ (k : Nat) (L st : List Value) (w : iv_S), K k L st w = some (v, w') → (iv_le w w' ∧ ∃ J, code[k]? = some J ∧ iv_T p l e R s m args below meth c Q D b z n0 s0 nL J.1.1 L st w)) {i : Nat} (hd : decode cc pc = .ok (.astore i, 2)) (hn : ∀ J, code[k + 1]? = some J → J.1.1 = pc + 2) (h : (match st with
    | .ref a :: st' => iv_sto L i (.ref a) (fun L' => K (k + 1) L' st' w)
    | _ => none) = some (v, w')) : iv_le w w' ∧ iv_T p l e R s m args below meth c Q D b z n0 s0 nL (pc) L st w := by
  split at h
  · unfold iv_sto at h
    split at h
    · rename_i hlt
      obtain ⟨h1, J, h2, h3⟩ := hK _ _ _ _ h
      refine ⟨h1, fun H ls locs cells slots a1 a2 a3 a4 a5 => ?_⟩
      obtain ⟨hl, lv, b1, b2⟩ := a2
      refine lv_astore hx hb hd b1 (by omega) rfl fun ls' b3 => ?_
      have h4 := h3 H ls' locs cells slots a1 (iv_fr.set hl b2 b3) a3 a4 a5
      rw [hn J h2] at h4
      exact h4
    · cases h
  · cases h
theorem iv_c_astore_n (hx : p.tables.exec = Jvm.exec) (hb : c.code = cc) (hK : ∀ (k : Nat) (L st : List Value) (w : iv_S), K k L st w = some (v, w') → (iv_le w w' ∧ ∃ J, code[k]? = some J ∧ iv_T p l e R s m args below meth c Q D b z n0 s0 nL J.1.1 L st w)) {i : Fin 4} (hd : decode cc pc = .ok (.astore_n i, 1)) (hn : ∀ J, code[k + 1]? = some J → J.1.1 = pc + 1) (h : (match st with
    | .ref a :: st' => iv_sto L i.val (.ref a) (fun L' => K (k + 1) L' st' w)
    | _ => none) = some (v, w')) : iv_le w w' ∧ iv_T p l e R s m args below meth c Q D b z n0 s0 nL (pc) L st w := by
  split at h
  · unfold iv_sto at h
    split at h
    · rename_i hlt
      obtain ⟨h1, J, h2, h3⟩ := hK _ _ _ _ h
      refine ⟨h1, fun H ls locs cells slots a1 a2 a3 a4 a5 => ?_⟩
      obtain ⟨hl, lv, b1, b2⟩ := a2
      refine lv_astore_n hx hb hd rfl b1 (by omega) rfl fun ls' b3 => ?_
      have h4 := h3 H ls' locs cells slots a1 (iv_fr.set hl b2 b3) a3 a4 a5
      rw [hn J h2] at h4
      exact h4
    · cases h
  · cases h
theorem iv_c_iinc (hx : p.tables.exec = Jvm.exec) (hb : c.code = cc) (hK : ∀ (k : Nat) (L st : List Value) (w : iv_S), K k L st w = some (v, w') → (iv_le w w' ∧ ∃ J, code[k]? = some J ∧ iv_T p l e R s m args below meth c Q D b z n0 s0 nL J.1.1 L st w)) {i : Nat} {n : Int} (hd : decode cc pc = .ok (.iinc i n, 3)) (hn : ∀ J, code[k + 1]? = some J → J.1.1 = pc + 3) (h : iv_ldi L i (fun x => iv_sto L i (.int (x + Int32.ofInt n)) (fun L' => K (k + 1) L' st w)) = some (v, w')) : iv_le w w' ∧ iv_T p l e R s m args below meth c Q D b z n0 s0 nL (pc) L st w := by
  unfold iv_ldi at h
  split at h
  · rename_i x hL
    unfold iv_sto at h
    split at h
    · rename_i hlt
      obtain ⟨h1, J, h2, h3⟩ := hK _ _ _ _ h
      refine ⟨h1, fun H ls locs cells slots a1 a2 a3 a4 a5 => ?_⟩
      obtain ⟨hl, lv, b1, b2⟩ := a2
      obtain ⟨kk, hkk⟩ := List.getElem?_of_mem (b2 i _ hL rfl)
      refine lv_iinc hx hb hd b1 hkk rfl (by omega) rfl fun ls' b3 => ?_
      have h4 := h3 H ls' locs cells slots a1 (iv_fr.set hl b2 b3) a3 a4 a5
      rw [hn J h2] at h4
      exact h4
    · cases h
  · cases h
theorem iv_c_iadd (hx : p.tables.exec = Jvm.exec) (hb : c.code = cc) (hK : ∀ (k : Nat) (L st : List Value) (w : iv_S), K k L st w = some (v, w') → (iv_le w w' ∧ ∃ J, code[k]? = some J ∧ iv_T p l e R s m args below meth c Q D b z n0 s0 nL J.1.1 L st w)) (hd : decode cc pc = .ok (.iadd, 1)) (hn : ∀ J, code[k + 1]? = some J → J.1.1 = pc + 1) (h : iv_p2 st (fun x y st' => K (k + 1) L (.int (x + y) :: st') w) = some (v, w')) : iv_le w w' ∧ iv_T p l e R s m args below meth c Q D b z n0 s0 nL (pc) L st w := by
  unfold iv_p2 at h
  split at h
  · obtain ⟨h1, J, h2, h3⟩ := hK _ _ _ _ h
    refine ⟨h1, fun H ls locs cells slots a1 a2 a3 a4 a5 => ?_⟩
    have h4 := h3 H ls locs cells slots a1 a2 a3 a4 a5
    rw [hn J h2] at h4
    exact lv_iadd hx hb hd h4
  · cases h
theorem iv_c_isub (hx : p.tables.exec = Jvm.exec) (hb : c.code = cc) (hK : ∀ (k : Nat) (L st : List Value) (w : iv_S), K k L st w = some (v, w') → (iv_le w w' ∧ ∃ J, code[k]? = some J ∧ iv_T p l e R s m args below meth c Q D b z n0 s0 nL J.1.1 L st w)) (hd : decode cc pc = .ok (.isub, 1)) (hn : ∀ J, code[k + 1]? = some J → J.1.1 = pc + 1) (h : iv_p2 st (fun x y st' => K (k + 1) L (.int (x - y) :: st') w) = some (v, w')) : iv_le w w' ∧ iv_T p l e R s m args below meth c Q D b z n0 s0 nL (pc) L st w := by
  unfold iv_p2 at h
  split at h
  · obtain ⟨h1, J, h2, h3⟩ := hK _ _ _ _ h
    refine ⟨h1, fun H ls locs cells slots a1 a2 a3 a4 a5 => ?_⟩
    have h4 := h3 H ls locs cells slots a1 a2 a3 a4 a5
    rw [hn J h2] at h4
    exact lv_isub hx hb hd h4
  · cases h
theorem iv_c_imul (hx : p.tables.exec = Jvm.exec) (hb : c.code = cc) (hK : ∀ (k : Nat) (L st : List Value) (w : iv_S), K k L st w = some (v, w') → (iv_le w w' ∧ ∃ J, code[k]? = some J ∧ iv_T p l e R s m args below meth c Q D b z n0 s0 nL J.1.1 L st w)) (hd : decode cc pc = .ok (.imul, 1)) (hn : ∀ J, code[k + 1]? = some J → J.1.1 = pc + 1) (h : iv_p2 st (fun x y st' => K (k + 1) L (.int (x * y) :: st') w) = some (v, w')) : iv_le w w' ∧ iv_T p l e R s m args below meth c Q D b z n0 s0 nL (pc) L st w := by
  unfold iv_p2 at h
  split at h
  · obtain ⟨h1, J, h2, h3⟩ := hK _ _ _ _ h
    refine ⟨h1, fun H ls locs cells slots a1 a2 a3 a4 a5 => ?_⟩
    have h4 := h3 H ls locs cells slots a1 a2 a3 a4 a5
    rw [hn J h2] at h4
    exact lv_imul hx hb hd h4
  · cases h
theorem iv_c_iand (hx : p.tables.exec = Jvm.exec) (hb : c.code = cc) (hK : ∀ (k : Nat) (L st : List Value) (w : iv_S), K k L st w = some (v, w') → (iv_le w w' ∧ ∃ J, code[k]? = some J ∧ iv_T p l e R s m args below meth c Q D b z n0 s0 nL J.1.1 L st w)) (hd : decode cc pc = .ok (.iand, 1)) (hn : ∀ J, code[k + 1]? = some J → J.1.1 = pc + 1) (h : iv_p2 st (fun x y st' => K (k + 1) L (.int (x &&& y) :: st') w) = some (v, w')) : iv_le w w' ∧ iv_T p l e R s m args below meth c Q D b z n0 s0 nL (pc) L st w := by
  unfold iv_p2 at h
  split at h
  · obtain ⟨h1, J, h2, h3⟩ := hK _ _ _ _ h
    refine ⟨h1, fun H ls locs cells slots a1 a2 a3 a4 a5 => ?_⟩
    have h4 := h3 H ls locs cells slots a1 a2 a3 a4 a5
    rw [hn J h2] at h4
    exact lv_iand hx hb hd h4
  · cases h
theorem iv_c_ior (hx : p.tables.exec = Jvm.exec) (hb : c.code = cc) (hK : ∀ (k : Nat) (L st : List Value) (w : iv_S), K k L st w = some (v, w') → (iv_le w w' ∧ ∃ J, code[k]? = some J ∧ iv_T p l e R s m args below meth c Q D b z n0 s0 nL J.1.1 L st w)) (hd : decode cc pc = .ok (.ior, 1)) (hn : ∀ J, code[k + 1]? = some J → J.1.1 = pc + 1) (h : iv_p2 st (fun x y st' => K (k + 1) L (.int (x ||| y) :: st') w) = some (v, w')) : iv_le w w' ∧ iv_T p l e R s m args below meth c Q D b z n0 s0 nL (pc) L st w := by
  unfold iv_p2 at h
  split at h
  · obtain ⟨h1, J, h2, h3⟩ := hK _ _ _ _ h
    refine ⟨h1, fun H ls locs cells slots a1 a2 a3 a4 a5 => ?_⟩
    have h4 := h3 H ls locs cells slots a1 a2 a3 a4 a5
    rw [hn J h2] at h4
    exact lv_ior hx hb hd h4
  · cases h
theorem iv_c_ixor (hx : p.tables.exec = Jvm.exec) (hb : c.code = cc) (hK : ∀ (k : Nat) (L st : List Value) (w : iv_S), K k L st w = some (v, w') → (iv_le w w' ∧ ∃ J, code[k]? = some J ∧ iv_T p l e R s m args below meth c Q D b z n0 s0 nL J.1.1 L st w)) (hd : decode cc pc = .ok (.ixor, 1)) (hn : ∀ J, code[k + 1]? = some J → J.1.1 = pc + 1) (h : iv_p2 st (fun x y st' => K (k + 1) L (.int (x ^^^ y) :: st') w) = some (v, w')) : iv_le w w' ∧ iv_T p l e R s m args below meth c Q D b z n0 s0 nL (pc) L st w := by
  unfold iv_p2 at h
  split at h
  · obtain ⟨h1, J, h2, h3⟩ := hK _ _ _ _ h
    refine ⟨h1, fun H ls locs cells slots a1 a2 a3 a4 a5 => ?_⟩
    have h4 := h3 H ls locs cells slots a1 a2 a3 a4 a5
    rw [hn J h2] at h4
    exact lv_ixor hx hb hd h4
  · cases h
theorem iv_c_ishl (hx : p.tables.exec = Jvm.exec) (hb : c.code = cc) (hK : ∀ (k : Nat) (L st : List Value) (w : iv_S), K k L st w = some (v, w') → (iv_le w w' ∧ ∃ J, code[k]? = some J ∧ iv_T p l e R s m args below meth c Q D b z n0 s0 nL J.1.1 L st w)) (hd : decode cc pc = .ok (.ishl, 1)) (hn : ∀ J, code[k + 1]? = some J → J.1.1 = pc + 1) (h : iv_p2 st (fun x y st' => K (k + 1) L (.int (x <<< (y &&& 31)) :: st') w) = some (v, w')) : iv_le w w' ∧ iv_T p l e R s m args below meth c Q D b z n0 s0 nL (pc) L st w := by
  unfold iv_p2 at h
  split at h
  · obtain ⟨h1, J, h2, h3⟩ := hK _ _ _ _ h
    refine ⟨h1, fun H ls locs cells slots a1 a2 a3 a4 a5 => ?_⟩
    have h4 := h3 H ls locs cells slots a1 a2 a3 a4 a5
    rw [hn J h2] at h4
    exact lv_ishl hx hb hd h4
  · cases h
theorem iv_c_ishr (hx : p.tables.exec = Jvm.exec) (hb : c.code = cc) (hK : ∀ (k : Nat) (L st : List Value) (w : iv_S), K k L st w = some (v, w') → (iv_le w w' ∧ ∃ J, code[k]? = some J ∧ iv_T p l e R s m args below meth c Q D b z n0 s0 nL J.1.1 L st w)) (hd : decode cc pc = .ok (.ishr, 1)) (hn : ∀ J, code[k + 1]? = some J → J.1.1 = pc + 1) (h : iv_p2 st (fun x y st' => K (k + 1) L (.int (x >>> (y &&& 31)) :: st') w) = some (v, w')) : iv_le w w' ∧ iv_T p l e R s m args below meth c Q D b z n0 s0 nL (pc) L st w := by
  unfold iv_p2 at h
  split at h
  · obtain ⟨h1, J, h2, h3⟩ := hK _ _ _ _ h
    refine ⟨h1, fun H ls locs cells slots a1 a2 a3 a4 a5 => ?_⟩
    have h4 := h3 H ls locs cells slots a1 a2 a3 a4 a5
    rw [hn J h2] at h4
    exact lv_ishr hx hb hd h4
  · cases h
theorem iv_c_idiv (hx : p.tables.exec = Jvm.exec) (hb : c.code = cc) (hK : ∀ (k : Nat) (L st : List Value) (w : iv_S), K k L st w = some (v, w') → (iv_le w w' ∧ ∃ J, code[k]? = some J ∧ iv_T p l e R s m args below meth c Q D b z n0 s0 nL J.1.1 L st w)) (hd : decode cc pc = .ok (.idiv, 1)) (hn : ∀ J, code[k + 1]? = some J → J.1.1 = pc + 1) (h : iv_p2 st (fun x y st' => if y = 0 then none else K (k + 1) L (.int (x / y) :: st') w) = some (v, w')) : iv_le w w' ∧ iv_T p l e R s m args below meth c Q D b z n0 s0 nL (pc) L st w := by
  unfold iv_p2 at h
  split at h
  · dsimp only at h
    split at h
    · cases h
    · rename_i hne
      obtain ⟨h1, J, h2, h3⟩ := hK _ _ _ _ h
      refine ⟨h1, fun H ls locs cells slots a1 a2 a3 a4 a5 => ?_⟩
      have h4 := h3 H ls locs cells slots a1 a2 a3 a4 a5
      rw [hn J h2] at h4
      exact lv_idiv hx hb hd hne h4
  · cases h
theorem iv_c_irem (hx : p.tables.exec = Jvm.exec) (hb : c.code = cc) (hK : ∀ (k : Nat) (L st : List Value) (w : iv_S), K k L st w = some (v, w') → (iv_le w w' ∧ ∃ J, code[k]? = some J ∧ iv_T p l e R s m args below meth c Q D b z n0 s0 nL J.1.1 L st w)) (hd : decode cc pc = .ok (.irem, 1)) (hn : ∀ J, code[k + 1]? = some J → J.1.1 = pc + 1) (h : iv_p2 st (fun x y st' => if y = 0 then none else K (k + 1) L (.int (x - x / y * y) :: st') w) = some (v, w')) : iv_le w w' ∧ iv_T p l e R s m args below meth c Q D b z n0 s0 nL (pc) L st w := by
  unfold iv_p2 at h
  split at h
  · dsimp only at h
    split at h
    · cases h
    · rename_i hne
      obtain ⟨h1, J, h2, h3⟩ := hK _ _ _ _ h
      refine ⟨h1, fun H ls locs cells slots a1 a2 a3 a4 a5 => ?_⟩
      have h4 := h3 H ls locs cells slots a1 a2 a3 a4 a5
      rw [hn J h2] at h4
      exact lv_irem hx hb hd hne h4
  · cases h
theorem iv_c_ineg (hx : p.tables.exec = Jvm.exec) (hb : c.code = cc) (hK : ∀ (k : Nat) (L st : List Value) (w : iv_S), K k L st w = some (v, w') → (iv_le w w' ∧ ∃ J, code[k]? = some J ∧ iv_T p l e R s m args below meth c Q D b z n0 s0 nL J.1.1 L st w)) (hd : decode cc pc = .ok (.ineg, 1)) (hn : ∀ J, code[k + 1]? = some J → J.1.1 = pc + 1) (h : iv_p1 st (fun x st' => K (k + 1) L (.int (-x) :: st') w) = some (v, w')) : iv_le w w' ∧ iv_T p l e R s m args below meth c Q D b z n0 s0 nL (pc) L st w := by
  unfold iv_p1 at h
  split at h
  · skip
    obtain ⟨h1, J, h2, h3⟩ := hK _ _ _ _ h
    refine ⟨h1, fun H ls locs cells slots a1 a2 a3 a4 a5 => ?_⟩
    have h4 := h3 H ls locs cells slots a1 a2 a3 a4 a5
    rw [hn J h2] at h4
    exact lv_ineg hx hb hd h4
  · cases h
theorem iv_c_i2c (hx : p.tables.exec = Jvm.exec) (hb : c.code = cc) (hK : ∀ (k : Nat) (L st : List Value) (w : iv_S), K k L st w = some (v, w') → (iv_le w w' ∧ ∃ J, code[k]? = some J ∧ iv_T p l e R s m args below meth c Q D b z n0 s0 nL J.1.1 L st w)) (hd : decode cc pc = .ok (.i2c, 1)) (hn : ∀ J, code[k + 1]? = some J → J.1.1 = pc + 1) (h : iv_p1 st (fun x st' => K (k + 1) L (.int (x.toUInt32 % 65536).toInt32 :: st') w) = some (v, w')) : iv_le w w' ∧ iv_T p l e R s m args below meth c Q D b z n0 s0 nL (pc) L st w := by
  unfold iv_p1 at h
  split at h
  · skip
    obtain ⟨h1, J, h2, h3⟩ := hK _ _ _ _ h
    refine ⟨h1, fun H ls locs cells slots a1 a2 a3 a4 a5 => ?_⟩
    have h4 := h3 H ls locs cells slots a1 a2 a3 a4 a5
    rw [hn J h2] at h4
    exact lv_i2c hx hb hd rfl h4
  · cases h
theorem iv_c_dup (hx : p.tables.exec = Jvm.exec) (hb : c.code = cc) (hK : ∀ (k : Nat) (L st : List Value) (w : iv_S), K k L st w = some (v, w') → (iv_le w w' ∧ ∃ J, code[k]? = some J ∧ iv_T p l e R s m args below meth c Q D b z n0 s0 nL J.1.1 L st w)) (hd : decode cc pc = .ok (.dup, 1)) (hn : ∀ J, code[k + 1]? = some J → J.1.1 = pc + 1) (h : (match st with
    | a :: st' => (if iv_isv a = true then K (k + 1) L (a :: a :: st') w else none)
    | _ => none) = some (v, w')) : iv_le w w' ∧ iv_T p l e R s m args below meth c Q D b z n0 s0 nL (pc) L st w := by
  split at h
  · split at h
    · rename_i ha
      obtain ⟨h1, J, h2, h3⟩ := hK _ _ _ _ h
      refine ⟨h1, fun H ls locs cells slots a1 a2 a3 a4 a5 => ?_⟩
      have h4 := h3 H ls locs cells slots a1 a2 a3 a4 a5
      rw [hn J h2] at h4
      exact lv_dup hx hb hd (iv_cat ha) h4
    · cases h
  · cases h
theorem iv_c_pop (hx : p.tables.exec = Jvm.exec) (hb : c.code = cc) (hK : ∀ (k : Nat) (L st : List Value) (w : iv_S), K k L st w = some (v, w') → (iv_le w w' ∧ ∃ J, code[k]? = some J ∧ iv_T p l e R s m args below meth c Q D b z n0 s0 nL J.1.1 L st w)) (hd : decode cc pc = .ok (.pop, 1)) (hn : ∀ J, code[k + 1]? = some J → J.1.1 = pc + 1) (h : (match st with
    | a :: st' => (if iv_isv a = true then K (k + 1) L (st') w else none)
    | _ => none) = some (v, w')) : iv_le w w' ∧ iv_T p l e R s m args below meth c Q D b z n0 s0 nL (pc) L st w := by
  split at h
  · split at h
    · rename_i ha
      obtain ⟨h1, J, h2, h3⟩ := hK _ _ _ _ h
      refine ⟨h1, fun H ls locs cells slots a1 a2 a3 a4 a5 => ?_⟩
      have h4 := h3 H ls locs cells slots a1 a2 a3 a4 a5
      rw [hn J h2] at h4
      exact lv_pop hx hb hd (iv_cat ha) h4
    · cases h
  · cases h
theorem iv_c_dup_x1 (hx : p.tables.exec = Jvm.exec) (hb : c.code = cc) (hK : ∀ (k : Nat) (L st : List Value) (w : iv_S), K k L st w = some (v, w') → (iv_le w w' ∧ ∃ J, code[k]? = some J ∧ iv_T p l e R s m args below meth c Q D b z n0 s0 nL J.1.1 L st w)) (hd : decode cc pc = .ok (.dup_x1, 1)) (hn : ∀ J, code[k + 1]? = some J → J.1.1 = pc + 1) (h : (match st with
    | a :: b :: st' => (if iv_isv a = true then (if iv_isv b = true then K (k + 1) L (a :: b :: a :: st') w else none) else none)
    | _ => none) = some (v, w')) : iv_le w w' ∧ iv_T p l e R s m args below meth c Q D b z n0 s0 nL (pc) L st w := by
  split at h
  · split at h
    · rename_i ha
      split at h
      · rename_i hc
        obtain ⟨h1, J, h2, h3⟩ := hK _ _ _ _ h
        refine ⟨h1, fun H ls locs cells slots a1 a2 a3 a4 a5 => ?_⟩
        have h4 := h3 H ls locs cells slots a1 a2 a3 a4 a5
        rw [hn J h2] at h4
        exact lv_dup_x1 hx hb hd (iv_cat ha) (iv_cat hc) h4
      · cases h
    · cases h
  · cases h
theorem iv_c_dup2 (hx : p.tables.exec = Jvm.exec) (hb : c.code = cc) (hK : ∀ (k : Nat) (L st : List Value) (w : iv_S), K k L st w = some (v, w') → (iv_le w w' ∧ ∃ J, code[k]? = some J ∧ iv_T p l e R s m args below meth c Q D b z n0 s0 nL J.1.1 L st w)) (hd : decode cc pc = .ok (.dup2, 1)) (hn : ∀ J, code[k + 1]? = some J → J.1.1 = pc + 1) (h : (match st with
    | a :: b :: st' => (if iv_isv a = true then (if iv_isv b = true then K (k + 1) L (a :: b :: a :: b :: st') w else none) else none)
    | _ => none) = some (v, w')) : iv_le w w' ∧ iv_T p l e R s m args below meth c Q D b z n0 s0 nL (pc) L st w := by
  split at h
  · split at h
    · rename_i ha
      split at h
      · rename_i hc
        obtain ⟨h1, J, h2, h3⟩ := hK _ _ _ _ h
        refine ⟨h1, fun H ls locs cells slots a1 a2 a3 a4 a5 => ?_⟩
        have h4 := h3 H ls locs cells slots a1 a2 a3 a4 a5
        rw [hn J h2] at h4
        exact lv_dup2_11 hx hb hd (iv_cat ha) (iv_cat hc) h4
      · cases h
    · cases h
  · cases h
theorem iv_c_ifCond (hx : p.tables.exec = Jvm.exec) (hb : c.code = cc) (hK : ∀ (k : Nat) (L st : List Value) (w : iv_S), K k L st w = some (v, w') → (iv_le w w' ∧ ∃ J, code[k]? = some J ∧ iv_T p l e R s m args below meth c Q D b z n0 s0 nL J.1.1 L st w)) {j t0 : Nat} {off : Int} {q : Jvm.ClassFile.Cond} (hd : decode cc pc = .ok (.ifCond q off, 3)) (hn : ∀ J, code[k + 1]? = some J → J.1.1 = pc + 3) (hj : ∀ J, code[j]? = some J → (J.1.1 : Int) = (pc : Int) + off) (hj0 : (pc : Int) + off = (t0 : Int)) (h : iv_p1 st (fun x st' => if iv_cnd q x 0 = true then K j L st' w else K (k + 1) L st' w) = some (v, w')) : iv_le w w' ∧ iv_T p l e R s m args below meth c Q D b z n0 s0 nL (pc) L st w := by
  unfold iv_p1 at h
  split at h
  · dsimp only at h
    split at h
    · rename_i hc
      obtain ⟨h1, J, h2, h3⟩ := hK _ _ _ _ h
      refine ⟨h1, fun H ls locs cells slots a1 a2 a3 a4 a5 => ?_⟩
      have h4 := h3 H ls locs cells slots a1 a2 a3 a4 a5
      have ht := (hj J h2).symm
      cases q
      · exact lv_if_eq hx hb hd ht (fun _ => h4) (fun hz => by simp [iv_cnd, hz] at hc)
      · exact lv_if_ne hx hb hd ht (fun _ => h4) (fun hz => by simp [iv_cnd, hz] at hc)
      · exact lv_if_lt hx hb hd ht (fun _ => h4) (fun hz => by simp [iv_cnd, hz] at hc)
      · exact lv_if_ge hx hb hd ht (fun _ => h4) (fun hz => by simp [iv_cnd, hz] at hc)
      · exact lv_if_gt hx hb hd ht (fun _ => h4) (fun hz => by simp [iv_cnd, hz] at hc)
      · exact lv_if_le hx hb hd ht (fun _ => h4) (fun hz => by simp [iv_cnd, hz] at hc)
    · rename_i hc
      obtain ⟨h1, J, h2, h3⟩ := hK _ _ _ _ h
      refine ⟨h1, fun H ls locs cells slots a1 a2 a3 a4 a5 => ?_⟩
      have h4 := h3 H ls locs cells slots a1 a2 a3 a4 a5
      rw [hn J h2] at h4
      have ht := hj0
      cases q
      · exact lv_if_eq hx hb hd ht (fun hz => by simp [iv_cnd, hz] at hc) (fun _ => h4)
      · exact lv_if_ne hx hb hd ht (fun hz => by simp [iv_cnd, hz] at hc) (fun _ => h4)
      · exact lv_if_lt hx hb hd ht (fun hz => by simp [iv_cnd, hz] at hc) (fun _ => h4)
      · exact lv_if_ge hx hb hd ht (fun hz => by simp [iv_cnd, hz] at hc) (fun _ => h4)
      · exact lv_if_gt hx hb hd ht (fun hz => by simp [iv_cnd, hz] at hc) (fun _ => h4)
      · exact lv_if_le hx hb hd ht (fun hz => by simp [iv_cnd, hz] at hc) (fun _ => h4)
  · cases h
theorem iv_c_icmp (hx : p.tables.exec = Jvm.exec) (hb : c.code = cc) (hK : ∀ (k : Nat) (L st : List Value) (w : iv_S), K k L st w = some (v, w') → (iv_le w w' ∧ ∃ J, code[k]? = some J ∧ iv_T p l e R s m args below meth c Q D b z n0 s0 nL J.1.1 L st w)) {j t0 : Nat} {off : Int} {q : Jvm.ClassFile.Cond} (hd : decode cc pc = .ok (.if_icmp q off, 3)) (hn : ∀ J, code[k + 1]? = some J → J.1.1 = pc + 3) (hj : ∀ J, code[j]? = some J → (J.1.1 : Int) = (pc : Int) + off) (hj0 : (pc : Int) + off = (t0 : Int)) (h : iv_p2 st (fun x y st' => if iv_cnd q x y = true then K j L st' w else K (k + 1) L st' w) = some (v, w')) : iv_le w w' ∧ iv_T p l e R s m args below meth c Q D b z n0 s0 nL (pc) L st w := by
  unfold iv_p2 at h
  split at h
  · dsimp only at h
    split at h
    · rename_i hc
      obtain ⟨h1, J, h2, h3⟩ := hK _ _ _ _ h
      refine ⟨h1, fun H ls locs cells slots a1 a2 a3 a4 a5 => ?_⟩
      have h4 := h3 H ls locs cells slots a1 a2 a3 a4 a5
      have ht := (hj J h2).symm
      cases q
      · exact lv_icmp_eq hx hb hd ht (fun _ => h4) (fun hz => by simp [iv_cnd, hz] at hc)
      · exact lv_icmp_ne hx hb hd ht (fun _ => h4) (fun hz => by simp [iv_cnd, hz] at hc)
      · exact lv_icmp_lt hx hb hd ht (fun _ => h4) (fun hz => by simp [iv_cnd, hz] at hc)
      · exact lv_icmp_ge hx hb hd ht (fun _ => h4) (fun hz => by simp [iv_cnd, hz] at hc)
      · exact lv_icmp_gt hx hb hd ht (fun _ => h4) (fun hz => by simp [iv_cnd, hz] at hc)
      · exact lv_icmp_le hx hb hd ht (fun _ => h4) (fun hz => by simp [iv_cnd, hz] at hc)
    · rename_i hc
      obtain ⟨h1, J, h2, h3⟩ := hK _ _ _ _ h
      refine ⟨h1, fun H ls locs cells slots a1 a2 a3 a4 a5 => ?_⟩
      have h4 := h3 H ls locs cells slots a1 a2 a3 a4 a5
      rw [hn J h2] at h4
      have ht := hj0
      cases q
      · exact lv_icmp_eq hx hb hd ht (fun hz => by simp [iv_cnd, hz] at hc) (fun _ => h4)
      · exact lv_icmp_ne hx hb hd ht (fun hz => by simp [iv_cnd, hz] at hc) (fun _ => h4)
      · exact lv_icmp_lt hx hb hd ht (fun hz => by simp [iv_cnd, hz] at hc) (fun _ => h4)
      · exact lv_icmp_ge hx hb hd ht (fun hz => by simp [iv_cnd, hz] at hc) (fun _ => h4)
      · exact lv_icmp_gt hx hb hd ht (fun hz => by simp [iv_cnd, hz] at hc) (fun _ => h4)
      · exact lv_icmp_le hx hb hd ht (fun hz => by simp [iv_cnd, hz] at hc) (fun _ => h4)
  · cases h
theorem iv_c_ifnull (hx : p.tables.exec = Jvm.exec) (hb : c.code = cc) (hK : ∀ (k : Nat) (L st : List Value) (w : iv_S), K k L st w = some (v, w') → (iv_le w w' ∧ ∃ J, code[k]? = some J ∧ iv_T p l e R s m args below meth c Q D b z n0 s0 nL J.1.1 L st w)) {j : Nat} {off : Int} (hd : decode cc pc = .ok (.ifnull off, 3)) (hn : ∀ J, code[k + 1]? = some J → J.1.1 = pc + 3) (hj : ∀ J, code[j]? = some J → (J.1.1 : Int) = (pc : Int) + off) (h : (match st with
    | .ref _ :: st' => K (k + 1) L st' w
    | .null :: st' => K j L st' w
    | _ => none) = some (v, w')) : iv_le w w' ∧ iv_T p l e R s m args below meth c Q D b z n0 s0 nL (pc) L st w := by
  split at h
  · skip
    obtain ⟨h1, J, h2, h3⟩ := hK _ _ _ _ h
    refine ⟨h1, fun H ls locs cells slots a1 a2 a3 a4 a5 => ?_⟩
    have h4 := h3 H ls locs cells slots a1 a2 a3 a4 a5
    rw [hn J h2] at h4
    exact lv_ifnull hx hb hd h4
  · skip
    obtain ⟨h1, J, h2, h3⟩ := hK _ _ _ _ h
    refine ⟨h1, fun H ls locs cells slots a1 a2 a3 a4 a5 => ?_⟩
    have h4 := h3 H ls locs cells slots a1 a2 a3 a4 a5
    exact lv_ifnullN hx hb hd (hj J h2).symm h4
  · cases h
theorem iv_c_ifnonnull (hx : p.tables.exec = Jvm.exec) (hb : c.code = cc) (hK : ∀ (k : Nat) (L st : List Value) (w : iv_S), K k L st w = some (v, w') → (iv_le w w' ∧ ∃ J, code[k]? = some J ∧ iv_T p l e R s m args below meth c Q D b z n0 s0 nL J.1.1 L st w)) {j : Nat} {off : Int} (hd : decode cc pc = .ok (.ifnonnull off, 3)) (hn : ∀ J, code[k + 1]? = some J → J.1.1 = pc + 3) (hj : ∀ J, code[j]? = some J → (J.1.1 : Int) = (pc : Int) + off) (h : (match st with
    | .ref _ :: st' => K j L st' w
    | .null :: st' => K (k + 1) L st' w
    | _ => none) = some (v, w')) : iv_le w w' ∧ iv_T p l e R s m args below meth c Q D b z n0 s0 nL (pc) L st w := by
  split at h
  · skip
    obtain ⟨h1, J, h2, h3⟩ := hK _ _ _ _ h
    refine ⟨h1, fun H ls locs cells slots a1 a2 a3 a4 a5 => ?_⟩
    have h4 := h3 H ls locs cells slots a1 a2 a3 a4 a5
    exact lv_ifnonnull hx hb hd (hj J h2).symm h4
  · skip
    obtain ⟨h1, J, h2, h3⟩ := hK _ _ _ _ h
    refine ⟨h1, fun H ls locs cells slots a1 a2 a3 a4 a5 => ?_⟩
    have h4 := h3 H ls locs cells slots a1 a2 a3 a4 a5
    rw [hn J h2] at h4
    exact lv_ifnonnullN hx hb hd h4
  · cases h
theorem iv_c_goto (hx : p.tables.exec = Jvm.exec) (hb : c.code = cc) (hK : ∀ (k : Nat) (L st : List Value) (w : iv_S), K k L st w = some (v, w') → (iv_le w w' ∧ ∃ J, code[k]? = some J ∧ iv_T p l e R s m args below meth c Q D b z n0 s0 nL J.1.1 L st w)) {j : Nat} {off : Int} (hd : decode cc pc = .ok (.goto off, 3)) (hj : ∀ J, code[j]? = some J → (J.1.1 : Int) = (pc : Int) + off) (h : K j L st w = some (v, w')) : iv_le w w' ∧ iv_T p l e R s m args below meth c Q D b z n0 s0 nL (pc) L st w := by
  obtain ⟨h1, J, h2, h3⟩ := hK _ _ _ _ h
  refine ⟨h1, fun H ls locs cells slots a1 a2 a3 a4 a5 => ?_⟩
  have h4 := h3 H ls locs cells slots a1 a2 a3 a4 a5
  exact lv_goto hx hb hd (hj J h2).symm h4
theorem iv_c_getfield (hx : p.tables.exec = Jvm.exec) (hb : c.code = cc) (hK : ∀ (k : Nat) (L st : List Value) (w : iv_S), K k L st w = some (v, w') → (iv_le w w' ∧ ∃ J, code[k]? = some J ∧ iv_T p l e R s m args below meth c Q D b z n0 s0 nL J.1.1 L st w)) (hown : s.vm.findClass own = some m.cls) (hW : iv_Kw D s) (hbz : b < z) {index x y u : Nat} {q : vw_C} (hc : iv_cl[x]? = some q) (hck : iv_ckc x q) (hy : y < q.2.2) (hlink : lw_tbl[u]? = some (.fieldLink own index (q.2.1 y).1 (q.2.1 y).2.1 (q.2.1 y).2.2.1) ∨ ∃ host, lw_tbl[u]? = some (.fieldLinkNest own index (q.2.1 y).1 (q.2.1 y).2.1 (q.2.1 y).2.2.1 host)) (hd : decode cc pc = .ok (.getfield index, 3)) (hn : ∀ J, code[k + 1]? = some J → J.1.1 = pc + 3) (h : iv_gf w st x y (fun a st' => K (k + 1) L (a :: st') w) = some (v, w')) : iv_le w w' ∧ iv_T p l e R s m args below meth c Q D b z n0 s0 nL (pc) L st w := by
  unfold iv_gf at h
  split at h
  · rename_i a st'
    split at h
    · rename_i t fs hw
      split at h
      · rename_i ht
        subst ht
        split at h
        · rename_i u1 hv
          obtain ⟨h1, J, h2, h3⟩ := hK _ _ _ _ h
          refine ⟨h1, fun H ls locs cells slots a1 a2 a3 a4 a5 => ?_⟩
          have h4 := h3 H ls locs cells slots a1 a2 a3 a4 a5
          rw [hn J h2] at h4
          rcases (a1.2 a _ hw).1 with ⟨q', g1, g2, g3⟩ | ⟨ty, cell, g1, -⟩
          · cases g1.symm.trans hc
            exact iv_getf hx hb hown hW hc hck hy hlink g3 (by rw [List.getElem?_map, hv]; rfl) hd h4
          · exact absurd (ck_ar _ _ g1) (Nat.not_le.mpr hck.1)
        · cases h
      · cases h
    · cases h
  · cases h
theorem iv_c_putfield (hx : p.tables.exec = Jvm.exec) (hb : c.code = cc) (hK : ∀ (k : Nat) (L st : List Value) (w : iv_S), K k L st w = some (v, w') → (iv_le w w' ∧ ∃ J, code[k]? = some J ∧ iv_T p l e R s m args below meth c Q D b z n0 s0 nL J.1.1 L st w)) (hown : s.vm.findClass own = some m.cls) (hW : iv_Kw D s) (hbz : b < z) {index x y u : Nat} {q : vw_C} (hc : iv_cl[x]? = some q) (hck : iv_ckc x q) (hlink : (lw_tbl[u]? = some (.fieldLink own index (q.2.1 y).1 (q.2.1 y).2.1 (q.2.1 y).2.2.1) ∧ ((q.2.1 y).2.2.2 = false ∨ ((q.2.1 y).2.2.2 = true ∧ (q.2.1 y).1 = own ∧ meth.name = "<init>"))) ∨ ∃ host, lw_tbl[u]? = some (.fieldLinkNest own index (q.2.1 y).1 (q.2.1 y).2.1 (q.2.1 y).2.2.1 host) ∧ (q.2.1 y).2.2.2 = false) (hd : decode cc pc = .ok (.putfield index, 3)) (hn : ∀ J, code[k + 1]? = some J → J.1.1 = pc + 3) (h : iv_pf w st x y (fun st' w1 => K (k + 1) L st' w1) = some (v, w')) : iv_le w w' ∧ iv_T p l e R s m args below meth c Q D b z n0 s0 nL (pc) L st w := by
  unfold iv_pf at h
  split at h
  · rename_i a0 a st'
    split at h
    · rename_i t fs hw
      split at h
      · rename_i ht
        subst ht
        split at h
        · rename_i hl
          split at h
          · rename_i hf
            obtain ⟨h1, J, h2, h3⟩ := hK _ _ _ _ h
            refine ⟨h1, fun H ls locs cells slots a1 a2 a3 a4 a5 => ?_⟩
            obtain ⟨g0, gz⟩ := a1.2 a _ hw
            have ht5 : t ≠ 150 := fun q5 => absurd hck.1 (by rw [q5]; decide)
            rcases g0 with ⟨q', g1, g2, g3⟩ | ⟨ty, cell, g1, -⟩
            · cases g1.symm.trans hc
              have hfo := iv_fit_ok (r := iv_r b z) hf
              refine iv_putf hx hb hown hW hc hck (by rw [← g2]; exact hl) hlink g3 (by rw [List.length_map]; exact hl) hfo.1 hfo.2 hd fun H1 x1 e1 e2 e3 => ?_
              have h4 := h3 H1 ls (locs ++ [⟨iv_r b z a, x1⟩]) cells slots (iv_rep.put hbz a1 hw ht5 (Or.inl ⟨_, hc, by simp only [List.length_set]; exact g2, by rw [List.map_set]; exact e1⟩) e2 e3) a2 (fun q5 h5 => by
                rcases List.mem_append.mp h5 with h6 | h6
                · exact a3 q5 h6
                · rw [List.mem_singleton.mp h6]; exact iv_r_lo (gz ht5)) a4 a5
              rw [hn J h2] at h4
              exact h4
            · exact absurd (ck_ar _ _ g1) (Nat.not_le.mpr hck.1)
          · cases h
        · cases h
      · cases h
    · cases h
  · cases h
theorem iv_c_iaload (hx : p.tables.exec = Jvm.exec) (hb : c.code = cc) (hK : ∀ (k : Nat) (L st : List Value) (w : iv_S), K k L st w = some (v, w') → (iv_le w w' ∧ ∃ J, code[k]? = some J ∧ iv_T p l e R s m args below meth c Q D b z n0 s0 nL J.1.1 L st w)) (hd : decode cc pc = .ok (.iaload, 1)) (hn : ∀ J, code[k + 1]? = some J → J.1.1 = pc + 1) (h : iv_ald w st iv_isI (fun a st' => K (k + 1) L (a :: st') w) = some (v, w')) : iv_le w w' ∧ iv_T p l e R s m args below meth c Q D b z n0 s0 nL (pc) L st w := by
  unfold iv_ald at h
  split at h
  · rename_i j a st'
    split at h
    · rename_i t vs hw
      split at h
      · rename_i ty hty
        split at h
        · rename_i hp
          split at h
          · cases h
          · rename_i hj
            split at h
            · rename_i u1 hv
              obtain ⟨h1, J, h2, h3⟩ := hK _ _ _ _ h
              refine ⟨h1, fun H ls locs cells slots a1 a2 a3 a4 a5 => ?_⟩
              have h4 := h3 H ls locs cells slots a1 a2 a3 a4 a5
              rw [hn J h2] at h4
              rcases (a1.2 a _ hw).1 with ⟨q', g1, -⟩ | ⟨ty', cell, g1, g2, g3, g4, g5, g6⟩
              · exact absurd (ck_ar _ _ hty) (Nat.not_le.mpr (ck_cl _ _ g1).1)
              · cases g1.symm.trans hty
                have hlt := (List.getElem?_eq_some_iff.mp hv).1
                have hin : ¬ (j < 0 ∨ cell.slots.size ≤ j.toNatClampNeg) := by rw [g5]; simp only [List.size_toArray, List.length_map]; exact fun h5 => h5.elim hj (fun h6 => absurd hlt (Nat.not_lt.mpr h6))
                have hrd : cell.slots[j.toNatClampNeg]? = some (iv_mv (iv_r b z) u1) := by rw [g5, List.getElem?_toArray, List.getElem?_map, hv]; rfl
                cases ty <;> first | (exact W.iald hx hb g2 g3 g4 hin hrd rfl rfl hd h4) | (cases hp)
            · cases h
        · cases h
      · cases h
    · cases h
  · cases h
theorem iv_c_baload (hx : p.tables.exec = Jvm.exec) (hb : c.code = cc) (hK : ∀ (k : Nat) (L st : List Value) (w : iv_S), K k L st w = some (v, w') → (iv_le w w' ∧ ∃ J, code[k]? = some J ∧ iv_T p l e R s m args below meth c Q D b z n0 s0 nL J.1.1 L st w)) (hd : decode cc pc = .ok (.baload, 1)) (hn : ∀ J, code[k + 1]? = some J → J.1.1 = pc + 1) (h : iv_ald w st iv_isZ (fun a st' => K (k + 1) L (a :: st') w) = some (v, w')) : iv_le w w' ∧ iv_T p l e R s m args below meth c Q D b z n0 s0 nL (pc) L st w := by
  unfold iv_ald at h
  split at h
  · rename_i j a st'
    split at h
    · rename_i t vs hw
      split at h
      · rename_i ty hty
        split at h
        · rename_i hp
          split at h
          · cases h
          · rename_i hj
            split at h
            · rename_i u1 hv
              obtain ⟨h1, J, h2, h3⟩ := hK _ _ _ _ h
              refine ⟨h1, fun H ls locs cells slots a1 a2 a3 a4 a5 => ?_⟩
              have h4 := h3 H ls locs cells slots a1 a2 a3 a4 a5
              rw [hn J h2] at h4
              rcases (a1.2 a _ hw).1 with ⟨q', g1, -⟩ | ⟨ty', cell, g1, g2, g3, g4, g5, g6⟩
              · exact absurd (ck_ar _ _ hty) (Nat.not_le.mpr (ck_cl _ _ g1).1)
              · cases g1.symm.trans hty
                have hlt := (List.getElem?_eq_some_iff.mp hv).1
                have hin : ¬ (j < 0 ∨ cell.slots.size ≤ j.toNatClampNeg) := by rw [g5]; simp only [List.size_toArray, List.length_map]; exact fun h5 => h5.elim hj (fun h6 => absurd hlt (Nat.not_lt.mpr h6))
                have hrd : cell.slots[j.toNatClampNeg]? = some (iv_mv (iv_r b z) u1) := by rw [g5, List.getElem?_toArray, List.getElem?_map, hv]; rfl
                cases ty <;> first | (exact W.zald hx hb g2 g3 g4 hin hrd rfl rfl hd h4) | (cases hp)
            · cases h
        · cases h
      · cases h
    · cases h
  · cases h
theorem iv_c_caload (hx : p.tables.exec = Jvm.exec) (hb : c.code = cc) (hK : ∀ (k : Nat) (L st : List Value) (w : iv_S), K k L st w = some (v, w') → (iv_le w w' ∧ ∃ J, code[k]? = some J ∧ iv_T p l e R s m args below meth c Q D b z n0 s0 nL J.1.1 L st w)) (hd : decode cc pc = .ok (.caload, 1)) (hn : ∀ J, code[k + 1]? = some J → J.1.1 = pc + 1) (h : iv_ald w st iv_isC (fun a st' => K (k + 1) L (a :: st') w) = some (v, w')) : iv_le w w' ∧ iv_T p l e R s m args below meth c Q D b z n0 s0 nL (pc) L st w := by
  unfold iv_ald at h
  split at h
  · rename_i j a st'
    split at h
    · rename_i t vs hw
      split at h
      · rename_i ty hty
        split at h
        · rename_i hp
          split at h
          · cases h
          · rename_i hj
            split at h
            · rename_i u1 hv
              obtain ⟨h1, J, h2, h3⟩ := hK _ _ _ _ h
              refine ⟨h1, fun H ls locs cells slots a1 a2 a3 a4 a5 => ?_⟩
              have h4 := h3 H ls locs cells slots a1 a2 a3 a4 a5
              rw [hn J h2] at h4
              rcases (a1.2 a _ hw).1 with ⟨q', g1, -⟩ | ⟨ty', cell, g1, g2, g3, g4, g5, g6⟩
              · exact absurd (ck_ar _ _ hty) (Nat.not_le.mpr (ck_cl _ _ g1).1)
              · cases g1.symm.trans hty
                have hlt := (List.getElem?_eq_some_iff.mp hv).1
                have hin : ¬ (j < 0 ∨ cell.slots.size ≤ j.toNatClampNeg) := by rw [g5]; simp only [List.size_toArray, List.length_map]; exact fun h5 => h5.elim hj (fun h6 => absurd hlt (Nat.not_lt.mpr h6))
                have hrd : cell.slots[j.toNatClampNeg]? = some (iv_mv (iv_r b z) u1) := by rw [g5, List.getElem?_toArray, List.getElem?_map, hv]; rfl
                cases ty <;> first | (exact W.cald hx hb g2 g3 g4 hin hrd rfl rfl hd h4) | (cases hp)
            · cases h
        · cases h
      · cases h
    · cases h
  · cases h
theorem iv_c_aaload (hx : p.tables.exec = Jvm.exec) (hb : c.code = cc) (hK : ∀ (k : Nat) (L st : List Value) (w : iv_S), K k L st w = some (v, w') → (iv_le w w' ∧ ∃ J, code[k]? = some J ∧ iv_T p l e R s m args below meth c Q D b z n0 s0 nL J.1.1 L st w)) (hd : decode cc pc = .ok (.aaload, 1)) (hn : ∀ J, code[k + 1]? = some J → J.1.1 = pc + 1) (h : iv_ald w st iv_isA (fun a st' => K (k + 1) L (a :: st') w) = some (v, w')) : iv_le w w' ∧ iv_T p l e R s m args below meth c Q D b z n0 s0 nL (pc) L st w := by
  unfold iv_ald at h
  split at h
  · rename_i j a st'
    split at h
    · rename_i t vs hw
      split at h
      · rename_i ty hty
        split at h
        · rename_i hp
          split at h
          · cases h
          · rename_i hj
            split at h
            · rename_i u1 hv
              obtain ⟨h1, J, h2, h3⟩ := hK _ _ _ _ h
              refine ⟨h1, fun H ls locs cells slots a1 a2 a3 a4 a5 => ?_⟩
              have h4 := h3 H ls locs cells slots a1 a2 a3 a4 a5
              rw [hn J h2] at h4
              rcases (a1.2 a _ hw).1 with ⟨q', g1, -⟩ | ⟨ty', cell, g1, g2, g3, g4, g5, g6⟩
              · exact absurd (ck_ar _ _ hty) (Nat.not_le.mpr (ck_cl _ _ g1).1)
              · cases g1.symm.trans hty
                have hlt := (List.getElem?_eq_some_iff.mp hv).1
                have hin : ¬ (j < 0 ∨ cell.slots.size ≤ j.toNatClampNeg) := by rw [g5]; simp only [List.size_toArray, List.length_map]; exact fun h5 => h5.elim hj (fun h6 => absurd hlt (Nat.not_lt.mpr h6))
                have hrd : cell.slots[j.toNatClampNeg]? = some (iv_mv (iv_r b z) u1) := by rw [g5, List.getElem?_toArray, List.getElem?_map, hv]; rfl
                cases ty <;> first | (exact W.aald hx hb g2 g3 rfl g4 hin hrd rfl rfl hd h4) | (cases hp)
            · cases h
        · cases h
      · cases h
    · cases h
  · cases h
theorem iv_c_iastore (hx : p.tables.exec = Jvm.exec) (hb : c.code = cc) (hK : ∀ (k : Nat) (L st : List Value) (w : iv_S), K k L st w = some (v, w') → (iv_le w w' ∧ ∃ J, code[k]? = some J ∧ iv_T p l e R s m args below meth c Q D b z n0 s0 nL J.1.1 L st w)) (hbz : b < z) (hd : decode cc pc = .ok (.iastore, 1)) (hn : ∀ J, code[k + 1]? = some J → J.1.1 = pc + 1) (h : iv_ast w st iv_isI (fun st' w1 => K (k + 1) L st' w1) = some (v, w')) : iv_le w w' ∧ iv_T p l e R s m args below meth c Q D b z n0 s0 nL (pc) L st w := by
  unfold iv_ast at h
  split at h
  · rename_i x j a st'
    split at h
    · rename_i t vs hw
      split at h
      · rename_i ty hty
        split at h
        · rename_i hp
          split at h
          · cases h
          · rename_i h150
            split at h
            · cases h
            · rename_i hj
              split at h
              · rename_i hlt
                obtain ⟨h1, J, h2, h3⟩ := hK _ _ _ _ h
                refine ⟨h1, fun H ls locs cells slots a1 a2 a3 a4 a5 => ?_⟩
                obtain ⟨g0, gz⟩ := a1.2 a _ hw
                rcases g0 with ⟨q', g1, -⟩ | ⟨ty', cell, g1, g2, g3, g4, g5, g6⟩
                · exact absurd (ck_ar _ _ hty) (Nat.not_le.mpr (ck_cl _ _ g1).1)
                · cases g1.symm.trans hty
                  have hty2 : ty = .int := by cases ty <;> first | rfl | cases hp
                  subst hty2
                  have hin : ¬ (j < 0 ∨ cell.slots.size ≤ j.toNatClampNeg) := by rw [g5]; simp only [List.size_toArray, List.length_map]; exact fun h5 => h5.elim hj (fun h6 => absurd hlt (Nat.not_lt.mpr h6))
                  refine W.iast hx hb g2 g3 g4 hin rfl rfl hd fun H1 e1 e2 e3 => ?_
                  have hs : (cell.setSlot j.toNatClampNeg (narrow .int (.int x))).slots = ((vs.set j.toNatClampNeg (narrow .int (.int x))).map (iv_mv (iv_r b z))).toArray := by
                    simp only [Cell.setSlot, g5, List.setIfInBounds_toArray, List.map_set]
                    rfl
                  have h4 := h3 H1 ls (locs ++ [⟨iv_r b z a, j.toNatClampNeg⟩]) cells slots (iv_rep.put hbz a1 hw h150 (Or.inr ⟨_, _, hty, e1, g3, g4, hs, g6⟩) e2 e3) a2 (fun q5 h5 => by
                    rcases List.mem_append.mp h5 with h6 | h6
                    · exact a3 q5 h6
                    · rw [List.mem_singleton.mp h6]; exact iv_r_lo (gz h150)) a4 a5
                  rw [hn J h2] at h4
                  exact h4
              · cases h
        · cases h
      · cases h
    · cases h
  · cases h
theorem iv_c_bastore (hx : p.tables.exec = Jvm.exec) (hb : c.code = cc) (hK : ∀ (k : Nat) (L st : List Value) (w : iv_S), K k L st w = some (v, w') → (iv_le w w' ∧ ∃ J, code[k]? = some J ∧ iv_T p l e R s m args below meth c Q D b z n0 s0 nL J.1.1 L st w)) (hbz : b < z) (hd : decode cc pc = .ok (.bastore, 1)) (hn : ∀ J, code[k + 1]? = some J → J.1.1 = pc + 1) (h : iv_ast w st iv_isZ (fun st' w1 => K (k + 1) L st' w1) = some (v, w')) : iv_le w w' ∧ iv_T p l e R s m args below meth c Q D b z n0 s0 nL (pc) L st w := by
  unfold iv_ast at h
  split at h
  · rename_i x j a st'
    split at h
    · rename_i t vs hw
      split at h
      · rename_i ty hty
        split at h
        · rename_i hp
          split at h
          · cases h
          · rename_i h150
            split at h
            · cases h
            · rename_i hj
              split at h
              · rename_i hlt
                obtain ⟨h1, J, h2, h3⟩ := hK _ _ _ _ h
                refine ⟨h1, fun H ls locs cells slots a1 a2 a3 a4 a5 => ?_⟩
                obtain ⟨g0, gz⟩ := a1.2 a _ hw
                rcases g0 with ⟨q', g1, -⟩ | ⟨ty', cell, g1, g2, g3, g4, g5, g6⟩
                · exact absurd (ck_ar _ _ hty) (Nat.not_le.mpr (ck_cl _ _ g1).1)
                · cases g1.symm.trans hty
                  have hty2 : ty = .boolean := by cases ty <;> first | rfl | cases hp
                  subst hty2
                  have hin : ¬ (j < 0 ∨ cell.slots.size ≤ j.toNatClampNeg) := by rw [g5]; simp only [List.size_toArray, List.length_map]; exact fun h5 => h5.elim hj (fun h6 => absurd hlt (Nat.not_lt.mpr h6))
                  refine W.zast hx hb g2 g3 g4 hin rfl rfl hd fun H1 e1 e2 e3 => ?_
                  have hs : (cell.setSlot j.toNatClampNeg (narrow .boolean (.int x))).slots = ((vs.set j.toNatClampNeg (narrow .boolean (.int x))).map (iv_mv (iv_r b z))).toArray := by
                    simp only [Cell.setSlot, g5, List.setIfInBounds_toArray, List.map_set]
                    rfl
                  have h4 := h3 H1 ls (locs ++ [⟨iv_r b z a, j.toNatClampNeg⟩]) cells slots (iv_rep.put hbz a1 hw h150 (Or.inr ⟨_, _, hty, e1, g3, g4, hs, g6⟩) e2 e3) a2 (fun q5 h5 => by
                    rcases List.mem_append.mp h5 with h6 | h6
                    · exact a3 q5 h6
                    · rw [List.mem_singleton.mp h6]; exact iv_r_lo (gz h150)) a4 a5
                  rw [hn J h2] at h4
                  exact h4
              · cases h
        · cases h
      · cases h
    · cases h
  · cases h
theorem iv_c_castore (hx : p.tables.exec = Jvm.exec) (hb : c.code = cc) (hK : ∀ (k : Nat) (L st : List Value) (w : iv_S), K k L st w = some (v, w') → (iv_le w w' ∧ ∃ J, code[k]? = some J ∧ iv_T p l e R s m args below meth c Q D b z n0 s0 nL J.1.1 L st w)) (hbz : b < z) (hd : decode cc pc = .ok (.castore, 1)) (hn : ∀ J, code[k + 1]? = some J → J.1.1 = pc + 1) (h : iv_ast w st iv_isC (fun st' w1 => K (k + 1) L st' w1) = some (v, w')) : iv_le w w' ∧ iv_T p l e R s m args below meth c Q D b z n0 s0 nL (pc) L st w := by
  unfold iv_ast at h
  split at h
  · rename_i x j a st'
    split at h
    · rename_i t vs hw
      split at h
      · rename_i ty hty
        split at h
        · rename_i hp
          split at h
          · cases h
          · rename_i h150
            split at h
            · cases h
            · rename_i hj
              split at h
              · rename_i hlt
                obtain ⟨h1, J, h2, h3⟩ := hK _ _ _ _ h
                refine ⟨h1, fun H ls locs cells slots a1 a2 a3 a4 a5 => ?_⟩
                obtain ⟨g0, gz⟩ := a1.2 a _ hw
                rcases g0 with ⟨q', g1, -⟩ | ⟨ty', cell, g1, g2, g3, g4, g5, g6⟩
                · exact absurd (ck_ar _ _ hty) (Nat.not_le.mpr (ck_cl _ _ g1).1)
                · cases g1.symm.trans hty
                  have hty2 : ty = .char := by cases ty <;> first | rfl | cases hp
                  subst hty2
                  have hin : ¬ (j < 0 ∨ cell.slots.size ≤ j.toNatClampNeg) := by rw [g5]; simp only [List.size_toArray, List.length_map]; exact fun h5 => h5.elim hj (fun h6 => absurd hlt (Nat.not_lt.mpr h6))
                  refine W.cast hx hb g2 g3 g4 hin rfl rfl hd fun H1 e1 e2 e3 => ?_
                  have hs : (cell.setSlot j.toNatClampNeg (narrow .char (.int x))).slots = ((vs.set j.toNatClampNeg (narrow .char (.int x))).map (iv_mv (iv_r b z))).toArray := by
                    simp only [Cell.setSlot, g5, List.setIfInBounds_toArray, List.map_set]
                    rfl
                  have h4 := h3 H1 ls (locs ++ [⟨iv_r b z a, j.toNatClampNeg⟩]) cells slots (iv_rep.put hbz a1 hw h150 (Or.inr ⟨_, _, hty, e1, g3, g4, hs, g6⟩) e2 e3) a2 (fun q5 h5 => by
                    rcases List.mem_append.mp h5 with h6 | h6
                    · exact a3 q5 h6
                    · rw [List.mem_singleton.mp h6]; exact iv_r_lo (gz h150)) a4 a5
                  rw [hn J h2] at h4
                  exact h4
              · cases h
        · cases h
      · cases h
    · cases h
  · cases h
theorem iv_c_aastore (hx : p.tables.exec = Jvm.exec) (hb : c.code = cc) (hK : ∀ (k : Nat) (L st : List Value) (w : iv_S), K k L st w = some (v, w') → (iv_le w w' ∧ ∃ J, code[k]? = some J ∧ iv_T p l e R s m args below meth c Q D b z n0 s0 nL J.1.1 L st w)) (hown : s.vm.findClass own = some m.cls) (hW : iv_Kw D s) (hbz : b < z) (hd : decode cc pc = .ok (.aastore, 1)) (hn : ∀ J, code[k + 1]? = some J → J.1.1 = pc + 1) (h : iv_ust w st (fun st' w1 => K (k + 1) L st' w1) = some (v, w')) : iv_le w w' ∧ iv_T p l e R s m args below meth c Q D b z n0 s0 nL (pc) L st w := by
  unfold iv_ust at h
  split at h
  · rename_i a0 j a st'
    split at h
    · rename_i t vs t' us hw hw0
      split at h
      · rename_i hac
        split at h
        · cases h
        · rename_i hj
          split at h
          · rename_i hlt
            obtain ⟨h1, J, h2, h3⟩ := hK _ _ _ _ h
            refine ⟨h1, fun H ls locs cells slots a1 a2 a3 a4 a5 => ?_⟩
            obtain ⟨q, hc, har⟩ := ck_ac _ _ hac
            obtain ⟨g0, gz⟩ := a1.2 a _ hw
            have ht5 : t ≠ 150 := fun q5 => by rw [q5] at hac; exact absurd hac (ck_150 _)
            rcases (a1.2 a0 _ hw0).1 with ⟨q', f1, f2, cellV, f3, f4, f5, -⟩ | ⟨ty', cell', f1, -⟩
            · rcases g0 with ⟨q', g1, -⟩ | ⟨ty', cell, g1, g2, g3, g4, g5, g6⟩
              · exact absurd (ck_ar _ _ har) (Nat.not_le.mpr (ck_cl _ _ g1).1)
              · cases g1.symm.trans har
                obtain ⟨kA, comp, k1, k2, k3, -⟩ := g6 rfl
                have hcls := (hW.1 t' q hc).2
                have hcomp : comp = D.1 t' := Option.some.inj (k3.symm.trans hcls.1)
                subst hcomp
                obtain ⟨kC, hkC, hkd⟩ := hcls.2
                have hin : ¬ j < 0 ∧ j.toNatClampNeg < cell.slots.size := ⟨hj, by rw [g5]; simp only [List.size_toArray, List.length_map]; exact hlt⟩
                refine W.aast hx hb g2 g3.1 g4 k1 k2 rfl hkC hin f3 (fun q5 h5 => by rw [f5] at h5; cases h5) (by rw [f4]; exact hkC) (by rw [f4]; exact va_assign (hW.1 t' q hc).2) rfl rfl hd fun H1 e1 e2 e3 => ?_
                have hs : (cell.setSlot j.toNatClampNeg (.ref (iv_r b z a0))).slots = ((vs.set j.toNatClampNeg (.ref a0)).map (iv_mv (iv_r b z))).toArray := by
                  simp only [Cell.setSlot, g5, List.setIfInBounds_toArray, List.map_set]
                  rfl
                have h4 := h3 H1 ls (locs ++ [⟨iv_r b z a, j.toNatClampNeg⟩]) cells slots (iv_rep.put hbz a1 hw ht5 (Or.inr ⟨_, _, har, e1, g3, g4, hs, g6⟩) e2 e3) a2 (fun q5 h5 => by
                  rcases List.mem_append.mp h5 with h6 | h6
                  · exact a3 q5 h6
                  · rw [List.mem_singleton.mp h6]; exact iv_r_lo (gz ht5)) a4 a5
                rw [hn J h2] at h4
                exact h4
            · exact absurd (ck_ar _ _ f1) (Nat.not_le.mpr (ck_cl _ _ hc).1)
          · cases h
      · cases h
    · cases h
  · cases h
theorem iv_c_alen (hx : p.tables.exec = Jvm.exec) (hb : c.code = cc) (hK : ∀ (k : Nat) (L st : List Value) (w : iv_S), K k L st w = some (v, w') → (iv_le w w' ∧ ∃ J, code[k]? = some J ∧ iv_T p l e R s m args below meth c Q D b z n0 s0 nL J.1.1 L st w)) (hd : decode cc pc = .ok (.arraylength, 1)) (hn : ∀ J, code[k + 1]? = some J → J.1.1 = pc + 1) (h : iv_len w st (fun x st' => K (k + 1) L (.int x :: st') w) = some (v, w')) : iv_le w w' ∧ iv_T p l e R s m args below meth c Q D b z n0 s0 nL (pc) L st w := by
  unfold iv_len at h
  split at h
  · rename_i a st'
    split at h
    · rename_i t vs hw
      split at h
      · rename_i ty hty
        obtain ⟨h1, J, h2, h3⟩ := hK _ _ _ _ h
        refine ⟨h1, fun H ls locs cells slots a1 a2 a3 a4 a5 => ?_⟩
        have h4 := h3 H ls locs cells slots a1 a2 a3 a4 a5
        rw [hn J h2] at h4
        rcases (a1.2 a _ hw).1 with ⟨q', g1, -⟩ | ⟨ty', cell, g1, g2, g3, g4, g5, g6⟩
        · exact absurd (ck_ar _ _ hty) (Nat.not_le.mpr (ck_cl _ _ g1).1)
        · exact W.alen (n := Int32.ofNat vs.length) hx hb g2 g3 (by rw [g5]; simp only [List.size_toArray, List.length_map]) rfl rfl hd h4
      · cases h
    · cases h
  · cases h
theorem iv_c_new (hx : p.tables.exec = Jvm.exec) (hb : c.code = cc) (hK : ∀ (k : Nat) (L st : List Value) (w : iv_S), K k L st w = some (v, w') → (iv_le w w' ∧ ∃ J, code[k]? = some J ∧ iv_T p l e R s m args below meth c Q D b z n0 s0 nL J.1.1 L st w)) (hown : s.vm.findClass own = some m.cls) (hW : iv_Kw D s) (hbz : b < z) (hR : w'.2.1 ≤ n0 + R.cells ∧ w'.2.2 ≤ s0 + R.slots) {index x u : Nat} {q : vw_C} (hc : iv_cl[x]? = some q) (hck : iv_ckc x q) (hlink : lw_tbl[u]? = some (.classLink own index q.1)) (hd : decode cc pc = .ok (.new index, 3)) (hn : ∀ J, code[k + 1]? = some J → J.1.1 = pc + 3) (h : iv_nw w x (fun a w1 => K (k + 1) L (a :: st) w1) = some (v, w')) : iv_le w w' ∧ iv_T p l e R s m args below meth c Q D b z n0 s0 nL (pc) L st w := by
  unfold iv_nw at h
  split at h
  · rename_i fs hdf
    obtain ⟨h1, J, h2, h3⟩ := hK _ _ _ _ h
    obtain ⟨l1, l2⟩ := h1
    have l1 : w.2.1 + 1 ≤ w'.2.1 := l1
    have l2 : w.2.2 + fs.length ≤ w'.2.2 := l2
    refine ⟨⟨by omega, by omega⟩, fun H ls locs cells slots a1 a2 a3 a4 a5 => ?_⟩
    obtain ⟨hlen, hdv, hmp⟩ := ck_df x fs q hdf hc
    refine iv_newc hx hb hown hW hc hck hlink hdv (by omega) (by omega) hd fun H1 e1 e2 e3 => ?_
    have h4 := h3 H1 ls locs (cells + 1) (slots + q.2.2) (iv_rep.push a1 (Or.inl ⟨q, hc, hlen, by rw [hmp, ← a1.1]; exact e1⟩) e2 e3) a2 a3 (by show n0 + (cells + 1) = w.2.1 + 1; omega) (by show s0 + (slots + q.2.2) = w.2.2 + fs.length; omega)
    rw [hn J h2] at h4
    rw [a1.1]
    exact h4
  · cases h
theorem iv_c_newarray (hx : p.tables.exec = Jvm.exec) (hb : c.code = cc) (hK : ∀ (k : Nat) (L st : List Value) (w : iv_S), K k L st w = some (v, w') → (iv_le w w' ∧ ∃ J, code[k]? = some J ∧ iv_T p l e R s m args below meth c Q D b z n0 s0 nL J.1.1 L st w)) (hown : s.vm.findClass own = some m.cls) (hW : iv_Kw D s) (hbz : b < z) (hR : w'.2.1 ≤ n0 + R.cells ∧ w'.2.2 ≤ s0 + R.slots) {x u : Nat} {ty : ArrayType} (har : iv_ar x = some (newarray.typeOf ty)) (hlink : lw_tbl[u]? = some (.arrayClass (newarray.typeOf ty))) (hd : decode cc pc = .ok (.newarray ty, 2)) (hn : ∀ J, code[k + 1]? = some J → J.1.1 = pc + 2) (h : iv_p1 st (fun n st' => iv_na w x (defaultValue (newarray.typeOf ty)) n (fun a w1 => K (k + 1) L (a :: st') w1)) = some (v, w')) : iv_le w w' ∧ iv_T p l e R s m args below meth c Q D b z n0 s0 nL (pc) L st w := by
  unfold iv_p1 at h
  split at h
  · rename_i n st'
    dsimp only at h
    unfold iv_na at h
    split at h
    · cases h
    · rename_i hneg
      split at h
      · rename_i hbig
        obtain ⟨h1, J, h2, h3⟩ := hK _ _ _ _ h
        obtain ⟨l1, l2⟩ := h1
        have l1 : w.2.1 + 1 ≤ w'.2.1 := l1
        have l2 : w.2.2 + n.toNatClampNeg ≤ w'.2.2 := l2
        refine ⟨⟨by omega, by omega⟩, fun H ls locs cells slots a1 a2 a3 a4 a5 => ?_⟩
        refine va_newaK (h := z + w.2.1) hx hb (hW.at hlink rfl) rfl hd rfl hneg rfl (by cases ty <;> simp only [newarray.typeOf, componentBytes] <;> omega) (by omega) (by omega) a1.1 fun H1 cA e1 e2 e3 e4 e5 => ?_
        have hs : (arrV cA n.toNatClampNeg (fun _ => defaultValue (newarray.typeOf ty))).slots = ((List.replicate n.toNatClampNeg (defaultValue (newarray.typeOf ty))).map (iv_mv (iv_r b z))).toArray := by
          rw [← arrV_new, List.map_replicate]
          cases ty <;> simp [newarray.typeOf, defaultValue, iv_mv]
        have h4 := h3 H1 ls locs (cells + 1) (slots + n.toNatClampNeg) (iv_rep.push a1 (Or.inr ⟨_, _, har, e1, e4 _ _, (fun h5 => by cases h5), hs, (fun h5 => by cases ty <;> cases h5)⟩) (by rw [e2, a1.1]) (fun q5 h5 => e3 q5 (by rw [← a1.1]; exact h5))) a2 a3 (by show n0 + (cells + 1) = w.2.1 + 1; omega) (by show s0 + (slots + n.toNatClampNeg) = w.2.2 + n.toNatClampNeg; omega)
        rw [hn J h2] at h4
        exact h4
      · cases h
  · cases h
theorem iv_c_anewarray (hx : p.tables.exec = Jvm.exec) (hb : c.code = cc) (hK : ∀ (k : Nat) (L st : List Value) (w : iv_S), K k L st w = some (v, w') → (iv_le w w' ∧ ∃ J, code[k]? = some J ∧ iv_T p l e R s m args below meth c Q D b z n0 s0 nL J.1.1 L st w)) (hown : s.vm.findClass own = some m.cls) (hW : iv_Kw D s) (hbz : b < z) (hR : w'.2.1 ≤ n0 + R.cells ∧ w'.2.2 ≤ s0 + R.slots) {index x u : Nat} {C : String} (har : iv_ar x = some (.object C)) (hov : Cond.arrayOver (.object C) ∈ lw_tbl) (hlink : lw_tbl[u]? = some (.classLink own index C)) (hd : decode cc pc = .ok (.anewarray index, 3)) (hn : ∀ J, code[k + 1]? = some J → J.1.1 = pc + 3) (h : iv_p1 st (fun n st' => iv_na w x .null n (fun a w1 => K (k + 1) L (a :: st') w1)) = some (v, w')) : iv_le w w' ∧ iv_T p l e R s m args below meth c Q D b z n0 s0 nL (pc) L st w := by
  unfold iv_p1 at h
  split at h
  · rename_i n st'
    dsimp only at h
    unfold iv_na at h
    split at h
    · cases h
    · rename_i hneg
      split at h
      · rename_i hbig
        obtain ⟨h1, J, h2, h3⟩ := hK _ _ _ _ h
        obtain ⟨l1, l2⟩ := h1
        have l1 : w.2.1 + 1 ≤ w'.2.1 := l1
        have l2 : w.2.2 + n.toNatClampNeg ≤ w'.2.2 := l2
        refine ⟨⟨by omega, by omega⟩, fun H ls locs cells slots a1 a2 a3 a4 a5 => ?_⟩
        refine W.anew hx hb hown (hW.at hlink rfl) (hW.use hov rfl) rfl hd rfl hneg (by omega) (by omega) (by omega) fun cA kA comp f1 f2 f3 f4 => ?_
        have hs : (({ cls := cA, slots := Array.replicate n.toNatClampNeg .null, vm := .none } : Cell)).slots = ((List.replicate n.toNatClampNeg Value.null).map (iv_mv (iv_r b z))).toArray := by
          rw [List.map_replicate]
          simp [iv_mv]
        have h4 := h3 _ ls locs (cells + 1) (slots + n.toNatClampNeg) (iv_rep.push (H1 := H.push ({ cls := cA, slots := Array.replicate n.toNatClampNeg .null, vm := .none } : Cell)) a1 (Or.inr ⟨_, _, har, by rw [← a1.1, Array.getElem?_push_size], ⟨(fun q5 h5 => by cases h5), kA, f2, comp, f3⟩, (fun h5 => by cases h5), hs, fun _ => ⟨kA, comp, f2, f3, f4, f1⟩⟩) (by rw [Array.size_push]) (fun q5 h5 => by rw [Array.getElem?_push, if_neg (Nat.ne_of_lt h5)])) a2 a3 (by show n0 + (cells + 1) = w.2.1 + 1; omega) (by show s0 + (slots + n.toNatClampNeg) = w.2.2 + n.toNatClampNeg; omega)
        rw [hn J h2] at h4
        rw [a1.1]
        exact h4
      · cases h
  · cases h
end IVC
