/-! what must hold of a method's rows: lengths and places (by counting), and the tables' words behind a row -/
def iv_jmp (code : List iv_I) (j : Nat) (t : Int) : Bool := match code[j]? with
  | some J => decide ((J.1.1 : Int) = t)
  | none => false
theorem iv_jmp_of {code : List iv_I} {j : Nat} {t : Int} (h : iv_jmp code j t = true) : ∃ J, code[j]? = some J ∧ (J.1.1 : Int) = t := by
  unfold iv_jmp at h
  split at h
  · rename_i J hJ
    exact ⟨J, hJ, of_decide_eq_true h⟩
  · cases h
def iv_nxt (code : List iv_I) (k pc len : Nat) : Bool := match code[k + 1]? with
  | some J => decide (J.1.1 = pc + len)
  | none => true
theorem iv_nxt_of {code : List iv_I} {k pc len : Nat} (h : iv_nxt code k pc len = true) : ∀ J, code[k + 1]? = some J → J.1.1 = pc + len := by
  intro J hJ
  unfold iv_nxt at h
  rw [hJ] at h
  exact of_decide_eq_true h
def iv_okb (code : List iv_I) (k : Nat) (I : iv_I) : Bool := iv_nxt code k I.1.1 I.1.2 && (match I.2.1 with
  | .iconst _ => decide (I.1.2 = 1)
  | .aconst_null => decide (I.1.2 = 1)
  | .iload_n _ => decide (I.1.2 = 1)
  | .aload_n _ => decide (I.1.2 = 1)
  | .istore_n _ => decide (I.1.2 = 1)
  | .astore_n _ => decide (I.1.2 = 1)
  | .iadd => decide (I.1.2 = 1)
  | .isub => decide (I.1.2 = 1)
  | .imul => decide (I.1.2 = 1)
  | .iand => decide (I.1.2 = 1)
  | .ior => decide (I.1.2 = 1)
  | .ixor => decide (I.1.2 = 1)
  | .ishl => decide (I.1.2 = 1)
  | .ishr => decide (I.1.2 = 1)
  | .idiv => decide (I.1.2 = 1)
  | .irem => decide (I.1.2 = 1)
  | .ineg => decide (I.1.2 = 1)
  | .i2c => decide (I.1.2 = 1)
  | .dup => decide (I.1.2 = 1)
  | .pop => decide (I.1.2 = 1)
  | .dup_x1 => decide (I.1.2 = 1)
  | .dup2 => decide (I.1.2 = 1)
  | .iaload => decide (I.1.2 = 1)
  | .baload => decide (I.1.2 = 1)
  | .caload => decide (I.1.2 = 1)
  | .aaload => decide (I.1.2 = 1)
  | .iastore => decide (I.1.2 = 1)
  | .bastore => decide (I.1.2 = 1)
  | .castore => decide (I.1.2 = 1)
  | .aastore => decide (I.1.2 = 1)
  | .arraylength => decide (I.1.2 = 1)
  | .ireturn => decide (I.1.2 = 1)
  | .areturn => decide (I.1.2 = 1)
  | .return_ => decide (I.1.2 = 1)
  | .bipush _ => decide (I.1.2 = 2)
  | .iload _ => decide (I.1.2 = 2)
  | .aload _ => decide (I.1.2 = 2)
  | .istore _ => decide (I.1.2 = 2)
  | .astore _ => decide (I.1.2 = 2)
  | .newarray _ => decide (I.1.2 = 2)
  | .ldc _ => decide (I.1.2 = 2)
  | .sipush _ => decide (I.1.2 = 3)
  | .iinc _ _ => decide (I.1.2 = 3)
  | .getfield _ => decide (I.1.2 = 3)
  | .putfield _ => decide (I.1.2 = 3)
  | .new _ => decide (I.1.2 = 3)
  | .anewarray _ => decide (I.1.2 = 3)
  | .invokevirtual _ => decide (I.1.2 = 3)
  | .invokespecial _ => decide (I.1.2 = 3)
  | .invokestatic _ => decide (I.1.2 = 3)
  | .ifCond _ off => decide (I.1.2 = 3) && iv_jmp code I.2.2.1 ((I.1.1 : Int) + off)
  | .if_icmp _ off => decide (I.1.2 = 3) && iv_jmp code I.2.2.1 ((I.1.1 : Int) + off)
  | .ifnull off => decide (I.1.2 = 3) && iv_jmp code I.2.2.1 ((I.1.1 : Int) + off)
  | .ifnonnull off => decide (I.1.2 = 3) && iv_jmp code I.2.2.1 ((I.1.1 : Int) + off)
  | .goto off => decide (I.1.2 = 3) && iv_jmp code I.2.2.1 ((I.1.1 : Int) + off)
  | .multianewarray _ n => decide (I.1.2 = 4) && decide (n = 2)
  | .tableswitch _ _ _ _ => true
  | .lookupswitch _ ps => (ps.toList.zip (ps.toList.drop 1)).all (fun (a, next) => a.1 < next.1)
  | _ => true)
def iv_okw (own : String) (ini : Bool) (I : iv_I) : Prop := match I.2.1 with
  | .getfield index => ∃ q, iv_cl[I.2.2.1]? = some q ∧ I.2.2.2.1 < q.2.2 ∧ (lw_tbl[I.2.2.2.2]? = some (.fieldLink own index (q.2.1 I.2.2.2.1).1 (q.2.1 I.2.2.2.1).2.1 (q.2.1 I.2.2.2.1).2.2.1) ∨ ∃ host, lw_tbl[I.2.2.2.2]? = some (.fieldLinkNest own index (q.2.1 I.2.2.2.1).1 (q.2.1 I.2.2.2.1).2.1 (q.2.1 I.2.2.2.1).2.2.1 host))
  | .putfield index => ∃ q, iv_cl[I.2.2.1]? = some q ∧ ((lw_tbl[I.2.2.2.2]? = some (.fieldLink own index (q.2.1 I.2.2.2.1).1 (q.2.1 I.2.2.2.1).2.1 (q.2.1 I.2.2.2.1).2.2.1) ∧ ((q.2.1 I.2.2.2.1).2.2.2 = false ∨ ((q.2.1 I.2.2.2.1).2.2.2 = true ∧ (q.2.1 I.2.2.2.1).1 = own ∧ ini = true))) ∨ ∃ host, lw_tbl[I.2.2.2.2]? = some (.fieldLinkNest own index (q.2.1 I.2.2.2.1).1 (q.2.1 I.2.2.2.1).2.1 (q.2.1 I.2.2.2.1).2.2.1 host) ∧ (q.2.1 I.2.2.2.1).2.2.2 = false)
  | .ldc index => lw_tbl[I.2.2.2.2]? = some (.constant own index (Int32.ofNat I.2.2.1))
  | .new index => ∃ q, iv_cl[I.2.2.1]? = some q ∧ lw_tbl[I.2.2.2.2]? = some (.classLink own index q.1)
  | .newarray ty => iv_ar I.2.2.1 = some (newarray.typeOf ty) ∧ lw_tbl[I.2.2.2.2]? = some (.arrayClass (newarray.typeOf ty))
  | .anewarray index => ∃ C, iv_ar I.2.2.1 = some (.object C) ∧ Cond.arrayOver (.object C) ∈ lw_tbl ∧ lw_tbl[I.2.2.2.2]? = some (.classLink own index C)
  | .multianewarray index _ => iv_ar I.2.2.1 = some (.array .int) ∧ iv_ar I.2.2.2.1 = some .int ∧ Cond.arrayOver (.array .int) ∈ lw_tbl ∧ Cond.arrayClass .int ∈ lw_tbl ∧ lw_tbl[I.2.2.2.2]? = some (.classLink own index ("[" ++ (FieldType.array .int).toString))
  | .invokevirtual index => iv_ckv I.2.2.1 ∧ (parseMethodDescriptor (iv_N I.2.2.1).1.desc).map (fun t => t.parameters.length) = some (I.2.2.2.1 - 1) ∧ (lw_tbl[I.2.2.2.2]? = some (.methodLink own index (iv_N I.2.2.1).1) ∨ ∃ host, lw_tbl[I.2.2.2.2]? = some (.methodLinkNest own index (iv_N I.2.2.1).1 host))
  | .invokespecial index => (I.2.2.1 = 0 ∧ lw_tbl[I.2.2.2.2]? = some (.methodLink own index Lib.objectInit)) ∨ (I.2.2.1 ≠ 0 ∧ iv_cki I.2.2.1 ∧ (parseMethodDescriptor (iv_N I.2.2.1).1.desc).map (fun t => t.parameters.length) = some (I.2.2.2.1 - 1) ∧ lw_tbl[I.2.2.2.2]? = some (.methodLink own index (iv_N I.2.2.1).1))
  | .invokestatic index => Cond.static (iv_N I.2.2.1).1 ∈ lw_tbl ∧ (parseMethodDescriptor (iv_N I.2.2.1).1.desc).map (fun t => t.parameters.length) = some I.2.2.2.1 ∧ lw_tbl[I.2.2.2.2]? = some (.methodLink own index (iv_N I.2.2.1).1)
  | _ => True
def iv_fin (rt : Option FieldType) (op : Instr) (st : List Value) (w : iv_S) : iv_R := match op with
  | .ireturn => iv_ret rt st w
  | .areturn => iv_rea rt st w
  | .return_ => iv_rev rt st w
  | _ => none
section IVE
variable {p : Program} {l : Launch} {e : Env} {R : Room} {s : State} {m : MethodId} {args : Array Value} {below : List Frame} {meth : Method} {c : Code} {Q : State → Prop}
variable {D : va_G} {b z n0 s0 nL d : Nat} {own : String} {ini : Bool} {cc : ByteArray} {code : List iv_I} {rt : Option FieldType} {call : Nat → List Value → iv_S → iv_R} {v : Option Value} {w' : iv_S} {K : iv_Q} {k : Nat} {L st : List Value} {w : iv_S}
set_option maxHeartbeats 4000000 in
theorem iv_step (hx : p.tables.exec = Jvm.exec) (hb : c.code = cc) (hK : ∀ (k : Nat) (L st : List Value) (w : iv_S), K k L st w = some (v, w') → (iv_le w w' ∧ ∃ J, code[k]? = some J ∧ iv_T p l e R s m args below meth c Q D b z n0 s0 nL J.1.1 L st w)) (hown : s.vm.findClass own = some m.cls) (hW : iv_Kw D s) (hbz : b < z) (hR : w'.2.1 ≤ n0 + R.cells ∧ w'.2.2 ≤ s0 + R.slots) (hml : c.maxLocals = nL) (hRd : d + 1 ≤ R.frames ∧ 64 * d + 64 ≤ R.locals) (hcall : ∀ x as w u w1, call x as w = some (u, w1) → iv_Met l D b z d x as w u w1) (hini : ini = true → meth.name = "<init>") (hret : ∀ (op : Instr) (pc : Nat) (L st : List Value) (w : iv_S), decode cc pc = .ok (op, 1) → iv_fin rt op st w = some (v, w') → iv_le w w' ∧ iv_T p l e R s m args below meth c Q D b z n0 s0 nL (pc) L st w)
    {I : iv_I} (hd : decode cc I.1.1 = .ok (I.2.1, I.1.2)) (hob : iv_okb code k I = true) (how : iv_okw own ini I) (h : iv_go call code rt K I k L st w = some (v, w')) : iv_le w w' ∧ iv_T p l e R s m args below meth c Q D b z n0 s0 nL (I.1.1) L st w := by
  obtain ⟨⟨pc, len⟩, op, x, y, u⟩ := I
  unfold iv_okb at hob
  rw [Bool.and_eq_true] at hob
  obtain ⟨hnb, hob⟩ := hob
  have hn := iv_nxt_of hnb
  cases op
  case iconst n =>
    have hlen : len = 1 := of_decide_eq_true hob
    subst hlen
    exact iv_c_iconst hx hb hK hd hn h
  case aconst_null =>
    have hlen : len = 1 := of_decide_eq_true hob
    subst hlen
    exact iv_c_null hx hb hK hd hn h
  case iload_n i =>
    have hlen : len = 1 := of_decide_eq_true hob
    subst hlen
    exact iv_c_iload_n hx hb hK hd hn h
  case aload_n i =>
    have hlen : len = 1 := of_decide_eq_true hob
    subst hlen
    exact iv_c_aload_n hx hb hK hd hn h
  case istore_n i =>
    have hlen : len = 1 := of_decide_eq_true hob
    subst hlen
    exact iv_c_istore_n hx hb hK hd hn h
  case astore_n i =>
    have hlen : len = 1 := of_decide_eq_true hob
    subst hlen
    exact iv_c_astore_n hx hb hK hd hn h
  case iadd =>
    have hlen : len = 1 := of_decide_eq_true hob
    subst hlen
    exact iv_c_iadd hx hb hK hd hn h
  case isub =>
    have hlen : len = 1 := of_decide_eq_true hob
    subst hlen
    exact iv_c_isub hx hb hK hd hn h
  case imul =>
    have hlen : len = 1 := of_decide_eq_true hob
    subst hlen
    exact iv_c_imul hx hb hK hd hn h
  case iand =>
    have hlen : len = 1 := of_decide_eq_true hob
    subst hlen
    exact iv_c_iand hx hb hK hd hn h
  case ior =>
    have hlen : len = 1 := of_decide_eq_true hob
    subst hlen
    exact iv_c_ior hx hb hK hd hn h
  case ixor =>
    have hlen : len = 1 := of_decide_eq_true hob
    subst hlen
    exact iv_c_ixor hx hb hK hd hn h
  case ishl =>
    have hlen : len = 1 := of_decide_eq_true hob
    subst hlen
    exact iv_c_ishl hx hb hK hd hn h
  case ishr =>
    have hlen : len = 1 := of_decide_eq_true hob
    subst hlen
    exact iv_c_ishr hx hb hK hd hn h
  case idiv =>
    have hlen : len = 1 := of_decide_eq_true hob
    subst hlen
    exact iv_c_idiv hx hb hK hd hn h
  case irem =>
    have hlen : len = 1 := of_decide_eq_true hob
    subst hlen
    exact iv_c_irem hx hb hK hd hn h
  case ineg =>
    have hlen : len = 1 := of_decide_eq_true hob
    subst hlen
    exact iv_c_ineg hx hb hK hd hn h
  case i2c =>
    have hlen : len = 1 := of_decide_eq_true hob
    subst hlen
    exact iv_c_i2c hx hb hK hd hn h
  case dup =>
    have hlen : len = 1 := of_decide_eq_true hob
    subst hlen
    exact iv_c_dup hx hb hK hd hn h
  case pop =>
    have hlen : len = 1 := of_decide_eq_true hob
    subst hlen
    exact iv_c_pop hx hb hK hd hn h
  case dup_x1 =>
    have hlen : len = 1 := of_decide_eq_true hob
    subst hlen
    exact iv_c_dup_x1 hx hb hK hd hn h
  case dup2 =>
    have hlen : len = 1 := of_decide_eq_true hob
    subst hlen
    exact iv_c_dup2 hx hb hK hd hn h
  case bipush n =>
    have hlen : len = 2 := of_decide_eq_true hob
    subst hlen
    exact iv_c_bipush hx hb hK hd hn h
  case iload i =>
    have hlen : len = 2 := of_decide_eq_true hob
    subst hlen
    exact iv_c_iload hx hb hK hd hn h
  case aload i =>
    have hlen : len = 2 := of_decide_eq_true hob
    subst hlen
    exact iv_c_aload hx hb hK hd hn h
  case istore i =>
    have hlen : len = 2 := of_decide_eq_true hob
    subst hlen
    exact iv_c_istore hx hb hK hd hn h
  case astore i =>
    have hlen : len = 2 := of_decide_eq_true hob
    subst hlen
    exact iv_c_astore hx hb hK hd hn h
  case sipush n =>
    have hlen : len = 3 := of_decide_eq_true hob
    subst hlen
    exact iv_c_sipush hx hb hK hd hn h
  case iinc i n =>
    have hlen : len = 3 := of_decide_eq_true hob
    subst hlen
    exact iv_c_iinc hx hb hK hd hn h
  case iaload =>
    have hlen : len = 1 := of_decide_eq_true hob
    subst hlen
    exact iv_c_iaload hx hb hK hd hn h
  case baload =>
    have hlen : len = 1 := of_decide_eq_true hob
    subst hlen
    exact iv_c_baload hx hb hK hd hn h
  case caload =>
    have hlen : len = 1 := of_decide_eq_true hob
    subst hlen
    exact iv_c_caload hx hb hK hd hn h
  case aaload =>
    have hlen : len = 1 := of_decide_eq_true hob
    subst hlen
    exact iv_c_aaload hx hb hK hd hn h
  case iastore =>
    have hlen : len = 1 := of_decide_eq_true hob
    subst hlen
    exact iv_c_iastore hx hb hK hbz hd hn h
  case bastore =>
    have hlen : len = 1 := of_decide_eq_true hob
    subst hlen
    exact iv_c_bastore hx hb hK hbz hd hn h
  case castore =>
    have hlen : len = 1 := of_decide_eq_true hob
    subst hlen
    exact iv_c_castore hx hb hK hbz hd hn h
  case aastore =>
    have hlen : len = 1 := of_decide_eq_true hob
    subst hlen
    exact iv_c_aastore hx hb hK hown hW hbz hd hn h
  case arraylength =>
    have hlen : len = 1 := of_decide_eq_true hob
    subst hlen
    exact iv_c_alen hx hb hK hd hn h
  case ireturn =>
    have hlen : len = 1 := of_decide_eq_true hob
    subst hlen
    exact hret _ pc L st w hd h
  case areturn =>
    have hlen : len = 1 := of_decide_eq_true hob
    subst hlen
    exact hret _ pc L st w hd h
  case return_ =>
    have hlen : len = 1 := of_decide_eq_true hob
    subst hlen
    exact hret _ pc L st w hd h
  case ifCond q off =>
    obtain ⟨h5, h6⟩ := Bool.and_eq_true_iff.mp hob
    have hlen : len = 3 := of_decide_eq_true h5
    subst hlen
    obtain ⟨J0, hJ0, hJ1⟩ := iv_jmp_of h6
    have hj : ∀ J, code[x]? = some J → (J.1.1 : Int) = (pc : Int) + off := fun J hJ => by cases hJ0.symm.trans hJ; exact hJ1
    exact iv_c_ifCond hx hb hK hd hn hj hJ1.symm h
  case if_icmp q off =>
    obtain ⟨h5, h6⟩ := Bool.and_eq_true_iff.mp hob
    have hlen : len = 3 := of_decide_eq_true h5
    subst hlen
    obtain ⟨J0, hJ0, hJ1⟩ := iv_jmp_of h6
    have hj : ∀ J, code[x]? = some J → (J.1.1 : Int) = (pc : Int) + off := fun J hJ => by cases hJ0.symm.trans hJ; exact hJ1
    exact iv_c_icmp hx hb hK hd hn hj hJ1.symm h
  case ifnull off =>
    obtain ⟨h5, h6⟩ := Bool.and_eq_true_iff.mp hob
    have hlen : len = 3 := of_decide_eq_true h5
    subst hlen
    obtain ⟨J0, hJ0, hJ1⟩ := iv_jmp_of h6
    have hj : ∀ J, code[x]? = some J → (J.1.1 : Int) = (pc : Int) + off := fun J hJ => by cases hJ0.symm.trans hJ; exact hJ1
    exact iv_c_ifnull hx hb hK hd hn hj h
  case ifnonnull off =>
    obtain ⟨h5, h6⟩ := Bool.and_eq_true_iff.mp hob
    have hlen : len = 3 := of_decide_eq_true h5
    subst hlen
    obtain ⟨J0, hJ0, hJ1⟩ := iv_jmp_of h6
    have hj : ∀ J, code[x]? = some J → (J.1.1 : Int) = (pc : Int) + off := fun J hJ => by cases hJ0.symm.trans hJ; exact hJ1
    exact iv_c_ifnonnull hx hb hK hd hn hj h
  case goto off =>
    obtain ⟨h5, h6⟩ := Bool.and_eq_true_iff.mp hob
    have hlen : len = 3 := of_decide_eq_true h5
    subst hlen
    obtain ⟨J0, hJ0, hJ1⟩ := iv_jmp_of h6
    have hj : ∀ J, code[x]? = some J → (J.1.1 : Int) = (pc : Int) + off := fun J hJ => by cases hJ0.symm.trans hJ; exact hJ1
    exact iv_c_goto hx hb hK hd hj h
  case getfield index =>
    have hlen : len = 3 := of_decide_eq_true hob
    subst hlen
    obtain ⟨q, h5, h6, h7⟩ := how
    exact iv_c_getfield hx hb hK hown hW hbz h5 (ck_cl _ _ h5) h6 h7 hd hn h
  case putfield index =>
    have hlen : len = 3 := of_decide_eq_true hob
    subst hlen
    obtain ⟨q, h5, h7⟩ := how
    refine iv_c_putfield (u := u) hx hb hK hown hW hbz h5 (ck_cl _ _ h5) ?_ hd hn h
    rcases h7 with ⟨g1, g2 | ⟨g2, g3, g4⟩⟩ | g1
    · exact Or.inl ⟨g1, Or.inl g2⟩
    · exact Or.inl ⟨g1, Or.inr ⟨g2, g3, hini g4⟩⟩
    · exact Or.inr g1
  case new index =>
    have hlen : len = 3 := of_decide_eq_true hob
    subst hlen
    obtain ⟨q, h5, h6⟩ := how
    exact iv_c_new hx hb hK hown hW hbz hR h5 (ck_cl _ _ h5) h6 hd hn h
  case ldc index =>
    have hlen : len = 2 := of_decide_eq_true hob
    subst hlen
    exact iv_c_ldc hx hb hK hown hW how hd hn h
  case newarray ty =>
    have hlen : len = 2 := of_decide_eq_true hob
    subst hlen
    exact iv_c_newarray hx hb hK hown hW hbz hR how.1 how.2 hd hn h
  case anewarray index =>
    have hlen : len = 3 := of_decide_eq_true hob
    subst hlen
    obtain ⟨C, h5, h6, h7⟩ := how
    exact iv_c_anewarray hx hb hK hown hW hbz hR h5 h6 h7 hd hn h
  case multianewarray index n =>
    obtain ⟨h5, h6⟩ := Bool.and_eq_true_iff.mp hob
    have hlen : len = 4 := of_decide_eq_true h5
    subst hlen
    have hnn : n = 2 := of_decide_eq_true h6
    subst hnn
    exact iv_c_multi hx hb hK hown hW hbz hR how.1 how.2.1 how.2.2.1 how.2.2.2.1 how.2.2.2.2 hd hn h
  case tableswitch d0 lo hi offs =>
    exact iv_c_tableswitch hx hb hK hd h
  case lookupswitch d0 ps =>
    exact iv_c_lookupswitch hx hb hK hd hob h
  case invokevirtual index =>
    have hlen : len = 3 := of_decide_eq_true hob
    subst hlen
    exact iv_c_virtual hx hb hK hown hW hbz hR hml hRd hcall how.1 how.2.1 how.2.2 hd hn h
  case invokespecial index =>
    have hlen : len = 3 := of_decide_eq_true hob
    subst hlen
    rcases how with ⟨h5, h6⟩ | ⟨h5, h6, h7, h8⟩
    · have h5 : x = 0 := h5
      subst h5
      exact iv_c_objinit hx hb hK hown hW hbz hml hRd hcall ck_oi h6 hd hn h
    · have h5 : ¬ x = 0 := h5
      have h9 : (if x = 0 then iv_oi st (fun st' => K (k + 1) L st' w) else iv_inv call x y iv_isr st w fun st' w' => K (k + 1) L st' w') = some (v, w') := h
      rw [if_neg h5] at h9
      exact iv_c_special hx hb hK hown hW hbz hR hml hRd hcall h6 h7 h8 hd hn h9
  case invokestatic index =>
    have hlen : len = 3 := of_decide_eq_true hob
    subst hlen
    exact iv_c_static hx hb hK hown hW hbz hR hml hRd hcall how.1 how.2.1 how.2.2 hd hn h
  all_goals exact absurd h (by simp [iv_go])
theorem iv_walk (hx : p.tables.exec = Jvm.exec) (hb : c.code = cc) (hown : s.vm.findClass own = some m.cls) (hW : iv_Kw D s) (hbz : b < z) (hR : w'.2.1 ≤ n0 + R.cells ∧ w'.2.2 ≤ s0 + R.slots) (hml : c.maxLocals = nL) (hRd : d + 1 ≤ R.frames ∧ 64 * d + 64 ≤ R.locals) (hcall : ∀ x as w u w1, call x as w = some (u, w1) → iv_Met l D b z d x as w u w1) (hini : ini = true → meth.name = "<init>") (hret : ∀ (op : Instr) (pc : Nat) (L st : List Value) (w : iv_S), decode cc pc = .ok (op, 1) → iv_fin rt op st w = some (v, w') → iv_le w w' ∧ iv_T p l e R s m args below meth c Q D b z n0 s0 nL (pc) L st w)
    (hcd : ∀ (k : Nat) (I : iv_I), code[k]? = some I → decode cc I.1.1 = .ok (I.2.1, I.1.2) ∧ iv_okb code k I = true ∧ iv_okw own ini I) : ∀ (n k : Nat) (L st : List Value) (w : iv_S), iv_run call code rt n k L st w = some (v, w') → (iv_le w w' ∧ ∃ J, code[k]? = some J ∧ iv_T p l e R s m args below meth c Q D b z n0 s0 nL J.1.1 L st w)
  | 0, k, L, st, w, h => by rw [iv_run_0] at h; cases h
  | n + 1, k, L, st, w, h => by
    rw [iv_run_s] at h
    split at h
    · rename_i I hI
      obtain ⟨h1, h2, h3⟩ := hcd k I hI
      obtain ⟨h4, h5⟩ := iv_step hx hb (iv_walk hx hb hown hW hbz hR hml hRd hcall hini hret hcd n) hown hW hbz hR hml hRd hcall hini hret h1 h2 h3 h
      exact ⟨h4, I, hI, h5⟩
    · cases h
end IVE
