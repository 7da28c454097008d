/-! A small machine over pictures of the heap: what a method's bytecode does, as a function. A picture names cells 0, 1, 2 ..: 0 is the script, the others are made in their order. -/
abbrev iv_C : Type := Nat × List Value
abbrev iv_S : Type := (Nat → Option iv_C) × Nat × Nat
abbrev iv_R : Type := Option (Option Value × iv_S)
abbrev iv_Q : Type := Nat → List Value → List Value → iv_S → iv_R
def iv_un : Value := .retAddr 0
def iv_isv : Value → Bool
  | .int _ => true
  | .ref _ => true
  | .null => true
  | _ => false
def iv_put (h : Nat → Option iv_C) (a : Nat) (c : iv_C) : Nat → Option iv_C := fun j => if j = a then some c else h j
def iv_cnd (c : Jvm.ClassFile.Cond) (x y : Int32) : Bool := match c with
  | .eq => decide (x = y)
  | .ne => decide (¬ x = y)
  | .lt => decide (x < y)
  | .ge => decide (y ≤ x)
  | .gt => decide (y < x)
  | .le => decide (x ≤ y)
def iv_fit : FieldType → Value → Bool
  | .int, .int _ => true
  | .boolean, .int x => x == 0 || x == 1
  | .object _, .ref _ => true
  | .object _, .null => true
  | .array _, .ref _ => true
  | .array _, .null => true
  | _, _ => false
def iv_p1 (st : List Value) (q : Int32 → List Value → iv_R) : iv_R := match st with
  | .int x :: st' => q x st'
  | _ => none
def iv_p2 (st : List Value) (q : Int32 → Int32 → List Value → iv_R) : iv_R := match st with
  | .int y :: .int x :: st' => q x y st'
  | _ => none
def iv_ldi (L : List Value) (i : Nat) (q : Int32 → iv_R) : iv_R := match L[i]? with
  | some (.int x) => q x
  | _ => none
def iv_lda (L : List Value) (i : Nat) (q : Value → iv_R) : iv_R := match L[i]? with
  | some (.ref a) => q (.ref a)
  | some .null => q .null
  | _ => none
def iv_sto (L : List Value) (i : Nat) (v : Value) (q : List Value → iv_R) : iv_R := if i < L.length then q (L.set i v) else none
def iv_gf (w : iv_S) (st : List Value) (x y : Nat) (q : Value → List Value → iv_R) : iv_R := match st with
  | .ref a :: st' => match w.1 a with
    | some (t, fs) => if t = x then (match fs[y]? with
      | some v => q v st'
      | none => none) else none
    | none => none
  | _ => none
def iv_pf (w : iv_S) (st : List Value) (x y : Nat) (q : List Value → iv_S → iv_R) : iv_R := match st with
  | v :: .ref a :: st' => match w.1 a with
    | some (t, fs) => if t = x then (if y < fs.length then (if iv_fit (iv_ft x y) v = true then q st' (iv_put w.1 a (t, fs.set y v), w.2) else none) else none) else none
    | none => none
  | _ => none
/-- an element, of an array whose elements are of the kind p -/
def iv_ald (w : iv_S) (st : List Value) (p : FieldType → Bool) (q : Value → List Value → iv_R) : iv_R := match st with
  | .int j :: .ref a :: st' => match w.1 a with
    | some (t, vs) => match iv_ar t with
      | some ty => if p ty = true then (if j < 0 then none else match vs[j.toNatClampNeg]? with
        | some v => q v st'
        | none => none) else none
      | none => none
    | none => none
  | _ => none
def iv_ast (w : iv_S) (st : List Value) (p : FieldType → Bool) (q : List Value → iv_S → iv_R) : iv_R := match st with
  | .int x :: .int j :: .ref a :: st' => match w.1 a with
    | some (t, vs) => match iv_ar t with
      | some ty => if p ty = true then (if t = 150 then none else if j < 0 then none else if j.toNatClampNeg < vs.length then q st' (iv_put w.1 a (t, vs.set j.toNatClampNeg (narrow ty (.int x))), w.2) else none) else none
      | none => none
    | none => none
  | _ => none
def iv_ust (w : iv_S) (st : List Value) (q : List Value → iv_S → iv_R) : iv_R := match st with
  | .ref b :: .int j :: .ref a :: st' => match w.1 a, w.1 b with
    | some (t, vs), some (t', _) => if iv_ac t = some t' then (if j < 0 then none else if j.toNatClampNeg < vs.length then q st' (iv_put w.1 a (t, vs.set j.toNatClampNeg (.ref b)), w.2) else none) else none
    | _, _ => none
  | _ => none
def iv_len (w : iv_S) (st : List Value) (q : Int32 → List Value → iv_R) : iv_R := match st with
  | .ref a :: st' => match w.1 a with
    | some (t, vs) => match iv_ar t with
      | some _ => q (Int32.ofNat vs.length) st'
      | none => none
    | none => none
  | _ => none
def iv_nw (w : iv_S) (x : Nat) (q : Value → iv_S → iv_R) : iv_R := match iv_df x with
  | some fs => q (.ref (w.2.1 + 1)) (iv_put w.1 (w.2.1 + 1) (x, fs), w.2.1 + 1, w.2.2 + fs.length)
  | none => none
/-- a new array of the kind x, of n elements -/
def iv_na (w : iv_S) (x : Nat) (v : Value) (n : Int32) (q : Value → iv_S → iv_R) : iv_R :=
  if n < 0 then none else if n.toNatClampNeg ≤ 10000 then q (.ref (w.2.1 + 1)) (iv_put w.1 (w.2.1 + 1) (x, List.replicate n.toNatClampNeg v), w.2.1 + 1, w.2.2 + n.toNatClampNeg) else none
/-- a grid: an array of the kind x, of n arrays of the kind y, of k elements each -/
def iv_nm (w : iv_S) (x y : Nat) (v : Value) (n k : Int32) (q : Value → iv_S → iv_R) : iv_R :=
  if n < 0 then none else if k < 0 then none else if n.toNatClampNeg ≤ 10000 then (if k.toNatClampNeg ≤ 10000 then
    q (.ref (w.2.1 + 1)) (fun j => if j = w.2.1 + 1 then some (x, (List.range n.toNatClampNeg).map fun i => .ref (w.2.1 + 2 + i)) else if w.2.1 + 1 < j ∧ j ≤ w.2.1 + 1 + n.toNatClampNeg then some (y, List.replicate k.toNatClampNeg v) else w.1 j,
      w.2.1 + 1 + n.toNatClampNeg, w.2.2 + (n.toNatClampNeg + n.toNatClampNeg * k.toNatClampNeg)) else none) else none
def iv_sw (code : List iv_I) (t : Int) (q : Nat → iv_R) : iv_R := match code.findIdx? (fun J => decide ((J.1.1 : Int) = t)) with
  | some j => q j
  | none => none
/-- the receiver is an object of the class number t -/
def iv_rc (w : iv_S) (as : List Value) (t : Nat) : Bool := match as with
  | .ref b :: _ => match w.1 b with
    | some (t', _) => decide (t' = t)
    | none => false
  | _ => false
def iv_isr (as : List Value) : Bool := match as with
  | .ref _ :: _ => true
  | _ => false
def iv_inv (call : Nat → List Value → iv_S → iv_R) (x y : Nat) (ok : List Value → Bool) (st : List Value) (w : iv_S) (q : List Value → iv_S → iv_R) : iv_R :=
  if y ≤ st.length then (if (st.drop y).length ≤ 8 then (if (st.drop y).all iv_isv = true then (if ok (st.take y).reverse = true then (match call x (st.take y).reverse w with
    | some (v, w') => q (v.toList ++ st.drop y) w'
    | none => none) else none) else none) else none) else none
def iv_oi (st : List Value) (q : List Value → iv_R) : iv_R := match st with
  | .ref _ :: st' => if st'.length ≤ 8 then (if st'.all iv_isv = true then q st' else none) else none
  | _ => none
def iv_isI (t : FieldType) : Bool := match t with
  | .int => true
  | _ => false
def iv_isZ (t : FieldType) : Bool := match t with
  | .boolean => true
  | _ => false
def iv_isC (t : FieldType) : Bool := match t with
  | .char => true
  | _ => false
def iv_isA (t : FieldType) : Bool := match t with
  | .object _ => true
  | .array _ => true
  | _ => false
def iv_ret (rt : Option FieldType) (st : List Value) (w : iv_S) : iv_R := match rt, st with
  | some ty, [.int x] => if iv_fit ty (.int x) = true then some (some (.int x), w) else none
  | _, _ => none
def iv_rea (rt : Option FieldType) (st : List Value) (w : iv_S) : iv_R := match rt, st with
  | some ty, [v] => if iv_isA ty = true then (if iv_fit ty v = true then some (some v, w) else none) else none
  | _, _ => none
def iv_rev (rt : Option FieldType) (st : List Value) (w : iv_S) : iv_R := match rt, st with
  | none, [] => some (none, w)
  | _, _ => none
def iv_go (call : Nat → List Value → iv_S → iv_R) (code : List iv_I) (rt : Option FieldType) (K : iv_Q) (I : iv_I) (k : Nat) (L st : List Value) (w : iv_S) : iv_R :=
  match I.2.1 with
  | .iconst n => K (k + 1) L (.int (Int32.ofInt n) :: st) w
  | .bipush n => K (k + 1) L (.int (Int8.ofInt n).toInt32 :: st) w
  | .sipush n => K (k + 1) L (.int (Int16.ofInt n).toInt32 :: st) w
  | .ldc _ => K (k + 1) L (.int (Int32.ofNat I.2.2.1) :: st) w
  | .aconst_null => K (k + 1) L (.null :: st) w
  | .iload i => iv_ldi L i fun x => K (k + 1) L (.int x :: st) w
  | .iload_n i => iv_ldi L i.val fun x => K (k + 1) L (.int x :: st) w
  | .aload i => iv_lda L i fun v => K (k + 1) L (v :: st) w
  | .aload_n i => iv_lda L i.val fun v => K (k + 1) L (v :: st) w
  | .istore i => iv_p1 st fun x st' => iv_sto L i (.int x) fun L' => K (k + 1) L' st' w
  | .istore_n i => iv_p1 st fun x st' => iv_sto L i.val (.int x) fun L' => K (k + 1) L' st' w
  | .astore i => match st with
    | .ref a :: st' => iv_sto L i (.ref a) fun L' => K (k + 1) L' st' w
    | _ => none
  | .astore_n i => match st with
    | .ref a :: st' => iv_sto L i.val (.ref a) fun L' => K (k + 1) L' st' w
    | _ => none
  | .iinc i n => iv_ldi L i fun x => iv_sto L i (.int (x + Int32.ofInt n)) fun L' => K (k + 1) L' st w
  | .iadd => iv_p2 st fun x y st' => K (k + 1) L (.int (x + y) :: st') w
  | .isub => iv_p2 st fun x y st' => K (k + 1) L (.int (x - y) :: st') w
  | .imul => iv_p2 st fun x y st' => K (k + 1) L (.int (x * y) :: st') w
  | .iand => iv_p2 st fun x y st' => K (k + 1) L (.int (x &&& y) :: st') w
  | .ior => iv_p2 st fun x y st' => K (k + 1) L (.int (x ||| y) :: st') w
  | .ixor => iv_p2 st fun x y st' => K (k + 1) L (.int (x ^^^ y) :: st') w
  | .ishl => iv_p2 st fun x y st' => K (k + 1) L (.int (x <<< (y &&& 31)) :: st') w
  | .ishr => iv_p2 st fun x y st' => K (k + 1) L (.int (x >>> (y &&& 31)) :: st') w
  | .idiv => iv_p2 st fun x y st' => if y = 0 then none else K (k + 1) L (.int (x / y) :: st') w
  | .irem => iv_p2 st fun x y st' => if y = 0 then none else K (k + 1) L (.int (x - x / y * y) :: st') w
  | .ineg => iv_p1 st fun x st' => K (k + 1) L (.int (-x) :: st') w
  | .i2c => iv_p1 st fun x st' => K (k + 1) L (.int (x.toUInt32 % 65536).toInt32 :: st') w
  | .dup => match st with
    | a :: st' => if iv_isv a = true then K (k + 1) L (a :: a :: st') w else none
    | _ => none
  | .dup_x1 => match st with
    | a :: b :: st' => if iv_isv a = true then (if iv_isv b = true then K (k + 1) L (a :: b :: a :: st') w else none) else none
    | _ => none
  | .dup2 => match st with
    | a :: b :: st' => if iv_isv a = true then (if iv_isv b = true then K (k + 1) L (a :: b :: a :: b :: st') w else none) else none
    | _ => none
  | .pop => match st with
    | a :: st' => if iv_isv a = true then K (k + 1) L st' w else none
    | _ => none
  | .ifCond c _ => iv_p1 st fun x st' => if iv_cnd c x 0 = true then K I.2.2.1 L st' w else K (k + 1) L st' w
  | .if_icmp c _ => iv_p2 st fun x y st' => if iv_cnd c x y = true then K I.2.2.1 L st' w else K (k + 1) L st' w
  | .ifnull _ => match st with
    | .ref _ :: st' => K (k + 1) L st' w
    | .null :: st' => K I.2.2.1 L st' w
    | _ => none
  | .ifnonnull _ => match st with
    | .ref _ :: st' => K I.2.2.1 L st' w
    | .null :: st' => K (k + 1) L st' w
    | _ => none
  | .goto _ => K I.2.2.1 L st w
  | .getfield _ => iv_gf w st I.2.2.1 I.2.2.2.1 fun v st' => K (k + 1) L (v :: st') w
  | .putfield _ => iv_pf w st I.2.2.1 I.2.2.2.1 fun st' w' => K (k + 1) L st' w'
  | .iaload => iv_ald w st iv_isI fun v st' => K (k + 1) L (v :: st') w
  | .baload => iv_ald w st iv_isZ fun v st' => K (k + 1) L (v :: st') w
  | .caload => iv_ald w st iv_isC fun v st' => K (k + 1) L (v :: st') w
  | .aaload => iv_ald w st iv_isA fun v st' => K (k + 1) L (v :: st') w
  | .iastore => iv_ast w st iv_isI fun st' w' => K (k + 1) L st' w'
  | .bastore => iv_ast w st iv_isZ fun st' w' => K (k + 1) L st' w'
  | .castore => iv_ast w st iv_isC fun st' w' => K (k + 1) L st' w'
  | .aastore => iv_ust w st fun st' w' => K (k + 1) L st' w'
  | .arraylength => iv_len w st fun x st' => K (k + 1) L (.int x :: st') w
  | .new _ => iv_nw w I.2.2.1 fun v w' => K (k + 1) L (v :: st) w'
  | .newarray t => iv_p1 st fun n st' => iv_na w I.2.2.1 (defaultValue (newarray.typeOf t)) n fun v w' => K (k + 1) L (v :: st') w'
  | .anewarray _ => iv_p1 st fun n st' => iv_na w I.2.2.1 .null n fun v w' => K (k + 1) L (v :: st') w'
  | .multianewarray _ _ => iv_p2 st fun n m st' => iv_nm w I.2.2.1 I.2.2.2.1 (.int 0) n m fun v w' => K (k + 1) L (v :: st') w'
  | .tableswitch d lo hi offs => iv_p1 st fun x st' => if x.toInt < lo ∨ hi < x.toInt then iv_sw code ((I.1.1 : Int) + d) fun j => K j L st' w else
      match offs[(x.toInt - lo).toNat]? with
      | some o => iv_sw code ((I.1.1 : Int) + o) fun j => K j L st' w
      | none => none
  | .lookupswitch d ps => iv_p1 st fun x st' => iv_sw code ((I.1.1 : Int) + Op.lookupswitch.offset ps.toList d x.toInt) fun j => K j L st' w
  | .invokevirtual _ => iv_inv call I.2.2.1 I.2.2.2.1 (fun as => iv_rc w as (iv_mc I.2.2.1)) st w fun st' w' => K (k + 1) L st' w'
  | .invokespecial _ => if I.2.2.1 = 0 then iv_oi st fun st' => K (k + 1) L st' w else iv_inv call I.2.2.1 I.2.2.2.1 iv_isr st w fun st' w' => K (k + 1) L st' w'
  | .invokestatic _ => iv_inv call I.2.2.1 I.2.2.2.1 (fun _ => true) st w fun st' w' => K (k + 1) L st' w'
  | .ireturn => iv_ret rt st w
  | .areturn => iv_rea rt st w
  | .return_ => iv_rev rt st w
  | _ => none
def iv_run (call : Nat → List Value → iv_S → iv_R) (code : List iv_I) (rt : Option FieldType) (n : Nat) : iv_Q :=
  Nat.rec (fun _ _ _ _ => none) (fun _ ih k L st w => match code[k]? with
    | some I => iv_go call code rt ih I k L st w
    | none => none) n
def iv_call (F d : Nat) : Nat → List Value → iv_S → iv_R :=
  Nat.rec (fun _ _ _ => none) (fun _ ih x as w => match iv_M x with
    | some (mL, rt, code) => if as.length ≤ mL then (if as.all iv_isv = true then iv_run ih code rt F 0 (as ++ List.replicate (mL - as.length) iv_un) [] w else none) else none
    | none => none) d
theorem iv_run_0 (call : Nat → List Value → iv_S → iv_R) (code : List iv_I) (rt : Option FieldType) (k : Nat) (L st : List Value) (w : iv_S) : iv_run call code rt 0 k L st w = none := rfl
theorem iv_run_s (call : Nat → List Value → iv_S → iv_R) (code : List iv_I) (rt : Option FieldType) (n k : Nat) (L st : List Value) (w : iv_S) : iv_run call code rt (n + 1) k L st w = match code[k]? with
    | some I => iv_go call code rt (iv_run call code rt n) I k L st w
    | none => none := rfl
theorem iv_call_0 (F x : Nat) (as : List Value) (w : iv_S) : iv_call F 0 x as w = none := rfl
theorem iv_call_s (F d x : Nat) (as : List Value) (w : iv_S) : iv_call F (d + 1) x as w = match iv_M x with
    | some (mL, rt, code) => if as.length ≤ mL then (if as.all iv_isv = true then iv_run (iv_call F d) code rt F 0 (as ++ List.replicate (mL - as.length) iv_un) [] w else none) else none
    | none => none := rfl
