/-! each row as an equation without binders -/
noncomputable def iv_kv (call : Nat → List Value → iv_S → iv_R) (code : List iv_I) (rt : Option FieldType) (k : Nat) (L : List Value) (w : iv_S) : Value → List Value → iv_R := fun v st => iv_V call code rt k L (v :: st) w
noncomputable def iv_kx (call : Nat → List Value → iv_S → iv_R) (code : List iv_I) (rt : Option FieldType) (k : Nat) (L : List Value) (w : iv_S) : Int32 → List Value → iv_R := fun x st => iv_V call code rt k L (.int x :: st) w
noncomputable def iv_kw (call : Nat → List Value → iv_S → iv_R) (code : List iv_I) (rt : Option FieldType) (k : Nat) (L : List Value) : List Value → iv_S → iv_R := fun st w => iv_V call code rt k L st w
noncomputable def iv_kn (call : Nat → List Value → iv_S → iv_R) (code : List iv_I) (rt : Option FieldType) (k : Nat) (L st : List Value) : Value → iv_S → iv_R := fun v w => iv_V call code rt k L (v :: st) w
noncomputable def iv_ct (call : Nat → List Value → iv_S → iv_R) (code : List iv_I) (rt : Option FieldType) (k : Nat) (L st : List Value) (r : iv_R) : iv_R := match r with
  | some (v, w') => iv_V call code rt k L (v.toList ++ st) w'
  | none => none
def iv_cr (b : Bool) (r : iv_R) : iv_R := if b = true then r else none
section IVK
variable {call : Nat → List Value → iv_S → iv_R} {code : List iv_I} {rt : Option FieldType} {k : Nat} {L st : List Value} {w : iv_S} {v : Value} {x : Int32} {r : iv_R}
theorem kv_e : iv_kv call code rt k L w v st = iv_V call code rt k L (v :: st) w := rfl
theorem kx_e : iv_kx call code rt k L w x st = iv_V call code rt k L (.int x :: st) w := rfl
theorem kw_e : iv_kw call code rt k L st w = iv_V call code rt k L st w := rfl
theorem kn_e : iv_kn call code rt k L st v w = iv_V call code rt k L (v :: st) w := rfl
theorem ct_s : iv_ct call code rt k L st (some (some v, w)) = iv_V call code rt k L (v :: st) w := rfl
theorem ct_v : iv_ct call code rt k L st (some (none, w)) = iv_V call code rt k L st w := rfl
theorem cr_t : iv_cr true r = r := rfl
end IVK
section IVF0
variable {call : Nat → List Value → iv_S → iv_R} {rt : Option FieldType} {L st : List Value} {w : iv_S} {v0 v1 v2 v3 v4 v5 v6 v7 v8 v9 u : Value} {x y : Int32} {a : Nat}
theorem f3_0 : iv_V call mc_3 rt 0 (v0 :: .int x :: L) (st) w = iv_V call mc_3 rt 1 (v0 :: .int x :: L) (.int x :: st) w := e3_0
theorem f3_1 : iv_V call mc_3 rt 1 (L) (st) w = iv_V call mc_3 rt 2 (L) (.int (-1) :: st) w := e3_1
theorem f3_2 : iv_V call mc_3 rt 2 (L) (.int y :: .int x :: st) w = if x = y then iv_V call mc_3 rt 10 (L) (st) w else iv_V call mc_3 rt 3 (L) (st) w := e3_2
theorem f3_3 : iv_V call mc_3 rt 3 (.ref a :: L) (st) w = iv_V call mc_3 rt 4 (.ref a :: L) (.ref a :: st) w := e3_3
theorem f3_4 : iv_V call mc_3 rt 4 (L) (st) w = iv_gf w st 0 0 (iv_kv call mc_3 rt 5 L w) := e3_4
theorem f3_5 : iv_V call mc_3 rt 5 (v0 :: .int x :: L) (st) w = iv_V call mc_3 rt 6 (v0 :: .int x :: L) (.int x :: st) w := e3_5
theorem f3_6 {a0 : Nat} {x1 : Int32} : iv_V call mc_3 rt 6 (L) (.int x1 :: .ref a0 :: []) w = iv_cr (iv_rc w [.ref a0, .int x1] 10) (iv_ct call mc_3 rt 7 L [] (call 102 [.ref a0, .int x1] w)) := e3_6
theorem f3_7 : iv_V call mc_3 rt 7 (L) (.int x :: st) w = if ¬ x = nI 0 then iv_V call mc_3 rt 10 (L) (st) w else iv_V call mc_3 rt 8 (L) (st) w := e3_7
theorem f3_8 : iv_V call mc_3 rt 8 (L) (st) w = iv_V call mc_3 rt 9 (L) (.int (-1) :: st) w := e3_8
theorem f3_9 : iv_V call mc_3 rt 9 (L) (st) w = iv_ret rt st w := e3_9
theorem f3_10 : iv_V call mc_3 rt 10 (.ref a :: L) (st) w = iv_V call mc_3 rt 11 (.ref a :: L) (.ref a :: st) w := e3_10
theorem f3_11 : iv_V call mc_3 rt 11 (L) (st) w = iv_gf w st 0 0 (iv_kv call mc_3 rt 12 L w) := e3_11
theorem f3_12 : iv_V call mc_3 rt 12 (v0 :: .int x :: L) (st) w = iv_V call mc_3 rt 13 (v0 :: .int x :: L) (.int x :: st) w := e3_12
theorem f3_13 {a0 : Nat} {x1 : Int32} : iv_V call mc_3 rt 13 (L) (.int x1 :: .ref a0 :: []) w = iv_cr (iv_rc w [.ref a0, .int x1] 10) (iv_ct call mc_3 rt 14 L [] (call 108 [.ref a0, .int x1] w)) := e3_13
theorem f3_14 : iv_V call mc_3 rt 14 (L) (st) w = iv_ret rt st w := e3_14
theorem f4_0 : iv_V call mc_4 rt 0 (.ref a :: L) (st) w = iv_V call mc_4 rt 1 (.ref a :: L) (.ref a :: st) w := e4_0
theorem f4_1 : iv_V call mc_4 rt 1 (L) (st) w = iv_gf w st 0 0 (iv_kv call mc_4 rt 2 L w) := e4_1
theorem f4_2 : iv_V call mc_4 rt 2 (v0 :: .int x :: L) (st) w = iv_V call mc_4 rt 3 (v0 :: .int x :: L) (.int x :: st) w := e4_2
theorem f4_3 {a0 : Nat} {x1 : Int32} : iv_V call mc_4 rt 3 (L) (.int x1 :: .ref a0 :: []) w = iv_cr (iv_rc w [.ref a0, .int x1] 10) (iv_ct call mc_4 rt 4 L [] (call 102 [.ref a0, .int x1] w)) := e4_3
theorem f4_4 : iv_V call mc_4 rt 4 (L) (.int x :: st) w = if x = nI 0 then iv_V call mc_4 rt 10 (L) (st) w else iv_V call mc_4 rt 5 (L) (st) w := e4_4
theorem f4_5 : iv_V call mc_4 rt 5 (v0 :: v1 :: .int x :: L) (st) w = iv_V call mc_4 rt 6 (v0 :: v1 :: .int x :: L) (.int x :: st) w := e4_5
theorem f4_6 : iv_V call mc_4 rt 6 (L) (.int x :: st) w = if x < nI 0 then iv_V call mc_4 rt 10 (L) (st) w else iv_V call mc_4 rt 7 (L) (st) w := e4_6
theorem f4_7 : iv_V call mc_4 rt 7 (v0 :: v1 :: .int x :: L) (st) w = iv_V call mc_4 rt 8 (v0 :: v1 :: .int x :: L) (.int x :: st) w := e4_7
theorem f4_8 : iv_V call mc_4 rt 8 (L) (st) w = iv_V call mc_4 rt 9 (L) (.int (nI 3) :: st) w := e4_8
theorem f4_9 : iv_V call mc_4 rt 9 (L) (.int y :: .int x :: st) w = if x ≤ y then iv_V call mc_4 rt 12 (L) (st) w else iv_V call mc_4 rt 10 (L) (st) w := e4_9
theorem f4_10 : iv_V call mc_4 rt 10 (L) (st) w = iv_V call mc_4 rt 11 (L) (.int (-1) :: st) w := e4_10
theorem f4_11 : iv_V call mc_4 rt 11 (L) (st) w = iv_ret rt st w := e4_11
theorem f4_12 : iv_V call mc_4 rt 12 (.ref a :: L) (st) w = iv_V call mc_4 rt 13 (.ref a :: L) (.ref a :: st) w := e4_12
theorem f4_13 : iv_V call mc_4 rt 13 (L) (st) w = iv_gf w st 0 0 (iv_kv call mc_4 rt 14 L w) := e4_13
theorem f4_14 : iv_V call mc_4 rt 14 (v0 :: .int x :: L) (st) w = iv_V call mc_4 rt 15 (v0 :: .int x :: L) (.int x :: st) w := e4_14
theorem f4_15 : iv_V call mc_4 rt 15 (v0 :: v1 :: .int x :: L) (st) w = iv_V call mc_4 rt 16 (v0 :: v1 :: .int x :: L) (.int x :: st) w := e4_15
theorem f4_16 {a0 : Nat} {x1 : Int32} {x2 : Int32} : iv_V call mc_4 rt 16 (L) (.int x2 :: .int x1 :: .ref a0 :: []) w = iv_cr (iv_rc w [.ref a0, .int x1, .int x2] 10) (iv_ct call mc_4 rt 17 L [] (call 109 [.ref a0, .int x1, .int x2] w)) := e4_16
theorem f4_17 : iv_V call mc_4 rt 17 (v0 :: v1 :: v2 :: u :: L) (.int x :: st) w = iv_V call mc_4 rt 18 (v0 :: v1 :: v2 :: .int x :: L) (st) w := e4_17
theorem f4_18 : iv_V call mc_4 rt 18 (v0 :: v1 :: v2 :: .int x :: L) (st) w = iv_V call mc_4 rt 19 (v0 :: v1 :: v2 :: .int x :: L) (.int x :: st) w := e4_18
theorem f4_19 : iv_V call mc_4 rt 19 (L) (st) w = iv_V call mc_4 rt 20 (L) (.int (-1) :: st) w := e4_19
theorem f4_20 : iv_V call mc_4 rt 20 (L) (.int y :: .int x :: st) w = if x = y then iv_V call mc_4 rt 30 (L) (st) w else iv_V call mc_4 rt 21 (L) (st) w := e4_20
theorem f4_21 : iv_V call mc_4 rt 21 (.ref a :: L) (st) w = iv_V call mc_4 rt 22 (.ref a :: L) (.ref a :: st) w := e4_21
theorem f4_22 : iv_V call mc_4 rt 22 (L) (st) w = iv_gf w st 0 3 (iv_kv call mc_4 rt 23 L w) := e4_22
theorem f4_23 : iv_V call mc_4 rt 23 (v0 :: v1 :: v2 :: .int x :: L) (st) w = iv_V call mc_4 rt 24 (v0 :: v1 :: v2 :: .int x :: L) (.int x :: st) w := e4_23
theorem f4_24 : iv_V call mc_4 rt 24 (v0 :: v1 :: .int x :: L) (st) w = iv_V call mc_4 rt 25 (v0 :: v1 :: .int x :: L) (.int x :: st) w := e4_24
theorem f4_25 : iv_V call mc_4 rt 25 (L) (.int x :: st) w = if ¬ x = nI 0 then iv_V call mc_4 rt 28 (L) (st) w else iv_V call mc_4 rt 26 (L) (st) w := e4_25
theorem f4_26 : iv_V call mc_4 rt 26 (L) (st) w = iv_V call mc_4 rt 27 (L) (.int (nI 0) :: st) w := e4_26
theorem f4_27 : iv_V call mc_4 rt 27 (L) (st) w = iv_V call mc_4 rt 29 (L) (st) w := e4_27
theorem f4_28 : iv_V call mc_4 rt 28 (L) (st) w = iv_V call mc_4 rt 29 (L) (.int (-1) :: st) w := e4_28
theorem f4_29 {a0 : Nat} {x1 : Int32} {x2 : Int32} : iv_V call mc_4 rt 29 (L) (.int x2 :: .int x1 :: .ref a0 :: []) w = iv_cr (iv_rc w [.ref a0, .int x1, .int x2] 11) (iv_ct call mc_4 rt 30 L [] (call 112 [.ref a0, .int x1, .int x2] w)) := e4_29
theorem f4_30 : iv_V call mc_4 rt 30 (v0 :: v1 :: v2 :: .int x :: L) (st) w = iv_V call mc_4 rt 31 (v0 :: v1 :: v2 :: .int x :: L) (.int x :: st) w := e4_30
theorem f4_31 : iv_V call mc_4 rt 31 (L) (st) w = iv_ret rt st w := e4_31
theorem f5_0 : iv_V call mc_5 rt 0 (.ref a :: L) (st) w = iv_V call mc_5 rt 1 (.ref a :: L) (.ref a :: st) w := e5_0
theorem f5_1 : iv_V call mc_5 rt 1 (L) (st) w = iv_gf w st 0 0 (iv_kv call mc_5 rt 2 L w) := e5_1
theorem f5_2 : iv_V call mc_5 rt 2 (v0 :: .int x :: L) (st) w = iv_V call mc_5 rt 3 (v0 :: .int x :: L) (.int x :: st) w := e5_2
theorem f5_3 {a0 : Nat} {x1 : Int32} : iv_V call mc_5 rt 3 (L) (.int x1 :: .ref a0 :: []) w = iv_cr (iv_rc w [.ref a0, .int x1] 10) (iv_ct call mc_5 rt 4 L [] (call 103 [.ref a0, .int x1] w)) := e5_3
theorem f5_4 : iv_V call mc_5 rt 4 (L) (.int x :: st) w = if x = nI 0 then iv_V call mc_5 rt 10 (L) (st) w else iv_V call mc_5 rt 5 (L) (st) w := e5_4
theorem f5_5 : iv_V call mc_5 rt 5 (v0 :: v1 :: v2 :: .int x :: L) (st) w = iv_V call mc_5 rt 6 (v0 :: v1 :: v2 :: .int x :: L) (.int x :: st) w := e5_5
theorem f5_6 : iv_V call mc_5 rt 6 (L) (.int x :: st) w = if x < nI 0 then iv_V call mc_5 rt 10 (L) (st) w else iv_V call mc_5 rt 7 (L) (st) w := e5_6
theorem f5_7 : iv_V call mc_5 rt 7 (v0 :: v1 :: v2 :: .int x :: L) (st) w = iv_V call mc_5 rt 8 (v0 :: v1 :: v2 :: .int x :: L) (.int x :: st) w := e5_7
theorem f5_8 : iv_V call mc_5 rt 8 (L) (st) w = iv_V call mc_5 rt 9 (L) (.int (nI 4) :: st) w := e5_8
theorem f5_9 : iv_V call mc_5 rt 9 (L) (.int y :: .int x :: st) w = if x ≤ y then iv_V call mc_5 rt 12 (L) (st) w else iv_V call mc_5 rt 10 (L) (st) w := e5_9
theorem f5_10 : iv_V call mc_5 rt 10 (L) (st) w = iv_V call mc_5 rt 11 (L) (.int (-1) :: st) w := e5_10
theorem f5_11 : iv_V call mc_5 rt 11 (L) (st) w = iv_ret rt st w := e5_11
theorem f5_12 : iv_V call mc_5 rt 12 (v0 :: v1 :: v2 :: .int x :: L) (st) w = iv_V call mc_5 rt 13 (v0 :: v1 :: v2 :: .int x :: L) (.int x :: st) w := e5_12
theorem f5_13 : iv_V call mc_5 rt 13 (L) (st) w = iv_V call mc_5 rt 14 (L) (.int (nI 4) :: st) w := e5_13
theorem f5_14 : iv_V call mc_5 rt 14 (L) (.int y :: .int x :: st) w = if ¬ x = y then iv_V call mc_5 rt 22 (L) (st) w else iv_V call mc_5 rt 15 (L) (st) w := e5_14
theorem f5_15 : iv_V call mc_5 rt 15 (.ref a :: L) (st) w = iv_V call mc_5 rt 16 (.ref a :: L) (.ref a :: st) w := e5_15
theorem f5_16 : iv_V call mc_5 rt 16 (L) (st) w = iv_gf w st 0 1 (iv_kv call mc_5 rt 17 L w) := e5_16
theorem f5_17 : iv_V call mc_5 rt 17 (v0 :: v1 :: v2 :: v3 :: .int x :: L) (st) w = iv_V call mc_5 rt 18 (v0 :: v1 :: v2 :: v3 :: .int x :: L) (.int x :: st) w := e5_17
theorem f5_18 {a0 : Nat} {x1 : Int32} : iv_V call mc_5 rt 18 (L) (.int x1 :: .ref a0 :: []) w = iv_cr (iv_rc w [.ref a0, .int x1] 9) (iv_ct call mc_5 rt 19 L [] (call 98 [.ref a0, .int x1] w)) := e5_18
theorem f5_19 : iv_V call mc_5 rt 19 (L) (.int x :: st) w = if ¬ x = nI 0 then iv_V call mc_5 rt 22 (L) (st) w else iv_V call mc_5 rt 20 (L) (st) w := e5_19
theorem f5_20 : iv_V call mc_5 rt 20 (L) (st) w = iv_V call mc_5 rt 21 (L) (.int (-1) :: st) w := e5_20
theorem f5_21 : iv_V call mc_5 rt 21 (L) (st) w = iv_ret rt st w := e5_21
theorem f5_22 : iv_V call mc_5 rt 22 (v0 :: v1 :: v2 :: v3 :: v4 :: v5 :: .int x :: L) (st) w = iv_V call mc_5 rt 23 (v0 :: v1 :: v2 :: v3 :: v4 :: v5 :: .int x :: L) (.int x :: st) w := e5_22
theorem f5_23 : iv_V call mc_5 rt 23 (L) (st) w = iv_V call mc_5 rt 24 (L) (.int (nI 1) :: st) w := e5_23
theorem f5_24 : iv_V call mc_5 rt 24 (L) (.int y :: .int x :: st) w = if x < y then iv_V call mc_5 rt 28 (L) (st) w else iv_V call mc_5 rt 25 (L) (st) w := e5_24
theorem f5_25 : iv_V call mc_5 rt 25 (v0 :: v1 :: v2 :: v3 :: v4 :: v5 :: .int x :: L) (st) w = iv_V call mc_5 rt 26 (v0 :: v1 :: v2 :: v3 :: v4 :: v5 :: .int x :: L) (.int x :: st) w := e5_25
theorem f5_26 : iv_V call mc_5 rt 26 (L) (st) w = iv_V call mc_5 rt 27 (L) (.int (nI 63) :: st) w := e5_26
theorem f5_27 : iv_V call mc_5 rt 27 (L) (.int y :: .int x :: st) w = if x ≤ y then iv_V call mc_5 rt 30 (L) (st) w else iv_V call mc_5 rt 28 (L) (st) w := e5_27
theorem f5_28 : iv_V call mc_5 rt 28 (L) (st) w = iv_V call mc_5 rt 29 (L) (.int (-1) :: st) w := e5_28
theorem f5_29 : iv_V call mc_5 rt 29 (L) (st) w = iv_ret rt st w := e5_29
theorem f5_30 : iv_V call mc_5 rt 30 (v0 :: v1 :: v2 :: .int x :: L) (st) w = iv_V call mc_5 rt 31 (v0 :: v1 :: v2 :: .int x :: L) (.int x :: st) w := e5_30
theorem f5_31 : iv_V call mc_5 rt 31 (L) (st) w = iv_V call mc_5 rt 32 (L) (.int (nI 4) :: st) w := e5_31
theorem f5_32 : iv_V call mc_5 rt 32 (L) (.int y :: .int x :: st) w = if ¬ x = y then iv_V call mc_5 rt 39 (L) (st) w else iv_V call mc_5 rt 33 (L) (st) w := e5_32
theorem f5_33 : iv_V call mc_5 rt 33 (.ref a :: L) (st) w = iv_V call mc_5 rt 34 (.ref a :: L) (.ref a :: st) w := e5_33
theorem f5_34 : iv_V call mc_5 rt 34 (L) (st) w = iv_gf w st 0 1 (iv_kv call mc_5 rt 35 L w) := e5_34
theorem f5_35 : iv_V call mc_5 rt 35 (L) (st) w = iv_gf w st 9 2 (iv_kv call mc_5 rt 36 L w) := e5_35
theorem f5_36 : iv_V call mc_5 rt 36 (v0 :: v1 :: v2 :: v3 :: .int x :: L) (st) w = iv_V call mc_5 rt 37 (v0 :: v1 :: v2 :: v3 :: .int x :: L) (.int x :: st) w := e5_36
theorem f5_37 : iv_V call mc_5 rt 37 (L) (st) w = iv_ald w st iv_isA (iv_kv call mc_5 rt 38 L w) := e5_37
theorem f5_38 : iv_V call mc_5 rt 38 (L) (st) w = iv_V call mc_5 rt 45 (L) (st) w := e5_38
theorem f5_39 : iv_V call mc_5 rt 39 (.ref a :: L) (st) w = iv_V call mc_5 rt 40 (.ref a :: L) (.ref a :: st) w := e5_39
theorem f5_40 : iv_V call mc_5 rt 40 (L) (st) w = iv_gf w st 0 1 (iv_kv call mc_5 rt 41 L w) := e5_40
theorem f5_41 : iv_V call mc_5 rt 41 (v0 :: v1 :: v2 :: .int x :: L) (st) w = iv_V call mc_5 rt 42 (v0 :: v1 :: v2 :: .int x :: L) (.int x :: st) w := e5_41
theorem f5_42 : iv_V call mc_5 rt 42 (v0 :: v1 :: v2 :: v3 :: .int x :: L) (st) w = iv_V call mc_5 rt 43 (v0 :: v1 :: v2 :: v3 :: .int x :: L) (.int x :: st) w := e5_42
theorem f5_43 : iv_V call mc_5 rt 43 (v0 :: v1 :: v2 :: v3 :: v4 :: .int x :: L) (st) w = iv_V call mc_5 rt 44 (v0 :: v1 :: v2 :: v3 :: v4 :: .int x :: L) (.int x :: st) w := e5_43
theorem f5_44 {a0 : Nat} {x1 : Int32} {x2 : Int32} {x3 : Int32} : iv_V call mc_5 rt 44 (L) (.int x3 :: .int x2 :: .int x1 :: .ref a0 :: []) w = iv_cr (iv_rc w [.ref a0, .int x1, .int x2, .int x3] 9) (iv_ct call mc_5 rt 45 L [] (call 99 [.ref a0, .int x1, .int x2, .int x3] w)) := e5_44
theorem f5_45 : iv_V call mc_5 rt 45 (v0 :: v1 :: v2 :: v3 :: v4 :: v5 :: v6 :: u :: L) (.ref a :: st) w = iv_V call mc_5 rt 46 (v0 :: v1 :: v2 :: v3 :: v4 :: v5 :: v6 :: .ref a :: L) (st) w := e5_45
theorem f5_46 : iv_V call mc_5 rt 46 (.ref a :: L) (st) w = iv_V call mc_5 rt 47 (.ref a :: L) (.ref a :: st) w := e5_46
theorem f5_47 : iv_V call mc_5 rt 47 (L) (st) w = iv_gf w st 0 1 (iv_kv call mc_5 rt 48 L w) := e5_47
theorem f5_48 : iv_V call mc_5 rt 48 (v0 :: .int x :: L) (st) w = iv_V call mc_5 rt 49 (v0 :: .int x :: L) (.int x :: st) w := e5_48
theorem f5_49 : iv_V call mc_5 rt 49 (v0 :: v1 :: .int x :: L) (st) w = iv_V call mc_5 rt 50 (v0 :: v1 :: .int x :: L) (.int x :: st) w := e5_49
theorem f5_50 : iv_V call mc_5 rt 50 (v0 :: v1 :: v2 :: v3 :: v4 :: v5 :: v6 :: .ref a :: L) (st) w = iv_V call mc_5 rt 51 (v0 :: v1 :: v2 :: v3 :: v4 :: v5 :: v6 :: .ref a :: L) (.ref a :: st) w := e5_50
theorem f5_51 : iv_V call mc_5 rt 51 (v0 :: v1 :: v2 :: v3 :: v4 :: v5 :: .int x :: L) (st) w = iv_V call mc_5 rt 52 (v0 :: v1 :: v2 :: v3 :: v4 :: v5 :: .int x :: L) (.int x :: st) w := e5_51
theorem f5_52 {a0 : Nat} {x1 : Int32} {x2 : Int32} {a3 : Nat} {x4 : Int32} : iv_V call mc_5 rt 52 (L) (.int x4 :: .ref a3 :: .int x2 :: .int x1 :: .ref a0 :: []) w = iv_cr (iv_rc w [.ref a0, .int x1, .int x2, .ref a3, .int x4] 9) (iv_ct call mc_5 rt 53 L [] (call 100 [.ref a0, .int x1, .int x2, .ref a3, .int x4] w)) := e5_52
theorem f5_53 : iv_V call mc_5 rt 53 (L) (st) w = iv_ret rt st w := e5_53
theorem f6_0 : iv_V call mc_6 rt 0 (.ref a :: L) (st) w = iv_V call mc_6 rt 1 (.ref a :: L) (.ref a :: st) w := e6_0
theorem f6_1 : iv_V call mc_6 rt 1 (L) (st) w = iv_gf w st 0 1 (iv_kv call mc_6 rt 2 L w) := e6_1
theorem f6_2 : iv_V call mc_6 rt 2 (v0 :: .int x :: L) (st) w = iv_V call mc_6 rt 3 (v0 :: .int x :: L) (.int x :: st) w := e6_2
theorem f6_3 {a0 : Nat} {x1 : Int32} : iv_V call mc_6 rt 3 (L) (.int x1 :: .ref a0 :: []) w = iv_cr (iv_rc w [.ref a0, .int x1] 9) (iv_ct call mc_6 rt 4 L [] (call 98 [.ref a0, .int x1] w)) := e6_3
theorem f6_4 : iv_V call mc_6 rt 4 (L) (.int x :: st) w = if x = nI 0 then iv_V call mc_6 rt 10 (L) (st) w else iv_V call mc_6 rt 5 (L) (st) w := e6_4
theorem f6_5 : iv_V call mc_6 rt 5 (v0 :: v1 :: .int x :: L) (st) w = iv_V call mc_6 rt 6 (v0 :: v1 :: .int x :: L) (.int x :: st) w := e6_5
theorem f6_6 : iv_V call mc_6 rt 6 (L) (.int x :: st) w = if x < nI 0 then iv_V call mc_6 rt 10 (L) (st) w else iv_V call mc_6 rt 7 (L) (st) w := e6_6
theorem f6_7 : iv_V call mc_6 rt 7 (v0 :: v1 :: .int x :: L) (st) w = iv_V call mc_6 rt 8 (v0 :: v1 :: .int x :: L) (.int x :: st) w := e6_7
theorem f6_8 : iv_V call mc_6 rt 8 (L) (st) w = iv_V call mc_6 rt 9 (L) (.int (nI 3) :: st) w := e6_8
theorem f6_9 : iv_V call mc_6 rt 9 (L) (.int y :: .int x :: st) w = if x ≤ y then iv_V call mc_6 rt 12 (L) (st) w else iv_V call mc_6 rt 10 (L) (st) w := e6_9
theorem f6_10 : iv_V call mc_6 rt 10 (L) (st) w = iv_V call mc_6 rt 11 (L) (.int (nI 0) :: st) w := e6_10
theorem f6_11 : iv_V call mc_6 rt 11 (L) (st) w = iv_ret rt st w := e6_11
theorem f6_12 : iv_V call mc_6 rt 12 (.ref a :: L) (st) w = iv_V call mc_6 rt 13 (.ref a :: L) (.ref a :: st) w := e6_12
theorem f6_13 : iv_V call mc_6 rt 13 (L) (st) w = iv_gf w st 0 1 (iv_kv call mc_6 rt 14 L w) := e6_13
theorem f6_14 : iv_V call mc_6 rt 14 (L) (st) w = iv_gf w st 9 2 (iv_kv call mc_6 rt 15 L w) := e6_14
theorem f6_15 : iv_V call mc_6 rt 15 (v0 :: .int x :: L) (st) w = iv_V call mc_6 rt 16 (v0 :: .int x :: L) (.int x :: st) w := e6_15
theorem f6_16 : iv_V call mc_6 rt 16 (L) (st) w = iv_ald w st iv_isA (iv_kv call mc_6 rt 17 L w) := e6_16
theorem f6_17 : iv_V call mc_6 rt 17 (v0 :: v1 :: .int x :: L) (st) w = iv_V call mc_6 rt 18 (v0 :: v1 :: .int x :: L) (.int x :: st) w := e6_17
theorem f6_18 : iv_V call mc_6 rt 18 (v0 :: v1 :: v2 :: .int x :: L) (st) w = iv_V call mc_6 rt 19 (v0 :: v1 :: v2 :: .int x :: L) (.int x :: st) w := e6_18
theorem f6_19 : iv_V call mc_6 rt 19 (v0 :: v1 :: v2 :: v3 :: .int x :: L) (st) w = iv_V call mc_6 rt 20 (v0 :: v1 :: v2 :: v3 :: .int x :: L) (.int x :: st) w := e6_19
theorem f6_20 {a0 : Nat} {x1 : Int32} {x2 : Int32} {x3 : Int32} : iv_V call mc_6 rt 20 (L) (.int x3 :: .int x2 :: .int x1 :: .ref a0 :: []) w = iv_cr (iv_rc w [.ref a0, .int x1, .int x2, .int x3] 3) (iv_ct call mc_6 rt 21 L [] (call 76 [.ref a0, .int x1, .int x2, .int x3] w)) := e6_20
theorem f6_21 : iv_V call mc_6 rt 21 (L) (st) w = iv_ret rt st w := e6_21
theorem f7_0 : iv_V call mc_7 rt 0 (.ref a :: L) (st) w = iv_V call mc_7 rt 1 (.ref a :: L) (.ref a :: st) w := e7_0
theorem f7_1 : iv_V call mc_7 rt 1 (L) (st) w = iv_gf w st 0 1 (iv_kv call mc_7 rt 2 L w) := e7_1
theorem f7_2 : iv_V call mc_7 rt 2 (v0 :: .int x :: L) (st) w = iv_V call mc_7 rt 3 (v0 :: .int x :: L) (.int x :: st) w := e7_2
theorem f7_3 {a0 : Nat} {x1 : Int32} : iv_V call mc_7 rt 3 (L) (.int x1 :: .ref a0 :: []) w = iv_cr (iv_rc w [.ref a0, .int x1] 9) (iv_ct call mc_7 rt 4 L [] (call 98 [.ref a0, .int x1] w)) := e7_3
theorem f7_4 : iv_V call mc_7 rt 4 (L) (.int x :: st) w = if ¬ x = nI 0 then iv_V call mc_7 rt 7 (L) (st) w else iv_V call mc_7 rt 5 (L) (st) w := e7_4
theorem f7_5 : iv_V call mc_7 rt 5 (L) (st) w = iv_V call mc_7 rt 6 (L) (.int (nI 0) :: st) w := e7_5
theorem f7_6 : iv_V call mc_7 rt 6 (L) (st) w = iv_ret rt st w := e7_6
theorem f7_7 : iv_V call mc_7 rt 7 (.ref a :: L) (st) w = iv_V call mc_7 rt 8 (.ref a :: L) (.ref a :: st) w := e7_7
theorem f7_8 : iv_V call mc_7 rt 8 (L) (st) w = iv_gf w st 0 1 (iv_kv call mc_7 rt 9 L w) := e7_8
theorem f7_9 : iv_V call mc_7 rt 9 (L) (st) w = iv_gf w st 9 2 (iv_kv call mc_7 rt 10 L w) := e7_9
theorem f7_10 : iv_V call mc_7 rt 10 (v0 :: .int x :: L) (st) w = iv_V call mc_7 rt 11 (v0 :: .int x :: L) (.int x :: st) w := e7_10
theorem f7_11 : iv_V call mc_7 rt 11 (L) (st) w = iv_ald w st iv_isA (iv_kv call mc_7 rt 12 L w) := e7_11
theorem f7_12 : iv_V call mc_7 rt 12 (v0 :: v1 :: .int x :: L) (st) w = iv_V call mc_7 rt 13 (v0 :: v1 :: .int x :: L) (.int x :: st) w := e7_12
theorem f7_13 : iv_V call mc_7 rt 13 (L) (st) w = iv_pf w st 3 2 (iv_kw call mc_7 rt 14 L) := e7_13
theorem f7_14 : iv_V call mc_7 rt 14 (L) (st) w = iv_V call mc_7 rt 15 (L) (.int (nI 1) :: st) w := e7_14
theorem f7_15 : iv_V call mc_7 rt 15 (L) (st) w = iv_ret rt st w := e7_15
theorem f8_0 : iv_V call mc_8 rt 0 (.ref a :: L) (st) w = iv_V call mc_8 rt 1 (.ref a :: L) (.ref a :: st) w := e8_0
theorem f8_1 : iv_V call mc_8 rt 1 (L) (st) w = iv_gf w st 0 2 (iv_kv call mc_8 rt 2 L w) := e8_1
theorem f8_2 : iv_V call mc_8 rt 2 (v0 :: .int x :: L) (st) w = iv_V call mc_8 rt 3 (v0 :: .int x :: L) (.int x :: st) w := e8_2
theorem f8_3 {a0 : Nat} {x1 : Int32} : iv_V call mc_8 rt 3 (L) (.int x1 :: .ref a0 :: []) w = iv_cr (iv_rc w [.ref a0, .int x1] 5) (iv_ct call mc_8 rt 4 L [] (call 82 [.ref a0, .int x1] w)) := e8_3
theorem f8_4 : iv_V call mc_8 rt 4 (L) (.int x :: st) w = if x = nI 0 then iv_V call mc_8 rt 16 (L) (st) w else iv_V call mc_8 rt 5 (L) (st) w := e8_4
theorem f8_5 : iv_V call mc_8 rt 5 (.ref a :: L) (st) w = iv_V call mc_8 rt 6 (.ref a :: L) (.ref a :: st) w := e8_5
theorem f8_6 : iv_V call mc_8 rt 6 (L) (st) w = iv_gf w st 0 2 (iv_kv call mc_8 rt 7 L w) := e8_6
theorem f8_7 : iv_V call mc_8 rt 7 (v0 :: v1 :: .int x :: L) (st) w = iv_V call mc_8 rt 8 (v0 :: v1 :: .int x :: L) (.int x :: st) w := e8_7
theorem f8_8 {a0 : Nat} {x1 : Int32} : iv_V call mc_8 rt 8 (L) (.int x1 :: .ref a0 :: []) w = iv_cr (iv_rc w [.ref a0, .int x1] 5) (iv_ct call mc_8 rt 9 L [] (call 82 [.ref a0, .int x1] w)) := e8_8
theorem f8_9 : iv_V call mc_8 rt 9 (L) (.int x :: st) w = if x = nI 0 then iv_V call mc_8 rt 16 (L) (st) w else iv_V call mc_8 rt 10 (L) (st) w := e8_9
theorem f8_10 : iv_V call mc_8 rt 10 (.ref a :: L) (st) w = iv_V call mc_8 rt 11 (.ref a :: L) (.ref a :: st) w := e8_10
theorem f8_11 : iv_V call mc_8 rt 11 (L) (st) w = iv_gf w st 0 2 (iv_kv call mc_8 rt 12 L w) := e8_11
theorem f8_12 : iv_V call mc_8 rt 12 (v0 :: v1 :: .int x :: L) (st) w = iv_V call mc_8 rt 13 (v0 :: v1 :: .int x :: L) (.int x :: st) w := e8_12
theorem f8_13 : iv_V call mc_8 rt 13 (v0 :: .int x :: L) (st) w = iv_V call mc_8 rt 14 (v0 :: .int x :: L) (.int x :: st) w := e8_13
theorem f8_14 {a0 : Nat} {x1 : Int32} {x2 : Int32} : iv_V call mc_8 rt 14 (L) (.int x2 :: .int x1 :: .ref a0 :: []) w = iv_cr (iv_rc w [.ref a0, .int x1, .int x2] 5) (iv_ct call mc_8 rt 15 L [] (call 84 [.ref a0, .int x1, .int x2] w)) := e8_14
theorem f8_15 : iv_V call mc_8 rt 15 (L) (.int x :: st) w = if x = nI 0 then iv_V call mc_8 rt 18 (L) (st) w else iv_V call mc_8 rt 16 (L) (st) w := e8_15
theorem f8_16 : iv_V call mc_8 rt 16 (L) (st) w = iv_V call mc_8 rt 17 (L) (.int (nI 0) :: st) w := e8_16
theorem f8_17 : iv_V call mc_8 rt 17 (L) (st) w = iv_ret rt st w := e8_17
theorem f8_18 : iv_V call mc_8 rt 18 (.ref a :: L) (st) w = iv_V call mc_8 rt 19 (.ref a :: L) (.ref a :: st) w := e8_18
theorem f8_19 : iv_V call mc_8 rt 19 (L) (st) w = iv_gf w st 0 2 (iv_kv call mc_8 rt 20 L w) := e8_19
theorem f8_20 : iv_V call mc_8 rt 20 (v0 :: .int x :: L) (st) w = iv_V call mc_8 rt 21 (v0 :: .int x :: L) (.int x :: st) w := e8_20
theorem f8_21 : iv_V call mc_8 rt 21 (v0 :: v1 :: .int x :: L) (st) w = iv_V call mc_8 rt 22 (v0 :: v1 :: .int x :: L) (.int x :: st) w := e8_21
theorem f8_22 {a0 : Nat} {x1 : Int32} {x2 : Int32} : iv_V call mc_8 rt 22 (L) (.int x2 :: .int x1 :: .ref a0 :: []) w = iv_cr (iv_rc w [.ref a0, .int x1, .int x2] 5) (iv_ct call mc_8 rt 23 L [] (call 85 [.ref a0, .int x1, .int x2] w)) := e8_22
theorem f8_23 : iv_V call mc_8 rt 23 (L) (st) w = iv_V call mc_8 rt 24 (L) (.int (nI 1) :: st) w := e8_23
theorem f8_24 : iv_V call mc_8 rt 24 (L) (st) w = iv_ret rt st w := e8_24
theorem f9_0 : iv_V call mc_9 rt 0 (.ref a :: L) (st) w = iv_V call mc_9 rt 1 (.ref a :: L) (.ref a :: st) w := e9_0
theorem f9_1 : iv_V call mc_9 rt 1 (L) (st) w = iv_gf w st 0 2 (iv_kv call mc_9 rt 2 L w) := e9_1
theorem f9_2 : iv_V call mc_9 rt 2 (v0 :: .int x :: L) (st) w = iv_V call mc_9 rt 3 (v0 :: .int x :: L) (.int x :: st) w := e9_2
theorem f9_3 {a0 : Nat} {x1 : Int32} : iv_V call mc_9 rt 3 (L) (.int x1 :: .ref a0 :: []) w = iv_cr (iv_rc w [.ref a0, .int x1] 5) (iv_ct call mc_9 rt 4 L [] (call 83 [.ref a0, .int x1] w)) := e9_3
theorem f9_4 : iv_V call mc_9 rt 4 (L) (.int x :: st) w = if x = nI 0 then iv_V call mc_9 rt 15 (L) (st) w else iv_V call mc_9 rt 5 (L) (st) w := e9_4
theorem f9_5 : iv_V call mc_9 rt 5 (.ref a :: L) (st) w = iv_V call mc_9 rt 6 (.ref a :: L) (.ref a :: st) w := e9_5
theorem f9_6 : iv_V call mc_9 rt 6 (L) (st) w = iv_gf w st 0 2 (iv_kv call mc_9 rt 7 L w) := e9_6
theorem f9_7 : iv_V call mc_9 rt 7 (v0 :: v1 :: .int x :: L) (st) w = iv_V call mc_9 rt 8 (v0 :: v1 :: .int x :: L) (.int x :: st) w := e9_7
theorem f9_8 {a0 : Nat} {x1 : Int32} : iv_V call mc_9 rt 8 (L) (.int x1 :: .ref a0 :: []) w = iv_cr (iv_rc w [.ref a0, .int x1] 5) (iv_ct call mc_9 rt 9 L [] (call 82 [.ref a0, .int x1] w)) := e9_8
theorem f9_9 : iv_V call mc_9 rt 9 (L) (.int x :: st) w = if ¬ x = nI 0 then iv_V call mc_9 rt 17 (L) (st) w else iv_V call mc_9 rt 10 (L) (st) w := e9_9
theorem f9_10 : iv_V call mc_9 rt 10 (.ref a :: L) (st) w = iv_V call mc_9 rt 11 (.ref a :: L) (.ref a :: st) w := e9_10
theorem f9_11 : iv_V call mc_9 rt 11 (L) (st) w = iv_gf w st 0 2 (iv_kv call mc_9 rt 12 L w) := e9_11
theorem f9_12 : iv_V call mc_9 rt 12 (v0 :: v1 :: .int x :: L) (st) w = iv_V call mc_9 rt 13 (v0 :: v1 :: .int x :: L) (.int x :: st) w := e9_12
theorem f9_13 {a0 : Nat} {x1 : Int32} : iv_V call mc_9 rt 13 (L) (.int x1 :: .ref a0 :: []) w = iv_cr (iv_rc w [.ref a0, .int x1] 5) (iv_ct call mc_9 rt 14 L [] (call 83 [.ref a0, .int x1] w)) := e9_13
theorem f9_14 : iv_V call mc_9 rt 14 (L) (.int x :: st) w = if ¬ x = nI 0 then iv_V call mc_9 rt 17 (L) (st) w else iv_V call mc_9 rt 15 (L) (st) w := e9_14
theorem f9_15 : iv_V call mc_9 rt 15 (L) (st) w = iv_V call mc_9 rt 16 (L) (.int (nI 0) :: st) w := e9_15
theorem f9_16 : iv_V call mc_9 rt 16 (L) (st) w = iv_ret rt st w := e9_16
theorem f9_17 : iv_V call mc_9 rt 17 (.ref a :: L) (st) w = iv_V call mc_9 rt 18 (.ref a :: L) (.ref a :: st) w := e9_17
theorem f9_18 : iv_V call mc_9 rt 18 (L) (st) w = iv_gf w st 0 2 (iv_kv call mc_9 rt 19 L w) := e9_18
theorem f9_19 : iv_V call mc_9 rt 19 (L) (st) w = iv_gf w st 5 1 (iv_kv call mc_9 rt 20 L w) := e9_19
theorem f9_20 : iv_V call mc_9 rt 20 (v0 :: .int x :: L) (st) w = iv_V call mc_9 rt 21 (v0 :: .int x :: L) (.int x :: st) w := e9_20
theorem f9_21 : iv_V call mc_9 rt 21 (L) (st) w = iv_V call mc_9 rt 22 (L) (.int (nI 6) :: st) w := e9_21
theorem f9_22 : iv_V call mc_9 rt 22 (L) (.int y :: .int x :: st) w = iv_V call mc_9 rt 23 (L) (.int (x - y) :: st) w := e9_22
theorem f9_23 : iv_V call mc_9 rt 23 (L) (st) w = iv_ald w st iv_isA (iv_kv call mc_9 rt 24 L w) := e9_23
theorem f9_24 : iv_V call mc_9 rt 24 (v0 :: v1 :: .int x :: L) (st) w = iv_V call mc_9 rt 25 (v0 :: v1 :: .int x :: L) (.int x :: st) w := e9_24
theorem f9_25 {a0 : Nat} {x1 : Int32} : iv_V call mc_9 rt 25 (L) (.int x1 :: .ref a0 :: []) w = iv_cr (iv_rc w [.ref a0, .int x1] 7) (iv_ct call mc_9 rt 26 L [] (call 95 [.ref a0, .int x1] w)) := e9_25
theorem f9_26 : iv_V call mc_9 rt 26 (L) (st) w = iv_ret rt st w := e9_26
theorem f10_0 : iv_V call mc_10 rt 0 (.ref a :: L) (st) w = iv_V call mc_10 rt 1 (.ref a :: L) (.ref a :: st) w := e10_0
theorem f10_1 : iv_V call mc_10 rt 1 (L) (st) w = iv_gf w st 0 0 (iv_kv call mc_10 rt 2 L w) := e10_1
theorem f10_2 : iv_V call mc_10 rt 2 (v0 :: .int x :: L) (st) w = iv_V call mc_10 rt 3 (v0 :: .int x :: L) (.int x :: st) w := e10_2
theorem f10_3 {a0 : Nat} {x1 : Int32} : iv_V call mc_10 rt 3 (L) (.int x1 :: .ref a0 :: []) w = iv_cr (iv_rc w [.ref a0, .int x1] 10) (iv_ct call mc_10 rt 4 L [] (call 102 [.ref a0, .int x1] w)) := e10_3
theorem f10_4 : iv_V call mc_10 rt 4 (L) (.int x :: st) w = if x = nI 0 then iv_V call mc_10 rt 13 (L) (st) w else iv_V call mc_10 rt 5 (L) (st) w := e10_4
theorem f10_5 : iv_V call mc_10 rt 5 (v0 :: v1 :: .int x :: L) (st) w = iv_V call mc_10 rt 6 (v0 :: v1 :: .int x :: L) (.int x :: st) w := e10_5
theorem f10_6 : iv_V call mc_10 rt 6 (L) (st) w = iv_V call mc_10 rt 7 (L) (.int (-1) :: st) w := e10_6
theorem f10_7 : iv_V call mc_10 rt 7 (L) (.int y :: .int x :: st) w = if x = y then iv_V call mc_10 rt 15 (L) (st) w else iv_V call mc_10 rt 8 (L) (st) w := e10_7
theorem f10_8 : iv_V call mc_10 rt 8 (.ref a :: L) (st) w = iv_V call mc_10 rt 9 (.ref a :: L) (.ref a :: st) w := e10_8
theorem f10_9 : iv_V call mc_10 rt 9 (L) (st) w = iv_gf w st 0 2 (iv_kv call mc_10 rt 10 L w) := e10_9
theorem f10_10 : iv_V call mc_10 rt 10 (v0 :: v1 :: .int x :: L) (st) w = iv_V call mc_10 rt 11 (v0 :: v1 :: .int x :: L) (.int x :: st) w := e10_10
theorem f10_11 {a0 : Nat} {x1 : Int32} : iv_V call mc_10 rt 11 (L) (.int x1 :: .ref a0 :: []) w = iv_cr (iv_rc w [.ref a0, .int x1] 5) (iv_ct call mc_10 rt 12 L [] (call 82 [.ref a0, .int x1] w)) := e10_11
theorem f10_12 : iv_V call mc_10 rt 12 (L) (.int x :: st) w = if ¬ x = nI 0 then iv_V call mc_10 rt 15 (L) (st) w else iv_V call mc_10 rt 13 (L) (st) w := e10_12
theorem f10_13 : iv_V call mc_10 rt 13 (L) (st) w = iv_V call mc_10 rt 14 (L) (.int (nI 0) :: st) w := e10_13
theorem f10_14 : iv_V call mc_10 rt 14 (L) (st) w = iv_ret rt st w := e10_14
theorem f10_15 : iv_V call mc_10 rt 15 (.ref a :: L) (st) w = iv_V call mc_10 rt 16 (.ref a :: L) (.ref a :: st) w := e10_15
theorem f10_16 : iv_V call mc_10 rt 16 (L) (st) w = iv_gf w st 0 0 (iv_kv call mc_10 rt 17 L w) := e10_16
theorem f10_17 : iv_V call mc_10 rt 17 (L) (st) w = iv_gf w st 10 2 (iv_kv call mc_10 rt 18 L w) := e10_17
theorem f10_18 : iv_V call mc_10 rt 18 (v0 :: .int x :: L) (st) w = iv_V call mc_10 rt 19 (v0 :: .int x :: L) (.int x :: st) w := e10_18
theorem f10_19 : iv_V call mc_10 rt 19 (L) (st) w = iv_ald w st iv_isA (iv_kv call mc_10 rt 20 L w) := e10_19
theorem f10_20 : iv_V call mc_10 rt 20 (v0 :: v1 :: .int x :: L) (st) w = iv_V call mc_10 rt 21 (v0 :: v1 :: .int x :: L) (.int x :: st) w := e10_20
theorem f10_21 {a0 : Nat} {x1 : Int32} : iv_V call mc_10 rt 21 (L) (.int x1 :: .ref a0 :: []) w = iv_cr (iv_rc w [.ref a0, .int x1] 7) (iv_ct call mc_10 rt 22 L [] (call 95 [.ref a0, .int x1] w)) := e10_21
theorem f10_22 : iv_V call mc_10 rt 22 (L) (st) w = iv_ret rt st w := e10_22
theorem f11_0 : iv_V call mc_11 rt 0 (.ref a :: L) (st) w = iv_V call mc_11 rt 1 (.ref a :: L) (.ref a :: st) w := e11_0
theorem f11_1 : iv_V call mc_11 rt 1 (L) (st) w = iv_gf w st 0 0 (iv_kv call mc_11 rt 2 L w) := e11_1
theorem f11_2 : iv_V call mc_11 rt 2 (v0 :: .int x :: L) (st) w = iv_V call mc_11 rt 3 (v0 :: .int x :: L) (.int x :: st) w := e11_2
theorem f11_3 {a0 : Nat} {x1 : Int32} : iv_V call mc_11 rt 3 (L) (.int x1 :: .ref a0 :: []) w = iv_cr (iv_rc w [.ref a0, .int x1] 10) (iv_ct call mc_11 rt 4 L [] (call 103 [.ref a0, .int x1] w)) := e11_3
theorem f11_4 : iv_V call mc_11 rt 4 (L) (.int x :: st) w = if x = nI 0 then iv_V call mc_11 rt 10 (L) (st) w else iv_V call mc_11 rt 5 (L) (st) w := e11_4
theorem f11_5 : iv_V call mc_11 rt 5 (.ref a :: L) (st) w = iv_V call mc_11 rt 6 (.ref a :: L) (.ref a :: st) w := e11_5
theorem f11_6 : iv_V call mc_11 rt 6 (L) (st) w = iv_gf w st 0 0 (iv_kv call mc_11 rt 7 L w) := e11_6
theorem f11_7 : iv_V call mc_11 rt 7 (v0 :: .int x :: L) (st) w = iv_V call mc_11 rt 8 (v0 :: .int x :: L) (.int x :: st) w := e11_7
theorem f11_8 {a0 : Nat} {x1 : Int32} : iv_V call mc_11 rt 8 (L) (.int x1 :: .ref a0 :: []) w = iv_cr (iv_rc w [.ref a0, .int x1] 10) (iv_ct call mc_11 rt 9 L [] (call 105 [.ref a0, .int x1] w)) := e11_8
theorem f11_9 : iv_V call mc_11 rt 9 (L) (.int x :: st) w = if ¬ x = nI 0 then iv_V call mc_11 rt 12 (L) (st) w else iv_V call mc_11 rt 10 (L) (st) w := e11_9
theorem f11_10 : iv_V call mc_11 rt 10 (L) (st) w = iv_V call mc_11 rt 11 (L) (.int (nI 0) :: st) w := e11_10
theorem f11_11 : iv_V call mc_11 rt 11 (L) (st) w = iv_ret rt st w := e11_11
theorem f11_12 : iv_V call mc_11 rt 12 (.ref a :: L) (st) w = iv_V call mc_11 rt 13 (.ref a :: L) (.ref a :: st) w := e11_12
theorem f11_13 : iv_V call mc_11 rt 13 (L) (st) w = iv_gf w st 0 0 (iv_kv call mc_11 rt 14 L w) := e11_13
theorem f11_14 : iv_V call mc_11 rt 14 (L) (st) w = iv_gf w st 10 6 (iv_kv call mc_11 rt 15 L w) := e11_14
theorem f11_15 : iv_V call mc_11 rt 15 (v0 :: .int x :: L) (st) w = iv_V call mc_11 rt 16 (v0 :: .int x :: L) (.int x :: st) w := e11_15
theorem f11_16 : iv_V call mc_11 rt 16 (L) (st) w = iv_V call mc_11 rt 17 (L) (.int (nI 1) :: st) w := e11_16
theorem f11_17 : iv_V call mc_11 rt 17 (L) (st) w = iv_ast w st iv_isZ (iv_kw call mc_11 rt 18 L) := e11_17
theorem f11_18 : iv_V call mc_11 rt 18 (L) (st) w = iv_V call mc_11 rt 19 (L) (.int (nI 1) :: st) w := e11_18
theorem f11_19 : iv_V call mc_11 rt 19 (L) (st) w = iv_ret rt st w := e11_19
theorem f12_0 : iv_V call mc_12 rt 0 (.ref a :: L) (st) w = iv_V call mc_12 rt 1 (.ref a :: L) (.ref a :: st) w := e12_0
theorem f12_1 : iv_V call mc_12 rt 1 (L) (st) w = iv_gf w st 0 0 (iv_kv call mc_12 rt 2 L w) := e12_1
theorem f12_2 : iv_V call mc_12 rt 2 (v0 :: .int x :: L) (st) w = iv_V call mc_12 rt 3 (v0 :: .int x :: L) (.int x :: st) w := e12_2
theorem f12_3 {a0 : Nat} {x1 : Int32} : iv_V call mc_12 rt 3 (L) (.int x1 :: .ref a0 :: []) w = iv_cr (iv_rc w [.ref a0, .int x1] 10) (iv_ct call mc_12 rt 4 L [] (call 103 [.ref a0, .int x1] w)) := e12_3
theorem f12_4 : iv_V call mc_12 rt 4 (L) (.int x :: st) w = if x = nI 0 then iv_V call mc_12 rt 15 (L) (st) w else iv_V call mc_12 rt 5 (L) (st) w := e12_4
theorem f12_5 : iv_V call mc_12 rt 5 (.ref a :: L) (st) w = iv_V call mc_12 rt 6 (.ref a :: L) (.ref a :: st) w := e12_5
theorem f12_6 : iv_V call mc_12 rt 6 (L) (st) w = iv_gf w st 0 2 (iv_kv call mc_12 rt 7 L w) := e12_6
theorem f12_7 : iv_V call mc_12 rt 7 (v0 :: v1 :: .int x :: L) (st) w = iv_V call mc_12 rt 8 (v0 :: v1 :: .int x :: L) (.int x :: st) w := e12_7
theorem f12_8 {a0 : Nat} {x1 : Int32} : iv_V call mc_12 rt 8 (L) (.int x1 :: .ref a0 :: []) w = iv_cr (iv_rc w [.ref a0, .int x1] 5) (iv_ct call mc_12 rt 9 L [] (call 82 [.ref a0, .int x1] w)) := e12_8
theorem f12_9 : iv_V call mc_12 rt 9 (L) (.int x :: st) w = if x = nI 0 then iv_V call mc_12 rt 15 (L) (st) w else iv_V call mc_12 rt 10 (L) (st) w := e12_9
theorem f12_10 : iv_V call mc_12 rt 10 (.ref a :: L) (st) w = iv_V call mc_12 rt 11 (.ref a :: L) (.ref a :: st) w := e12_10
theorem f12_11 : iv_V call mc_12 rt 11 (L) (st) w = iv_gf w st 0 2 (iv_kv call mc_12 rt 12 L w) := e12_11
theorem f12_12 : iv_V call mc_12 rt 12 (v0 :: v1 :: v2 :: .int x :: L) (st) w = iv_V call mc_12 rt 13 (v0 :: v1 :: v2 :: .int x :: L) (.int x :: st) w := e12_12
theorem f12_13 {a0 : Nat} {x1 : Int32} : iv_V call mc_12 rt 13 (L) (.int x1 :: .ref a0 :: []) w = iv_cr (iv_rc w [.ref a0, .int x1] 5) (iv_ct call mc_12 rt 14 L [] (call 82 [.ref a0, .int x1] w)) := e12_13
theorem f12_14 : iv_V call mc_12 rt 14 (L) (.int x :: st) w = if ¬ x = nI 0 then iv_V call mc_12 rt 17 (L) (st) w else iv_V call mc_12 rt 15 (L) (st) w := e12_14
theorem f12_15 : iv_V call mc_12 rt 15 (L) (st) w = iv_V call mc_12 rt 16 (L) (.int (nI 0) :: st) w := e12_15
theorem f12_16 : iv_V call mc_12 rt 16 (L) (st) w = iv_ret rt st w := e12_16
theorem f12_17 : iv_V call mc_12 rt 17 (.ref a :: L) (st) w = iv_V call mc_12 rt 18 (.ref a :: L) (.ref a :: st) w := e12_17
theorem f12_18 : iv_V call mc_12 rt 18 (L) (st) w = iv_gf w st 0 0 (iv_kv call mc_12 rt 19 L w) := e12_18
theorem f12_19 : iv_V call mc_12 rt 19 (L) (st) w = iv_gf w st 10 7 (iv_kv call mc_12 rt 20 L w) := e12_19
theorem f12_20 : iv_V call mc_12 rt 20 (v0 :: .int x :: L) (st) w = iv_V call mc_12 rt 21 (v0 :: .int x :: L) (.int x :: st) w := e12_20
theorem f12_21 : iv_V call mc_12 rt 21 (L) (st) w = iv_ald w st iv_isA (iv_kv call mc_12 rt 22 L w) := e12_21
theorem f12_22 : iv_V call mc_12 rt 22 (v0 :: v1 :: .int x :: L) (st) w = iv_V call mc_12 rt 23 (v0 :: v1 :: .int x :: L) (.int x :: st) w := e12_22
theorem f12_23 : iv_V call mc_12 rt 23 (v0 :: v1 :: v2 :: .int x :: L) (st) w = iv_V call mc_12 rt 24 (v0 :: v1 :: v2 :: .int x :: L) (.int x :: st) w := e12_23
theorem f12_24 : iv_V call mc_12 rt 24 (L) (st) w = iv_ast w st iv_isI (iv_kw call mc_12 rt 25 L) := e12_24
theorem f12_25 : iv_V call mc_12 rt 25 (L) (st) w = iv_V call mc_12 rt 26 (L) (.int (nI 1) :: st) w := e12_25
theorem f12_26 : iv_V call mc_12 rt 26 (L) (st) w = iv_ret rt st w := e12_26
theorem f13_0 : iv_V call mc_13 rt 0 (.ref a :: L) (st) w = iv_V call mc_13 rt 1 (.ref a :: L) (.ref a :: st) w := e13_0
theorem f13_1 : iv_V call mc_13 rt 1 (L) (st) w = iv_gf w st 0 0 (iv_kv call mc_13 rt 2 L w) := e13_1
theorem f13_2 : iv_V call mc_13 rt 2 (v0 :: .int x :: L) (st) w = iv_V call mc_13 rt 3 (v0 :: .int x :: L) (.int x :: st) w := e13_2
theorem f13_3 {a0 : Nat} {x1 : Int32} : iv_V call mc_13 rt 3 (L) (.int x1 :: .ref a0 :: []) w = iv_cr (iv_rc w [.ref a0, .int x1] 10) (iv_ct call mc_13 rt 4 L [] (call 102 [.ref a0, .int x1] w)) := e13_3
theorem f13_4 : iv_V call mc_13 rt 4 (L) (.int x :: st) w = if ¬ x = nI 0 then iv_V call mc_13 rt 7 (L) (st) w else iv_V call mc_13 rt 5 (L) (st) w := e13_4
theorem f13_5 : iv_V call mc_13 rt 5 (L) (st) w = iv_V call mc_13 rt 6 (L) (.int (-1) :: st) w := e13_5
theorem f13_6 : iv_V call mc_13 rt 6 (L) (st) w = iv_ret rt st w := e13_6
theorem f13_7 : iv_V call mc_13 rt 7 (.ref a :: L) (st) w = iv_V call mc_13 rt 8 (.ref a :: L) (.ref a :: st) w := e13_7
theorem f13_8 : iv_V call mc_13 rt 8 (L) (st) w = iv_gf w st 0 3 (iv_kv call mc_13 rt 9 L w) := e13_8
theorem f13_9 : iv_V call mc_13 rt 9 (v0 :: .int x :: L) (st) w = iv_V call mc_13 rt 10 (v0 :: .int x :: L) (.int x :: st) w := e13_9
theorem f13_10 {a0 : Nat} {x1 : Int32} : iv_V call mc_13 rt 10 (L) (.int x1 :: .ref a0 :: []) w = iv_cr (iv_rc w [.ref a0, .int x1] 11) (iv_ct call mc_13 rt 11 L [] (call 113 [.ref a0, .int x1] w)) := e13_10
theorem f13_11 : iv_V call mc_13 rt 11 (L) (st) w = iv_ret rt st w := e13_11
theorem f14_0 : iv_V call mc_14 rt 0 (.ref a :: L) (st) w = iv_V call mc_14 rt 1 (.ref a :: L) (.ref a :: st) w := e14_0
theorem f14_1 : iv_V call mc_14 rt 1 (v0 :: .int x :: L) (st) w = iv_V call mc_14 rt 2 (v0 :: .int x :: L) (.int x :: st) w := e14_1
theorem f14_2 : iv_V call mc_14 rt 2 (v0 :: v1 :: .int x :: L) (st) w = iv_V call mc_14 rt 3 (v0 :: v1 :: .int x :: L) (.int x :: st) w := e14_2
theorem f14_3 {a0 : Nat} {x1 : Int32} {x2 : Int32} : iv_V call mc_14 rt 3 (L) (.int x2 :: .int x1 :: .ref a0 :: []) w = iv_cr (iv_rc w [.ref a0, .int x1, .int x2] 0) (iv_ct call mc_14 rt 4 L [] (call 23 [.ref a0, .int x1, .int x2] w)) := e14_3
theorem f14_4 : iv_V call mc_14 rt 4 (L) (.int x :: st) w = if x = nI 0 then iv_V call mc_14 rt 10 (L) (st) w else iv_V call mc_14 rt 5 (L) (st) w := e14_4
theorem f14_5 : iv_V call mc_14 rt 5 (.ref a :: L) (st) w = iv_V call mc_14 rt 6 (.ref a :: L) (.ref a :: st) w := e14_5
theorem f14_6 : iv_V call mc_14 rt 6 (L) (st) w = iv_gf w st 0 0 (iv_kv call mc_14 rt 7 L w) := e14_6
theorem f14_7 : iv_V call mc_14 rt 7 (v0 :: v1 :: .int x :: L) (st) w = iv_V call mc_14 rt 8 (v0 :: v1 :: .int x :: L) (.int x :: st) w := e14_7
theorem f14_8 {a0 : Nat} {x1 : Int32} : iv_V call mc_14 rt 8 (L) (.int x1 :: .ref a0 :: []) w = iv_cr (iv_rc w [.ref a0, .int x1] 10) (iv_ct call mc_14 rt 9 L [] (call 104 [.ref a0, .int x1] w)) := e14_8
theorem f14_9 : iv_V call mc_14 rt 9 (L) (.int x :: st) w = if x = nI 0 then iv_V call mc_14 rt 12 (L) (st) w else iv_V call mc_14 rt 10 (L) (st) w := e14_9
theorem f14_10 : iv_V call mc_14 rt 10 (L) (st) w = iv_V call mc_14 rt 11 (L) (.int (nI 0) :: st) w := e14_10
theorem f14_11 : iv_V call mc_14 rt 11 (L) (st) w = iv_ret rt st w := e14_11
theorem f14_12 : iv_V call mc_14 rt 12 (.ref a :: L) (st) w = iv_V call mc_14 rt 13 (.ref a :: L) (.ref a :: st) w := e14_12
theorem f14_13 : iv_V call mc_14 rt 13 (L) (st) w = iv_gf w st 0 0 (iv_kv call mc_14 rt 14 L w) := e14_13
theorem f14_14 : iv_V call mc_14 rt 14 (L) (st) w = iv_gf w st 10 5 (iv_kv call mc_14 rt 15 L w) := e14_14
theorem f14_15 : iv_V call mc_14 rt 15 (v0 :: v1 :: .int x :: L) (st) w = iv_V call mc_14 rt 16 (v0 :: v1 :: .int x :: L) (.int x :: st) w := e14_15
theorem f14_16 : iv_V call mc_14 rt 16 (L) (st) w = iv_ald w st iv_isI (iv_kv call mc_14 rt 17 L w) := e14_16
theorem f14_17 : iv_V call mc_14 rt 17 (L) (st) w = iv_V call mc_14 rt 18 (L) (.int (nI 1) :: st) w := e14_17
theorem f14_18 : iv_V call mc_14 rt 18 (L) (.int y :: .int x :: st) w = if ¬ x = y then iv_V call mc_14 rt 29 (L) (st) w else iv_V call mc_14 rt 19 (L) (st) w := e14_18
theorem f14_19 : iv_V call mc_14 rt 19 (v0 :: v1 :: v2 :: .int x :: L) (st) w = iv_V call mc_14 rt 20 (v0 :: v1 :: v2 :: .int x :: L) (.int x :: st) w := e14_19
theorem f14_20 : iv_V call mc_14 rt 20 (L) (st) w = iv_V call mc_14 rt 21 (L) (.int (-1) :: st) w := e14_20
theorem f14_21 : iv_V call mc_14 rt 21 (L) (.int y :: .int x :: st) w = if x = y then iv_V call mc_14 rt 29 (L) (st) w else iv_V call mc_14 rt 22 (L) (st) w := e14_21
theorem f14_22 : iv_V call mc_14 rt 22 (.ref a :: L) (st) w = iv_V call mc_14 rt 23 (.ref a :: L) (.ref a :: st) w := e14_22
theorem f14_23 : iv_V call mc_14 rt 23 (L) (st) w = iv_gf w st 0 3 (iv_kv call mc_14 rt 24 L w) := e14_23
theorem f14_24 : iv_V call mc_14 rt 24 (v0 :: v1 :: v2 :: .int x :: L) (st) w = iv_V call mc_14 rt 25 (v0 :: v1 :: v2 :: .int x :: L) (.int x :: st) w := e14_24
theorem f14_25 {a0 : Nat} {x1 : Int32} : iv_V call mc_14 rt 25 (L) (.int x1 :: .ref a0 :: []) w = iv_cr (iv_rc w [.ref a0, .int x1] 11) (iv_ct call mc_14 rt 26 L [] (call 111 [.ref a0, .int x1] w)) := e14_25
theorem f14_26 : iv_V call mc_14 rt 26 (L) (.int x :: st) w = if ¬ x = nI 0 then iv_V call mc_14 rt 29 (L) (st) w else iv_V call mc_14 rt 27 (L) (st) w := e14_26
theorem f14_27 : iv_V call mc_14 rt 27 (L) (st) w = iv_V call mc_14 rt 28 (L) (.int (nI 0) :: st) w := e14_27
theorem f14_28 : iv_V call mc_14 rt 28 (L) (st) w = iv_ret rt st w := e14_28
theorem f14_29 : iv_V call mc_14 rt 29 (.ref a :: L) (st) w = iv_V call mc_14 rt 30 (.ref a :: L) (.ref a :: st) w := e14_29
theorem f14_30 : iv_V call mc_14 rt 30 (L) (st) w = iv_gf w st 0 3 (iv_kv call mc_14 rt 31 L w) := e14_30
theorem f14_31 : iv_V call mc_14 rt 31 (L) (st) w = iv_gf w st 11 2 (iv_kv call mc_14 rt 32 L w) := e14_31
theorem f14_32 : iv_V call mc_14 rt 32 (v0 :: .int x :: L) (st) w = iv_V call mc_14 rt 33 (v0 :: .int x :: L) (.int x :: st) w := e14_32
theorem f14_33 : iv_V call mc_14 rt 33 (L) (st) w = iv_ald w st iv_isA (iv_kv call mc_14 rt 34 L w) := e14_33
theorem f14_34 : iv_V call mc_14 rt 34 (v0 :: v1 :: .int x :: L) (st) w = iv_V call mc_14 rt 35 (v0 :: v1 :: .int x :: L) (.int x :: st) w := e14_34
theorem f14_35 : iv_V call mc_14 rt 35 (v0 :: v1 :: v2 :: .int x :: L) (st) w = iv_V call mc_14 rt 36 (v0 :: v1 :: v2 :: .int x :: L) (.int x :: st) w := e14_35
theorem f14_36 : iv_V call mc_14 rt 36 (L) (st) w = iv_ast w st iv_isI (iv_kw call mc_14 rt 37 L) := e14_36
theorem f14_37 : iv_V call mc_14 rt 37 (L) (st) w = iv_V call mc_14 rt 38 (L) (.int (nI 1) :: st) w := e14_37
theorem f14_38 : iv_V call mc_14 rt 38 (L) (st) w = iv_ret rt st w := e14_38
theorem f15_0 : iv_V call mc_15 rt 0 (.ref a :: L) (st) w = iv_V call mc_15 rt 1 (.ref a :: L) (.ref a :: st) w := e15_0
theorem f15_1 : iv_V call mc_15 rt 1 (v0 :: .int x :: L) (st) w = iv_V call mc_15 rt 2 (v0 :: .int x :: L) (.int x :: st) w := e15_1
theorem f15_2 : iv_V call mc_15 rt 2 (v0 :: v1 :: .int x :: L) (st) w = iv_V call mc_15 rt 3 (v0 :: v1 :: .int x :: L) (.int x :: st) w := e15_2
theorem f15_3 {a0 : Nat} {x1 : Int32} {x2 : Int32} : iv_V call mc_15 rt 3 (L) (.int x2 :: .int x1 :: .ref a0 :: []) w = iv_cr (iv_rc w [.ref a0, .int x1, .int x2] 0) (iv_ct call mc_15 rt 4 L [] (call 23 [.ref a0, .int x1, .int x2] w)) := e15_3
theorem f15_4 : iv_V call mc_15 rt 4 (L) (.int x :: st) w = if x = nI 0 then iv_V call mc_15 rt 10 (L) (st) w else iv_V call mc_15 rt 5 (L) (st) w := e15_4
theorem f15_5 : iv_V call mc_15 rt 5 (.ref a :: L) (st) w = iv_V call mc_15 rt 6 (.ref a :: L) (.ref a :: st) w := e15_5
theorem f15_6 : iv_V call mc_15 rt 6 (L) (st) w = iv_gf w st 0 0 (iv_kv call mc_15 rt 7 L w) := e15_6
theorem f15_7 : iv_V call mc_15 rt 7 (v0 :: v1 :: .int x :: L) (st) w = iv_V call mc_15 rt 8 (v0 :: v1 :: .int x :: L) (.int x :: st) w := e15_7
theorem f15_8 {a0 : Nat} {x1 : Int32} : iv_V call mc_15 rt 8 (L) (.int x1 :: .ref a0 :: []) w = iv_cr (iv_rc w [.ref a0, .int x1] 10) (iv_ct call mc_15 rt 9 L [] (call 104 [.ref a0, .int x1] w)) := e15_8
theorem f15_9 : iv_V call mc_15 rt 9 (L) (.int x :: st) w = if ¬ x = nI 0 then iv_V call mc_15 rt 12 (L) (st) w else iv_V call mc_15 rt 10 (L) (st) w := e15_9
theorem f15_10 : iv_V call mc_15 rt 10 (L) (st) w = iv_V call mc_15 rt 11 (L) (.int (nI 0) :: st) w := e15_10
theorem f15_11 : iv_V call mc_15 rt 11 (L) (st) w = iv_ret rt st w := e15_11
theorem f15_12 : iv_V call mc_15 rt 12 (.ref a :: L) (st) w = iv_V call mc_15 rt 13 (.ref a :: L) (.ref a :: st) w := e15_12
theorem f15_13 : iv_V call mc_15 rt 13 (L) (st) w = iv_gf w st 0 0 (iv_kv call mc_15 rt 14 L w) := e15_13
theorem f15_14 : iv_V call mc_15 rt 14 (L) (st) w = iv_gf w st 10 5 (iv_kv call mc_15 rt 15 L w) := e15_14
theorem f15_15 : iv_V call mc_15 rt 15 (v0 :: v1 :: .int x :: L) (st) w = iv_V call mc_15 rt 16 (v0 :: v1 :: .int x :: L) (.int x :: st) w := e15_15
theorem f15_16 : iv_V call mc_15 rt 16 (L) (st) w = iv_ald w st iv_isI (iv_kv call mc_15 rt 17 L w) := e15_16
theorem f15_17 : iv_V call mc_15 rt 17 (L) (st) w = iv_V call mc_15 rt 18 (L) (.int (nI 3) :: st) w := e15_17
theorem f15_18 : iv_V call mc_15 rt 18 (L) (.int y :: .int x :: st) w = if ¬ x = y then iv_V call mc_15 rt 26 (L) (st) w else iv_V call mc_15 rt 19 (L) (st) w := e15_18
theorem f15_19 : iv_V call mc_15 rt 19 (.ref a :: L) (st) w = iv_V call mc_15 rt 20 (.ref a :: L) (.ref a :: st) w := e15_19
theorem f15_20 : iv_V call mc_15 rt 20 (L) (st) w = iv_gf w st 0 3 (iv_kv call mc_15 rt 21 L w) := e15_20
theorem f15_21 : iv_V call mc_15 rt 21 (v0 :: v1 :: v2 :: .int x :: L) (st) w = iv_V call mc_15 rt 22 (v0 :: v1 :: v2 :: .int x :: L) (.int x :: st) w := e15_21
theorem f15_22 {a0 : Nat} {x1 : Int32} : iv_V call mc_15 rt 22 (L) (.int x1 :: .ref a0 :: []) w = iv_cr (iv_rc w [.ref a0, .int x1] 11) (iv_ct call mc_15 rt 23 L [] (call 111 [.ref a0, .int x1] w)) := e15_22
theorem f15_23 : iv_V call mc_15 rt 23 (L) (.int x :: st) w = if ¬ x = nI 0 then iv_V call mc_15 rt 26 (L) (st) w else iv_V call mc_15 rt 24 (L) (st) w := e15_23
theorem f15_24 : iv_V call mc_15 rt 24 (L) (st) w = iv_V call mc_15 rt 25 (L) (.int (nI 0) :: st) w := e15_24
theorem f15_25 : iv_V call mc_15 rt 25 (L) (st) w = iv_ret rt st w := e15_25
theorem f15_26 : iv_V call mc_15 rt 26 (.ref a :: L) (st) w = iv_V call mc_15 rt 27 (.ref a :: L) (.ref a :: st) w := e15_26
theorem f15_27 : iv_V call mc_15 rt 27 (L) (st) w = iv_gf w st 0 3 (iv_kv call mc_15 rt 28 L w) := e15_27
theorem f15_28 : iv_V call mc_15 rt 28 (v0 :: .int x :: L) (st) w = iv_V call mc_15 rt 29 (v0 :: .int x :: L) (.int x :: st) w := e15_28
theorem f15_29 : iv_V call mc_15 rt 29 (v0 :: v1 :: .int x :: L) (st) w = iv_V call mc_15 rt 30 (v0 :: v1 :: .int x :: L) (.int x :: st) w := e15_29
theorem f15_30 : iv_V call mc_15 rt 30 (v0 :: v1 :: v2 :: .int x :: L) (st) w = iv_V call mc_15 rt 31 (v0 :: v1 :: v2 :: .int x :: L) (.int x :: st) w := e15_30
theorem f15_31 {a0 : Nat} {x1 : Int32} {x2 : Int32} {x3 : Int32} : iv_V call mc_15 rt 31 (L) (.int x3 :: .int x2 :: .int x1 :: .ref a0 :: []) w = iv_cr (iv_rc w [.ref a0, .int x1, .int x2, .int x3] 11) (iv_ct call mc_15 rt 32 L [] (call 114 [.ref a0, .int x1, .int x2, .int x3] w)) := e15_31
theorem f15_32 : iv_V call mc_15 rt 32 (L) (st) w = iv_ret rt st w := e15_32
theorem f16_0 : iv_V call mc_16 rt 0 (.ref a :: L) (st) w = iv_V call mc_16 rt 1 (.ref a :: L) (.ref a :: st) w := e16_0
theorem f16_1 : iv_V call mc_16 rt 1 (v0 :: .int x :: L) (st) w = iv_V call mc_16 rt 2 (v0 :: .int x :: L) (.int x :: st) w := e16_1
theorem f16_2 : iv_V call mc_16 rt 2 (v0 :: v1 :: .int x :: L) (st) w = iv_V call mc_16 rt 3 (v0 :: v1 :: .int x :: L) (.int x :: st) w := e16_2
theorem f16_3 {a0 : Nat} {x1 : Int32} {x2 : Int32} : iv_V call mc_16 rt 3 (L) (.int x2 :: .int x1 :: .ref a0 :: []) w = iv_cr (iv_rc w [.ref a0, .int x1, .int x2] 0) (iv_ct call mc_16 rt 4 L [] (call 23 [.ref a0, .int x1, .int x2] w)) := e16_3
theorem f16_4 : iv_V call mc_16 rt 4 (L) (.int x :: st) w = if x = nI 0 then iv_V call mc_16 rt 10 (L) (st) w else iv_V call mc_16 rt 5 (L) (st) w := e16_4
theorem f16_5 : iv_V call mc_16 rt 5 (.ref a :: L) (st) w = iv_V call mc_16 rt 6 (.ref a :: L) (.ref a :: st) w := e16_5
theorem f16_6 : iv_V call mc_16 rt 6 (L) (st) w = iv_gf w st 0 0 (iv_kv call mc_16 rt 7 L w) := e16_6
theorem f16_7 : iv_V call mc_16 rt 7 (v0 :: v1 :: .int x :: L) (st) w = iv_V call mc_16 rt 8 (v0 :: v1 :: .int x :: L) (.int x :: st) w := e16_7
theorem f16_8 {a0 : Nat} {x1 : Int32} : iv_V call mc_16 rt 8 (L) (.int x1 :: .ref a0 :: []) w = iv_cr (iv_rc w [.ref a0, .int x1] 10) (iv_ct call mc_16 rt 9 L [] (call 104 [.ref a0, .int x1] w)) := e16_8
theorem f16_9 : iv_V call mc_16 rt 9 (L) (.int x :: st) w = if ¬ x = nI 0 then iv_V call mc_16 rt 12 (L) (st) w else iv_V call mc_16 rt 10 (L) (st) w := e16_9
theorem f16_10 : iv_V call mc_16 rt 10 (L) (st) w = iv_V call mc_16 rt 11 (L) (.int (nI 0) :: st) w := e16_10
theorem f16_11 : iv_V call mc_16 rt 11 (L) (st) w = iv_ret rt st w := e16_11
theorem f16_12 : iv_V call mc_16 rt 12 (.ref a :: L) (st) w = iv_V call mc_16 rt 13 (.ref a :: L) (.ref a :: st) w := e16_12
theorem f16_13 : iv_V call mc_16 rt 13 (L) (st) w = iv_gf w st 0 3 (iv_kv call mc_16 rt 14 L w) := e16_13
theorem f16_14 : iv_V call mc_16 rt 14 (L) (st) w = iv_gf w st 11 2 (iv_kv call mc_16 rt 15 L w) := e16_14
theorem f16_15 : iv_V call mc_16 rt 15 (v0 :: .int x :: L) (st) w = iv_V call mc_16 rt 16 (v0 :: .int x :: L) (.int x :: st) w := e16_15
theorem f16_16 : iv_V call mc_16 rt 16 (L) (st) w = iv_ald w st iv_isA (iv_kv call mc_16 rt 17 L w) := e16_16
theorem f16_17 : iv_V call mc_16 rt 17 (v0 :: v1 :: .int x :: L) (st) w = iv_V call mc_16 rt 18 (v0 :: v1 :: .int x :: L) (.int x :: st) w := e16_17
theorem f16_18 : iv_V call mc_16 rt 18 (v0 :: v1 :: v2 :: .int x :: L) (st) w = iv_V call mc_16 rt 19 (v0 :: v1 :: v2 :: .int x :: L) (.int x :: st) w := e16_18
theorem f16_19 : iv_V call mc_16 rt 19 (L) (.int x :: st) w = if x = nI 0 then iv_V call mc_16 rt 22 (L) (st) w else iv_V call mc_16 rt 20 (L) (st) w := e16_19
theorem f16_20 : iv_V call mc_16 rt 20 (L) (st) w = iv_V call mc_16 rt 21 (L) (.int (-1) :: st) w := e16_20
theorem f16_21 : iv_V call mc_16 rt 21 (L) (st) w = iv_V call mc_16 rt 23 (L) (st) w := e16_21
theorem f16_22 : iv_V call mc_16 rt 22 (L) (st) w = iv_V call mc_16 rt 23 (L) (.int (nI 0) :: st) w := e16_22
theorem f16_23 : iv_V call mc_16 rt 23 (L) (st) w = iv_ast w st iv_isI (iv_kw call mc_16 rt 24 L) := e16_23
theorem f16_24 : iv_V call mc_16 rt 24 (L) (st) w = iv_V call mc_16 rt 25 (L) (.int (nI 1) :: st) w := e16_24
theorem f16_25 : iv_V call mc_16 rt 25 (L) (st) w = iv_ret rt st w := e16_25
theorem f17_0 : iv_V call mc_17 rt 0 (.ref a :: L) (st) w = iv_V call mc_17 rt 1 (.ref a :: L) (.ref a :: st) w := e17_0
theorem f17_1 : iv_V call mc_17 rt 1 (L) (st) w = iv_gf w st 0 3 (iv_kv call mc_17 rt 2 L w) := e17_1
theorem f17_2 : iv_V call mc_17 rt 2 (v0 :: .int x :: L) (st) w = iv_V call mc_17 rt 3 (v0 :: .int x :: L) (.int x :: st) w := e17_2
theorem f17_3 {a0 : Nat} {x1 : Int32} : iv_V call mc_17 rt 3 (L) (.int x1 :: .ref a0 :: []) w = iv_cr (iv_rc w [.ref a0, .int x1] 11) (iv_ct call mc_17 rt 4 L [] (call 111 [.ref a0, .int x1] w)) := e17_3
theorem f17_4 : iv_V call mc_17 rt 4 (L) (.int x :: st) w = if x = nI 0 then iv_V call mc_17 rt 15 (L) (st) w else iv_V call mc_17 rt 5 (L) (st) w := e17_4
theorem f17_5 : iv_V call mc_17 rt 5 (.ref a :: L) (st) w = iv_V call mc_17 rt 6 (.ref a :: L) (.ref a :: st) w := e17_5
theorem f17_6 : iv_V call mc_17 rt 6 (L) (st) w = iv_gf w st 0 2 (iv_kv call mc_17 rt 7 L w) := e17_6
theorem f17_7 : iv_V call mc_17 rt 7 (v0 :: v1 :: .int x :: L) (st) w = iv_V call mc_17 rt 8 (v0 :: v1 :: .int x :: L) (.int x :: st) w := e17_7
theorem f17_8 {a0 : Nat} {x1 : Int32} : iv_V call mc_17 rt 8 (L) (.int x1 :: .ref a0 :: []) w = iv_cr (iv_rc w [.ref a0, .int x1] 5) (iv_ct call mc_17 rt 9 L [] (call 82 [.ref a0, .int x1] w)) := e17_8
theorem f17_9 : iv_V call mc_17 rt 9 (L) (.int x :: st) w = if ¬ x = nI 0 then iv_V call mc_17 rt 17 (L) (st) w else iv_V call mc_17 rt 10 (L) (st) w := e17_9
theorem f17_10 : iv_V call mc_17 rt 10 (.ref a :: L) (st) w = iv_V call mc_17 rt 11 (.ref a :: L) (.ref a :: st) w := e17_10
theorem f17_11 : iv_V call mc_17 rt 11 (L) (st) w = iv_gf w st 0 2 (iv_kv call mc_17 rt 12 L w) := e17_11
theorem f17_12 : iv_V call mc_17 rt 12 (v0 :: v1 :: .int x :: L) (st) w = iv_V call mc_17 rt 13 (v0 :: v1 :: .int x :: L) (.int x :: st) w := e17_12
theorem f17_13 {a0 : Nat} {x1 : Int32} : iv_V call mc_17 rt 13 (L) (.int x1 :: .ref a0 :: []) w = iv_cr (iv_rc w [.ref a0, .int x1] 5) (iv_ct call mc_17 rt 14 L [] (call 83 [.ref a0, .int x1] w)) := e17_13
theorem f17_14 : iv_V call mc_17 rt 14 (L) (.int x :: st) w = if ¬ x = nI 0 then iv_V call mc_17 rt 17 (L) (st) w else iv_V call mc_17 rt 15 (L) (st) w := e17_14
theorem f17_15 : iv_V call mc_17 rt 15 (L) (st) w = iv_V call mc_17 rt 16 (L) (.int (-1) :: st) w := e17_15
theorem f17_16 : iv_V call mc_17 rt 16 (L) (st) w = iv_ret rt st w := e17_16
theorem f17_17 : iv_V call mc_17 rt 17 (.ref a :: L) (st) w = iv_V call mc_17 rt 18 (.ref a :: L) (.ref a :: st) w := e17_17
theorem f17_18 : iv_V call mc_17 rt 18 (L) (st) w = iv_gf w st 0 4 (iv_kv call mc_17 rt 19 L w) := e17_18
theorem f17_19 : iv_V call mc_17 rt 19 (L) (st) w = iv_V call mc_17 rt 20 (L) (.int (nI 0) :: st) w := e17_19
theorem f17_20 : iv_V call mc_17 rt 20 (L) (st) w = iv_pf w st 6 0 (iv_kw call mc_17 rt 21 L) := e17_20
theorem f17_21 : iv_V call mc_17 rt 21 (.ref a :: L) (st) w = iv_V call mc_17 rt 22 (.ref a :: L) (.ref a :: st) w := e17_21
theorem f17_22 : iv_V call mc_17 rt 22 (L) (st) w = iv_gf w st 0 5 (iv_kv call mc_17 rt 23 L w) := e17_22
theorem f17_23 : iv_V call mc_17 rt 23 (L) (st) w = iv_V call mc_17 rt 24 (L) (.int (nI 0) :: st) w := e17_23
theorem f17_24 : iv_V call mc_17 rt 24 (L) (st) w = iv_pf w st 2 8 (iv_kw call mc_17 rt 25 L) := e17_24
theorem f17_25 : iv_V call mc_17 rt 25 (.ref a :: L) (st) w = iv_V call mc_17 rt 26 (.ref a :: L) (.ref a :: st) w := e17_25
theorem f17_26 : iv_V call mc_17 rt 26 (L) (st) w = iv_gf w st 0 2 (iv_kv call mc_17 rt 27 L w) := e17_26
theorem f17_27 : iv_V call mc_17 rt 27 (L) (st) w = iv_gf w st 5 2 (iv_kv call mc_17 rt 28 L w) := e17_27
theorem f17_28 : iv_V call mc_17 rt 28 (v0 :: v1 :: v2 :: u :: L) (.ref a :: st) w = iv_V call mc_17 rt 29 (v0 :: v1 :: v2 :: .ref a :: L) (st) w := e17_28
theorem f17_29 : iv_V call mc_17 rt 29 (v0 :: v1 :: v2 :: .ref a :: L) (st) w = iv_V call mc_17 rt 30 (v0 :: v1 :: v2 :: .ref a :: L) (.ref a :: st) w := e17_29
theorem f17_30 : iv_V call mc_17 rt 30 (L) (st) w = iv_V call mc_17 rt 31 (L) (.int (nI 0) :: st) w := e17_30
theorem f17_31 : iv_V call mc_17 rt 31 (L) (st) w = iv_pf w st 7 1 (iv_kw call mc_17 rt 32 L) := e17_31
theorem f17_32 : iv_V call mc_17 rt 32 (.ref a :: L) (st) w = iv_V call mc_17 rt 33 (.ref a :: L) (.ref a :: st) w := e17_32
theorem f17_33 : iv_V call mc_17 rt 33 (L) (st) w = iv_gf w st 0 2 (iv_kv call mc_17 rt 34 L w) := e17_33
theorem f17_34 : iv_V call mc_17 rt 34 (v0 :: v1 :: .int x :: L) (st) w = iv_V call mc_17 rt 35 (v0 :: v1 :: .int x :: L) (.int x :: st) w := e17_34
theorem f17_35 : iv_V call mc_17 rt 35 (L) (st) w = iv_V call mc_17 rt 36 (L) (.int (nI 0) :: st) w := e17_35
theorem f17_36 {a0 : Nat} {x1 : Int32} {x2 : Int32} : iv_V call mc_17 rt 36 (L) (.int x2 :: .int x1 :: .ref a0 :: []) w = iv_cr (iv_rc w [.ref a0, .int x1, .int x2] 5) (iv_ct call mc_17 rt 37 L [] (call 86 [.ref a0, .int x1, .int x2] w)) := e17_36
theorem f17_37 : iv_V call mc_17 rt 37 (L) (.int x :: st) w = if x = nI 0 then iv_V call mc_17 rt 40 (L) (st) w else iv_V call mc_17 rt 38 (L) (st) w := e17_37
theorem f17_38 : iv_V call mc_17 rt 38 (L) (st) w = iv_V call mc_17 rt 39 (L) (.int (nI 0) :: st) w := e17_38
theorem f17_39 : iv_V call mc_17 rt 39 (L) (st) w = iv_V call mc_17 rt 41 (L) (st) w := e17_39
theorem f17_40 : iv_V call mc_17 rt 40 (L) (st) w = iv_V call mc_17 rt 41 (L) (.int (-2) :: st) w := e17_40
theorem f17_41 : iv_V call mc_17 rt 41 (v0 :: v1 :: v2 :: v3 :: u :: L) (.int x :: st) w = iv_V call mc_17 rt 42 (v0 :: v1 :: v2 :: v3 :: .int x :: L) (st) w := e17_41
theorem f17_42 : iv_V call mc_17 rt 42 (L) (st) w = iv_V call mc_17 rt 43 (L) (.int (nI 0) :: st) w := e17_42
theorem f17_43 : iv_V call mc_17 rt 43 (v0 :: v1 :: v2 :: v3 :: v4 :: u :: L) (.int x :: st) w = iv_V call mc_17 rt 44 (v0 :: v1 :: v2 :: v3 :: v4 :: .int x :: L) (st) w := e17_43
theorem f17_44 : iv_V call mc_17 rt 44 (v0 :: v1 :: v2 :: v3 :: v4 :: .int x :: L) (st) w = iv_V call mc_17 rt 45 (v0 :: v1 :: v2 :: v3 :: v4 :: .int x :: L) (.int x :: st) w := e17_44
theorem f17_45 : iv_V call mc_17 rt 45 (v0 :: v1 :: v2 :: .ref a :: L) (st) w = iv_V call mc_17 rt 46 (v0 :: v1 :: v2 :: .ref a :: L) (.ref a :: st) w := e17_45
theorem f17_46 : iv_V call mc_17 rt 46 (L) (st) w = iv_gf w st 7 1 (iv_kv call mc_17 rt 47 L w) := e17_46
theorem f17_47 : iv_V call mc_17 rt 47 (L) (.int y :: .int x :: st) w = if y ≤ x then iv_V call mc_17 rt 65 (L) (st) w else iv_V call mc_17 rt 48 (L) (st) w := e17_47
theorem f17_48 : iv_V call mc_17 rt 48 (v0 :: v1 :: v2 :: v3 :: .int x :: L) (st) w = iv_V call mc_17 rt 49 (v0 :: v1 :: v2 :: v3 :: .int x :: L) (.int x :: st) w := e17_48
theorem f17_49 : iv_V call mc_17 rt 49 (L) (.int x :: st) w = if ¬ x = nI 0 then iv_V call mc_17 rt 65 (L) (st) w else iv_V call mc_17 rt 50 (L) (st) w := e17_49
theorem f17_50 : iv_V call mc_17 rt 50 (.ref a :: L) (st) w = iv_V call mc_17 rt 51 (.ref a :: L) (.ref a :: st) w := e17_50
theorem f17_51 : iv_V call mc_17 rt 51 (L) (st) w = iv_gf w st 0 4 (iv_kv call mc_17 rt 52 L w) := e17_51
theorem f17_52 : iv_V call mc_17 rt 52 (L) (st) w = iv_gf w st 6 0 (iv_kv call mc_17 rt 53 L w) := e17_52
theorem f17_53 : iv_V call mc_17 rt 53 (L) (.int x :: st) w = if ¬ x = nI 0 then iv_V call mc_17 rt 65 (L) (st) w else iv_V call mc_17 rt 54 (L) (st) w := e17_53
theorem f17_54 : iv_V call mc_17 rt 54 (.ref a :: L) (st) w = iv_V call mc_17 rt 55 (.ref a :: L) (.ref a :: st) w := e17_54
theorem f17_55 : iv_V call mc_17 rt 55 (L) (st) w = iv_gf w st 0 5 (iv_kv call mc_17 rt 56 L w) := e17_55
theorem f17_56 : iv_V call mc_17 rt 56 (v0 :: .int x :: L) (st) w = iv_V call mc_17 rt 57 (v0 :: .int x :: L) (.int x :: st) w := e17_56
theorem f17_57 : iv_V call mc_17 rt 57 (v0 :: v1 :: v2 :: .ref a :: L) (st) w = iv_V call mc_17 rt 58 (v0 :: v1 :: v2 :: .ref a :: L) (.ref a :: st) w := e17_57
theorem f17_58 : iv_V call mc_17 rt 58 (L) (st) w = iv_gf w st 7 0 (iv_kv call mc_17 rt 59 L w) := e17_58
theorem f17_59 : iv_V call mc_17 rt 59 (v0 :: v1 :: v2 :: v3 :: v4 :: .int x :: L) (st) w = iv_V call mc_17 rt 60 (v0 :: v1 :: v2 :: v3 :: v4 :: .int x :: L) (.int x :: st) w := e17_59
theorem f17_60 : iv_V call mc_17 rt 60 (L) (st) w = iv_ald w st iv_isI (iv_kv call mc_17 rt 61 L w) := e17_60
theorem f17_61 {a0 : Nat} {x1 : Int32} {x2 : Int32} : iv_V call mc_17 rt 61 (L) (.int x2 :: .int x1 :: .ref a0 :: []) w = iv_cr (iv_rc w [.ref a0, .int x1, .int x2] 2) (iv_ct call mc_17 rt 62 L [] (call 65 [.ref a0, .int x1, .int x2] w)) := e17_61
theorem f17_62 : iv_V call mc_17 rt 62 (v0 :: v1 :: v2 :: v3 :: u :: L) (.int x :: st) w = iv_V call mc_17 rt 63 (v0 :: v1 :: v2 :: v3 :: .int x :: L) (st) w := e17_62
theorem f17_63 : iv_V call mc_17 rt 63 (v0 :: v1 :: v2 :: v3 :: v4 :: .int x :: L) (st) w = iv_V call mc_17 rt 64 (v0 :: v1 :: v2 :: v3 :: v4 :: .int (x + (nI 1)) :: L) (st) w := e17_63
theorem f17_64 : iv_V call mc_17 rt 64 (L) (st) w = iv_V call mc_17 rt 44 (L) (st) w := e17_64
theorem f17_65 : iv_V call mc_17 rt 65 (.ref a :: L) (st) w = iv_V call mc_17 rt 66 (.ref a :: L) (.ref a :: st) w := e17_65
theorem f17_66 : iv_V call mc_17 rt 66 (L) (st) w = iv_gf w st 0 4 (iv_kv call mc_17 rt 67 L w) := e17_66
theorem f17_67 : iv_V call mc_17 rt 67 (v0 :: v1 :: v2 :: v3 :: .int x :: L) (st) w = iv_V call mc_17 rt 68 (v0 :: v1 :: v2 :: v3 :: .int x :: L) (.int x :: st) w := e17_67
theorem f17_68 {a0 : Nat} {x1 : Int32} : iv_V call mc_17 rt 68 (L) (.int x1 :: .ref a0 :: []) w = iv_cr (iv_rc w [.ref a0, .int x1] 6) (iv_ct call mc_17 rt 69 L [] (call 90 [.ref a0, .int x1] w)) := e17_68
theorem f17_69 : iv_V call mc_17 rt 69 (L) (st) w = iv_ret rt st w := e17_69
theorem f18_0 : iv_V call mc_18 rt 0 (.ref a :: L) (st) w = iv_V call mc_18 rt 1 (.ref a :: L) (.ref a :: st) w := e18_0
theorem f18_1 : iv_V call mc_18 rt 1 (v0 :: .int x :: L) (st) w = iv_V call mc_18 rt 2 (v0 :: .int x :: L) (.int x :: st) w := e18_1
theorem f18_2 : iv_V call mc_18 rt 2 (v0 :: v1 :: .int x :: L) (st) w = iv_V call mc_18 rt 3 (v0 :: v1 :: .int x :: L) (.int x :: st) w := e18_2
theorem f18_3 {a0 : Nat} {x1 : Int32} {x2 : Int32} : iv_V call mc_18 rt 3 (L) (.int x2 :: .int x1 :: .ref a0 :: []) w = iv_cr (iv_rc w [.ref a0, .int x1, .int x2] 0) (iv_ct call mc_18 rt 4 L [] (call 23 [.ref a0, .int x1, .int x2] w)) := e18_3
theorem f18_4 : iv_V call mc_18 rt 4 (L) (.int x :: st) w = if x = nI 0 then iv_V call mc_18 rt 10 (L) (st) w else iv_V call mc_18 rt 5 (L) (st) w := e18_4
theorem f18_5 : iv_V call mc_18 rt 5 (.ref a :: L) (st) w = iv_V call mc_18 rt 6 (.ref a :: L) (.ref a :: st) w := e18_5
theorem f18_6 : iv_V call mc_18 rt 6 (L) (st) w = iv_gf w st 0 2 (iv_kv call mc_18 rt 7 L w) := e18_6
theorem f18_7 : iv_V call mc_18 rt 7 (v0 :: v1 :: v2 :: .int x :: L) (st) w = iv_V call mc_18 rt 8 (v0 :: v1 :: v2 :: .int x :: L) (.int x :: st) w := e18_7
theorem f18_8 {a0 : Nat} {x1 : Int32} : iv_V call mc_18 rt 8 (L) (.int x1 :: .ref a0 :: []) w = iv_cr (iv_rc w [.ref a0, .int x1] 5) (iv_ct call mc_18 rt 9 L [] (call 82 [.ref a0, .int x1] w)) := e18_8
theorem f18_9 : iv_V call mc_18 rt 9 (L) (.int x :: st) w = if ¬ x = nI 0 then iv_V call mc_18 rt 12 (L) (st) w else iv_V call mc_18 rt 10 (L) (st) w := e18_9
theorem f18_10 : iv_V call mc_18 rt 10 (L) (st) w = iv_V call mc_18 rt 11 (L) (.int (-1) :: st) w := e18_10
theorem f18_11 : iv_V call mc_18 rt 11 (L) (st) w = iv_ret rt st w := e18_11
theorem f18_12 : iv_V call mc_18 rt 12 (.ref a :: L) (st) w = iv_V call mc_18 rt 13 (.ref a :: L) (.ref a :: st) w := e18_12
theorem f18_13 : iv_V call mc_18 rt 13 (L) (st) w = iv_gf w st 0 4 (iv_kv call mc_18 rt 14 L w) := e18_13
theorem f18_14 : iv_V call mc_18 rt 14 (L) (st) w = iv_V call mc_18 rt 15 (L) (.int (nI 0) :: st) w := e18_14
theorem f18_15 : iv_V call mc_18 rt 15 (L) (st) w = iv_pf w st 6 0 (iv_kw call mc_18 rt 16 L) := e18_15
theorem f18_16 : iv_V call mc_18 rt 16 (.ref a :: L) (st) w = iv_V call mc_18 rt 17 (.ref a :: L) (.ref a :: st) w := e18_16
theorem f18_17 : iv_V call mc_18 rt 17 (L) (st) w = iv_gf w st 0 4 (iv_kv call mc_18 rt 18 L w) := e18_17
theorem f18_18 : iv_V call mc_18 rt 18 (.ref a :: L) (st) w = iv_V call mc_18 rt 19 (.ref a :: L) (.ref a :: st) w := e18_18
theorem f18_19 : iv_V call mc_18 rt 19 (L) (st) w = iv_gf w st 0 5 (iv_kv call mc_18 rt 20 L w) := e18_19
theorem f18_20 : iv_V call mc_18 rt 20 (v0 :: .int x :: L) (st) w = iv_V call mc_18 rt 21 (v0 :: .int x :: L) (.int x :: st) w := e18_20
theorem f18_21 : iv_V call mc_18 rt 21 (L) (st) w = iv_V call mc_18 rt 22 (L) (.int (nI 1) :: st) w := e18_21
theorem f18_22 : iv_V call mc_18 rt 22 (v0 :: v1 :: .int x :: L) (st) w = iv_V call mc_18 rt 23 (v0 :: v1 :: .int x :: L) (.int x :: st) w := e18_22
theorem f18_23 : iv_V call mc_18 rt 23 (L) (.int y :: .int x :: st) w = iv_V call mc_18 rt 24 (L) (.int (x <<< (y &&& 31)) :: st) w := e18_23
theorem f18_24 : iv_V call mc_18 rt 24 (v0 :: v1 :: v2 :: .int x :: L) (st) w = iv_V call mc_18 rt 25 (v0 :: v1 :: v2 :: .int x :: L) (.int x :: st) w := e18_24
theorem f18_25 {a0 : Nat} {x1 : Int32} {x2 : Int32} {x3 : Int32} {c0 : Nat} : iv_V call mc_18 rt 25 (L) (.int x3 :: .int x2 :: .int x1 :: .ref a0 :: .ref c0 :: []) w = iv_cr (iv_rc w [.ref a0, .int x1, .int x2, .int x3] 2) (iv_ct call mc_18 rt 26 L [.ref c0] (call 72 [.ref a0, .int x1, .int x2, .int x3] w)) := e18_25
theorem f18_26 {a0 : Nat} {x1 : Int32} : iv_V call mc_18 rt 26 (L) (.int x1 :: .ref a0 :: []) w = iv_cr (iv_rc w [.ref a0, .int x1] 6) (iv_ct call mc_18 rt 27 L [] (call 90 [.ref a0, .int x1] w)) := e18_26
theorem f18_27 : iv_V call mc_18 rt 27 (L) (st) w = iv_ret rt st w := e18_27
theorem f19_0 : iv_V call mc_19 rt 0 (.ref a :: L) (st) w = iv_V call mc_19 rt 1 (.ref a :: L) (.ref a :: st) w := e19_0
theorem f19_1 : iv_V call mc_19 rt 1 (L) (st) w = iv_gf w st 0 4 (iv_kv call mc_19 rt 2 L w) := e19_1
theorem f19_2 : iv_V call mc_19 rt 2 (L) (st) w = iv_gf w st 6 0 (iv_kv call mc_19 rt 3 L w) := e19_2
theorem f19_3 : iv_V call mc_19 rt 3 (L) (st) w = iv_ret rt st w := e19_3
theorem f20_0 : iv_V call mc_20 rt 0 (.ref a :: L) (st) w = iv_V call mc_20 rt 1 (.ref a :: L) (.ref a :: st) w := e20_0
theorem f20_1 : iv_V call mc_20 rt 1 (L) (st) w = iv_gf w st 0 5 (iv_kv call mc_20 rt 2 L w) := e20_1
theorem f20_2 : iv_V call mc_20 rt 2 (L) (st) w = iv_gf w st 2 8 (iv_kv call mc_20 rt 3 L w) := e20_2
theorem f20_3 : iv_V call mc_20 rt 3 (L) (st) w = iv_ret rt st w := e20_3
theorem f21_0 : iv_V call mc_21 rt 0 (.ref a :: L) (st) w = iv_V call mc_21 rt 1 (.ref a :: L) (.ref a :: st) w := e21_0
theorem f21_1 : iv_V call mc_21 rt 1 (L) (st) w = iv_gf w st 0 4 (iv_kv call mc_21 rt 2 L w) := e21_1
theorem f21_2 : iv_V call mc_21 rt 2 (v0 :: .int x :: L) (st) w = iv_V call mc_21 rt 3 (v0 :: .int x :: L) (.int x :: st) w := e21_2
theorem f21_3 {a0 : Nat} {x1 : Int32} : iv_V call mc_21 rt 3 (L) (.int x1 :: .ref a0 :: []) w = iv_cr (iv_rc w [.ref a0, .int x1] 6) (iv_ct call mc_21 rt 4 L [] (call 88 [.ref a0, .int x1] w)) := e21_3
theorem f21_4 : iv_V call mc_21 rt 4 (L) (.int x :: st) w = if x = nI 0 then iv_V call mc_21 rt 10 (L) (st) w else iv_V call mc_21 rt 5 (L) (st) w := e21_4
theorem f21_5 : iv_V call mc_21 rt 5 (v0 :: v1 :: .int x :: L) (st) w = iv_V call mc_21 rt 6 (v0 :: v1 :: .int x :: L) (.int x :: st) w := e21_5
theorem f21_6 : iv_V call mc_21 rt 6 (L) (.int x :: st) w = if x < nI 0 then iv_V call mc_21 rt 10 (L) (st) w else iv_V call mc_21 rt 7 (L) (st) w := e21_6
theorem f21_7 : iv_V call mc_21 rt 7 (v0 :: v1 :: .int x :: L) (st) w = iv_V call mc_21 rt 8 (v0 :: v1 :: .int x :: L) (.int x :: st) w := e21_7
theorem f21_8 : iv_V call mc_21 rt 8 (L) (st) w = iv_V call mc_21 rt 9 (L) (.int (nI 6) :: st) w := e21_8
theorem f21_9 : iv_V call mc_21 rt 9 (L) (.int y :: .int x :: st) w = if x < y then iv_V call mc_21 rt 12 (L) (st) w else iv_V call mc_21 rt 10 (L) (st) w := e21_9
theorem f21_10 : iv_V call mc_21 rt 10 (L) (st) w = iv_V call mc_21 rt 11 (L) (.int (-1) :: st) w := e21_10
theorem f21_11 : iv_V call mc_21 rt 11 (L) (st) w = iv_ret rt st w := e21_11
theorem f21_12 : iv_V call mc_21 rt 12 (.ref a :: L) (st) w = iv_V call mc_21 rt 13 (.ref a :: L) (.ref a :: st) w := e21_12
theorem f21_13 : iv_V call mc_21 rt 13 (L) (st) w = iv_gf w st 0 4 (iv_kv call mc_21 rt 14 L w) := e21_13
theorem f21_14 : iv_V call mc_21 rt 14 (L) (st) w = iv_gf w st 6 1 (iv_kv call mc_21 rt 15 L w) := e21_14
theorem f21_15 : iv_V call mc_21 rt 15 (v0 :: .int x :: L) (st) w = iv_V call mc_21 rt 16 (v0 :: .int x :: L) (.int x :: st) w := e21_15
theorem f21_16 : iv_V call mc_21 rt 16 (L) (st) w = iv_ald w st iv_isA (iv_kv call mc_21 rt 17 L w) := e21_16
theorem f21_17 : iv_V call mc_21 rt 17 (v0 :: v1 :: .int x :: L) (st) w = iv_V call mc_21 rt 18 (v0 :: v1 :: .int x :: L) (.int x :: st) w := e21_17
theorem f21_18 : iv_V call mc_21 rt 18 (L) (st) w = iv_ald w st iv_isI (iv_kv call mc_21 rt 19 L w) := e21_18
theorem f21_19 : iv_V call mc_21 rt 19 (L) (st) w = iv_ret rt st w := e21_19
theorem f22_0 : iv_V call mc_22 rt 0 (.ref a :: L) (st) w = iv_V call mc_22 rt 1 (.ref a :: L) (.ref a :: st) w := e22_0
theorem f22_1 : iv_V call mc_22 rt 1 (L) (st) w = iv_gf w st 0 4 (iv_kv call mc_22 rt 2 L w) := e22_1
theorem f22_2 : iv_V call mc_22 rt 2 (v0 :: .int x :: L) (st) w = iv_V call mc_22 rt 3 (v0 :: .int x :: L) (.int x :: st) w := e22_2
theorem f22_3 {a0 : Nat} {x1 : Int32} : iv_V call mc_22 rt 3 (L) (.int x1 :: .ref a0 :: []) w = iv_cr (iv_rc w [.ref a0, .int x1] 6) (iv_ct call mc_22 rt 4 L [] (call 88 [.ref a0, .int x1] w)) := e22_3
theorem f22_4 : iv_V call mc_22 rt 4 (L) (.int x :: st) w = if ¬ x = nI 0 then iv_V call mc_22 rt 7 (L) (st) w else iv_V call mc_22 rt 5 (L) (st) w := e22_4
theorem f22_5 : iv_V call mc_22 rt 5 (L) (st) w = iv_V call mc_22 rt 6 (L) (.int (-1) :: st) w := e22_5
theorem f22_6 : iv_V call mc_22 rt 6 (L) (st) w = iv_ret rt st w := e22_6
theorem f22_7 : iv_V call mc_22 rt 7 (.ref a :: L) (st) w = iv_V call mc_22 rt 8 (.ref a :: L) (.ref a :: st) w := e22_7
theorem f22_8 : iv_V call mc_22 rt 8 (L) (st) w = iv_gf w st 0 4 (iv_kv call mc_22 rt 9 L w) := e22_8
theorem f22_9 : iv_V call mc_22 rt 9 (v0 :: .int x :: L) (st) w = iv_V call mc_22 rt 10 (v0 :: .int x :: L) (.int x :: st) w := e22_9
theorem f22_10 {a0 : Nat} {x1 : Int32} : iv_V call mc_22 rt 10 (L) (.int x1 :: .ref a0 :: []) w = iv_cr (iv_rc w [.ref a0, .int x1] 6) (iv_ct call mc_22 rt 11 L [] (call 91 [.ref a0, .int x1] w)) := e22_10
theorem f22_11 : iv_V call mc_22 rt 11 (v0 :: v1 :: .int x :: L) (st) w = iv_V call mc_22 rt 12 (v0 :: v1 :: .int x :: L) (.int x :: st) w := e22_11
theorem f22_12 : iv_V call mc_22 rt 12 (L) (st) w = iv_V call mc_22 rt 13 (L) (.int (-1) :: st) w := e22_12
theorem f22_13 : iv_V call mc_22 rt 13 (L) (.int y :: .int x :: st) w = if ¬ x = y then iv_V call mc_22 rt 18 (L) (st) w else iv_V call mc_22 rt 14 (L) (st) w := e22_13
theorem f22_14 : iv_V call mc_22 rt 14 (.ref a :: L) (st) w = iv_V call mc_22 rt 15 (.ref a :: L) (.ref a :: st) w := e22_14
theorem f22_15 : iv_V call mc_22 rt 15 (L) (st) w = iv_gf w st 0 4 (iv_kv call mc_22 rt 16 L w) := e22_15
theorem f22_16 : iv_V call mc_22 rt 16 (L) (st) w = iv_gf w st 6 5 (iv_kv call mc_22 rt 17 L w) := e22_16
theorem f22_17 : iv_V call mc_22 rt 17 (L) (st) w = iv_ret rt st w := e22_17
theorem f22_18 : iv_V call mc_22 rt 18 (v0 :: v1 :: .int x :: L) (st) w = iv_V call mc_22 rt 19 (v0 :: v1 :: .int x :: L) (.int x :: st) w := e22_18
theorem f22_19 : iv_V call mc_22 rt 19 (L) (.int x :: st) w = if x < nI 0 then iv_V call mc_22 rt 25 (L) (st) w else iv_V call mc_22 rt 20 (L) (st) w := e22_19
theorem f22_20 : iv_V call mc_22 rt 20 (v0 :: v1 :: .int x :: L) (st) w = iv_V call mc_22 rt 21 (v0 :: v1 :: .int x :: L) (.int x :: st) w := e22_20
theorem f22_21 : iv_V call mc_22 rt 21 (.ref a :: L) (st) w = iv_V call mc_22 rt 22 (.ref a :: L) (.ref a :: st) w := e22_21
theorem f22_22 : iv_V call mc_22 rt 22 (L) (st) w = iv_gf w st 0 4 (iv_kv call mc_22 rt 23 L w) := e22_22
theorem f22_23 : iv_V call mc_22 rt 23 (L) (st) w = iv_gf w st 6 5 (iv_kv call mc_22 rt 24 L w) := e22_23
theorem f22_24 : iv_V call mc_22 rt 24 (L) (.int y :: .int x :: st) w = if x < y then iv_V call mc_22 rt 27 (L) (st) w else iv_V call mc_22 rt 25 (L) (st) w := e22_24
theorem f22_25 : iv_V call mc_22 rt 25 (L) (st) w = iv_V call mc_22 rt 26 (L) (.int (-1) :: st) w := e22_25
theorem f22_26 : iv_V call mc_22 rt 26 (L) (st) w = iv_ret rt st w := e22_26
theorem f22_27 : iv_V call mc_22 rt 27 (.ref a :: L) (st) w = iv_V call mc_22 rt 28 (.ref a :: L) (.ref a :: st) w := e22_27
theorem f22_28 : iv_V call mc_22 rt 28 (L) (st) w = iv_gf w st 0 4 (iv_kv call mc_22 rt 29 L w) := e22_28
theorem f22_29 : iv_V call mc_22 rt 29 (L) (st) w = iv_gf w st 6 4 (iv_kv call mc_22 rt 30 L w) := e22_29
theorem f22_30 : iv_V call mc_22 rt 30 (v0 :: v1 :: .int x :: L) (st) w = iv_V call mc_22 rt 31 (v0 :: v1 :: .int x :: L) (.int x :: st) w := e22_30
theorem f22_31 : iv_V call mc_22 rt 31 (L) (st) w = iv_ald w st iv_isC (iv_kv call mc_22 rt 32 L w) := e22_31
theorem f22_32 : iv_V call mc_22 rt 32 (L) (st) w = iv_ret rt st w := e22_32
theorem f23_0 : iv_V call mc_23 rt 0 (.ref a :: L) (st) w = iv_V call mc_23 rt 1 (.ref a :: L) (.ref a :: st) w := e23_0
theorem f23_1 : iv_V call mc_23 rt 1 (L) (st) w = iv_gf w st 0 3 (iv_kv call mc_23 rt 2 L w) := e23_1
theorem f23_2 : iv_V call mc_23 rt 2 (v0 :: .int x :: L) (st) w = iv_V call mc_23 rt 3 (v0 :: .int x :: L) (.int x :: st) w := e23_2
theorem f23_3 {a0 : Nat} {x1 : Int32} : iv_V call mc_23 rt 3 (L) (.int x1 :: .ref a0 :: []) w = iv_cr (iv_rc w [.ref a0, .int x1] 11) (iv_ct call mc_23 rt 4 L [] (call 111 [.ref a0, .int x1] w)) := e23_3
theorem f23_4 : iv_V call mc_23 rt 4 (L) (.int x :: st) w = if x = nI 0 then iv_V call mc_23 rt 22 (L) (st) w else iv_V call mc_23 rt 5 (L) (st) w := e23_4
theorem f23_5 : iv_V call mc_23 rt 5 (.ref a :: L) (st) w = iv_V call mc_23 rt 6 (.ref a :: L) (.ref a :: st) w := e23_5
theorem f23_6 : iv_V call mc_23 rt 6 (L) (st) w = iv_gf w st 0 0 (iv_kv call mc_23 rt 7 L w) := e23_6
theorem f23_7 : iv_V call mc_23 rt 7 (v0 :: v1 :: .int x :: L) (st) w = iv_V call mc_23 rt 8 (v0 :: v1 :: .int x :: L) (.int x :: st) w := e23_7
theorem f23_8 {a0 : Nat} {x1 : Int32} : iv_V call mc_23 rt 8 (L) (.int x1 :: .ref a0 :: []) w = iv_cr (iv_rc w [.ref a0, .int x1] 10) (iv_ct call mc_23 rt 9 L [] (call 103 [.ref a0, .int x1] w)) := e23_8
theorem f23_9 : iv_V call mc_23 rt 9 (L) (.int x :: st) w = if x = nI 0 then iv_V call mc_23 rt 22 (L) (st) w else iv_V call mc_23 rt 10 (L) (st) w := e23_9
theorem f23_10 : iv_V call mc_23 rt 10 (.ref a :: L) (st) w = iv_V call mc_23 rt 11 (.ref a :: L) (.ref a :: st) w := e23_10
theorem f23_11 : iv_V call mc_23 rt 11 (L) (st) w = iv_gf w st 0 0 (iv_kv call mc_23 rt 12 L w) := e23_11
theorem f23_12 : iv_V call mc_23 rt 12 (.ref a :: L) (st) w = iv_V call mc_23 rt 13 (.ref a :: L) (.ref a :: st) w := e23_12
theorem f23_13 : iv_V call mc_23 rt 13 (L) (st) w = iv_gf w st 0 3 (iv_kv call mc_23 rt 14 L w) := e23_13
theorem f23_14 : iv_V call mc_23 rt 14 (L) (st) w = iv_gf w st 11 1 (iv_kv call mc_23 rt 15 L w) := e23_14
theorem f23_15 : iv_V call mc_23 rt 15 (v0 :: .int x :: L) (st) w = iv_V call mc_23 rt 16 (v0 :: .int x :: L) (.int x :: st) w := e23_15
theorem f23_16 : iv_V call mc_23 rt 16 (L) (st) w = iv_ald w st iv_isI (iv_kv call mc_23 rt 17 L w) := e23_16
theorem f23_17 : iv_V call mc_23 rt 17 (v0 :: v1 :: .int x :: L) (st) w = iv_V call mc_23 rt 18 (v0 :: v1 :: .int x :: L) (.int x :: st) w := e23_17
theorem f23_18 {a0 : Nat} {x1 : Int32} {x2 : Int32} : iv_V call mc_23 rt 18 (L) (.int x2 :: .int x1 :: .ref a0 :: []) w = iv_cr (iv_rc w [.ref a0, .int x1, .int x2] 10) (iv_ct call mc_23 rt 19 L [] (call 106 [.ref a0, .int x1, .int x2] w)) := e23_18
theorem f23_19 : iv_V call mc_23 rt 19 (L) (.int x :: st) w = if x = nI 0 then iv_V call mc_23 rt 22 (L) (st) w else iv_V call mc_23 rt 20 (L) (st) w := e23_19
theorem f23_20 : iv_V call mc_23 rt 20 (L) (st) w = iv_V call mc_23 rt 21 (L) (.int (nI 1) :: st) w := e23_20
theorem f23_21 : iv_V call mc_23 rt 21 (L) (st) w = iv_V call mc_23 rt 23 (L) (st) w := e23_21
theorem f23_22 : iv_V call mc_23 rt 22 (L) (st) w = iv_V call mc_23 rt 23 (L) (.int (nI 0) :: st) w := e23_22
theorem f23_23 : iv_V call mc_23 rt 23 (L) (st) w = iv_ret rt st w := e23_23
theorem f25_0 : iv_V call mc_25 rt 0 (.int x :: L) (st) w = iv_V call mc_25 rt 1 (.int x :: L) (.int x :: st) w := e25_0
theorem f25_1 : iv_V call mc_25 rt 1 (v0 :: .int x :: L) (st) w = iv_V call mc_25 rt 2 (v0 :: .int x :: L) (.int x :: st) w := e25_1
theorem f25_2 : iv_V call mc_25 rt 2 (L) (.int y :: .int x :: st) w = if x < y then iv_V call mc_25 rt 8 (L) (st) w else iv_V call mc_25 rt 3 (L) (st) w := e25_2
theorem f25_3 : iv_V call mc_25 rt 3 (.int x :: L) (st) w = iv_V call mc_25 rt 4 (.int x :: L) (.int x :: st) w := e25_3
theorem f25_4 : iv_V call mc_25 rt 4 (v0 :: v1 :: .int x :: L) (st) w = iv_V call mc_25 rt 5 (v0 :: v1 :: .int x :: L) (.int x :: st) w := e25_4
theorem f25_5 : iv_V call mc_25 rt 5 (L) (.int y :: .int x :: st) w = if y < x then iv_V call mc_25 rt 8 (L) (st) w else iv_V call mc_25 rt 6 (L) (st) w := e25_5
theorem f25_6 : iv_V call mc_25 rt 6 (L) (st) w = iv_V call mc_25 rt 7 (L) (.int (nI 1) :: st) w := e25_6
theorem f25_7 : iv_V call mc_25 rt 7 (L) (st) w = iv_V call mc_25 rt 9 (L) (st) w := e25_7
theorem f25_8 : iv_V call mc_25 rt 8 (L) (st) w = iv_V call mc_25 rt 9 (L) (.int (nI 0) :: st) w := e25_8
theorem f25_9 : iv_V call mc_25 rt 9 (L) (st) w = iv_ret rt st w := e25_9
theorem f26_0 : iv_V call mc_26 rt 0 (.ref a :: L) (st) w = iv_V call mc_26 rt 1 (.ref a :: L) (.ref a :: st) w := e26_0
theorem f26_1 : iv_V call mc_26 rt 1 (L) (st) w = iv_gf w st 1 0 (iv_kv call mc_26 rt 2 L w) := e26_1
theorem f26_2 : iv_V call mc_26 rt 2 (L) (st) w = iv_V call mc_26 rt 3 (L) (.int (nI 6) :: st) w := e26_2
theorem f26_3 : iv_V call mc_26 rt 3 (L) (.int y :: .int x :: st) w = if x = y then iv_V call mc_26 rt 12 (L) (st) w else iv_V call mc_26 rt 4 (L) (st) w := e26_3
theorem f26_4 : iv_V call mc_26 rt 4 (v0 :: .int x :: L) (st) w = iv_V call mc_26 rt 5 (v0 :: .int x :: L) (.int x :: st) w := e26_4
theorem f26_5 : iv_V call mc_26 rt 5 (L) (st) w = iv_V call mc_26 rt 6 (L) (.int (-1) :: st) w := e26_5
theorem f26_6 : iv_V call mc_26 rt 6 (.ref a :: L) (st) w = iv_V call mc_26 rt 7 (.ref a :: L) (.ref a :: st) w := e26_6
theorem f26_7 : iv_V call mc_26 rt 7 (L) (st) w = iv_gf w st 1 0 (iv_kv call mc_26 rt 8 L w) := e26_7
theorem f26_8 : iv_V call mc_26 rt 8 (L) (st) w = iv_V call mc_26 rt 9 (L) (.int (nI 1) :: st) w := e26_8
theorem f26_9 : iv_V call mc_26 rt 9 (L) (.int y :: .int x :: st) w = iv_V call mc_26 rt 10 (L) (.int (x - y) :: st) w := e26_9
theorem f26_10 {x0 : Int32} {x1 : Int32} {x2 : Int32} : iv_V call mc_26 rt 10 (L) (.int x2 :: .int x1 :: .int x0 :: []) w = iv_ct call mc_26 rt 11 L [] (call 25 [.int x0, .int x1, .int x2] w) := e26_10
theorem f26_11 : iv_V call mc_26 rt 11 (L) (.int x :: st) w = if ¬ x = nI 0 then iv_V call mc_26 rt 14 (L) (st) w else iv_V call mc_26 rt 12 (L) (st) w := e26_11
theorem f26_12 : iv_V call mc_26 rt 12 (L) (st) w = iv_V call mc_26 rt 13 (L) (.int (-1) :: st) w := e26_12
theorem f26_13 : iv_V call mc_26 rt 13 (L) (st) w = iv_ret rt st w := e26_13
theorem f26_14 : iv_V call mc_26 rt 14 (.ref a :: L) (st) w = iv_V call mc_26 rt 15 (.ref a :: L) (.ref a :: st) w := e26_14
theorem f26_15 : iv_V call mc_26 rt 15 (L) (st) w = iv_gf w st 1 1 (iv_kv call mc_26 rt 16 L w) := e26_15
theorem f26_16 : iv_V call mc_26 rt 16 (.ref a :: L) (st) w = iv_V call mc_26 rt 17 (.ref a :: L) (.ref a :: st) w := e26_16
theorem f26_17 : iv_V call mc_26 rt 17 (L) (st) w = iv_gf w st 1 0 (iv_kv call mc_26 rt 18 L w) := e26_17
theorem f26_18 : iv_V call mc_26 rt 18 (v0 :: .int x :: L) (st) w = iv_V call mc_26 rt 19 (v0 :: .int x :: L) (.int x :: st) w := e26_18
theorem f26_19 : iv_V call mc_26 rt 19 (L) (st) w = iv_ast w st iv_isI (iv_kw call mc_26 rt 20 L) := e26_19
theorem f26_20 : iv_V call mc_26 rt 20 (.ref a :: L) (st) w = iv_V call mc_26 rt 21 (.ref a :: L) (.ref a :: st) w := e26_20
theorem f26_21 : iv_V call mc_26 rt 21 (L) (.ref a :: st) w = iv_V call mc_26 rt 22 (L) (.ref a :: .ref a :: st) w := e26_21
theorem f26_22 : iv_V call mc_26 rt 22 (L) (st) w = iv_gf w st 1 0 (iv_kv call mc_26 rt 23 L w) := e26_22
theorem f26_23 : iv_V call mc_26 rt 23 (L) (st) w = iv_V call mc_26 rt 24 (L) (.int (nI 1) :: st) w := e26_23
theorem f26_24 : iv_V call mc_26 rt 24 (L) (.int y :: .int x :: st) w = iv_V call mc_26 rt 25 (L) (.int (x + y) :: st) w := e26_24
theorem f26_25 : iv_V call mc_26 rt 25 (L) (st) w = iv_pf w st 1 0 (iv_kw call mc_26 rt 26 L) := e26_25
theorem f26_26 : iv_V call mc_26 rt 26 (.ref a :: L) (st) w = iv_V call mc_26 rt 27 (.ref a :: L) (.ref a :: st) w := e26_26
theorem f26_27 : iv_V call mc_26 rt 27 (L) (st) w = iv_gf w st 1 0 (iv_kv call mc_26 rt 28 L w) := e26_27
theorem f26_28 : iv_V call mc_26 rt 28 (L) (st) w = iv_V call mc_26 rt 29 (L) (.int (nI 1) :: st) w := e26_28
theorem f26_29 : iv_V call mc_26 rt 29 (L) (.int y :: .int x :: st) w = iv_V call mc_26 rt 30 (L) (.int (x - y) :: st) w := e26_29
theorem f26_30 : iv_V call mc_26 rt 30 (L) (st) w = iv_ret rt st w := e26_30
theorem f27_0 : iv_V call mc_27 rt 0 (.ref a :: L) (st) w = iv_V call mc_27 rt 1 (.ref a :: L) (.ref a :: st) w := e27_0
theorem f27_1 : iv_V call mc_27 rt 1 (L) (st) w = iv_gf w st 1 2 (iv_kv call mc_27 rt 2 L w) := e27_1
theorem f27_2 : iv_V call mc_27 rt 2 (L) (st) w = iv_V call mc_27 rt 3 (L) (.int (nI 14) :: st) w := e27_2
theorem f27_3 : iv_V call mc_27 rt 3 (L) (.int y :: .int x :: st) w = if x = y then iv_V call mc_27 rt 17 (L) (st) w else iv_V call mc_27 rt 4 (L) (st) w := e27_3
theorem f27_4 : iv_V call mc_27 rt 4 (v0 :: .int x :: L) (st) w = iv_V call mc_27 rt 5 (v0 :: .int x :: L) (.int x :: st) w := e27_4
theorem f27_5 : iv_V call mc_27 rt 5 (L) (st) w = iv_V call mc_27 rt 6 (L) (.int (nI 0) :: st) w := e27_5
theorem f27_6 : iv_V call mc_27 rt 6 (.ref a :: L) (st) w = iv_V call mc_27 rt 7 (.ref a :: L) (.ref a :: st) w := e27_6
theorem f27_7 : iv_V call mc_27 rt 7 (L) (st) w = iv_gf w st 1 0 (iv_kv call mc_27 rt 8 L w) := e27_7
theorem f27_8 : iv_V call mc_27 rt 8 (L) (st) w = iv_V call mc_27 rt 9 (L) (.int (nI 1) :: st) w := e27_8
theorem f27_9 : iv_V call mc_27 rt 9 (L) (.int y :: .int x :: st) w = iv_V call mc_27 rt 10 (L) (.int (x - y) :: st) w := e27_9
theorem f27_10 {x0 : Int32} {x1 : Int32} {x2 : Int32} : iv_V call mc_27 rt 10 (L) (.int x2 :: .int x1 :: .int x0 :: []) w = iv_ct call mc_27 rt 11 L [] (call 25 [.int x0, .int x1, .int x2] w) := e27_10
theorem f27_11 : iv_V call mc_27 rt 11 (L) (.int x :: st) w = if x = nI 0 then iv_V call mc_27 rt 17 (L) (st) w else iv_V call mc_27 rt 12 (L) (st) w := e27_11
theorem f27_12 : iv_V call mc_27 rt 12 (v0 :: v1 :: .int x :: L) (st) w = iv_V call mc_27 rt 13 (v0 :: v1 :: .int x :: L) (.int x :: st) w := e27_12
theorem f27_13 : iv_V call mc_27 rt 13 (L) (st) w = iv_V call mc_27 rt 14 (L) (.int (nI 0) :: st) w := e27_13
theorem f27_14 : iv_V call mc_27 rt 14 (L) (st) w = iv_V call mc_27 rt 15 (L) (.int (nI 3) :: st) w := e27_14
theorem f27_15 {x0 : Int32} {x1 : Int32} {x2 : Int32} : iv_V call mc_27 rt 15 (L) (.int x2 :: .int x1 :: .int x0 :: []) w = iv_ct call mc_27 rt 16 L [] (call 25 [.int x0, .int x1, .int x2] w) := e27_15
theorem f27_16 : iv_V call mc_27 rt 16 (L) (.int x :: st) w = if ¬ x = nI 0 then iv_V call mc_27 rt 19 (L) (st) w else iv_V call mc_27 rt 17 (L) (st) w := e27_16
theorem f27_17 : iv_V call mc_27 rt 17 (L) (st) w = iv_V call mc_27 rt 18 (L) (.int (-1) :: st) w := e27_17
theorem f27_18 : iv_V call mc_27 rt 18 (L) (st) w = iv_ret rt st w := e27_18
theorem f27_19 : iv_V call mc_27 rt 19 (.ref a :: L) (st) w = iv_V call mc_27 rt 20 (.ref a :: L) (.ref a :: st) w := e27_19
theorem f27_20 : iv_V call mc_27 rt 20 (L) (st) w = iv_gf w st 1 3 (iv_kv call mc_27 rt 21 L w) := e27_20
theorem f27_21 : iv_V call mc_27 rt 21 (.ref a :: L) (st) w = iv_V call mc_27 rt 22 (.ref a :: L) (.ref a :: st) w := e27_21
theorem f27_22 : iv_V call mc_27 rt 22 (L) (st) w = iv_gf w st 1 2 (iv_kv call mc_27 rt 23 L w) := e27_22
theorem f27_23 : iv_V call mc_27 rt 23 (v0 :: .int x :: L) (st) w = iv_V call mc_27 rt 24 (v0 :: .int x :: L) (.int x :: st) w := e27_23
theorem f27_24 : iv_V call mc_27 rt 24 (L) (st) w = iv_ast w st iv_isI (iv_kw call mc_27 rt 25 L) := e27_24
theorem f27_25 : iv_V call mc_27 rt 25 (.ref a :: L) (st) w = iv_V call mc_27 rt 26 (.ref a :: L) (.ref a :: st) w := e27_25
theorem f27_26 : iv_V call mc_27 rt 26 (L) (st) w = iv_gf w st 1 4 (iv_kv call mc_27 rt 27 L w) := e27_26
theorem f27_27 : iv_V call mc_27 rt 27 (.ref a :: L) (st) w = iv_V call mc_27 rt 28 (.ref a :: L) (.ref a :: st) w := e27_27
theorem f27_28 : iv_V call mc_27 rt 28 (L) (st) w = iv_gf w st 1 2 (iv_kv call mc_27 rt 29 L w) := e27_28
theorem f27_29 : iv_V call mc_27 rt 29 (v0 :: v1 :: .int x :: L) (st) w = iv_V call mc_27 rt 30 (v0 :: v1 :: .int x :: L) (.int x :: st) w := e27_29
theorem f27_30 : iv_V call mc_27 rt 30 (L) (st) w = iv_ast w st iv_isI (iv_kw call mc_27 rt 31 L) := e27_30
theorem f27_31 : iv_V call mc_27 rt 31 (.ref a :: L) (st) w = iv_V call mc_27 rt 32 (.ref a :: L) (.ref a :: st) w := e27_31
theorem f27_32 : iv_V call mc_27 rt 32 (L) (.ref a :: st) w = iv_V call mc_27 rt 33 (L) (.ref a :: .ref a :: st) w := e27_32
theorem f27_33 : iv_V call mc_27 rt 33 (L) (st) w = iv_gf w st 1 2 (iv_kv call mc_27 rt 34 L w) := e27_33
theorem f27_34 : iv_V call mc_27 rt 34 (L) (st) w = iv_V call mc_27 rt 35 (L) (.int (nI 1) :: st) w := e27_34
theorem f27_35 : iv_V call mc_27 rt 35 (L) (.int y :: .int x :: st) w = iv_V call mc_27 rt 36 (L) (.int (x + y) :: st) w := e27_35
theorem f27_36 : iv_V call mc_27 rt 36 (L) (st) w = iv_pf w st 1 2 (iv_kw call mc_27 rt 37 L) := e27_36
theorem f27_37 : iv_V call mc_27 rt 37 (.ref a :: L) (st) w = iv_V call mc_27 rt 38 (.ref a :: L) (.ref a :: st) w := e27_37
theorem f27_38 : iv_V call mc_27 rt 38 (L) (st) w = iv_gf w st 1 2 (iv_kv call mc_27 rt 39 L w) := e27_38
theorem f27_39 : iv_V call mc_27 rt 39 (L) (st) w = iv_V call mc_27 rt 40 (L) (.int (nI 1) :: st) w := e27_39
theorem f27_40 : iv_V call mc_27 rt 40 (L) (.int y :: .int x :: st) w = iv_V call mc_27 rt 41 (L) (.int (x - y) :: st) w := e27_40
theorem f27_41 : iv_V call mc_27 rt 41 (L) (st) w = iv_ret rt st w := e27_41
theorem f28_0 : iv_V call mc_28 rt 0 (.ref a :: L) (st) w = iv_V call mc_28 rt 1 (.ref a :: L) (.ref a :: st) w := e28_0
theorem f28_1 : iv_V call mc_28 rt 1 (L) (st) w = iv_gf w st 1 7 (iv_kv call mc_28 rt 2 L w) := e28_1
theorem f28_2 : iv_V call mc_28 rt 2 (L) (st) w = iv_V call mc_28 rt 3 (L) (.int (nI 24) :: st) w := e28_2
theorem f28_3 : iv_V call mc_28 rt 3 (L) (.int y :: .int x :: st) w = if x = y then iv_V call mc_28 rt 30 (L) (st) w else iv_V call mc_28 rt 4 (L) (st) w := e28_3
theorem f28_4 : iv_V call mc_28 rt 4 (v0 :: .int x :: L) (st) w = iv_V call mc_28 rt 5 (v0 :: .int x :: L) (.int x :: st) w := e28_4
theorem f28_5 : iv_V call mc_28 rt 5 (L) (st) w = iv_V call mc_28 rt 6 (L) (.int (nI 0) :: st) w := e28_5
theorem f28_6 : iv_V call mc_28 rt 6 (.ref a :: L) (st) w = iv_V call mc_28 rt 7 (.ref a :: L) (.ref a :: st) w := e28_6
theorem f28_7 : iv_V call mc_28 rt 7 (L) (st) w = iv_gf w st 1 2 (iv_kv call mc_28 rt 8 L w) := e28_7
theorem f28_8 : iv_V call mc_28 rt 8 (L) (st) w = iv_V call mc_28 rt 9 (L) (.int (nI 1) :: st) w := e28_8
theorem f28_9 : iv_V call mc_28 rt 9 (L) (.int y :: .int x :: st) w = iv_V call mc_28 rt 10 (L) (.int (x - y) :: st) w := e28_9
theorem f28_10 {x0 : Int32} {x1 : Int32} {x2 : Int32} : iv_V call mc_28 rt 10 (L) (.int x2 :: .int x1 :: .int x0 :: []) w = iv_ct call mc_28 rt 11 L [] (call 25 [.int x0, .int x1, .int x2] w) := e28_10
theorem f28_11 : iv_V call mc_28 rt 11 (L) (.int x :: st) w = if x = nI 0 then iv_V call mc_28 rt 30 (L) (st) w else iv_V call mc_28 rt 12 (L) (st) w := e28_11
theorem f28_12 : iv_V call mc_28 rt 12 (v0 :: v1 :: v2 :: .int x :: L) (st) w = iv_V call mc_28 rt 13 (v0 :: v1 :: v2 :: .int x :: L) (.int x :: st) w := e28_12
theorem f28_13 : iv_V call mc_28 rt 13 (L) (st) w = iv_V call mc_28 rt 14 (L) (.int (nI 0) :: st) w := e28_13
theorem f28_14 : iv_V call mc_28 rt 14 (L) (st) w = iv_V call mc_28 rt 15 (L) (.int (nI 4) :: st) w := e28_14
theorem f28_15 {x0 : Int32} {x1 : Int32} {x2 : Int32} : iv_V call mc_28 rt 15 (L) (.int x2 :: .int x1 :: .int x0 :: []) w = iv_ct call mc_28 rt 16 L [] (call 25 [.int x0, .int x1, .int x2] w) := e28_15
theorem f28_16 : iv_V call mc_28 rt 16 (L) (.int x :: st) w = if x = nI 0 then iv_V call mc_28 rt 30 (L) (st) w else iv_V call mc_28 rt 17 (L) (st) w := e28_16
theorem f28_17 : iv_V call mc_28 rt 17 (v0 :: v1 :: v2 :: .int x :: L) (st) w = iv_V call mc_28 rt 18 (v0 :: v1 :: v2 :: .int x :: L) (.int x :: st) w := e28_17
theorem f28_18 : iv_V call mc_28 rt 18 (L) (st) w = iv_V call mc_28 rt 19 (L) (.int (nI 4) :: st) w := e28_18
theorem f28_19 : iv_V call mc_28 rt 19 (L) (.int y :: .int x :: st) w = if ¬ x = y then iv_V call mc_28 rt 25 (L) (st) w else iv_V call mc_28 rt 20 (L) (st) w := e28_19
theorem f28_20 : iv_V call mc_28 rt 20 (v0 :: v1 :: v2 :: v3 :: .int x :: L) (st) w = iv_V call mc_28 rt 21 (v0 :: v1 :: v2 :: v3 :: .int x :: L) (.int x :: st) w := e28_20
theorem f28_21 : iv_V call mc_28 rt 21 (L) (st) w = iv_V call mc_28 rt 22 (L) (.int (nI 0) :: st) w := e28_21
theorem f28_22 : iv_V call mc_28 rt 22 (L) (st) w = iv_V call mc_28 rt 23 (L) (.int (nI 2) :: st) w := e28_22
theorem f28_23 {x0 : Int32} {x1 : Int32} {x2 : Int32} : iv_V call mc_28 rt 23 (L) (.int x2 :: .int x1 :: .int x0 :: []) w = iv_ct call mc_28 rt 24 L [] (call 25 [.int x0, .int x1, .int x2] w) := e28_23
theorem f28_24 : iv_V call mc_28 rt 24 (L) (.int x :: st) w = if x = nI 0 then iv_V call mc_28 rt 30 (L) (st) w else iv_V call mc_28 rt 25 (L) (st) w := e28_24
theorem f28_25 : iv_V call mc_28 rt 25 (v0 :: v1 :: v2 :: v3 :: v4 :: v5 :: .int x :: L) (st) w = iv_V call mc_28 rt 26 (v0 :: v1 :: v2 :: v3 :: v4 :: v5 :: .int x :: L) (.int x :: st) w := e28_25
theorem f28_26 : iv_V call mc_28 rt 26 (L) (st) w = iv_V call mc_28 rt 27 (L) (.int (nI 1) :: st) w := e28_26
theorem f28_27 : iv_V call mc_28 rt 27 (L) (st) w = iv_V call mc_28 rt 28 (L) (.int (nI 63) :: st) w := e28_27
theorem f28_28 {x0 : Int32} {x1 : Int32} {x2 : Int32} : iv_V call mc_28 rt 28 (L) (.int x2 :: .int x1 :: .int x0 :: []) w = iv_ct call mc_28 rt 29 L [] (call 25 [.int x0, .int x1, .int x2] w) := e28_28
theorem f28_29 : iv_V call mc_28 rt 29 (L) (.int x :: st) w = if ¬ x = nI 0 then iv_V call mc_28 rt 32 (L) (st) w else iv_V call mc_28 rt 30 (L) (st) w := e28_29
theorem f28_30 : iv_V call mc_28 rt 30 (L) (st) w = iv_V call mc_28 rt 31 (L) (.int (-1) :: st) w := e28_30
theorem f28_31 : iv_V call mc_28 rt 31 (L) (st) w = iv_ret rt st w := e28_31
theorem f28_32 : iv_V call mc_28 rt 32 (.ref a :: L) (st) w = iv_V call mc_28 rt 33 (.ref a :: L) (.ref a :: st) w := e28_32
theorem f28_33 : iv_V call mc_28 rt 33 (L) (st) w = iv_gf w st 1 8 (iv_kv call mc_28 rt 34 L w) := e28_33
theorem f28_34 : iv_V call mc_28 rt 34 (.ref a :: L) (st) w = iv_V call mc_28 rt 35 (.ref a :: L) (.ref a :: st) w := e28_34
theorem f28_35 : iv_V call mc_28 rt 35 (L) (st) w = iv_gf w st 1 7 (iv_kv call mc_28 rt 36 L w) := e28_35
theorem f28_36 : iv_V call mc_28 rt 36 (v0 :: .int x :: L) (st) w = iv_V call mc_28 rt 37 (v0 :: .int x :: L) (.int x :: st) w := e28_36
theorem f28_37 : iv_V call mc_28 rt 37 (L) (st) w = iv_ast w st iv_isI (iv_kw call mc_28 rt 38 L) := e28_37
theorem f28_38 : iv_V call mc_28 rt 38 (.ref a :: L) (st) w = iv_V call mc_28 rt 39 (.ref a :: L) (.ref a :: st) w := e28_38
theorem f28_39 : iv_V call mc_28 rt 39 (L) (st) w = iv_gf w st 1 9 (iv_kv call mc_28 rt 40 L w) := e28_39
theorem f28_40 : iv_V call mc_28 rt 40 (.ref a :: L) (st) w = iv_V call mc_28 rt 41 (.ref a :: L) (.ref a :: st) w := e28_40
theorem f28_41 : iv_V call mc_28 rt 41 (L) (st) w = iv_gf w st 1 7 (iv_kv call mc_28 rt 42 L w) := e28_41
theorem f28_42 : iv_V call mc_28 rt 42 (v0 :: v1 :: .int x :: L) (st) w = iv_V call mc_28 rt 43 (v0 :: v1 :: .int x :: L) (.int x :: st) w := e28_42
theorem f28_43 : iv_V call mc_28 rt 43 (L) (st) w = iv_ast w st iv_isZ (iv_kw call mc_28 rt 44 L) := e28_43
theorem f28_44 : iv_V call mc_28 rt 44 (.ref a :: L) (st) w = iv_V call mc_28 rt 45 (.ref a :: L) (.ref a :: st) w := e28_44
theorem f28_45 : iv_V call mc_28 rt 45 (L) (st) w = iv_gf w st 1 10 (iv_kv call mc_28 rt 46 L w) := e28_45
theorem f28_46 : iv_V call mc_28 rt 46 (.ref a :: L) (st) w = iv_V call mc_28 rt 47 (.ref a :: L) (.ref a :: st) w := e28_46
theorem f28_47 : iv_V call mc_28 rt 47 (L) (st) w = iv_gf w st 1 7 (iv_kv call mc_28 rt 48 L w) := e28_47
theorem f28_48 : iv_V call mc_28 rt 48 (v0 :: v1 :: v2 :: .int x :: L) (st) w = iv_V call mc_28 rt 49 (v0 :: v1 :: v2 :: .int x :: L) (.int x :: st) w := e28_48
theorem f28_49 : iv_V call mc_28 rt 49 (L) (st) w = iv_ast w st iv_isI (iv_kw call mc_28 rt 50 L) := e28_49
theorem f28_50 : iv_V call mc_28 rt 50 (.ref a :: L) (st) w = iv_V call mc_28 rt 51 (.ref a :: L) (.ref a :: st) w := e28_50
theorem f28_51 : iv_V call mc_28 rt 51 (L) (st) w = iv_gf w st 1 11 (iv_kv call mc_28 rt 52 L w) := e28_51
theorem f28_52 : iv_V call mc_28 rt 52 (.ref a :: L) (st) w = iv_V call mc_28 rt 53 (.ref a :: L) (.ref a :: st) w := e28_52
theorem f28_53 : iv_V call mc_28 rt 53 (L) (st) w = iv_gf w st 1 7 (iv_kv call mc_28 rt 54 L w) := e28_53
theorem f28_54 : iv_V call mc_28 rt 54 (v0 :: v1 :: v2 :: v3 :: .int x :: L) (st) w = iv_V call mc_28 rt 55 (v0 :: v1 :: v2 :: v3 :: .int x :: L) (.int x :: st) w := e28_54
theorem f28_55 : iv_V call mc_28 rt 55 (L) (st) w = iv_ast w st iv_isI (iv_kw call mc_28 rt 56 L) := e28_55
theorem f28_56 : iv_V call mc_28 rt 56 (.ref a :: L) (st) w = iv_V call mc_28 rt 57 (.ref a :: L) (.ref a :: st) w := e28_56
theorem f28_57 : iv_V call mc_28 rt 57 (L) (st) w = iv_gf w st 1 12 (iv_kv call mc_28 rt 58 L w) := e28_57
theorem f28_58 : iv_V call mc_28 rt 58 (.ref a :: L) (st) w = iv_V call mc_28 rt 59 (.ref a :: L) (.ref a :: st) w := e28_58
theorem f28_59 : iv_V call mc_28 rt 59 (L) (st) w = iv_gf w st 1 7 (iv_kv call mc_28 rt 60 L w) := e28_59
theorem f28_60 : iv_V call mc_28 rt 60 (v0 :: v1 :: v2 :: v3 :: v4 :: .int x :: L) (st) w = iv_V call mc_28 rt 61 (v0 :: v1 :: v2 :: v3 :: v4 :: .int x :: L) (.int x :: st) w := e28_60
theorem f28_61 : iv_V call mc_28 rt 61 (L) (st) w = iv_ast w st iv_isI (iv_kw call mc_28 rt 62 L) := e28_61
theorem f28_62 : iv_V call mc_28 rt 62 (.ref a :: L) (st) w = iv_V call mc_28 rt 63 (.ref a :: L) (.ref a :: st) w := e28_62
theorem f28_63 : iv_V call mc_28 rt 63 (L) (st) w = iv_gf w st 1 13 (iv_kv call mc_28 rt 64 L w) := e28_63
theorem f28_64 : iv_V call mc_28 rt 64 (.ref a :: L) (st) w = iv_V call mc_28 rt 65 (.ref a :: L) (.ref a :: st) w := e28_64
theorem f28_65 : iv_V call mc_28 rt 65 (L) (st) w = iv_gf w st 1 7 (iv_kv call mc_28 rt 66 L w) := e28_65
theorem f28_66 : iv_V call mc_28 rt 66 (v0 :: v1 :: v2 :: v3 :: v4 :: v5 :: .int x :: L) (st) w = iv_V call mc_28 rt 67 (v0 :: v1 :: v2 :: v3 :: v4 :: v5 :: .int x :: L) (.int x :: st) w := e28_66
theorem f28_67 : iv_V call mc_28 rt 67 (L) (st) w = iv_ast w st iv_isI (iv_kw call mc_28 rt 68 L) := e28_67
theorem f28_68 : iv_V call mc_28 rt 68 (.ref a :: L) (st) w = iv_V call mc_28 rt 69 (.ref a :: L) (.ref a :: st) w := e28_68
theorem f28_69 : iv_V call mc_28 rt 69 (L) (.ref a :: st) w = iv_V call mc_28 rt 70 (L) (.ref a :: .ref a :: st) w := e28_69
theorem f28_70 : iv_V call mc_28 rt 70 (L) (st) w = iv_gf w st 1 7 (iv_kv call mc_28 rt 71 L w) := e28_70
theorem f28_71 : iv_V call mc_28 rt 71 (L) (st) w = iv_V call mc_28 rt 72 (L) (.int (nI 1) :: st) w := e28_71
theorem f28_72 : iv_V call mc_28 rt 72 (L) (.int y :: .int x :: st) w = iv_V call mc_28 rt 73 (L) (.int (x + y) :: st) w := e28_72
theorem f28_73 : iv_V call mc_28 rt 73 (L) (st) w = iv_pf w st 1 7 (iv_kw call mc_28 rt 74 L) := e28_73
theorem f28_74 : iv_V call mc_28 rt 74 (.ref a :: L) (st) w = iv_V call mc_28 rt 75 (.ref a :: L) (.ref a :: st) w := e28_74
theorem f28_75 : iv_V call mc_28 rt 75 (L) (st) w = iv_gf w st 1 7 (iv_kv call mc_28 rt 76 L w) := e28_75
theorem f28_76 : iv_V call mc_28 rt 76 (L) (st) w = iv_V call mc_28 rt 77 (L) (.int (nI 1) :: st) w := e28_76
theorem f28_77 : iv_V call mc_28 rt 77 (L) (.int y :: .int x :: st) w = iv_V call mc_28 rt 78 (L) (.int (x - y) :: st) w := e28_77
theorem f28_78 : iv_V call mc_28 rt 78 (L) (st) w = iv_ret rt st w := e28_78
theorem f29_0 : iv_V call mc_29 rt 0 (v0 :: .int x :: L) (st) w = iv_V call mc_29 rt 1 (v0 :: .int x :: L) (.int x :: st) w := e29_0
theorem f29_1 : iv_V call mc_29 rt 1 (L) (st) w = iv_V call mc_29 rt 2 (L) (.int (nI 0) :: st) w := e29_1
theorem f29_2 : iv_V call mc_29 rt 2 (L) (st) w = iv_V call mc_29 rt 3 (L) (.int (nI 2) :: st) w := e29_2
theorem f29_3 {x0 : Int32} {x1 : Int32} {x2 : Int32} : iv_V call mc_29 rt 3 (L) (.int x2 :: .int x1 :: .int x0 :: []) w = iv_ct call mc_29 rt 4 L [] (call 25 [.int x0, .int x1, .int x2] w) := e29_3
theorem f29_4 : iv_V call mc_29 rt 4 (L) (.int x :: st) w = if x = nI 0 then iv_V call mc_29 rt 16 (L) (st) w else iv_V call mc_29 rt 5 (L) (st) w := e29_4
theorem f29_5 : iv_V call mc_29 rt 5 (v0 :: v1 :: .int x :: L) (st) w = iv_V call mc_29 rt 6 (v0 :: v1 :: .int x :: L) (.int x :: st) w := e29_5
theorem f29_6 : iv_V call mc_29 rt 6 (L) (st) w = iv_V call mc_29 rt 7 (L) (.int (nI 0) :: st) w := e29_6
theorem f29_7 : iv_V call mc_29 rt 7 (L) (st) w = iv_V call mc_29 rt 8 (L) (.int (nI 3) :: st) w := e29_7
theorem f29_8 {x0 : Int32} {x1 : Int32} {x2 : Int32} : iv_V call mc_29 rt 8 (L) (.int x2 :: .int x1 :: .int x0 :: []) w = iv_ct call mc_29 rt 9 L [] (call 25 [.int x0, .int x1, .int x2] w) := e29_8
theorem f29_9 : iv_V call mc_29 rt 9 (L) (.int x :: st) w = if x = nI 0 then iv_V call mc_29 rt 16 (L) (st) w else iv_V call mc_29 rt 10 (L) (st) w := e29_9
theorem f29_10 : iv_V call mc_29 rt 10 (.ref a :: L) (st) w = iv_V call mc_29 rt 11 (.ref a :: L) (.ref a :: st) w := e29_10
theorem f29_11 : iv_V call mc_29 rt 11 (L) (st) w = iv_gf w st 1 14 (iv_kv call mc_29 rt 12 L w) := e29_11
theorem f29_12 : iv_V call mc_29 rt 12 (v0 :: .int x :: L) (st) w = iv_V call mc_29 rt 13 (v0 :: .int x :: L) (.int x :: st) w := e29_12
theorem f29_13 : iv_V call mc_29 rt 13 (L) (st) w = iv_ald w st iv_isI (iv_kv call mc_29 rt 14 L w) := e29_13
theorem f29_14 : iv_V call mc_29 rt 14 (L) (st) w = iv_V call mc_29 rt 15 (L) (.int (nI 3) :: st) w := e29_14
theorem f29_15 : iv_V call mc_29 rt 15 (L) (.int y :: .int x :: st) w = if ¬ x = y then iv_V call mc_29 rt 18 (L) (st) w else iv_V call mc_29 rt 16 (L) (st) w := e29_15
theorem f29_16 : iv_V call mc_29 rt 16 (L) (st) w = iv_V call mc_29 rt 17 (L) (.int (nI 0) :: st) w := e29_16
theorem f29_17 : iv_V call mc_29 rt 17 (L) (st) w = iv_ret rt st w := e29_17
theorem f29_18 : iv_V call mc_29 rt 18 (L) (st) w = iv_V call mc_29 rt 19 (L) (.int (nI 3) :: st) w := e29_18
theorem f29_19 : iv_V call mc_29 rt 19 (v0 :: .int x :: L) (st) w = iv_V call mc_29 rt 20 (v0 :: .int x :: L) (.int x :: st) w := e29_19
theorem f29_20 : iv_V call mc_29 rt 20 (L) (.int y :: .int x :: st) w = iv_V call mc_29 rt 21 (L) (.int (x * y) :: st) w := e29_20
theorem f29_21 : iv_V call mc_29 rt 21 (.ref a :: L) (st) w = iv_V call mc_29 rt 22 (.ref a :: L) (.ref a :: st) w := e29_21
theorem f29_22 : iv_V call mc_29 rt 22 (L) (st) w = iv_gf w st 1 14 (iv_kv call mc_29 rt 23 L w) := e29_22
theorem f29_23 : iv_V call mc_29 rt 23 (v0 :: .int x :: L) (st) w = iv_V call mc_29 rt 24 (v0 :: .int x :: L) (.int x :: st) w := e29_23
theorem f29_24 : iv_V call mc_29 rt 24 (L) (st) w = iv_ald w st iv_isI (iv_kv call mc_29 rt 25 L w) := e29_24
theorem f29_25 : iv_V call mc_29 rt 25 (L) (.int y :: .int x :: st) w = iv_V call mc_29 rt 26 (L) (.int (x + y) :: st) w := e29_25
theorem f29_26 : iv_V call mc_29 rt 26 (v0 :: v1 :: v2 :: v3 :: v4 :: u :: L) (.int x :: st) w = iv_V call mc_29 rt 27 (v0 :: v1 :: v2 :: v3 :: v4 :: .int x :: L) (st) w := e29_26
theorem f29_27 : iv_V call mc_29 rt 27 (.ref a :: L) (st) w = iv_V call mc_29 rt 28 (.ref a :: L) (.ref a :: st) w := e29_27
theorem f29_28 : iv_V call mc_29 rt 28 (L) (st) w = iv_gf w st 1 15 (iv_kv call mc_29 rt 29 L w) := e29_28
theorem f29_29 : iv_V call mc_29 rt 29 (v0 :: v1 :: v2 :: v3 :: v4 :: .int x :: L) (st) w = iv_V call mc_29 rt 30 (v0 :: v1 :: v2 :: v3 :: v4 :: .int x :: L) (.int x :: st) w := e29_29
theorem f29_30 : iv_V call mc_29 rt 30 (v0 :: v1 :: .int x :: L) (st) w = iv_V call mc_29 rt 31 (v0 :: v1 :: .int x :: L) (.int x :: st) w := e29_30
theorem f29_31 : iv_V call mc_29 rt 31 (L) (st) w = iv_ast w st iv_isI (iv_kw call mc_29 rt 32 L) := e29_31
theorem f29_32 : iv_V call mc_29 rt 32 (.ref a :: L) (st) w = iv_V call mc_29 rt 33 (.ref a :: L) (.ref a :: st) w := e29_32
theorem f29_33 : iv_V call mc_29 rt 33 (L) (st) w = iv_gf w st 1 16 (iv_kv call mc_29 rt 34 L w) := e29_33
theorem f29_34 : iv_V call mc_29 rt 34 (v0 :: v1 :: v2 :: v3 :: v4 :: .int x :: L) (st) w = iv_V call mc_29 rt 35 (v0 :: v1 :: v2 :: v3 :: v4 :: .int x :: L) (.int x :: st) w := e29_34
theorem f29_35 : iv_V call mc_29 rt 35 (v0 :: v1 :: v2 :: .int x :: L) (st) w = iv_V call mc_29 rt 36 (v0 :: v1 :: v2 :: .int x :: L) (.int x :: st) w := e29_35
theorem f29_36 : iv_V call mc_29 rt 36 (L) (st) w = iv_ast w st iv_isI (iv_kw call mc_29 rt 37 L) := e29_36
theorem f29_37 : iv_V call mc_29 rt 37 (.ref a :: L) (st) w = iv_V call mc_29 rt 38 (.ref a :: L) (.ref a :: st) w := e29_37
theorem f29_38 : iv_V call mc_29 rt 38 (L) (st) w = iv_gf w st 1 17 (iv_kv call mc_29 rt 39 L w) := e29_38
theorem f29_39 : iv_V call mc_29 rt 39 (v0 :: v1 :: v2 :: v3 :: v4 :: .int x :: L) (st) w = iv_V call mc_29 rt 40 (v0 :: v1 :: v2 :: v3 :: v4 :: .int x :: L) (.int x :: st) w := e29_39
theorem f29_40 : iv_V call mc_29 rt 40 (v0 :: v1 :: v2 :: v3 :: .int x :: L) (st) w = iv_V call mc_29 rt 41 (v0 :: v1 :: v2 :: v3 :: .int x :: L) (.int x :: st) w := e29_40
theorem f29_41 : iv_V call mc_29 rt 41 (L) (st) w = iv_ast w st iv_isI (iv_kw call mc_29 rt 42 L) := e29_41
theorem f29_42 : iv_V call mc_29 rt 42 (.ref a :: L) (st) w = iv_V call mc_29 rt 43 (.ref a :: L) (.ref a :: st) w := e29_42
theorem f29_43 : iv_V call mc_29 rt 43 (L) (st) w = iv_gf w st 1 14 (iv_kv call mc_29 rt 44 L w) := e29_43
theorem f29_44 : iv_V call mc_29 rt 44 (v0 :: .int x :: L) (st) w = iv_V call mc_29 rt 45 (v0 :: .int x :: L) (.int x :: st) w := e29_44
theorem f29_45 : iv_V call mc_29 rt 45 (L) (.int x :: .ref a :: st) w = iv_V call mc_29 rt 46 (L) (.int x :: .ref a :: .int x :: .ref a :: st) w := e29_45
theorem f29_46 : iv_V call mc_29 rt 46 (L) (st) w = iv_ald w st iv_isI (iv_kv call mc_29 rt 47 L w) := e29_46
theorem f29_47 : iv_V call mc_29 rt 47 (L) (st) w = iv_V call mc_29 rt 48 (L) (.int (nI 1) :: st) w := e29_47
theorem f29_48 : iv_V call mc_29 rt 48 (L) (.int y :: .int x :: st) w = iv_V call mc_29 rt 49 (L) (.int (x + y) :: st) w := e29_48
theorem f29_49 : iv_V call mc_29 rt 49 (L) (st) w = iv_ast w st iv_isI (iv_kw call mc_29 rt 50 L) := e29_49
theorem f29_50 : iv_V call mc_29 rt 50 (L) (st) w = iv_V call mc_29 rt 51 (L) (.int (nI 1) :: st) w := e29_50
theorem f29_51 : iv_V call mc_29 rt 51 (L) (st) w = iv_ret rt st w := e29_51
theorem f30_0 : iv_V call mc_30 rt 0 (v0 :: .int x :: L) (st) w = iv_V call mc_30 rt 1 (v0 :: .int x :: L) (.int x :: st) w := e30_0
theorem f30_1 : iv_V call mc_30 rt 1 (L) (st) w = iv_V call mc_30 rt 2 (L) (.int (nI 0) :: st) w := e30_1
theorem f30_2 : iv_V call mc_30 rt 2 (L) (st) w = iv_V call mc_30 rt 3 (L) (.int (nI 2) :: st) w := e30_2
theorem f30_3 {x0 : Int32} {x1 : Int32} {x2 : Int32} : iv_V call mc_30 rt 3 (L) (.int x2 :: .int x1 :: .int x0 :: []) w = iv_ct call mc_30 rt 4 L [] (call 25 [.int x0, .int x1, .int x2] w) := e30_3
theorem f30_4 : iv_V call mc_30 rt 4 (L) (.int x :: st) w = if ¬ x = nI 0 then iv_V call mc_30 rt 7 (L) (st) w else iv_V call mc_30 rt 5 (L) (st) w := e30_4
theorem f30_5 : iv_V call mc_30 rt 5 (L) (st) w = iv_V call mc_30 rt 6 (L) (.int (nI 0) :: st) w := e30_5
theorem f30_6 : iv_V call mc_30 rt 6 (L) (st) w = iv_ret rt st w := e30_6
theorem f30_7 : iv_V call mc_30 rt 7 (.ref a :: L) (st) w = iv_V call mc_30 rt 8 (.ref a :: L) (.ref a :: st) w := e30_7
theorem f30_8 : iv_V call mc_30 rt 8 (L) (st) w = iv_gf w st 1 18 (iv_kv call mc_30 rt 9 L w) := e30_8
theorem f30_9 : iv_V call mc_30 rt 9 (v0 :: .int x :: L) (st) w = iv_V call mc_30 rt 10 (v0 :: .int x :: L) (.int x :: st) w := e30_9
theorem f30_10 : iv_V call mc_30 rt 10 (v0 :: v1 :: .int x :: L) (st) w = iv_V call mc_30 rt 11 (v0 :: v1 :: .int x :: L) (.int x :: st) w := e30_10
theorem f30_11 : iv_V call mc_30 rt 11 (L) (st) w = iv_ast w st iv_isZ (iv_kw call mc_30 rt 12 L) := e30_11
theorem f30_12 : iv_V call mc_30 rt 12 (L) (st) w = iv_V call mc_30 rt 13 (L) (.int (nI 1) :: st) w := e30_12
theorem f30_13 : iv_V call mc_30 rt 13 (L) (st) w = iv_ret rt st w := e30_13
theorem f31_0 : iv_V call mc_31 rt 0 (L) (st) w = iv_V call mc_31 rt 1 (L) (.int (nI 1) :: st) w := e31_0
theorem f31_1 : iv_V call mc_31 rt 1 (v0 :: .int x :: L) (st) w = iv_V call mc_31 rt 2 (v0 :: .int x :: L) (.int x :: st) w := e31_1
theorem f31_2 : iv_V call mc_31 rt 2 (L) (.int y :: .int x :: st) w = iv_V call mc_31 rt 3 (L) (.int (x <<< (y &&& 31)) :: st) w := e31_2
theorem f31_3 : iv_V call mc_31 rt 3 (v0 :: v1 :: u :: L) (.int x :: st) w = iv_V call mc_31 rt 4 (v0 :: v1 :: .int x :: L) (st) w := e31_3
theorem f31_4 : iv_V call mc_31 rt 4 (L) (st) w = iv_V call mc_31 rt 5 (L) (.int (nI 0) :: st) w := e31_4
theorem f31_5 : iv_V call mc_31 rt 5 (v0 :: v1 :: v2 :: u :: L) (.int x :: st) w = iv_V call mc_31 rt 6 (v0 :: v1 :: v2 :: .int x :: L) (st) w := e31_5
theorem f31_6 : iv_V call mc_31 rt 6 (v0 :: v1 :: v2 :: .int x :: L) (st) w = iv_V call mc_31 rt 7 (v0 :: v1 :: v2 :: .int x :: L) (.int x :: st) w := e31_6
theorem f31_7 : iv_V call mc_31 rt 7 (L) (st) w = iv_V call mc_31 rt 8 (L) (.int (nI 6) :: st) w := e31_7
theorem f31_8 : iv_V call mc_31 rt 8 (L) (.int y :: .int x :: st) w = if y ≤ x then iv_V call mc_31 rt 34 (L) (st) w else iv_V call mc_31 rt 9 (L) (st) w := e31_8
theorem f31_9 : iv_V call mc_31 rt 9 (L) (st) w = iv_V call mc_31 rt 10 (L) (.int (nI 0) :: st) w := e31_9
theorem f31_10 : iv_V call mc_31 rt 10 (v0 :: v1 :: v2 :: v3 :: u :: L) (.int x :: st) w = iv_V call mc_31 rt 11 (v0 :: v1 :: v2 :: v3 :: .int x :: L) (st) w := e31_10
theorem f31_11 : iv_V call mc_31 rt 11 (v0 :: v1 :: v2 :: v3 :: .int x :: L) (st) w = iv_V call mc_31 rt 12 (v0 :: v1 :: v2 :: v3 :: .int x :: L) (.int x :: st) w := e31_11
theorem f31_12 : iv_V call mc_31 rt 12 (L) (st) w = iv_V call mc_31 rt 13 (L) (.int (nI 6) :: st) w := e31_12
theorem f31_13 : iv_V call mc_31 rt 13 (L) (.int y :: .int x :: st) w = if y ≤ x then iv_V call mc_31 rt 32 (L) (st) w else iv_V call mc_31 rt 14 (L) (st) w := e31_13
theorem f31_14 : iv_V call mc_31 rt 14 (v0 :: v1 :: .int x :: L) (st) w = iv_V call mc_31 rt 15 (v0 :: v1 :: .int x :: L) (.int x :: st) w := e31_14
theorem f31_15 : iv_V call mc_31 rt 15 (v0 :: v1 :: v2 :: v3 :: .int x :: L) (st) w = iv_V call mc_31 rt 16 (v0 :: v1 :: v2 :: v3 :: .int x :: L) (.int x :: st) w := e31_15
theorem f31_16 : iv_V call mc_31 rt 16 (L) (.int y :: .int x :: st) w = iv_V call mc_31 rt 17 (L) (.int (x >>> (y &&& 31)) :: st) w := e31_16
theorem f31_17 : iv_V call mc_31 rt 17 (L) (st) w = iv_V call mc_31 rt 18 (L) (.int (nI 1) :: st) w := e31_17
theorem f31_18 : iv_V call mc_31 rt 18 (L) (.int y :: .int x :: st) w = iv_V call mc_31 rt 19 (L) (.int (x &&& y) :: st) w := e31_18
theorem f31_19 : iv_V call mc_31 rt 19 (L) (st) w = iv_V call mc_31 rt 20 (L) (.int (nI 1) :: st) w := e31_19
theorem f31_20 : iv_V call mc_31 rt 20 (L) (.int y :: .int x :: st) w = if ¬ x = y then iv_V call mc_31 rt 28 (L) (st) w else iv_V call mc_31 rt 21 (L) (st) w := e31_20
theorem f31_21 : iv_V call mc_31 rt 21 (v0 :: v1 :: .int x :: L) (st) w = iv_V call mc_31 rt 22 (v0 :: v1 :: .int x :: L) (.int x :: st) w := e31_21
theorem f31_22 : iv_V call mc_31 rt 22 (.ref a :: L) (st) w = iv_V call mc_31 rt 23 (.ref a :: L) (.ref a :: st) w := e31_22
theorem f31_23 : iv_V call mc_31 rt 23 (L) (st) w = iv_gf w st 1 19 (iv_kv call mc_31 rt 24 L w) := e31_23
theorem f31_24 : iv_V call mc_31 rt 24 (v0 :: v1 :: v2 :: v3 :: .int x :: L) (st) w = iv_V call mc_31 rt 25 (v0 :: v1 :: v2 :: v3 :: .int x :: L) (.int x :: st) w := e31_24
theorem f31_25 : iv_V call mc_31 rt 25 (L) (st) w = iv_ald w st iv_isI (iv_kv call mc_31 rt 26 L w) := e31_25
theorem f31_26 : iv_V call mc_31 rt 26 (L) (.int y :: .int x :: st) w = iv_V call mc_31 rt 27 (L) (.int (x ||| y) :: st) w := e31_26
theorem f31_27 : iv_V call mc_31 rt 27 (L) (st) w = iv_V call mc_31 rt 29 (L) (st) w := e31_27
theorem f31_28 : iv_V call mc_31 rt 28 (v0 :: v1 :: .int x :: L) (st) w = iv_V call mc_31 rt 29 (v0 :: v1 :: .int x :: L) (.int x :: st) w := e31_28
theorem f31_29 : iv_V call mc_31 rt 29 (v0 :: v1 :: u :: L) (.int x :: st) w = iv_V call mc_31 rt 30 (v0 :: v1 :: .int x :: L) (st) w := e31_29
theorem f31_30 : iv_V call mc_31 rt 30 (v0 :: v1 :: v2 :: v3 :: .int x :: L) (st) w = iv_V call mc_31 rt 31 (v0 :: v1 :: v2 :: v3 :: .int (x + (nI 1)) :: L) (st) w := e31_30
theorem f31_31 : iv_V call mc_31 rt 31 (L) (st) w = iv_V call mc_31 rt 11 (L) (st) w := e31_31
theorem f31_32 : iv_V call mc_31 rt 32 (v0 :: v1 :: v2 :: .int x :: L) (st) w = iv_V call mc_31 rt 33 (v0 :: v1 :: v2 :: .int (x + (nI 1)) :: L) (st) w := e31_32
theorem f31_33 : iv_V call mc_31 rt 33 (L) (st) w = iv_V call mc_31 rt 6 (L) (st) w := e31_33
theorem f31_34 : iv_V call mc_31 rt 34 (v0 :: v1 :: .int x :: L) (st) w = iv_V call mc_31 rt 35 (v0 :: v1 :: .int x :: L) (.int x :: st) w := e31_34
theorem f31_35 : iv_V call mc_31 rt 35 (L) (st) w = iv_ret rt st w := e31_35
theorem f32_0 : iv_V call mc_32 rt 0 (v0 :: .int x :: L) (st) w = iv_V call mc_32 rt 1 (v0 :: .int x :: L) (.int x :: st) w := e32_0
theorem f32_1 : iv_V call mc_32 rt 1 (L) (st) w = iv_V call mc_32 rt 2 (L) (.int (nI 0) :: st) w := e32_1
theorem f32_2 : iv_V call mc_32 rt 2 (L) (st) w = iv_V call mc_32 rt 3 (L) (.int (nI 5) :: st) w := e32_2
theorem f32_3 {x0 : Int32} {x1 : Int32} {x2 : Int32} : iv_V call mc_32 rt 3 (L) (.int x2 :: .int x1 :: .int x0 :: []) w = iv_ct call mc_32 rt 4 L [] (call 25 [.int x0, .int x1, .int x2] w) := e32_3
theorem f32_4 : iv_V call mc_32 rt 4 (L) (.int x :: st) w = if x = nI 0 then iv_V call mc_32 rt 19 (L) (st) w else iv_V call mc_32 rt 5 (L) (st) w := e32_4
theorem f32_5 : iv_V call mc_32 rt 5 (v0 :: v1 :: .int x :: L) (st) w = iv_V call mc_32 rt 6 (v0 :: v1 :: .int x :: L) (.int x :: st) w := e32_5
theorem f32_6 : iv_V call mc_32 rt 6 (L) (st) w = iv_V call mc_32 rt 7 (L) (.int (nI 0) :: st) w := e32_6
theorem f32_7 : iv_V call mc_32 rt 7 (L) (st) w = iv_V call mc_32 rt 8 (L) (.int (nI 5) :: st) w := e32_7
theorem f32_8 {x0 : Int32} {x1 : Int32} {x2 : Int32} : iv_V call mc_32 rt 8 (L) (.int x2 :: .int x1 :: .int x0 :: []) w = iv_ct call mc_32 rt 9 L [] (call 25 [.int x0, .int x1, .int x2] w) := e32_8
theorem f32_9 : iv_V call mc_32 rt 9 (L) (.int x :: st) w = if x = nI 0 then iv_V call mc_32 rt 19 (L) (st) w else iv_V call mc_32 rt 10 (L) (st) w := e32_9
theorem f32_10 : iv_V call mc_32 rt 10 (.ref a :: L) (st) w = iv_V call mc_32 rt 11 (.ref a :: L) (.ref a :: st) w := e32_10
theorem f32_11 : iv_V call mc_32 rt 11 (v0 :: v1 :: .int x :: L) (st) w = iv_V call mc_32 rt 12 (v0 :: v1 :: .int x :: L) (.int x :: st) w := e32_11
theorem f32_12 {a0 : Nat} {x1 : Int32} : iv_V call mc_32 rt 12 (L) (.int x1 :: .ref a0 :: []) w = iv_cr (iv_rc w [.ref a0, .int x1] 1) (iv_ct call mc_32 rt 13 L [] (call 31 [.ref a0, .int x1] w)) := e32_12
theorem f32_13 : iv_V call mc_32 rt 13 (v0 :: .int x :: L) (st) w = iv_V call mc_32 rt 14 (v0 :: .int x :: L) (.int x :: st) w := e32_13
theorem f32_14 : iv_V call mc_32 rt 14 (L) (.int y :: .int x :: st) w = iv_V call mc_32 rt 15 (L) (.int (x >>> (y &&& 31)) :: st) w := e32_14
theorem f32_15 : iv_V call mc_32 rt 15 (L) (st) w = iv_V call mc_32 rt 16 (L) (.int (nI 1) :: st) w := e32_15
theorem f32_16 : iv_V call mc_32 rt 16 (L) (.int y :: .int x :: st) w = iv_V call mc_32 rt 17 (L) (.int (x &&& y) :: st) w := e32_16
theorem f32_17 : iv_V call mc_32 rt 17 (L) (st) w = iv_V call mc_32 rt 18 (L) (.int (nI 1) :: st) w := e32_17
theorem f32_18 : iv_V call mc_32 rt 18 (L) (.int y :: .int x :: st) w = if ¬ x = y then iv_V call mc_32 rt 21 (L) (st) w else iv_V call mc_32 rt 19 (L) (st) w := e32_18
theorem f32_19 : iv_V call mc_32 rt 19 (L) (st) w = iv_V call mc_32 rt 20 (L) (.int (nI 0) :: st) w := e32_19
theorem f32_20 : iv_V call mc_32 rt 20 (L) (st) w = iv_ret rt st w := e32_20
theorem f32_21 : iv_V call mc_32 rt 21 (.ref a :: L) (st) w = iv_V call mc_32 rt 22 (.ref a :: L) (.ref a :: st) w := e32_21
theorem f32_22 : iv_V call mc_32 rt 22 (L) (st) w = iv_gf w st 1 19 (iv_kv call mc_32 rt 23 L w) := e32_22
theorem f32_23 : iv_V call mc_32 rt 23 (v0 :: .int x :: L) (st) w = iv_V call mc_32 rt 24 (v0 :: .int x :: L) (.int x :: st) w := e32_23
theorem f32_24 : iv_V call mc_32 rt 24 (.ref a :: L) (st) w = iv_V call mc_32 rt 25 (.ref a :: L) (.ref a :: st) w := e32_24
theorem f32_25 : iv_V call mc_32 rt 25 (L) (st) w = iv_gf w st 1 19 (iv_kv call mc_32 rt 26 L w) := e32_25
theorem f32_26 : iv_V call mc_32 rt 26 (v0 :: .int x :: L) (st) w = iv_V call mc_32 rt 27 (v0 :: .int x :: L) (.int x :: st) w := e32_26
theorem f32_27 : iv_V call mc_32 rt 27 (L) (st) w = iv_ald w st iv_isI (iv_kv call mc_32 rt 28 L w) := e32_27
theorem f32_28 : iv_V call mc_32 rt 28 (L) (st) w = iv_V call mc_32 rt 29 (L) (.int (nI 1) :: st) w := e32_28
theorem f32_29 : iv_V call mc_32 rt 29 (v0 :: v1 :: .int x :: L) (st) w = iv_V call mc_32 rt 30 (v0 :: v1 :: .int x :: L) (.int x :: st) w := e32_29
theorem f32_30 : iv_V call mc_32 rt 30 (L) (.int y :: .int x :: st) w = iv_V call mc_32 rt 31 (L) (.int (x <<< (y &&& 31)) :: st) w := e32_30
theorem f32_31 : iv_V call mc_32 rt 31 (L) (.int y :: .int x :: st) w = iv_V call mc_32 rt 32 (L) (.int (x ||| y) :: st) w := e32_31
theorem f32_32 : iv_V call mc_32 rt 32 (L) (st) w = iv_ast w st iv_isI (iv_kw call mc_32 rt 33 L) := e32_32
theorem f32_33 : iv_V call mc_32 rt 33 (L) (st) w = iv_V call mc_32 rt 34 (L) (.int (nI 1) :: st) w := e32_33
theorem f32_34 : iv_V call mc_32 rt 34 (L) (st) w = iv_ret rt st w := e32_34
end IVF0
