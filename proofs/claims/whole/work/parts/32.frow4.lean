/-! rows, on -/
section IVF4
variable {call : Nat → List Value → iv_S → iv_R} {rt : Option FieldType} {L st : List Value} {w : iv_S} {v0 v1 v2 v3 v4 v5 v6 v7 v8 v9 u : Value} {x y : Int32} {a : Nat}
theorem f91_0 : iv_V call mc_91 rt 0 (.ref a :: L) (st) w = iv_V call mc_91 rt 1 (.ref a :: L) (.ref a :: st) w := e91_0
theorem f91_1 : iv_V call mc_91 rt 1 (L) (st) w = iv_V call mc_91 rt 2 (L) (.int (nI 0) :: st) w := e91_1
theorem f91_2 : iv_V call mc_91 rt 2 (L) (st) w = iv_pf w st 6 5 (iv_kw call mc_91 rt 3 L) := e91_2
theorem f91_3 : iv_V call mc_91 rt 3 (.ref a :: L) (st) w = iv_V call mc_91 rt 4 (.ref a :: L) (.ref a :: st) w := e91_3
theorem f91_4 : iv_V call mc_91 rt 4 (L) (st) w = iv_gf w st 6 2 (iv_kv call mc_91 rt 5 L w) := e91_4
theorem f91_5 : iv_V call mc_91 rt 5 (v0 :: .int x :: L) (st) w = iv_V call mc_91 rt 6 (v0 :: .int x :: L) (.int x :: st) w := e91_5
theorem f91_6 : iv_V call mc_91 rt 6 (L) (st) w = iv_ald w st iv_isA (iv_kv call mc_91 rt 7 L w) := e91_6
theorem f91_7 : iv_V call mc_91 rt 7 (v0 :: v1 :: u :: L) (.ref a :: st) w = iv_V call mc_91 rt 8 (v0 :: v1 :: .ref a :: L) (st) w := e91_7
theorem f91_8 : iv_V call mc_91 rt 8 (L) (st) w = iv_V call mc_91 rt 9 (L) (.int (nI 0) :: st) w := e91_8
theorem f91_9 : iv_V call mc_91 rt 9 (v0 :: v1 :: v2 :: u :: L) (.int x :: st) w = iv_V call mc_91 rt 10 (v0 :: v1 :: v2 :: .int x :: L) (st) w := e91_9
theorem f91_10 : iv_V call mc_91 rt 10 (v0 :: v1 :: v2 :: .int x :: L) (st) w = iv_V call mc_91 rt 11 (v0 :: v1 :: v2 :: .int x :: L) (.int x :: st) w := e91_10
theorem f91_11 : iv_V call mc_91 rt 11 (v0 :: v1 :: .ref a :: L) (st) w = iv_V call mc_91 rt 12 (v0 :: v1 :: .ref a :: L) (.ref a :: st) w := e91_11
theorem f91_12 : iv_V call mc_91 rt 12 (L) (st) w = iv_gf w st 7 1 (iv_kv call mc_91 rt 13 L w) := e91_12
theorem f91_13 : iv_V call mc_91 rt 13 (L) (.int y :: .int x :: st) w = if y ≤ x then iv_V call mc_91 rt 35 (L) (st) w else iv_V call mc_91 rt 14 (L) (st) w := e91_13
theorem f91_14 : iv_V call mc_91 rt 14 (.ref a :: L) (st) w = iv_V call mc_91 rt 15 (.ref a :: L) (.ref a :: st) w := e91_14
theorem f91_15 : iv_V call mc_91 rt 15 (v0 :: v1 :: .ref a :: L) (st) w = iv_V call mc_91 rt 16 (v0 :: v1 :: .ref a :: L) (.ref a :: st) w := e91_15
theorem f91_16 : iv_V call mc_91 rt 16 (L) (st) w = iv_gf w st 7 0 (iv_kv call mc_91 rt 17 L w) := e91_16
theorem f91_17 : iv_V call mc_91 rt 17 (v0 :: v1 :: v2 :: .int x :: L) (st) w = iv_V call mc_91 rt 18 (v0 :: v1 :: v2 :: .int x :: L) (.int x :: st) w := e91_17
theorem f91_18 : iv_V call mc_91 rt 18 (L) (st) w = iv_ald w st iv_isI (iv_kv call mc_91 rt 19 L w) := e91_18
theorem f91_19 : iv_V call mc_91 rt 19 (L) (st) w = iv_V call mc_91 rt 20 (L) (.int (nI 4) :: st) w := e91_19
theorem f91_20 : iv_V call mc_91 rt 20 (L) (.int y :: .int x :: st) w = if y = 0 then none else iv_V call mc_91 rt 21 (L) (.int (x / y) :: st) w := e91_20
theorem f91_21 : iv_V call mc_91 rt 21 (v0 :: v1 :: .ref a :: L) (st) w = iv_V call mc_91 rt 22 (v0 :: v1 :: .ref a :: L) (.ref a :: st) w := e91_21
theorem f91_22 : iv_V call mc_91 rt 22 (L) (st) w = iv_gf w st 7 0 (iv_kv call mc_91 rt 23 L w) := e91_22
theorem f91_23 : iv_V call mc_91 rt 23 (v0 :: v1 :: v2 :: .int x :: L) (st) w = iv_V call mc_91 rt 24 (v0 :: v1 :: v2 :: .int x :: L) (.int x :: st) w := e91_23
theorem f91_24 : iv_V call mc_91 rt 24 (L) (st) w = iv_ald w st iv_isI (iv_kv call mc_91 rt 25 L w) := e91_24
theorem f91_25 : iv_V call mc_91 rt 25 (L) (st) w = iv_V call mc_91 rt 26 (L) (.int (nI 4) :: st) w := e91_25
theorem f91_26 : iv_V call mc_91 rt 26 (L) (.int y :: .int x :: st) w = if y = 0 then none else iv_V call mc_91 rt 27 (L) (.int (x - x / y * y) :: st) w := e91_26
theorem f91_27 : iv_V call mc_91 rt 27 (L) (st) w = iv_V call mc_91 rt 28 (L) (.int (nI 1) :: st) w := e91_27
theorem f91_28 : iv_V call mc_91 rt 28 (L) (.int y :: .int x :: st) w = iv_V call mc_91 rt 29 (L) (.int (x - y) :: st) w := e91_28
theorem f91_29 {a0 : Nat} {x1 : Int32} {x2 : Int32} : iv_V call mc_91 rt 29 (L) (.int x2 :: .int x1 :: .ref a0 :: []) w = iv_cr (iv_rc w [.ref a0, .int x1, .int x2] 6) (iv_ct call mc_91 rt 30 L [] (call 92 [.ref a0, .int x1, .int x2] w)) := e91_29
theorem f91_30 : iv_V call mc_91 rt 30 (.ref a :: L) (st) w = iv_V call mc_91 rt 31 (.ref a :: L) (.ref a :: st) w := e91_30
theorem f91_31 : iv_V call mc_91 rt 31 (L) (st) w = iv_V call mc_91 rt 32 (L) (.int (nI 46) :: st) w := e91_31
theorem f91_32 {a0 : Nat} {x1 : Int32} : iv_V call mc_91 rt 32 (L) (.int x1 :: .ref a0 :: []) w = iv_cr (iv_rc w [.ref a0, .int x1] 6) (iv_ct call mc_91 rt 33 L [] (call 93 [.ref a0, .int x1] w)) := e91_32
theorem f91_33 : iv_V call mc_91 rt 33 (v0 :: v1 :: v2 :: .int x :: L) (st) w = iv_V call mc_91 rt 34 (v0 :: v1 :: v2 :: .int (x + (nI 1)) :: L) (st) w := e91_33
theorem f91_34 : iv_V call mc_91 rt 34 (L) (st) w = iv_V call mc_91 rt 10 (L) (st) w := e91_34
theorem f91_35 : iv_V call mc_91 rt 35 (.ref a :: L) (st) w = iv_V call mc_91 rt 36 (.ref a :: L) (.ref a :: st) w := e91_35
theorem f91_36 : iv_V call mc_91 rt 36 (.ref a :: L) (st) w = iv_V call mc_91 rt 37 (.ref a :: L) (.ref a :: st) w := e91_36
theorem f91_37 : iv_V call mc_91 rt 37 (L) (st) w = iv_gf w st 6 1 (iv_kv call mc_91 rt 38 L w) := e91_37
theorem f91_38 : iv_V call mc_91 rt 38 (v0 :: .int x :: L) (st) w = iv_V call mc_91 rt 39 (v0 :: .int x :: L) (.int x :: st) w := e91_38
theorem f91_39 : iv_V call mc_91 rt 39 (L) (st) w = iv_ald w st iv_isA (iv_kv call mc_91 rt 40 L w) := e91_39
theorem f91_40 : iv_V call mc_91 rt 40 (L) (st) w = iv_V call mc_91 rt 41 (L) (.int (nI 1) :: st) w := e91_40
theorem f91_41 : iv_V call mc_91 rt 41 (L) (st) w = iv_ald w st iv_isI (iv_kv call mc_91 rt 42 L w) := e91_41
theorem f91_42 : iv_V call mc_91 rt 42 (.ref a :: L) (st) w = iv_V call mc_91 rt 43 (.ref a :: L) (.ref a :: st) w := e91_42
theorem f91_43 : iv_V call mc_91 rt 43 (L) (st) w = iv_gf w st 6 1 (iv_kv call mc_91 rt 44 L w) := e91_43
theorem f91_44 : iv_V call mc_91 rt 44 (v0 :: .int x :: L) (st) w = iv_V call mc_91 rt 45 (v0 :: .int x :: L) (.int x :: st) w := e91_44
theorem f91_45 : iv_V call mc_91 rt 45 (L) (st) w = iv_ald w st iv_isA (iv_kv call mc_91 rt 46 L w) := e91_45
theorem f91_46 : iv_V call mc_91 rt 46 (L) (st) w = iv_V call mc_91 rt 47 (L) (.int (nI 2) :: st) w := e91_46
theorem f91_47 : iv_V call mc_91 rt 47 (L) (st) w = iv_ald w st iv_isI (iv_kv call mc_91 rt 48 L w) := e91_47
theorem f91_48 {a0 : Nat} {x1 : Int32} {x2 : Int32} : iv_V call mc_91 rt 48 (L) (.int x2 :: .int x1 :: .ref a0 :: []) w = iv_cr (iv_rc w [.ref a0, .int x1, .int x2] 6) (iv_ct call mc_91 rt 49 L [] (call 92 [.ref a0, .int x1, .int x2] w)) := e91_48
theorem f91_49 : iv_V call mc_91 rt 49 (L) (st) w = iv_rev rt st w := e91_49
theorem f92_0 : iv_V call mc_92 rt 0 (.ref a :: L) (st) w = iv_V call mc_92 rt 1 (.ref a :: L) (.ref a :: st) w := e92_0
theorem f92_1 : iv_V call mc_92 rt 1 (L) (st) w = iv_V call mc_92 rt 2 (L) (.int (nI 102) :: st) w := e92_1
theorem f92_2 {a0 : Nat} {x1 : Int32} : iv_V call mc_92 rt 2 (L) (.int x1 :: .ref a0 :: []) w = iv_cr (iv_rc w [.ref a0, .int x1] 6) (iv_ct call mc_92 rt 3 L [] (call 93 [.ref a0, .int x1] w)) := e92_2
theorem f92_3 : iv_V call mc_92 rt 3 (v0 :: .int x :: L) (st) w = iv_V call mc_92 rt 4 (v0 :: .int x :: L) (.int x :: st) w := e92_3
theorem f92_4 : iv_V call mc_92 rt 4 (L) (st) w = iv_V call mc_92 rt 5 (L) (.int (nI 10) :: st) w := e92_4
theorem f92_5 : iv_V call mc_92 rt 5 (L) (.int y :: .int x :: st) w = if x < y then iv_V call mc_92 rt 14 (L) (st) w else iv_V call mc_92 rt 6 (L) (st) w := e92_5
theorem f92_6 : iv_V call mc_92 rt 6 (.ref a :: L) (st) w = iv_V call mc_92 rt 7 (.ref a :: L) (.ref a :: st) w := e92_6
theorem f92_7 : iv_V call mc_92 rt 7 (L) (st) w = iv_V call mc_92 rt 8 (L) (.int (nI 48) :: st) w := e92_7
theorem f92_8 : iv_V call mc_92 rt 8 (v0 :: .int x :: L) (st) w = iv_V call mc_92 rt 9 (v0 :: .int x :: L) (.int x :: st) w := e92_8
theorem f92_9 : iv_V call mc_92 rt 9 (L) (st) w = iv_V call mc_92 rt 10 (L) (.int (nI 10) :: st) w := e92_9
theorem f92_10 : iv_V call mc_92 rt 10 (L) (.int y :: .int x :: st) w = if y = 0 then none else iv_V call mc_92 rt 11 (L) (.int (x / y) :: st) w := e92_10
theorem f92_11 : iv_V call mc_92 rt 11 (L) (.int y :: .int x :: st) w = iv_V call mc_92 rt 12 (L) (.int (x + y) :: st) w := e92_11
theorem f92_12 : iv_V call mc_92 rt 12 (L) (.int x :: st) w = iv_V call mc_92 rt 13 (L) (.int (x.toUInt32 % 65536).toInt32 :: st) w := e92_12
theorem f92_13 {a0 : Nat} {x1 : Int32} : iv_V call mc_92 rt 13 (L) (.int x1 :: .ref a0 :: []) w = iv_cr (iv_rc w [.ref a0, .int x1] 6) (iv_ct call mc_92 rt 14 L [] (call 93 [.ref a0, .int x1] w)) := e92_13
theorem f92_14 : iv_V call mc_92 rt 14 (.ref a :: L) (st) w = iv_V call mc_92 rt 15 (.ref a :: L) (.ref a :: st) w := e92_14
theorem f92_15 : iv_V call mc_92 rt 15 (L) (st) w = iv_V call mc_92 rt 16 (L) (.int (nI 48) :: st) w := e92_15
theorem f92_16 : iv_V call mc_92 rt 16 (v0 :: .int x :: L) (st) w = iv_V call mc_92 rt 17 (v0 :: .int x :: L) (.int x :: st) w := e92_16
theorem f92_17 : iv_V call mc_92 rt 17 (L) (st) w = iv_V call mc_92 rt 18 (L) (.int (nI 10) :: st) w := e92_17
theorem f92_18 : iv_V call mc_92 rt 18 (L) (.int y :: .int x :: st) w = if y = 0 then none else iv_V call mc_92 rt 19 (L) (.int (x - x / y * y) :: st) w := e92_18
theorem f92_19 : iv_V call mc_92 rt 19 (L) (.int y :: .int x :: st) w = iv_V call mc_92 rt 20 (L) (.int (x + y) :: st) w := e92_19
theorem f92_20 : iv_V call mc_92 rt 20 (L) (.int x :: st) w = iv_V call mc_92 rt 21 (L) (.int (x.toUInt32 % 65536).toInt32 :: st) w := e92_20
theorem f92_21 {a0 : Nat} {x1 : Int32} : iv_V call mc_92 rt 21 (L) (.int x1 :: .ref a0 :: []) w = iv_cr (iv_rc w [.ref a0, .int x1] 6) (iv_ct call mc_92 rt 22 L [] (call 93 [.ref a0, .int x1] w)) := e92_21
theorem f92_22 : iv_V call mc_92 rt 22 (v0 :: v1 :: .int x :: L) (st) w = iv_V call mc_92 rt 23 (v0 :: v1 :: .int x :: L) (.int x :: st) w := e92_22
theorem f92_23 : iv_V call mc_92 rt 23 (L) (st) w = iv_V call mc_92 rt 24 (L) (.int (-1) :: st) w := e92_23
theorem f92_24 : iv_V call mc_92 rt 24 (L) (.int y :: .int x :: st) w = if x = y then iv_V call mc_92 rt 37 (L) (st) w else iv_V call mc_92 rt 25 (L) (st) w := e92_24
theorem f92_25 : iv_V call mc_92 rt 25 (.ref a :: L) (st) w = iv_V call mc_92 rt 26 (.ref a :: L) (.ref a :: st) w := e92_25
theorem f92_26 : iv_V call mc_92 rt 26 (L) (st) w = iv_V call mc_92 rt 27 (L) (.int (nI 91) :: st) w := e92_26
theorem f92_27 {a0 : Nat} {x1 : Int32} : iv_V call mc_92 rt 27 (L) (.int x1 :: .ref a0 :: []) w = iv_cr (iv_rc w [.ref a0, .int x1] 6) (iv_ct call mc_92 rt 28 L [] (call 93 [.ref a0, .int x1] w)) := e92_27
theorem f92_28 : iv_V call mc_92 rt 28 (.ref a :: L) (st) w = iv_V call mc_92 rt 29 (.ref a :: L) (.ref a :: st) w := e92_28
theorem f92_29 : iv_V call mc_92 rt 29 (L) (st) w = iv_V call mc_92 rt 30 (L) (.int (nI 48) :: st) w := e92_29
theorem f92_30 : iv_V call mc_92 rt 30 (v0 :: v1 :: .int x :: L) (st) w = iv_V call mc_92 rt 31 (v0 :: v1 :: .int x :: L) (.int x :: st) w := e92_30
theorem f92_31 : iv_V call mc_92 rt 31 (L) (.int y :: .int x :: st) w = iv_V call mc_92 rt 32 (L) (.int (x + y) :: st) w := e92_31
theorem f92_32 : iv_V call mc_92 rt 32 (L) (.int x :: st) w = iv_V call mc_92 rt 33 (L) (.int (x.toUInt32 % 65536).toInt32 :: st) w := e92_32
theorem f92_33 {a0 : Nat} {x1 : Int32} : iv_V call mc_92 rt 33 (L) (.int x1 :: .ref a0 :: []) w = iv_cr (iv_rc w [.ref a0, .int x1] 6) (iv_ct call mc_92 rt 34 L [] (call 93 [.ref a0, .int x1] w)) := e92_33
theorem f92_34 : iv_V call mc_92 rt 34 (.ref a :: L) (st) w = iv_V call mc_92 rt 35 (.ref a :: L) (.ref a :: st) w := e92_34
theorem f92_35 : iv_V call mc_92 rt 35 (L) (st) w = iv_V call mc_92 rt 36 (L) (.int (nI 93) :: st) w := e92_35
theorem f92_36 {a0 : Nat} {x1 : Int32} : iv_V call mc_92 rt 36 (L) (.int x1 :: .ref a0 :: []) w = iv_cr (iv_rc w [.ref a0, .int x1] 6) (iv_ct call mc_92 rt 37 L [] (call 93 [.ref a0, .int x1] w)) := e92_36
theorem f92_37 : iv_V call mc_92 rt 37 (L) (st) w = iv_rev rt st w := e92_37
theorem f93_0 : iv_V call mc_93 rt 0 (.ref a :: L) (st) w = iv_V call mc_93 rt 1 (.ref a :: L) (.ref a :: st) w := e93_0
theorem f93_1 : iv_V call mc_93 rt 1 (L) (st) w = iv_gf w st 6 5 (iv_kv call mc_93 rt 2 L w) := e93_1
theorem f93_2 : iv_V call mc_93 rt 2 (.ref a :: L) (st) w = iv_V call mc_93 rt 3 (.ref a :: L) (.ref a :: st) w := e93_2
theorem f93_3 : iv_V call mc_93 rt 3 (L) (st) w = iv_gf w st 6 4 (iv_kv call mc_93 rt 4 L w) := e93_3
theorem f93_4 : iv_V call mc_93 rt 4 (L) (st) w = iv_len w st (iv_kx call mc_93 rt 5 L w) := e93_4
theorem f93_5 : iv_V call mc_93 rt 5 (L) (.int y :: .int x :: st) w = if y ≤ x then iv_V call mc_93 rt 18 (L) (st) w else iv_V call mc_93 rt 6 (L) (st) w := e93_5
theorem f93_6 : iv_V call mc_93 rt 6 (.ref a :: L) (st) w = iv_V call mc_93 rt 7 (.ref a :: L) (.ref a :: st) w := e93_6
theorem f93_7 : iv_V call mc_93 rt 7 (L) (st) w = iv_gf w st 6 4 (iv_kv call mc_93 rt 8 L w) := e93_7
theorem f93_8 : iv_V call mc_93 rt 8 (.ref a :: L) (st) w = iv_V call mc_93 rt 9 (.ref a :: L) (.ref a :: st) w := e93_8
theorem f93_9 : iv_V call mc_93 rt 9 (L) (st) w = iv_gf w st 6 5 (iv_kv call mc_93 rt 10 L w) := e93_9
theorem f93_10 : iv_V call mc_93 rt 10 (v0 :: .int x :: L) (st) w = iv_V call mc_93 rt 11 (v0 :: .int x :: L) (.int x :: st) w := e93_10
theorem f93_11 : iv_V call mc_93 rt 11 (L) (st) w = iv_ast w st iv_isC (iv_kw call mc_93 rt 12 L) := e93_11
theorem f93_12 : iv_V call mc_93 rt 12 (.ref a :: L) (st) w = iv_V call mc_93 rt 13 (.ref a :: L) (.ref a :: st) w := e93_12
theorem f93_13 : iv_V call mc_93 rt 13 (L) (.ref a :: st) w = iv_V call mc_93 rt 14 (L) (.ref a :: .ref a :: st) w := e93_13
theorem f93_14 : iv_V call mc_93 rt 14 (L) (st) w = iv_gf w st 6 5 (iv_kv call mc_93 rt 15 L w) := e93_14
theorem f93_15 : iv_V call mc_93 rt 15 (L) (st) w = iv_V call mc_93 rt 16 (L) (.int (nI 1) :: st) w := e93_15
theorem f93_16 : iv_V call mc_93 rt 16 (L) (.int y :: .int x :: st) w = iv_V call mc_93 rt 17 (L) (.int (x + y) :: st) w := e93_16
theorem f93_17 : iv_V call mc_93 rt 17 (L) (st) w = iv_pf w st 6 5 (iv_kw call mc_93 rt 18 L) := e93_17
theorem f93_18 : iv_V call mc_93 rt 18 (L) (st) w = iv_rev rt st w := e93_18
theorem f95_0 : iv_V call mc_95 rt 0 (.ref a :: L) (st) w = iv_V call mc_95 rt 1 (.ref a :: L) (.ref a :: st) w := e95_0
theorem f95_1 : iv_V call mc_95 rt 1 (L) (st) w = iv_gf w st 7 1 (iv_kv call mc_95 rt 2 L w) := e95_1
theorem f95_2 : iv_V call mc_95 rt 2 (.ref a :: L) (st) w = iv_V call mc_95 rt 3 (.ref a :: L) (.ref a :: st) w := e95_2
theorem f95_3 : iv_V call mc_95 rt 3 (L) (st) w = iv_gf w st 7 0 (iv_kv call mc_95 rt 4 L w) := e95_3
theorem f95_4 : iv_V call mc_95 rt 4 (L) (st) w = iv_len w st (iv_kx call mc_95 rt 5 L w) := e95_4
theorem f95_5 : iv_V call mc_95 rt 5 (L) (.int y :: .int x :: st) w = if x < y then iv_V call mc_95 rt 8 (L) (st) w else iv_V call mc_95 rt 6 (L) (st) w := e95_5
theorem f95_6 : iv_V call mc_95 rt 6 (L) (st) w = iv_V call mc_95 rt 7 (L) (.int (nI 0) :: st) w := e95_6
theorem f95_7 : iv_V call mc_95 rt 7 (L) (st) w = iv_ret rt st w := e95_7
theorem f95_8 : iv_V call mc_95 rt 8 (.ref a :: L) (st) w = iv_V call mc_95 rt 9 (.ref a :: L) (.ref a :: st) w := e95_8
theorem f95_9 : iv_V call mc_95 rt 9 (L) (st) w = iv_gf w st 7 0 (iv_kv call mc_95 rt 10 L w) := e95_9
theorem f95_10 : iv_V call mc_95 rt 10 (.ref a :: L) (st) w = iv_V call mc_95 rt 11 (.ref a :: L) (.ref a :: st) w := e95_10
theorem f95_11 : iv_V call mc_95 rt 11 (L) (st) w = iv_gf w st 7 1 (iv_kv call mc_95 rt 12 L w) := e95_11
theorem f95_12 : iv_V call mc_95 rt 12 (v0 :: .int x :: L) (st) w = iv_V call mc_95 rt 13 (v0 :: .int x :: L) (.int x :: st) w := e95_12
theorem f95_13 : iv_V call mc_95 rt 13 (L) (st) w = iv_ast w st iv_isI (iv_kw call mc_95 rt 14 L) := e95_13
theorem f95_14 : iv_V call mc_95 rt 14 (.ref a :: L) (st) w = iv_V call mc_95 rt 15 (.ref a :: L) (.ref a :: st) w := e95_14
theorem f95_15 : iv_V call mc_95 rt 15 (L) (.ref a :: st) w = iv_V call mc_95 rt 16 (L) (.ref a :: .ref a :: st) w := e95_15
theorem f95_16 : iv_V call mc_95 rt 16 (L) (st) w = iv_gf w st 7 1 (iv_kv call mc_95 rt 17 L w) := e95_16
theorem f95_17 : iv_V call mc_95 rt 17 (L) (st) w = iv_V call mc_95 rt 18 (L) (.int (nI 1) :: st) w := e95_17
theorem f95_18 : iv_V call mc_95 rt 18 (L) (.int y :: .int x :: st) w = iv_V call mc_95 rt 19 (L) (.int (x + y) :: st) w := e95_18
theorem f95_19 : iv_V call mc_95 rt 19 (L) (st) w = iv_pf w st 7 1 (iv_kw call mc_95 rt 20 L) := e95_19
theorem f95_20 : iv_V call mc_95 rt 20 (L) (st) w = iv_V call mc_95 rt 21 (L) (.int (nI 1) :: st) w := e95_20
theorem f95_21 : iv_V call mc_95 rt 21 (L) (st) w = iv_ret rt st w := e95_21
theorem f96_0 : iv_V call mc_96 rt 0 (.ref a :: L) (st) w = iv_V call mc_96 rt 1 (.ref a :: L) (.ref a :: st) w := e96_0
theorem f96_1 : iv_V call mc_96 rt 1 (L) (.ref a :: []) w = iv_V call mc_96 rt 2 (L) ([]) w := e96_1
theorem f96_2 : iv_V call mc_96 rt 2 (.ref a :: L) (st) w = iv_V call mc_96 rt 3 (.ref a :: L) (.ref a :: st) w := e96_2
theorem f96_3 : iv_V call mc_96 rt 3 (v0 :: .int x :: L) (st) w = iv_V call mc_96 rt 4 (v0 :: .int x :: L) (.int x :: st) w := e96_3
theorem f96_4 : iv_V call mc_96 rt 4 (L) (st) w = iv_pf w st 8 0 (iv_kw call mc_96 rt 5 L) := e96_4
theorem f96_5 : iv_V call mc_96 rt 5 (.ref a :: L) (st) w = iv_V call mc_96 rt 6 (.ref a :: L) (.ref a :: st) w := e96_5
theorem f96_6 : iv_V call mc_96 rt 6 (v0 :: v1 :: .int x :: L) (st) w = iv_V call mc_96 rt 7 (v0 :: v1 :: .int x :: L) (.int x :: st) w := e96_6
theorem f96_7 : iv_V call mc_96 rt 7 (L) (st) w = iv_pf w st 8 1 (iv_kw call mc_96 rt 8 L) := e96_7
theorem f96_8 : iv_V call mc_96 rt 8 (.ref a :: L) (st) w = iv_V call mc_96 rt 9 (.ref a :: L) (.ref a :: st) w := e96_8
theorem f96_9 : iv_V call mc_96 rt 9 (v0 :: v1 :: v2 :: .ref a :: L) (st) w = iv_V call mc_96 rt 10 (v0 :: v1 :: v2 :: .ref a :: L) (.ref a :: st) w := e96_9
theorem f96_10 : iv_V call mc_96 rt 10 (L) (st) w = iv_pf w st 8 2 (iv_kw call mc_96 rt 11 L) := e96_10
theorem f96_11 : iv_V call mc_96 rt 11 (.ref a :: L) (st) w = iv_V call mc_96 rt 12 (.ref a :: L) (.ref a :: st) w := e96_11
theorem f96_12 : iv_V call mc_96 rt 12 (v0 :: v1 :: v2 :: v3 :: .int x :: L) (st) w = iv_V call mc_96 rt 13 (v0 :: v1 :: v2 :: v3 :: .int x :: L) (.int x :: st) w := e96_12
theorem f96_13 : iv_V call mc_96 rt 13 (L) (st) w = iv_pf w st 8 3 (iv_kw call mc_96 rt 14 L) := e96_13
theorem f96_14 : iv_V call mc_96 rt 14 (L) (st) w = iv_rev rt st w := e96_14
theorem f98_0 : iv_V call mc_98 rt 0 (v0 :: .int x :: L) (st) w = iv_V call mc_98 rt 1 (v0 :: .int x :: L) (.int x :: st) w := e98_0
theorem f98_1 : iv_V call mc_98 rt 1 (L) (.int x :: st) w = if x < nI 0 then iv_V call mc_98 rt 7 (L) (st) w else iv_V call mc_98 rt 2 (L) (st) w := e98_1
theorem f98_2 : iv_V call mc_98 rt 2 (v0 :: .int x :: L) (st) w = iv_V call mc_98 rt 3 (v0 :: .int x :: L) (.int x :: st) w := e98_2
theorem f98_3 : iv_V call mc_98 rt 3 (L) (st) w = iv_V call mc_98 rt 4 (L) (.int (nI 3) :: st) w := e98_3
theorem f98_4 : iv_V call mc_98 rt 4 (L) (.int y :: .int x :: st) w = if y ≤ x then iv_V call mc_98 rt 7 (L) (st) w else iv_V call mc_98 rt 5 (L) (st) w := e98_4
theorem f98_5 : iv_V call mc_98 rt 5 (L) (st) w = iv_V call mc_98 rt 6 (L) (.int (nI 1) :: st) w := e98_5
theorem f98_6 : iv_V call mc_98 rt 6 (L) (st) w = iv_V call mc_98 rt 8 (L) (st) w := e98_6
theorem f98_7 : iv_V call mc_98 rt 7 (L) (st) w = iv_V call mc_98 rt 8 (L) (.int (nI 0) :: st) w := e98_7
theorem f98_8 : iv_V call mc_98 rt 8 (L) (st) w = iv_ret rt st w := e98_8
theorem f99_0 : iv_V call mc_99 rt 0 (L) (st) w = iv_nw w 3 (iv_kn call mc_99 rt 1 L st) := e99_0
theorem f99_1 : iv_V call mc_99 rt 1 (L) (.ref a :: st) w = iv_V call mc_99 rt 2 (L) (.ref a :: .ref a :: st) w := e99_1
theorem f99_2 : iv_V call mc_99 rt 2 (L) (st) w = iv_V call mc_99 rt 3 (L) (.int (nI 1) :: st) w := e99_2
theorem f99_3 {a0 : Nat} {x1 : Int32} {c0 : Nat} : iv_V call mc_99 rt 3 (L) (.int x1 :: .ref a0 :: .ref c0 :: []) w = iv_ct call mc_99 rt 4 L [.ref c0] (call 75 [.ref a0, .int x1] w) := e99_3
theorem f99_4 : iv_V call mc_99 rt 4 (v0 :: v1 :: v2 :: v3 :: u :: L) (.ref a :: st) w = iv_V call mc_99 rt 5 (v0 :: v1 :: v2 :: v3 :: .ref a :: L) (st) w := e99_4
theorem f99_5 : iv_V call mc_99 rt 5 (v0 :: v1 :: v2 :: v3 :: .ref a :: L) (st) w = iv_V call mc_99 rt 6 (v0 :: v1 :: v2 :: v3 :: .ref a :: L) (.ref a :: st) w := e99_5
theorem f99_6 : iv_V call mc_99 rt 6 (v0 :: .int x :: L) (st) w = iv_V call mc_99 rt 7 (v0 :: .int x :: L) (.int x :: st) w := e99_6
theorem f99_7 : iv_V call mc_99 rt 7 (v0 :: v1 :: .int x :: L) (st) w = iv_V call mc_99 rt 8 (v0 :: v1 :: .int x :: L) (.int x :: st) w := e99_7
theorem f99_8 : iv_V call mc_99 rt 8 (v0 :: v1 :: v2 :: .int x :: L) (st) w = iv_V call mc_99 rt 9 (v0 :: v1 :: v2 :: .int x :: L) (.int x :: st) w := e99_8
theorem f99_9 {a0 : Nat} {x1 : Int32} {x2 : Int32} {x3 : Int32} : iv_V call mc_99 rt 9 (L) (.int x3 :: .int x2 :: .int x1 :: .ref a0 :: []) w = iv_cr (iv_rc w [.ref a0, .int x1, .int x2, .int x3] 3) (iv_ct call mc_99 rt 10 L [] (call 76 [.ref a0, .int x1, .int x2, .int x3] w)) := e99_9
theorem f99_10 : iv_V call mc_99 rt 10 (L) (.int x :: st) w = iv_V call mc_99 rt 11 (L) (st) w := e99_10
theorem f99_11 : iv_V call mc_99 rt 11 (v0 :: v1 :: v2 :: v3 :: .ref a :: L) (st) w = iv_V call mc_99 rt 12 (v0 :: v1 :: v2 :: v3 :: .ref a :: L) (.ref a :: st) w := e99_11
theorem f99_12 : iv_V call mc_99 rt 12 (L) (st) w = iv_V call mc_99 rt 13 (L) (.int (nI 1) :: st) w := e99_12
theorem f99_13 : iv_V call mc_99 rt 13 (L) (st) w = iv_pf w st 3 2 (iv_kw call mc_99 rt 14 L) := e99_13
theorem f99_14 : iv_V call mc_99 rt 14 (v0 :: v1 :: v2 :: v3 :: .ref a :: L) (st) w = iv_V call mc_99 rt 15 (v0 :: v1 :: v2 :: v3 :: .ref a :: L) (.ref a :: st) w := e99_14
theorem f99_15 : iv_V call mc_99 rt 15 (L) (st) w = iv_rea rt st w := e99_15
theorem f100_0 : iv_V call mc_100 rt 0 (.ref a :: L) (st) w = iv_V call mc_100 rt 1 (.ref a :: L) (.ref a :: st) w := e100_0
theorem f100_1 : iv_V call mc_100 rt 1 (L) (st) w = iv_gf w st 9 1 (iv_kv call mc_100 rt 2 L w) := e100_1
theorem f100_2 : iv_V call mc_100 rt 2 (L) (st) w = iv_V call mc_100 rt 3 (L) (.int (nI 24) :: st) w := e100_2
theorem f100_3 : iv_V call mc_100 rt 3 (L) (.int y :: .int x :: st) w = if x < y then iv_V call mc_100 rt 6 (L) (st) w else iv_V call mc_100 rt 4 (L) (st) w := e100_3
theorem f100_4 : iv_V call mc_100 rt 4 (L) (st) w = iv_V call mc_100 rt 5 (L) (.int (-1) :: st) w := e100_4
theorem f100_5 : iv_V call mc_100 rt 5 (L) (st) w = iv_ret rt st w := e100_5
theorem f100_6 : iv_V call mc_100 rt 6 (.ref a :: L) (st) w = iv_V call mc_100 rt 7 (.ref a :: L) (.ref a :: st) w := e100_6
theorem f100_7 : iv_V call mc_100 rt 7 (L) (st) w = iv_gf w st 9 0 (iv_kv call mc_100 rt 8 L w) := e100_7
theorem f100_8 : iv_V call mc_100 rt 8 (.ref a :: L) (st) w = iv_V call mc_100 rt 9 (.ref a :: L) (.ref a :: st) w := e100_8
theorem f100_9 : iv_V call mc_100 rt 9 (L) (st) w = iv_gf w st 9 1 (iv_kv call mc_100 rt 10 L w) := e100_9
theorem f100_10 : iv_V call mc_100 rt 10 (L) (st) w = iv_nw w 8 (iv_kn call mc_100 rt 11 L st) := e100_10
theorem f100_11 : iv_V call mc_100 rt 11 (L) (.ref a :: st) w = iv_V call mc_100 rt 12 (L) (.ref a :: .ref a :: st) w := e100_11
theorem f100_12 : iv_V call mc_100 rt 12 (v0 :: .int x :: L) (st) w = iv_V call mc_100 rt 13 (v0 :: .int x :: L) (.int x :: st) w := e100_12
theorem f100_13 : iv_V call mc_100 rt 13 (v0 :: v1 :: .int x :: L) (st) w = iv_V call mc_100 rt 14 (v0 :: v1 :: .int x :: L) (.int x :: st) w := e100_13
theorem f100_14 : iv_V call mc_100 rt 14 (v0 :: v1 :: v2 :: .ref a :: L) (st) w = iv_V call mc_100 rt 15 (v0 :: v1 :: v2 :: .ref a :: L) (.ref a :: st) w := e100_14
theorem f100_15 : iv_V call mc_100 rt 15 (v0 :: v1 :: v2 :: v3 :: .int x :: L) (st) w = iv_V call mc_100 rt 16 (v0 :: v1 :: v2 :: v3 :: .int x :: L) (.int x :: st) w := e100_15
theorem f100_16 {a0 : Nat} {x1 : Int32} {x2 : Int32} {a3 : Nat} {x4 : Int32} {c0 : Nat} {y1 : Int32} {c2 : Nat} : iv_V call mc_100 rt 16 (L) (.int x4 :: .ref a3 :: .int x2 :: .int x1 :: .ref a0 :: .ref c2 :: .int y1 :: .ref c0 :: []) w = iv_ct call mc_100 rt 17 L [.ref c2, .int y1, .ref c0] (call 96 [.ref a0, .int x1, .int x2, .ref a3, .int x4] w) := e100_16
theorem f100_17 : iv_V call mc_100 rt 17 (L) (st) w = iv_ust w st (iv_kw call mc_100 rt 18 L) := e100_17
theorem f100_18 : iv_V call mc_100 rt 18 (.ref a :: L) (st) w = iv_V call mc_100 rt 19 (.ref a :: L) (.ref a :: st) w := e100_18
theorem f100_19 : iv_V call mc_100 rt 19 (L) (.ref a :: st) w = iv_V call mc_100 rt 20 (L) (.ref a :: .ref a :: st) w := e100_19
theorem f100_20 : iv_V call mc_100 rt 20 (L) (st) w = iv_gf w st 9 1 (iv_kv call mc_100 rt 21 L w) := e100_20
theorem f100_21 : iv_V call mc_100 rt 21 (L) (st) w = iv_V call mc_100 rt 22 (L) (.int (nI 1) :: st) w := e100_21
theorem f100_22 : iv_V call mc_100 rt 22 (L) (.int y :: .int x :: st) w = iv_V call mc_100 rt 23 (L) (.int (x + y) :: st) w := e100_22
theorem f100_23 : iv_V call mc_100 rt 23 (L) (st) w = iv_pf w st 9 1 (iv_kw call mc_100 rt 24 L) := e100_23
theorem f100_24 : iv_V call mc_100 rt 24 (.ref a :: L) (st) w = iv_V call mc_100 rt 25 (.ref a :: L) (.ref a :: st) w := e100_24
theorem f100_25 : iv_V call mc_100 rt 25 (L) (st) w = iv_gf w st 9 1 (iv_kv call mc_100 rt 26 L w) := e100_25
theorem f100_26 : iv_V call mc_100 rt 26 (L) (st) w = iv_V call mc_100 rt 27 (L) (.int (nI 1) :: st) w := e100_26
theorem f100_27 : iv_V call mc_100 rt 27 (L) (.int y :: .int x :: st) w = iv_V call mc_100 rt 28 (L) (.int (x - y) :: st) w := e100_27
theorem f100_28 : iv_V call mc_100 rt 28 (L) (st) w = iv_ret rt st w := e100_28
theorem f102_0 : iv_V call mc_102 rt 0 (v0 :: .int x :: L) (st) w = iv_V call mc_102 rt 1 (v0 :: .int x :: L) (.int x :: st) w := e102_0
theorem f102_1 : iv_V call mc_102 rt 1 (L) (.int x :: st) w = if x < nI 0 then iv_V call mc_102 rt 8 (L) (st) w else iv_V call mc_102 rt 2 (L) (st) w := e102_1
theorem f102_2 : iv_V call mc_102 rt 2 (v0 :: .int x :: L) (st) w = iv_V call mc_102 rt 3 (v0 :: .int x :: L) (.int x :: st) w := e102_2
theorem f102_3 : iv_V call mc_102 rt 3 (.ref a :: L) (st) w = iv_V call mc_102 rt 4 (.ref a :: L) (.ref a :: st) w := e102_3
theorem f102_4 : iv_V call mc_102 rt 4 (L) (st) w = iv_gf w st 10 0 (iv_kv call mc_102 rt 5 L w) := e102_4
theorem f102_5 : iv_V call mc_102 rt 5 (L) (.int y :: .int x :: st) w = if y ≤ x then iv_V call mc_102 rt 8 (L) (st) w else iv_V call mc_102 rt 6 (L) (st) w := e102_5
theorem f102_6 : iv_V call mc_102 rt 6 (L) (st) w = iv_V call mc_102 rt 7 (L) (.int (nI 1) :: st) w := e102_6
theorem f102_7 : iv_V call mc_102 rt 7 (L) (st) w = iv_V call mc_102 rt 9 (L) (st) w := e102_7
theorem f102_8 : iv_V call mc_102 rt 8 (L) (st) w = iv_V call mc_102 rt 9 (L) (.int (nI 0) :: st) w := e102_8
theorem f102_9 : iv_V call mc_102 rt 9 (L) (st) w = iv_ret rt st w := e102_9
theorem f103_0 : iv_V call mc_103 rt 0 (v0 :: .int x :: L) (st) w = iv_V call mc_103 rt 1 (v0 :: .int x :: L) (.int x :: st) w := e103_0
theorem f103_1 : iv_V call mc_103 rt 1 (L) (.int x :: st) w = if x < nI 0 then iv_V call mc_103 rt 8 (L) (st) w else iv_V call mc_103 rt 2 (L) (st) w := e103_1
theorem f103_2 : iv_V call mc_103 rt 2 (v0 :: .int x :: L) (st) w = iv_V call mc_103 rt 3 (v0 :: .int x :: L) (.int x :: st) w := e103_2
theorem f103_3 : iv_V call mc_103 rt 3 (.ref a :: L) (st) w = iv_V call mc_103 rt 4 (.ref a :: L) (.ref a :: st) w := e103_3
theorem f103_4 : iv_V call mc_103 rt 4 (L) (st) w = iv_gf w st 10 3 (iv_kv call mc_103 rt 5 L w) := e103_4
theorem f103_5 : iv_V call mc_103 rt 5 (L) (.int y :: .int x :: st) w = if y ≤ x then iv_V call mc_103 rt 8 (L) (st) w else iv_V call mc_103 rt 6 (L) (st) w := e103_5
theorem f103_6 : iv_V call mc_103 rt 6 (L) (st) w = iv_V call mc_103 rt 7 (L) (.int (nI 1) :: st) w := e103_6
theorem f103_7 : iv_V call mc_103 rt 7 (L) (st) w = iv_V call mc_103 rt 9 (L) (st) w := e103_7
theorem f103_8 : iv_V call mc_103 rt 8 (L) (st) w = iv_V call mc_103 rt 9 (L) (.int (nI 0) :: st) w := e103_8
theorem f103_9 : iv_V call mc_103 rt 9 (L) (st) w = iv_ret rt st w := e103_9
theorem f104_0 : iv_V call mc_104 rt 0 (.ref a :: L) (st) w = iv_V call mc_104 rt 1 (.ref a :: L) (.ref a :: st) w := e104_0
theorem f104_1 : iv_V call mc_104 rt 1 (L) (st) w = iv_gf w st 10 5 (iv_kv call mc_104 rt 2 L w) := e104_1
theorem f104_2 : iv_V call mc_104 rt 2 (v0 :: .int x :: L) (st) w = iv_V call mc_104 rt 3 (v0 :: .int x :: L) (.int x :: st) w := e104_2
theorem f104_3 : iv_V call mc_104 rt 3 (L) (st) w = iv_ald w st iv_isI (iv_kv call mc_104 rt 4 L w) := e104_3
theorem f104_4 : iv_V call mc_104 rt 4 (L) (st) w = iv_V call mc_104 rt 5 (L) (.int (nI 2) :: st) w := e104_4
theorem f104_5 : iv_V call mc_104 rt 5 (L) (.int y :: .int x :: st) w = if x = y then iv_V call mc_104 rt 12 (L) (st) w else iv_V call mc_104 rt 6 (L) (st) w := e104_5
theorem f104_6 : iv_V call mc_104 rt 6 (.ref a :: L) (st) w = iv_V call mc_104 rt 7 (.ref a :: L) (.ref a :: st) w := e104_6
theorem f104_7 : iv_V call mc_104 rt 7 (L) (st) w = iv_gf w st 10 5 (iv_kv call mc_104 rt 8 L w) := e104_7
theorem f104_8 : iv_V call mc_104 rt 8 (v0 :: .int x :: L) (st) w = iv_V call mc_104 rt 9 (v0 :: .int x :: L) (.int x :: st) w := e104_8
theorem f104_9 : iv_V call mc_104 rt 9 (L) (st) w = iv_ald w st iv_isI (iv_kv call mc_104 rt 10 L w) := e104_9
theorem f104_10 : iv_V call mc_104 rt 10 (L) (st) w = iv_V call mc_104 rt 11 (L) (.int (nI 3) :: st) w := e104_10
theorem f104_11 : iv_V call mc_104 rt 11 (L) (.int y :: .int x :: st) w = if ¬ x = y then iv_V call mc_104 rt 14 (L) (st) w else iv_V call mc_104 rt 12 (L) (st) w := e104_11
theorem f104_12 : iv_V call mc_104 rt 12 (L) (st) w = iv_V call mc_104 rt 13 (L) (.int (nI 1) :: st) w := e104_12
theorem f104_13 : iv_V call mc_104 rt 13 (L) (st) w = iv_V call mc_104 rt 15 (L) (st) w := e104_13
theorem f104_14 : iv_V call mc_104 rt 14 (L) (st) w = iv_V call mc_104 rt 15 (L) (.int (nI 0) :: st) w := e104_14
theorem f104_15 : iv_V call mc_104 rt 15 (L) (st) w = iv_ret rt st w := e104_15
theorem f105_0 : iv_V call mc_105 rt 0 (.ref a :: L) (st) w = iv_V call mc_105 rt 1 (.ref a :: L) (.ref a :: st) w := e105_0
theorem f105_1 : iv_V call mc_105 rt 1 (L) (st) w = iv_gf w st 10 5 (iv_kv call mc_105 rt 2 L w) := e105_1
theorem f105_2 : iv_V call mc_105 rt 2 (v0 :: .int x :: L) (st) w = iv_V call mc_105 rt 3 (v0 :: .int x :: L) (.int x :: st) w := e105_2
theorem f105_3 : iv_V call mc_105 rt 3 (L) (st) w = iv_ald w st iv_isI (iv_kv call mc_105 rt 4 L w) := e105_3
theorem f105_4 : iv_V call mc_105 rt 4 (L) (st) w = iv_V call mc_105 rt 5 (L) (.int (nI 1) :: st) w := e105_4
theorem f105_5 : iv_V call mc_105 rt 5 (L) (.int y :: .int x :: st) w = if x = y then iv_V call mc_105 rt 12 (L) (st) w else iv_V call mc_105 rt 6 (L) (st) w := e105_5
theorem f105_6 : iv_V call mc_105 rt 6 (.ref a :: L) (st) w = iv_V call mc_105 rt 7 (.ref a :: L) (.ref a :: st) w := e105_6
theorem f105_7 : iv_V call mc_105 rt 7 (L) (st) w = iv_gf w st 10 5 (iv_kv call mc_105 rt 8 L w) := e105_7
theorem f105_8 : iv_V call mc_105 rt 8 (v0 :: .int x :: L) (st) w = iv_V call mc_105 rt 9 (v0 :: .int x :: L) (.int x :: st) w := e105_8
theorem f105_9 : iv_V call mc_105 rt 9 (L) (st) w = iv_ald w st iv_isI (iv_kv call mc_105 rt 10 L w) := e105_9
theorem f105_10 : iv_V call mc_105 rt 10 (L) (st) w = iv_V call mc_105 rt 11 (L) (.int (nI 3) :: st) w := e105_10
theorem f105_11 : iv_V call mc_105 rt 11 (L) (.int y :: .int x :: st) w = if ¬ x = y then iv_V call mc_105 rt 14 (L) (st) w else iv_V call mc_105 rt 12 (L) (st) w := e105_11
theorem f105_12 : iv_V call mc_105 rt 12 (L) (st) w = iv_V call mc_105 rt 13 (L) (.int (nI 1) :: st) w := e105_12
theorem f105_13 : iv_V call mc_105 rt 13 (L) (st) w = iv_V call mc_105 rt 15 (L) (st) w := e105_13
theorem f105_14 : iv_V call mc_105 rt 14 (L) (st) w = iv_V call mc_105 rt 15 (L) (.int (nI 0) :: st) w := e105_14
theorem f105_15 : iv_V call mc_105 rt 15 (L) (st) w = iv_ret rt st w := e105_15
theorem f106_0 : iv_V call mc_106 rt 0 (.ref a :: L) (st) w = iv_V call mc_106 rt 1 (.ref a :: L) (.ref a :: st) w := e106_0
theorem f106_1 : iv_V call mc_106 rt 1 (L) (st) w = iv_gf w st 10 1 (iv_kv call mc_106 rt 2 L w) := e106_1
theorem f106_2 : iv_V call mc_106 rt 2 (v0 :: .int x :: L) (st) w = iv_V call mc_106 rt 3 (v0 :: .int x :: L) (.int x :: st) w := e106_2
theorem f106_3 : iv_V call mc_106 rt 3 (L) (st) w = iv_ald w st iv_isI (iv_kv call mc_106 rt 4 L w) := e106_3
theorem f106_4 : iv_V call mc_106 rt 4 (.ref a :: L) (st) w = iv_V call mc_106 rt 5 (.ref a :: L) (.ref a :: st) w := e106_4
theorem f106_5 : iv_V call mc_106 rt 5 (L) (st) w = iv_gf w st 10 4 (iv_kv call mc_106 rt 6 L w) := e106_5
theorem f106_6 : iv_V call mc_106 rt 6 (v0 :: v1 :: .int x :: L) (st) w = iv_V call mc_106 rt 7 (v0 :: v1 :: .int x :: L) (.int x :: st) w := e106_6
theorem f106_7 : iv_V call mc_106 rt 7 (L) (st) w = iv_ald w st iv_isI (iv_kv call mc_106 rt 8 L w) := e106_7
theorem f106_8 : iv_V call mc_106 rt 8 (L) (.int y :: .int x :: st) w = iv_V call mc_106 rt 9 (L) (.int (x >>> (y &&& 31)) :: st) w := e106_8
theorem f106_9 : iv_V call mc_106 rt 9 (L) (st) w = iv_V call mc_106 rt 10 (L) (.int (nI 1) :: st) w := e106_9
theorem f106_10 : iv_V call mc_106 rt 10 (L) (.int y :: .int x :: st) w = iv_V call mc_106 rt 11 (L) (.int (x &&& y) :: st) w := e106_10
theorem f106_11 : iv_V call mc_106 rt 11 (L) (.int x :: st) w = if x = nI 0 then iv_V call mc_106 rt 14 (L) (st) w else iv_V call mc_106 rt 12 (L) (st) w := e106_11
theorem f106_12 : iv_V call mc_106 rt 12 (L) (st) w = iv_V call mc_106 rt 13 (L) (.int (nI 1) :: st) w := e106_12
theorem f106_13 : iv_V call mc_106 rt 13 (L) (st) w = iv_V call mc_106 rt 15 (L) (st) w := e106_13
theorem f106_14 : iv_V call mc_106 rt 14 (L) (st) w = iv_V call mc_106 rt 15 (L) (.int (nI 0) :: st) w := e106_14
theorem f106_15 : iv_V call mc_106 rt 15 (L) (st) w = iv_ret rt st w := e106_15
theorem f107_0 : iv_V call mc_107 rt 0 (L) (st) w = iv_V call mc_107 rt 1 (L) (.int (nI 0) :: st) w := e107_0
theorem f107_1 : iv_V call mc_107 rt 1 (v0 :: v1 :: u :: L) (.int x :: st) w = iv_V call mc_107 rt 2 (v0 :: v1 :: .int x :: L) (st) w := e107_1
theorem f107_2 : iv_V call mc_107 rt 2 (L) (st) w = iv_V call mc_107 rt 3 (L) (.int (nI 0) :: st) w := e107_2
theorem f107_3 : iv_V call mc_107 rt 3 (v0 :: v1 :: v2 :: u :: L) (.int x :: st) w = iv_V call mc_107 rt 4 (v0 :: v1 :: v2 :: .int x :: L) (st) w := e107_3
theorem f107_4 : iv_V call mc_107 rt 4 (v0 :: v1 :: v2 :: .int x :: L) (st) w = iv_V call mc_107 rt 5 (v0 :: v1 :: v2 :: .int x :: L) (.int x :: st) w := e107_4
theorem f107_5 : iv_V call mc_107 rt 5 (.ref a :: L) (st) w = iv_V call mc_107 rt 6 (.ref a :: L) (.ref a :: st) w := e107_5
theorem f107_6 : iv_V call mc_107 rt 6 (L) (st) w = iv_gf w st 10 3 (iv_kv call mc_107 rt 7 L w) := e107_6
theorem f107_7 : iv_V call mc_107 rt 7 (L) (.int y :: .int x :: st) w = if y ≤ x then iv_V call mc_107 rt 21 (L) (st) w else iv_V call mc_107 rt 8 (L) (st) w := e107_7
theorem f107_8 : iv_V call mc_107 rt 8 (.ref a :: L) (st) w = iv_V call mc_107 rt 9 (.ref a :: L) (.ref a :: st) w := e107_8
theorem f107_9 : iv_V call mc_107 rt 9 (v0 :: .int x :: L) (st) w = iv_V call mc_107 rt 10 (v0 :: .int x :: L) (.int x :: st) w := e107_9
theorem f107_10 : iv_V call mc_107 rt 10 (v0 :: v1 :: v2 :: .int x :: L) (st) w = iv_V call mc_107 rt 11 (v0 :: v1 :: v2 :: .int x :: L) (.int x :: st) w := e107_10
theorem f107_11 {a0 : Nat} {x1 : Int32} {x2 : Int32} : iv_V call mc_107 rt 11 (L) (.int x2 :: .int x1 :: .ref a0 :: []) w = iv_cr (iv_rc w [.ref a0, .int x1, .int x2] 10) (iv_ct call mc_107 rt 12 L [] (call 106 [.ref a0, .int x1, .int x2] w)) := e107_11
theorem f107_12 : iv_V call mc_107 rt 12 (L) (.int x :: st) w = if x = nI 0 then iv_V call mc_107 rt 19 (L) (st) w else iv_V call mc_107 rt 13 (L) (st) w := e107_12
theorem f107_13 : iv_V call mc_107 rt 13 (v0 :: v1 :: .int x :: L) (st) w = iv_V call mc_107 rt 14 (v0 :: v1 :: .int x :: L) (.int x :: st) w := e107_13
theorem f107_14 : iv_V call mc_107 rt 14 (L) (st) w = iv_V call mc_107 rt 15 (L) (.int (nI 1) :: st) w := e107_14
theorem f107_15 : iv_V call mc_107 rt 15 (v0 :: v1 :: v2 :: .int x :: L) (st) w = iv_V call mc_107 rt 16 (v0 :: v1 :: v2 :: .int x :: L) (.int x :: st) w := e107_15
theorem f107_16 : iv_V call mc_107 rt 16 (L) (.int y :: .int x :: st) w = iv_V call mc_107 rt 17 (L) (.int (x <<< (y &&& 31)) :: st) w := e107_16
theorem f107_17 : iv_V call mc_107 rt 17 (L) (.int y :: .int x :: st) w = iv_V call mc_107 rt 18 (L) (.int (x ||| y) :: st) w := e107_17
theorem f107_18 : iv_V call mc_107 rt 18 (v0 :: v1 :: u :: L) (.int x :: st) w = iv_V call mc_107 rt 19 (v0 :: v1 :: .int x :: L) (st) w := e107_18
theorem f107_19 : iv_V call mc_107 rt 19 (v0 :: v1 :: v2 :: .int x :: L) (st) w = iv_V call mc_107 rt 20 (v0 :: v1 :: v2 :: .int (x + (nI 1)) :: L) (st) w := e107_19
theorem f107_20 : iv_V call mc_107 rt 20 (L) (st) w = iv_V call mc_107 rt 4 (L) (st) w := e107_20
theorem f107_21 : iv_V call mc_107 rt 21 (v0 :: v1 :: .int x :: L) (st) w = iv_V call mc_107 rt 22 (v0 :: v1 :: .int x :: L) (.int x :: st) w := e107_21
theorem f107_22 : iv_V call mc_107 rt 22 (L) (st) w = iv_ret rt st w := e107_22
theorem f108_0 : iv_V call mc_108 rt 0 (.ref a :: L) (st) w = iv_V call mc_108 rt 1 (.ref a :: L) (.ref a :: st) w := e108_0
theorem f108_1 : iv_V call mc_108 rt 1 (L) (st) w = iv_gf w st 10 0 (iv_kv call mc_108 rt 2 L w) := e108_1
theorem f108_2 : iv_V call mc_108 rt 2 (L) (st) w = iv_V call mc_108 rt 3 (L) (.int (nI 6) :: st) w := e108_2
theorem f108_3 : iv_V call mc_108 rt 3 (L) (.int y :: .int x :: st) w = if x < y then iv_V call mc_108 rt 6 (L) (st) w else iv_V call mc_108 rt 4 (L) (st) w := e108_3
theorem f108_4 : iv_V call mc_108 rt 4 (L) (st) w = iv_V call mc_108 rt 5 (L) (.int (-1) :: st) w := e108_4
theorem f108_5 : iv_V call mc_108 rt 5 (L) (st) w = iv_ret rt st w := e108_5
theorem f108_6 : iv_V call mc_108 rt 6 (.ref a :: L) (st) w = iv_V call mc_108 rt 7 (.ref a :: L) (.ref a :: st) w := e108_6
theorem f108_7 : iv_V call mc_108 rt 7 (L) (st) w = iv_gf w st 10 0 (iv_kv call mc_108 rt 8 L w) := e108_7
theorem f108_8 : iv_V call mc_108 rt 8 (v0 :: v1 :: u :: L) (.int x :: st) w = iv_V call mc_108 rt 9 (v0 :: v1 :: .int x :: L) (st) w := e108_8
theorem f108_9 : iv_V call mc_108 rt 9 (.ref a :: L) (st) w = iv_V call mc_108 rt 10 (.ref a :: L) (.ref a :: st) w := e108_9
theorem f108_10 : iv_V call mc_108 rt 10 (L) (st) w = iv_gf w st 10 1 (iv_kv call mc_108 rt 11 L w) := e108_10
theorem f108_11 : iv_V call mc_108 rt 11 (v0 :: v1 :: .int x :: L) (st) w = iv_V call mc_108 rt 12 (v0 :: v1 :: .int x :: L) (.int x :: st) w := e108_11
theorem f108_12 : iv_V call mc_108 rt 12 (L) (st) w = iv_V call mc_108 rt 13 (L) (.int (nI 1) :: st) w := e108_12
theorem f108_13 : iv_V call mc_108 rt 13 (v0 :: v1 :: .int x :: L) (st) w = iv_V call mc_108 rt 14 (v0 :: v1 :: .int x :: L) (.int x :: st) w := e108_13
theorem f108_14 : iv_V call mc_108 rt 14 (L) (.int y :: .int x :: st) w = iv_V call mc_108 rt 15 (L) (.int (x <<< (y &&& 31)) :: st) w := e108_14
theorem f108_15 : iv_V call mc_108 rt 15 (v0 :: .int x :: L) (st) w = iv_V call mc_108 rt 16 (v0 :: .int x :: L) (.int x :: st) w := e108_15
theorem f108_16 : iv_V call mc_108 rt 16 (L) (st) w = iv_V call mc_108 rt 17 (L) (.int (-1) :: st) w := e108_16
theorem f108_17 : iv_V call mc_108 rt 17 (L) (.int y :: .int x :: st) w = if ¬ x = y then iv_V call mc_108 rt 20 (L) (st) w else iv_V call mc_108 rt 18 (L) (st) w := e108_17
theorem f108_18 : iv_V call mc_108 rt 18 (L) (st) w = iv_V call mc_108 rt 19 (L) (.int (nI 0) :: st) w := e108_18
theorem f108_19 : iv_V call mc_108 rt 19 (L) (st) w = iv_V call mc_108 rt 24 (L) (st) w := e108_19
theorem f108_20 : iv_V call mc_108 rt 20 (.ref a :: L) (st) w = iv_V call mc_108 rt 21 (.ref a :: L) (.ref a :: st) w := e108_20
theorem f108_21 : iv_V call mc_108 rt 21 (L) (st) w = iv_gf w st 10 1 (iv_kv call mc_108 rt 22 L w) := e108_21
theorem f108_22 : iv_V call mc_108 rt 22 (v0 :: .int x :: L) (st) w = iv_V call mc_108 rt 23 (v0 :: .int x :: L) (.int x :: st) w := e108_22
theorem f108_23 : iv_V call mc_108 rt 23 (L) (st) w = iv_ald w st iv_isI (iv_kv call mc_108 rt 24 L w) := e108_23
theorem f108_24 : iv_V call mc_108 rt 24 (L) (.int y :: .int x :: st) w = iv_V call mc_108 rt 25 (L) (.int (x ||| y) :: st) w := e108_24
theorem f108_25 : iv_V call mc_108 rt 25 (L) (st) w = iv_ast w st iv_isI (iv_kw call mc_108 rt 26 L) := e108_25
theorem f108_26 : iv_V call mc_108 rt 26 (.ref a :: L) (st) w = iv_V call mc_108 rt 27 (.ref a :: L) (.ref a :: st) w := e108_26
theorem f108_27 : iv_V call mc_108 rt 27 (L) (.ref a :: st) w = iv_V call mc_108 rt 28 (L) (.ref a :: .ref a :: st) w := e108_27
theorem f108_28 : iv_V call mc_108 rt 28 (L) (st) w = iv_gf w st 10 0 (iv_kv call mc_108 rt 29 L w) := e108_28
theorem f108_29 : iv_V call mc_108 rt 29 (L) (st) w = iv_V call mc_108 rt 30 (L) (.int (nI 1) :: st) w := e108_29
theorem f108_30 : iv_V call mc_108 rt 30 (L) (.int y :: .int x :: st) w = iv_V call mc_108 rt 31 (L) (.int (x + y) :: st) w := e108_30
theorem f108_31 : iv_V call mc_108 rt 31 (L) (st) w = iv_pf w st 10 0 (iv_kw call mc_108 rt 32 L) := e108_31
theorem f108_32 : iv_V call mc_108 rt 32 (v0 :: v1 :: .int x :: L) (st) w = iv_V call mc_108 rt 33 (v0 :: v1 :: .int x :: L) (.int x :: st) w := e108_32
theorem f108_33 : iv_V call mc_108 rt 33 (L) (st) w = iv_ret rt st w := e108_33
theorem f109_0 : iv_V call mc_109 rt 0 (.ref a :: L) (st) w = iv_V call mc_109 rt 1 (.ref a :: L) (.ref a :: st) w := e109_0
theorem f109_1 : iv_V call mc_109 rt 1 (L) (st) w = iv_gf w st 10 3 (iv_kv call mc_109 rt 2 L w) := e109_1
theorem f109_2 : iv_V call mc_109 rt 2 (L) (st) w = iv_V call mc_109 rt 3 (L) (.int (nI 14) :: st) w := e109_2
theorem f109_3 : iv_V call mc_109 rt 3 (L) (.int y :: .int x :: st) w = if x < y then iv_V call mc_109 rt 6 (L) (st) w else iv_V call mc_109 rt 4 (L) (st) w := e109_3
theorem f109_4 : iv_V call mc_109 rt 4 (L) (st) w = iv_V call mc_109 rt 5 (L) (.int (-1) :: st) w := e109_4
theorem f109_5 : iv_V call mc_109 rt 5 (L) (st) w = iv_ret rt st w := e109_5
theorem f109_6 : iv_V call mc_109 rt 6 (.ref a :: L) (st) w = iv_V call mc_109 rt 7 (.ref a :: L) (.ref a :: st) w := e109_6
theorem f109_7 : iv_V call mc_109 rt 7 (L) (st) w = iv_gf w st 10 3 (iv_kv call mc_109 rt 8 L w) := e109_7
theorem f109_8 : iv_V call mc_109 rt 8 (v0 :: v1 :: v2 :: u :: L) (.int x :: st) w = iv_V call mc_109 rt 9 (v0 :: v1 :: v2 :: .int x :: L) (st) w := e109_8
theorem f109_9 : iv_V call mc_109 rt 9 (.ref a :: L) (st) w = iv_V call mc_109 rt 10 (.ref a :: L) (.ref a :: st) w := e109_9
theorem f109_10 : iv_V call mc_109 rt 10 (L) (st) w = iv_gf w st 10 4 (iv_kv call mc_109 rt 11 L w) := e109_10
theorem f109_11 : iv_V call mc_109 rt 11 (v0 :: v1 :: v2 :: .int x :: L) (st) w = iv_V call mc_109 rt 12 (v0 :: v1 :: v2 :: .int x :: L) (.int x :: st) w := e109_11
theorem f109_12 : iv_V call mc_109 rt 12 (v0 :: .int x :: L) (st) w = iv_V call mc_109 rt 13 (v0 :: .int x :: L) (.int x :: st) w := e109_12
theorem f109_13 : iv_V call mc_109 rt 13 (L) (st) w = iv_ast w st iv_isI (iv_kw call mc_109 rt 14 L) := e109_13
theorem f109_14 : iv_V call mc_109 rt 14 (.ref a :: L) (st) w = iv_V call mc_109 rt 15 (.ref a :: L) (.ref a :: st) w := e109_14
theorem f109_15 : iv_V call mc_109 rt 15 (L) (st) w = iv_gf w st 10 5 (iv_kv call mc_109 rt 16 L w) := e109_15
theorem f109_16 : iv_V call mc_109 rt 16 (v0 :: v1 :: v2 :: .int x :: L) (st) w = iv_V call mc_109 rt 17 (v0 :: v1 :: v2 :: .int x :: L) (.int x :: st) w := e109_16
theorem f109_17 : iv_V call mc_109 rt 17 (v0 :: v1 :: .int x :: L) (st) w = iv_V call mc_109 rt 18 (v0 :: v1 :: .int x :: L) (.int x :: st) w := e109_17
theorem f109_18 : iv_V call mc_109 rt 18 (L) (st) w = iv_ast w st iv_isI (iv_kw call mc_109 rt 19 L) := e109_18
theorem f109_19 : iv_V call mc_109 rt 19 (L) (st) w = iv_V call mc_109 rt 20 (L) (.int (nI 0) :: st) w := e109_19
theorem f109_20 : iv_V call mc_109 rt 20 (v0 :: v1 :: v2 :: v3 :: u :: L) (.int x :: st) w = iv_V call mc_109 rt 21 (v0 :: v1 :: v2 :: v3 :: .int x :: L) (st) w := e109_20
theorem f109_21 : iv_V call mc_109 rt 21 (v0 :: v1 :: v2 :: v3 :: .int x :: L) (st) w = iv_V call mc_109 rt 22 (v0 :: v1 :: v2 :: v3 :: .int x :: L) (.int x :: st) w := e109_21
theorem f109_22 : iv_V call mc_109 rt 22 (L) (st) w = iv_V call mc_109 rt 23 (L) (.int (nI 6) :: st) w := e109_22
theorem f109_23 : iv_V call mc_109 rt 23 (L) (.int y :: .int x :: st) w = if y ≤ x then iv_V call mc_109 rt 33 (L) (st) w else iv_V call mc_109 rt 24 (L) (st) w := e109_23
theorem f109_24 : iv_V call mc_109 rt 24 (.ref a :: L) (st) w = iv_V call mc_109 rt 25 (.ref a :: L) (.ref a :: st) w := e109_24
theorem f109_25 : iv_V call mc_109 rt 25 (L) (st) w = iv_gf w st 10 7 (iv_kv call mc_109 rt 26 L w) := e109_25
theorem f109_26 : iv_V call mc_109 rt 26 (v0 :: v1 :: v2 :: .int x :: L) (st) w = iv_V call mc_109 rt 27 (v0 :: v1 :: v2 :: .int x :: L) (.int x :: st) w := e109_26
theorem f109_27 : iv_V call mc_109 rt 27 (L) (st) w = iv_ald w st iv_isA (iv_kv call mc_109 rt 28 L w) := e109_27
theorem f109_28 : iv_V call mc_109 rt 28 (v0 :: v1 :: v2 :: v3 :: .int x :: L) (st) w = iv_V call mc_109 rt 29 (v0 :: v1 :: v2 :: v3 :: .int x :: L) (.int x :: st) w := e109_28
theorem f109_29 : iv_V call mc_109 rt 29 (v0 :: v1 :: v2 :: v3 :: .int x :: L) (st) w = iv_V call mc_109 rt 30 (v0 :: v1 :: v2 :: v3 :: .int x :: L) (.int x :: st) w := e109_29
theorem f109_30 : iv_V call mc_109 rt 30 (L) (st) w = iv_ast w st iv_isI (iv_kw call mc_109 rt 31 L) := e109_30
theorem f109_31 : iv_V call mc_109 rt 31 (v0 :: v1 :: v2 :: v3 :: .int x :: L) (st) w = iv_V call mc_109 rt 32 (v0 :: v1 :: v2 :: v3 :: .int (x + (nI 1)) :: L) (st) w := e109_31
theorem f109_32 : iv_V call mc_109 rt 32 (L) (st) w = iv_V call mc_109 rt 21 (L) (st) w := e109_32
theorem f109_33 : iv_V call mc_109 rt 33 (.ref a :: L) (st) w = iv_V call mc_109 rt 34 (.ref a :: L) (.ref a :: st) w := e109_33
theorem f109_34 : iv_V call mc_109 rt 34 (L) (.ref a :: st) w = iv_V call mc_109 rt 35 (L) (.ref a :: .ref a :: st) w := e109_34
theorem f109_35 : iv_V call mc_109 rt 35 (L) (st) w = iv_gf w st 10 3 (iv_kv call mc_109 rt 36 L w) := e109_35
theorem f109_36 : iv_V call mc_109 rt 36 (L) (st) w = iv_V call mc_109 rt 37 (L) (.int (nI 1) :: st) w := e109_36
theorem f109_37 : iv_V call mc_109 rt 37 (L) (.int y :: .int x :: st) w = iv_V call mc_109 rt 38 (L) (.int (x + y) :: st) w := e109_37
theorem f109_38 : iv_V call mc_109 rt 38 (L) (st) w = iv_pf w st 10 3 (iv_kw call mc_109 rt 39 L) := e109_38
theorem f109_39 : iv_V call mc_109 rt 39 (v0 :: v1 :: v2 :: .int x :: L) (st) w = iv_V call mc_109 rt 40 (v0 :: v1 :: v2 :: .int x :: L) (.int x :: st) w := e109_39
theorem f109_40 : iv_V call mc_109 rt 40 (L) (st) w = iv_ret rt st w := e109_40
theorem f111_0 : iv_V call mc_111 rt 0 (v0 :: .int x :: L) (st) w = iv_V call mc_111 rt 1 (v0 :: .int x :: L) (.int x :: st) w := e111_0
theorem f111_1 : iv_V call mc_111 rt 1 (L) (.int x :: st) w = if x < nI 0 then iv_V call mc_111 rt 8 (L) (st) w else iv_V call mc_111 rt 2 (L) (st) w := e111_1
theorem f111_2 : iv_V call mc_111 rt 2 (v0 :: .int x :: L) (st) w = iv_V call mc_111 rt 3 (v0 :: .int x :: L) (.int x :: st) w := e111_2
theorem f111_3 : iv_V call mc_111 rt 3 (.ref a :: L) (st) w = iv_V call mc_111 rt 4 (.ref a :: L) (.ref a :: st) w := e111_3
theorem f111_4 : iv_V call mc_111 rt 4 (L) (st) w = iv_gf w st 11 0 (iv_kv call mc_111 rt 5 L w) := e111_4
theorem f111_5 : iv_V call mc_111 rt 5 (L) (.int y :: .int x :: st) w = if y ≤ x then iv_V call mc_111 rt 8 (L) (st) w else iv_V call mc_111 rt 6 (L) (st) w := e111_5
theorem f111_6 : iv_V call mc_111 rt 6 (L) (st) w = iv_V call mc_111 rt 7 (L) (.int (nI 1) :: st) w := e111_6
theorem f111_7 : iv_V call mc_111 rt 7 (L) (st) w = iv_V call mc_111 rt 9 (L) (st) w := e111_7
theorem f111_8 : iv_V call mc_111 rt 8 (L) (st) w = iv_V call mc_111 rt 9 (L) (.int (nI 0) :: st) w := e111_8
theorem f111_9 : iv_V call mc_111 rt 9 (L) (st) w = iv_ret rt st w := e111_9
theorem f112_0 : iv_V call mc_112 rt 0 (L) (st) w = iv_V call mc_112 rt 1 (L) (.int (nI 0) :: st) w := e112_0
theorem f112_1 : iv_V call mc_112 rt 1 (v0 :: v1 :: v2 :: u :: L) (.int x :: st) w = iv_V call mc_112 rt 2 (v0 :: v1 :: v2 :: .int x :: L) (st) w := e112_1
theorem f112_2 : iv_V call mc_112 rt 2 (v0 :: v1 :: v2 :: .int x :: L) (st) w = iv_V call mc_112 rt 3 (v0 :: v1 :: v2 :: .int x :: L) (.int x :: st) w := e112_2
theorem f112_3 : iv_V call mc_112 rt 3 (L) (st) w = iv_V call mc_112 rt 4 (L) (.int (nI 10) :: st) w := e112_3
theorem f112_4 : iv_V call mc_112 rt 4 (L) (.int y :: .int x :: st) w = if y ≤ x then iv_V call mc_112 rt 14 (L) (st) w else iv_V call mc_112 rt 5 (L) (st) w := e112_4
theorem f112_5 : iv_V call mc_112 rt 5 (.ref a :: L) (st) w = iv_V call mc_112 rt 6 (.ref a :: L) (.ref a :: st) w := e112_5
theorem f112_6 : iv_V call mc_112 rt 6 (L) (st) w = iv_gf w st 11 2 (iv_kv call mc_112 rt 7 L w) := e112_6
theorem f112_7 : iv_V call mc_112 rt 7 (v0 :: v1 :: v2 :: .int x :: L) (st) w = iv_V call mc_112 rt 8 (v0 :: v1 :: v2 :: .int x :: L) (.int x :: st) w := e112_7
theorem f112_8 : iv_V call mc_112 rt 8 (L) (st) w = iv_ald w st iv_isA (iv_kv call mc_112 rt 9 L w) := e112_8
theorem f112_9 : iv_V call mc_112 rt 9 (v0 :: .int x :: L) (st) w = iv_V call mc_112 rt 10 (v0 :: .int x :: L) (.int x :: st) w := e112_9
theorem f112_10 : iv_V call mc_112 rt 10 (v0 :: v1 :: .int x :: L) (st) w = iv_V call mc_112 rt 11 (v0 :: v1 :: .int x :: L) (.int x :: st) w := e112_10
theorem f112_11 : iv_V call mc_112 rt 11 (L) (st) w = iv_ast w st iv_isI (iv_kw call mc_112 rt 12 L) := e112_11
theorem f112_12 : iv_V call mc_112 rt 12 (v0 :: v1 :: v2 :: .int x :: L) (st) w = iv_V call mc_112 rt 13 (v0 :: v1 :: v2 :: .int (x + (nI 1)) :: L) (st) w := e112_12
theorem f112_13 : iv_V call mc_112 rt 13 (L) (st) w = iv_V call mc_112 rt 2 (L) (st) w := e112_13
theorem f112_14 : iv_V call mc_112 rt 14 (L) (st) w = iv_rev rt st w := e112_14
theorem f113_0 : iv_V call mc_113 rt 0 (.ref a :: L) (st) w = iv_V call mc_113 rt 1 (.ref a :: L) (.ref a :: st) w := e113_0
theorem f113_1 : iv_V call mc_113 rt 1 (L) (st) w = iv_gf w st 11 0 (iv_kv call mc_113 rt 2 L w) := e113_1
theorem f113_2 : iv_V call mc_113 rt 2 (L) (st) w = iv_V call mc_113 rt 3 (L) (.int (nI 10) :: st) w := e113_2
theorem f113_3 : iv_V call mc_113 rt 3 (L) (.int y :: .int x :: st) w = if x < y then iv_V call mc_113 rt 6 (L) (st) w else iv_V call mc_113 rt 4 (L) (st) w := e113_3
theorem f113_4 : iv_V call mc_113 rt 4 (L) (st) w = iv_V call mc_113 rt 5 (L) (.int (-1) :: st) w := e113_4
theorem f113_5 : iv_V call mc_113 rt 5 (L) (st) w = iv_ret rt st w := e113_5
theorem f113_6 : iv_V call mc_113 rt 6 (.ref a :: L) (st) w = iv_V call mc_113 rt 7 (.ref a :: L) (.ref a :: st) w := e113_6
theorem f113_7 : iv_V call mc_113 rt 7 (L) (st) w = iv_gf w st 11 1 (iv_kv call mc_113 rt 8 L w) := e113_7
theorem f113_8 : iv_V call mc_113 rt 8 (.ref a :: L) (st) w = iv_V call mc_113 rt 9 (.ref a :: L) (.ref a :: st) w := e113_8
theorem f113_9 : iv_V call mc_113 rt 9 (L) (st) w = iv_gf w st 11 0 (iv_kv call mc_113 rt 10 L w) := e113_9
theorem f113_10 : iv_V call mc_113 rt 10 (v0 :: .int x :: L) (st) w = iv_V call mc_113 rt 11 (v0 :: .int x :: L) (.int x :: st) w := e113_10
theorem f113_11 : iv_V call mc_113 rt 11 (L) (st) w = iv_ast w st iv_isI (iv_kw call mc_113 rt 12 L) := e113_11
theorem f113_12 : iv_V call mc_113 rt 12 (.ref a :: L) (st) w = iv_V call mc_113 rt 13 (.ref a :: L) (.ref a :: st) w := e113_12
theorem f113_13 : iv_V call mc_113 rt 13 (L) (.ref a :: st) w = iv_V call mc_113 rt 14 (L) (.ref a :: .ref a :: st) w := e113_13
theorem f113_14 : iv_V call mc_113 rt 14 (L) (st) w = iv_gf w st 11 0 (iv_kv call mc_113 rt 15 L w) := e113_14
theorem f113_15 : iv_V call mc_113 rt 15 (L) (st) w = iv_V call mc_113 rt 16 (L) (.int (nI 1) :: st) w := e113_15
theorem f113_16 : iv_V call mc_113 rt 16 (L) (.int y :: .int x :: st) w = iv_V call mc_113 rt 17 (L) (.int (x + y) :: st) w := e113_16
theorem f113_17 : iv_V call mc_113 rt 17 (L) (st) w = iv_pf w st 11 0 (iv_kw call mc_113 rt 18 L) := e113_17
theorem f113_18 : iv_V call mc_113 rt 18 (.ref a :: L) (st) w = iv_V call mc_113 rt 19 (.ref a :: L) (.ref a :: st) w := e113_18
theorem f113_19 : iv_V call mc_113 rt 19 (L) (st) w = iv_gf w st 11 0 (iv_kv call mc_113 rt 20 L w) := e113_19
theorem f113_20 : iv_V call mc_113 rt 20 (L) (st) w = iv_V call mc_113 rt 21 (L) (.int (nI 1) :: st) w := e113_20
theorem f113_21 : iv_V call mc_113 rt 21 (L) (.int y :: .int x :: st) w = iv_V call mc_113 rt 22 (L) (.int (x - y) :: st) w := e113_21
theorem f113_22 : iv_V call mc_113 rt 22 (L) (st) w = iv_ret rt st w := e113_22
theorem f114_0 : iv_V call mc_114 rt 0 (.ref a :: L) (st) w = iv_V call mc_114 rt 1 (.ref a :: L) (.ref a :: st) w := e114_0
theorem f114_1 : iv_V call mc_114 rt 1 (L) (st) w = iv_gf w st 11 2 (iv_kv call mc_114 rt 2 L w) := e114_1
theorem f114_2 : iv_V call mc_114 rt 2 (v0 :: .int x :: L) (st) w = iv_V call mc_114 rt 3 (v0 :: .int x :: L) (.int x :: st) w := e114_2
theorem f114_3 : iv_V call mc_114 rt 3 (L) (st) w = iv_ald w st iv_isA (iv_kv call mc_114 rt 4 L w) := e114_3
theorem f114_4 : iv_V call mc_114 rt 4 (v0 :: v1 :: .int x :: L) (st) w = iv_V call mc_114 rt 5 (v0 :: v1 :: .int x :: L) (.int x :: st) w := e114_4
theorem f114_5 : iv_V call mc_114 rt 5 (L) (st) w = iv_ald w st iv_isI (iv_kv call mc_114 rt 6 L w) := e114_5
theorem f114_6 : iv_V call mc_114 rt 6 (L) (st) w = iv_V call mc_114 rt 7 (L) (.int (-1) :: st) w := e114_6
theorem f114_7 : iv_V call mc_114 rt 7 (L) (.int y :: .int x :: st) w = if ¬ x = y then iv_V call mc_114 rt 10 (L) (st) w else iv_V call mc_114 rt 8 (L) (st) w := e114_7
theorem f114_8 : iv_V call mc_114 rt 8 (L) (st) w = iv_V call mc_114 rt 9 (L) (.int (nI 0) :: st) w := e114_8
theorem f114_9 : iv_V call mc_114 rt 9 (L) (st) w = iv_V call mc_114 rt 16 (L) (st) w := e114_9
theorem f114_10 : iv_V call mc_114 rt 10 (.ref a :: L) (st) w = iv_V call mc_114 rt 11 (.ref a :: L) (.ref a :: st) w := e114_10
theorem f114_11 : iv_V call mc_114 rt 11 (L) (st) w = iv_gf w st 11 2 (iv_kv call mc_114 rt 12 L w) := e114_11
theorem f114_12 : iv_V call mc_114 rt 12 (v0 :: .int x :: L) (st) w = iv_V call mc_114 rt 13 (v0 :: .int x :: L) (.int x :: st) w := e114_12
theorem f114_13 : iv_V call mc_114 rt 13 (L) (st) w = iv_ald w st iv_isA (iv_kv call mc_114 rt 14 L w) := e114_13
theorem f114_14 : iv_V call mc_114 rt 14 (v0 :: v1 :: .int x :: L) (st) w = iv_V call mc_114 rt 15 (v0 :: v1 :: .int x :: L) (.int x :: st) w := e114_14
theorem f114_15 : iv_V call mc_114 rt 15 (L) (st) w = iv_ald w st iv_isI (iv_kv call mc_114 rt 16 L w) := e114_15
theorem f114_16 : iv_V call mc_114 rt 16 (v0 :: v1 :: v2 :: v3 :: u :: L) (.int x :: st) w = iv_V call mc_114 rt 17 (v0 :: v1 :: v2 :: v3 :: .int x :: L) (st) w := e114_16
theorem f114_17 : iv_V call mc_114 rt 17 (v0 :: v1 :: v2 :: v3 :: .int x :: L) (st) w = iv_V call mc_114 rt 18 (v0 :: v1 :: v2 :: v3 :: .int x :: L) (.int x :: st) w := e114_17
theorem f114_18 : iv_V call mc_114 rt 18 (L) (st) w = iv_V call mc_114 rt 19 (L) (.int (nI 3) :: st) w := e114_18
theorem f114_19 : iv_V call mc_114 rt 19 (L) (.int y :: .int x :: st) w = if x < y then iv_V call mc_114 rt 22 (L) (st) w else iv_V call mc_114 rt 20 (L) (st) w := e114_19
theorem f114_20 : iv_V call mc_114 rt 20 (L) (st) w = iv_V call mc_114 rt 21 (L) (.int (nI 0) :: st) w := e114_20
theorem f114_21 : iv_V call mc_114 rt 21 (L) (st) w = iv_ret rt st w := e114_21
theorem f114_22 : iv_V call mc_114 rt 22 (.ref a :: L) (st) w = iv_V call mc_114 rt 23 (.ref a :: L) (.ref a :: st) w := e114_22
theorem f114_23 : iv_V call mc_114 rt 23 (L) (st) w = iv_gf w st 11 3 (iv_kv call mc_114 rt 24 L w) := e114_23
theorem f114_24 : iv_V call mc_114 rt 24 (v0 :: .int x :: L) (st) w = iv_V call mc_114 rt 25 (v0 :: .int x :: L) (.int x :: st) w := e114_24
theorem f114_25 : iv_V call mc_114 rt 25 (L) (st) w = iv_ald w st iv_isA (iv_kv call mc_114 rt 26 L w) := e114_25
theorem f114_26 : iv_V call mc_114 rt 26 (v0 :: v1 :: .int x :: L) (st) w = iv_V call mc_114 rt 27 (v0 :: v1 :: .int x :: L) (.int x :: st) w := e114_26
theorem f114_27 : iv_V call mc_114 rt 27 (L) (st) w = iv_V call mc_114 rt 28 (L) (.int (nI 3) :: st) w := e114_27
theorem f114_28 : iv_V call mc_114 rt 28 (L) (.int y :: .int x :: st) w = iv_V call mc_114 rt 29 (L) (.int (x * y) :: st) w := e114_28
theorem f114_29 : iv_V call mc_114 rt 29 (v0 :: v1 :: v2 :: v3 :: .int x :: L) (st) w = iv_V call mc_114 rt 30 (v0 :: v1 :: v2 :: v3 :: .int x :: L) (.int x :: st) w := e114_29
theorem f114_30 : iv_V call mc_114 rt 30 (L) (.int y :: .int x :: st) w = iv_V call mc_114 rt 31 (L) (.int (x + y) :: st) w := e114_30
theorem f114_31 : iv_V call mc_114 rt 31 (v0 :: v1 :: v2 :: .int x :: L) (st) w = iv_V call mc_114 rt 32 (v0 :: v1 :: v2 :: .int x :: L) (.int x :: st) w := e114_31
theorem f114_32 : iv_V call mc_114 rt 32 (L) (st) w = iv_ast w st iv_isI (iv_kw call mc_114 rt 33 L) := e114_32
theorem f114_33 : iv_V call mc_114 rt 33 (.ref a :: L) (st) w = iv_V call mc_114 rt 34 (.ref a :: L) (.ref a :: st) w := e114_33
theorem f114_34 : iv_V call mc_114 rt 34 (L) (st) w = iv_gf w st 11 2 (iv_kv call mc_114 rt 35 L w) := e114_34
theorem f114_35 : iv_V call mc_114 rt 35 (v0 :: .int x :: L) (st) w = iv_V call mc_114 rt 36 (v0 :: .int x :: L) (.int x :: st) w := e114_35
theorem f114_36 : iv_V call mc_114 rt 36 (L) (st) w = iv_ald w st iv_isA (iv_kv call mc_114 rt 37 L w) := e114_36
theorem f114_37 : iv_V call mc_114 rt 37 (v0 :: v1 :: .int x :: L) (st) w = iv_V call mc_114 rt 38 (v0 :: v1 :: .int x :: L) (.int x :: st) w := e114_37
theorem f114_38 : iv_V call mc_114 rt 38 (v0 :: v1 :: v2 :: v3 :: .int x :: L) (st) w = iv_V call mc_114 rt 39 (v0 :: v1 :: v2 :: v3 :: .int x :: L) (.int x :: st) w := e114_38
theorem f114_39 : iv_V call mc_114 rt 39 (L) (st) w = iv_V call mc_114 rt 40 (L) (.int (nI 1) :: st) w := e114_39
theorem f114_40 : iv_V call mc_114 rt 40 (L) (.int y :: .int x :: st) w = iv_V call mc_114 rt 41 (L) (.int (x + y) :: st) w := e114_40
theorem f114_41 : iv_V call mc_114 rt 41 (L) (st) w = iv_ast w st iv_isI (iv_kw call mc_114 rt 42 L) := e114_41
theorem f114_42 : iv_V call mc_114 rt 42 (L) (st) w = iv_V call mc_114 rt 43 (L) (.int (nI 1) :: st) w := e114_42
theorem f114_43 : iv_V call mc_114 rt 43 (L) (st) w = iv_ret rt st w := e114_43
theorem f115_0 : iv_V call mc_115 rt 0 (.ref a :: L) (st) w = iv_V call mc_115 rt 1 (.ref a :: L) (.ref a :: st) w := e115_0
theorem f115_1 : iv_V call mc_115 rt 1 (L) (st) w = iv_gf w st 11 3 (iv_kv call mc_115 rt 2 L w) := e115_1
theorem f115_2 : iv_V call mc_115 rt 2 (v0 :: .int x :: L) (st) w = iv_V call mc_115 rt 3 (v0 :: .int x :: L) (.int x :: st) w := e115_2
theorem f115_3 : iv_V call mc_115 rt 3 (L) (st) w = iv_ald w st iv_isA (iv_kv call mc_115 rt 4 L w) := e115_3
theorem f115_4 : iv_V call mc_115 rt 4 (v0 :: v1 :: .int x :: L) (st) w = iv_V call mc_115 rt 5 (v0 :: v1 :: .int x :: L) (.int x :: st) w := e115_4
theorem f115_5 : iv_V call mc_115 rt 5 (L) (st) w = iv_V call mc_115 rt 6 (L) (.int (nI 3) :: st) w := e115_5
theorem f115_6 : iv_V call mc_115 rt 6 (L) (.int y :: .int x :: st) w = iv_V call mc_115 rt 7 (L) (.int (x * y) :: st) w := e115_6
theorem f115_7 : iv_V call mc_115 rt 7 (v0 :: v1 :: v2 :: .int x :: L) (st) w = iv_V call mc_115 rt 8 (v0 :: v1 :: v2 :: .int x :: L) (.int x :: st) w := e115_7
theorem f115_8 : iv_V call mc_115 rt 8 (L) (.int y :: .int x :: st) w = iv_V call mc_115 rt 9 (L) (.int (x + y) :: st) w := e115_8
theorem f115_9 : iv_V call mc_115 rt 9 (L) (st) w = iv_ald w st iv_isI (iv_kv call mc_115 rt 10 L w) := e115_9
theorem f115_10 : iv_V call mc_115 rt 10 (L) (st) w = iv_ret rt st w := e115_10
end IVF4
