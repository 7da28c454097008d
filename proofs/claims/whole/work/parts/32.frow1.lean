/-! rows, on -/
section IVF1
variable {call : Nat → List Value → iv_S → iv_R} {rt : Option FieldType} {L st : List Value} {w : iv_S} {v0 v1 v2 v3 v4 v5 v6 v7 v8 v9 u : Value} {x y : Int32} {a : Nat}
theorem f33_0 : iv_V call mc_33 rt 0 (v0 :: .int x :: L) (st) w = iv_V call mc_33 rt 1 (v0 :: .int x :: L) (.int x :: st) w := e33_0
theorem f33_1 : iv_V call mc_33 rt 1 (L) (st) w = iv_V call mc_33 rt 2 (L) (.int (nI 6) :: st) w := e33_1
theorem f33_2 : iv_V call mc_33 rt 2 (L) (st) w = iv_V call mc_33 rt 3 (L) (.int (nI 7) :: st) w := e33_2
theorem f33_3 {x0 : Int32} {x1 : Int32} {x2 : Int32} : iv_V call mc_33 rt 3 (L) (.int x2 :: .int x1 :: .int x0 :: []) w = iv_ct call mc_33 rt 4 L [] (call 25 [.int x0, .int x1, .int x2] w) := e33_3
theorem f33_4 : iv_V call mc_33 rt 4 (L) (.int x :: st) w = if x = nI 0 then iv_V call mc_33 rt 18 (L) (st) w else iv_V call mc_33 rt 5 (L) (st) w := e33_4
theorem f33_5 : iv_V call mc_33 rt 5 (v0 :: v1 :: .int x :: L) (st) w = iv_V call mc_33 rt 6 (v0 :: v1 :: .int x :: L) (.int x :: st) w := e33_5
theorem f33_6 : iv_V call mc_33 rt 6 (L) (st) w = iv_V call mc_33 rt 7 (L) (.int (nI 0) :: st) w := e33_6
theorem f33_7 : iv_V call mc_33 rt 7 (L) (st) w = iv_V call mc_33 rt 8 (L) (.int (nI 7) :: st) w := e33_7
theorem f33_8 {x0 : Int32} {x1 : Int32} {x2 : Int32} : iv_V call mc_33 rt 8 (L) (.int x2 :: .int x1 :: .int x0 :: []) w = iv_ct call mc_33 rt 9 L [] (call 25 [.int x0, .int x1, .int x2] w) := e33_8
theorem f33_9 : iv_V call mc_33 rt 9 (L) (.int x :: st) w = if x = nI 0 then iv_V call mc_33 rt 18 (L) (st) w else iv_V call mc_33 rt 10 (L) (st) w := e33_9
theorem f33_10 : iv_V call mc_33 rt 10 (.ref a :: L) (st) w = iv_V call mc_33 rt 11 (.ref a :: L) (.ref a :: st) w := e33_10
theorem f33_11 : iv_V call mc_33 rt 11 (L) (st) w = iv_gf w st 1 20 (iv_kv call mc_33 rt 12 L w) := e33_11
theorem f33_12 : iv_V call mc_33 rt 12 (v0 :: .int x :: L) (st) w = iv_V call mc_33 rt 13 (v0 :: .int x :: L) (.int x :: st) w := e33_12
theorem f33_13 : iv_V call mc_33 rt 13 (L) (st) w = iv_V call mc_33 rt 14 (L) (.int (nI 6) :: st) w := e33_13
theorem f33_14 : iv_V call mc_33 rt 14 (L) (.int y :: .int x :: st) w = iv_V call mc_33 rt 15 (L) (.int (x - y) :: st) w := e33_14
theorem f33_15 : iv_V call mc_33 rt 15 (L) (st) w = iv_ald w st iv_isI (iv_kv call mc_33 rt 16 L w) := e33_15
theorem f33_16 : iv_V call mc_33 rt 16 (L) (st) w = iv_V call mc_33 rt 17 (L) (.int (nI 4) :: st) w := e33_16
theorem f33_17 : iv_V call mc_33 rt 17 (L) (.int y :: .int x :: st) w = if ¬ x = y then iv_V call mc_33 rt 20 (L) (st) w else iv_V call mc_33 rt 18 (L) (st) w := e33_17
theorem f33_18 : iv_V call mc_33 rt 18 (L) (st) w = iv_V call mc_33 rt 19 (L) (.int (nI 0) :: st) w := e33_18
theorem f33_19 : iv_V call mc_33 rt 19 (L) (st) w = iv_ret rt st w := e33_19
theorem f33_20 : iv_V call mc_33 rt 20 (.ref a :: L) (st) w = iv_V call mc_33 rt 21 (.ref a :: L) (.ref a :: st) w := e33_20
theorem f33_21 : iv_V call mc_33 rt 21 (L) (st) w = iv_gf w st 1 21 (iv_kv call mc_33 rt 22 L w) := e33_21
theorem f33_22 : iv_V call mc_33 rt 22 (L) (st) w = iv_V call mc_33 rt 23 (L) (.int (nI 4) :: st) w := e33_22
theorem f33_23 : iv_V call mc_33 rt 23 (v0 :: .int x :: L) (st) w = iv_V call mc_33 rt 24 (v0 :: .int x :: L) (.int x :: st) w := e33_23
theorem f33_24 : iv_V call mc_33 rt 24 (L) (st) w = iv_V call mc_33 rt 25 (L) (.int (nI 6) :: st) w := e33_24
theorem f33_25 : iv_V call mc_33 rt 25 (L) (.int y :: .int x :: st) w = iv_V call mc_33 rt 26 (L) (.int (x - y) :: st) w := e33_25
theorem f33_26 : iv_V call mc_33 rt 26 (L) (.int y :: .int x :: st) w = iv_V call mc_33 rt 27 (L) (.int (x * y) :: st) w := e33_26
theorem f33_27 : iv_V call mc_33 rt 27 (.ref a :: L) (st) w = iv_V call mc_33 rt 28 (.ref a :: L) (.ref a :: st) w := e33_27
theorem f33_28 : iv_V call mc_33 rt 28 (L) (st) w = iv_gf w st 1 20 (iv_kv call mc_33 rt 29 L w) := e33_28
theorem f33_29 : iv_V call mc_33 rt 29 (v0 :: .int x :: L) (st) w = iv_V call mc_33 rt 30 (v0 :: .int x :: L) (.int x :: st) w := e33_29
theorem f33_30 : iv_V call mc_33 rt 30 (L) (st) w = iv_V call mc_33 rt 31 (L) (.int (nI 6) :: st) w := e33_30
theorem f33_31 : iv_V call mc_33 rt 31 (L) (.int y :: .int x :: st) w = iv_V call mc_33 rt 32 (L) (.int (x - y) :: st) w := e33_31
theorem f33_32 : iv_V call mc_33 rt 32 (L) (st) w = iv_ald w st iv_isI (iv_kv call mc_33 rt 33 L w) := e33_32
theorem f33_33 : iv_V call mc_33 rt 33 (L) (.int y :: .int x :: st) w = iv_V call mc_33 rt 34 (L) (.int (x + y) :: st) w := e33_33
theorem f33_34 : iv_V call mc_33 rt 34 (v0 :: v1 :: .int x :: L) (st) w = iv_V call mc_33 rt 35 (v0 :: v1 :: .int x :: L) (.int x :: st) w := e33_34
theorem f33_35 : iv_V call mc_33 rt 35 (L) (st) w = iv_ast w st iv_isI (iv_kw call mc_33 rt 36 L) := e33_35
theorem f33_36 : iv_V call mc_33 rt 36 (.ref a :: L) (st) w = iv_V call mc_33 rt 37 (.ref a :: L) (.ref a :: st) w := e33_36
theorem f33_37 : iv_V call mc_33 rt 37 (L) (st) w = iv_gf w st 1 20 (iv_kv call mc_33 rt 38 L w) := e33_37
theorem f33_38 : iv_V call mc_33 rt 38 (v0 :: .int x :: L) (st) w = iv_V call mc_33 rt 39 (v0 :: .int x :: L) (.int x :: st) w := e33_38
theorem f33_39 : iv_V call mc_33 rt 39 (L) (st) w = iv_V call mc_33 rt 40 (L) (.int (nI 6) :: st) w := e33_39
theorem f33_40 : iv_V call mc_33 rt 40 (L) (.int y :: .int x :: st) w = iv_V call mc_33 rt 41 (L) (.int (x - y) :: st) w := e33_40
theorem f33_41 : iv_V call mc_33 rt 41 (L) (.int x :: .ref a :: st) w = iv_V call mc_33 rt 42 (L) (.int x :: .ref a :: .int x :: .ref a :: st) w := e33_41
theorem f33_42 : iv_V call mc_33 rt 42 (L) (st) w = iv_ald w st iv_isI (iv_kv call mc_33 rt 43 L w) := e33_42
theorem f33_43 : iv_V call mc_33 rt 43 (L) (st) w = iv_V call mc_33 rt 44 (L) (.int (nI 1) :: st) w := e33_43
theorem f33_44 : iv_V call mc_33 rt 44 (L) (.int y :: .int x :: st) w = iv_V call mc_33 rt 45 (L) (.int (x + y) :: st) w := e33_44
theorem f33_45 : iv_V call mc_33 rt 45 (L) (st) w = iv_ast w st iv_isI (iv_kw call mc_33 rt 46 L) := e33_45
theorem f33_46 : iv_V call mc_33 rt 46 (L) (st) w = iv_V call mc_33 rt 47 (L) (.int (nI 1) :: st) w := e33_46
theorem f33_47 : iv_V call mc_33 rt 47 (L) (st) w = iv_ret rt st w := e33_47
theorem f34_0 : iv_V call mc_34 rt 0 (v0 :: .int x :: L) (st) w = iv_V call mc_34 rt 1 (v0 :: .int x :: L) (.int x :: st) w := e34_0
theorem f34_1 : iv_V call mc_34 rt 1 (L) (st) w = iv_V call mc_34 rt 2 (L) (.int (nI 0) :: st) w := e34_1
theorem f34_2 : iv_V call mc_34 rt 2 (.ref a :: L) (st) w = iv_V call mc_34 rt 3 (.ref a :: L) (.ref a :: st) w := e34_2
theorem f34_3 : iv_V call mc_34 rt 3 (L) (st) w = iv_gf w st 1 0 (iv_kv call mc_34 rt 4 L w) := e34_3
theorem f34_4 : iv_V call mc_34 rt 4 (L) (st) w = iv_V call mc_34 rt 5 (L) (.int (nI 1) :: st) w := e34_4
theorem f34_5 : iv_V call mc_34 rt 5 (L) (.int y :: .int x :: st) w = iv_V call mc_34 rt 6 (L) (.int (x - y) :: st) w := e34_5
theorem f34_6 {x0 : Int32} {x1 : Int32} {x2 : Int32} : iv_V call mc_34 rt 6 (L) (.int x2 :: .int x1 :: .int x0 :: []) w = iv_ct call mc_34 rt 7 L [] (call 25 [.int x0, .int x1, .int x2] w) := e34_6
theorem f34_7 : iv_V call mc_34 rt 7 (L) (.int x :: st) w = if x = nI 0 then iv_V call mc_34 rt 19 (L) (st) w else iv_V call mc_34 rt 8 (L) (st) w := e34_7
theorem f34_8 : iv_V call mc_34 rt 8 (v0 :: v1 :: .int x :: L) (st) w = iv_V call mc_34 rt 9 (v0 :: v1 :: .int x :: L) (.int x :: st) w := e34_8
theorem f34_9 : iv_V call mc_34 rt 9 (L) (st) w = iv_V call mc_34 rt 10 (L) (.int (-1) :: st) w := e34_9
theorem f34_10 : iv_V call mc_34 rt 10 (L) (st) w = iv_V call mc_34 rt 11 (L) (.int (nI 5) :: st) w := e34_10
theorem f34_11 {x0 : Int32} {x1 : Int32} {x2 : Int32} : iv_V call mc_34 rt 11 (L) (.int x2 :: .int x1 :: .int x0 :: []) w = iv_ct call mc_34 rt 12 L [] (call 25 [.int x0, .int x1, .int x2] w) := e34_11
theorem f34_12 : iv_V call mc_34 rt 12 (L) (.int x :: st) w = if x = nI 0 then iv_V call mc_34 rt 19 (L) (st) w else iv_V call mc_34 rt 13 (L) (st) w := e34_12
theorem f34_13 : iv_V call mc_34 rt 13 (.ref a :: L) (st) w = iv_V call mc_34 rt 14 (.ref a :: L) (.ref a :: st) w := e34_13
theorem f34_14 : iv_V call mc_34 rt 14 (L) (st) w = iv_gf w st 1 22 (iv_kv call mc_34 rt 15 L w) := e34_14
theorem f34_15 : iv_V call mc_34 rt 15 (v0 :: .int x :: L) (st) w = iv_V call mc_34 rt 16 (v0 :: .int x :: L) (.int x :: st) w := e34_15
theorem f34_16 : iv_V call mc_34 rt 16 (L) (st) w = iv_ald w st iv_isI (iv_kv call mc_34 rt 17 L w) := e34_16
theorem f34_17 : iv_V call mc_34 rt 17 (L) (st) w = iv_V call mc_34 rt 18 (L) (.int (nI 4) :: st) w := e34_17
theorem f34_18 : iv_V call mc_34 rt 18 (L) (.int y :: .int x :: st) w = if ¬ x = y then iv_V call mc_34 rt 21 (L) (st) w else iv_V call mc_34 rt 19 (L) (st) w := e34_18
theorem f34_19 : iv_V call mc_34 rt 19 (L) (st) w = iv_V call mc_34 rt 20 (L) (.int (nI 0) :: st) w := e34_19
theorem f34_20 : iv_V call mc_34 rt 20 (L) (st) w = iv_ret rt st w := e34_20
theorem f34_21 : iv_V call mc_34 rt 21 (.ref a :: L) (st) w = iv_V call mc_34 rt 22 (.ref a :: L) (.ref a :: st) w := e34_21
theorem f34_22 : iv_V call mc_34 rt 22 (L) (st) w = iv_gf w st 1 23 (iv_kv call mc_34 rt 23 L w) := e34_22
theorem f34_23 : iv_V call mc_34 rt 23 (L) (st) w = iv_V call mc_34 rt 24 (L) (.int (nI 4) :: st) w := e34_23
theorem f34_24 : iv_V call mc_34 rt 24 (v0 :: .int x :: L) (st) w = iv_V call mc_34 rt 25 (v0 :: .int x :: L) (.int x :: st) w := e34_24
theorem f34_25 : iv_V call mc_34 rt 25 (L) (.int y :: .int x :: st) w = iv_V call mc_34 rt 26 (L) (.int (x * y) :: st) w := e34_25
theorem f34_26 : iv_V call mc_34 rt 26 (.ref a :: L) (st) w = iv_V call mc_34 rt 27 (.ref a :: L) (.ref a :: st) w := e34_26
theorem f34_27 : iv_V call mc_34 rt 27 (L) (st) w = iv_gf w st 1 22 (iv_kv call mc_34 rt 28 L w) := e34_27
theorem f34_28 : iv_V call mc_34 rt 28 (v0 :: .int x :: L) (st) w = iv_V call mc_34 rt 29 (v0 :: .int x :: L) (.int x :: st) w := e34_28
theorem f34_29 : iv_V call mc_34 rt 29 (L) (st) w = iv_ald w st iv_isI (iv_kv call mc_34 rt 30 L w) := e34_29
theorem f34_30 : iv_V call mc_34 rt 30 (L) (.int y :: .int x :: st) w = iv_V call mc_34 rt 31 (L) (.int (x + y) :: st) w := e34_30
theorem f34_31 : iv_V call mc_34 rt 31 (v0 :: v1 :: .int x :: L) (st) w = iv_V call mc_34 rt 32 (v0 :: v1 :: .int x :: L) (.int x :: st) w := e34_31
theorem f34_32 : iv_V call mc_34 rt 32 (L) (st) w = iv_ast w st iv_isI (iv_kw call mc_34 rt 33 L) := e34_32
theorem f34_33 : iv_V call mc_34 rt 33 (.ref a :: L) (st) w = iv_V call mc_34 rt 34 (.ref a :: L) (.ref a :: st) w := e34_33
theorem f34_34 : iv_V call mc_34 rt 34 (L) (st) w = iv_gf w st 1 22 (iv_kv call mc_34 rt 35 L w) := e34_34
theorem f34_35 : iv_V call mc_34 rt 35 (v0 :: .int x :: L) (st) w = iv_V call mc_34 rt 36 (v0 :: .int x :: L) (.int x :: st) w := e34_35
theorem f34_36 : iv_V call mc_34 rt 36 (L) (.int x :: .ref a :: st) w = iv_V call mc_34 rt 37 (L) (.int x :: .ref a :: .int x :: .ref a :: st) w := e34_36
theorem f34_37 : iv_V call mc_34 rt 37 (L) (st) w = iv_ald w st iv_isI (iv_kv call mc_34 rt 38 L w) := e34_37
theorem f34_38 : iv_V call mc_34 rt 38 (L) (st) w = iv_V call mc_34 rt 39 (L) (.int (nI 1) :: st) w := e34_38
theorem f34_39 : iv_V call mc_34 rt 39 (L) (.int y :: .int x :: st) w = iv_V call mc_34 rt 40 (L) (.int (x + y) :: st) w := e34_39
theorem f34_40 : iv_V call mc_34 rt 40 (L) (st) w = iv_ast w st iv_isI (iv_kw call mc_34 rt 41 L) := e34_40
theorem f34_41 : iv_V call mc_34 rt 41 (L) (st) w = iv_V call mc_34 rt 42 (L) (.int (nI 1) :: st) w := e34_41
theorem f34_42 : iv_V call mc_34 rt 42 (L) (st) w = iv_ret rt st w := e34_42
theorem f35_0 : iv_V call mc_35 rt 0 (v0 :: .int x :: L) (st) w = iv_V call mc_35 rt 1 (v0 :: .int x :: L) (.int x :: st) w := e35_0
theorem f35_1 : iv_V call mc_35 rt 1 (L) (st) w = iv_V call mc_35 rt 2 (L) (.int (nI 0) :: st) w := e35_1
theorem f35_2 : iv_V call mc_35 rt 2 (.ref a :: L) (st) w = iv_V call mc_35 rt 3 (.ref a :: L) (.ref a :: st) w := e35_2
theorem f35_3 : iv_V call mc_35 rt 3 (L) (st) w = iv_gf w st 1 2 (iv_kv call mc_35 rt 4 L w) := e35_3
theorem f35_4 : iv_V call mc_35 rt 4 (L) (st) w = iv_V call mc_35 rt 5 (L) (.int (nI 1) :: st) w := e35_4
theorem f35_5 : iv_V call mc_35 rt 5 (L) (.int y :: .int x :: st) w = iv_V call mc_35 rt 6 (L) (.int (x - y) :: st) w := e35_5
theorem f35_6 {x0 : Int32} {x1 : Int32} {x2 : Int32} : iv_V call mc_35 rt 6 (L) (.int x2 :: .int x1 :: .int x0 :: []) w = iv_ct call mc_35 rt 7 L [] (call 25 [.int x0, .int x1, .int x2] w) := e35_6
theorem f35_7 : iv_V call mc_35 rt 7 (L) (.int x :: st) w = if x = nI 0 then iv_V call mc_35 rt 19 (L) (st) w else iv_V call mc_35 rt 8 (L) (st) w := e35_7
theorem f35_8 : iv_V call mc_35 rt 8 (.ref a :: L) (st) w = iv_V call mc_35 rt 9 (.ref a :: L) (.ref a :: st) w := e35_8
theorem f35_9 : iv_V call mc_35 rt 9 (L) (st) w = iv_gf w st 1 4 (iv_kv call mc_35 rt 10 L w) := e35_9
theorem f35_10 : iv_V call mc_35 rt 10 (v0 :: .int x :: L) (st) w = iv_V call mc_35 rt 11 (v0 :: .int x :: L) (.int x :: st) w := e35_10
theorem f35_11 : iv_V call mc_35 rt 11 (L) (st) w = iv_ald w st iv_isI (iv_kv call mc_35 rt 12 L w) := e35_11
theorem f35_12 : iv_V call mc_35 rt 12 (L) (.int x :: st) w = if x = nI 0 then iv_V call mc_35 rt 19 (L) (st) w else iv_V call mc_35 rt 13 (L) (st) w := e35_12
theorem f35_13 : iv_V call mc_35 rt 13 (.ref a :: L) (st) w = iv_V call mc_35 rt 14 (.ref a :: L) (.ref a :: st) w := e35_13
theorem f35_14 : iv_V call mc_35 rt 14 (L) (st) w = iv_gf w st 1 4 (iv_kv call mc_35 rt 15 L w) := e35_14
theorem f35_15 : iv_V call mc_35 rt 15 (v0 :: .int x :: L) (st) w = iv_V call mc_35 rt 16 (v0 :: .int x :: L) (.int x :: st) w := e35_15
theorem f35_16 : iv_V call mc_35 rt 16 (L) (st) w = iv_ald w st iv_isI (iv_kv call mc_35 rt 17 L w) := e35_16
theorem f35_17 : iv_V call mc_35 rt 17 (L) (st) w = iv_V call mc_35 rt 18 (L) (.int (nI 2) :: st) w := e35_17
theorem f35_18 : iv_V call mc_35 rt 18 (L) (.int y :: .int x :: st) w = if ¬ x = y then iv_V call mc_35 rt 21 (L) (st) w else iv_V call mc_35 rt 19 (L) (st) w := e35_18
theorem f35_19 : iv_V call mc_35 rt 19 (L) (st) w = iv_V call mc_35 rt 20 (L) (.int (nI 0) :: st) w := e35_19
theorem f35_20 : iv_V call mc_35 rt 20 (L) (st) w = iv_ret rt st w := e35_20
theorem f35_21 : iv_V call mc_35 rt 21 (.ref a :: L) (st) w = iv_V call mc_35 rt 22 (.ref a :: L) (.ref a :: st) w := e35_21
theorem f35_22 : iv_V call mc_35 rt 22 (L) (st) w = iv_gf w st 1 5 (iv_kv call mc_35 rt 23 L w) := e35_22
theorem f35_23 : iv_V call mc_35 rt 23 (v0 :: .int x :: L) (st) w = iv_V call mc_35 rt 24 (v0 :: .int x :: L) (.int x :: st) w := e35_23
theorem f35_24 : iv_V call mc_35 rt 24 (L) (st) w = iv_V call mc_35 rt 25 (L) (.int (nI 1) :: st) w := e35_24
theorem f35_25 : iv_V call mc_35 rt 25 (L) (st) w = iv_ast w st iv_isZ (iv_kw call mc_35 rt 26 L) := e35_25
theorem f35_26 : iv_V call mc_35 rt 26 (L) (st) w = iv_V call mc_35 rt 27 (L) (.int (nI 1) :: st) w := e35_26
theorem f35_27 : iv_V call mc_35 rt 27 (L) (st) w = iv_ret rt st w := e35_27
theorem f36_0 : iv_V call mc_36 rt 0 (v0 :: .int x :: L) (st) w = iv_V call mc_36 rt 1 (v0 :: .int x :: L) (.int x :: st) w := e36_0
theorem f36_1 : iv_V call mc_36 rt 1 (L) (st) w = iv_V call mc_36 rt 2 (L) (.int (nI 0) :: st) w := e36_1
theorem f36_2 : iv_V call mc_36 rt 2 (.ref a :: L) (st) w = iv_V call mc_36 rt 3 (.ref a :: L) (.ref a :: st) w := e36_2
theorem f36_3 : iv_V call mc_36 rt 3 (L) (st) w = iv_gf w st 1 2 (iv_kv call mc_36 rt 4 L w) := e36_3
theorem f36_4 : iv_V call mc_36 rt 4 (L) (st) w = iv_V call mc_36 rt 5 (L) (.int (nI 1) :: st) w := e36_4
theorem f36_5 : iv_V call mc_36 rt 5 (L) (.int y :: .int x :: st) w = iv_V call mc_36 rt 6 (L) (.int (x - y) :: st) w := e36_5
theorem f36_6 {x0 : Int32} {x1 : Int32} {x2 : Int32} : iv_V call mc_36 rt 6 (L) (.int x2 :: .int x1 :: .int x0 :: []) w = iv_ct call mc_36 rt 7 L [] (call 25 [.int x0, .int x1, .int x2] w) := e36_6
theorem f36_7 : iv_V call mc_36 rt 7 (L) (.int x :: st) w = if x = nI 0 then iv_V call mc_36 rt 18 (L) (st) w else iv_V call mc_36 rt 8 (L) (st) w := e36_7
theorem f36_8 : iv_V call mc_36 rt 8 (v0 :: v1 :: .int x :: L) (st) w = iv_V call mc_36 rt 9 (v0 :: v1 :: .int x :: L) (.int x :: st) w := e36_8
theorem f36_9 : iv_V call mc_36 rt 9 (L) (st) w = iv_V call mc_36 rt 10 (L) (.int (nI 0) :: st) w := e36_9
theorem f36_10 : iv_V call mc_36 rt 10 (L) (st) w = iv_V call mc_36 rt 11 (L) (.int (nI 5) :: st) w := e36_10
theorem f36_11 {x0 : Int32} {x1 : Int32} {x2 : Int32} : iv_V call mc_36 rt 11 (L) (.int x2 :: .int x1 :: .int x0 :: []) w = iv_ct call mc_36 rt 12 L [] (call 25 [.int x0, .int x1, .int x2] w) := e36_11
theorem f36_12 : iv_V call mc_36 rt 12 (L) (.int x :: st) w = if x = nI 0 then iv_V call mc_36 rt 18 (L) (st) w else iv_V call mc_36 rt 13 (L) (st) w := e36_12
theorem f36_13 : iv_V call mc_36 rt 13 (v0 :: v1 :: v2 :: .int x :: L) (st) w = iv_V call mc_36 rt 14 (v0 :: v1 :: v2 :: .int x :: L) (.int x :: st) w := e36_13
theorem f36_14 : iv_V call mc_36 rt 14 (L) (st) w = iv_V call mc_36 rt 15 (L) (.int (nI 0) :: st) w := e36_14
theorem f36_15 : iv_V call mc_36 rt 15 (L) (st) w = iv_V call mc_36 rt 16 (L) (.int (nI 5) :: st) w := e36_15
theorem f36_16 {x0 : Int32} {x1 : Int32} {x2 : Int32} : iv_V call mc_36 rt 16 (L) (.int x2 :: .int x1 :: .int x0 :: []) w = iv_ct call mc_36 rt 17 L [] (call 25 [.int x0, .int x1, .int x2] w) := e36_16
theorem f36_17 : iv_V call mc_36 rt 17 (L) (.int x :: st) w = if ¬ x = nI 0 then iv_V call mc_36 rt 20 (L) (st) w else iv_V call mc_36 rt 18 (L) (st) w := e36_17
theorem f36_18 : iv_V call mc_36 rt 18 (L) (st) w = iv_V call mc_36 rt 19 (L) (.int (nI 0) :: st) w := e36_18
theorem f36_19 : iv_V call mc_36 rt 19 (L) (st) w = iv_ret rt st w := e36_19
theorem f36_20 : iv_V call mc_36 rt 20 (.ref a :: L) (st) w = iv_V call mc_36 rt 21 (.ref a :: L) (.ref a :: st) w := e36_20
theorem f36_21 : iv_V call mc_36 rt 21 (L) (st) w = iv_gf w st 1 6 (iv_kv call mc_36 rt 22 L w) := e36_21
theorem f36_22 : iv_V call mc_36 rt 22 (L) (st) w = iv_V call mc_36 rt 23 (L) (.int (nI 6) :: st) w := e36_22
theorem f36_23 : iv_V call mc_36 rt 23 (v0 :: .int x :: L) (st) w = iv_V call mc_36 rt 24 (v0 :: .int x :: L) (.int x :: st) w := e36_23
theorem f36_24 : iv_V call mc_36 rt 24 (L) (.int y :: .int x :: st) w = iv_V call mc_36 rt 25 (L) (.int (x * y) :: st) w := e36_24
theorem f36_25 : iv_V call mc_36 rt 25 (v0 :: v1 :: .int x :: L) (st) w = iv_V call mc_36 rt 26 (v0 :: v1 :: .int x :: L) (.int x :: st) w := e36_25
theorem f36_26 : iv_V call mc_36 rt 26 (L) (.int y :: .int x :: st) w = iv_V call mc_36 rt 27 (L) (.int (x + y) :: st) w := e36_26
theorem f36_27 : iv_V call mc_36 rt 27 (v0 :: v1 :: v2 :: .int x :: L) (st) w = iv_V call mc_36 rt 28 (v0 :: v1 :: v2 :: .int x :: L) (.int x :: st) w := e36_27
theorem f36_28 : iv_V call mc_36 rt 28 (L) (st) w = iv_V call mc_36 rt 29 (L) (.int (nI 1) :: st) w := e36_28
theorem f36_29 : iv_V call mc_36 rt 29 (L) (.int y :: .int x :: st) w = iv_V call mc_36 rt 30 (L) (.int (x + y) :: st) w := e36_29
theorem f36_30 : iv_V call mc_36 rt 30 (L) (st) w = iv_ast w st iv_isI (iv_kw call mc_36 rt 31 L) := e36_30
theorem f36_31 : iv_V call mc_36 rt 31 (L) (st) w = iv_V call mc_36 rt 32 (L) (.int (nI 1) :: st) w := e36_31
theorem f36_32 : iv_V call mc_36 rt 32 (L) (st) w = iv_ret rt st w := e36_32
theorem f37_0 : iv_V call mc_37 rt 0 (.ref a :: L) (st) w = iv_V call mc_37 rt 1 (.ref a :: L) (.ref a :: st) w := e37_0
theorem f37_1 : iv_V call mc_37 rt 1 (L) (st) w = iv_gf w st 1 24 (iv_kv call mc_37 rt 2 L w) := e37_1
theorem f37_2 : iv_V call mc_37 rt 2 (L) (st) w = iv_V call mc_37 rt 3 (L) (.int (nI 10) :: st) w := e37_2
theorem f37_3 : iv_V call mc_37 rt 3 (L) (.int y :: .int x :: st) w = if x = y then iv_V call mc_37 rt 12 (L) (st) w else iv_V call mc_37 rt 4 (L) (st) w := e37_3
theorem f37_4 : iv_V call mc_37 rt 4 (v0 :: .int x :: L) (st) w = iv_V call mc_37 rt 5 (v0 :: .int x :: L) (.int x :: st) w := e37_4
theorem f37_5 : iv_V call mc_37 rt 5 (L) (st) w = iv_V call mc_37 rt 6 (L) (.int (nI 0) :: st) w := e37_5
theorem f37_6 : iv_V call mc_37 rt 6 (.ref a :: L) (st) w = iv_V call mc_37 rt 7 (.ref a :: L) (.ref a :: st) w := e37_6
theorem f37_7 : iv_V call mc_37 rt 7 (L) (st) w = iv_gf w st 1 0 (iv_kv call mc_37 rt 8 L w) := e37_7
theorem f37_8 : iv_V call mc_37 rt 8 (L) (st) w = iv_V call mc_37 rt 9 (L) (.int (nI 1) :: st) w := e37_8
theorem f37_9 : iv_V call mc_37 rt 9 (L) (.int y :: .int x :: st) w = iv_V call mc_37 rt 10 (L) (.int (x - y) :: st) w := e37_9
theorem f37_10 {x0 : Int32} {x1 : Int32} {x2 : Int32} : iv_V call mc_37 rt 10 (L) (.int x2 :: .int x1 :: .int x0 :: []) w = iv_ct call mc_37 rt 11 L [] (call 25 [.int x0, .int x1, .int x2] w) := e37_10
theorem f37_11 : iv_V call mc_37 rt 11 (L) (.int x :: st) w = if ¬ x = nI 0 then iv_V call mc_37 rt 14 (L) (st) w else iv_V call mc_37 rt 12 (L) (st) w := e37_11
theorem f37_12 : iv_V call mc_37 rt 12 (L) (st) w = iv_V call mc_37 rt 13 (L) (.int (-1) :: st) w := e37_12
theorem f37_13 : iv_V call mc_37 rt 13 (L) (st) w = iv_ret rt st w := e37_13
theorem f37_14 : iv_V call mc_37 rt 14 (.ref a :: L) (st) w = iv_V call mc_37 rt 15 (.ref a :: L) (.ref a :: st) w := e37_14
theorem f37_15 : iv_V call mc_37 rt 15 (L) (st) w = iv_gf w st 1 25 (iv_kv call mc_37 rt 16 L w) := e37_15
theorem f37_16 : iv_V call mc_37 rt 16 (.ref a :: L) (st) w = iv_V call mc_37 rt 17 (.ref a :: L) (.ref a :: st) w := e37_16
theorem f37_17 : iv_V call mc_37 rt 17 (L) (st) w = iv_gf w st 1 24 (iv_kv call mc_37 rt 18 L w) := e37_17
theorem f37_18 : iv_V call mc_37 rt 18 (v0 :: .int x :: L) (st) w = iv_V call mc_37 rt 19 (v0 :: .int x :: L) (.int x :: st) w := e37_18
theorem f37_19 : iv_V call mc_37 rt 19 (L) (st) w = iv_ast w st iv_isI (iv_kw call mc_37 rt 20 L) := e37_19
theorem f37_20 : iv_V call mc_37 rt 20 (.ref a :: L) (st) w = iv_V call mc_37 rt 21 (.ref a :: L) (.ref a :: st) w := e37_20
theorem f37_21 : iv_V call mc_37 rt 21 (L) (.ref a :: st) w = iv_V call mc_37 rt 22 (L) (.ref a :: .ref a :: st) w := e37_21
theorem f37_22 : iv_V call mc_37 rt 22 (L) (st) w = iv_gf w st 1 24 (iv_kv call mc_37 rt 23 L w) := e37_22
theorem f37_23 : iv_V call mc_37 rt 23 (L) (st) w = iv_V call mc_37 rt 24 (L) (.int (nI 1) :: st) w := e37_23
theorem f37_24 : iv_V call mc_37 rt 24 (L) (.int y :: .int x :: st) w = iv_V call mc_37 rt 25 (L) (.int (x + y) :: st) w := e37_24
theorem f37_25 : iv_V call mc_37 rt 25 (L) (st) w = iv_pf w st 1 24 (iv_kw call mc_37 rt 26 L) := e37_25
theorem f37_26 : iv_V call mc_37 rt 26 (.ref a :: L) (st) w = iv_V call mc_37 rt 27 (.ref a :: L) (.ref a :: st) w := e37_26
theorem f37_27 : iv_V call mc_37 rt 27 (L) (st) w = iv_gf w st 1 24 (iv_kv call mc_37 rt 28 L w) := e37_27
theorem f37_28 : iv_V call mc_37 rt 28 (L) (st) w = iv_V call mc_37 rt 29 (L) (.int (nI 1) :: st) w := e37_28
theorem f37_29 : iv_V call mc_37 rt 29 (L) (.int y :: .int x :: st) w = iv_V call mc_37 rt 30 (L) (.int (x - y) :: st) w := e37_29
theorem f37_30 : iv_V call mc_37 rt 30 (L) (st) w = iv_ret rt st w := e37_30
theorem f38_0 : iv_V call mc_38 rt 0 (v0 :: .int x :: L) (st) w = iv_V call mc_38 rt 1 (v0 :: .int x :: L) (.int x :: st) w := e38_0
theorem f38_1 : iv_V call mc_38 rt 1 (L) (st) w = iv_V call mc_38 rt 2 (L) (.int (nI 0) :: st) w := e38_1
theorem f38_2 : iv_V call mc_38 rt 2 (.ref a :: L) (st) w = iv_V call mc_38 rt 3 (.ref a :: L) (.ref a :: st) w := e38_2
theorem f38_3 : iv_V call mc_38 rt 3 (L) (st) w = iv_gf w st 1 24 (iv_kv call mc_38 rt 4 L w) := e38_3
theorem f38_4 : iv_V call mc_38 rt 4 (L) (st) w = iv_V call mc_38 rt 5 (L) (.int (nI 1) :: st) w := e38_4
theorem f38_5 : iv_V call mc_38 rt 5 (L) (.int y :: .int x :: st) w = iv_V call mc_38 rt 6 (L) (.int (x - y) :: st) w := e38_5
theorem f38_6 {x0 : Int32} {x1 : Int32} {x2 : Int32} : iv_V call mc_38 rt 6 (L) (.int x2 :: .int x1 :: .int x0 :: []) w = iv_ct call mc_38 rt 7 L [] (call 25 [.int x0, .int x1, .int x2] w) := e38_6
theorem f38_7 : iv_V call mc_38 rt 7 (L) (.int x :: st) w = if x = nI 0 then iv_V call mc_38 rt 16 (L) (st) w else iv_V call mc_38 rt 8 (L) (st) w := e38_7
theorem f38_8 : iv_V call mc_38 rt 8 (v0 :: v1 :: .int x :: L) (st) w = iv_V call mc_38 rt 9 (v0 :: v1 :: .int x :: L) (.int x :: st) w := e38_8
theorem f38_9 : iv_V call mc_38 rt 9 (L) (st) w = iv_V call mc_38 rt 10 (L) (.int (nI 0) :: st) w := e38_9
theorem f38_10 : iv_V call mc_38 rt 10 (.ref a :: L) (st) w = iv_V call mc_38 rt 11 (.ref a :: L) (.ref a :: st) w := e38_10
theorem f38_11 : iv_V call mc_38 rt 11 (L) (st) w = iv_gf w st 1 2 (iv_kv call mc_38 rt 12 L w) := e38_11
theorem f38_12 : iv_V call mc_38 rt 12 (L) (st) w = iv_V call mc_38 rt 13 (L) (.int (nI 1) :: st) w := e38_12
theorem f38_13 : iv_V call mc_38 rt 13 (L) (.int y :: .int x :: st) w = iv_V call mc_38 rt 14 (L) (.int (x - y) :: st) w := e38_13
theorem f38_14 {x0 : Int32} {x1 : Int32} {x2 : Int32} : iv_V call mc_38 rt 14 (L) (.int x2 :: .int x1 :: .int x0 :: []) w = iv_ct call mc_38 rt 15 L [] (call 25 [.int x0, .int x1, .int x2] w) := e38_14
theorem f38_15 : iv_V call mc_38 rt 15 (L) (.int x :: st) w = if ¬ x = nI 0 then iv_V call mc_38 rt 18 (L) (st) w else iv_V call mc_38 rt 16 (L) (st) w := e38_15
theorem f38_16 : iv_V call mc_38 rt 16 (L) (st) w = iv_V call mc_38 rt 17 (L) (.int (nI 0) :: st) w := e38_16
theorem f38_17 : iv_V call mc_38 rt 17 (L) (st) w = iv_ret rt st w := e38_17
theorem f38_18 : iv_V call mc_38 rt 18 (L) (st) w = iv_V call mc_38 rt 19 (L) (.int (nI 0) :: st) w := e38_18
theorem f38_19 : iv_V call mc_38 rt 19 (v0 :: v1 :: v2 :: u :: L) (.int x :: st) w = iv_V call mc_38 rt 20 (v0 :: v1 :: v2 :: .int x :: L) (st) w := e38_19
theorem f38_20 : iv_V call mc_38 rt 20 (.ref a :: L) (st) w = iv_V call mc_38 rt 21 (.ref a :: L) (.ref a :: st) w := e38_20
theorem f38_21 : iv_V call mc_38 rt 21 (L) (st) w = iv_gf w st 1 25 (iv_kv call mc_38 rt 22 L w) := e38_21
theorem f38_22 : iv_V call mc_38 rt 22 (v0 :: .int x :: L) (st) w = iv_V call mc_38 rt 23 (v0 :: .int x :: L) (.int x :: st) w := e38_22
theorem f38_23 : iv_V call mc_38 rt 23 (L) (st) w = iv_ald w st iv_isI (iv_kv call mc_38 rt 24 L w) := e38_23
theorem f38_24 : iv_V call mc_38 rt 24 (v0 :: v1 :: v2 :: v3 :: u :: L) (.int x :: st) w = iv_V call mc_38 rt 25 (v0 :: v1 :: v2 :: v3 :: .int x :: L) (st) w := e38_24
theorem f38_25 : iv_V call mc_38 rt 25 (v0 :: v1 :: v2 :: v3 :: .int x :: L) (st) w = iv_V call mc_38 rt 26 (v0 :: v1 :: v2 :: v3 :: .int x :: L) (.int x :: st) w := e38_25
theorem f38_26 : iv_V call mc_38 rt 26 (L) (.int x :: st) w = if x < nI 0 then iv_V call mc_38 rt 45 (L) (st) w else iv_V call mc_38 rt 27 (L) (st) w := e38_26
theorem f38_27 : iv_V call mc_38 rt 27 (v0 :: v1 :: v2 :: .int x :: L) (st) w = iv_V call mc_38 rt 28 (v0 :: v1 :: v2 :: .int x :: L) (.int x :: st) w := e38_27
theorem f38_28 : iv_V call mc_38 rt 28 (L) (.int x :: st) w = if ¬ x = nI 0 then iv_V call mc_38 rt 35 (L) (st) w else iv_V call mc_38 rt 29 (L) (st) w := e38_28
theorem f38_29 : iv_V call mc_38 rt 29 (v0 :: v1 :: v2 :: v3 :: .int x :: L) (st) w = iv_V call mc_38 rt 30 (v0 :: v1 :: v2 :: v3 :: .int x :: L) (.int x :: st) w := e38_29
theorem f38_30 : iv_V call mc_38 rt 30 (.ref a :: L) (st) w = iv_V call mc_38 rt 31 (.ref a :: L) (.ref a :: st) w := e38_30
theorem f38_31 : iv_V call mc_38 rt 31 (L) (st) w = iv_gf w st 1 3 (iv_kv call mc_38 rt 32 L w) := e38_31
theorem f38_32 : iv_V call mc_38 rt 32 (v0 :: v1 :: .int x :: L) (st) w = iv_V call mc_38 rt 33 (v0 :: v1 :: .int x :: L) (.int x :: st) w := e38_32
theorem f38_33 : iv_V call mc_38 rt 33 (L) (st) w = iv_ald w st iv_isI (iv_kv call mc_38 rt 34 L w) := e38_33
theorem f38_34 : iv_V call mc_38 rt 34 (L) (.int y :: .int x :: st) w = if ¬ x = y then iv_V call mc_38 rt 37 (L) (st) w else iv_V call mc_38 rt 35 (L) (st) w := e38_34
theorem f38_35 : iv_V call mc_38 rt 35 (L) (st) w = iv_V call mc_38 rt 36 (L) (.int (nI 1) :: st) w := e38_35
theorem f38_36 : iv_V call mc_38 rt 36 (L) (st) w = iv_V call mc_38 rt 38 (L) (st) w := e38_36
theorem f38_37 : iv_V call mc_38 rt 37 (L) (st) w = iv_V call mc_38 rt 38 (L) (.int (nI 0) :: st) w := e38_37
theorem f38_38 : iv_V call mc_38 rt 38 (v0 :: v1 :: v2 :: u :: L) (.int x :: st) w = iv_V call mc_38 rt 39 (v0 :: v1 :: v2 :: .int x :: L) (st) w := e38_38
theorem f38_39 : iv_V call mc_38 rt 39 (.ref a :: L) (st) w = iv_V call mc_38 rt 40 (.ref a :: L) (.ref a :: st) w := e38_39
theorem f38_40 : iv_V call mc_38 rt 40 (L) (st) w = iv_gf w st 1 1 (iv_kv call mc_38 rt 41 L w) := e38_40
theorem f38_41 : iv_V call mc_38 rt 41 (v0 :: v1 :: v2 :: v3 :: .int x :: L) (st) w = iv_V call mc_38 rt 42 (v0 :: v1 :: v2 :: v3 :: .int x :: L) (.int x :: st) w := e38_41
theorem f38_42 : iv_V call mc_38 rt 42 (L) (st) w = iv_ald w st iv_isI (iv_kv call mc_38 rt 43 L w) := e38_42
theorem f38_43 : iv_V call mc_38 rt 43 (v0 :: v1 :: v2 :: v3 :: u :: L) (.int x :: st) w = iv_V call mc_38 rt 44 (v0 :: v1 :: v2 :: v3 :: .int x :: L) (st) w := e38_43
theorem f38_44 : iv_V call mc_38 rt 44 (L) (st) w = iv_V call mc_38 rt 25 (L) (st) w := e38_44
theorem f38_45 : iv_V call mc_38 rt 45 (v0 :: v1 :: v2 :: .int x :: L) (st) w = iv_V call mc_38 rt 46 (v0 :: v1 :: v2 :: .int x :: L) (.int x :: st) w := e38_45
theorem f38_46 : iv_V call mc_38 rt 46 (L) (st) w = iv_ret rt st w := e38_46
theorem f39_0 : iv_V call mc_39 rt 0 (.ref a :: L) (st) w = iv_V call mc_39 rt 1 (.ref a :: L) (.ref a :: st) w := e39_0
theorem f39_1 : iv_V call mc_39 rt 1 (v0 :: .int x :: L) (st) w = iv_V call mc_39 rt 2 (v0 :: .int x :: L) (.int x :: st) w := e39_1
theorem f39_2 : iv_V call mc_39 rt 2 (v0 :: v1 :: .int x :: L) (st) w = iv_V call mc_39 rt 3 (v0 :: v1 :: .int x :: L) (.int x :: st) w := e39_2
theorem f39_3 {a0 : Nat} {x1 : Int32} {x2 : Int32} : iv_V call mc_39 rt 3 (L) (.int x2 :: .int x1 :: .ref a0 :: []) w = iv_cr (iv_rc w [.ref a0, .int x1, .int x2] 1) (iv_ct call mc_39 rt 4 L [] (call 38 [.ref a0, .int x1, .int x2] w)) := e39_3
theorem f39_4 : iv_V call mc_39 rt 4 (L) (.int x :: st) w = if x = nI 0 then iv_V call mc_39 rt 25 (L) (st) w else iv_V call mc_39 rt 5 (L) (st) w := e39_4
theorem f39_5 : iv_V call mc_39 rt 5 (.ref a :: L) (st) w = iv_V call mc_39 rt 6 (.ref a :: L) (.ref a :: st) w := e39_5
theorem f39_6 : iv_V call mc_39 rt 6 (L) (st) w = iv_gf w st 1 4 (iv_kv call mc_39 rt 7 L w) := e39_6
theorem f39_7 : iv_V call mc_39 rt 7 (v0 :: v1 :: .int x :: L) (st) w = iv_V call mc_39 rt 8 (v0 :: v1 :: .int x :: L) (.int x :: st) w := e39_7
theorem f39_8 : iv_V call mc_39 rt 8 (L) (st) w = iv_ald w st iv_isI (iv_kv call mc_39 rt 9 L w) := e39_8
theorem f39_9 : iv_V call mc_39 rt 9 (L) (st) w = iv_V call mc_39 rt 10 (L) (.int (nI 1) :: st) w := e39_9
theorem f39_10 : iv_V call mc_39 rt 10 (L) (.int y :: .int x :: st) w = if y < x then iv_V call mc_39 rt 25 (L) (st) w else iv_V call mc_39 rt 11 (L) (st) w := e39_10
theorem f39_11 : iv_V call mc_39 rt 11 (.ref a :: L) (st) w = iv_V call mc_39 rt 12 (.ref a :: L) (.ref a :: st) w := e39_11
theorem f39_12 : iv_V call mc_39 rt 12 (L) (st) w = iv_gf w st 1 4 (iv_kv call mc_39 rt 13 L w) := e39_12
theorem f39_13 : iv_V call mc_39 rt 13 (v0 :: v1 :: .int x :: L) (st) w = iv_V call mc_39 rt 14 (v0 :: v1 :: .int x :: L) (.int x :: st) w := e39_13
theorem f39_14 : iv_V call mc_39 rt 14 (L) (st) w = iv_ald w st iv_isI (iv_kv call mc_39 rt 15 L w) := e39_14
theorem f39_15 : iv_V call mc_39 rt 15 (L) (st) w = iv_V call mc_39 rt 16 (L) (.int (nI 1) :: st) w := e39_15
theorem f39_16 : iv_V call mc_39 rt 16 (L) (.int y :: .int x :: st) w = if ¬ x = y then iv_V call mc_39 rt 27 (L) (st) w else iv_V call mc_39 rt 17 (L) (st) w := e39_16
theorem f39_17 : iv_V call mc_39 rt 17 (v0 :: v1 :: v2 :: .int x :: L) (st) w = iv_V call mc_39 rt 18 (v0 :: v1 :: v2 :: .int x :: L) (.int x :: st) w := e39_17
theorem f39_18 : iv_V call mc_39 rt 18 (L) (st) w = iv_V call mc_39 rt 19 (L) (.int (-1) :: st) w := e39_18
theorem f39_19 : iv_V call mc_39 rt 19 (.ref a :: L) (st) w = iv_V call mc_39 rt 20 (.ref a :: L) (.ref a :: st) w := e39_19
theorem f39_20 : iv_V call mc_39 rt 20 (L) (st) w = iv_gf w st 1 24 (iv_kv call mc_39 rt 21 L w) := e39_20
theorem f39_21 : iv_V call mc_39 rt 21 (L) (st) w = iv_V call mc_39 rt 22 (L) (.int (nI 1) :: st) w := e39_21
theorem f39_22 : iv_V call mc_39 rt 22 (L) (.int y :: .int x :: st) w = iv_V call mc_39 rt 23 (L) (.int (x - y) :: st) w := e39_22
theorem f39_23 {x0 : Int32} {x1 : Int32} {x2 : Int32} : iv_V call mc_39 rt 23 (L) (.int x2 :: .int x1 :: .int x0 :: []) w = iv_ct call mc_39 rt 24 L [] (call 25 [.int x0, .int x1, .int x2] w) := e39_23
theorem f39_24 : iv_V call mc_39 rt 24 (L) (.int x :: st) w = if ¬ x = nI 0 then iv_V call mc_39 rt 27 (L) (st) w else iv_V call mc_39 rt 25 (L) (st) w := e39_24
theorem f39_25 : iv_V call mc_39 rt 25 (L) (st) w = iv_V call mc_39 rt 26 (L) (.int (nI 0) :: st) w := e39_25
theorem f39_26 : iv_V call mc_39 rt 26 (L) (st) w = iv_ret rt st w := e39_26
theorem f39_27 : iv_V call mc_39 rt 27 (.ref a :: L) (st) w = iv_V call mc_39 rt 28 (.ref a :: L) (.ref a :: st) w := e39_27
theorem f39_28 : iv_V call mc_39 rt 28 (L) (st) w = iv_gf w st 1 26 (iv_kv call mc_39 rt 29 L w) := e39_28
theorem f39_29 : iv_V call mc_39 rt 29 (L) (st) w = iv_V call mc_39 rt 30 (L) (.int (nI 14) :: st) w := e39_29
theorem f39_30 : iv_V call mc_39 rt 30 (v0 :: .int x :: L) (st) w = iv_V call mc_39 rt 31 (v0 :: .int x :: L) (.int x :: st) w := e39_30
theorem f39_31 : iv_V call mc_39 rt 31 (L) (.int y :: .int x :: st) w = iv_V call mc_39 rt 32 (L) (.int (x * y) :: st) w := e39_31
theorem f39_32 : iv_V call mc_39 rt 32 (v0 :: v1 :: .int x :: L) (st) w = iv_V call mc_39 rt 33 (v0 :: v1 :: .int x :: L) (.int x :: st) w := e39_32
theorem f39_33 : iv_V call mc_39 rt 33 (L) (.int y :: .int x :: st) w = iv_V call mc_39 rt 34 (L) (.int (x + y) :: st) w := e39_33
theorem f39_34 : iv_V call mc_39 rt 34 (.ref a :: L) (st) w = iv_V call mc_39 rt 35 (.ref a :: L) (.ref a :: st) w := e39_34
theorem f39_35 : iv_V call mc_39 rt 35 (L) (st) w = iv_gf w st 1 4 (iv_kv call mc_39 rt 36 L w) := e39_35
theorem f39_36 : iv_V call mc_39 rt 36 (v0 :: v1 :: .int x :: L) (st) w = iv_V call mc_39 rt 37 (v0 :: v1 :: .int x :: L) (.int x :: st) w := e39_36
theorem f39_37 : iv_V call mc_39 rt 37 (L) (st) w = iv_ald w st iv_isI (iv_kv call mc_39 rt 38 L w) := e39_37
theorem f39_38 : iv_V call mc_39 rt 38 (L) (st) w = iv_V call mc_39 rt 39 (L) (.int (nI 1) :: st) w := e39_38
theorem f39_39 : iv_V call mc_39 rt 39 (L) (.int y :: .int x :: st) w = if ¬ x = y then iv_V call mc_39 rt 44 (L) (st) w else iv_V call mc_39 rt 40 (L) (st) w := e39_39
theorem f39_40 : iv_V call mc_39 rt 40 (v0 :: v1 :: v2 :: .int x :: L) (st) w = iv_V call mc_39 rt 41 (v0 :: v1 :: v2 :: .int x :: L) (.int x :: st) w := e39_40
theorem f39_41 : iv_V call mc_39 rt 41 (L) (st) w = iv_V call mc_39 rt 42 (L) (.int (nI 1) :: st) w := e39_41
theorem f39_42 : iv_V call mc_39 rt 42 (L) (.int y :: .int x :: st) w = iv_V call mc_39 rt 43 (L) (.int (x + y) :: st) w := e39_42
theorem f39_43 : iv_V call mc_39 rt 43 (L) (st) w = iv_V call mc_39 rt 45 (L) (st) w := e39_43
theorem f39_44 : iv_V call mc_39 rt 44 (v0 :: v1 :: v2 :: .int x :: L) (st) w = iv_V call mc_39 rt 45 (v0 :: v1 :: v2 :: .int x :: L) (.int x :: st) w := e39_44
theorem f39_45 : iv_V call mc_39 rt 45 (L) (st) w = iv_ast w st iv_isI (iv_kw call mc_39 rt 46 L) := e39_45
theorem f39_46 : iv_V call mc_39 rt 46 (L) (st) w = iv_V call mc_39 rt 47 (L) (.int (nI 1) :: st) w := e39_46
theorem f39_47 : iv_V call mc_39 rt 47 (L) (st) w = iv_ret rt st w := e39_47
theorem f40_0 : iv_V call mc_40 rt 0 (.ref a :: L) (st) w = iv_V call mc_40 rt 1 (.ref a :: L) (.ref a :: st) w := e40_0
theorem f40_1 : iv_V call mc_40 rt 1 (v0 :: .int x :: L) (st) w = iv_V call mc_40 rt 2 (v0 :: .int x :: L) (.int x :: st) w := e40_1
theorem f40_2 : iv_V call mc_40 rt 2 (v0 :: v1 :: .int x :: L) (st) w = iv_V call mc_40 rt 3 (v0 :: v1 :: .int x :: L) (.int x :: st) w := e40_2
theorem f40_3 {a0 : Nat} {x1 : Int32} {x2 : Int32} : iv_V call mc_40 rt 3 (L) (.int x2 :: .int x1 :: .ref a0 :: []) w = iv_cr (iv_rc w [.ref a0, .int x1, .int x2] 1) (iv_ct call mc_40 rt 4 L [] (call 38 [.ref a0, .int x1, .int x2] w)) := e40_3
theorem f40_4 : iv_V call mc_40 rt 4 (L) (.int x :: st) w = if x = nI 0 then iv_V call mc_40 rt 25 (L) (st) w else iv_V call mc_40 rt 5 (L) (st) w := e40_4
theorem f40_5 : iv_V call mc_40 rt 5 (.ref a :: L) (st) w = iv_V call mc_40 rt 6 (.ref a :: L) (.ref a :: st) w := e40_5
theorem f40_6 : iv_V call mc_40 rt 6 (L) (st) w = iv_gf w st 1 4 (iv_kv call mc_40 rt 7 L w) := e40_6
theorem f40_7 : iv_V call mc_40 rt 7 (v0 :: v1 :: .int x :: L) (st) w = iv_V call mc_40 rt 8 (v0 :: v1 :: .int x :: L) (.int x :: st) w := e40_7
theorem f40_8 : iv_V call mc_40 rt 8 (L) (st) w = iv_ald w st iv_isI (iv_kv call mc_40 rt 9 L w) := e40_8
theorem f40_9 : iv_V call mc_40 rt 9 (L) (st) w = iv_V call mc_40 rt 10 (L) (.int (nI 2) :: st) w := e40_9
theorem f40_10 : iv_V call mc_40 rt 10 (L) (.int y :: .int x :: st) w = if x < y then iv_V call mc_40 rt 25 (L) (st) w else iv_V call mc_40 rt 11 (L) (st) w := e40_10
theorem f40_11 : iv_V call mc_40 rt 11 (.ref a :: L) (st) w = iv_V call mc_40 rt 12 (.ref a :: L) (.ref a :: st) w := e40_11
theorem f40_12 : iv_V call mc_40 rt 12 (L) (st) w = iv_gf w st 1 4 (iv_kv call mc_40 rt 13 L w) := e40_12
theorem f40_13 : iv_V call mc_40 rt 13 (v0 :: v1 :: .int x :: L) (st) w = iv_V call mc_40 rt 14 (v0 :: v1 :: .int x :: L) (.int x :: st) w := e40_13
theorem f40_14 : iv_V call mc_40 rt 14 (L) (st) w = iv_ald w st iv_isI (iv_kv call mc_40 rt 15 L w) := e40_14
theorem f40_15 : iv_V call mc_40 rt 15 (L) (st) w = iv_V call mc_40 rt 16 (L) (.int (nI 3) :: st) w := e40_15
theorem f40_16 : iv_V call mc_40 rt 16 (L) (.int y :: .int x :: st) w = if ¬ x = y then iv_V call mc_40 rt 27 (L) (st) w else iv_V call mc_40 rt 17 (L) (st) w := e40_16
theorem f40_17 : iv_V call mc_40 rt 17 (v0 :: v1 :: v2 :: .int x :: L) (st) w = iv_V call mc_40 rt 18 (v0 :: v1 :: v2 :: .int x :: L) (.int x :: st) w := e40_17
theorem f40_18 : iv_V call mc_40 rt 18 (L) (st) w = iv_V call mc_40 rt 19 (L) (.int (nI 0) :: st) w := e40_18
theorem f40_19 : iv_V call mc_40 rt 19 (.ref a :: L) (st) w = iv_V call mc_40 rt 20 (.ref a :: L) (.ref a :: st) w := e40_19
theorem f40_20 : iv_V call mc_40 rt 20 (L) (st) w = iv_gf w st 1 24 (iv_kv call mc_40 rt 21 L w) := e40_20
theorem f40_21 : iv_V call mc_40 rt 21 (L) (st) w = iv_V call mc_40 rt 22 (L) (.int (nI 1) :: st) w := e40_21
theorem f40_22 : iv_V call mc_40 rt 22 (L) (.int y :: .int x :: st) w = iv_V call mc_40 rt 23 (L) (.int (x - y) :: st) w := e40_22
theorem f40_23 {x0 : Int32} {x1 : Int32} {x2 : Int32} : iv_V call mc_40 rt 23 (L) (.int x2 :: .int x1 :: .int x0 :: []) w = iv_ct call mc_40 rt 24 L [] (call 25 [.int x0, .int x1, .int x2] w) := e40_23
theorem f40_24 : iv_V call mc_40 rt 24 (L) (.int x :: st) w = if ¬ x = nI 0 then iv_V call mc_40 rt 27 (L) (st) w else iv_V call mc_40 rt 25 (L) (st) w := e40_24
theorem f40_25 : iv_V call mc_40 rt 25 (L) (st) w = iv_V call mc_40 rt 26 (L) (.int (nI 0) :: st) w := e40_25
theorem f40_26 : iv_V call mc_40 rt 26 (L) (st) w = iv_ret rt st w := e40_26
theorem f40_27 : iv_V call mc_40 rt 27 (L) (st) w = iv_V call mc_40 rt 28 (L) (.int (nI 14) :: st) w := e40_27
theorem f40_28 : iv_V call mc_40 rt 28 (v0 :: .int x :: L) (st) w = iv_V call mc_40 rt 29 (v0 :: .int x :: L) (.int x :: st) w := e40_28
theorem f40_29 : iv_V call mc_40 rt 29 (L) (.int y :: .int x :: st) w = iv_V call mc_40 rt 30 (L) (.int (x * y) :: st) w := e40_29
theorem f40_30 : iv_V call mc_40 rt 30 (v0 :: v1 :: .int x :: L) (st) w = iv_V call mc_40 rt 31 (v0 :: v1 :: .int x :: L) (.int x :: st) w := e40_30
theorem f40_31 : iv_V call mc_40 rt 31 (L) (.int y :: .int x :: st) w = iv_V call mc_40 rt 32 (L) (.int (x + y) :: st) w := e40_31
theorem f40_32 : iv_V call mc_40 rt 32 (v0 :: v1 :: v2 :: v3 :: u :: L) (.int x :: st) w = iv_V call mc_40 rt 33 (v0 :: v1 :: v2 :: v3 :: .int x :: L) (st) w := e40_32
theorem f40_33 : iv_V call mc_40 rt 33 (.ref a :: L) (st) w = iv_V call mc_40 rt 34 (.ref a :: L) (.ref a :: st) w := e40_33
theorem f40_34 : iv_V call mc_40 rt 34 (L) (st) w = iv_gf w st 1 26 (iv_kv call mc_40 rt 35 L w) := e40_34
theorem f40_35 : iv_V call mc_40 rt 35 (v0 :: v1 :: v2 :: v3 :: .int x :: L) (st) w = iv_V call mc_40 rt 36 (v0 :: v1 :: v2 :: v3 :: .int x :: L) (.int x :: st) w := e40_35
theorem f40_36 : iv_V call mc_40 rt 36 (L) (st) w = iv_ald w st iv_isI (iv_kv call mc_40 rt 37 L w) := e40_36
theorem f40_37 : iv_V call mc_40 rt 37 (L) (.int x :: st) w = if ¬ x = nI 0 then iv_V call mc_40 rt 40 (L) (st) w else iv_V call mc_40 rt 38 (L) (st) w := e40_37
theorem f40_38 : iv_V call mc_40 rt 38 (L) (st) w = iv_V call mc_40 rt 39 (L) (.int (nI 0) :: st) w := e40_38
theorem f40_39 : iv_V call mc_40 rt 39 (L) (st) w = iv_V call mc_40 rt 46 (L) (st) w := e40_39
theorem f40_40 : iv_V call mc_40 rt 40 (.ref a :: L) (st) w = iv_V call mc_40 rt 41 (.ref a :: L) (.ref a :: st) w := e40_40
theorem f40_41 : iv_V call mc_40 rt 41 (L) (st) w = iv_gf w st 1 26 (iv_kv call mc_40 rt 42 L w) := e40_41
theorem f40_42 : iv_V call mc_40 rt 42 (v0 :: v1 :: v2 :: v3 :: .int x :: L) (st) w = iv_V call mc_40 rt 43 (v0 :: v1 :: v2 :: v3 :: .int x :: L) (.int x :: st) w := e40_42
theorem f40_43 : iv_V call mc_40 rt 43 (L) (st) w = iv_ald w st iv_isI (iv_kv call mc_40 rt 44 L w) := e40_43
theorem f40_44 : iv_V call mc_40 rt 44 (L) (st) w = iv_V call mc_40 rt 45 (L) (.int (nI 1) :: st) w := e40_44
theorem f40_45 : iv_V call mc_40 rt 45 (L) (.int y :: .int x :: st) w = iv_V call mc_40 rt 46 (L) (.int (x - y) :: st) w := e40_45
theorem f40_46 : iv_V call mc_40 rt 46 (v0 :: v1 :: v2 :: v3 :: v4 :: u :: L) (.int x :: st) w = iv_V call mc_40 rt 47 (v0 :: v1 :: v2 :: v3 :: v4 :: .int x :: L) (st) w := e40_46
theorem f40_47 : iv_V call mc_40 rt 47 (v0 :: v1 :: v2 :: v3 :: v4 :: .int x :: L) (st) w = iv_V call mc_40 rt 48 (v0 :: v1 :: v2 :: v3 :: v4 :: .int x :: L) (.int x :: st) w := e40_47
theorem f40_48 : iv_V call mc_40 rt 48 (L) (st) w = iv_V call mc_40 rt 49 (L) (.int (nI 3) :: st) w := e40_48
theorem f40_49 : iv_V call mc_40 rt 49 (L) (.int y :: .int x :: st) w = if ¬ x = y then iv_V call mc_40 rt 52 (L) (st) w else iv_V call mc_40 rt 50 (L) (st) w := e40_49
theorem f40_50 : iv_V call mc_40 rt 50 (L) (st) w = iv_V call mc_40 rt 51 (L) (.int (nI 0) :: st) w := e40_50
theorem f40_51 : iv_V call mc_40 rt 51 (L) (st) w = iv_ret rt st w := e40_51
theorem f40_52 : iv_V call mc_40 rt 52 (.ref a :: L) (st) w = iv_V call mc_40 rt 53 (.ref a :: L) (.ref a :: st) w := e40_52
theorem f40_53 : iv_V call mc_40 rt 53 (L) (st) w = iv_gf w st 1 27 (iv_kv call mc_40 rt 54 L w) := e40_53
theorem f40_54 : iv_V call mc_40 rt 54 (L) (st) w = iv_V call mc_40 rt 55 (L) (.int (nI 3) :: st) w := e40_54
theorem f40_55 : iv_V call mc_40 rt 55 (v0 :: v1 :: v2 :: v3 :: .int x :: L) (st) w = iv_V call mc_40 rt 56 (v0 :: v1 :: v2 :: v3 :: .int x :: L) (.int x :: st) w := e40_55
theorem f40_56 : iv_V call mc_40 rt 56 (L) (.int y :: .int x :: st) w = iv_V call mc_40 rt 57 (L) (.int (x * y) :: st) w := e40_56
theorem f40_57 : iv_V call mc_40 rt 57 (v0 :: v1 :: v2 :: v3 :: v4 :: .int x :: L) (st) w = iv_V call mc_40 rt 58 (v0 :: v1 :: v2 :: v3 :: v4 :: .int x :: L) (.int x :: st) w := e40_57
theorem f40_58 : iv_V call mc_40 rt 58 (L) (.int y :: .int x :: st) w = iv_V call mc_40 rt 59 (L) (.int (x + y) :: st) w := e40_58
theorem f40_59 : iv_V call mc_40 rt 59 (v0 :: v1 :: v2 :: .int x :: L) (st) w = iv_V call mc_40 rt 60 (v0 :: v1 :: v2 :: .int x :: L) (.int x :: st) w := e40_59
theorem f40_60 : iv_V call mc_40 rt 60 (L) (st) w = iv_ast w st iv_isI (iv_kw call mc_40 rt 61 L) := e40_60
theorem f40_61 : iv_V call mc_40 rt 61 (.ref a :: L) (st) w = iv_V call mc_40 rt 62 (.ref a :: L) (.ref a :: st) w := e40_61
theorem f40_62 : iv_V call mc_40 rt 62 (L) (st) w = iv_gf w st 1 26 (iv_kv call mc_40 rt 63 L w) := e40_62
theorem f40_63 : iv_V call mc_40 rt 63 (v0 :: v1 :: v2 :: v3 :: .int x :: L) (st) w = iv_V call mc_40 rt 64 (v0 :: v1 :: v2 :: v3 :: .int x :: L) (.int x :: st) w := e40_63
theorem f40_64 : iv_V call mc_40 rt 64 (v0 :: v1 :: v2 :: v3 :: v4 :: .int x :: L) (st) w = iv_V call mc_40 rt 65 (v0 :: v1 :: v2 :: v3 :: v4 :: .int x :: L) (.int x :: st) w := e40_64
theorem f40_65 : iv_V call mc_40 rt 65 (L) (st) w = iv_V call mc_40 rt 66 (L) (.int (nI 2) :: st) w := e40_65
theorem f40_66 : iv_V call mc_40 rt 66 (L) (.int y :: .int x :: st) w = iv_V call mc_40 rt 67 (L) (.int (x + y) :: st) w := e40_66
theorem f40_67 : iv_V call mc_40 rt 67 (L) (st) w = iv_ast w st iv_isI (iv_kw call mc_40 rt 68 L) := e40_67
theorem f40_68 : iv_V call mc_40 rt 68 (L) (st) w = iv_V call mc_40 rt 69 (L) (.int (nI 1) :: st) w := e40_68
theorem f40_69 : iv_V call mc_40 rt 69 (L) (st) w = iv_ret rt st w := e40_69
theorem f41_0 : iv_V call mc_41 rt 0 (.ref a :: L) (st) w = iv_V call mc_41 rt 1 (.ref a :: L) (.ref a :: st) w := e41_0
theorem f41_1 : iv_V call mc_41 rt 1 (v0 :: .int x :: L) (st) w = iv_V call mc_41 rt 2 (v0 :: .int x :: L) (.int x :: st) w := e41_1
theorem f41_2 : iv_V call mc_41 rt 2 (v0 :: v1 :: .int x :: L) (st) w = iv_V call mc_41 rt 3 (v0 :: v1 :: .int x :: L) (.int x :: st) w := e41_2
theorem f41_3 {a0 : Nat} {x1 : Int32} {x2 : Int32} : iv_V call mc_41 rt 3 (L) (.int x2 :: .int x1 :: .ref a0 :: []) w = iv_cr (iv_rc w [.ref a0, .int x1, .int x2] 1) (iv_ct call mc_41 rt 4 L [] (call 38 [.ref a0, .int x1, .int x2] w)) := e41_3
theorem f41_4 : iv_V call mc_41 rt 4 (L) (.int x :: st) w = if x = nI 0 then iv_V call mc_41 rt 11 (L) (st) w else iv_V call mc_41 rt 5 (L) (st) w := e41_4
theorem f41_5 : iv_V call mc_41 rt 5 (.ref a :: L) (st) w = iv_V call mc_41 rt 6 (.ref a :: L) (.ref a :: st) w := e41_5
theorem f41_6 : iv_V call mc_41 rt 6 (L) (st) w = iv_gf w st 1 4 (iv_kv call mc_41 rt 7 L w) := e41_6
theorem f41_7 : iv_V call mc_41 rt 7 (v0 :: v1 :: .int x :: L) (st) w = iv_V call mc_41 rt 8 (v0 :: v1 :: .int x :: L) (.int x :: st) w := e41_7
theorem f41_8 : iv_V call mc_41 rt 8 (L) (st) w = iv_ald w st iv_isI (iv_kv call mc_41 rt 9 L w) := e41_8
theorem f41_9 : iv_V call mc_41 rt 9 (L) (st) w = iv_V call mc_41 rt 10 (L) (.int (nI 2) :: st) w := e41_9
theorem f41_10 : iv_V call mc_41 rt 10 (L) (.int y :: .int x :: st) w = if y ≤ x then iv_V call mc_41 rt 13 (L) (st) w else iv_V call mc_41 rt 11 (L) (st) w := e41_10
theorem f41_11 : iv_V call mc_41 rt 11 (L) (st) w = iv_V call mc_41 rt 12 (L) (.int (nI 0) :: st) w := e41_11
theorem f41_12 : iv_V call mc_41 rt 12 (L) (st) w = iv_ret rt st w := e41_12
theorem f41_13 : iv_V call mc_41 rt 13 (.ref a :: L) (st) w = iv_V call mc_41 rt 14 (.ref a :: L) (.ref a :: st) w := e41_13
theorem f41_14 : iv_V call mc_41 rt 14 (L) (st) w = iv_gf w st 1 26 (iv_kv call mc_41 rt 15 L w) := e41_14
theorem f41_15 : iv_V call mc_41 rt 15 (L) (st) w = iv_V call mc_41 rt 16 (L) (.int (nI 14) :: st) w := e41_15
theorem f41_16 : iv_V call mc_41 rt 16 (v0 :: .int x :: L) (st) w = iv_V call mc_41 rt 17 (v0 :: .int x :: L) (.int x :: st) w := e41_16
theorem f41_17 : iv_V call mc_41 rt 17 (L) (.int y :: .int x :: st) w = iv_V call mc_41 rt 18 (L) (.int (x * y) :: st) w := e41_17
theorem f41_18 : iv_V call mc_41 rt 18 (v0 :: v1 :: .int x :: L) (st) w = iv_V call mc_41 rt 19 (v0 :: v1 :: .int x :: L) (.int x :: st) w := e41_18
theorem f41_19 : iv_V call mc_41 rt 19 (L) (.int y :: .int x :: st) w = iv_V call mc_41 rt 20 (L) (.int (x + y) :: st) w := e41_19
theorem f41_20 : iv_V call mc_41 rt 20 (v0 :: v1 :: v2 :: .int x :: L) (st) w = iv_V call mc_41 rt 21 (v0 :: v1 :: v2 :: .int x :: L) (.int x :: st) w := e41_20
theorem f41_21 : iv_V call mc_41 rt 21 (L) (.int x :: st) w = if x = nI 0 then iv_V call mc_41 rt 24 (L) (st) w else iv_V call mc_41 rt 22 (L) (st) w := e41_21
theorem f41_22 : iv_V call mc_41 rt 22 (L) (st) w = iv_V call mc_41 rt 23 (L) (.int (nI 0) :: st) w := e41_22
theorem f41_23 : iv_V call mc_41 rt 23 (L) (st) w = iv_V call mc_41 rt 25 (L) (st) w := e41_23
theorem f41_24 : iv_V call mc_41 rt 24 (L) (st) w = iv_V call mc_41 rt 25 (L) (.int (nI 1) :: st) w := e41_24
theorem f41_25 : iv_V call mc_41 rt 25 (L) (st) w = iv_ast w st iv_isI (iv_kw call mc_41 rt 26 L) := e41_25
theorem f41_26 : iv_V call mc_41 rt 26 (L) (st) w = iv_V call mc_41 rt 27 (L) (.int (nI 1) :: st) w := e41_26
theorem f41_27 : iv_V call mc_41 rt 27 (L) (st) w = iv_ret rt st w := e41_27
theorem f42_0 : iv_V call mc_42 rt 0 (.int x :: L) (st) w = iv_V call mc_42 rt 1 (.int x :: L) (.int x :: st) w := e42_0
theorem f42_1 : iv_V call mc_42 rt 1 (L) (.int x :: st) w = if ¬ x = nI 0 then iv_V call mc_42 rt 17 (L) (st) w else iv_V call mc_42 rt 2 (L) (st) w := e42_1
theorem f42_2 : iv_V call mc_42 rt 2 (v0 :: v1 :: .int x :: L) (st) w = iv_V call mc_42 rt 3 (v0 :: v1 :: .int x :: L) (.int x :: st) w := e42_2
theorem f42_3 : iv_V call mc_42 rt 3 (L) (.int x :: st) w = if x = nI 0 then iv_V call mc_42 rt 11 (L) (st) w else iv_V call mc_42 rt 4 (L) (st) w := e42_3
theorem f42_4 : iv_V call mc_42 rt 4 (v0 :: .int x :: L) (st) w = iv_V call mc_42 rt 5 (v0 :: .int x :: L) (.int x :: st) w := e42_4
theorem f42_5 : iv_V call mc_42 rt 5 (L) (st) w = iv_V call mc_42 rt 6 (L) (.int (nI 3) :: st) w := e42_5
theorem f42_6 : iv_V call mc_42 rt 6 (L) (.int y :: .int x :: st) w = if ¬ x = y then iv_V call mc_42 rt 9 (L) (st) w else iv_V call mc_42 rt 7 (L) (st) w := e42_6
theorem f42_7 : iv_V call mc_42 rt 7 (L) (st) w = iv_V call mc_42 rt 8 (L) (.int (nI 1) :: st) w := e42_7
theorem f42_8 : iv_V call mc_42 rt 8 (L) (st) w = iv_V call mc_42 rt 16 (L) (st) w := e42_8
theorem f42_9 : iv_V call mc_42 rt 9 (L) (st) w = iv_V call mc_42 rt 10 (L) (.int (nI 0) :: st) w := e42_9
theorem f42_10 : iv_V call mc_42 rt 10 (L) (st) w = iv_V call mc_42 rt 16 (L) (st) w := e42_10
theorem f42_11 : iv_V call mc_42 rt 11 (v0 :: .int x :: L) (st) w = iv_V call mc_42 rt 12 (v0 :: .int x :: L) (.int x :: st) w := e42_11
theorem f42_12 : iv_V call mc_42 rt 12 (L) (.int x :: st) w = if x = nI 0 then iv_V call mc_42 rt 15 (L) (st) w else iv_V call mc_42 rt 13 (L) (st) w := e42_12
theorem f42_13 : iv_V call mc_42 rt 13 (L) (st) w = iv_V call mc_42 rt 14 (L) (.int (nI 1) :: st) w := e42_13
theorem f42_14 : iv_V call mc_42 rt 14 (L) (st) w = iv_V call mc_42 rt 16 (L) (st) w := e42_14
theorem f42_15 : iv_V call mc_42 rt 15 (L) (st) w = iv_V call mc_42 rt 16 (L) (.int (nI 0) :: st) w := e42_15
theorem f42_16 : iv_V call mc_42 rt 16 (L) (st) w = iv_ret rt st w := e42_16
theorem f42_17 : iv_V call mc_42 rt 17 (.int x :: L) (st) w = iv_V call mc_42 rt 18 (.int x :: L) (.int x :: st) w := e42_17
theorem f42_18 : iv_V call mc_42 rt 18 (L) (st) w = iv_V call mc_42 rt 19 (L) (.int (nI 3) :: st) w := e42_18
theorem f42_19 : iv_V call mc_42 rt 19 (L) (.int y :: .int x :: st) w = if ¬ x = y then iv_V call mc_42 rt 29 (L) (st) w else iv_V call mc_42 rt 20 (L) (st) w := e42_19
theorem f42_20 : iv_V call mc_42 rt 20 (v0 :: v1 :: .int x :: L) (st) w = iv_V call mc_42 rt 21 (v0 :: v1 :: .int x :: L) (.int x :: st) w := e42_20
theorem f42_21 : iv_V call mc_42 rt 21 (L) (.int x :: st) w = if ¬ x = nI 0 then iv_V call mc_42 rt 27 (L) (st) w else iv_V call mc_42 rt 22 (L) (st) w := e42_21
theorem f42_22 : iv_V call mc_42 rt 22 (v0 :: .int x :: L) (st) w = iv_V call mc_42 rt 23 (v0 :: .int x :: L) (.int x :: st) w := e42_22
theorem f42_23 : iv_V call mc_42 rt 23 (L) (st) w = iv_V call mc_42 rt 24 (L) (.int (nI 2) :: st) w := e42_23
theorem f42_24 : iv_V call mc_42 rt 24 (L) (.int y :: .int x :: st) w = if x < y then iv_V call mc_42 rt 27 (L) (st) w else iv_V call mc_42 rt 25 (L) (st) w := e42_24
theorem f42_25 : iv_V call mc_42 rt 25 (L) (st) w = iv_V call mc_42 rt 26 (L) (.int (nI 1) :: st) w := e42_25
theorem f42_26 : iv_V call mc_42 rt 26 (L) (st) w = iv_V call mc_42 rt 28 (L) (st) w := e42_26
theorem f42_27 : iv_V call mc_42 rt 27 (L) (st) w = iv_V call mc_42 rt 28 (L) (.int (nI 0) :: st) w := e42_27
theorem f42_28 : iv_V call mc_42 rt 28 (L) (st) w = iv_ret rt st w := e42_28
theorem f42_29 : iv_V call mc_42 rt 29 (v0 :: v1 :: .int x :: L) (st) w = iv_V call mc_42 rt 30 (v0 :: v1 :: .int x :: L) (.int x :: st) w := e42_29
theorem f42_30 : iv_V call mc_42 rt 30 (L) (.int x :: st) w = if x = nI 0 then iv_V call mc_42 rt 38 (L) (st) w else iv_V call mc_42 rt 31 (L) (st) w := e42_30
theorem f42_31 : iv_V call mc_42 rt 31 (v0 :: .int x :: L) (st) w = iv_V call mc_42 rt 32 (v0 :: .int x :: L) (.int x :: st) w := e42_31
theorem f42_32 : iv_V call mc_42 rt 32 (L) (st) w = iv_V call mc_42 rt 33 (L) (.int (nI 2) :: st) w := e42_32
theorem f42_33 : iv_V call mc_42 rt 33 (L) (.int y :: .int x :: st) w = if ¬ x = y then iv_V call mc_42 rt 36 (L) (st) w else iv_V call mc_42 rt 34 (L) (st) w := e42_33
theorem f42_34 : iv_V call mc_42 rt 34 (L) (st) w = iv_V call mc_42 rt 35 (L) (.int (nI 1) :: st) w := e42_34
theorem f42_35 : iv_V call mc_42 rt 35 (L) (st) w = iv_V call mc_42 rt 43 (L) (st) w := e42_35
theorem f42_36 : iv_V call mc_42 rt 36 (L) (st) w = iv_V call mc_42 rt 37 (L) (.int (nI 0) :: st) w := e42_36
theorem f42_37 : iv_V call mc_42 rt 37 (L) (st) w = iv_V call mc_42 rt 43 (L) (st) w := e42_37
theorem f42_38 : iv_V call mc_42 rt 38 (v0 :: .int x :: L) (st) w = iv_V call mc_42 rt 39 (v0 :: .int x :: L) (.int x :: st) w := e42_38
theorem f42_39 : iv_V call mc_42 rt 39 (L) (.int x :: st) w = if ¬ x = nI 0 then iv_V call mc_42 rt 42 (L) (st) w else iv_V call mc_42 rt 40 (L) (st) w := e42_39
theorem f42_40 : iv_V call mc_42 rt 40 (L) (st) w = iv_V call mc_42 rt 41 (L) (.int (nI 1) :: st) w := e42_40
theorem f42_41 : iv_V call mc_42 rt 41 (L) (st) w = iv_V call mc_42 rt 43 (L) (st) w := e42_41
theorem f42_42 : iv_V call mc_42 rt 42 (L) (st) w = iv_V call mc_42 rt 43 (L) (.int (nI 0) :: st) w := e42_42
theorem f42_43 : iv_V call mc_42 rt 43 (L) (st) w = iv_ret rt st w := e42_43
theorem f43_0 : iv_V call mc_43 rt 0 (.ref a :: L) (st) w = iv_V call mc_43 rt 1 (.ref a :: L) (.ref a :: st) w := e43_0
theorem f43_1 : iv_V call mc_43 rt 1 (L) (st) w = iv_gf w st 1 4 (iv_kv call mc_43 rt 2 L w) := e43_1
theorem f43_2 : iv_V call mc_43 rt 2 (.ref a :: L) (st) w = iv_V call mc_43 rt 3 (.ref a :: L) (.ref a :: st) w := e43_2
theorem f43_3 : iv_V call mc_43 rt 3 (L) (st) w = iv_gf w st 1 8 (iv_kv call mc_43 rt 4 L w) := e43_3
theorem f43_4 : iv_V call mc_43 rt 4 (v0 :: .int x :: L) (st) w = iv_V call mc_43 rt 5 (v0 :: .int x :: L) (.int x :: st) w := e43_4
theorem f43_5 : iv_V call mc_43 rt 5 (L) (st) w = iv_ald w st iv_isI (iv_kv call mc_43 rt 6 L w) := e43_5
theorem f43_6 : iv_V call mc_43 rt 6 (L) (st) w = iv_ald w st iv_isI (iv_kv call mc_43 rt 7 L w) := e43_6
theorem f43_7 : iv_V call mc_43 rt 7 (v0 :: v1 :: u :: L) (.int x :: st) w = iv_V call mc_43 rt 8 (v0 :: v1 :: .int x :: L) (st) w := e43_7
theorem f43_8 : iv_V call mc_43 rt 8 (.ref a :: L) (st) w = iv_V call mc_43 rt 9 (.ref a :: L) (.ref a :: st) w := e43_8
theorem f43_9 : iv_V call mc_43 rt 9 (L) (st) w = iv_gf w st 1 10 (iv_kv call mc_43 rt 10 L w) := e43_9
theorem f43_10 : iv_V call mc_43 rt 10 (v0 :: .int x :: L) (st) w = iv_V call mc_43 rt 11 (v0 :: .int x :: L) (.int x :: st) w := e43_10
theorem f43_11 : iv_V call mc_43 rt 11 (L) (st) w = iv_ald w st iv_isI (iv_kv call mc_43 rt 12 L w) := e43_11
theorem f43_12 : iv_V call mc_43 rt 12 (L) (st) w = iv_V call mc_43 rt 13 (L) (.int (nI 4) :: st) w := e43_12
theorem f43_13 : iv_V call mc_43 rt 13 (L) (.int y :: .int x :: st) w = if x = y then iv_V call mc_43 rt 25 (L) (st) w else iv_V call mc_43 rt 14 (L) (st) w := e43_13
theorem f43_14 : iv_V call mc_43 rt 14 (.ref a :: L) (st) w = iv_V call mc_43 rt 15 (.ref a :: L) (.ref a :: st) w := e43_14
theorem f43_15 : iv_V call mc_43 rt 15 (L) (st) w = iv_gf w st 1 10 (iv_kv call mc_43 rt 16 L w) := e43_15
theorem f43_16 : iv_V call mc_43 rt 16 (v0 :: .int x :: L) (st) w = iv_V call mc_43 rt 17 (v0 :: .int x :: L) (.int x :: st) w := e43_16
theorem f43_17 : iv_V call mc_43 rt 17 (L) (st) w = iv_ald w st iv_isI (iv_kv call mc_43 rt 18 L w) := e43_17
theorem f43_18 : iv_V call mc_43 rt 18 (v0 :: v1 :: .int x :: L) (st) w = iv_V call mc_43 rt 19 (v0 :: v1 :: .int x :: L) (.int x :: st) w := e43_18
theorem f43_19 : iv_V call mc_43 rt 19 (.ref a :: L) (st) w = iv_V call mc_43 rt 20 (.ref a :: L) (.ref a :: st) w := e43_19
theorem f43_20 : iv_V call mc_43 rt 20 (L) (st) w = iv_gf w st 1 9 (iv_kv call mc_43 rt 21 L w) := e43_20
theorem f43_21 : iv_V call mc_43 rt 21 (v0 :: .int x :: L) (st) w = iv_V call mc_43 rt 22 (v0 :: .int x :: L) (.int x :: st) w := e43_21
theorem f43_22 : iv_V call mc_43 rt 22 (L) (st) w = iv_ald w st iv_isZ (iv_kv call mc_43 rt 23 L w) := e43_22
theorem f43_23 {x0 : Int32} {x1 : Int32} {x2 : Int32} : iv_V call mc_43 rt 23 (L) (.int x2 :: .int x1 :: .int x0 :: []) w = iv_ct call mc_43 rt 24 L [] (call 42 [.int x0, .int x1, .int x2] w) := e43_23
theorem f43_24 : iv_V call mc_43 rt 24 (L) (st) w = iv_ret rt st w := e43_24
theorem f43_25 : iv_V call mc_43 rt 25 (L) (st) w = iv_V call mc_43 rt 26 (L) (.int (nI 1) :: st) w := e43_25
theorem f43_26 : iv_V call mc_43 rt 26 (v0 :: v1 :: v2 :: u :: L) (.int x :: st) w = iv_V call mc_43 rt 27 (v0 :: v1 :: v2 :: .int x :: L) (st) w := e43_26
theorem f43_27 : iv_V call mc_43 rt 27 (L) (st) w = iv_V call mc_43 rt 28 (L) (.int (nI 0) :: st) w := e43_27
theorem f43_28 : iv_V call mc_43 rt 28 (v0 :: v1 :: v2 :: v3 :: u :: L) (.int x :: st) w = iv_V call mc_43 rt 29 (v0 :: v1 :: v2 :: v3 :: .int x :: L) (st) w := e43_28
theorem f43_29 : iv_V call mc_43 rt 29 (v0 :: v1 :: v2 :: v3 :: .int x :: L) (st) w = iv_V call mc_43 rt 30 (v0 :: v1 :: v2 :: v3 :: .int x :: L) (.int x :: st) w := e43_29
theorem f43_30 : iv_V call mc_43 rt 30 (.ref a :: L) (st) w = iv_V call mc_43 rt 31 (.ref a :: L) (.ref a :: st) w := e43_30
theorem f43_31 : iv_V call mc_43 rt 31 (L) (st) w = iv_gf w st 1 14 (iv_kv call mc_43 rt 32 L w) := e43_31
theorem f43_32 : iv_V call mc_43 rt 32 (.ref a :: L) (st) w = iv_V call mc_43 rt 33 (.ref a :: L) (.ref a :: st) w := e43_32
theorem f43_33 : iv_V call mc_43 rt 33 (L) (st) w = iv_gf w st 1 11 (iv_kv call mc_43 rt 34 L w) := e43_33
theorem f43_34 : iv_V call mc_43 rt 34 (v0 :: .int x :: L) (st) w = iv_V call mc_43 rt 35 (v0 :: .int x :: L) (.int x :: st) w := e43_34
theorem f43_35 : iv_V call mc_43 rt 35 (L) (st) w = iv_ald w st iv_isI (iv_kv call mc_43 rt 36 L w) := e43_35
theorem f43_36 : iv_V call mc_43 rt 36 (L) (st) w = iv_ald w st iv_isI (iv_kv call mc_43 rt 37 L w) := e43_36
theorem f43_37 : iv_V call mc_43 rt 37 (L) (.int y :: .int x :: st) w = if y ≤ x then iv_V call mc_43 rt 64 (L) (st) w else iv_V call mc_43 rt 38 (L) (st) w := e43_37
theorem f43_38 : iv_V call mc_43 rt 38 (v0 :: v1 :: v2 :: .int x :: L) (st) w = iv_V call mc_43 rt 39 (v0 :: v1 :: v2 :: .int x :: L) (.int x :: st) w := e43_38
theorem f43_39 : iv_V call mc_43 rt 39 (L) (.int x :: st) w = if x = nI 0 then iv_V call mc_43 rt 60 (L) (st) w else iv_V call mc_43 rt 40 (L) (st) w := e43_39
theorem f43_40 : iv_V call mc_43 rt 40 (.ref a :: L) (st) w = iv_V call mc_43 rt 41 (.ref a :: L) (.ref a :: st) w := e43_40
theorem f43_41 : iv_V call mc_43 rt 41 (L) (st) w = iv_gf w st 1 15 (iv_kv call mc_43 rt 42 L w) := e43_41
theorem f43_42 : iv_V call mc_43 rt 42 (L) (st) w = iv_V call mc_43 rt 43 (L) (.int (nI 3) :: st) w := e43_42
theorem f43_43 : iv_V call mc_43 rt 43 (.ref a :: L) (st) w = iv_V call mc_43 rt 44 (.ref a :: L) (.ref a :: st) w := e43_43
theorem f43_44 : iv_V call mc_43 rt 44 (L) (st) w = iv_gf w st 1 11 (iv_kv call mc_43 rt 45 L w) := e43_44
theorem f43_45 : iv_V call mc_43 rt 45 (v0 :: .int x :: L) (st) w = iv_V call mc_43 rt 46 (v0 :: .int x :: L) (.int x :: st) w := e43_45
theorem f43_46 : iv_V call mc_43 rt 46 (L) (st) w = iv_ald w st iv_isI (iv_kv call mc_43 rt 47 L w) := e43_46
theorem f43_47 : iv_V call mc_43 rt 47 (L) (.int y :: .int x :: st) w = iv_V call mc_43 rt 48 (L) (.int (x * y) :: st) w := e43_47
theorem f43_48 : iv_V call mc_43 rt 48 (v0 :: v1 :: v2 :: v3 :: .int x :: L) (st) w = iv_V call mc_43 rt 49 (v0 :: v1 :: v2 :: v3 :: .int x :: L) (.int x :: st) w := e43_48
theorem f43_49 : iv_V call mc_43 rt 49 (L) (.int y :: .int x :: st) w = iv_V call mc_43 rt 50 (L) (.int (x + y) :: st) w := e43_49
theorem f43_50 : iv_V call mc_43 rt 50 (L) (st) w = iv_ald w st iv_isI (iv_kv call mc_43 rt 51 L w) := e43_50
theorem f43_51 : iv_V call mc_43 rt 51 (v0 :: v1 :: .int x :: L) (st) w = iv_V call mc_43 rt 52 (v0 :: v1 :: .int x :: L) (.int x :: st) w := e43_51
theorem f43_52 : iv_V call mc_43 rt 52 (.ref a :: L) (st) w = iv_V call mc_43 rt 53 (.ref a :: L) (.ref a :: st) w := e43_52
theorem f43_53 : iv_V call mc_43 rt 53 (L) (st) w = iv_gf w st 1 9 (iv_kv call mc_43 rt 54 L w) := e43_53
theorem f43_54 : iv_V call mc_43 rt 54 (v0 :: .int x :: L) (st) w = iv_V call mc_43 rt 55 (v0 :: .int x :: L) (.int x :: st) w := e43_54
theorem f43_55 : iv_V call mc_43 rt 55 (L) (st) w = iv_ald w st iv_isZ (iv_kv call mc_43 rt 56 L w) := e43_55
theorem f43_56 {x0 : Int32} {x1 : Int32} {x2 : Int32} : iv_V call mc_43 rt 56 (L) (.int x2 :: .int x1 :: .int x0 :: []) w = iv_ct call mc_43 rt 57 L [] (call 42 [.int x0, .int x1, .int x2] w) := e43_56
theorem f43_57 : iv_V call mc_43 rt 57 (L) (.int x :: st) w = if x = nI 0 then iv_V call mc_43 rt 60 (L) (st) w else iv_V call mc_43 rt 58 (L) (st) w := e43_57
theorem f43_58 : iv_V call mc_43 rt 58 (L) (st) w = iv_V call mc_43 rt 59 (L) (.int (nI 1) :: st) w := e43_58
theorem f43_59 : iv_V call mc_43 rt 59 (L) (st) w = iv_V call mc_43 rt 61 (L) (st) w := e43_59
theorem f43_60 : iv_V call mc_43 rt 60 (L) (st) w = iv_V call mc_43 rt 61 (L) (.int (nI 0) :: st) w := e43_60
theorem f43_61 : iv_V call mc_43 rt 61 (v0 :: v1 :: v2 :: u :: L) (.int x :: st) w = iv_V call mc_43 rt 62 (v0 :: v1 :: v2 :: .int x :: L) (st) w := e43_61
theorem f43_62 : iv_V call mc_43 rt 62 (v0 :: v1 :: v2 :: v3 :: .int x :: L) (st) w = iv_V call mc_43 rt 63 (v0 :: v1 :: v2 :: v3 :: .int (x + (nI 1)) :: L) (st) w := e43_62
theorem f43_63 : iv_V call mc_43 rt 63 (L) (st) w = iv_V call mc_43 rt 29 (L) (st) w := e43_63
theorem f43_64 : iv_V call mc_43 rt 64 (v0 :: v1 :: v2 :: .int x :: L) (st) w = iv_V call mc_43 rt 65 (v0 :: v1 :: v2 :: .int x :: L) (.int x :: st) w := e43_64
theorem f43_65 : iv_V call mc_43 rt 65 (L) (st) w = iv_ret rt st w := e43_65
theorem f44_0 : iv_V call mc_44 rt 0 (.int x :: L) (st) w = iv_V call mc_44 rt 1 (.int x :: L) (.int x :: st) w := e44_0
theorem f44_1 : iv_V call mc_44 rt 1 (L) (.int x :: st) w = if ¬ x = nI 0 then iv_V call mc_44 rt 10 (L) (st) w else iv_V call mc_44 rt 2 (L) (st) w := e44_1
theorem f44_2 : iv_V call mc_44 rt 2 (v0 :: v1 :: v2 :: v3 :: .int x :: L) (st) w = iv_V call mc_44 rt 3 (v0 :: v1 :: v2 :: v3 :: .int x :: L) (.int x :: st) w := e44_2
theorem f44_3 : iv_V call mc_44 rt 3 (L) (.int x :: st) w = if ¬ x = nI 0 then iv_V call mc_44 rt 8 (L) (st) w else iv_V call mc_44 rt 4 (L) (st) w := e44_3
theorem f44_4 : iv_V call mc_44 rt 4 (v0 :: v1 :: v2 :: .int x :: L) (st) w = iv_V call mc_44 rt 5 (v0 :: v1 :: v2 :: .int x :: L) (.int x :: st) w := e44_4
theorem f44_5 : iv_V call mc_44 rt 5 (L) (.int x :: st) w = if ¬ x = nI 0 then iv_V call mc_44 rt 8 (L) (st) w else iv_V call mc_44 rt 6 (L) (st) w := e44_5
theorem f44_6 : iv_V call mc_44 rt 6 (L) (st) w = iv_V call mc_44 rt 7 (L) (.int (nI 1) :: st) w := e44_6
theorem f44_7 : iv_V call mc_44 rt 7 (L) (st) w = iv_V call mc_44 rt 9 (L) (st) w := e44_7
theorem f44_8 : iv_V call mc_44 rt 8 (L) (st) w = iv_V call mc_44 rt 9 (L) (.int (nI 0) :: st) w := e44_8
theorem f44_9 : iv_V call mc_44 rt 9 (L) (st) w = iv_ret rt st w := e44_9
theorem f44_10 : iv_V call mc_44 rt 10 (.int x :: L) (st) w = iv_V call mc_44 rt 11 (.int x :: L) (.int x :: st) w := e44_10
theorem f44_11 : iv_V call mc_44 rt 11 (L) (st) w = iv_V call mc_44 rt 12 (L) (.int (nI 3) :: st) w := e44_11
theorem f44_12 : iv_V call mc_44 rt 12 (L) (.int y :: .int x :: st) w = if ¬ x = y then iv_V call mc_44 rt 29 (L) (st) w else iv_V call mc_44 rt 13 (L) (st) w := e44_12
theorem f44_13 : iv_V call mc_44 rt 13 (v0 :: v1 :: v2 :: .int x :: L) (st) w = iv_V call mc_44 rt 14 (v0 :: v1 :: v2 :: .int x :: L) (.int x :: st) w := e44_13
theorem f44_14 : iv_V call mc_44 rt 14 (L) (.int x :: st) w = if x ≤ nI 0 then iv_V call mc_44 rt 27 (L) (st) w else iv_V call mc_44 rt 15 (L) (st) w := e44_14
theorem f44_15 : iv_V call mc_44 rt 15 (v0 :: v1 :: v2 :: .int x :: L) (st) w = iv_V call mc_44 rt 16 (v0 :: v1 :: v2 :: .int x :: L) (.int x :: st) w := e44_15
theorem f44_16 : iv_V call mc_44 rt 16 (L) (st) w = iv_V call mc_44 rt 17 (L) (.int (nI 1) :: st) w := e44_16
theorem f44_17 : iv_V call mc_44 rt 17 (L) (.int y :: .int x :: st) w = iv_V call mc_44 rt 18 (L) (.int (x - y) :: st) w := e44_17
theorem f44_18 : iv_V call mc_44 rt 18 (v0 :: .int x :: L) (st) w = iv_V call mc_44 rt 19 (v0 :: .int x :: L) (.int x :: st) w := e44_18
theorem f44_19 : iv_V call mc_44 rt 19 (L) (.int y :: .int x :: st) w = if x < y then iv_V call mc_44 rt 25 (L) (st) w else iv_V call mc_44 rt 20 (L) (st) w := e44_19
theorem f44_20 : iv_V call mc_44 rt 20 (v0 :: v1 :: v2 :: .int x :: L) (st) w = iv_V call mc_44 rt 21 (v0 :: v1 :: v2 :: .int x :: L) (.int x :: st) w := e44_20
theorem f44_21 : iv_V call mc_44 rt 21 (L) (st) w = iv_V call mc_44 rt 22 (L) (.int (nI 1) :: st) w := e44_21
theorem f44_22 : iv_V call mc_44 rt 22 (L) (.int y :: .int x :: st) w = iv_V call mc_44 rt 23 (L) (.int (x - y) :: st) w := e44_22
theorem f44_23 : iv_V call mc_44 rt 23 (v0 :: v1 :: .int x :: L) (st) w = iv_V call mc_44 rt 24 (v0 :: v1 :: .int x :: L) (.int x :: st) w := e44_23
theorem f44_24 : iv_V call mc_44 rt 24 (L) (.int y :: .int x :: st) w = if x ≤ y then iv_V call mc_44 rt 27 (L) (st) w else iv_V call mc_44 rt 25 (L) (st) w := e44_24
theorem f44_25 : iv_V call mc_44 rt 25 (L) (st) w = iv_V call mc_44 rt 26 (L) (.int (nI 1) :: st) w := e44_25
theorem f44_26 : iv_V call mc_44 rt 26 (L) (st) w = iv_V call mc_44 rt 28 (L) (st) w := e44_26
theorem f44_27 : iv_V call mc_44 rt 27 (L) (st) w = iv_V call mc_44 rt 28 (L) (.int (nI 0) :: st) w := e44_27
theorem f44_28 : iv_V call mc_44 rt 28 (L) (st) w = iv_ret rt st w := e44_28
theorem f44_29 : iv_V call mc_44 rt 29 (.int x :: L) (st) w = iv_V call mc_44 rt 30 (.int x :: L) (.int x :: st) w := e44_29
theorem f44_30 : iv_V call mc_44 rt 30 (L) (st) w = iv_V call mc_44 rt 31 (L) (.int (nI 1) :: st) w := e44_30
theorem f44_31 : iv_V call mc_44 rt 31 (L) (.int y :: .int x :: st) w = if ¬ x = y then iv_V call mc_44 rt 39 (L) (st) w else iv_V call mc_44 rt 32 (L) (st) w := e44_31
theorem f44_32 : iv_V call mc_44 rt 32 (v0 :: v1 :: v2 :: .int x :: L) (st) w = iv_V call mc_44 rt 33 (v0 :: v1 :: v2 :: .int x :: L) (.int x :: st) w := e44_32
theorem f44_33 : iv_V call mc_44 rt 33 (v0 :: .int x :: L) (st) w = iv_V call mc_44 rt 34 (v0 :: .int x :: L) (.int x :: st) w := e44_33
theorem f44_34 : iv_V call mc_44 rt 34 (L) (.int y :: .int x :: st) w = if y ≤ x then iv_V call mc_44 rt 37 (L) (st) w else iv_V call mc_44 rt 35 (L) (st) w := e44_34
theorem f44_35 : iv_V call mc_44 rt 35 (L) (st) w = iv_V call mc_44 rt 36 (L) (.int (nI 1) :: st) w := e44_35
theorem f44_36 : iv_V call mc_44 rt 36 (L) (st) w = iv_V call mc_44 rt 45 (L) (st) w := e44_36
theorem f44_37 : iv_V call mc_44 rt 37 (L) (st) w = iv_V call mc_44 rt 38 (L) (.int (nI 0) :: st) w := e44_37
theorem f44_38 : iv_V call mc_44 rt 38 (L) (st) w = iv_V call mc_44 rt 45 (L) (st) w := e44_38
theorem f44_39 : iv_V call mc_44 rt 39 (v0 :: v1 :: v2 :: .int x :: L) (st) w = iv_V call mc_44 rt 40 (v0 :: v1 :: v2 :: .int x :: L) (.int x :: st) w := e44_39
theorem f44_40 : iv_V call mc_44 rt 40 (v0 :: .int x :: L) (st) w = iv_V call mc_44 rt 41 (v0 :: .int x :: L) (.int x :: st) w := e44_40
theorem f44_41 : iv_V call mc_44 rt 41 (L) (.int y :: .int x :: st) w = if x ≤ y then iv_V call mc_44 rt 44 (L) (st) w else iv_V call mc_44 rt 42 (L) (st) w := e44_41
theorem f44_42 : iv_V call mc_44 rt 42 (L) (st) w = iv_V call mc_44 rt 43 (L) (.int (nI 1) :: st) w := e44_42
theorem f44_43 : iv_V call mc_44 rt 43 (L) (st) w = iv_V call mc_44 rt 45 (L) (st) w := e44_43
theorem f44_44 : iv_V call mc_44 rt 44 (L) (st) w = iv_V call mc_44 rt 45 (L) (.int (nI 0) :: st) w := e44_44
theorem f44_45 : iv_V call mc_44 rt 45 (L) (st) w = iv_ret rt st w := e44_45
theorem f45_0 : iv_V call mc_45 rt 0 (.ref a :: L) (st) w = iv_V call mc_45 rt 1 (.ref a :: L) (.ref a :: st) w := e45_0
theorem f45_1 : iv_V call mc_45 rt 1 (L) (st) w = iv_gf w st 1 41 (iv_kv call mc_45 rt 2 L w) := e45_1
theorem f45_2 : iv_V call mc_45 rt 2 (L) (st) w = iv_V call mc_45 rt 3 (L) (.int (nI 24) :: st) w := e45_2
theorem f45_3 : iv_V call mc_45 rt 3 (L) (.int y :: .int x :: st) w = if ¬ x = y then iv_V call mc_45 rt 6 (L) (st) w else iv_V call mc_45 rt 4 (L) (st) w := e45_3
theorem f45_4 : iv_V call mc_45 rt 4 (L) (st) w = iv_V call mc_45 rt 5 (L) (.int (nI 0) :: st) w := e45_4
theorem f45_5 : iv_V call mc_45 rt 5 (L) (st) w = iv_ret rt st w := e45_5
theorem f45_6 : iv_V call mc_45 rt 6 (.ref a :: L) (st) w = iv_V call mc_45 rt 7 (.ref a :: L) (.ref a :: st) w := e45_6
theorem f45_7 : iv_V call mc_45 rt 7 (L) (st) w = iv_gf w st 1 8 (iv_kv call mc_45 rt 8 L w) := e45_7
theorem f45_8 : iv_V call mc_45 rt 8 (v0 :: v1 :: .int x :: L) (st) w = iv_V call mc_45 rt 9 (v0 :: v1 :: .int x :: L) (.int x :: st) w := e45_8
theorem f45_9 : iv_V call mc_45 rt 9 (L) (st) w = iv_ald w st iv_isI (iv_kv call mc_45 rt 10 L w) := e45_9
theorem f45_10 : iv_V call mc_45 rt 10 (v0 :: v1 :: v2 :: v3 :: v4 :: u :: L) (.int x :: st) w = iv_V call mc_45 rt 11 (v0 :: v1 :: v2 :: v3 :: v4 :: .int x :: L) (st) w := e45_10
theorem f45_11 : iv_V call mc_45 rt 11 (L) (st) w = iv_V call mc_45 rt 12 (L) (.int (nI 14) :: st) w := e45_11
theorem f45_12 : iv_V call mc_45 rt 12 (v0 :: .int x :: L) (st) w = iv_V call mc_45 rt 13 (v0 :: .int x :: L) (.int x :: st) w := e45_12
theorem f45_13 : iv_V call mc_45 rt 13 (L) (.int y :: .int x :: st) w = iv_V call mc_45 rt 14 (L) (.int (x * y) :: st) w := e45_13
theorem f45_14 : iv_V call mc_45 rt 14 (v0 :: v1 :: v2 :: v3 :: v4 :: .int x :: L) (st) w = iv_V call mc_45 rt 15 (v0 :: v1 :: v2 :: v3 :: v4 :: .int x :: L) (.int x :: st) w := e45_14
theorem f45_15 : iv_V call mc_45 rt 15 (L) (.int y :: .int x :: st) w = iv_V call mc_45 rt 16 (L) (.int (x + y) :: st) w := e45_15
theorem f45_16 : iv_V call mc_45 rt 16 (v0 :: v1 :: v2 :: v3 :: v4 :: v5 :: u :: L) (.int x :: st) w = iv_V call mc_45 rt 17 (v0 :: v1 :: v2 :: v3 :: v4 :: v5 :: .int x :: L) (st) w := e45_16
theorem f45_17 : iv_V call mc_45 rt 17 (.ref a :: L) (st) w = iv_V call mc_45 rt 18 (.ref a :: L) (.ref a :: st) w := e45_17
theorem f45_18 : iv_V call mc_45 rt 18 (L) (st) w = iv_gf w st 1 42 (iv_kv call mc_45 rt 19 L w) := e45_18
theorem f45_19 : iv_V call mc_45 rt 19 (L) (st) w = iv_V call mc_45 rt 20 (L) (.int (nI 6) :: st) w := e45_19
theorem f45_20 : iv_V call mc_45 rt 20 (.ref a :: L) (st) w = iv_V call mc_45 rt 21 (.ref a :: L) (.ref a :: st) w := e45_20
theorem f45_21 : iv_V call mc_45 rt 21 (L) (st) w = iv_gf w st 1 41 (iv_kv call mc_45 rt 22 L w) := e45_21
theorem f45_22 : iv_V call mc_45 rt 22 (L) (.int y :: .int x :: st) w = iv_V call mc_45 rt 23 (L) (.int (x * y) :: st) w := e45_22
theorem f45_23 : iv_V call mc_45 rt 23 (v0 :: .int x :: L) (st) w = iv_V call mc_45 rt 24 (v0 :: .int x :: L) (.int x :: st) w := e45_23
theorem f45_24 : iv_V call mc_45 rt 24 (L) (st) w = iv_ast w st iv_isI (iv_kw call mc_45 rt 25 L) := e45_24
theorem f45_25 : iv_V call mc_45 rt 25 (.ref a :: L) (st) w = iv_V call mc_45 rt 26 (.ref a :: L) (.ref a :: st) w := e45_25
theorem f45_26 : iv_V call mc_45 rt 26 (L) (st) w = iv_gf w st 1 42 (iv_kv call mc_45 rt 27 L w) := e45_26
theorem f45_27 : iv_V call mc_45 rt 27 (L) (st) w = iv_V call mc_45 rt 28 (L) (.int (nI 6) :: st) w := e45_27
theorem f45_28 : iv_V call mc_45 rt 28 (.ref a :: L) (st) w = iv_V call mc_45 rt 29 (.ref a :: L) (.ref a :: st) w := e45_28
theorem f45_29 : iv_V call mc_45 rt 29 (L) (st) w = iv_gf w st 1 41 (iv_kv call mc_45 rt 30 L w) := e45_29
theorem f45_30 : iv_V call mc_45 rt 30 (L) (.int y :: .int x :: st) w = iv_V call mc_45 rt 31 (L) (.int (x * y) :: st) w := e45_30
theorem f45_31 : iv_V call mc_45 rt 31 (L) (st) w = iv_V call mc_45 rt 32 (L) (.int (nI 1) :: st) w := e45_31
theorem f45_32 : iv_V call mc_45 rt 32 (L) (.int y :: .int x :: st) w = iv_V call mc_45 rt 33 (L) (.int (x + y) :: st) w := e45_32
theorem f45_33 : iv_V call mc_45 rt 33 (v0 :: v1 :: v2 :: v3 :: v4 :: .int x :: L) (st) w = iv_V call mc_45 rt 34 (v0 :: v1 :: v2 :: v3 :: v4 :: .int x :: L) (.int x :: st) w := e45_33
theorem f45_34 : iv_V call mc_45 rt 34 (L) (st) w = iv_ast w st iv_isI (iv_kw call mc_45 rt 35 L) := e45_34
theorem f45_35 : iv_V call mc_45 rt 35 (.ref a :: L) (st) w = iv_V call mc_45 rt 36 (.ref a :: L) (.ref a :: st) w := e45_35
theorem f45_36 : iv_V call mc_45 rt 36 (L) (st) w = iv_gf w st 1 42 (iv_kv call mc_45 rt 37 L w) := e45_36
theorem f45_37 : iv_V call mc_45 rt 37 (L) (st) w = iv_V call mc_45 rt 38 (L) (.int (nI 6) :: st) w := e45_37
theorem f45_38 : iv_V call mc_45 rt 38 (.ref a :: L) (st) w = iv_V call mc_45 rt 39 (.ref a :: L) (.ref a :: st) w := e45_38
theorem f45_39 : iv_V call mc_45 rt 39 (L) (st) w = iv_gf w st 1 41 (iv_kv call mc_45 rt 40 L w) := e45_39
theorem f45_40 : iv_V call mc_45 rt 40 (L) (.int y :: .int x :: st) w = iv_V call mc_45 rt 41 (L) (.int (x * y) :: st) w := e45_40
theorem f45_41 : iv_V call mc_45 rt 41 (L) (st) w = iv_V call mc_45 rt 42 (L) (.int (nI 2) :: st) w := e45_41
theorem f45_42 : iv_V call mc_45 rt 42 (L) (.int y :: .int x :: st) w = iv_V call mc_45 rt 43 (L) (.int (x + y) :: st) w := e45_42
theorem f45_43 : iv_V call mc_45 rt 43 (v0 :: v1 :: v2 :: .int x :: L) (st) w = iv_V call mc_45 rt 44 (v0 :: v1 :: v2 :: .int x :: L) (.int x :: st) w := e45_43
theorem f45_44 : iv_V call mc_45 rt 44 (L) (st) w = iv_ast w st iv_isI (iv_kw call mc_45 rt 45 L) := e45_44
theorem f45_45 : iv_V call mc_45 rt 45 (.ref a :: L) (st) w = iv_V call mc_45 rt 46 (.ref a :: L) (.ref a :: st) w := e45_45
theorem f45_46 : iv_V call mc_45 rt 46 (L) (st) w = iv_gf w st 1 42 (iv_kv call mc_45 rt 47 L w) := e45_46
theorem f45_47 : iv_V call mc_45 rt 47 (L) (st) w = iv_V call mc_45 rt 48 (L) (.int (nI 6) :: st) w := e45_47
theorem f45_48 : iv_V call mc_45 rt 48 (.ref a :: L) (st) w = iv_V call mc_45 rt 49 (.ref a :: L) (.ref a :: st) w := e45_48
theorem f45_49 : iv_V call mc_45 rt 49 (L) (st) w = iv_gf w st 1 41 (iv_kv call mc_45 rt 50 L w) := e45_49
theorem f45_50 : iv_V call mc_45 rt 50 (L) (.int y :: .int x :: st) w = iv_V call mc_45 rt 51 (L) (.int (x * y) :: st) w := e45_50
theorem f45_51 : iv_V call mc_45 rt 51 (L) (st) w = iv_V call mc_45 rt 52 (L) (.int (nI 3) :: st) w := e45_51
theorem f45_52 : iv_V call mc_45 rt 52 (L) (.int y :: .int x :: st) w = iv_V call mc_45 rt 53 (L) (.int (x + y) :: st) w := e45_52
theorem f45_53 : iv_V call mc_45 rt 53 (v0 :: v1 :: .int x :: L) (st) w = iv_V call mc_45 rt 54 (v0 :: v1 :: .int x :: L) (.int x :: st) w := e45_53
theorem f45_54 : iv_V call mc_45 rt 54 (L) (st) w = iv_ast w st iv_isI (iv_kw call mc_45 rt 55 L) := e45_54
theorem f45_55 : iv_V call mc_45 rt 55 (.ref a :: L) (st) w = iv_V call mc_45 rt 56 (.ref a :: L) (.ref a :: st) w := e45_55
theorem f45_56 : iv_V call mc_45 rt 56 (L) (st) w = iv_gf w st 1 42 (iv_kv call mc_45 rt 57 L w) := e45_56
theorem f45_57 : iv_V call mc_45 rt 57 (L) (st) w = iv_V call mc_45 rt 58 (L) (.int (nI 6) :: st) w := e45_57
theorem f45_58 : iv_V call mc_45 rt 58 (.ref a :: L) (st) w = iv_V call mc_45 rt 59 (.ref a :: L) (.ref a :: st) w := e45_58
theorem f45_59 : iv_V call mc_45 rt 59 (L) (st) w = iv_gf w st 1 41 (iv_kv call mc_45 rt 60 L w) := e45_59
theorem f45_60 : iv_V call mc_45 rt 60 (L) (.int y :: .int x :: st) w = iv_V call mc_45 rt 61 (L) (.int (x * y) :: st) w := e45_60
theorem f45_61 : iv_V call mc_45 rt 61 (L) (st) w = iv_V call mc_45 rt 62 (L) (.int (nI 4) :: st) w := e45_61
theorem f45_62 : iv_V call mc_45 rt 62 (L) (.int y :: .int x :: st) w = iv_V call mc_45 rt 63 (L) (.int (x + y) :: st) w := e45_62
theorem f45_63 : iv_V call mc_45 rt 63 (v0 :: v1 :: v2 :: v3 :: .int x :: L) (st) w = iv_V call mc_45 rt 64 (v0 :: v1 :: v2 :: v3 :: .int x :: L) (.int x :: st) w := e45_63
theorem f45_64 : iv_V call mc_45 rt 64 (L) (st) w = iv_ast w st iv_isI (iv_kw call mc_45 rt 65 L) := e45_64
theorem f45_65 : iv_V call mc_45 rt 65 (.ref a :: L) (st) w = iv_V call mc_45 rt 66 (.ref a :: L) (.ref a :: st) w := e45_65
theorem f45_66 : iv_V call mc_45 rt 66 (L) (st) w = iv_gf w st 1 42 (iv_kv call mc_45 rt 67 L w) := e45_66
theorem f45_67 : iv_V call mc_45 rt 67 (L) (st) w = iv_V call mc_45 rt 68 (L) (.int (nI 6) :: st) w := e45_67
theorem f45_68 : iv_V call mc_45 rt 68 (.ref a :: L) (st) w = iv_V call mc_45 rt 69 (.ref a :: L) (.ref a :: st) w := e45_68
theorem f45_69 : iv_V call mc_45 rt 69 (L) (st) w = iv_gf w st 1 41 (iv_kv call mc_45 rt 70 L w) := e45_69
theorem f45_70 : iv_V call mc_45 rt 70 (L) (.int y :: .int x :: st) w = iv_V call mc_45 rt 71 (L) (.int (x * y) :: st) w := e45_70
theorem f45_71 : iv_V call mc_45 rt 71 (L) (st) w = iv_V call mc_45 rt 72 (L) (.int (nI 5) :: st) w := e45_71
theorem f45_72 : iv_V call mc_45 rt 72 (L) (.int y :: .int x :: st) w = iv_V call mc_45 rt 73 (L) (.int (x + y) :: st) w := e45_72
theorem f45_73 : iv_V call mc_45 rt 73 (v0 :: v1 :: v2 :: .int x :: L) (st) w = iv_V call mc_45 rt 74 (v0 :: v1 :: v2 :: .int x :: L) (.int x :: st) w := e45_73
theorem f45_74 : iv_V call mc_45 rt 74 (L) (.int x :: st) w = if x < nI 0 then iv_V call mc_45 rt 84 (L) (st) w else iv_V call mc_45 rt 75 (L) (st) w := e45_74
theorem f45_75 : iv_V call mc_45 rt 75 (.ref a :: L) (st) w = iv_V call mc_45 rt 76 (.ref a :: L) (.ref a :: st) w := e45_75
theorem f45_76 : iv_V call mc_45 rt 76 (L) (st) w = iv_gf w st 1 27 (iv_kv call mc_45 rt 77 L w) := e45_76
theorem f45_77 : iv_V call mc_45 rt 77 (L) (st) w = iv_V call mc_45 rt 78 (L) (.int (nI 3) :: st) w := e45_77
theorem f45_78 : iv_V call mc_45 rt 78 (v0 :: v1 :: v2 :: v3 :: v4 :: v5 :: .int x :: L) (st) w = iv_V call mc_45 rt 79 (v0 :: v1 :: v2 :: v3 :: v4 :: v5 :: .int x :: L) (.int x :: st) w := e45_78
theorem f45_79 : iv_V call mc_45 rt 79 (L) (.int y :: .int x :: st) w = iv_V call mc_45 rt 80 (L) (.int (x * y) :: st) w := e45_79
theorem f45_80 : iv_V call mc_45 rt 80 (v0 :: v1 :: v2 :: .int x :: L) (st) w = iv_V call mc_45 rt 81 (v0 :: v1 :: v2 :: .int x :: L) (.int x :: st) w := e45_80
theorem f45_81 : iv_V call mc_45 rt 81 (L) (.int y :: .int x :: st) w = iv_V call mc_45 rt 82 (L) (.int (x + y) :: st) w := e45_81
theorem f45_82 : iv_V call mc_45 rt 82 (L) (st) w = iv_ald w st iv_isI (iv_kv call mc_45 rt 83 L w) := e45_82
theorem f45_83 : iv_V call mc_45 rt 83 (L) (st) w = iv_V call mc_45 rt 100 (L) (st) w := e45_83
theorem f45_84 : iv_V call mc_45 rt 84 (.ref a :: L) (st) w = iv_V call mc_45 rt 85 (.ref a :: L) (.ref a :: st) w := e45_84
theorem f45_85 : iv_V call mc_45 rt 85 (L) (st) w = iv_gf w st 1 4 (iv_kv call mc_45 rt 86 L w) := e45_85
theorem f45_86 : iv_V call mc_45 rt 86 (v0 :: v1 :: v2 :: v3 :: v4 :: .int x :: L) (st) w = iv_V call mc_45 rt 87 (v0 :: v1 :: v2 :: v3 :: v4 :: .int x :: L) (.int x :: st) w := e45_86
theorem f45_87 : iv_V call mc_45 rt 87 (L) (st) w = iv_ald w st iv_isI (iv_kv call mc_45 rt 88 L w) := e45_87
theorem f45_88 : iv_V call mc_45 rt 88 (L) (.int x :: st) w = if ¬ x = nI 0 then iv_V call mc_45 rt 94 (L) (st) w else iv_V call mc_45 rt 89 (L) (st) w := e45_88
theorem f45_89 : iv_V call mc_45 rt 89 (.ref a :: L) (st) w = iv_V call mc_45 rt 90 (.ref a :: L) (.ref a :: st) w := e45_89
theorem f45_90 : iv_V call mc_45 rt 90 (L) (st) w = iv_gf w st 1 26 (iv_kv call mc_45 rt 91 L w) := e45_90
theorem f45_91 : iv_V call mc_45 rt 91 (v0 :: v1 :: v2 :: v3 :: v4 :: v5 :: .int x :: L) (st) w = iv_V call mc_45 rt 92 (v0 :: v1 :: v2 :: v3 :: v4 :: v5 :: .int x :: L) (.int x :: st) w := e45_91
theorem f45_92 : iv_V call mc_45 rt 92 (L) (st) w = iv_ald w st iv_isI (iv_kv call mc_45 rt 93 L w) := e45_92
theorem f45_93 : iv_V call mc_45 rt 93 (L) (st) w = iv_V call mc_45 rt 100 (L) (st) w := e45_93
theorem f45_94 : iv_V call mc_45 rt 94 (.ref a :: L) (st) w = iv_V call mc_45 rt 95 (.ref a :: L) (.ref a :: st) w := e45_94
theorem f45_95 : iv_V call mc_45 rt 95 (L) (st) w = iv_gf w st 1 26 (iv_kv call mc_45 rt 96 L w) := e45_95
theorem f45_96 : iv_V call mc_45 rt 96 (v0 :: v1 :: v2 :: v3 :: v4 :: v5 :: .int x :: L) (st) w = iv_V call mc_45 rt 97 (v0 :: v1 :: v2 :: v3 :: v4 :: v5 :: .int x :: L) (.int x :: st) w := e45_96
theorem f45_97 : iv_V call mc_45 rt 97 (L) (st) w = iv_ald w st iv_isI (iv_kv call mc_45 rt 98 L w) := e45_97
theorem f45_98 : iv_V call mc_45 rt 98 (L) (st) w = iv_V call mc_45 rt 99 (L) (.int (nI 1) :: st) w := e45_98
theorem f45_99 : iv_V call mc_45 rt 99 (L) (.int y :: .int x :: st) w = iv_V call mc_45 rt 100 (L) (.int (x - y) :: st) w := e45_99
theorem f45_100 : iv_V call mc_45 rt 100 (L) (st) w = iv_ast w st iv_isI (iv_kw call mc_45 rt 101 L) := e45_100
theorem f45_101 : iv_V call mc_45 rt 101 (.ref a :: L) (st) w = iv_V call mc_45 rt 102 (.ref a :: L) (.ref a :: st) w := e45_101
theorem f45_102 : iv_V call mc_45 rt 102 (L) (st) w = iv_gf w st 1 43 (iv_kv call mc_45 rt 103 L w) := e45_102
theorem f45_103 : iv_V call mc_45 rt 103 (.ref a :: L) (st) w = iv_V call mc_45 rt 104 (.ref a :: L) (.ref a :: st) w := e45_103
theorem f45_104 : iv_V call mc_45 rt 104 (L) (st) w = iv_gf w st 1 41 (iv_kv call mc_45 rt 105 L w) := e45_104
theorem f45_105 : iv_V call mc_45 rt 105 (.ref a :: L) (st) w = iv_V call mc_45 rt 106 (.ref a :: L) (.ref a :: st) w := e45_105
theorem f45_106 : iv_V call mc_45 rt 106 (L) (st) w = iv_gf w st 1 28 (iv_kv call mc_45 rt 107 L w) := e45_106
theorem f45_107 : iv_V call mc_45 rt 107 (L) (.int x :: st) w = if x ≤ nI 0 then iv_V call mc_45 rt 113 (L) (st) w else iv_V call mc_45 rt 108 (L) (st) w := e45_107
theorem f45_108 : iv_V call mc_45 rt 108 (.ref a :: L) (st) w = iv_V call mc_45 rt 109 (.ref a :: L) (.ref a :: st) w := e45_108
theorem f45_109 : iv_V call mc_45 rt 109 (L) (st) w = iv_gf w st 1 28 (iv_kv call mc_45 rt 110 L w) := e45_109
theorem f45_110 : iv_V call mc_45 rt 110 (L) (st) w = iv_V call mc_45 rt 111 (L) (.int (nI 1) :: st) w := e45_110
theorem f45_111 : iv_V call mc_45 rt 111 (L) (.int y :: .int x :: st) w = iv_V call mc_45 rt 112 (L) (.int (x - y) :: st) w := e45_111
theorem f45_112 : iv_V call mc_45 rt 112 (L) (st) w = iv_V call mc_45 rt 114 (L) (st) w := e45_112
theorem f45_113 : iv_V call mc_45 rt 113 (L) (st) w = iv_V call mc_45 rt 114 (L) (.int (nI 0) :: st) w := e45_113
theorem f45_114 : iv_V call mc_45 rt 114 (L) (st) w = iv_ast w st iv_isI (iv_kw call mc_45 rt 115 L) := e45_114
theorem f45_115 : iv_V call mc_45 rt 115 (L) (st) w = iv_V call mc_45 rt 116 (L) (.int (nI 1) :: st) w := e45_115
theorem f45_116 : iv_V call mc_45 rt 116 (v0 :: v1 :: v2 :: v3 :: v4 :: v5 :: v6 :: u :: L) (.int x :: st) w = iv_V call mc_45 rt 117 (v0 :: v1 :: v2 :: v3 :: v4 :: v5 :: v6 :: .int x :: L) (st) w := e45_116
theorem f45_117 : iv_V call mc_45 rt 117 (v0 :: v1 :: v2 :: v3 :: v4 :: v5 :: v6 :: .int x :: L) (st) w = iv_V call mc_45 rt 118 (v0 :: v1 :: v2 :: v3 :: v4 :: v5 :: v6 :: .int x :: L) (.int x :: st) w := e45_117
theorem f45_118 : iv_V call mc_45 rt 118 (.ref a :: L) (st) w = iv_V call mc_45 rt 119 (.ref a :: L) (.ref a :: st) w := e45_118
theorem f45_119 : iv_V call mc_45 rt 119 (L) (st) w = iv_gf w st 1 28 (iv_kv call mc_45 rt 120 L w) := e45_119
theorem f45_120 : iv_V call mc_45 rt 120 (L) (.int y :: .int x :: st) w = if y ≤ x then iv_V call mc_45 rt 153 (L) (st) w else iv_V call mc_45 rt 121 (L) (st) w := e45_120
theorem f45_121 : iv_V call mc_45 rt 121 (.ref a :: L) (st) w = iv_V call mc_45 rt 122 (.ref a :: L) (.ref a :: st) w := e45_121
theorem f45_122 : iv_V call mc_45 rt 122 (L) (st) w = iv_gf w st 1 44 (iv_kv call mc_45 rt 123 L w) := e45_122
theorem f45_123 : iv_V call mc_45 rt 123 (L) (st) w = iv_V call mc_45 rt 124 (L) (.int (nI 16) :: st) w := e45_123
theorem f45_124 : iv_V call mc_45 rt 124 (.ref a :: L) (st) w = iv_V call mc_45 rt 125 (.ref a :: L) (.ref a :: st) w := e45_124
theorem f45_125 : iv_V call mc_45 rt 125 (L) (st) w = iv_gf w st 1 41 (iv_kv call mc_45 rt 126 L w) := e45_125
theorem f45_126 : iv_V call mc_45 rt 126 (L) (.int y :: .int x :: st) w = iv_V call mc_45 rt 127 (L) (.int (x * y) :: st) w := e45_126
theorem f45_127 : iv_V call mc_45 rt 127 (v0 :: v1 :: v2 :: v3 :: v4 :: v5 :: v6 :: .int x :: L) (st) w = iv_V call mc_45 rt 128 (v0 :: v1 :: v2 :: v3 :: v4 :: v5 :: v6 :: .int x :: L) (.int x :: st) w := e45_127
theorem f45_128 : iv_V call mc_45 rt 128 (L) (.int y :: .int x :: st) w = iv_V call mc_45 rt 129 (L) (.int (x + y) :: st) w := e45_128
theorem f45_129 : iv_V call mc_45 rt 129 (L) (st) w = iv_V call mc_45 rt 130 (L) (.int (nI 1) :: st) w := e45_129
theorem f45_130 : iv_V call mc_45 rt 130 (L) (.int y :: .int x :: st) w = iv_V call mc_45 rt 131 (L) (.int (x - y) :: st) w := e45_130
theorem f45_131 : iv_V call mc_45 rt 131 (.ref a :: L) (st) w = iv_V call mc_45 rt 132 (.ref a :: L) (.ref a :: st) w := e45_131
theorem f45_132 : iv_V call mc_45 rt 132 (L) (st) w = iv_gf w st 1 37 (iv_kv call mc_45 rt 133 L w) := e45_132
theorem f45_133 : iv_V call mc_45 rt 133 (v0 :: v1 :: v2 :: v3 :: v4 :: v5 :: v6 :: .int x :: L) (st) w = iv_V call mc_45 rt 134 (v0 :: v1 :: v2 :: v3 :: v4 :: v5 :: v6 :: .int x :: L) (.int x :: st) w := e45_133
theorem f45_134 : iv_V call mc_45 rt 134 (L) (st) w = iv_ald w st iv_isI (iv_kv call mc_45 rt 135 L w) := e45_134
theorem f45_135 : iv_V call mc_45 rt 135 (L) (st) w = iv_ast w st iv_isI (iv_kw call mc_45 rt 136 L) := e45_135
theorem f45_136 : iv_V call mc_45 rt 136 (.ref a :: L) (st) w = iv_V call mc_45 rt 137 (.ref a :: L) (.ref a :: st) w := e45_136
theorem f45_137 : iv_V call mc_45 rt 137 (L) (st) w = iv_gf w st 1 45 (iv_kv call mc_45 rt 138 L w) := e45_137
theorem f45_138 : iv_V call mc_45 rt 138 (L) (st) w = iv_V call mc_45 rt 139 (L) (.int (nI 16) :: st) w := e45_138
theorem f45_139 : iv_V call mc_45 rt 139 (.ref a :: L) (st) w = iv_V call mc_45 rt 140 (.ref a :: L) (.ref a :: st) w := e45_139
theorem f45_140 : iv_V call mc_45 rt 140 (L) (st) w = iv_gf w st 1 41 (iv_kv call mc_45 rt 141 L w) := e45_140
theorem f45_141 : iv_V call mc_45 rt 141 (L) (.int y :: .int x :: st) w = iv_V call mc_45 rt 142 (L) (.int (x * y) :: st) w := e45_141
theorem f45_142 : iv_V call mc_45 rt 142 (v0 :: v1 :: v2 :: v3 :: v4 :: v5 :: v6 :: .int x :: L) (st) w = iv_V call mc_45 rt 143 (v0 :: v1 :: v2 :: v3 :: v4 :: v5 :: v6 :: .int x :: L) (.int x :: st) w := e45_142
theorem f45_143 : iv_V call mc_45 rt 143 (L) (.int y :: .int x :: st) w = iv_V call mc_45 rt 144 (L) (.int (x + y) :: st) w := e45_143
theorem f45_144 : iv_V call mc_45 rt 144 (L) (st) w = iv_V call mc_45 rt 145 (L) (.int (nI 1) :: st) w := e45_144
theorem f45_145 : iv_V call mc_45 rt 145 (L) (.int y :: .int x :: st) w = iv_V call mc_45 rt 146 (L) (.int (x - y) :: st) w := e45_145
theorem f45_146 : iv_V call mc_45 rt 146 (.ref a :: L) (st) w = iv_V call mc_45 rt 147 (.ref a :: L) (.ref a :: st) w := e45_146
theorem f45_147 : iv_V call mc_45 rt 147 (L) (st) w = iv_gf w st 1 38 (iv_kv call mc_45 rt 148 L w) := e45_147
theorem f45_148 : iv_V call mc_45 rt 148 (v0 :: v1 :: v2 :: v3 :: v4 :: v5 :: v6 :: .int x :: L) (st) w = iv_V call mc_45 rt 149 (v0 :: v1 :: v2 :: v3 :: v4 :: v5 :: v6 :: .int x :: L) (.int x :: st) w := e45_148
theorem f45_149 : iv_V call mc_45 rt 149 (L) (st) w = iv_ald w st iv_isI (iv_kv call mc_45 rt 150 L w) := e45_149
theorem f45_150 : iv_V call mc_45 rt 150 (L) (st) w = iv_ast w st iv_isI (iv_kw call mc_45 rt 151 L) := e45_150
theorem f45_151 : iv_V call mc_45 rt 151 (v0 :: v1 :: v2 :: v3 :: v4 :: v5 :: v6 :: .int x :: L) (st) w = iv_V call mc_45 rt 152 (v0 :: v1 :: v2 :: v3 :: v4 :: v5 :: v6 :: .int (x + (nI 1)) :: L) (st) w := e45_151
theorem f45_152 : iv_V call mc_45 rt 152 (L) (st) w = iv_V call mc_45 rt 117 (L) (st) w := e45_152
theorem f45_153 : iv_V call mc_45 rt 153 (.ref a :: L) (st) w = iv_V call mc_45 rt 154 (.ref a :: L) (.ref a :: st) w := e45_153
theorem f45_154 : iv_V call mc_45 rt 154 (L) (.ref a :: st) w = iv_V call mc_45 rt 155 (L) (.ref a :: .ref a :: st) w := e45_154
theorem f45_155 : iv_V call mc_45 rt 155 (L) (st) w = iv_gf w st 1 41 (iv_kv call mc_45 rt 156 L w) := e45_155
theorem f45_156 : iv_V call mc_45 rt 156 (L) (st) w = iv_V call mc_45 rt 157 (L) (.int (nI 1) :: st) w := e45_156
theorem f45_157 : iv_V call mc_45 rt 157 (L) (.int y :: .int x :: st) w = iv_V call mc_45 rt 158 (L) (.int (x + y) :: st) w := e45_157
theorem f45_158 : iv_V call mc_45 rt 158 (L) (st) w = iv_pf w st 1 41 (iv_kw call mc_45 rt 159 L) := e45_158
theorem f45_159 : iv_V call mc_45 rt 159 (L) (st) w = iv_V call mc_45 rt 160 (L) (.int (nI 1) :: st) w := e45_159
theorem f45_160 : iv_V call mc_45 rt 160 (L) (st) w = iv_ret rt st w := e45_160
theorem f46_0 : iv_V call mc_46 rt 0 (L) (st) w = iv_V call mc_46 rt 1 (L) (.int (nI 14) :: st) w := e46_0
theorem f46_1 : iv_V call mc_46 rt 1 (v0 :: .int x :: L) (st) w = iv_V call mc_46 rt 2 (v0 :: .int x :: L) (.int x :: st) w := e46_1
theorem f46_2 : iv_V call mc_46 rt 2 (L) (.int y :: .int x :: st) w = iv_V call mc_46 rt 3 (L) (.int (x * y) :: st) w := e46_2
theorem f46_3 : iv_V call mc_46 rt 3 (.ref a :: L) (st) w = iv_V call mc_46 rt 4 (.ref a :: L) (.ref a :: st) w := e46_3
theorem f46_4 : iv_V call mc_46 rt 4 (L) (st) w = iv_gf w st 1 8 (iv_kv call mc_46 rt 5 L w) := e46_4
theorem f46_5 : iv_V call mc_46 rt 5 (v0 :: v1 :: .int x :: L) (st) w = iv_V call mc_46 rt 6 (v0 :: v1 :: .int x :: L) (.int x :: st) w := e46_5
theorem f46_6 : iv_V call mc_46 rt 6 (L) (st) w = iv_ald w st iv_isI (iv_kv call mc_46 rt 7 L w) := e46_6
theorem f46_7 : iv_V call mc_46 rt 7 (L) (.int y :: .int x :: st) w = iv_V call mc_46 rt 8 (L) (.int (x + y) :: st) w := e46_7
theorem f46_8 : iv_V call mc_46 rt 8 (v0 :: v1 :: v2 :: v3 :: u :: L) (.int x :: st) w = iv_V call mc_46 rt 9 (v0 :: v1 :: v2 :: v3 :: .int x :: L) (st) w := e46_8
theorem f46_9 : iv_V call mc_46 rt 9 (v0 :: v1 :: v2 :: .int x :: L) (st) w = iv_V call mc_46 rt 10 (v0 :: v1 :: v2 :: .int x :: L) (.int x :: st) w := e46_9
theorem f46_10 : iv_V call mc_46 rt 10 (L) (.int x :: st) w = if x < nI 0 then iv_V call mc_46 rt 20 (L) (st) w else iv_V call mc_46 rt 11 (L) (st) w := e46_10
theorem f46_11 : iv_V call mc_46 rt 11 (.ref a :: L) (st) w = iv_V call mc_46 rt 12 (.ref a :: L) (.ref a :: st) w := e46_11
theorem f46_12 : iv_V call mc_46 rt 12 (L) (st) w = iv_gf w st 1 27 (iv_kv call mc_46 rt 13 L w) := e46_12
theorem f46_13 : iv_V call mc_46 rt 13 (L) (st) w = iv_V call mc_46 rt 14 (L) (.int (nI 3) :: st) w := e46_13
theorem f46_14 : iv_V call mc_46 rt 14 (v0 :: v1 :: v2 :: v3 :: .int x :: L) (st) w = iv_V call mc_46 rt 15 (v0 :: v1 :: v2 :: v3 :: .int x :: L) (.int x :: st) w := e46_14
theorem f46_15 : iv_V call mc_46 rt 15 (L) (.int y :: .int x :: st) w = iv_V call mc_46 rt 16 (L) (.int (x * y) :: st) w := e46_15
theorem f46_16 : iv_V call mc_46 rt 16 (v0 :: v1 :: v2 :: .int x :: L) (st) w = iv_V call mc_46 rt 17 (v0 :: v1 :: v2 :: .int x :: L) (.int x :: st) w := e46_16
theorem f46_17 : iv_V call mc_46 rt 17 (L) (.int y :: .int x :: st) w = iv_V call mc_46 rt 18 (L) (.int (x + y) :: st) w := e46_17
theorem f46_18 : iv_V call mc_46 rt 18 (L) (st) w = iv_ald w st iv_isI (iv_kv call mc_46 rt 19 L w) := e46_18
theorem f46_19 : iv_V call mc_46 rt 19 (L) (st) w = iv_V call mc_46 rt 24 (L) (st) w := e46_19
theorem f46_20 : iv_V call mc_46 rt 20 (.ref a :: L) (st) w = iv_V call mc_46 rt 21 (.ref a :: L) (.ref a :: st) w := e46_20
theorem f46_21 : iv_V call mc_46 rt 21 (L) (st) w = iv_gf w st 1 26 (iv_kv call mc_46 rt 22 L w) := e46_21
theorem f46_22 : iv_V call mc_46 rt 22 (v0 :: v1 :: v2 :: v3 :: .int x :: L) (st) w = iv_V call mc_46 rt 23 (v0 :: v1 :: v2 :: v3 :: .int x :: L) (.int x :: st) w := e46_22
theorem f46_23 : iv_V call mc_46 rt 23 (L) (st) w = iv_ald w st iv_isI (iv_kv call mc_46 rt 24 L w) := e46_23
theorem f46_24 : iv_V call mc_46 rt 24 (v0 :: v1 :: v2 :: v3 :: v4 :: u :: L) (.int x :: st) w = iv_V call mc_46 rt 25 (v0 :: v1 :: v2 :: v3 :: v4 :: .int x :: L) (st) w := e46_24
theorem f46_25 : iv_V call mc_46 rt 25 (v0 :: v1 :: v2 :: .int x :: L) (st) w = iv_V call mc_46 rt 26 (v0 :: v1 :: v2 :: .int x :: L) (.int x :: st) w := e46_25
theorem f46_26 : iv_V call mc_46 rt 26 (L) (.int x :: st) w = if x < nI 0 then iv_V call mc_46 rt 29 (L) (st) w else iv_V call mc_46 rt 27 (L) (st) w := e46_26
theorem f46_27 : iv_V call mc_46 rt 27 (L) (st) w = iv_V call mc_46 rt 28 (L) (.int (nI 1) :: st) w := e46_27
theorem f46_28 : iv_V call mc_46 rt 28 (L) (st) w = iv_V call mc_46 rt 30 (L) (st) w := e46_28
theorem f46_29 : iv_V call mc_46 rt 29 (L) (st) w = iv_V call mc_46 rt 30 (L) (.int (nI 0) :: st) w := e46_29
theorem f46_30 : iv_V call mc_46 rt 30 (v0 :: v1 :: v2 :: v3 :: v4 :: v5 :: u :: L) (.int x :: st) w = iv_V call mc_46 rt 31 (v0 :: v1 :: v2 :: v3 :: v4 :: v5 :: .int x :: L) (st) w := e46_30
theorem f46_31 : iv_V call mc_46 rt 31 (.ref a :: L) (st) w = iv_V call mc_46 rt 32 (.ref a :: L) (.ref a :: st) w := e46_31
theorem f46_32 : iv_V call mc_46 rt 32 (L) (st) w = iv_gf w st 1 10 (iv_kv call mc_46 rt 33 L w) := e46_32
theorem f46_33 : iv_V call mc_46 rt 33 (v0 :: v1 :: .int x :: L) (st) w = iv_V call mc_46 rt 34 (v0 :: v1 :: .int x :: L) (.int x :: st) w := e46_33
theorem f46_34 : iv_V call mc_46 rt 34 (L) (st) w = iv_ald w st iv_isI (iv_kv call mc_46 rt 35 L w) := e46_34
theorem f46_35 : iv_V call mc_46 rt 35 (L) (st) w = iv_V call mc_46 rt 36 (L) (.int (nI 4) :: st) w := e46_35
theorem f46_36 : iv_V call mc_46 rt 36 (L) (.int y :: .int x :: st) w = if x = y then iv_V call mc_46 rt 64 (L) (st) w else iv_V call mc_46 rt 37 (L) (st) w := e46_36
theorem f46_37 : iv_V call mc_46 rt 37 (.ref a :: L) (st) w = iv_V call mc_46 rt 38 (.ref a :: L) (.ref a :: st) w := e46_37
theorem f46_38 : iv_V call mc_46 rt 38 (L) (st) w = iv_gf w st 1 10 (iv_kv call mc_46 rt 39 L w) := e46_38
theorem f46_39 : iv_V call mc_46 rt 39 (v0 :: v1 :: .int x :: L) (st) w = iv_V call mc_46 rt 40 (v0 :: v1 :: .int x :: L) (.int x :: st) w := e46_39
theorem f46_40 : iv_V call mc_46 rt 40 (L) (st) w = iv_ald w st iv_isI (iv_kv call mc_46 rt 41 L w) := e46_40
theorem f46_41 : iv_V call mc_46 rt 41 (.ref a :: L) (st) w = iv_V call mc_46 rt 42 (.ref a :: L) (.ref a :: st) w := e46_41
theorem f46_42 : iv_V call mc_46 rt 42 (L) (st) w = iv_gf w st 1 11 (iv_kv call mc_46 rt 43 L w) := e46_42
theorem f46_43 : iv_V call mc_46 rt 43 (v0 :: v1 :: .int x :: L) (st) w = iv_V call mc_46 rt 44 (v0 :: v1 :: .int x :: L) (.int x :: st) w := e46_43
theorem f46_44 : iv_V call mc_46 rt 44 (L) (st) w = iv_ald w st iv_isI (iv_kv call mc_46 rt 45 L w) := e46_44
theorem f46_45 : iv_V call mc_46 rt 45 (.ref a :: L) (st) w = iv_V call mc_46 rt 46 (.ref a :: L) (.ref a :: st) w := e46_45
theorem f46_46 : iv_V call mc_46 rt 46 (L) (st) w = iv_gf w st 1 12 (iv_kv call mc_46 rt 47 L w) := e46_46
theorem f46_47 : iv_V call mc_46 rt 47 (v0 :: v1 :: .int x :: L) (st) w = iv_V call mc_46 rt 48 (v0 :: v1 :: .int x :: L) (.int x :: st) w := e46_47
theorem f46_48 : iv_V call mc_46 rt 48 (L) (st) w = iv_ald w st iv_isI (iv_kv call mc_46 rt 49 L w) := e46_48
theorem f46_49 : iv_V call mc_46 rt 49 (v0 :: v1 :: v2 :: v3 :: v4 :: .int x :: L) (st) w = iv_V call mc_46 rt 50 (v0 :: v1 :: v2 :: v3 :: v4 :: .int x :: L) (.int x :: st) w := e46_49
theorem f46_50 : iv_V call mc_46 rt 50 (v0 :: v1 :: v2 :: v3 :: v4 :: v5 :: .int x :: L) (st) w = iv_V call mc_46 rt 51 (v0 :: v1 :: v2 :: v3 :: v4 :: v5 :: .int x :: L) (.int x :: st) w := e46_50
theorem f46_51 {x0 : Int32} {x1 : Int32} {x2 : Int32} {x3 : Int32} {x4 : Int32} : iv_V call mc_46 rt 51 (L) (.int x4 :: .int x3 :: .int x2 :: .int x1 :: .int x0 :: []) w = iv_ct call mc_46 rt 52 L [] (call 44 [.int x0, .int x1, .int x2, .int x3, .int x4] w) := e46_51
theorem f46_52 : iv_V call mc_46 rt 52 (L) (.int x :: st) w = if x = nI 0 then iv_V call mc_46 rt 60 (L) (st) w else iv_V call mc_46 rt 53 (L) (st) w := e46_52
theorem f46_53 : iv_V call mc_46 rt 53 (.ref a :: L) (st) w = iv_V call mc_46 rt 54 (.ref a :: L) (.ref a :: st) w := e46_53
theorem f46_54 : iv_V call mc_46 rt 54 (v0 :: .int x :: L) (st) w = iv_V call mc_46 rt 55 (v0 :: .int x :: L) (.int x :: st) w := e46_54
theorem f46_55 : iv_V call mc_46 rt 55 (v0 :: v1 :: .int x :: L) (st) w = iv_V call mc_46 rt 56 (v0 :: v1 :: .int x :: L) (.int x :: st) w := e46_55
theorem f46_56 : iv_V call mc_46 rt 56 (v0 :: v1 :: v2 :: .int x :: L) (st) w = iv_V call mc_46 rt 57 (v0 :: v1 :: v2 :: .int x :: L) (.int x :: st) w := e46_56
theorem f46_57 : iv_V call mc_46 rt 57 (L) (st) w = iv_V call mc_46 rt 58 (L) (.int (-1) :: st) w := e46_57
theorem f46_58 {a0 : Nat} {x1 : Int32} {x2 : Int32} {x3 : Int32} {x4 : Int32} : iv_V call mc_46 rt 58 (L) (.int x4 :: .int x3 :: .int x2 :: .int x1 :: .ref a0 :: []) w = iv_cr (iv_rc w [.ref a0, .int x1, .int x2, .int x3, .int x4] 1) (iv_ct call mc_46 rt 59 L [] (call 45 [.ref a0, .int x1, .int x2, .int x3, .int x4] w)) := e46_58
theorem f46_59 : iv_V call mc_46 rt 59 (L) (.int x :: st) w = if x = nI 0 then iv_V call mc_46 rt 62 (L) (st) w else iv_V call mc_46 rt 60 (L) (st) w := e46_59
theorem f46_60 : iv_V call mc_46 rt 60 (L) (st) w = iv_V call mc_46 rt 61 (L) (.int (nI 1) :: st) w := e46_60
theorem f46_61 : iv_V call mc_46 rt 61 (L) (st) w = iv_V call mc_46 rt 63 (L) (st) w := e46_61
theorem f46_62 : iv_V call mc_46 rt 62 (L) (st) w = iv_V call mc_46 rt 63 (L) (.int (nI 0) :: st) w := e46_62
theorem f46_63 : iv_V call mc_46 rt 63 (L) (st) w = iv_ret rt st w := e46_63
theorem f46_64 : iv_V call mc_46 rt 64 (.ref a :: L) (st) w = iv_V call mc_46 rt 65 (.ref a :: L) (.ref a :: st) w := e46_64
theorem f46_65 : iv_V call mc_46 rt 65 (L) (st) w = iv_gf w st 1 11 (iv_kv call mc_46 rt 66 L w) := e46_65
theorem f46_66 : iv_V call mc_46 rt 66 (v0 :: v1 :: .int x :: L) (st) w = iv_V call mc_46 rt 67 (v0 :: v1 :: .int x :: L) (.int x :: st) w := e46_66
theorem f46_67 : iv_V call mc_46 rt 67 (L) (st) w = iv_ald w st iv_isI (iv_kv call mc_46 rt 68 L w) := e46_67
theorem f46_68 : iv_V call mc_46 rt 68 (v0 :: v1 :: v2 :: v3 :: v4 :: v5 :: v6 :: u :: L) (.int x :: st) w = iv_V call mc_46 rt 69 (v0 :: v1 :: v2 :: v3 :: v4 :: v5 :: v6 :: .int x :: L) (st) w := e46_68
theorem f46_69 : iv_V call mc_46 rt 69 (L) (st) w = iv_V call mc_46 rt 70 (L) (.int (nI 0) :: st) w := e46_69
theorem f46_70 : iv_V call mc_46 rt 70 (v0 :: v1 :: v2 :: v3 :: v4 :: v5 :: v6 :: v7 :: u :: L) (.int x :: st) w = iv_V call mc_46 rt 71 (v0 :: v1 :: v2 :: v3 :: v4 :: v5 :: v6 :: v7 :: .int x :: L) (st) w := e46_70
theorem f46_71 : iv_V call mc_46 rt 71 (L) (st) w = iv_V call mc_46 rt 72 (L) (.int (nI 3) :: st) w := e46_71
theorem f46_72 : iv_V call mc_46 rt 72 (v0 :: v1 :: v2 :: v3 :: v4 :: v5 :: v6 :: .int x :: L) (st) w = iv_V call mc_46 rt 73 (v0 :: v1 :: v2 :: v3 :: v4 :: v5 :: v6 :: .int x :: L) (.int x :: st) w := e46_72
theorem f46_73 : iv_V call mc_46 rt 73 (L) (.int y :: .int x :: st) w = iv_V call mc_46 rt 74 (L) (.int (x * y) :: st) w := e46_73
theorem f46_74 : iv_V call mc_46 rt 74 (v0 :: v1 :: v2 :: v3 :: v4 :: v5 :: v6 :: v7 :: v8 :: u :: L) (.int x :: st) w = iv_V call mc_46 rt 75 (v0 :: v1 :: v2 :: v3 :: v4 :: v5 :: v6 :: v7 :: v8 :: .int x :: L) (st) w := e46_74
theorem f46_75 : iv_V call mc_46 rt 75 (v0 :: v1 :: v2 :: v3 :: v4 :: v5 :: v6 :: v7 :: v8 :: .int x :: L) (st) w = iv_V call mc_46 rt 76 (v0 :: v1 :: v2 :: v3 :: v4 :: v5 :: v6 :: v7 :: v8 :: .int x :: L) (.int x :: st) w := e46_75
theorem f46_76 : iv_V call mc_46 rt 76 (L) (st) w = iv_V call mc_46 rt 77 (L) (.int (nI 3) :: st) w := e46_76
theorem f46_77 : iv_V call mc_46 rt 77 (v0 :: v1 :: v2 :: v3 :: v4 :: v5 :: v6 :: .int x :: L) (st) w = iv_V call mc_46 rt 78 (v0 :: v1 :: v2 :: v3 :: v4 :: v5 :: v6 :: .int x :: L) (.int x :: st) w := e46_77
theorem f46_78 : iv_V call mc_46 rt 78 (L) (.int y :: .int x :: st) w = iv_V call mc_46 rt 79 (L) (.int (x * y) :: st) w := e46_78
theorem f46_79 : iv_V call mc_46 rt 79 (.ref a :: L) (st) w = iv_V call mc_46 rt 80 (.ref a :: L) (.ref a :: st) w := e46_79
theorem f46_80 : iv_V call mc_46 rt 80 (L) (st) w = iv_gf w st 1 14 (iv_kv call mc_46 rt 81 L w) := e46_80
theorem f46_81 : iv_V call mc_46 rt 81 (v0 :: v1 :: v2 :: v3 :: v4 :: v5 :: v6 :: .int x :: L) (st) w = iv_V call mc_46 rt 82 (v0 :: v1 :: v2 :: v3 :: v4 :: v5 :: v6 :: .int x :: L) (.int x :: st) w := e46_81
theorem f46_82 : iv_V call mc_46 rt 82 (L) (st) w = iv_ald w st iv_isI (iv_kv call mc_46 rt 83 L w) := e46_82
theorem f46_83 : iv_V call mc_46 rt 83 (L) (.int y :: .int x :: st) w = iv_V call mc_46 rt 84 (L) (.int (x + y) :: st) w := e46_83
theorem f46_84 : iv_V call mc_46 rt 84 (L) (.int y :: .int x :: st) w = if y ≤ x then iv_V call mc_46 rt 131 (L) (st) w else iv_V call mc_46 rt 85 (L) (st) w := e46_84
theorem f46_85 : iv_V call mc_46 rt 85 (.ref a :: L) (st) w = iv_V call mc_46 rt 86 (.ref a :: L) (.ref a :: st) w := e46_85
theorem f46_86 : iv_V call mc_46 rt 86 (L) (st) w = iv_gf w st 1 15 (iv_kv call mc_46 rt 87 L w) := e46_86
theorem f46_87 : iv_V call mc_46 rt 87 (v0 :: v1 :: v2 :: v3 :: v4 :: v5 :: v6 :: v7 :: v8 :: .int x :: L) (st) w = iv_V call mc_46 rt 88 (v0 :: v1 :: v2 :: v3 :: v4 :: v5 :: v6 :: v7 :: v8 :: .int x :: L) (.int x :: st) w := e46_87
theorem f46_88 : iv_V call mc_46 rt 88 (L) (st) w = iv_ald w st iv_isI (iv_kv call mc_46 rt 89 L w) := e46_88
theorem f46_89 : iv_V call mc_46 rt 89 (.ref a :: L) (st) w = iv_V call mc_46 rt 90 (.ref a :: L) (.ref a :: st) w := e46_89
theorem f46_90 : iv_V call mc_46 rt 90 (L) (st) w = iv_gf w st 1 16 (iv_kv call mc_46 rt 91 L w) := e46_90
theorem f46_91 : iv_V call mc_46 rt 91 (v0 :: v1 :: v2 :: v3 :: v4 :: v5 :: v6 :: v7 :: v8 :: .int x :: L) (st) w = iv_V call mc_46 rt 92 (v0 :: v1 :: v2 :: v3 :: v4 :: v5 :: v6 :: v7 :: v8 :: .int x :: L) (.int x :: st) w := e46_91
theorem f46_92 : iv_V call mc_46 rt 92 (L) (st) w = iv_ald w st iv_isI (iv_kv call mc_46 rt 93 L w) := e46_92
theorem f46_93 : iv_V call mc_46 rt 93 (.ref a :: L) (st) w = iv_V call mc_46 rt 94 (.ref a :: L) (.ref a :: st) w := e46_93
theorem f46_94 : iv_V call mc_46 rt 94 (L) (st) w = iv_gf w st 1 17 (iv_kv call mc_46 rt 95 L w) := e46_94
theorem f46_95 : iv_V call mc_46 rt 95 (v0 :: v1 :: v2 :: v3 :: v4 :: v5 :: v6 :: v7 :: v8 :: .int x :: L) (st) w = iv_V call mc_46 rt 96 (v0 :: v1 :: v2 :: v3 :: v4 :: v5 :: v6 :: v7 :: v8 :: .int x :: L) (.int x :: st) w := e46_95
theorem f46_96 : iv_V call mc_46 rt 96 (L) (st) w = iv_ald w st iv_isI (iv_kv call mc_46 rt 97 L w) := e46_96
theorem f46_97 : iv_V call mc_46 rt 97 (v0 :: v1 :: v2 :: v3 :: v4 :: .int x :: L) (st) w = iv_V call mc_46 rt 98 (v0 :: v1 :: v2 :: v3 :: v4 :: .int x :: L) (.int x :: st) w := e46_97
theorem f46_98 : iv_V call mc_46 rt 98 (v0 :: v1 :: v2 :: v3 :: v4 :: v5 :: .int x :: L) (st) w = iv_V call mc_46 rt 99 (v0 :: v1 :: v2 :: v3 :: v4 :: v5 :: .int x :: L) (.int x :: st) w := e46_98
theorem f46_99 {x0 : Int32} {x1 : Int32} {x2 : Int32} {x3 : Int32} {x4 : Int32} : iv_V call mc_46 rt 99 (L) (.int x4 :: .int x3 :: .int x2 :: .int x1 :: .int x0 :: []) w = iv_ct call mc_46 rt 100 L [] (call 44 [.int x0, .int x1, .int x2, .int x3, .int x4] w) := e46_99
theorem f46_100 : iv_V call mc_46 rt 100 (v0 :: v1 :: v2 :: v3 :: v4 :: v5 :: v6 :: v7 :: v8 :: v9 :: u :: L) (.int x :: st) w = iv_V call mc_46 rt 101 (v0 :: v1 :: v2 :: v3 :: v4 :: v5 :: v6 :: v7 :: v8 :: v9 :: .int x :: L) (st) w := e46_100
theorem f46_101 : iv_V call mc_46 rt 101 (v0 :: v1 :: v2 :: v3 :: v4 :: v5 :: v6 :: v7 :: v8 :: v9 :: .int x :: L) (st) w = iv_V call mc_46 rt 102 (v0 :: v1 :: v2 :: v3 :: v4 :: v5 :: v6 :: v7 :: v8 :: v9 :: .int x :: L) (.int x :: st) w := e46_101
theorem f46_102 : iv_V call mc_46 rt 102 (L) (.int x :: st) w = if x = nI 0 then iv_V call mc_46 rt 121 (L) (st) w else iv_V call mc_46 rt 103 (L) (st) w := e46_102
theorem f46_103 : iv_V call mc_46 rt 103 (.ref a :: L) (st) w = iv_V call mc_46 rt 104 (.ref a :: L) (.ref a :: st) w := e46_103
theorem f46_104 : iv_V call mc_46 rt 104 (L) (st) w = iv_gf w st 1 18 (iv_kv call mc_46 rt 105 L w) := e46_104
theorem f46_105 : iv_V call mc_46 rt 105 (v0 :: v1 :: v2 :: v3 :: v4 :: v5 :: v6 :: .int x :: L) (st) w = iv_V call mc_46 rt 106 (v0 :: v1 :: v2 :: v3 :: v4 :: v5 :: v6 :: .int x :: L) (.int x :: st) w := e46_105
theorem f46_106 : iv_V call mc_46 rt 106 (L) (st) w = iv_ald w st iv_isZ (iv_kv call mc_46 rt 107 L w) := e46_106
theorem f46_107 : iv_V call mc_46 rt 107 (L) (.int x :: st) w = if ¬ x = nI 0 then iv_V call mc_46 rt 121 (L) (st) w else iv_V call mc_46 rt 108 (L) (st) w := e46_107
theorem f46_108 : iv_V call mc_46 rt 108 (.ref a :: L) (st) w = iv_V call mc_46 rt 109 (.ref a :: L) (.ref a :: st) w := e46_108
theorem f46_109 : iv_V call mc_46 rt 109 (v0 :: .int x :: L) (st) w = iv_V call mc_46 rt 110 (v0 :: .int x :: L) (.int x :: st) w := e46_109
theorem f46_110 : iv_V call mc_46 rt 110 (v0 :: v1 :: .int x :: L) (st) w = iv_V call mc_46 rt 111 (v0 :: v1 :: .int x :: L) (.int x :: st) w := e46_110
theorem f46_111 : iv_V call mc_46 rt 111 (v0 :: v1 :: v2 :: .int x :: L) (st) w = iv_V call mc_46 rt 112 (v0 :: v1 :: v2 :: .int x :: L) (.int x :: st) w := e46_111
theorem f46_112 : iv_V call mc_46 rt 112 (v0 :: v1 :: v2 :: v3 :: v4 :: v5 :: v6 :: v7 :: v8 :: .int x :: L) (st) w = iv_V call mc_46 rt 113 (v0 :: v1 :: v2 :: v3 :: v4 :: v5 :: v6 :: v7 :: v8 :: .int x :: L) (.int x :: st) w := e46_112
theorem f46_113 : iv_V call mc_46 rt 113 (L) (st) w = iv_V call mc_46 rt 114 (L) (.int (nI 3) :: st) w := e46_113
theorem f46_114 : iv_V call mc_46 rt 114 (v0 :: v1 :: v2 :: v3 :: v4 :: v5 :: v6 :: .int x :: L) (st) w = iv_V call mc_46 rt 115 (v0 :: v1 :: v2 :: v3 :: v4 :: v5 :: v6 :: .int x :: L) (.int x :: st) w := e46_114
theorem f46_115 : iv_V call mc_46 rt 115 (L) (.int y :: .int x :: st) w = iv_V call mc_46 rt 116 (L) (.int (x * y) :: st) w := e46_115
theorem f46_116 : iv_V call mc_46 rt 116 (L) (.int y :: .int x :: st) w = iv_V call mc_46 rt 117 (L) (.int (x - y) :: st) w := e46_116
theorem f46_117 {a0 : Nat} {x1 : Int32} {x2 : Int32} {x3 : Int32} {x4 : Int32} : iv_V call mc_46 rt 117 (L) (.int x4 :: .int x3 :: .int x2 :: .int x1 :: .ref a0 :: []) w = iv_cr (iv_rc w [.ref a0, .int x1, .int x2, .int x3, .int x4] 1) (iv_ct call mc_46 rt 118 L [] (call 45 [.ref a0, .int x1, .int x2, .int x3, .int x4] w)) := e46_117
theorem f46_118 : iv_V call mc_46 rt 118 (L) (.int x :: st) w = if ¬ x = nI 0 then iv_V call mc_46 rt 121 (L) (st) w else iv_V call mc_46 rt 119 (L) (st) w := e46_118
theorem f46_119 : iv_V call mc_46 rt 119 (L) (st) w = iv_V call mc_46 rt 120 (L) (.int (nI 0) :: st) w := e46_119
theorem f46_120 : iv_V call mc_46 rt 120 (L) (st) w = iv_ret rt st w := e46_120
theorem f46_121 : iv_V call mc_46 rt 121 (v0 :: v1 :: v2 :: v3 :: v4 :: v5 :: v6 :: v7 :: .int x :: L) (st) w = iv_V call mc_46 rt 122 (v0 :: v1 :: v2 :: v3 :: v4 :: v5 :: v6 :: v7 :: .int x :: L) (.int x :: st) w := e46_121
theorem f46_122 : iv_V call mc_46 rt 122 (L) (.int x :: st) w = if ¬ x = nI 0 then iv_V call mc_46 rt 125 (L) (st) w else iv_V call mc_46 rt 123 (L) (st) w := e46_122
theorem f46_123 : iv_V call mc_46 rt 123 (v0 :: v1 :: v2 :: v3 :: v4 :: v5 :: v6 :: v7 :: v8 :: v9 :: .int x :: L) (st) w = iv_V call mc_46 rt 124 (v0 :: v1 :: v2 :: v3 :: v4 :: v5 :: v6 :: v7 :: v8 :: v9 :: .int x :: L) (.int x :: st) w := e46_123
theorem f46_124 : iv_V call mc_46 rt 124 (L) (.int x :: st) w = if x = nI 0 then iv_V call mc_46 rt 127 (L) (st) w else iv_V call mc_46 rt 125 (L) (st) w := e46_124
theorem f46_125 : iv_V call mc_46 rt 125 (L) (st) w = iv_V call mc_46 rt 126 (L) (.int (nI 1) :: st) w := e46_125
theorem f46_126 : iv_V call mc_46 rt 126 (L) (st) w = iv_V call mc_46 rt 128 (L) (st) w := e46_126
theorem f46_127 : iv_V call mc_46 rt 127 (L) (st) w = iv_V call mc_46 rt 128 (L) (.int (nI 0) :: st) w := e46_127
theorem f46_128 : iv_V call mc_46 rt 128 (v0 :: v1 :: v2 :: v3 :: v4 :: v5 :: v6 :: v7 :: u :: L) (.int x :: st) w = iv_V call mc_46 rt 129 (v0 :: v1 :: v2 :: v3 :: v4 :: v5 :: v6 :: v7 :: .int x :: L) (st) w := e46_128
theorem f46_129 : iv_V call mc_46 rt 129 (v0 :: v1 :: v2 :: v3 :: v4 :: v5 :: v6 :: v7 :: v8 :: .int x :: L) (st) w = iv_V call mc_46 rt 130 (v0 :: v1 :: v2 :: v3 :: v4 :: v5 :: v6 :: v7 :: v8 :: .int (x + (nI 1)) :: L) (st) w := e46_129
theorem f46_130 : iv_V call mc_46 rt 130 (L) (st) w = iv_V call mc_46 rt 75 (L) (st) w := e46_130
theorem f46_131 : iv_V call mc_46 rt 131 (v0 :: v1 :: v2 :: v3 :: v4 :: v5 :: v6 :: v7 :: .int x :: L) (st) w = iv_V call mc_46 rt 132 (v0 :: v1 :: v2 :: v3 :: v4 :: v5 :: v6 :: v7 :: .int x :: L) (.int x :: st) w := e46_131
theorem f46_132 : iv_V call mc_46 rt 132 (L) (.int x :: st) w = if x = nI 0 then iv_V call mc_46 rt 145 (L) (st) w else iv_V call mc_46 rt 133 (L) (st) w := e46_132
theorem f46_133 : iv_V call mc_46 rt 133 (.ref a :: L) (st) w = iv_V call mc_46 rt 134 (.ref a :: L) (.ref a :: st) w := e46_133
theorem f46_134 : iv_V call mc_46 rt 134 (L) (st) w = iv_gf w st 1 18 (iv_kv call mc_46 rt 135 L w) := e46_134
theorem f46_135 : iv_V call mc_46 rt 135 (v0 :: v1 :: v2 :: v3 :: v4 :: v5 :: v6 :: .int x :: L) (st) w = iv_V call mc_46 rt 136 (v0 :: v1 :: v2 :: v3 :: v4 :: v5 :: v6 :: .int x :: L) (.int x :: st) w := e46_135
theorem f46_136 : iv_V call mc_46 rt 136 (L) (st) w = iv_ald w st iv_isZ (iv_kv call mc_46 rt 137 L w) := e46_136
theorem f46_137 : iv_V call mc_46 rt 137 (L) (.int x :: st) w = if x = nI 0 then iv_V call mc_46 rt 145 (L) (st) w else iv_V call mc_46 rt 138 (L) (st) w := e46_137
theorem f46_138 : iv_V call mc_46 rt 138 (.ref a :: L) (st) w = iv_V call mc_46 rt 139 (.ref a :: L) (.ref a :: st) w := e46_138
theorem f46_139 : iv_V call mc_46 rt 139 (v0 :: .int x :: L) (st) w = iv_V call mc_46 rt 140 (v0 :: .int x :: L) (.int x :: st) w := e46_139
theorem f46_140 : iv_V call mc_46 rt 140 (v0 :: v1 :: .int x :: L) (st) w = iv_V call mc_46 rt 141 (v0 :: v1 :: .int x :: L) (.int x :: st) w := e46_140
theorem f46_141 : iv_V call mc_46 rt 141 (v0 :: v1 :: v2 :: .int x :: L) (st) w = iv_V call mc_46 rt 142 (v0 :: v1 :: v2 :: .int x :: L) (.int x :: st) w := e46_141
theorem f46_142 : iv_V call mc_46 rt 142 (L) (st) w = iv_V call mc_46 rt 143 (L) (.int (-1) :: st) w := e46_142
theorem f46_143 {a0 : Nat} {x1 : Int32} {x2 : Int32} {x3 : Int32} {x4 : Int32} : iv_V call mc_46 rt 143 (L) (.int x4 :: .int x3 :: .int x2 :: .int x1 :: .ref a0 :: []) w = iv_cr (iv_rc w [.ref a0, .int x1, .int x2, .int x3, .int x4] 1) (iv_ct call mc_46 rt 144 L [] (call 45 [.ref a0, .int x1, .int x2, .int x3, .int x4] w)) := e46_143
theorem f46_144 : iv_V call mc_46 rt 144 (L) (.int x :: st) w = if x = nI 0 then iv_V call mc_46 rt 147 (L) (st) w else iv_V call mc_46 rt 145 (L) (st) w := e46_144
theorem f46_145 : iv_V call mc_46 rt 145 (L) (st) w = iv_V call mc_46 rt 146 (L) (.int (nI 1) :: st) w := e46_145
theorem f46_146 : iv_V call mc_46 rt 146 (L) (st) w = iv_V call mc_46 rt 148 (L) (st) w := e46_146
theorem f46_147 : iv_V call mc_46 rt 147 (L) (st) w = iv_V call mc_46 rt 148 (L) (.int (nI 0) :: st) w := e46_147
theorem f46_148 : iv_V call mc_46 rt 148 (L) (st) w = iv_ret rt st w := e46_148
end IVF1
