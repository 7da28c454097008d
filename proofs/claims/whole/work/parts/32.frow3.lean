/-! rows, on -/
section IVF3
variable {call : Nat → List Value → iv_S → iv_R} {rt : Option FieldType} {L st : List Value} {w : iv_S} {v0 v1 v2 v3 v4 v5 v6 v7 v8 v9 u : Value} {x y : Int32} {a : Nat}
theorem f63_0 : iv_V call mc_63 rt 0 (v0 :: .int x :: L) (st) w = iv_V call mc_63 rt 1 (v0 :: .int x :: L) (.int x :: st) w := e63_0
theorem f63_1 : iv_V call mc_63 rt 1 (L) (st) w = iv_V call mc_63 rt 2 (L) (.int (nI 0) :: st) w := e63_1
theorem f63_2 : iv_V call mc_63 rt 2 (.ref a :: L) (st) w = iv_V call mc_63 rt 3 (.ref a :: L) (.ref a :: st) w := e63_2
theorem f63_3 : iv_V call mc_63 rt 3 (L) (st) w = iv_gf w st 1 41 (iv_kv call mc_63 rt 4 L w) := e63_3
theorem f63_4 : iv_V call mc_63 rt 4 (L) (st) w = iv_V call mc_63 rt 5 (L) (.int (nI 1) :: st) w := e63_4
theorem f63_5 : iv_V call mc_63 rt 5 (L) (.int y :: .int x :: st) w = iv_V call mc_63 rt 6 (L) (.int (x - y) :: st) w := e63_5
theorem f63_6 {x0 : Int32} {x1 : Int32} {x2 : Int32} : iv_V call mc_63 rt 6 (L) (.int x2 :: .int x1 :: .int x0 :: []) w = iv_ct call mc_63 rt 7 L [] (call 25 [.int x0, .int x1, .int x2] w) := e63_6
theorem f63_7 : iv_V call mc_63 rt 7 (L) (.int x :: st) w = if x = nI 0 then iv_V call mc_63 rt 11 (L) (st) w else iv_V call mc_63 rt 8 (L) (st) w := e63_7
theorem f63_8 : iv_V call mc_63 rt 8 (v0 :: v1 :: .int x :: L) (st) w = iv_V call mc_63 rt 9 (v0 :: v1 :: .int x :: L) (.int x :: st) w := e63_8
theorem f63_9 : iv_V call mc_63 rt 9 (L) (st) w = iv_V call mc_63 rt 10 (L) (.int (-1) :: st) w := e63_9
theorem f63_10 : iv_V call mc_63 rt 10 (L) (.int y :: .int x :: st) w = if y ≤ x then iv_V call mc_63 rt 13 (L) (st) w else iv_V call mc_63 rt 11 (L) (st) w := e63_10
theorem f63_11 : iv_V call mc_63 rt 11 (L) (st) w = iv_V call mc_63 rt 12 (L) (.int (-1) :: st) w := e63_11
theorem f63_12 : iv_V call mc_63 rt 12 (L) (st) w = iv_ret rt st w := e63_12
theorem f63_13 : iv_V call mc_63 rt 13 (.ref a :: L) (st) w = iv_V call mc_63 rt 14 (.ref a :: L) (.ref a :: st) w := e63_13
theorem f63_14 : iv_V call mc_63 rt 14 (L) (st) w = iv_V call mc_63 rt 15 (L) (.int (nI 0) :: st) w := e63_14
theorem f63_15 : iv_V call mc_63 rt 15 (L) (st) w = iv_pf w st 1 47 (iv_kw call mc_63 rt 16 L) := e63_15
theorem f63_16 : iv_V call mc_63 rt 16 (L) (st) w = iv_V call mc_63 rt 17 (L) (.int (nI 0) :: st) w := e63_16
theorem f63_17 : iv_V call mc_63 rt 17 (v0 :: v1 :: v2 :: u :: L) (.int x :: st) w = iv_V call mc_63 rt 18 (v0 :: v1 :: v2 :: .int x :: L) (st) w := e63_17
theorem f63_18 : iv_V call mc_63 rt 18 (v0 :: v1 :: v2 :: .int x :: L) (st) w = iv_V call mc_63 rt 19 (v0 :: v1 :: v2 :: .int x :: L) (.int x :: st) w := e63_18
theorem f63_19 : iv_V call mc_63 rt 19 (.ref a :: L) (st) w = iv_V call mc_63 rt 20 (.ref a :: L) (.ref a :: st) w := e63_19
theorem f63_20 : iv_V call mc_63 rt 20 (L) (st) w = iv_gf w st 1 43 (iv_kv call mc_63 rt 21 L w) := e63_20
theorem f63_21 : iv_V call mc_63 rt 21 (v0 :: .int x :: L) (st) w = iv_V call mc_63 rt 22 (v0 :: .int x :: L) (.int x :: st) w := e63_21
theorem f63_22 : iv_V call mc_63 rt 22 (L) (st) w = iv_ald w st iv_isI (iv_kv call mc_63 rt 23 L w) := e63_22
theorem f63_23 : iv_V call mc_63 rt 23 (L) (.int y :: .int x :: st) w = if y ≤ x then iv_V call mc_63 rt 47 (L) (st) w else iv_V call mc_63 rt 24 (L) (st) w := e63_23
theorem f63_24 : iv_V call mc_63 rt 24 (.ref a :: L) (st) w = iv_V call mc_63 rt 25 (.ref a :: L) (.ref a :: st) w := e63_24
theorem f63_25 : iv_V call mc_63 rt 25 (.ref a :: L) (st) w = iv_V call mc_63 rt 26 (.ref a :: L) (.ref a :: st) w := e63_25
theorem f63_26 : iv_V call mc_63 rt 26 (L) (st) w = iv_gf w st 1 44 (iv_kv call mc_63 rt 27 L w) := e63_26
theorem f63_27 : iv_V call mc_63 rt 27 (L) (st) w = iv_V call mc_63 rt 28 (L) (.int (nI 16) :: st) w := e63_27
theorem f63_28 : iv_V call mc_63 rt 28 (v0 :: .int x :: L) (st) w = iv_V call mc_63 rt 29 (v0 :: .int x :: L) (.int x :: st) w := e63_28
theorem f63_29 : iv_V call mc_63 rt 29 (L) (.int y :: .int x :: st) w = iv_V call mc_63 rt 30 (L) (.int (x * y) :: st) w := e63_29
theorem f63_30 : iv_V call mc_63 rt 30 (v0 :: v1 :: v2 :: .int x :: L) (st) w = iv_V call mc_63 rt 31 (v0 :: v1 :: v2 :: .int x :: L) (.int x :: st) w := e63_30
theorem f63_31 : iv_V call mc_63 rt 31 (L) (.int y :: .int x :: st) w = iv_V call mc_63 rt 32 (L) (.int (x + y) :: st) w := e63_31
theorem f63_32 : iv_V call mc_63 rt 32 (L) (st) w = iv_ald w st iv_isI (iv_kv call mc_63 rt 33 L w) := e63_32
theorem f63_33 : iv_V call mc_63 rt 33 (.ref a :: L) (st) w = iv_V call mc_63 rt 34 (.ref a :: L) (.ref a :: st) w := e63_33
theorem f63_34 : iv_V call mc_63 rt 34 (L) (st) w = iv_gf w st 1 45 (iv_kv call mc_63 rt 35 L w) := e63_34
theorem f63_35 : iv_V call mc_63 rt 35 (L) (st) w = iv_V call mc_63 rt 36 (L) (.int (nI 16) :: st) w := e63_35
theorem f63_36 : iv_V call mc_63 rt 36 (v0 :: .int x :: L) (st) w = iv_V call mc_63 rt 37 (v0 :: .int x :: L) (.int x :: st) w := e63_36
theorem f63_37 : iv_V call mc_63 rt 37 (L) (.int y :: .int x :: st) w = iv_V call mc_63 rt 38 (L) (.int (x * y) :: st) w := e63_37
theorem f63_38 : iv_V call mc_63 rt 38 (v0 :: v1 :: v2 :: .int x :: L) (st) w = iv_V call mc_63 rt 39 (v0 :: v1 :: v2 :: .int x :: L) (.int x :: st) w := e63_38
theorem f63_39 : iv_V call mc_63 rt 39 (L) (.int y :: .int x :: st) w = iv_V call mc_63 rt 40 (L) (.int (x + y) :: st) w := e63_39
theorem f63_40 : iv_V call mc_63 rt 40 (L) (st) w = iv_ald w st iv_isI (iv_kv call mc_63 rt 41 L w) := e63_40
theorem f63_41 {a0 : Nat} {x1 : Int32} {x2 : Int32} : iv_V call mc_63 rt 41 (L) (.int x2 :: .int x1 :: .ref a0 :: []) w = iv_cr (iv_rc w [.ref a0, .int x1, .int x2] 1) (iv_ct call mc_63 rt 42 L [] (call 62 [.ref a0, .int x1, .int x2] w)) := e63_41
theorem f63_42 : iv_V call mc_63 rt 42 (.ref a :: L) (st) w = iv_V call mc_63 rt 43 (.ref a :: L) (.ref a :: st) w := e63_42
theorem f63_43 : iv_V call mc_63 rt 43 (L) (st) w = iv_V call mc_63 rt 44 (L) (.int (nI 46) :: st) w := e63_43
theorem f63_44 {a0 : Nat} {x1 : Int32} : iv_V call mc_63 rt 44 (L) (.int x1 :: .ref a0 :: []) w = iv_cr (iv_rc w [.ref a0, .int x1] 1) (iv_ct call mc_63 rt 45 L [] (call 61 [.ref a0, .int x1] w)) := e63_44
theorem f63_45 : iv_V call mc_63 rt 45 (v0 :: v1 :: v2 :: .int x :: L) (st) w = iv_V call mc_63 rt 46 (v0 :: v1 :: v2 :: .int (x + (nI 1)) :: L) (st) w := e63_45
theorem f63_46 : iv_V call mc_63 rt 46 (L) (st) w = iv_V call mc_63 rt 18 (L) (st) w := e63_46
theorem f63_47 : iv_V call mc_63 rt 47 (.ref a :: L) (st) w = iv_V call mc_63 rt 48 (.ref a :: L) (.ref a :: st) w := e63_47
theorem f63_48 : iv_V call mc_63 rt 48 (.ref a :: L) (st) w = iv_V call mc_63 rt 49 (.ref a :: L) (.ref a :: st) w := e63_48
theorem f63_49 : iv_V call mc_63 rt 49 (L) (st) w = iv_gf w st 1 42 (iv_kv call mc_63 rt 50 L w) := e63_49
theorem f63_50 : iv_V call mc_63 rt 50 (L) (st) w = iv_V call mc_63 rt 51 (L) (.int (nI 6) :: st) w := e63_50
theorem f63_51 : iv_V call mc_63 rt 51 (v0 :: .int x :: L) (st) w = iv_V call mc_63 rt 52 (v0 :: .int x :: L) (.int x :: st) w := e63_51
theorem f63_52 : iv_V call mc_63 rt 52 (L) (.int y :: .int x :: st) w = iv_V call mc_63 rt 53 (L) (.int (x * y) :: st) w := e63_52
theorem f63_53 : iv_V call mc_63 rt 53 (L) (st) w = iv_V call mc_63 rt 54 (L) (.int (nI 1) :: st) w := e63_53
theorem f63_54 : iv_V call mc_63 rt 54 (L) (.int y :: .int x :: st) w = iv_V call mc_63 rt 55 (L) (.int (x + y) :: st) w := e63_54
theorem f63_55 : iv_V call mc_63 rt 55 (L) (st) w = iv_ald w st iv_isI (iv_kv call mc_63 rt 56 L w) := e63_55
theorem f63_56 : iv_V call mc_63 rt 56 (.ref a :: L) (st) w = iv_V call mc_63 rt 57 (.ref a :: L) (.ref a :: st) w := e63_56
theorem f63_57 : iv_V call mc_63 rt 57 (L) (st) w = iv_gf w st 1 42 (iv_kv call mc_63 rt 58 L w) := e63_57
theorem f63_58 : iv_V call mc_63 rt 58 (L) (st) w = iv_V call mc_63 rt 59 (L) (.int (nI 6) :: st) w := e63_58
theorem f63_59 : iv_V call mc_63 rt 59 (v0 :: .int x :: L) (st) w = iv_V call mc_63 rt 60 (v0 :: .int x :: L) (.int x :: st) w := e63_59
theorem f63_60 : iv_V call mc_63 rt 60 (L) (.int y :: .int x :: st) w = iv_V call mc_63 rt 61 (L) (.int (x * y) :: st) w := e63_60
theorem f63_61 : iv_V call mc_63 rt 61 (L) (st) w = iv_V call mc_63 rt 62 (L) (.int (nI 2) :: st) w := e63_61
theorem f63_62 : iv_V call mc_63 rt 62 (L) (.int y :: .int x :: st) w = iv_V call mc_63 rt 63 (L) (.int (x + y) :: st) w := e63_62
theorem f63_63 : iv_V call mc_63 rt 63 (L) (st) w = iv_ald w st iv_isI (iv_kv call mc_63 rt 64 L w) := e63_63
theorem f63_64 {a0 : Nat} {x1 : Int32} {x2 : Int32} : iv_V call mc_63 rt 64 (L) (.int x2 :: .int x1 :: .ref a0 :: []) w = iv_cr (iv_rc w [.ref a0, .int x1, .int x2] 1) (iv_ct call mc_63 rt 65 L [] (call 62 [.ref a0, .int x1, .int x2] w)) := e63_64
theorem f63_65 : iv_V call mc_63 rt 65 (v0 :: v1 :: .int x :: L) (st) w = iv_V call mc_63 rt 66 (v0 :: v1 :: .int x :: L) (.int x :: st) w := e63_65
theorem f63_66 : iv_V call mc_63 rt 66 (L) (st) w = iv_V call mc_63 rt 67 (L) (.int (-1) :: st) w := e63_66
theorem f63_67 : iv_V call mc_63 rt 67 (L) (.int y :: .int x :: st) w = if ¬ x = y then iv_V call mc_63 rt 71 (L) (st) w else iv_V call mc_63 rt 68 (L) (st) w := e63_67
theorem f63_68 : iv_V call mc_63 rt 68 (.ref a :: L) (st) w = iv_V call mc_63 rt 69 (.ref a :: L) (.ref a :: st) w := e63_68
theorem f63_69 : iv_V call mc_63 rt 69 (L) (st) w = iv_gf w st 1 47 (iv_kv call mc_63 rt 70 L w) := e63_69
theorem f63_70 : iv_V call mc_63 rt 70 (L) (st) w = iv_V call mc_63 rt 81 (L) (st) w := e63_70
theorem f63_71 : iv_V call mc_63 rt 71 (v0 :: v1 :: .int x :: L) (st) w = iv_V call mc_63 rt 72 (v0 :: v1 :: .int x :: L) (.int x :: st) w := e63_71
theorem f63_72 : iv_V call mc_63 rt 72 (.ref a :: L) (st) w = iv_V call mc_63 rt 73 (.ref a :: L) (.ref a :: st) w := e63_72
theorem f63_73 : iv_V call mc_63 rt 73 (L) (st) w = iv_gf w st 1 47 (iv_kv call mc_63 rt 74 L w) := e63_73
theorem f63_74 : iv_V call mc_63 rt 74 (L) (.int y :: .int x :: st) w = if y ≤ x then iv_V call mc_63 rt 80 (L) (st) w else iv_V call mc_63 rt 75 (L) (st) w := e63_74
theorem f63_75 : iv_V call mc_63 rt 75 (.ref a :: L) (st) w = iv_V call mc_63 rt 76 (.ref a :: L) (.ref a :: st) w := e63_75
theorem f63_76 : iv_V call mc_63 rt 76 (L) (st) w = iv_gf w st 1 46 (iv_kv call mc_63 rt 77 L w) := e63_76
theorem f63_77 : iv_V call mc_63 rt 77 (v0 :: v1 :: .int x :: L) (st) w = iv_V call mc_63 rt 78 (v0 :: v1 :: .int x :: L) (.int x :: st) w := e63_77
theorem f63_78 : iv_V call mc_63 rt 78 (L) (st) w = iv_ald w st iv_isI (iv_kv call mc_63 rt 79 L w) := e63_78
theorem f63_79 : iv_V call mc_63 rt 79 (L) (st) w = iv_V call mc_63 rt 81 (L) (st) w := e63_79
theorem f63_80 : iv_V call mc_63 rt 80 (L) (st) w = iv_V call mc_63 rt 81 (L) (.int (-1) :: st) w := e63_80
theorem f63_81 : iv_V call mc_63 rt 81 (L) (st) w = iv_ret rt st w := e63_81
theorem f65_0 : iv_V call mc_65 rt 0 (.ref a :: L) (st) w = iv_V call mc_65 rt 1 (.ref a :: L) (.ref a :: st) w := e65_0
theorem f65_1 : iv_V call mc_65 rt 1 (v0 :: .int x :: L) (st) w = iv_V call mc_65 rt 2 (v0 :: .int x :: L) (.int x :: st) w := e65_1
theorem f65_2 : iv_V call mc_65 rt 2 (v0 :: v1 :: .int x :: L) (st) w = iv_V call mc_65 rt 3 (v0 :: v1 :: .int x :: L) (.int x :: st) w := e65_2
theorem f65_3 {a0 : Nat} {x1 : Int32} {x2 : Int32} : iv_V call mc_65 rt 3 (L) (.int x2 :: .int x1 :: .ref a0 :: []) w = iv_cr (iv_rc w [.ref a0, .int x1, .int x2] 2) (iv_ct call mc_65 rt 4 L [] (call 66 [.ref a0, .int x1, .int x2] w)) := e65_3
theorem f65_4 : iv_V call mc_65 rt 4 (L) (.int x :: st) w = if x = nI 0 then iv_V call mc_65 rt 7 (L) (st) w else iv_V call mc_65 rt 5 (L) (st) w := e65_4
theorem f65_5 : iv_V call mc_65 rt 5 (L) (st) w = iv_V call mc_65 rt 6 (L) (.int (nI 0) :: st) w := e65_5
theorem f65_6 : iv_V call mc_65 rt 6 (L) (st) w = iv_ret rt st w := e65_6
theorem f65_7 : iv_V call mc_65 rt 7 (.ref a :: L) (st) w = iv_V call mc_65 rt 8 (.ref a :: L) (.ref a :: st) w := e65_7
theorem f65_8 : iv_V call mc_65 rt 8 (L) (st) w = iv_gf w st 2 8 (iv_kv call mc_65 rt 9 L w) := e65_8
theorem f65_9 : iv_V call mc_65 rt 9 (L) (st) w = iv_V call mc_65 rt 10 (L) (.int (nI 60) :: st) w := e65_9
theorem f65_10 : iv_V call mc_65 rt 10 (L) (.int y :: .int x :: st) w = if y ≤ x then iv_V call mc_65 rt 15 (L) (st) w else iv_V call mc_65 rt 11 (L) (st) w := e65_10
theorem f65_11 : iv_V call mc_65 rt 11 (.ref a :: L) (st) w = iv_V call mc_65 rt 12 (.ref a :: L) (.ref a :: st) w := e65_11
theorem f65_12 : iv_V call mc_65 rt 12 (L) (st) w = iv_gf w st 2 7 (iv_kv call mc_65 rt 13 L w) := e65_12
theorem f65_13 : iv_V call mc_65 rt 13 (L) (st) w = iv_V call mc_65 rt 14 (L) (.int (nI 16) :: st) w := e65_13
theorem f65_14 : iv_V call mc_65 rt 14 (L) (.int y :: .int x :: st) w = if x < y then iv_V call mc_65 rt 17 (L) (st) w else iv_V call mc_65 rt 15 (L) (st) w := e65_14
theorem f65_15 : iv_V call mc_65 rt 15 (L) (st) w = iv_V call mc_65 rt 16 (L) (.int (-5) :: st) w := e65_15
theorem f65_16 : iv_V call mc_65 rt 16 (L) (st) w = iv_ret rt st w := e65_16
theorem f65_17 : iv_V call mc_65 rt 17 (.ref a :: L) (st) w = iv_V call mc_65 rt 18 (.ref a :: L) (.ref a :: st) w := e65_17
theorem f65_18 : iv_V call mc_65 rt 18 (L) (.ref a :: st) w = iv_V call mc_65 rt 19 (L) (.ref a :: .ref a :: st) w := e65_18
theorem f65_19 : iv_V call mc_65 rt 19 (L) (st) w = iv_gf w st 2 8 (iv_kv call mc_65 rt 20 L w) := e65_19
theorem f65_20 : iv_V call mc_65 rt 20 (L) (st) w = iv_V call mc_65 rt 21 (L) (.int (nI 1) :: st) w := e65_20
theorem f65_21 : iv_V call mc_65 rt 21 (L) (.int y :: .int x :: st) w = iv_V call mc_65 rt 22 (L) (.int (x + y) :: st) w := e65_21
theorem f65_22 : iv_V call mc_65 rt 22 (L) (st) w = iv_pf w st 2 8 (iv_kw call mc_65 rt 23 L) := e65_22
theorem f65_23 : iv_V call mc_65 rt 23 (.ref a :: L) (st) w = iv_V call mc_65 rt 24 (.ref a :: L) (.ref a :: st) w := e65_23
theorem f65_24 : iv_V call mc_65 rt 24 (L) (st) w = iv_gf w st 2 5 (iv_kv call mc_65 rt 25 L w) := e65_24
theorem f65_25 : iv_V call mc_65 rt 25 (.ref a :: L) (st) w = iv_V call mc_65 rt 26 (.ref a :: L) (.ref a :: st) w := e65_25
theorem f65_26 : iv_V call mc_65 rt 26 (L) (st) w = iv_gf w st 2 7 (iv_kv call mc_65 rt 27 L w) := e65_26
theorem f65_27 : iv_V call mc_65 rt 27 (v0 :: .int x :: L) (st) w = iv_V call mc_65 rt 28 (v0 :: .int x :: L) (.int x :: st) w := e65_27
theorem f65_28 : iv_V call mc_65 rt 28 (L) (st) w = iv_ast w st iv_isI (iv_kw call mc_65 rt 29 L) := e65_28
theorem f65_29 : iv_V call mc_65 rt 29 (.ref a :: L) (st) w = iv_V call mc_65 rt 30 (.ref a :: L) (.ref a :: st) w := e65_29
theorem f65_30 : iv_V call mc_65 rt 30 (L) (st) w = iv_gf w st 2 6 (iv_kv call mc_65 rt 31 L w) := e65_30
theorem f65_31 : iv_V call mc_65 rt 31 (.ref a :: L) (st) w = iv_V call mc_65 rt 32 (.ref a :: L) (.ref a :: st) w := e65_31
theorem f65_32 : iv_V call mc_65 rt 32 (L) (st) w = iv_gf w st 2 7 (iv_kv call mc_65 rt 33 L w) := e65_32
theorem f65_33 : iv_V call mc_65 rt 33 (v0 :: v1 :: .int x :: L) (st) w = iv_V call mc_65 rt 34 (v0 :: v1 :: .int x :: L) (.int x :: st) w := e65_33
theorem f65_34 : iv_V call mc_65 rt 34 (L) (st) w = iv_ast w st iv_isI (iv_kw call mc_65 rt 35 L) := e65_34
theorem f65_35 : iv_V call mc_65 rt 35 (.ref a :: L) (st) w = iv_V call mc_65 rt 36 (.ref a :: L) (.ref a :: st) w := e65_35
theorem f65_36 : iv_V call mc_65 rt 36 (L) (.ref a :: st) w = iv_V call mc_65 rt 37 (L) (.ref a :: .ref a :: st) w := e65_36
theorem f65_37 : iv_V call mc_65 rt 37 (L) (st) w = iv_gf w st 2 7 (iv_kv call mc_65 rt 38 L w) := e65_37
theorem f65_38 : iv_V call mc_65 rt 38 (L) (st) w = iv_V call mc_65 rt 39 (L) (.int (nI 1) :: st) w := e65_38
theorem f65_39 : iv_V call mc_65 rt 39 (L) (.int y :: .int x :: st) w = iv_V call mc_65 rt 40 (L) (.int (x + y) :: st) w := e65_39
theorem f65_40 : iv_V call mc_65 rt 40 (L) (st) w = iv_pf w st 2 7 (iv_kw call mc_65 rt 41 L) := e65_40
theorem f65_41 : iv_V call mc_65 rt 41 (.ref a :: L) (st) w = iv_V call mc_65 rt 42 (.ref a :: L) (.ref a :: st) w := e65_41
theorem f65_42 : iv_V call mc_65 rt 42 (v0 :: .int x :: L) (st) w = iv_V call mc_65 rt 43 (v0 :: .int x :: L) (.int x :: st) w := e65_42
theorem f65_43 : iv_V call mc_65 rt 43 (v0 :: v1 :: .int x :: L) (st) w = iv_V call mc_65 rt 44 (v0 :: v1 :: .int x :: L) (.int x :: st) w := e65_43
theorem f65_44 {a0 : Nat} {x1 : Int32} {x2 : Int32} : iv_V call mc_65 rt 44 (L) (.int x2 :: .int x1 :: .ref a0 :: []) w = iv_cr (iv_rc w [.ref a0, .int x1, .int x2] 2) (iv_ct call mc_65 rt 45 L [] (call 67 [.ref a0, .int x1, .int x2] w)) := e65_44
theorem f65_45 : iv_V call mc_65 rt 45 (v0 :: v1 :: v2 :: u :: L) (.int x :: st) w = iv_V call mc_65 rt 46 (v0 :: v1 :: v2 :: .int x :: L) (st) w := e65_45
theorem f65_46 : iv_V call mc_65 rt 46 (.ref a :: L) (st) w = iv_V call mc_65 rt 47 (.ref a :: L) (.ref a :: st) w := e65_46
theorem f65_47 : iv_V call mc_65 rt 47 (L) (.ref a :: st) w = iv_V call mc_65 rt 48 (L) (.ref a :: .ref a :: st) w := e65_47
theorem f65_48 : iv_V call mc_65 rt 48 (L) (st) w = iv_gf w st 2 7 (iv_kv call mc_65 rt 49 L w) := e65_48
theorem f65_49 : iv_V call mc_65 rt 49 (L) (st) w = iv_V call mc_65 rt 50 (L) (.int (nI 1) :: st) w := e65_49
theorem f65_50 : iv_V call mc_65 rt 50 (L) (.int y :: .int x :: st) w = iv_V call mc_65 rt 51 (L) (.int (x - y) :: st) w := e65_50
theorem f65_51 : iv_V call mc_65 rt 51 (L) (st) w = iv_pf w st 2 7 (iv_kw call mc_65 rt 52 L) := e65_51
theorem f65_52 : iv_V call mc_65 rt 52 (v0 :: v1 :: v2 :: .int x :: L) (st) w = iv_V call mc_65 rt 53 (v0 :: v1 :: v2 :: .int x :: L) (.int x :: st) w := e65_52
theorem f65_53 : iv_V call mc_65 rt 53 (L) (st) w = iv_ret rt st w := e65_53
theorem f66_0 : iv_V call mc_66 rt 0 (L) (st) w = iv_V call mc_66 rt 1 (L) (.int (nI 0) :: st) w := e66_0
theorem f66_1 : iv_V call mc_66 rt 1 (v0 :: v1 :: v2 :: u :: L) (.int x :: st) w = iv_V call mc_66 rt 2 (v0 :: v1 :: v2 :: .int x :: L) (st) w := e66_1
theorem f66_2 : iv_V call mc_66 rt 2 (v0 :: v1 :: v2 :: .int x :: L) (st) w = iv_V call mc_66 rt 3 (v0 :: v1 :: v2 :: .int x :: L) (.int x :: st) w := e66_2
theorem f66_3 : iv_V call mc_66 rt 3 (.ref a :: L) (st) w = iv_V call mc_66 rt 4 (.ref a :: L) (.ref a :: st) w := e66_3
theorem f66_4 : iv_V call mc_66 rt 4 (L) (st) w = iv_gf w st 2 7 (iv_kv call mc_66 rt 5 L w) := e66_4
theorem f66_5 : iv_V call mc_66 rt 5 (L) (.int y :: .int x :: st) w = if y ≤ x then iv_V call mc_66 rt 22 (L) (st) w else iv_V call mc_66 rt 6 (L) (st) w := e66_5
theorem f66_6 : iv_V call mc_66 rt 6 (.ref a :: L) (st) w = iv_V call mc_66 rt 7 (.ref a :: L) (.ref a :: st) w := e66_6
theorem f66_7 : iv_V call mc_66 rt 7 (L) (st) w = iv_gf w st 2 5 (iv_kv call mc_66 rt 8 L w) := e66_7
theorem f66_8 : iv_V call mc_66 rt 8 (v0 :: v1 :: v2 :: .int x :: L) (st) w = iv_V call mc_66 rt 9 (v0 :: v1 :: v2 :: .int x :: L) (.int x :: st) w := e66_8
theorem f66_9 : iv_V call mc_66 rt 9 (L) (st) w = iv_ald w st iv_isI (iv_kv call mc_66 rt 10 L w) := e66_9
theorem f66_10 : iv_V call mc_66 rt 10 (v0 :: .int x :: L) (st) w = iv_V call mc_66 rt 11 (v0 :: .int x :: L) (.int x :: st) w := e66_10
theorem f66_11 : iv_V call mc_66 rt 11 (L) (.int y :: .int x :: st) w = if ¬ x = y then iv_V call mc_66 rt 20 (L) (st) w else iv_V call mc_66 rt 12 (L) (st) w := e66_11
theorem f66_12 : iv_V call mc_66 rt 12 (.ref a :: L) (st) w = iv_V call mc_66 rt 13 (.ref a :: L) (.ref a :: st) w := e66_12
theorem f66_13 : iv_V call mc_66 rt 13 (L) (st) w = iv_gf w st 2 6 (iv_kv call mc_66 rt 14 L w) := e66_13
theorem f66_14 : iv_V call mc_66 rt 14 (v0 :: v1 :: v2 :: .int x :: L) (st) w = iv_V call mc_66 rt 15 (v0 :: v1 :: v2 :: .int x :: L) (.int x :: st) w := e66_14
theorem f66_15 : iv_V call mc_66 rt 15 (L) (st) w = iv_ald w st iv_isI (iv_kv call mc_66 rt 16 L w) := e66_15
theorem f66_16 : iv_V call mc_66 rt 16 (v0 :: v1 :: .int x :: L) (st) w = iv_V call mc_66 rt 17 (v0 :: v1 :: .int x :: L) (.int x :: st) w := e66_16
theorem f66_17 : iv_V call mc_66 rt 17 (L) (.int y :: .int x :: st) w = if ¬ x = y then iv_V call mc_66 rt 20 (L) (st) w else iv_V call mc_66 rt 18 (L) (st) w := e66_17
theorem f66_18 : iv_V call mc_66 rt 18 (L) (st) w = iv_V call mc_66 rt 19 (L) (.int (nI 1) :: st) w := e66_18
theorem f66_19 : iv_V call mc_66 rt 19 (L) (st) w = iv_ret rt st w := e66_19
theorem f66_20 : iv_V call mc_66 rt 20 (v0 :: v1 :: v2 :: .int x :: L) (st) w = iv_V call mc_66 rt 21 (v0 :: v1 :: v2 :: .int (x + (nI 1)) :: L) (st) w := e66_20
theorem f66_21 : iv_V call mc_66 rt 21 (L) (st) w = iv_V call mc_66 rt 2 (L) (st) w := e66_21
theorem f66_22 : iv_V call mc_66 rt 22 (L) (st) w = iv_V call mc_66 rt 23 (L) (.int (nI 0) :: st) w := e66_22
theorem f66_23 : iv_V call mc_66 rt 23 (L) (st) w = iv_ret rt st w := e66_23
theorem f67_0 : iv_V call mc_67 rt 0 (.ref a :: L) (st) w = iv_V call mc_67 rt 1 (.ref a :: L) (.ref a :: st) w := e67_0
theorem f67_1 : iv_V call mc_67 rt 1 (L) (st) w = iv_gf w st 2 0 (iv_kv call mc_67 rt 2 L w) := e67_1
theorem f67_2 : iv_V call mc_67 rt 2 (L) (st) w = iv_gf w st 10 2 (iv_kv call mc_67 rt 3 L w) := e67_2
theorem f67_3 : iv_V call mc_67 rt 3 (.ref a :: L) (st) w = iv_V call mc_67 rt 4 (.ref a :: L) (.ref a :: st) w := e67_3
theorem f67_4 : iv_V call mc_67 rt 4 (L) (st) w = iv_gf w st 2 3 (iv_kv call mc_67 rt 5 L w) := e67_4
theorem f67_5 : iv_V call mc_67 rt 5 (L) (st) w = iv_gf w st 11 1 (iv_kv call mc_67 rt 6 L w) := e67_5
theorem f67_6 : iv_V call mc_67 rt 6 (v0 :: .int x :: L) (st) w = iv_V call mc_67 rt 7 (v0 :: .int x :: L) (.int x :: st) w := e67_6
theorem f67_7 : iv_V call mc_67 rt 7 (L) (st) w = iv_ald w st iv_isI (iv_kv call mc_67 rt 8 L w) := e67_7
theorem f67_8 : iv_V call mc_67 rt 8 (L) (st) w = iv_ald w st iv_isA (iv_kv call mc_67 rt 9 L w) := e67_8
theorem f67_9 : iv_V call mc_67 rt 9 (v0 :: v1 :: v2 :: u :: L) (.ref a :: st) w = iv_V call mc_67 rt 10 (v0 :: v1 :: v2 :: .ref a :: L) (st) w := e67_9
theorem f67_10 : iv_V call mc_67 rt 10 (v0 :: v1 :: .int x :: L) (st) w = iv_V call mc_67 rt 11 (v0 :: v1 :: .int x :: L) (.int x :: st) w := e67_10
theorem f67_11 : iv_V call mc_67 rt 11 (L) (.int x :: st) w = if ¬ x = nI 0 then iv_V call mc_67 rt 15 (L) (st) w else iv_V call mc_67 rt 12 (L) (st) w := e67_11
theorem f67_12 : iv_V call mc_67 rt 12 (v0 :: v1 :: v2 :: .ref a :: L) (st) w = iv_V call mc_67 rt 13 (v0 :: v1 :: v2 :: .ref a :: L) (.ref a :: st) w := e67_12
theorem f67_13 : iv_V call mc_67 rt 13 (L) (st) w = iv_gf w st 7 1 (iv_kv call mc_67 rt 14 L w) := e67_13
theorem f67_14 : iv_V call mc_67 rt 14 (L) (.int x :: st) w = if ¬ x = nI 0 then iv_V call mc_67 rt 20 (L) (st) w else iv_V call mc_67 rt 15 (L) (st) w := e67_14
theorem f67_15 : iv_V call mc_67 rt 15 (.ref a :: L) (st) w = iv_V call mc_67 rt 16 (.ref a :: L) (.ref a :: st) w := e67_15
theorem f67_16 : iv_V call mc_67 rt 16 (v0 :: .int x :: L) (st) w = iv_V call mc_67 rt 17 (v0 :: .int x :: L) (.int x :: st) w := e67_16
theorem f67_17 : iv_V call mc_67 rt 17 (v0 :: v1 :: .int x :: L) (st) w = iv_V call mc_67 rt 18 (v0 :: v1 :: .int x :: L) (.int x :: st) w := e67_17
theorem f67_18 {a0 : Nat} {x1 : Int32} {x2 : Int32} : iv_V call mc_67 rt 18 (L) (.int x2 :: .int x1 :: .ref a0 :: []) w = iv_cr (iv_rc w [.ref a0, .int x1, .int x2] 2) (iv_ct call mc_67 rt 19 L [] (call 69 [.ref a0, .int x1, .int x2] w)) := e67_18
theorem f67_19 : iv_V call mc_67 rt 19 (L) (st) w = iv_ret rt st w := e67_19
theorem f67_20 : iv_V call mc_67 rt 20 (.ref a :: L) (st) w = iv_V call mc_67 rt 21 (.ref a :: L) (.ref a :: st) w := e67_20
theorem f67_21 : iv_V call mc_67 rt 21 (v0 :: v1 :: v2 :: .ref a :: L) (st) w = iv_V call mc_67 rt 22 (v0 :: v1 :: v2 :: .ref a :: L) (.ref a :: st) w := e67_21
theorem f67_22 {a0 : Nat} {a1 : Nat} : iv_V call mc_67 rt 22 (L) (.ref a1 :: .ref a0 :: []) w = iv_cr (iv_rc w [.ref a0, .ref a1] 2) (iv_ct call mc_67 rt 23 L [] (call 68 [.ref a0, .ref a1] w)) := e67_22
theorem f67_23 : iv_V call mc_67 rt 23 (L) (.int x :: st) w = if ¬ x = nI 0 then iv_V call mc_67 rt 26 (L) (st) w else iv_V call mc_67 rt 24 (L) (st) w := e67_23
theorem f67_24 : iv_V call mc_67 rt 24 (L) (st) w = iv_V call mc_67 rt 25 (L) (.int (-3) :: st) w := e67_24
theorem f67_25 : iv_V call mc_67 rt 25 (L) (st) w = iv_ret rt st w := e67_25
theorem f67_26 : iv_V call mc_67 rt 26 (.ref a :: L) (st) w = iv_V call mc_67 rt 27 (.ref a :: L) (.ref a :: st) w := e67_26
theorem f67_27 : iv_V call mc_67 rt 27 (L) (st) w = iv_gf w st 2 4 (iv_kv call mc_67 rt 28 L w) := e67_27
theorem f67_28 : iv_V call mc_67 rt 28 (L) (st) w = iv_gf w st 6 0 (iv_kv call mc_67 rt 29 L w) := e67_28
theorem f67_29 : iv_V call mc_67 rt 29 (v0 :: v1 :: v2 :: v3 :: u :: L) (.int x :: st) w = iv_V call mc_67 rt 30 (v0 :: v1 :: v2 :: v3 :: .int x :: L) (st) w := e67_29
theorem f67_30 : iv_V call mc_67 rt 30 (L) (st) w = iv_V call mc_67 rt 31 (L) (.int (nI 0) :: st) w := e67_30
theorem f67_31 : iv_V call mc_67 rt 31 (v0 :: v1 :: v2 :: v3 :: v4 :: u :: L) (.int x :: st) w = iv_V call mc_67 rt 32 (v0 :: v1 :: v2 :: v3 :: v4 :: .int x :: L) (st) w := e67_31
theorem f67_32 : iv_V call mc_67 rt 32 (L) (st) w = iv_V call mc_67 rt 33 (L) (.int (nI 0) :: st) w := e67_32
theorem f67_33 : iv_V call mc_67 rt 33 (v0 :: v1 :: v2 :: v3 :: v4 :: v5 :: u :: L) (.int x :: st) w = iv_V call mc_67 rt 34 (v0 :: v1 :: v2 :: v3 :: v4 :: v5 :: .int x :: L) (st) w := e67_33
theorem f67_34 : iv_V call mc_67 rt 34 (v0 :: v1 :: v2 :: v3 :: v4 :: v5 :: .int x :: L) (st) w = iv_V call mc_67 rt 35 (v0 :: v1 :: v2 :: v3 :: v4 :: v5 :: .int x :: L) (.int x :: st) w := e67_34
theorem f67_35 : iv_V call mc_67 rt 35 (v0 :: v1 :: v2 :: .ref a :: L) (st) w = iv_V call mc_67 rt 36 (v0 :: v1 :: v2 :: .ref a :: L) (.ref a :: st) w := e67_35
theorem f67_36 : iv_V call mc_67 rt 36 (L) (st) w = iv_gf w st 7 1 (iv_kv call mc_67 rt 37 L w) := e67_36
theorem f67_37 : iv_V call mc_67 rt 37 (L) (.int y :: .int x :: st) w = if y ≤ x then iv_V call mc_67 rt 62 (L) (st) w else iv_V call mc_67 rt 38 (L) (st) w := e67_37
theorem f67_38 : iv_V call mc_67 rt 38 (v0 :: v1 :: v2 :: v3 :: v4 :: .int x :: L) (st) w = iv_V call mc_67 rt 39 (v0 :: v1 :: v2 :: v3 :: v4 :: .int x :: L) (.int x :: st) w := e67_38
theorem f67_39 : iv_V call mc_67 rt 39 (L) (.int x :: st) w = if ¬ x = nI 0 then iv_V call mc_67 rt 62 (L) (st) w else iv_V call mc_67 rt 40 (L) (st) w := e67_39
theorem f67_40 : iv_V call mc_67 rt 40 (.ref a :: L) (st) w = iv_V call mc_67 rt 41 (.ref a :: L) (.ref a :: st) w := e67_40
theorem f67_41 : iv_V call mc_67 rt 41 (L) (st) w = iv_gf w st 2 4 (iv_kv call mc_67 rt 42 L w) := e67_41
theorem f67_42 : iv_V call mc_67 rt 42 (L) (st) w = iv_gf w st 6 0 (iv_kv call mc_67 rt 43 L w) := e67_42
theorem f67_43 : iv_V call mc_67 rt 43 (v0 :: v1 :: v2 :: v3 :: .int x :: L) (st) w = iv_V call mc_67 rt 44 (v0 :: v1 :: v2 :: v3 :: .int x :: L) (.int x :: st) w := e67_43
theorem f67_44 : iv_V call mc_67 rt 44 (L) (.int y :: .int x :: st) w = if ¬ x = y then iv_V call mc_67 rt 62 (L) (st) w else iv_V call mc_67 rt 45 (L) (st) w := e67_44
theorem f67_45 : iv_V call mc_67 rt 45 (v0 :: v1 :: v2 :: .ref a :: L) (st) w = iv_V call mc_67 rt 46 (v0 :: v1 :: v2 :: .ref a :: L) (.ref a :: st) w := e67_45
theorem f67_46 : iv_V call mc_67 rt 46 (L) (st) w = iv_gf w st 7 0 (iv_kv call mc_67 rt 47 L w) := e67_46
theorem f67_47 : iv_V call mc_67 rt 47 (v0 :: v1 :: v2 :: v3 :: v4 :: v5 :: .int x :: L) (st) w = iv_V call mc_67 rt 48 (v0 :: v1 :: v2 :: v3 :: v4 :: v5 :: .int x :: L) (.int x :: st) w := e67_47
theorem f67_48 : iv_V call mc_67 rt 48 (L) (st) w = iv_ald w st iv_isI (iv_kv call mc_67 rt 49 L w) := e67_48
theorem f67_49 : iv_V call mc_67 rt 49 (v0 :: v1 :: v2 :: v3 :: v4 :: v5 :: v6 :: u :: L) (.int x :: st) w = iv_V call mc_67 rt 50 (v0 :: v1 :: v2 :: v3 :: v4 :: v5 :: v6 :: .int x :: L) (st) w := e67_49
theorem f67_50 : iv_V call mc_67 rt 50 (.ref a :: L) (st) w = iv_V call mc_67 rt 51 (.ref a :: L) (.ref a :: st) w := e67_50
theorem f67_51 : iv_V call mc_67 rt 51 (v0 :: .int x :: L) (st) w = iv_V call mc_67 rt 52 (v0 :: .int x :: L) (.int x :: st) w := e67_51
theorem f67_52 : iv_V call mc_67 rt 52 (v0 :: v1 :: v2 :: v3 :: v4 :: v5 :: v6 :: .int x :: L) (st) w = iv_V call mc_67 rt 53 (v0 :: v1 :: v2 :: v3 :: v4 :: v5 :: v6 :: .int x :: L) (.int x :: st) w := e67_52
theorem f67_53 : iv_V call mc_67 rt 53 (L) (st) w = iv_V call mc_67 rt 54 (L) (.int (-1) :: st) w := e67_53
theorem f67_54 : iv_V call mc_67 rt 54 (L) (.int y :: .int x :: st) w = if ¬ x = y then iv_V call mc_67 rt 57 (L) (st) w else iv_V call mc_67 rt 55 (L) (st) w := e67_54
theorem f67_55 : iv_V call mc_67 rt 55 (L) (st) w = iv_V call mc_67 rt 56 (L) (.int (nI 0) :: st) w := e67_55
theorem f67_56 : iv_V call mc_67 rt 56 (L) (st) w = iv_V call mc_67 rt 58 (L) (st) w := e67_56
theorem f67_57 : iv_V call mc_67 rt 57 (v0 :: v1 :: v2 :: v3 :: v4 :: v5 :: v6 :: .int x :: L) (st) w = iv_V call mc_67 rt 58 (v0 :: v1 :: v2 :: v3 :: v4 :: v5 :: v6 :: .int x :: L) (.int x :: st) w := e67_57
theorem f67_58 {a0 : Nat} {x1 : Int32} {x2 : Int32} : iv_V call mc_67 rt 58 (L) (.int x2 :: .int x1 :: .ref a0 :: []) w = iv_cr (iv_rc w [.ref a0, .int x1, .int x2] 2) (iv_ct call mc_67 rt 59 L [] (call 69 [.ref a0, .int x1, .int x2] w)) := e67_58
theorem f67_59 : iv_V call mc_67 rt 59 (v0 :: v1 :: v2 :: v3 :: v4 :: u :: L) (.int x :: st) w = iv_V call mc_67 rt 60 (v0 :: v1 :: v2 :: v3 :: v4 :: .int x :: L) (st) w := e67_59
theorem f67_60 : iv_V call mc_67 rt 60 (v0 :: v1 :: v2 :: v3 :: v4 :: v5 :: .int x :: L) (st) w = iv_V call mc_67 rt 61 (v0 :: v1 :: v2 :: v3 :: v4 :: v5 :: .int (x + (nI 1)) :: L) (st) w := e67_60
theorem f67_61 : iv_V call mc_67 rt 61 (L) (st) w = iv_V call mc_67 rt 34 (L) (st) w := e67_61
theorem f67_62 : iv_V call mc_67 rt 62 (v0 :: v1 :: v2 :: v3 :: v4 :: .int x :: L) (st) w = iv_V call mc_67 rt 63 (v0 :: v1 :: v2 :: v3 :: v4 :: .int x :: L) (.int x :: st) w := e67_62
theorem f67_63 : iv_V call mc_67 rt 63 (L) (st) w = iv_ret rt st w := e67_63
theorem f68_0 : iv_V call mc_68 rt 0 (L) (st) w = iv_V call mc_68 rt 1 (L) (.int (nI 0) :: st) w := e68_0
theorem f68_1 : iv_V call mc_68 rt 1 (v0 :: v1 :: u :: L) (.int x :: st) w = iv_V call mc_68 rt 2 (v0 :: v1 :: .int x :: L) (st) w := e68_1
theorem f68_2 : iv_V call mc_68 rt 2 (L) (st) w = iv_V call mc_68 rt 3 (L) (.int (nI 0) :: st) w := e68_2
theorem f68_3 : iv_V call mc_68 rt 3 (v0 :: v1 :: v2 :: u :: L) (.int x :: st) w = iv_V call mc_68 rt 4 (v0 :: v1 :: v2 :: .int x :: L) (st) w := e68_3
theorem f68_4 : iv_V call mc_68 rt 4 (v0 :: v1 :: v2 :: .int x :: L) (st) w = iv_V call mc_68 rt 5 (v0 :: v1 :: v2 :: .int x :: L) (.int x :: st) w := e68_4
theorem f68_5 : iv_V call mc_68 rt 5 (v0 :: .ref a :: L) (st) w = iv_V call mc_68 rt 6 (v0 :: .ref a :: L) (.ref a :: st) w := e68_5
theorem f68_6 : iv_V call mc_68 rt 6 (L) (st) w = iv_gf w st 7 1 (iv_kv call mc_68 rt 7 L w) := e68_6
theorem f68_7 : iv_V call mc_68 rt 7 (L) (.int y :: .int x :: st) w = if y ≤ x then iv_V call mc_68 rt 24 (L) (st) w else iv_V call mc_68 rt 8 (L) (st) w := e68_7
theorem f68_8 : iv_V call mc_68 rt 8 (v0 :: .ref a :: L) (st) w = iv_V call mc_68 rt 9 (v0 :: .ref a :: L) (.ref a :: st) w := e68_8
theorem f68_9 : iv_V call mc_68 rt 9 (L) (st) w = iv_gf w st 7 0 (iv_kv call mc_68 rt 10 L w) := e68_9
theorem f68_10 : iv_V call mc_68 rt 10 (v0 :: v1 :: v2 :: .int x :: L) (st) w = iv_V call mc_68 rt 11 (v0 :: v1 :: v2 :: .int x :: L) (.int x :: st) w := e68_10
theorem f68_11 : iv_V call mc_68 rt 11 (L) (st) w = iv_ald w st iv_isI (iv_kv call mc_68 rt 12 L w) := e68_11
theorem f68_12 : iv_V call mc_68 rt 12 (L) (.int x :: st) w = if ¬ x = nI 0 then iv_V call mc_68 rt 15 (L) (st) w else iv_V call mc_68 rt 13 (L) (st) w := e68_12
theorem f68_13 : iv_V call mc_68 rt 13 (L) (st) w = iv_V call mc_68 rt 14 (L) (.int (nI 0) :: st) w := e68_13
theorem f68_14 : iv_V call mc_68 rt 14 (L) (st) w = iv_ret rt st w := e68_14
theorem f68_15 : iv_V call mc_68 rt 15 (v0 :: .ref a :: L) (st) w = iv_V call mc_68 rt 16 (v0 :: .ref a :: L) (.ref a :: st) w := e68_15
theorem f68_16 : iv_V call mc_68 rt 16 (L) (st) w = iv_gf w st 7 0 (iv_kv call mc_68 rt 17 L w) := e68_16
theorem f68_17 : iv_V call mc_68 rt 17 (v0 :: v1 :: v2 :: .int x :: L) (st) w = iv_V call mc_68 rt 18 (v0 :: v1 :: v2 :: .int x :: L) (.int x :: st) w := e68_17
theorem f68_18 : iv_V call mc_68 rt 18 (L) (st) w = iv_ald w st iv_isI (iv_kv call mc_68 rt 19 L w) := e68_18
theorem f68_19 : iv_V call mc_68 rt 19 (L) (st) w = iv_V call mc_68 rt 20 (L) (.int (-1) :: st) w := e68_19
theorem f68_20 : iv_V call mc_68 rt 20 (L) (.int y :: .int x :: st) w = if ¬ x = y then iv_V call mc_68 rt 22 (L) (st) w else iv_V call mc_68 rt 21 (L) (st) w := e68_20
theorem f68_21 : iv_V call mc_68 rt 21 (v0 :: v1 :: .int x :: L) (st) w = iv_V call mc_68 rt 22 (v0 :: v1 :: .int (x + (nI 1)) :: L) (st) w := e68_21
theorem f68_22 : iv_V call mc_68 rt 22 (v0 :: v1 :: v2 :: .int x :: L) (st) w = iv_V call mc_68 rt 23 (v0 :: v1 :: v2 :: .int (x + (nI 1)) :: L) (st) w := e68_22
theorem f68_23 : iv_V call mc_68 rt 23 (L) (st) w = iv_V call mc_68 rt 4 (L) (st) w := e68_23
theorem f68_24 : iv_V call mc_68 rt 24 (v0 :: v1 :: .int x :: L) (st) w = iv_V call mc_68 rt 25 (v0 :: v1 :: .int x :: L) (.int x :: st) w := e68_24
theorem f68_25 : iv_V call mc_68 rt 25 (L) (st) w = iv_V call mc_68 rt 26 (L) (.int (nI 1) :: st) w := e68_25
theorem f68_26 : iv_V call mc_68 rt 26 (L) (.int y :: .int x :: st) w = if ¬ x = y then iv_V call mc_68 rt 29 (L) (st) w else iv_V call mc_68 rt 27 (L) (st) w := e68_26
theorem f68_27 : iv_V call mc_68 rt 27 (L) (st) w = iv_V call mc_68 rt 28 (L) (.int (nI 1) :: st) w := e68_27
theorem f68_28 : iv_V call mc_68 rt 28 (L) (st) w = iv_V call mc_68 rt 30 (L) (st) w := e68_28
theorem f68_29 : iv_V call mc_68 rt 29 (L) (st) w = iv_V call mc_68 rt 30 (L) (.int (nI 0) :: st) w := e68_29
theorem f68_30 : iv_V call mc_68 rt 30 (L) (st) w = iv_ret rt st w := e68_30
theorem f69_0 : iv_V call mc_69 rt 0 (.ref a :: L) (st) w = iv_V call mc_69 rt 1 (.ref a :: L) (.ref a :: st) w := e69_0
theorem f69_1 : iv_V call mc_69 rt 1 (L) (st) w = iv_gf w st 2 0 (iv_kv call mc_69 rt 2 L w) := e69_1
theorem f69_2 : iv_V call mc_69 rt 2 (.ref a :: L) (st) w = iv_V call mc_69 rt 3 (.ref a :: L) (.ref a :: st) w := e69_2
theorem f69_3 : iv_V call mc_69 rt 3 (L) (st) w = iv_gf w st 2 3 (iv_kv call mc_69 rt 4 L w) := e69_3
theorem f69_4 : iv_V call mc_69 rt 4 (L) (st) w = iv_gf w st 11 1 (iv_kv call mc_69 rt 5 L w) := e69_4
theorem f69_5 : iv_V call mc_69 rt 5 (v0 :: .int x :: L) (st) w = iv_V call mc_69 rt 6 (v0 :: .int x :: L) (.int x :: st) w := e69_5
theorem f69_6 : iv_V call mc_69 rt 6 (L) (st) w = iv_ald w st iv_isI (iv_kv call mc_69 rt 7 L w) := e69_6
theorem f69_7 {a0 : Nat} {x1 : Int32} : iv_V call mc_69 rt 7 (L) (.int x1 :: .ref a0 :: []) w = iv_cr (iv_rc w [.ref a0, .int x1] 10) (iv_ct call mc_69 rt 8 L [] (call 107 [.ref a0, .int x1] w)) := e69_7
theorem f69_8 : iv_V call mc_69 rt 8 (v0 :: v1 :: v2 :: u :: L) (.int x :: st) w = iv_V call mc_69 rt 9 (v0 :: v1 :: v2 :: .int x :: L) (st) w := e69_8
theorem f69_9 : iv_V call mc_69 rt 9 (.ref a :: L) (st) w = iv_V call mc_69 rt 10 (.ref a :: L) (.ref a :: st) w := e69_9
theorem f69_10 : iv_V call mc_69 rt 10 (v0 :: .int x :: L) (st) w = iv_V call mc_69 rt 11 (v0 :: .int x :: L) (.int x :: st) w := e69_10
theorem f69_11 : iv_V call mc_69 rt 11 (v0 :: v1 :: v2 :: .int x :: L) (st) w = iv_V call mc_69 rt 12 (v0 :: v1 :: v2 :: .int x :: L) (.int x :: st) w := e69_11
theorem f69_12 : iv_V call mc_69 rt 12 (v0 :: v1 :: .int x :: L) (st) w = iv_V call mc_69 rt 13 (v0 :: v1 :: .int x :: L) (.int x :: st) w := e69_12
theorem f69_13 {a0 : Nat} {x1 : Int32} {x2 : Int32} {x3 : Int32} : iv_V call mc_69 rt 13 (L) (.int x3 :: .int x2 :: .int x1 :: .ref a0 :: []) w = iv_cr (iv_rc w [.ref a0, .int x1, .int x2, .int x3] 2) (iv_ct call mc_69 rt 14 L [] (call 72 [.ref a0, .int x1, .int x2, .int x3] w)) := e69_13
theorem f69_14 : iv_V call mc_69 rt 14 (v0 :: v1 :: v2 :: v3 :: u :: L) (.int x :: st) w = iv_V call mc_69 rt 15 (v0 :: v1 :: v2 :: v3 :: .int x :: L) (st) w := e69_14
theorem f69_15 : iv_V call mc_69 rt 15 (L) (st) w = iv_V call mc_69 rt 16 (L) (.int (nI 0) :: st) w := e69_15
theorem f69_16 : iv_V call mc_69 rt 16 (v0 :: v1 :: v2 :: v3 :: v4 :: u :: L) (.int x :: st) w = iv_V call mc_69 rt 17 (v0 :: v1 :: v2 :: v3 :: v4 :: .int x :: L) (st) w := e69_16
theorem f69_17 : iv_V call mc_69 rt 17 (v0 :: v1 :: v2 :: v3 :: v4 :: .int x :: L) (st) w = iv_V call mc_69 rt 18 (v0 :: v1 :: v2 :: v3 :: v4 :: .int x :: L) (.int x :: st) w := e69_17
theorem f69_18 : iv_V call mc_69 rt 18 (.ref a :: L) (st) w = iv_V call mc_69 rt 19 (.ref a :: L) (.ref a :: st) w := e69_18
theorem f69_19 : iv_V call mc_69 rt 19 (L) (st) w = iv_gf w st 2 0 (iv_kv call mc_69 rt 20 L w) := e69_19
theorem f69_20 : iv_V call mc_69 rt 20 (L) (st) w = iv_gf w st 10 3 (iv_kv call mc_69 rt 21 L w) := e69_20
theorem f69_21 : iv_V call mc_69 rt 21 (L) (.int y :: .int x :: st) w = if y ≤ x then iv_V call mc_69 rt 50 (L) (st) w else iv_V call mc_69 rt 22 (L) (st) w := e69_21
theorem f69_22 : iv_V call mc_69 rt 22 (v0 :: v1 :: v2 :: v3 :: .int x :: L) (st) w = iv_V call mc_69 rt 23 (v0 :: v1 :: v2 :: v3 :: .int x :: L) (.int x :: st) w := e69_22
theorem f69_23 : iv_V call mc_69 rt 23 (L) (.int x :: st) w = if ¬ x = nI 0 then iv_V call mc_69 rt 50 (L) (st) w else iv_V call mc_69 rt 24 (L) (st) w := e69_23
theorem f69_24 : iv_V call mc_69 rt 24 (.ref a :: L) (st) w = iv_V call mc_69 rt 25 (.ref a :: L) (.ref a :: st) w := e69_24
theorem f69_25 : iv_V call mc_69 rt 25 (L) (st) w = iv_gf w st 2 0 (iv_kv call mc_69 rt 26 L w) := e69_25
theorem f69_26 : iv_V call mc_69 rt 26 (L) (st) w = iv_gf w st 10 6 (iv_kv call mc_69 rt 27 L w) := e69_26
theorem f69_27 : iv_V call mc_69 rt 27 (v0 :: v1 :: v2 :: v3 :: v4 :: .int x :: L) (st) w = iv_V call mc_69 rt 28 (v0 :: v1 :: v2 :: v3 :: v4 :: .int x :: L) (.int x :: st) w := e69_27
theorem f69_28 : iv_V call mc_69 rt 28 (L) (st) w = iv_ald w st iv_isZ (iv_kv call mc_69 rt 29 L w) := e69_28
theorem f69_29 : iv_V call mc_69 rt 29 (L) (.int x :: st) w = if x = nI 0 then iv_V call mc_69 rt 48 (L) (st) w else iv_V call mc_69 rt 30 (L) (st) w := e69_29
theorem f69_30 : iv_V call mc_69 rt 30 (v0 :: v1 :: v2 :: .int x :: L) (st) w = iv_V call mc_69 rt 31 (v0 :: v1 :: v2 :: .int x :: L) (.int x :: st) w := e69_30
theorem f69_31 : iv_V call mc_69 rt 31 (v0 :: v1 :: v2 :: v3 :: v4 :: .int x :: L) (st) w = iv_V call mc_69 rt 32 (v0 :: v1 :: v2 :: v3 :: v4 :: .int x :: L) (.int x :: st) w := e69_31
theorem f69_32 : iv_V call mc_69 rt 32 (L) (.int y :: .int x :: st) w = iv_V call mc_69 rt 33 (L) (.int (x >>> (y &&& 31)) :: st) w := e69_32
theorem f69_33 : iv_V call mc_69 rt 33 (L) (st) w = iv_V call mc_69 rt 34 (L) (.int (nI 1) :: st) w := e69_33
theorem f69_34 : iv_V call mc_69 rt 34 (L) (.int y :: .int x :: st) w = iv_V call mc_69 rt 35 (L) (.int (x &&& y) :: st) w := e69_34
theorem f69_35 : iv_V call mc_69 rt 35 (L) (.int x :: st) w = if x = nI 0 then iv_V call mc_69 rt 48 (L) (st) w else iv_V call mc_69 rt 36 (L) (st) w := e69_35
theorem f69_36 : iv_V call mc_69 rt 36 (.ref a :: L) (st) w = iv_V call mc_69 rt 37 (.ref a :: L) (.ref a :: st) w := e69_36
theorem f69_37 : iv_V call mc_69 rt 37 (v0 :: .int x :: L) (st) w = iv_V call mc_69 rt 38 (v0 :: .int x :: L) (.int x :: st) w := e69_37
theorem f69_38 : iv_V call mc_69 rt 38 (v0 :: v1 :: v2 :: v3 :: v4 :: .int x :: L) (st) w = iv_V call mc_69 rt 39 (v0 :: v1 :: v2 :: v3 :: v4 :: .int x :: L) (.int x :: st) w := e69_38
theorem f69_39 : iv_V call mc_69 rt 39 (.ref a :: L) (st) w = iv_V call mc_69 rt 40 (.ref a :: L) (.ref a :: st) w := e69_39
theorem f69_40 : iv_V call mc_69 rt 40 (L) (st) w = iv_gf w st 2 0 (iv_kv call mc_69 rt 41 L w) := e69_40
theorem f69_41 : iv_V call mc_69 rt 41 (L) (st) w = iv_gf w st 10 7 (iv_kv call mc_69 rt 42 L w) := e69_41
theorem f69_42 : iv_V call mc_69 rt 42 (v0 :: v1 :: v2 :: v3 :: v4 :: .int x :: L) (st) w = iv_V call mc_69 rt 43 (v0 :: v1 :: v2 :: v3 :: v4 :: .int x :: L) (.int x :: st) w := e69_42
theorem f69_43 : iv_V call mc_69 rt 43 (L) (st) w = iv_ald w st iv_isA (iv_kv call mc_69 rt 44 L w) := e69_43
theorem f69_44 : iv_V call mc_69 rt 44 (v0 :: v1 :: .int x :: L) (st) w = iv_V call mc_69 rt 45 (v0 :: v1 :: .int x :: L) (.int x :: st) w := e69_44
theorem f69_45 : iv_V call mc_69 rt 45 (L) (st) w = iv_ald w st iv_isI (iv_kv call mc_69 rt 46 L w) := e69_45
theorem f69_46 {a0 : Nat} {x1 : Int32} {x2 : Int32} {x3 : Int32} : iv_V call mc_69 rt 46 (L) (.int x3 :: .int x2 :: .int x1 :: .ref a0 :: []) w = iv_cr (iv_rc w [.ref a0, .int x1, .int x2, .int x3] 2) (iv_ct call mc_69 rt 47 L [] (call 70 [.ref a0, .int x1, .int x2, .int x3] w)) := e69_46
theorem f69_47 : iv_V call mc_69 rt 47 (v0 :: v1 :: v2 :: v3 :: u :: L) (.int x :: st) w = iv_V call mc_69 rt 48 (v0 :: v1 :: v2 :: v3 :: .int x :: L) (st) w := e69_47
theorem f69_48 : iv_V call mc_69 rt 48 (v0 :: v1 :: v2 :: v3 :: v4 :: .int x :: L) (st) w = iv_V call mc_69 rt 49 (v0 :: v1 :: v2 :: v3 :: v4 :: .int (x + (nI 1)) :: L) (st) w := e69_48
theorem f69_49 : iv_V call mc_69 rt 49 (L) (st) w = iv_V call mc_69 rt 17 (L) (st) w := e69_49
theorem f69_50 : iv_V call mc_69 rt 50 (v0 :: v1 :: v2 :: v3 :: .int x :: L) (st) w = iv_V call mc_69 rt 51 (v0 :: v1 :: v2 :: v3 :: .int x :: L) (.int x :: st) w := e69_50
theorem f69_51 : iv_V call mc_69 rt 51 (L) (st) w = iv_ret rt st w := e69_51
theorem f70_0 : iv_V call mc_70 rt 0 (.ref a :: L) (st) w = iv_V call mc_70 rt 1 (.ref a :: L) (.ref a :: st) w := e70_0
theorem f70_1 : iv_V call mc_70 rt 1 (L) (st) w = iv_gf w st 2 3 (iv_kv call mc_70 rt 2 L w) := e70_1
theorem f70_2 : iv_V call mc_70 rt 2 (L) (st) w = iv_gf w st 11 2 (iv_kv call mc_70 rt 3 L w) := e70_2
theorem f70_3 : iv_V call mc_70 rt 3 (v0 :: .int x :: L) (st) w = iv_V call mc_70 rt 4 (v0 :: .int x :: L) (.int x :: st) w := e70_3
theorem f70_4 : iv_V call mc_70 rt 4 (L) (st) w = iv_ald w st iv_isA (iv_kv call mc_70 rt 5 L w) := e70_4
theorem f70_5 : iv_V call mc_70 rt 5 (v0 :: v1 :: .int x :: L) (st) w = iv_V call mc_70 rt 6 (v0 :: v1 :: .int x :: L) (.int x :: st) w := e70_5
theorem f70_6 : iv_V call mc_70 rt 6 (L) (st) w = iv_ald w st iv_isI (iv_kv call mc_70 rt 7 L w) := e70_6
theorem f70_7 : iv_V call mc_70 rt 7 (v0 :: v1 :: v2 :: v3 :: u :: L) (.int x :: st) w = iv_V call mc_70 rt 8 (v0 :: v1 :: v2 :: v3 :: .int x :: L) (st) w := e70_7
theorem f70_8 : iv_V call mc_70 rt 8 (.ref a :: L) (st) w = iv_V call mc_70 rt 9 (.ref a :: L) (.ref a :: st) w := e70_8
theorem f70_9 : iv_V call mc_70 rt 9 (L) (st) w = iv_gf w st 2 0 (iv_kv call mc_70 rt 10 L w) := e70_9
theorem f70_10 : iv_V call mc_70 rt 10 (v0 :: v1 :: .int x :: L) (st) w = iv_V call mc_70 rt 11 (v0 :: v1 :: .int x :: L) (.int x :: st) w := e70_10
theorem f70_11 {a0 : Nat} {x1 : Int32} : iv_V call mc_70 rt 11 (L) (.int x1 :: .ref a0 :: []) w = iv_cr (iv_rc w [.ref a0, .int x1] 10) (iv_ct call mc_70 rt 12 L [] (call 104 [.ref a0, .int x1] w)) := e70_11
theorem f70_12 : iv_V call mc_70 rt 12 (L) (.int x :: st) w = if ¬ x = nI 0 then iv_V call mc_70 rt 25 (L) (st) w else iv_V call mc_70 rt 13 (L) (st) w := e70_12
theorem f70_13 : iv_V call mc_70 rt 13 (v0 :: v1 :: v2 :: v3 :: .int x :: L) (st) w = iv_V call mc_70 rt 14 (v0 :: v1 :: v2 :: v3 :: .int x :: L) (.int x :: st) w := e70_13
theorem f70_14 : iv_V call mc_70 rt 14 (L) (st) w = iv_V call mc_70 rt 15 (L) (.int (-1) :: st) w := e70_14
theorem f70_15 : iv_V call mc_70 rt 15 (L) (.int y :: .int x :: st) w = if ¬ x = y then iv_V call mc_70 rt 18 (L) (st) w else iv_V call mc_70 rt 16 (L) (st) w := e70_15
theorem f70_16 : iv_V call mc_70 rt 16 (L) (st) w = iv_V call mc_70 rt 17 (L) (.int (nI 0) :: st) w := e70_16
theorem f70_17 : iv_V call mc_70 rt 17 (L) (st) w = iv_V call mc_70 rt 24 (L) (st) w := e70_17
theorem f70_18 : iv_V call mc_70 rt 18 (.ref a :: L) (st) w = iv_V call mc_70 rt 19 (.ref a :: L) (.ref a :: st) w := e70_18
theorem f70_19 : iv_V call mc_70 rt 19 (v0 :: v1 :: .int x :: L) (st) w = iv_V call mc_70 rt 20 (v0 :: v1 :: .int x :: L) (.int x :: st) w := e70_19
theorem f70_20 : iv_V call mc_70 rt 20 (L) (st) w = iv_V call mc_70 rt 21 (L) (.int (-1) :: st) w := e70_20
theorem f70_21 : iv_V call mc_70 rt 21 (v0 :: v1 :: v2 :: v3 :: .int x :: L) (st) w = iv_V call mc_70 rt 22 (v0 :: v1 :: v2 :: v3 :: .int x :: L) (.int x :: st) w := e70_21
theorem f70_22 : iv_V call mc_70 rt 22 (v0 :: v1 :: v2 :: .int x :: L) (st) w = iv_V call mc_70 rt 23 (v0 :: v1 :: v2 :: .int x :: L) (.int x :: st) w := e70_22
theorem f70_23 {a0 : Nat} {x1 : Int32} {x2 : Int32} {x3 : Int32} {x4 : Int32} : iv_V call mc_70 rt 23 (L) (.int x4 :: .int x3 :: .int x2 :: .int x1 :: .ref a0 :: []) w = iv_cr (iv_rc w [.ref a0, .int x1, .int x2, .int x3, .int x4] 2) (iv_ct call mc_70 rt 24 L [] (call 71 [.ref a0, .int x1, .int x2, .int x3, .int x4] w)) := e70_23
theorem f70_24 : iv_V call mc_70 rt 24 (L) (st) w = iv_ret rt st w := e70_24
theorem f70_25 : iv_V call mc_70 rt 25 (L) (st) w = iv_V call mc_70 rt 26 (L) (.int (nI 0) :: st) w := e70_25
theorem f70_26 : iv_V call mc_70 rt 26 (v0 :: v1 :: v2 :: v3 :: v4 :: u :: L) (.int x :: st) w = iv_V call mc_70 rt 27 (v0 :: v1 :: v2 :: v3 :: v4 :: .int x :: L) (st) w := e70_26
theorem f70_27 : iv_V call mc_70 rt 27 (L) (st) w = iv_V call mc_70 rt 28 (L) (.int (nI 0) :: st) w := e70_27
theorem f70_28 : iv_V call mc_70 rt 28 (v0 :: v1 :: v2 :: v3 :: v4 :: v5 :: u :: L) (.int x :: st) w = iv_V call mc_70 rt 29 (v0 :: v1 :: v2 :: v3 :: v4 :: v5 :: .int x :: L) (st) w := e70_28
theorem f70_29 : iv_V call mc_70 rt 29 (v0 :: v1 :: v2 :: v3 :: v4 :: v5 :: .int x :: L) (st) w = iv_V call mc_70 rt 30 (v0 :: v1 :: v2 :: v3 :: v4 :: v5 :: .int x :: L) (.int x :: st) w := e70_29
theorem f70_30 : iv_V call mc_70 rt 30 (v0 :: v1 :: v2 :: v3 :: .int x :: L) (st) w = iv_V call mc_70 rt 31 (v0 :: v1 :: v2 :: v3 :: .int x :: L) (.int x :: st) w := e70_30
theorem f70_31 : iv_V call mc_70 rt 31 (L) (.int y :: .int x :: st) w = if y ≤ x then iv_V call mc_70 rt 48 (L) (st) w else iv_V call mc_70 rt 32 (L) (st) w := e70_31
theorem f70_32 : iv_V call mc_70 rt 32 (v0 :: v1 :: v2 :: v3 :: v4 :: .int x :: L) (st) w = iv_V call mc_70 rt 33 (v0 :: v1 :: v2 :: v3 :: v4 :: .int x :: L) (.int x :: st) w := e70_32
theorem f70_33 : iv_V call mc_70 rt 33 (L) (.int x :: st) w = if ¬ x = nI 0 then iv_V call mc_70 rt 48 (L) (st) w else iv_V call mc_70 rt 34 (L) (st) w := e70_33
theorem f70_34 : iv_V call mc_70 rt 34 (.ref a :: L) (st) w = iv_V call mc_70 rt 35 (.ref a :: L) (.ref a :: st) w := e70_34
theorem f70_35 : iv_V call mc_70 rt 35 (v0 :: v1 :: .int x :: L) (st) w = iv_V call mc_70 rt 36 (v0 :: v1 :: .int x :: L) (.int x :: st) w := e70_35
theorem f70_36 : iv_V call mc_70 rt 36 (v0 :: v1 :: v2 :: v3 :: v4 :: v5 :: .int x :: L) (st) w = iv_V call mc_70 rt 37 (v0 :: v1 :: v2 :: v3 :: v4 :: v5 :: .int x :: L) (.int x :: st) w := e70_36
theorem f70_37 : iv_V call mc_70 rt 37 (.ref a :: L) (st) w = iv_V call mc_70 rt 38 (.ref a :: L) (.ref a :: st) w := e70_37
theorem f70_38 : iv_V call mc_70 rt 38 (L) (st) w = iv_gf w st 2 3 (iv_kv call mc_70 rt 39 L w) := e70_38
theorem f70_39 : iv_V call mc_70 rt 39 (v0 :: .int x :: L) (st) w = iv_V call mc_70 rt 40 (v0 :: .int x :: L) (.int x :: st) w := e70_39
theorem f70_40 : iv_V call mc_70 rt 40 (v0 :: v1 :: .int x :: L) (st) w = iv_V call mc_70 rt 41 (v0 :: v1 :: .int x :: L) (.int x :: st) w := e70_40
theorem f70_41 : iv_V call mc_70 rt 41 (v0 :: v1 :: v2 :: v3 :: v4 :: v5 :: .int x :: L) (st) w = iv_V call mc_70 rt 42 (v0 :: v1 :: v2 :: v3 :: v4 :: v5 :: .int x :: L) (.int x :: st) w := e70_41
theorem f70_42 {a0 : Nat} {x1 : Int32} {x2 : Int32} {x3 : Int32} {c0 : Nat} {y1 : Int32} {y2 : Int32} : iv_V call mc_70 rt 42 (L) (.int x3 :: .int x2 :: .int x1 :: .ref a0 :: .int y2 :: .int y1 :: .ref c0 :: []) w = iv_cr (iv_rc w [.ref a0, .int x1, .int x2, .int x3] 11) (iv_ct call mc_70 rt 43 L [.int y2, .int y1, .ref c0] (call 115 [.ref a0, .int x1, .int x2, .int x3] w)) := e70_42
theorem f70_43 : iv_V call mc_70 rt 43 (v0 :: v1 :: v2 :: .int x :: L) (st) w = iv_V call mc_70 rt 44 (v0 :: v1 :: v2 :: .int x :: L) (.int x :: st) w := e70_43
theorem f70_44 {a0 : Nat} {x1 : Int32} {x2 : Int32} {x3 : Int32} {x4 : Int32} : iv_V call mc_70 rt 44 (L) (.int x4 :: .int x3 :: .int x2 :: .int x1 :: .ref a0 :: []) w = iv_cr (iv_rc w [.ref a0, .int x1, .int x2, .int x3, .int x4] 2) (iv_ct call mc_70 rt 45 L [] (call 71 [.ref a0, .int x1, .int x2, .int x3, .int x4] w)) := e70_44
theorem f70_45 : iv_V call mc_70 rt 45 (v0 :: v1 :: v2 :: v3 :: v4 :: u :: L) (.int x :: st) w = iv_V call mc_70 rt 46 (v0 :: v1 :: v2 :: v3 :: v4 :: .int x :: L) (st) w := e70_45
theorem f70_46 : iv_V call mc_70 rt 46 (v0 :: v1 :: v2 :: v3 :: v4 :: v5 :: .int x :: L) (st) w = iv_V call mc_70 rt 47 (v0 :: v1 :: v2 :: v3 :: v4 :: v5 :: .int (x + (nI 1)) :: L) (st) w := e70_46
theorem f70_47 : iv_V call mc_70 rt 47 (L) (st) w = iv_V call mc_70 rt 29 (L) (st) w := e70_47
theorem f70_48 : iv_V call mc_70 rt 48 (v0 :: v1 :: v2 :: v3 :: v4 :: .int x :: L) (st) w = iv_V call mc_70 rt 49 (v0 :: v1 :: v2 :: v3 :: v4 :: .int x :: L) (.int x :: st) w := e70_48
theorem f70_49 : iv_V call mc_70 rt 49 (L) (st) w = iv_ret rt st w := e70_49
theorem f71_0 : iv_V call mc_71 rt 0 (.ref a :: L) (st) w = iv_V call mc_71 rt 1 (.ref a :: L) (.ref a :: st) w := e71_0
theorem f71_1 : iv_V call mc_71 rt 1 (L) (st) w = iv_gf w st 2 4 (iv_kv call mc_71 rt 2 L w) := e71_1
theorem f71_2 : iv_V call mc_71 rt 2 (L) (st) w = iv_gf w st 6 3 (iv_kv call mc_71 rt 3 L w) := e71_2
theorem f71_3 : iv_V call mc_71 rt 3 (v0 :: v1 :: v2 :: v3 :: v4 :: u :: L) (.ref a :: st) w = iv_V call mc_71 rt 4 (v0 :: v1 :: v2 :: v3 :: v4 :: .ref a :: L) (st) w := e71_3
theorem f71_4 : iv_V call mc_71 rt 4 (v0 :: v1 :: v2 :: v3 :: v4 :: .ref a :: L) (st) w = iv_V call mc_71 rt 5 (v0 :: v1 :: v2 :: v3 :: v4 :: .ref a :: L) (.ref a :: st) w := e71_4
theorem f71_5 : iv_V call mc_71 rt 5 (v0 :: .int x :: L) (st) w = iv_V call mc_71 rt 6 (v0 :: .int x :: L) (.int x :: st) w := e71_5
theorem f71_6 : iv_V call mc_71 rt 6 (L) (st) w = iv_V call mc_71 rt 7 (L) (.int (nI 4) :: st) w := e71_6
theorem f71_7 : iv_V call mc_71 rt 7 (L) (.int y :: .int x :: st) w = iv_V call mc_71 rt 8 (L) (.int (x * y) :: st) w := e71_7
theorem f71_8 : iv_V call mc_71 rt 8 (v0 :: v1 :: .int x :: L) (st) w = iv_V call mc_71 rt 9 (v0 :: v1 :: .int x :: L) (.int x :: st) w := e71_8
theorem f71_9 : iv_V call mc_71 rt 9 (L) (.int y :: .int x :: st) w = iv_V call mc_71 rt 10 (L) (.int (x + y) :: st) w := e71_9
theorem f71_10 : iv_V call mc_71 rt 10 (L) (st) w = iv_V call mc_71 rt 11 (L) (.int (nI 1) :: st) w := e71_10
theorem f71_11 : iv_V call mc_71 rt 11 (L) (.int y :: .int x :: st) w = iv_V call mc_71 rt 12 (L) (.int (x + y) :: st) w := e71_11
theorem f71_12 {a0 : Nat} {x1 : Int32} : iv_V call mc_71 rt 12 (L) (.int x1 :: .ref a0 :: []) w = iv_cr (iv_rc w [.ref a0, .int x1] 7) (iv_ct call mc_71 rt 13 L [] (call 95 [.ref a0, .int x1] w)) := e71_12
theorem f71_13 : iv_V call mc_71 rt 13 (L) (.int x :: st) w = if ¬ x = nI 0 then iv_V call mc_71 rt 16 (L) (st) w else iv_V call mc_71 rt 14 (L) (st) w := e71_13
theorem f71_14 : iv_V call mc_71 rt 14 (L) (st) w = iv_V call mc_71 rt 15 (L) (.int (-5) :: st) w := e71_14
theorem f71_15 : iv_V call mc_71 rt 15 (L) (st) w = iv_ret rt st w := e71_15
theorem f71_16 : iv_V call mc_71 rt 16 (.ref a :: L) (st) w = iv_V call mc_71 rt 17 (.ref a :: L) (.ref a :: st) w := e71_16
theorem f71_17 : iv_V call mc_71 rt 17 (v0 :: v1 :: v2 :: .int x :: L) (st) w = iv_V call mc_71 rt 18 (v0 :: v1 :: v2 :: .int x :: L) (.int x :: st) w := e71_17
theorem f71_18 : iv_V call mc_71 rt 18 (v0 :: v1 :: v2 :: v3 :: .int x :: L) (st) w = iv_V call mc_71 rt 19 (v0 :: v1 :: v2 :: v3 :: .int x :: L) (.int x :: st) w := e71_18
theorem f71_19 {a0 : Nat} {x1 : Int32} {x2 : Int32} : iv_V call mc_71 rt 19 (L) (.int x2 :: .int x1 :: .ref a0 :: []) w = iv_cr (iv_rc w [.ref a0, .int x1, .int x2] 2) (iv_ct call mc_71 rt 20 L [] (call 65 [.ref a0, .int x1, .int x2] w)) := e71_19
theorem f71_20 : iv_V call mc_71 rt 20 (v0 :: v1 :: v2 :: v3 :: v4 :: v5 :: u :: L) (.int x :: st) w = iv_V call mc_71 rt 21 (v0 :: v1 :: v2 :: v3 :: v4 :: v5 :: .int x :: L) (st) w := e71_20
theorem f71_21 : iv_V call mc_71 rt 21 (v0 :: v1 :: v2 :: v3 :: v4 :: .ref a :: L) (st) w = iv_V call mc_71 rt 22 (v0 :: v1 :: v2 :: v3 :: v4 :: .ref a :: L) (.ref a :: st) w := e71_21
theorem f71_22 : iv_V call mc_71 rt 22 (L) (.ref a :: st) w = iv_V call mc_71 rt 23 (L) (.ref a :: .ref a :: st) w := e71_22
theorem f71_23 : iv_V call mc_71 rt 23 (L) (st) w = iv_gf w st 7 1 (iv_kv call mc_71 rt 24 L w) := e71_23
theorem f71_24 : iv_V call mc_71 rt 24 (L) (st) w = iv_V call mc_71 rt 25 (L) (.int (nI 1) :: st) w := e71_24
theorem f71_25 : iv_V call mc_71 rt 25 (L) (.int y :: .int x :: st) w = iv_V call mc_71 rt 26 (L) (.int (x - y) :: st) w := e71_25
theorem f71_26 : iv_V call mc_71 rt 26 (L) (st) w = iv_pf w st 7 1 (iv_kw call mc_71 rt 27 L) := e71_26
theorem f71_27 : iv_V call mc_71 rt 27 (v0 :: v1 :: v2 :: v3 :: v4 :: v5 :: .int x :: L) (st) w = iv_V call mc_71 rt 28 (v0 :: v1 :: v2 :: v3 :: v4 :: v5 :: .int x :: L) (.int x :: st) w := e71_27
theorem f71_28 : iv_V call mc_71 rt 28 (L) (st) w = iv_ret rt st w := e71_28
theorem f72_0 : iv_V call mc_72 rt 0 (L) (st) w = iv_V call mc_72 rt 1 (L) (.int (nI 0) :: st) w := e72_0
theorem f72_1 : iv_V call mc_72 rt 1 (v0 :: v1 :: v2 :: v3 :: u :: L) (.int x :: st) w = iv_V call mc_72 rt 2 (v0 :: v1 :: v2 :: v3 :: .int x :: L) (st) w := e72_1
theorem f72_2 : iv_V call mc_72 rt 2 (L) (st) w = iv_V call mc_72 rt 3 (L) (.int (nI 0) :: st) w := e72_2
theorem f72_3 : iv_V call mc_72 rt 3 (v0 :: v1 :: v2 :: v3 :: v4 :: u :: L) (.int x :: st) w = iv_V call mc_72 rt 4 (v0 :: v1 :: v2 :: v3 :: v4 :: .int x :: L) (st) w := e72_3
theorem f72_4 : iv_V call mc_72 rt 4 (v0 :: v1 :: v2 :: v3 :: v4 :: .int x :: L) (st) w = iv_V call mc_72 rt 5 (v0 :: v1 :: v2 :: v3 :: v4 :: .int x :: L) (.int x :: st) w := e72_4
theorem f72_5 : iv_V call mc_72 rt 5 (.ref a :: L) (st) w = iv_V call mc_72 rt 6 (.ref a :: L) (.ref a :: st) w := e72_5
theorem f72_6 : iv_V call mc_72 rt 6 (L) (st) w = iv_gf w st 2 1 (iv_kv call mc_72 rt 7 L w) := e72_6
theorem f72_7 : iv_V call mc_72 rt 7 (L) (st) w = iv_gf w st 9 1 (iv_kv call mc_72 rt 8 L w) := e72_7
theorem f72_8 : iv_V call mc_72 rt 8 (L) (.int y :: .int x :: st) w = if y ≤ x then iv_V call mc_72 rt 41 (L) (st) w else iv_V call mc_72 rt 9 (L) (st) w := e72_8
theorem f72_9 : iv_V call mc_72 rt 9 (v0 :: v1 :: v2 :: v3 :: .int x :: L) (st) w = iv_V call mc_72 rt 10 (v0 :: v1 :: v2 :: v3 :: .int x :: L) (.int x :: st) w := e72_9
theorem f72_10 : iv_V call mc_72 rt 10 (L) (.int x :: st) w = if ¬ x = nI 0 then iv_V call mc_72 rt 41 (L) (st) w else iv_V call mc_72 rt 11 (L) (st) w := e72_10
theorem f72_11 : iv_V call mc_72 rt 11 (.ref a :: L) (st) w = iv_V call mc_72 rt 12 (.ref a :: L) (.ref a :: st) w := e72_11
theorem f72_12 : iv_V call mc_72 rt 12 (L) (st) w = iv_gf w st 2 1 (iv_kv call mc_72 rt 13 L w) := e72_12
theorem f72_13 : iv_V call mc_72 rt 13 (L) (st) w = iv_gf w st 9 0 (iv_kv call mc_72 rt 14 L w) := e72_13
theorem f72_14 : iv_V call mc_72 rt 14 (v0 :: v1 :: v2 :: v3 :: v4 :: .int x :: L) (st) w = iv_V call mc_72 rt 15 (v0 :: v1 :: v2 :: v3 :: v4 :: .int x :: L) (.int x :: st) w := e72_14
theorem f72_15 : iv_V call mc_72 rt 15 (L) (st) w = iv_ald w st iv_isA (iv_kv call mc_72 rt 16 L w) := e72_15
theorem f72_16 : iv_V call mc_72 rt 16 (v0 :: v1 :: v2 :: v3 :: v4 :: v5 :: u :: L) (.ref a :: st) w = iv_V call mc_72 rt 17 (v0 :: v1 :: v2 :: v3 :: v4 :: v5 :: .ref a :: L) (st) w := e72_16
theorem f72_17 : iv_V call mc_72 rt 17 (v0 :: v1 :: .int x :: L) (st) w = iv_V call mc_72 rt 18 (v0 :: v1 :: .int x :: L) (.int x :: st) w := e72_17
theorem f72_18 : iv_V call mc_72 rt 18 (v0 :: v1 :: v2 :: v3 :: v4 :: v5 :: .ref a :: L) (st) w = iv_V call mc_72 rt 19 (v0 :: v1 :: v2 :: v3 :: v4 :: v5 :: .ref a :: L) (.ref a :: st) w := e72_18
theorem f72_19 : iv_V call mc_72 rt 19 (L) (st) w = iv_gf w st 8 0 (iv_kv call mc_72 rt 20 L w) := e72_19
theorem f72_20 : iv_V call mc_72 rt 20 (L) (.int y :: .int x :: st) w = iv_V call mc_72 rt 21 (L) (.int (x >>> (y &&& 31)) :: st) w := e72_20
theorem f72_21 : iv_V call mc_72 rt 21 (L) (st) w = iv_V call mc_72 rt 22 (L) (.int (nI 1) :: st) w := e72_21
theorem f72_22 : iv_V call mc_72 rt 22 (L) (.int y :: .int x :: st) w = iv_V call mc_72 rt 23 (L) (.int (x &&& y) :: st) w := e72_22
theorem f72_23 : iv_V call mc_72 rt 23 (L) (.int x :: st) w = if x = nI 0 then iv_V call mc_72 rt 39 (L) (st) w else iv_V call mc_72 rt 24 (L) (st) w := e72_23
theorem f72_24 : iv_V call mc_72 rt 24 (v0 :: v1 :: v2 :: v3 :: v4 :: v5 :: .ref a :: L) (st) w = iv_V call mc_72 rt 25 (v0 :: v1 :: v2 :: v3 :: v4 :: v5 :: .ref a :: L) (.ref a :: st) w := e72_24
theorem f72_25 : iv_V call mc_72 rt 25 (L) (st) w = iv_gf w st 8 3 (iv_kv call mc_72 rt 26 L w) := e72_25
theorem f72_26 : iv_V call mc_72 rt 26 (.ref a :: L) (st) w = iv_V call mc_72 rt 27 (.ref a :: L) (.ref a :: st) w := e72_26
theorem f72_27 : iv_V call mc_72 rt 27 (L) (st) w = iv_gf w st 2 2 (iv_kv call mc_72 rt 28 L w) := e72_27
theorem f72_28 : iv_V call mc_72 rt 28 (L) (st) w = iv_gf w st 5 0 (iv_kv call mc_72 rt 29 L w) := e72_28
theorem f72_29 : iv_V call mc_72 rt 29 (v0 :: v1 :: v2 :: .int x :: L) (st) w = iv_V call mc_72 rt 30 (v0 :: v1 :: v2 :: .int x :: L) (.int x :: st) w := e72_29
theorem f72_30 : iv_V call mc_72 rt 30 (L) (st) w = iv_ald w st iv_isI (iv_kv call mc_72 rt 31 L w) := e72_30
theorem f72_31 : iv_V call mc_72 rt 31 (L) (.int y :: .int x :: st) w = iv_V call mc_72 rt 32 (L) (.int (x &&& y) :: st) w := e72_31
theorem f72_32 : iv_V call mc_72 rt 32 (L) (.int x :: st) w = if x = nI 0 then iv_V call mc_72 rt 39 (L) (st) w else iv_V call mc_72 rt 33 (L) (st) w := e72_32
theorem f72_33 : iv_V call mc_72 rt 33 (.ref a :: L) (st) w = iv_V call mc_72 rt 34 (.ref a :: L) (.ref a :: st) w := e72_33
theorem f72_34 : iv_V call mc_72 rt 34 (v0 :: .int x :: L) (st) w = iv_V call mc_72 rt 35 (v0 :: .int x :: L) (.int x :: st) w := e72_34
theorem f72_35 : iv_V call mc_72 rt 35 (v0 :: v1 :: v2 :: v3 :: v4 :: v5 :: .ref a :: L) (st) w = iv_V call mc_72 rt 36 (v0 :: v1 :: v2 :: v3 :: v4 :: v5 :: .ref a :: L) (.ref a :: st) w := e72_35
theorem f72_36 : iv_V call mc_72 rt 36 (v0 :: v1 :: v2 :: v3 :: v4 :: .int x :: L) (st) w = iv_V call mc_72 rt 37 (v0 :: v1 :: v2 :: v3 :: v4 :: .int x :: L) (.int x :: st) w := e72_36
theorem f72_37 {a0 : Nat} {x1 : Int32} {a2 : Nat} {x3 : Int32} : iv_V call mc_72 rt 37 (L) (.int x3 :: .ref a2 :: .int x1 :: .ref a0 :: []) w = iv_cr (iv_rc w [.ref a0, .int x1, .ref a2, .int x3] 2) (iv_ct call mc_72 rt 38 L [] (call 73 [.ref a0, .int x1, .ref a2, .int x3] w)) := e72_37
theorem f72_38 : iv_V call mc_72 rt 38 (v0 :: v1 :: v2 :: v3 :: u :: L) (.int x :: st) w = iv_V call mc_72 rt 39 (v0 :: v1 :: v2 :: v3 :: .int x :: L) (st) w := e72_38
theorem f72_39 : iv_V call mc_72 rt 39 (v0 :: v1 :: v2 :: v3 :: v4 :: .int x :: L) (st) w = iv_V call mc_72 rt 40 (v0 :: v1 :: v2 :: v3 :: v4 :: .int (x + (nI 1)) :: L) (st) w := e72_39
theorem f72_40 : iv_V call mc_72 rt 40 (L) (st) w = iv_V call mc_72 rt 4 (L) (st) w := e72_40
theorem f72_41 : iv_V call mc_72 rt 41 (v0 :: v1 :: v2 :: v3 :: .int x :: L) (st) w = iv_V call mc_72 rt 42 (v0 :: v1 :: v2 :: v3 :: .int x :: L) (.int x :: st) w := e72_41
theorem f72_42 : iv_V call mc_72 rt 42 (L) (st) w = iv_ret rt st w := e72_42
theorem f73_0 : iv_V call mc_73 rt 0 (v0 :: v1 :: .ref a :: L) (st) w = iv_V call mc_73 rt 1 (v0 :: v1 :: .ref a :: L) (.ref a :: st) w := e73_0
theorem f73_1 : iv_V call mc_73 rt 1 (L) (st) w = iv_gf w st 8 0 (iv_kv call mc_73 rt 2 L w) := e73_1
theorem f73_2 : iv_V call mc_73 rt 2 (v0 :: v1 :: v2 :: v3 :: u :: L) (.int x :: st) w = iv_V call mc_73 rt 3 (v0 :: v1 :: v2 :: v3 :: .int x :: L) (st) w := e73_2
theorem f73_3 : iv_V call mc_73 rt 3 (v0 :: v1 :: .ref a :: L) (st) w = iv_V call mc_73 rt 4 (v0 :: v1 :: .ref a :: L) (.ref a :: st) w := e73_3
theorem f73_4 : iv_V call mc_73 rt 4 (L) (st) w = iv_gf w st 8 2 (iv_kv call mc_73 rt 5 L w) := e73_4
theorem f73_5 : iv_V call mc_73 rt 5 (.ref a :: L) (st) w = iv_V call mc_73 rt 6 (.ref a :: L) (.ref a :: st) w := e73_5
theorem f73_6 : iv_V call mc_73 rt 6 (L) (st) w = iv_gf w st 2 0 (iv_kv call mc_73 rt 7 L w) := e73_6
theorem f73_7 : iv_V call mc_73 rt 7 (L) (st) w = iv_gf w st 10 5 (iv_kv call mc_73 rt 8 L w) := e73_7
theorem f73_8 : iv_V call mc_73 rt 8 (v0 :: v1 :: v2 :: v3 :: .int x :: L) (st) w = iv_V call mc_73 rt 9 (v0 :: v1 :: v2 :: v3 :: .int x :: L) (.int x :: st) w := e73_8
theorem f73_9 : iv_V call mc_73 rt 9 (L) (st) w = iv_ald w st iv_isI (iv_kv call mc_73 rt 10 L w) := e73_9
theorem f73_10 : iv_V call mc_73 rt 10 (v0 :: v1 :: .ref a :: L) (st) w = iv_V call mc_73 rt 11 (v0 :: v1 :: .ref a :: L) (.ref a :: st) w := e73_10
theorem f73_11 : iv_V call mc_73 rt 11 (L) (st) w = iv_gf w st 8 1 (iv_kv call mc_73 rt 12 L w) := e73_11
theorem f73_12 {a0 : Nat} {x1 : Int32} {x2 : Int32} : iv_V call mc_73 rt 12 (L) (.int x2 :: .int x1 :: .ref a0 :: []) w = iv_cr (iv_rc w [.ref a0, .int x1, .int x2] 3) (iv_ct call mc_73 rt 13 L [] (call 77 [.ref a0, .int x1, .int x2] w)) := e73_12
theorem f73_13 : iv_V call mc_73 rt 13 (L) (.int x :: st) w = if ¬ x = nI 0 then iv_V call mc_73 rt 16 (L) (st) w else iv_V call mc_73 rt 14 (L) (st) w := e73_13
theorem f73_14 : iv_V call mc_73 rt 14 (L) (st) w = iv_V call mc_73 rt 15 (L) (.int (-4) :: st) w := e73_14
theorem f73_15 : iv_V call mc_73 rt 15 (L) (st) w = iv_ret rt st w := e73_15
theorem f73_16 : iv_V call mc_73 rt 16 (.ref a :: L) (st) w = iv_V call mc_73 rt 17 (.ref a :: L) (.ref a :: st) w := e73_16
theorem f73_17 : iv_V call mc_73 rt 17 (L) (st) w = iv_gf w st 2 3 (iv_kv call mc_73 rt 18 L w) := e73_17
theorem f73_18 : iv_V call mc_73 rt 18 (L) (st) w = iv_gf w st 11 2 (iv_kv call mc_73 rt 19 L w) := e73_18
theorem f73_19 : iv_V call mc_73 rt 19 (v0 :: .int x :: L) (st) w = iv_V call mc_73 rt 20 (v0 :: .int x :: L) (.int x :: st) w := e73_19
theorem f73_20 : iv_V call mc_73 rt 20 (L) (st) w = iv_ald w st iv_isA (iv_kv call mc_73 rt 21 L w) := e73_20
theorem f73_21 : iv_V call mc_73 rt 21 (v0 :: v1 :: v2 :: v3 :: .int x :: L) (st) w = iv_V call mc_73 rt 22 (v0 :: v1 :: v2 :: v3 :: .int x :: L) (.int x :: st) w := e73_21
theorem f73_22 : iv_V call mc_73 rt 22 (L) (st) w = iv_ald w st iv_isI (iv_kv call mc_73 rt 23 L w) := e73_22
theorem f73_23 : iv_V call mc_73 rt 23 (v0 :: v1 :: v2 :: v3 :: v4 :: u :: L) (.int x :: st) w = iv_V call mc_73 rt 24 (v0 :: v1 :: v2 :: v3 :: v4 :: .int x :: L) (st) w := e73_23
theorem f73_24 : iv_V call mc_73 rt 24 (v0 :: v1 :: .ref a :: L) (st) w = iv_V call mc_73 rt 25 (v0 :: v1 :: .ref a :: L) (.ref a :: st) w := e73_24
theorem f73_25 : iv_V call mc_73 rt 25 (L) (st) w = iv_gf w st 8 1 (iv_kv call mc_73 rt 26 L w) := e73_25
theorem f73_26 : iv_V call mc_73 rt 26 (L) (.int x :: st) w = if ¬ x = nI 0 then iv_V call mc_73 rt 35 (L) (st) w else iv_V call mc_73 rt 27 (L) (st) w := e73_26
theorem f73_27 : iv_V call mc_73 rt 27 (.ref a :: L) (st) w = iv_V call mc_73 rt 28 (.ref a :: L) (.ref a :: st) w := e73_27
theorem f73_28 : iv_V call mc_73 rt 28 (v0 :: .int x :: L) (st) w = iv_V call mc_73 rt 29 (v0 :: .int x :: L) (.int x :: st) w := e73_28
theorem f73_29 : iv_V call mc_73 rt 29 (v0 :: v1 :: .ref a :: L) (st) w = iv_V call mc_73 rt 30 (v0 :: v1 :: .ref a :: L) (.ref a :: st) w := e73_29
theorem f73_30 : iv_V call mc_73 rt 30 (v0 :: v1 :: v2 :: .int x :: L) (st) w = iv_V call mc_73 rt 31 (v0 :: v1 :: v2 :: .int x :: L) (.int x :: st) w := e73_30
theorem f73_31 : iv_V call mc_73 rt 31 (L) (st) w = iv_V call mc_73 rt 32 (L) (.int (-1) :: st) w := e73_31
theorem f73_32 : iv_V call mc_73 rt 32 (v0 :: v1 :: v2 :: v3 :: v4 :: .int x :: L) (st) w = iv_V call mc_73 rt 33 (v0 :: v1 :: v2 :: v3 :: v4 :: .int x :: L) (.int x :: st) w := e73_32
theorem f73_33 {a0 : Nat} {x1 : Int32} {a2 : Nat} {x3 : Int32} {x4 : Int32} {x5 : Int32} : iv_V call mc_73 rt 33 (L) (.int x5 :: .int x4 :: .int x3 :: .ref a2 :: .int x1 :: .ref a0 :: []) w = iv_cr (iv_rc w [.ref a0, .int x1, .ref a2, .int x3, .int x4, .int x5] 2) (iv_ct call mc_73 rt 34 L [] (call 74 [.ref a0, .int x1, .ref a2, .int x3, .int x4, .int x5] w)) := e73_33
theorem f73_34 : iv_V call mc_73 rt 34 (L) (st) w = iv_ret rt st w := e73_34
theorem f73_35 : iv_V call mc_73 rt 35 (.ref a :: L) (st) w = iv_V call mc_73 rt 36 (.ref a :: L) (.ref a :: st) w := e73_35
theorem f73_36 : iv_V call mc_73 rt 36 (L) (st) w = iv_gf w st 2 0 (iv_kv call mc_73 rt 37 L w) := e73_36
theorem f73_37 : iv_V call mc_73 rt 37 (v0 :: v1 :: v2 :: v3 :: .int x :: L) (st) w = iv_V call mc_73 rt 38 (v0 :: v1 :: v2 :: v3 :: .int x :: L) (.int x :: st) w := e73_37
theorem f73_38 {a0 : Nat} {x1 : Int32} : iv_V call mc_73 rt 38 (L) (.int x1 :: .ref a0 :: []) w = iv_cr (iv_rc w [.ref a0, .int x1] 10) (iv_ct call mc_73 rt 39 L [] (call 104 [.ref a0, .int x1] w)) := e73_38
theorem f73_39 : iv_V call mc_73 rt 39 (L) (.int x :: st) w = if x = nI 0 then iv_V call mc_73 rt 42 (L) (st) w else iv_V call mc_73 rt 40 (L) (st) w := e73_39
theorem f73_40 : iv_V call mc_73 rt 40 (v0 :: v1 :: v2 :: v3 :: v4 :: .int x :: L) (st) w = iv_V call mc_73 rt 41 (v0 :: v1 :: v2 :: v3 :: v4 :: .int x :: L) (.int x :: st) w := e73_40
theorem f73_41 : iv_V call mc_73 rt 41 (L) (st) w = iv_V call mc_73 rt 43 (L) (st) w := e73_41
theorem f73_42 : iv_V call mc_73 rt 42 (L) (st) w = iv_V call mc_73 rt 43 (L) (.int (nI 0) :: st) w := e73_42
theorem f73_43 : iv_V call mc_73 rt 43 (v0 :: v1 :: v2 :: v3 :: v4 :: v5 :: u :: L) (.int x :: st) w = iv_V call mc_73 rt 44 (v0 :: v1 :: v2 :: v3 :: v4 :: v5 :: .int x :: L) (st) w := e73_43
theorem f73_44 : iv_V call mc_73 rt 44 (L) (st) w = iv_V call mc_73 rt 45 (L) (.int (nI 0) :: st) w := e73_44
theorem f73_45 : iv_V call mc_73 rt 45 (v0 :: v1 :: v2 :: v3 :: v4 :: v5 :: v6 :: u :: L) (.int x :: st) w = iv_V call mc_73 rt 46 (v0 :: v1 :: v2 :: v3 :: v4 :: v5 :: v6 :: .int x :: L) (st) w := e73_45
theorem f73_46 : iv_V call mc_73 rt 46 (L) (st) w = iv_V call mc_73 rt 47 (L) (.int (nI 0) :: st) w := e73_46
theorem f73_47 : iv_V call mc_73 rt 47 (v0 :: v1 :: v2 :: v3 :: v4 :: v5 :: v6 :: v7 :: u :: L) (.int x :: st) w = iv_V call mc_73 rt 48 (v0 :: v1 :: v2 :: v3 :: v4 :: v5 :: v6 :: v7 :: .int x :: L) (st) w := e73_47
theorem f73_48 : iv_V call mc_73 rt 48 (v0 :: v1 :: v2 :: v3 :: v4 :: v5 :: v6 :: v7 :: .int x :: L) (st) w = iv_V call mc_73 rt 49 (v0 :: v1 :: v2 :: v3 :: v4 :: v5 :: v6 :: v7 :: .int x :: L) (.int x :: st) w := e73_48
theorem f73_49 : iv_V call mc_73 rt 49 (v0 :: v1 :: v2 :: v3 :: v4 :: v5 :: .int x :: L) (st) w = iv_V call mc_73 rt 50 (v0 :: v1 :: v2 :: v3 :: v4 :: v5 :: .int x :: L) (.int x :: st) w := e73_49
theorem f73_50 : iv_V call mc_73 rt 50 (L) (.int y :: .int x :: st) w = if y ≤ x then iv_V call mc_73 rt 68 (L) (st) w else iv_V call mc_73 rt 51 (L) (st) w := e73_50
theorem f73_51 : iv_V call mc_73 rt 51 (v0 :: v1 :: v2 :: v3 :: v4 :: v5 :: v6 :: .int x :: L) (st) w = iv_V call mc_73 rt 52 (v0 :: v1 :: v2 :: v3 :: v4 :: v5 :: v6 :: .int x :: L) (.int x :: st) w := e73_51
theorem f73_52 : iv_V call mc_73 rt 52 (L) (.int x :: st) w = if ¬ x = nI 0 then iv_V call mc_73 rt 68 (L) (st) w else iv_V call mc_73 rt 53 (L) (st) w := e73_52
theorem f73_53 : iv_V call mc_73 rt 53 (.ref a :: L) (st) w = iv_V call mc_73 rt 54 (.ref a :: L) (.ref a :: st) w := e73_53
theorem f73_54 : iv_V call mc_73 rt 54 (v0 :: .int x :: L) (st) w = iv_V call mc_73 rt 55 (v0 :: .int x :: L) (.int x :: st) w := e73_54
theorem f73_55 : iv_V call mc_73 rt 55 (v0 :: v1 :: .ref a :: L) (st) w = iv_V call mc_73 rt 56 (v0 :: v1 :: .ref a :: L) (.ref a :: st) w := e73_55
theorem f73_56 : iv_V call mc_73 rt 56 (v0 :: v1 :: v2 :: .int x :: L) (st) w = iv_V call mc_73 rt 57 (v0 :: v1 :: v2 :: .int x :: L) (.int x :: st) w := e73_56
theorem f73_57 : iv_V call mc_73 rt 57 (v0 :: v1 :: v2 :: v3 :: v4 :: v5 :: v6 :: v7 :: .int x :: L) (st) w = iv_V call mc_73 rt 58 (v0 :: v1 :: v2 :: v3 :: v4 :: v5 :: v6 :: v7 :: .int x :: L) (.int x :: st) w := e73_57
theorem f73_58 : iv_V call mc_73 rt 58 (.ref a :: L) (st) w = iv_V call mc_73 rt 59 (.ref a :: L) (.ref a :: st) w := e73_58
theorem f73_59 : iv_V call mc_73 rt 59 (L) (st) w = iv_gf w st 2 3 (iv_kv call mc_73 rt 60 L w) := e73_59
theorem f73_60 : iv_V call mc_73 rt 60 (v0 :: .int x :: L) (st) w = iv_V call mc_73 rt 61 (v0 :: .int x :: L) (.int x :: st) w := e73_60
theorem f73_61 : iv_V call mc_73 rt 61 (v0 :: v1 :: v2 :: v3 :: .int x :: L) (st) w = iv_V call mc_73 rt 62 (v0 :: v1 :: v2 :: v3 :: .int x :: L) (.int x :: st) w := e73_61
theorem f73_62 : iv_V call mc_73 rt 62 (v0 :: v1 :: v2 :: v3 :: v4 :: v5 :: v6 :: v7 :: .int x :: L) (st) w = iv_V call mc_73 rt 63 (v0 :: v1 :: v2 :: v3 :: v4 :: v5 :: v6 :: v7 :: .int x :: L) (.int x :: st) w := e73_62
theorem f73_63 {a0 : Nat} {x1 : Int32} {x2 : Int32} {x3 : Int32} {c0 : Nat} {y1 : Int32} {c2 : Nat} {y3 : Int32} {y4 : Int32} : iv_V call mc_73 rt 63 (L) (.int x3 :: .int x2 :: .int x1 :: .ref a0 :: .int y4 :: .int y3 :: .ref c2 :: .int y1 :: .ref c0 :: []) w = iv_cr (iv_rc w [.ref a0, .int x1, .int x2, .int x3] 11) (iv_ct call mc_73 rt 64 L [.int y4, .int y3, .ref c2, .int y1, .ref c0] (call 115 [.ref a0, .int x1, .int x2, .int x3] w)) := e73_63
theorem f73_64 {a0 : Nat} {x1 : Int32} {a2 : Nat} {x3 : Int32} {x4 : Int32} {x5 : Int32} : iv_V call mc_73 rt 64 (L) (.int x5 :: .int x4 :: .int x3 :: .ref a2 :: .int x1 :: .ref a0 :: []) w = iv_cr (iv_rc w [.ref a0, .int x1, .ref a2, .int x3, .int x4, .int x5] 2) (iv_ct call mc_73 rt 65 L [] (call 74 [.ref a0, .int x1, .ref a2, .int x3, .int x4, .int x5] w)) := e73_64
theorem f73_65 : iv_V call mc_73 rt 65 (v0 :: v1 :: v2 :: v3 :: v4 :: v5 :: v6 :: u :: L) (.int x :: st) w = iv_V call mc_73 rt 66 (v0 :: v1 :: v2 :: v3 :: v4 :: v5 :: v6 :: .int x :: L) (st) w := e73_65
theorem f73_66 : iv_V call mc_73 rt 66 (v0 :: v1 :: v2 :: v3 :: v4 :: v5 :: v6 :: v7 :: .int x :: L) (st) w = iv_V call mc_73 rt 67 (v0 :: v1 :: v2 :: v3 :: v4 :: v5 :: v6 :: v7 :: .int (x + (nI 1)) :: L) (st) w := e73_66
theorem f73_67 : iv_V call mc_73 rt 67 (L) (st) w = iv_V call mc_73 rt 48 (L) (st) w := e73_67
theorem f73_68 : iv_V call mc_73 rt 68 (v0 :: v1 :: v2 :: v3 :: v4 :: v5 :: v6 :: .int x :: L) (st) w = iv_V call mc_73 rt 69 (v0 :: v1 :: v2 :: v3 :: v4 :: v5 :: v6 :: .int x :: L) (.int x :: st) w := e73_68
theorem f73_69 : iv_V call mc_73 rt 69 (L) (st) w = iv_ret rt st w := e73_69
theorem f74_0 : iv_V call mc_74 rt 0 (v0 :: v1 :: .ref a :: L) (st) w = iv_V call mc_74 rt 1 (v0 :: v1 :: .ref a :: L) (.ref a :: st) w := e74_0
theorem f74_1 : iv_V call mc_74 rt 1 (L) (st) w = iv_gf w st 8 2 (iv_kv call mc_74 rt 2 L w) := e74_1
theorem f74_2 : iv_V call mc_74 rt 2 (v0 :: v1 :: v2 :: v3 :: v4 :: v5 :: u :: L) (.ref a :: st) w = iv_V call mc_74 rt 3 (v0 :: v1 :: v2 :: v3 :: v4 :: v5 :: .ref a :: L) (st) w := e74_2
theorem f74_3 : iv_V call mc_74 rt 3 (L) (st) w = iv_V call mc_74 rt 4 (L) (.int (nI 0) :: st) w := e74_3
theorem f74_4 : iv_V call mc_74 rt 4 (v0 :: v1 :: v2 :: v3 :: v4 :: v5 :: v6 :: u :: L) (.int x :: st) w = iv_V call mc_74 rt 5 (v0 :: v1 :: v2 :: v3 :: v4 :: v5 :: v6 :: .int x :: L) (st) w := e74_4
theorem f74_5 : iv_V call mc_74 rt 5 (v0 :: v1 :: v2 :: v3 :: v4 :: v5 :: v6 :: .int x :: L) (st) w = iv_V call mc_74 rt 6 (v0 :: v1 :: v2 :: v3 :: v4 :: v5 :: v6 :: .int x :: L) (.int x :: st) w := e74_5
theorem f74_6 : iv_V call mc_74 rt 6 (v0 :: v1 :: v2 :: v3 :: v4 :: v5 :: .ref a :: L) (st) w = iv_V call mc_74 rt 7 (v0 :: v1 :: v2 :: v3 :: v4 :: v5 :: .ref a :: L) (.ref a :: st) w := e74_6
theorem f74_7 : iv_V call mc_74 rt 7 (L) (st) w = iv_gf w st 3 1 (iv_kv call mc_74 rt 8 L w) := e74_7
theorem f74_8 : iv_V call mc_74 rt 8 (L) (.int y :: .int x :: st) w = if y ≤ x then iv_V call mc_74 rt 43 (L) (st) w else iv_V call mc_74 rt 9 (L) (st) w := e74_8
theorem f74_9 : iv_V call mc_74 rt 9 (v0 :: v1 :: v2 :: v3 :: v4 :: v5 :: .ref a :: L) (st) w = iv_V call mc_74 rt 10 (v0 :: v1 :: v2 :: v3 :: v4 :: v5 :: .ref a :: L) (.ref a :: st) w := e74_9
theorem f74_10 : iv_V call mc_74 rt 10 (L) (st) w = iv_gf w st 3 0 (iv_kv call mc_74 rt 11 L w) := e74_10
theorem f74_11 : iv_V call mc_74 rt 11 (v0 :: v1 :: v2 :: v3 :: v4 :: v5 :: v6 :: .int x :: L) (st) w = iv_V call mc_74 rt 12 (v0 :: v1 :: v2 :: v3 :: v4 :: v5 :: v6 :: .int x :: L) (.int x :: st) w := e74_11
theorem f74_12 : iv_V call mc_74 rt 12 (L) (st) w = iv_ald w st iv_isA (iv_kv call mc_74 rt 13 L w) := e74_12
theorem f74_13 : iv_V call mc_74 rt 13 (v0 :: v1 :: v2 :: v3 :: v4 :: .int x :: L) (st) w = iv_V call mc_74 rt 14 (v0 :: v1 :: v2 :: v3 :: v4 :: .int x :: L) (.int x :: st) w := e74_13
theorem f74_14 {a0 : Nat} {x1 : Int32} : iv_V call mc_74 rt 14 (L) (.int x1 :: .ref a0 :: []) w = iv_cr (iv_rc w [.ref a0, .int x1] 4) (iv_ct call mc_74 rt 15 L [] (call 80 [.ref a0, .int x1] w)) := e74_14
theorem f74_15 : iv_V call mc_74 rt 15 (L) (.int x :: st) w = if x = nI 0 then iv_V call mc_74 rt 41 (L) (st) w else iv_V call mc_74 rt 16 (L) (st) w := e74_15
theorem f74_16 : iv_V call mc_74 rt 16 (v0 :: v1 :: v2 :: v3 :: v4 :: v5 :: .ref a :: L) (st) w = iv_V call mc_74 rt 17 (v0 :: v1 :: v2 :: v3 :: v4 :: v5 :: .ref a :: L) (.ref a :: st) w := e74_16
theorem f74_17 : iv_V call mc_74 rt 17 (L) (st) w = iv_gf w st 3 2 (iv_kv call mc_74 rt 18 L w) := e74_17
theorem f74_18 : iv_V call mc_74 rt 18 (L) (.int x :: st) w = if x = nI 0 then iv_V call mc_74 rt 21 (L) (st) w else iv_V call mc_74 rt 19 (L) (st) w := e74_18
theorem f74_19 : iv_V call mc_74 rt 19 (L) (st) w = iv_V call mc_74 rt 20 (L) (.int (-1) :: st) w := e74_19
theorem f74_20 : iv_V call mc_74 rt 20 (L) (st) w = iv_V call mc_74 rt 22 (L) (st) w := e74_20
theorem f74_21 : iv_V call mc_74 rt 21 (v0 :: v1 :: v2 :: v3 :: v4 :: v5 :: v6 :: .int x :: L) (st) w = iv_V call mc_74 rt 22 (v0 :: v1 :: v2 :: v3 :: v4 :: v5 :: v6 :: .int x :: L) (.int x :: st) w := e74_21
theorem f74_22 : iv_V call mc_74 rt 22 (v0 :: v1 :: v2 :: v3 :: v4 :: v5 :: v6 :: v7 :: u :: L) (.int x :: st) w = iv_V call mc_74 rt 23 (v0 :: v1 :: v2 :: v3 :: v4 :: v5 :: v6 :: v7 :: .int x :: L) (st) w := e74_22
theorem f74_23 : iv_V call mc_74 rt 23 (.ref a :: L) (st) w = iv_V call mc_74 rt 24 (.ref a :: L) (.ref a :: st) w := e74_23
theorem f74_24 : iv_V call mc_74 rt 24 (L) (st) w = iv_gf w st 2 4 (iv_kv call mc_74 rt 25 L w) := e74_24
theorem f74_25 : iv_V call mc_74 rt 25 (v0 :: .int x :: L) (st) w = iv_V call mc_74 rt 26 (v0 :: .int x :: L) (.int x :: st) w := e74_25
theorem f74_26 : iv_V call mc_74 rt 26 (v0 :: v1 :: .ref a :: L) (st) w = iv_V call mc_74 rt 27 (v0 :: v1 :: .ref a :: L) (.ref a :: st) w := e74_26
theorem f74_27 : iv_V call mc_74 rt 27 (L) (st) w = iv_gf w st 8 0 (iv_kv call mc_74 rt 28 L w) := e74_27
theorem f74_28 : iv_V call mc_74 rt 28 (v0 :: v1 :: v2 :: v3 :: .int x :: L) (st) w = iv_V call mc_74 rt 29 (v0 :: v1 :: v2 :: v3 :: .int x :: L) (.int x :: st) w := e74_28
theorem f74_29 : iv_V call mc_74 rt 29 (v0 :: v1 :: v2 :: .int x :: L) (st) w = iv_V call mc_74 rt 30 (v0 :: v1 :: v2 :: .int x :: L) (.int x :: st) w := e74_29
theorem f74_30 : iv_V call mc_74 rt 30 (v0 :: v1 :: v2 :: v3 :: v4 :: v5 :: v6 :: v7 :: .int x :: L) (st) w = iv_V call mc_74 rt 31 (v0 :: v1 :: v2 :: v3 :: v4 :: v5 :: v6 :: v7 :: .int x :: L) (.int x :: st) w := e74_30
theorem f74_31 : iv_V call mc_74 rt 31 (v0 :: v1 :: v2 :: v3 :: v4 :: .int x :: L) (st) w = iv_V call mc_74 rt 32 (v0 :: v1 :: v2 :: v3 :: v4 :: .int x :: L) (.int x :: st) w := e74_31
theorem f74_32 {a0 : Nat} {x1 : Int32} {x2 : Int32} {x3 : Int32} {x4 : Int32} {x5 : Int32} {x6 : Int32} : iv_V call mc_74 rt 32 (L) (.int x6 :: .int x5 :: .int x4 :: .int x3 :: .int x2 :: .int x1 :: .ref a0 :: []) w = iv_cr (iv_rc w [.ref a0, .int x1, .int x2, .int x3, .int x4, .int x5, .int x6] 6) (iv_ct call mc_74 rt 33 L [] (call 89 [.ref a0, .int x1, .int x2, .int x3, .int x4, .int x5, .int x6] w)) := e74_32
theorem f74_33 : iv_V call mc_74 rt 33 (L) (.int x :: st) w = if ¬ x = nI 0 then iv_V call mc_74 rt 36 (L) (st) w else iv_V call mc_74 rt 34 (L) (st) w := e74_33
theorem f74_34 : iv_V call mc_74 rt 34 (L) (st) w = iv_V call mc_74 rt 35 (L) (.int (-5) :: st) w := e74_34
theorem f74_35 : iv_V call mc_74 rt 35 (L) (st) w = iv_ret rt st w := e74_35
theorem f74_36 : iv_V call mc_74 rt 36 (v0 :: v1 :: v2 :: v3 :: v4 :: v5 :: .ref a :: L) (st) w = iv_V call mc_74 rt 37 (v0 :: v1 :: v2 :: v3 :: v4 :: v5 :: .ref a :: L) (.ref a :: st) w := e74_36
theorem f74_37 : iv_V call mc_74 rt 37 (L) (st) w = iv_gf w st 3 2 (iv_kv call mc_74 rt 38 L w) := e74_37
theorem f74_38 : iv_V call mc_74 rt 38 (L) (.int x :: st) w = if x = nI 0 then iv_V call mc_74 rt 41 (L) (st) w else iv_V call mc_74 rt 39 (L) (st) w := e74_38
theorem f74_39 : iv_V call mc_74 rt 39 (L) (st) w = iv_V call mc_74 rt 40 (L) (.int (nI 0) :: st) w := e74_39
theorem f74_40 : iv_V call mc_74 rt 40 (L) (st) w = iv_ret rt st w := e74_40
theorem f74_41 : iv_V call mc_74 rt 41 (v0 :: v1 :: v2 :: v3 :: v4 :: v5 :: v6 :: .int x :: L) (st) w = iv_V call mc_74 rt 42 (v0 :: v1 :: v2 :: v3 :: v4 :: v5 :: v6 :: .int (x + (nI 1)) :: L) (st) w := e74_41
theorem f74_42 : iv_V call mc_74 rt 42 (L) (st) w = iv_V call mc_74 rt 5 (L) (st) w := e74_42
theorem f74_43 : iv_V call mc_74 rt 43 (L) (st) w = iv_V call mc_74 rt 44 (L) (.int (nI 0) :: st) w := e74_43
theorem f74_44 : iv_V call mc_74 rt 44 (L) (st) w = iv_ret rt st w := e74_44
theorem f75_0 : iv_V call mc_75 rt 0 (.ref a :: L) (st) w = iv_V call mc_75 rt 1 (.ref a :: L) (.ref a :: st) w := e75_0
theorem f75_1 : iv_V call mc_75 rt 1 (L) (.ref a :: []) w = iv_V call mc_75 rt 2 (L) ([]) w := e75_1
theorem f75_2 : iv_V call mc_75 rt 2 (.ref a :: L) (st) w = iv_V call mc_75 rt 3 (.ref a :: L) (.ref a :: st) w := e75_2
theorem f75_3 : iv_V call mc_75 rt 3 (v0 :: .int x :: L) (st) w = iv_V call mc_75 rt 4 (v0 :: .int x :: L) (.int x :: st) w := e75_3
theorem f75_4 : iv_V call mc_75 rt 4 (L) (.int x :: st) w = iv_na w 105 .null x (iv_kn call mc_75 rt 5 L st) := e75_4
theorem f75_5 : iv_V call mc_75 rt 5 (L) (st) w = iv_pf w st 3 0 (iv_kw call mc_75 rt 6 L) := e75_5
theorem f75_6 : iv_V call mc_75 rt 6 (.ref a :: L) (st) w = iv_V call mc_75 rt 7 (.ref a :: L) (.ref a :: st) w := e75_6
theorem f75_7 : iv_V call mc_75 rt 7 (L) (st) w = iv_V call mc_75 rt 8 (L) (.int (nI 0) :: st) w := e75_7
theorem f75_8 : iv_V call mc_75 rt 8 (L) (st) w = iv_pf w st 3 1 (iv_kw call mc_75 rt 9 L) := e75_8
theorem f75_9 : iv_V call mc_75 rt 9 (.ref a :: L) (st) w = iv_V call mc_75 rt 10 (.ref a :: L) (.ref a :: st) w := e75_9
theorem f75_10 : iv_V call mc_75 rt 10 (L) (st) w = iv_V call mc_75 rt 11 (L) (.int (nI 0) :: st) w := e75_10
theorem f75_11 : iv_V call mc_75 rt 11 (L) (st) w = iv_pf w st 3 2 (iv_kw call mc_75 rt 12 L) := e75_11
theorem f75_12 : iv_V call mc_75 rt 12 (L) (st) w = iv_rev rt st w := e75_12
theorem f76_0 : iv_V call mc_76 rt 0 (.ref a :: L) (st) w = iv_V call mc_76 rt 1 (.ref a :: L) (.ref a :: st) w := e76_0
theorem f76_1 : iv_V call mc_76 rt 1 (L) (st) w = iv_gf w st 3 1 (iv_kv call mc_76 rt 2 L w) := e76_1
theorem f76_2 : iv_V call mc_76 rt 2 (.ref a :: L) (st) w = iv_V call mc_76 rt 3 (.ref a :: L) (.ref a :: st) w := e76_2
theorem f76_3 : iv_V call mc_76 rt 3 (L) (st) w = iv_gf w st 3 0 (iv_kv call mc_76 rt 4 L w) := e76_3
theorem f76_4 : iv_V call mc_76 rt 4 (L) (st) w = iv_len w st (iv_kx call mc_76 rt 5 L w) := e76_4
theorem f76_5 : iv_V call mc_76 rt 5 (L) (.int y :: .int x :: st) w = if x < y then iv_V call mc_76 rt 8 (L) (st) w else iv_V call mc_76 rt 6 (L) (st) w := e76_5
theorem f76_6 : iv_V call mc_76 rt 6 (L) (st) w = iv_V call mc_76 rt 7 (L) (.int (nI 0) :: st) w := e76_6
theorem f76_7 : iv_V call mc_76 rt 7 (L) (st) w = iv_ret rt st w := e76_7
theorem f76_8 : iv_V call mc_76 rt 8 (.ref a :: L) (st) w = iv_V call mc_76 rt 9 (.ref a :: L) (.ref a :: st) w := e76_8
theorem f76_9 : iv_V call mc_76 rt 9 (L) (st) w = iv_gf w st 3 0 (iv_kv call mc_76 rt 10 L w) := e76_9
theorem f76_10 : iv_V call mc_76 rt 10 (.ref a :: L) (st) w = iv_V call mc_76 rt 11 (.ref a :: L) (.ref a :: st) w := e76_10
theorem f76_11 : iv_V call mc_76 rt 11 (L) (st) w = iv_gf w st 3 1 (iv_kv call mc_76 rt 12 L w) := e76_11
theorem f76_12 : iv_V call mc_76 rt 12 (L) (st) w = iv_nw w 4 (iv_kn call mc_76 rt 13 L st) := e76_12
theorem f76_13 : iv_V call mc_76 rt 13 (L) (.ref a :: st) w = iv_V call mc_76 rt 14 (L) (.ref a :: .ref a :: st) w := e76_13
theorem f76_14 : iv_V call mc_76 rt 14 (v0 :: .int x :: L) (st) w = iv_V call mc_76 rt 15 (v0 :: .int x :: L) (.int x :: st) w := e76_14
theorem f76_15 : iv_V call mc_76 rt 15 (v0 :: v1 :: .int x :: L) (st) w = iv_V call mc_76 rt 16 (v0 :: v1 :: .int x :: L) (.int x :: st) w := e76_15
theorem f76_16 : iv_V call mc_76 rt 16 (v0 :: v1 :: v2 :: .int x :: L) (st) w = iv_V call mc_76 rt 17 (v0 :: v1 :: v2 :: .int x :: L) (.int x :: st) w := e76_16
theorem f76_17 {a0 : Nat} {x1 : Int32} {x2 : Int32} {x3 : Int32} {c0 : Nat} {y1 : Int32} {c2 : Nat} : iv_V call mc_76 rt 17 (L) (.int x3 :: .int x2 :: .int x1 :: .ref a0 :: .ref c2 :: .int y1 :: .ref c0 :: []) w = iv_ct call mc_76 rt 18 L [.ref c2, .int y1, .ref c0] (call 78 [.ref a0, .int x1, .int x2, .int x3] w) := e76_17
theorem f76_18 : iv_V call mc_76 rt 18 (L) (st) w = iv_ust w st (iv_kw call mc_76 rt 19 L) := e76_18
theorem f76_19 : iv_V call mc_76 rt 19 (.ref a :: L) (st) w = iv_V call mc_76 rt 20 (.ref a :: L) (.ref a :: st) w := e76_19
theorem f76_20 : iv_V call mc_76 rt 20 (L) (.ref a :: st) w = iv_V call mc_76 rt 21 (L) (.ref a :: .ref a :: st) w := e76_20
theorem f76_21 : iv_V call mc_76 rt 21 (L) (st) w = iv_gf w st 3 1 (iv_kv call mc_76 rt 22 L w) := e76_21
theorem f76_22 : iv_V call mc_76 rt 22 (L) (st) w = iv_V call mc_76 rt 23 (L) (.int (nI 1) :: st) w := e76_22
theorem f76_23 : iv_V call mc_76 rt 23 (L) (.int y :: .int x :: st) w = iv_V call mc_76 rt 24 (L) (.int (x + y) :: st) w := e76_23
theorem f76_24 : iv_V call mc_76 rt 24 (L) (st) w = iv_pf w st 3 1 (iv_kw call mc_76 rt 25 L) := e76_24
theorem f76_25 : iv_V call mc_76 rt 25 (L) (st) w = iv_V call mc_76 rt 26 (L) (.int (nI 1) :: st) w := e76_25
theorem f76_26 : iv_V call mc_76 rt 26 (L) (st) w = iv_ret rt st w := e76_26
theorem f77_0 : iv_V call mc_77 rt 0 (L) (st) w = iv_V call mc_77 rt 1 (L) (.int (nI 0) :: st) w := e77_0
theorem f77_1 : iv_V call mc_77 rt 1 (v0 :: v1 :: v2 :: u :: L) (.int x :: st) w = iv_V call mc_77 rt 2 (v0 :: v1 :: v2 :: .int x :: L) (st) w := e77_1
theorem f77_2 : iv_V call mc_77 rt 2 (v0 :: v1 :: v2 :: .int x :: L) (st) w = iv_V call mc_77 rt 3 (v0 :: v1 :: v2 :: .int x :: L) (.int x :: st) w := e77_2
theorem f77_3 : iv_V call mc_77 rt 3 (.ref a :: L) (st) w = iv_V call mc_77 rt 4 (.ref a :: L) (.ref a :: st) w := e77_3
theorem f77_4 : iv_V call mc_77 rt 4 (L) (st) w = iv_gf w st 3 1 (iv_kv call mc_77 rt 5 L w) := e77_4
theorem f77_5 : iv_V call mc_77 rt 5 (L) (.int y :: .int x :: st) w = if y ≤ x then iv_V call mc_77 rt 18 (L) (st) w else iv_V call mc_77 rt 6 (L) (st) w := e77_5
theorem f77_6 : iv_V call mc_77 rt 6 (.ref a :: L) (st) w = iv_V call mc_77 rt 7 (.ref a :: L) (.ref a :: st) w := e77_6
theorem f77_7 : iv_V call mc_77 rt 7 (L) (st) w = iv_gf w st 3 0 (iv_kv call mc_77 rt 8 L w) := e77_7
theorem f77_8 : iv_V call mc_77 rt 8 (v0 :: v1 :: v2 :: .int x :: L) (st) w = iv_V call mc_77 rt 9 (v0 :: v1 :: v2 :: .int x :: L) (.int x :: st) w := e77_8
theorem f77_9 : iv_V call mc_77 rt 9 (L) (st) w = iv_ald w st iv_isA (iv_kv call mc_77 rt 10 L w) := e77_9
theorem f77_10 : iv_V call mc_77 rt 10 (v0 :: .int x :: L) (st) w = iv_V call mc_77 rt 11 (v0 :: .int x :: L) (.int x :: st) w := e77_10
theorem f77_11 : iv_V call mc_77 rt 11 (v0 :: v1 :: .int x :: L) (st) w = iv_V call mc_77 rt 12 (v0 :: v1 :: .int x :: L) (.int x :: st) w := e77_11
theorem f77_12 {a0 : Nat} {x1 : Int32} {x2 : Int32} : iv_V call mc_77 rt 12 (L) (.int x2 :: .int x1 :: .ref a0 :: []) w = iv_cr (iv_rc w [.ref a0, .int x1, .int x2] 4) (iv_ct call mc_77 rt 13 L [] (call 79 [.ref a0, .int x1, .int x2] w)) := e77_12
theorem f77_13 : iv_V call mc_77 rt 13 (L) (.int x :: st) w = if ¬ x = nI 0 then iv_V call mc_77 rt 16 (L) (st) w else iv_V call mc_77 rt 14 (L) (st) w := e77_13
theorem f77_14 : iv_V call mc_77 rt 14 (L) (st) w = iv_V call mc_77 rt 15 (L) (.int (nI 0) :: st) w := e77_14
theorem f77_15 : iv_V call mc_77 rt 15 (L) (st) w = iv_ret rt st w := e77_15
theorem f77_16 : iv_V call mc_77 rt 16 (v0 :: v1 :: v2 :: .int x :: L) (st) w = iv_V call mc_77 rt 17 (v0 :: v1 :: v2 :: .int (x + (nI 1)) :: L) (st) w := e77_16
theorem f77_17 : iv_V call mc_77 rt 17 (L) (st) w = iv_V call mc_77 rt 2 (L) (st) w := e77_17
theorem f77_18 : iv_V call mc_77 rt 18 (L) (st) w = iv_V call mc_77 rt 19 (L) (.int (nI 1) :: st) w := e77_18
theorem f77_19 : iv_V call mc_77 rt 19 (L) (st) w = iv_ret rt st w := e77_19
theorem f78_0 : iv_V call mc_78 rt 0 (.ref a :: L) (st) w = iv_V call mc_78 rt 1 (.ref a :: L) (.ref a :: st) w := e78_0
theorem f78_1 : iv_V call mc_78 rt 1 (L) (.ref a :: []) w = iv_V call mc_78 rt 2 (L) ([]) w := e78_1
theorem f78_2 : iv_V call mc_78 rt 2 (.ref a :: L) (st) w = iv_V call mc_78 rt 3 (.ref a :: L) (.ref a :: st) w := e78_2
theorem f78_3 : iv_V call mc_78 rt 3 (v0 :: .int x :: L) (st) w = iv_V call mc_78 rt 4 (v0 :: .int x :: L) (.int x :: st) w := e78_3
theorem f78_4 : iv_V call mc_78 rt 4 (L) (st) w = iv_pf w st 4 0 (iv_kw call mc_78 rt 5 L) := e78_4
theorem f78_5 : iv_V call mc_78 rt 5 (.ref a :: L) (st) w = iv_V call mc_78 rt 6 (.ref a :: L) (.ref a :: st) w := e78_5
theorem f78_6 : iv_V call mc_78 rt 6 (v0 :: v1 :: .int x :: L) (st) w = iv_V call mc_78 rt 7 (v0 :: v1 :: .int x :: L) (.int x :: st) w := e78_6
theorem f78_7 : iv_V call mc_78 rt 7 (L) (st) w = iv_pf w st 4 1 (iv_kw call mc_78 rt 8 L) := e78_7
theorem f78_8 : iv_V call mc_78 rt 8 (.ref a :: L) (st) w = iv_V call mc_78 rt 9 (.ref a :: L) (.ref a :: st) w := e78_8
theorem f78_9 : iv_V call mc_78 rt 9 (v0 :: v1 :: v2 :: .int x :: L) (st) w = iv_V call mc_78 rt 10 (v0 :: v1 :: v2 :: .int x :: L) (.int x :: st) w := e78_9
theorem f78_10 : iv_V call mc_78 rt 10 (L) (st) w = iv_pf w st 4 2 (iv_kw call mc_78 rt 11 L) := e78_10
theorem f78_11 : iv_V call mc_78 rt 11 (L) (st) w = iv_rev rt st w := e78_11
theorem f79_0 : iv_V call mc_79 rt 0 (.ref a :: L) (st) w = iv_V call mc_79 rt 1 (.ref a :: L) (.ref a :: st) w := e79_0
theorem f79_1 : iv_V call mc_79 rt 1 (L) (st) w = iv_gf w st 4 0 (iv_kv call mc_79 rt 2 L w) := e79_1
theorem f79_2 : iv_V call mc_79 rt 2 (L) (.int x :: st) w = if x = nI 0 then iv_V call mc_79 rt 3 (L) (st) w else if x = nI 1 then iv_V call mc_79 rt 18 (L) (st) w else if x = nI 2 then iv_V call mc_79 rt 18 (L) (st) w else iv_V call mc_79 rt 29 (L) (st) w := e79_2
theorem f79_3 : iv_V call mc_79 rt 3 (v0 :: v1 :: .int x :: L) (st) w = iv_V call mc_79 rt 4 (v0 :: v1 :: .int x :: L) (.int x :: st) w := e79_3
theorem f79_4 : iv_V call mc_79 rt 4 (L) (.int x :: st) w = if x = nI 0 then iv_V call mc_79 rt 12 (L) (st) w else iv_V call mc_79 rt 5 (L) (st) w := e79_4
theorem f79_5 : iv_V call mc_79 rt 5 (v0 :: .int x :: L) (st) w = iv_V call mc_79 rt 6 (v0 :: .int x :: L) (.int x :: st) w := e79_5
theorem f79_6 : iv_V call mc_79 rt 6 (L) (st) w = iv_V call mc_79 rt 7 (L) (.int (nI 3) :: st) w := e79_6
theorem f79_7 : iv_V call mc_79 rt 7 (L) (.int y :: .int x :: st) w = if ¬ x = y then iv_V call mc_79 rt 10 (L) (st) w else iv_V call mc_79 rt 8 (L) (st) w := e79_7
theorem f79_8 : iv_V call mc_79 rt 8 (L) (st) w = iv_V call mc_79 rt 9 (L) (.int (nI 1) :: st) w := e79_8
theorem f79_9 : iv_V call mc_79 rt 9 (L) (st) w = iv_V call mc_79 rt 17 (L) (st) w := e79_9
theorem f79_10 : iv_V call mc_79 rt 10 (L) (st) w = iv_V call mc_79 rt 11 (L) (.int (nI 0) :: st) w := e79_10
theorem f79_11 : iv_V call mc_79 rt 11 (L) (st) w = iv_V call mc_79 rt 17 (L) (st) w := e79_11
theorem f79_12 : iv_V call mc_79 rt 12 (v0 :: .int x :: L) (st) w = iv_V call mc_79 rt 13 (v0 :: .int x :: L) (.int x :: st) w := e79_12
theorem f79_13 : iv_V call mc_79 rt 13 (L) (.int x :: st) w = if x = nI 0 then iv_V call mc_79 rt 16 (L) (st) w else iv_V call mc_79 rt 14 (L) (st) w := e79_13
theorem f79_14 : iv_V call mc_79 rt 14 (L) (st) w = iv_V call mc_79 rt 15 (L) (.int (nI 1) :: st) w := e79_14
theorem f79_15 : iv_V call mc_79 rt 15 (L) (st) w = iv_V call mc_79 rt 17 (L) (st) w := e79_15
theorem f79_16 : iv_V call mc_79 rt 16 (L) (st) w = iv_V call mc_79 rt 17 (L) (.int (nI 0) :: st) w := e79_16
theorem f79_17 : iv_V call mc_79 rt 17 (L) (st) w = iv_ret rt st w := e79_17
theorem f79_18 : iv_V call mc_79 rt 18 (v0 :: .int x :: L) (st) w = iv_V call mc_79 rt 19 (v0 :: .int x :: L) (.int x :: st) w := e79_18
theorem f79_19 : iv_V call mc_79 rt 19 (v0 :: v1 :: .int x :: L) (st) w = iv_V call mc_79 rt 20 (v0 :: v1 :: .int x :: L) (.int x :: st) w := e79_19
theorem f79_20 : iv_V call mc_79 rt 20 (L) (.int x :: st) w = if x = nI 0 then iv_V call mc_79 rt 23 (L) (st) w else iv_V call mc_79 rt 21 (L) (st) w := e79_20
theorem f79_21 : iv_V call mc_79 rt 21 (L) (st) w = iv_V call mc_79 rt 22 (L) (.int (nI 2) :: st) w := e79_21
theorem f79_22 : iv_V call mc_79 rt 22 (L) (st) w = iv_V call mc_79 rt 24 (L) (st) w := e79_22
theorem f79_23 : iv_V call mc_79 rt 23 (L) (st) w = iv_V call mc_79 rt 24 (L) (.int (nI 0) :: st) w := e79_23
theorem f79_24 : iv_V call mc_79 rt 24 (L) (.int y :: .int x :: st) w = if ¬ x = y then iv_V call mc_79 rt 27 (L) (st) w else iv_V call mc_79 rt 25 (L) (st) w := e79_24
theorem f79_25 : iv_V call mc_79 rt 25 (L) (st) w = iv_V call mc_79 rt 26 (L) (.int (nI 1) :: st) w := e79_25
theorem f79_26 : iv_V call mc_79 rt 26 (L) (st) w = iv_V call mc_79 rt 28 (L) (st) w := e79_26
theorem f79_27 : iv_V call mc_79 rt 27 (L) (st) w = iv_V call mc_79 rt 28 (L) (.int (nI 0) :: st) w := e79_27
theorem f79_28 : iv_V call mc_79 rt 28 (L) (st) w = iv_ret rt st w := e79_28
theorem f79_29 : iv_V call mc_79 rt 29 (v0 :: v1 :: .int x :: L) (st) w = iv_V call mc_79 rt 30 (v0 :: v1 :: .int x :: L) (.int x :: st) w := e79_29
theorem f79_30 : iv_V call mc_79 rt 30 (L) (.int x :: st) w = if ¬ x = nI 0 then iv_V call mc_79 rt 39 (L) (st) w else iv_V call mc_79 rt 31 (L) (st) w := e79_30
theorem f79_31 : iv_V call mc_79 rt 31 (v0 :: .int x :: L) (st) w = iv_V call mc_79 rt 32 (v0 :: .int x :: L) (.int x :: st) w := e79_31
theorem f79_32 : iv_V call mc_79 rt 32 (L) (st) w = iv_V call mc_79 rt 33 (L) (.int (nI 2) :: st) w := e79_32
theorem f79_33 : iv_V call mc_79 rt 33 (L) (.int y :: .int x :: st) w = if x = y then iv_V call mc_79 rt 37 (L) (st) w else iv_V call mc_79 rt 34 (L) (st) w := e79_33
theorem f79_34 : iv_V call mc_79 rt 34 (v0 :: .int x :: L) (st) w = iv_V call mc_79 rt 35 (v0 :: .int x :: L) (.int x :: st) w := e79_34
theorem f79_35 : iv_V call mc_79 rt 35 (L) (st) w = iv_V call mc_79 rt 36 (L) (.int (nI 3) :: st) w := e79_35
theorem f79_36 : iv_V call mc_79 rt 36 (L) (.int y :: .int x :: st) w = if ¬ x = y then iv_V call mc_79 rt 39 (L) (st) w else iv_V call mc_79 rt 37 (L) (st) w := e79_36
theorem f79_37 : iv_V call mc_79 rt 37 (L) (st) w = iv_V call mc_79 rt 38 (L) (.int (nI 1) :: st) w := e79_37
theorem f79_38 : iv_V call mc_79 rt 38 (L) (st) w = iv_V call mc_79 rt 40 (L) (st) w := e79_38
theorem f79_39 : iv_V call mc_79 rt 39 (L) (st) w = iv_V call mc_79 rt 40 (L) (.int (nI 0) :: st) w := e79_39
theorem f79_40 : iv_V call mc_79 rt 40 (L) (st) w = iv_ret rt st w := e79_40
theorem f80_0 : iv_V call mc_80 rt 0 (.ref a :: L) (st) w = iv_V call mc_80 rt 1 (.ref a :: L) (.ref a :: st) w := e80_0
theorem f80_1 : iv_V call mc_80 rt 1 (L) (st) w = iv_gf w st 4 0 (iv_kv call mc_80 rt 2 L w) := e80_1
theorem f80_2 : iv_V call mc_80 rt 2 (L) (.int x :: st) w = if x = nI 0 then iv_V call mc_80 rt 3 (L) (st) w else if x = nI 1 then iv_V call mc_80 rt 10 (L) (st) w else if x = nI 2 then iv_V call mc_80 rt 18 (L) (st) w else iv_V call mc_80 rt 26 (L) (st) w := e80_2
theorem f80_3 : iv_V call mc_80 rt 3 (v0 :: .int x :: L) (st) w = iv_V call mc_80 rt 4 (v0 :: .int x :: L) (.int x :: st) w := e80_3
theorem f80_4 : iv_V call mc_80 rt 4 (L) (st) w = iv_V call mc_80 rt 5 (L) (.int (-1) :: st) w := e80_4
theorem f80_5 : iv_V call mc_80 rt 5 (L) (.int y :: .int x :: st) w = if ¬ x = y then iv_V call mc_80 rt 8 (L) (st) w else iv_V call mc_80 rt 6 (L) (st) w := e80_5
theorem f80_6 : iv_V call mc_80 rt 6 (L) (st) w = iv_V call mc_80 rt 7 (L) (.int (nI 1) :: st) w := e80_6
theorem f80_7 : iv_V call mc_80 rt 7 (L) (st) w = iv_V call mc_80 rt 9 (L) (st) w := e80_7
theorem f80_8 : iv_V call mc_80 rt 8 (L) (st) w = iv_V call mc_80 rt 9 (L) (.int (nI 0) :: st) w := e80_8
theorem f80_9 : iv_V call mc_80 rt 9 (L) (st) w = iv_ret rt st w := e80_9
theorem f80_10 : iv_V call mc_80 rt 10 (v0 :: .int x :: L) (st) w = iv_V call mc_80 rt 11 (v0 :: .int x :: L) (.int x :: st) w := e80_10
theorem f80_11 : iv_V call mc_80 rt 11 (.ref a :: L) (st) w = iv_V call mc_80 rt 12 (.ref a :: L) (.ref a :: st) w := e80_11
theorem f80_12 : iv_V call mc_80 rt 12 (L) (st) w = iv_gf w st 4 1 (iv_kv call mc_80 rt 13 L w) := e80_12
theorem f80_13 : iv_V call mc_80 rt 13 (L) (.int y :: .int x :: st) w = if y ≤ x then iv_V call mc_80 rt 16 (L) (st) w else iv_V call mc_80 rt 14 (L) (st) w := e80_13
theorem f80_14 : iv_V call mc_80 rt 14 (L) (st) w = iv_V call mc_80 rt 15 (L) (.int (nI 1) :: st) w := e80_14
theorem f80_15 : iv_V call mc_80 rt 15 (L) (st) w = iv_V call mc_80 rt 17 (L) (st) w := e80_15
theorem f80_16 : iv_V call mc_80 rt 16 (L) (st) w = iv_V call mc_80 rt 17 (L) (.int (nI 0) :: st) w := e80_16
theorem f80_17 : iv_V call mc_80 rt 17 (L) (st) w = iv_ret rt st w := e80_17
theorem f80_18 : iv_V call mc_80 rt 18 (v0 :: .int x :: L) (st) w = iv_V call mc_80 rt 19 (v0 :: .int x :: L) (.int x :: st) w := e80_18
theorem f80_19 : iv_V call mc_80 rt 19 (.ref a :: L) (st) w = iv_V call mc_80 rt 20 (.ref a :: L) (.ref a :: st) w := e80_19
theorem f80_20 : iv_V call mc_80 rt 20 (L) (st) w = iv_gf w st 4 1 (iv_kv call mc_80 rt 21 L w) := e80_20
theorem f80_21 : iv_V call mc_80 rt 21 (L) (.int y :: .int x :: st) w = if x ≤ y then iv_V call mc_80 rt 24 (L) (st) w else iv_V call mc_80 rt 22 (L) (st) w := e80_21
theorem f80_22 : iv_V call mc_80 rt 22 (L) (st) w = iv_V call mc_80 rt 23 (L) (.int (nI 1) :: st) w := e80_22
theorem f80_23 : iv_V call mc_80 rt 23 (L) (st) w = iv_V call mc_80 rt 25 (L) (st) w := e80_23
theorem f80_24 : iv_V call mc_80 rt 24 (L) (st) w = iv_V call mc_80 rt 25 (L) (.int (nI 0) :: st) w := e80_24
theorem f80_25 : iv_V call mc_80 rt 25 (L) (st) w = iv_ret rt st w := e80_25
theorem f80_26 : iv_V call mc_80 rt 26 (v0 :: .int x :: L) (st) w = iv_V call mc_80 rt 27 (v0 :: .int x :: L) (.int x :: st) w := e80_26
theorem f80_27 : iv_V call mc_80 rt 27 (L) (st) w = iv_V call mc_80 rt 28 (L) (.int (-1) :: st) w := e80_27
theorem f80_28 : iv_V call mc_80 rt 28 (L) (.int y :: .int x :: st) w = if x = y then iv_V call mc_80 rt 39 (L) (st) w else iv_V call mc_80 rt 29 (L) (st) w := e80_28
theorem f80_29 : iv_V call mc_80 rt 29 (v0 :: .int x :: L) (st) w = iv_V call mc_80 rt 30 (v0 :: .int x :: L) (.int x :: st) w := e80_29
theorem f80_30 : iv_V call mc_80 rt 30 (.ref a :: L) (st) w = iv_V call mc_80 rt 31 (.ref a :: L) (.ref a :: st) w := e80_30
theorem f80_31 : iv_V call mc_80 rt 31 (L) (st) w = iv_gf w st 4 1 (iv_kv call mc_80 rt 32 L w) := e80_31
theorem f80_32 : iv_V call mc_80 rt 32 (L) (.int y :: .int x :: st) w = if x < y then iv_V call mc_80 rt 37 (L) (st) w else iv_V call mc_80 rt 33 (L) (st) w := e80_32
theorem f80_33 : iv_V call mc_80 rt 33 (v0 :: .int x :: L) (st) w = iv_V call mc_80 rt 34 (v0 :: .int x :: L) (.int x :: st) w := e80_33
theorem f80_34 : iv_V call mc_80 rt 34 (.ref a :: L) (st) w = iv_V call mc_80 rt 35 (.ref a :: L) (.ref a :: st) w := e80_34
theorem f80_35 : iv_V call mc_80 rt 35 (L) (st) w = iv_gf w st 4 2 (iv_kv call mc_80 rt 36 L w) := e80_35
theorem f80_36 : iv_V call mc_80 rt 36 (L) (.int y :: .int x :: st) w = if x ≤ y then iv_V call mc_80 rt 39 (L) (st) w else iv_V call mc_80 rt 37 (L) (st) w := e80_36
theorem f80_37 : iv_V call mc_80 rt 37 (L) (st) w = iv_V call mc_80 rt 38 (L) (.int (nI 1) :: st) w := e80_37
theorem f80_38 : iv_V call mc_80 rt 38 (L) (st) w = iv_V call mc_80 rt 40 (L) (st) w := e80_38
theorem f80_39 : iv_V call mc_80 rt 39 (L) (st) w = iv_V call mc_80 rt 40 (L) (.int (nI 0) :: st) w := e80_39
theorem f80_40 : iv_V call mc_80 rt 40 (L) (st) w = iv_ret rt st w := e80_40
theorem f82_0 : iv_V call mc_82 rt 0 (v0 :: .int x :: L) (st) w = iv_V call mc_82 rt 1 (v0 :: .int x :: L) (.int x :: st) w := e82_0
theorem f82_1 : iv_V call mc_82 rt 1 (L) (.int x :: st) w = if x < nI 0 then iv_V call mc_82 rt 7 (L) (st) w else iv_V call mc_82 rt 2 (L) (st) w := e82_1
theorem f82_2 : iv_V call mc_82 rt 2 (v0 :: .int x :: L) (st) w = iv_V call mc_82 rt 3 (v0 :: .int x :: L) (.int x :: st) w := e82_2
theorem f82_3 : iv_V call mc_82 rt 3 (L) (st) w = iv_V call mc_82 rt 4 (L) (.int (nI 6) :: st) w := e82_3
theorem f82_4 : iv_V call mc_82 rt 4 (L) (.int y :: .int x :: st) w = if y ≤ x then iv_V call mc_82 rt 7 (L) (st) w else iv_V call mc_82 rt 5 (L) (st) w := e82_4
theorem f82_5 : iv_V call mc_82 rt 5 (L) (st) w = iv_V call mc_82 rt 6 (L) (.int (nI 1) :: st) w := e82_5
theorem f82_6 : iv_V call mc_82 rt 6 (L) (st) w = iv_V call mc_82 rt 8 (L) (st) w := e82_6
theorem f82_7 : iv_V call mc_82 rt 7 (L) (st) w = iv_V call mc_82 rt 8 (L) (.int (nI 0) :: st) w := e82_7
theorem f82_8 : iv_V call mc_82 rt 8 (L) (st) w = iv_ret rt st w := e82_8
theorem f83_0 : iv_V call mc_83 rt 0 (v0 :: .int x :: L) (st) w = iv_V call mc_83 rt 1 (v0 :: .int x :: L) (.int x :: st) w := e83_0
theorem f83_1 : iv_V call mc_83 rt 1 (L) (st) w = iv_V call mc_83 rt 2 (L) (.int (nI 6) :: st) w := e83_1
theorem f83_2 : iv_V call mc_83 rt 2 (L) (.int y :: .int x :: st) w = if x < y then iv_V call mc_83 rt 8 (L) (st) w else iv_V call mc_83 rt 3 (L) (st) w := e83_2
theorem f83_3 : iv_V call mc_83 rt 3 (v0 :: .int x :: L) (st) w = iv_V call mc_83 rt 4 (v0 :: .int x :: L) (.int x :: st) w := e83_3
theorem f83_4 : iv_V call mc_83 rt 4 (L) (st) w = iv_V call mc_83 rt 5 (L) (.int (nI 8) :: st) w := e83_4
theorem f83_5 : iv_V call mc_83 rt 5 (L) (.int y :: .int x :: st) w = if y ≤ x then iv_V call mc_83 rt 8 (L) (st) w else iv_V call mc_83 rt 6 (L) (st) w := e83_5
theorem f83_6 : iv_V call mc_83 rt 6 (L) (st) w = iv_V call mc_83 rt 7 (L) (.int (nI 1) :: st) w := e83_6
theorem f83_7 : iv_V call mc_83 rt 7 (L) (st) w = iv_V call mc_83 rt 9 (L) (st) w := e83_7
theorem f83_8 : iv_V call mc_83 rt 8 (L) (st) w = iv_V call mc_83 rt 9 (L) (.int (nI 0) :: st) w := e83_8
theorem f83_9 : iv_V call mc_83 rt 9 (L) (st) w = iv_ret rt st w := e83_9
theorem f84_0 : iv_V call mc_84 rt 0 (.ref a :: L) (st) w = iv_V call mc_84 rt 1 (.ref a :: L) (.ref a :: st) w := e84_0
theorem f84_1 : iv_V call mc_84 rt 1 (L) (st) w = iv_gf w st 5 0 (iv_kv call mc_84 rt 2 L w) := e84_1
theorem f84_2 : iv_V call mc_84 rt 2 (v0 :: .int x :: L) (st) w = iv_V call mc_84 rt 3 (v0 :: .int x :: L) (.int x :: st) w := e84_2
theorem f84_3 : iv_V call mc_84 rt 3 (L) (st) w = iv_ald w st iv_isI (iv_kv call mc_84 rt 4 L w) := e84_3
theorem f84_4 : iv_V call mc_84 rt 4 (v0 :: v1 :: .int x :: L) (st) w = iv_V call mc_84 rt 5 (v0 :: v1 :: .int x :: L) (.int x :: st) w := e84_4
theorem f84_5 : iv_V call mc_84 rt 5 (L) (.int y :: .int x :: st) w = iv_V call mc_84 rt 6 (L) (.int (x >>> (y &&& 31)) :: st) w := e84_5
theorem f84_6 : iv_V call mc_84 rt 6 (L) (st) w = iv_V call mc_84 rt 7 (L) (.int (nI 1) :: st) w := e84_6
theorem f84_7 : iv_V call mc_84 rt 7 (L) (.int y :: .int x :: st) w = iv_V call mc_84 rt 8 (L) (.int (x &&& y) :: st) w := e84_7
theorem f84_8 : iv_V call mc_84 rt 8 (L) (.int x :: st) w = if x = nI 0 then iv_V call mc_84 rt 11 (L) (st) w else iv_V call mc_84 rt 9 (L) (st) w := e84_8
theorem f84_9 : iv_V call mc_84 rt 9 (L) (st) w = iv_V call mc_84 rt 10 (L) (.int (nI 1) :: st) w := e84_9
theorem f84_10 : iv_V call mc_84 rt 10 (L) (st) w = iv_V call mc_84 rt 12 (L) (st) w := e84_10
theorem f84_11 : iv_V call mc_84 rt 11 (L) (st) w = iv_V call mc_84 rt 12 (L) (.int (nI 0) :: st) w := e84_11
theorem f84_12 : iv_V call mc_84 rt 12 (L) (st) w = iv_ret rt st w := e84_12
theorem f85_0 : iv_V call mc_85 rt 0 (L) (st) w = iv_V call mc_85 rt 1 (L) (.int (nI 0) :: st) w := e85_0
theorem f85_1 : iv_V call mc_85 rt 1 (v0 :: v1 :: v2 :: u :: L) (.int x :: st) w = iv_V call mc_85 rt 2 (v0 :: v1 :: v2 :: .int x :: L) (st) w := e85_1
theorem f85_2 : iv_V call mc_85 rt 2 (v0 :: v1 :: v2 :: .int x :: L) (st) w = iv_V call mc_85 rt 3 (v0 :: v1 :: v2 :: .int x :: L) (.int x :: st) w := e85_2
theorem f85_3 : iv_V call mc_85 rt 3 (L) (st) w = iv_V call mc_85 rt 4 (L) (.int (nI 6) :: st) w := e85_3
theorem f85_4 : iv_V call mc_85 rt 4 (L) (.int y :: .int x :: st) w = if y ≤ x then iv_V call mc_85 rt 23 (L) (st) w else iv_V call mc_85 rt 5 (L) (st) w := e85_4
theorem f85_5 : iv_V call mc_85 rt 5 (.ref a :: L) (st) w = iv_V call mc_85 rt 6 (.ref a :: L) (.ref a :: st) w := e85_5
theorem f85_6 : iv_V call mc_85 rt 6 (v0 :: v1 :: v2 :: .int x :: L) (st) w = iv_V call mc_85 rt 7 (v0 :: v1 :: v2 :: .int x :: L) (.int x :: st) w := e85_6
theorem f85_7 : iv_V call mc_85 rt 7 (v0 :: .int x :: L) (st) w = iv_V call mc_85 rt 8 (v0 :: .int x :: L) (.int x :: st) w := e85_7
theorem f85_8 {a0 : Nat} {x1 : Int32} {x2 : Int32} : iv_V call mc_85 rt 8 (L) (.int x2 :: .int x1 :: .ref a0 :: []) w = iv_cr (iv_rc w [.ref a0, .int x1, .int x2] 5) (iv_ct call mc_85 rt 9 L [] (call 84 [.ref a0, .int x1, .int x2] w)) := e85_8
theorem f85_9 : iv_V call mc_85 rt 9 (L) (.int x :: st) w = if x = nI 0 then iv_V call mc_85 rt 21 (L) (st) w else iv_V call mc_85 rt 10 (L) (st) w := e85_9
theorem f85_10 : iv_V call mc_85 rt 10 (.ref a :: L) (st) w = iv_V call mc_85 rt 11 (.ref a :: L) (.ref a :: st) w := e85_10
theorem f85_11 : iv_V call mc_85 rt 11 (L) (st) w = iv_gf w st 5 0 (iv_kv call mc_85 rt 12 L w) := e85_11
theorem f85_12 : iv_V call mc_85 rt 12 (v0 :: v1 :: v2 :: .int x :: L) (st) w = iv_V call mc_85 rt 13 (v0 :: v1 :: v2 :: .int x :: L) (.int x :: st) w := e85_12
theorem f85_13 : iv_V call mc_85 rt 13 (L) (.int x :: .ref a :: st) w = iv_V call mc_85 rt 14 (L) (.int x :: .ref a :: .int x :: .ref a :: st) w := e85_13
theorem f85_14 : iv_V call mc_85 rt 14 (L) (st) w = iv_ald w st iv_isI (iv_kv call mc_85 rt 15 L w) := e85_14
theorem f85_15 : iv_V call mc_85 rt 15 (.ref a :: L) (st) w = iv_V call mc_85 rt 16 (.ref a :: L) (.ref a :: st) w := e85_15
theorem f85_16 : iv_V call mc_85 rt 16 (L) (st) w = iv_gf w st 5 0 (iv_kv call mc_85 rt 17 L w) := e85_16
theorem f85_17 : iv_V call mc_85 rt 17 (v0 :: v1 :: .int x :: L) (st) w = iv_V call mc_85 rt 18 (v0 :: v1 :: .int x :: L) (.int x :: st) w := e85_17
theorem f85_18 : iv_V call mc_85 rt 18 (L) (st) w = iv_ald w st iv_isI (iv_kv call mc_85 rt 19 L w) := e85_18
theorem f85_19 : iv_V call mc_85 rt 19 (L) (.int y :: .int x :: st) w = iv_V call mc_85 rt 20 (L) (.int (x ||| y) :: st) w := e85_19
theorem f85_20 : iv_V call mc_85 rt 20 (L) (st) w = iv_ast w st iv_isI (iv_kw call mc_85 rt 21 L) := e85_20
theorem f85_21 : iv_V call mc_85 rt 21 (v0 :: v1 :: v2 :: .int x :: L) (st) w = iv_V call mc_85 rt 22 (v0 :: v1 :: v2 :: .int (x + (nI 1)) :: L) (st) w := e85_21
theorem f85_22 : iv_V call mc_85 rt 22 (L) (st) w = iv_V call mc_85 rt 2 (L) (st) w := e85_22
theorem f85_23 : iv_V call mc_85 rt 23 (L) (st) w = iv_rev rt st w := e85_23
theorem f86_0 : iv_V call mc_86 rt 0 (v0 :: .int x :: L) (st) w = iv_V call mc_86 rt 1 (v0 :: .int x :: L) (.int x :: st) w := e86_0
theorem f86_1 : iv_V call mc_86 rt 1 (L) (st) w = iv_V call mc_86 rt 2 (L) (.int (nI 6) :: st) w := e86_1
theorem f86_2 : iv_V call mc_86 rt 2 (L) (.int y :: .int x :: st) w = if y ≤ x then iv_V call mc_86 rt 8 (L) (st) w else iv_V call mc_86 rt 3 (L) (st) w := e86_2
theorem f86_3 : iv_V call mc_86 rt 3 (.ref a :: L) (st) w = iv_V call mc_86 rt 4 (.ref a :: L) (.ref a :: st) w := e86_3
theorem f86_4 : iv_V call mc_86 rt 4 (L) (st) w = iv_gf w st 5 2 (iv_kv call mc_86 rt 5 L w) := e86_4
theorem f86_5 : iv_V call mc_86 rt 5 (v0 :: .int x :: L) (st) w = iv_V call mc_86 rt 6 (v0 :: .int x :: L) (.int x :: st) w := e86_5
theorem f86_6 {a0 : Nat} {x1 : Int32} : iv_V call mc_86 rt 6 (L) (.int x1 :: .ref a0 :: []) w = iv_cr (iv_rc w [.ref a0, .int x1] 7) (iv_ct call mc_86 rt 7 L [] (call 95 [.ref a0, .int x1] w)) := e86_6
theorem f86_7 : iv_V call mc_86 rt 7 (L) (st) w = iv_ret rt st w := e86_7
theorem f86_8 : iv_V call mc_86 rt 8 (v0 :: v1 :: .int x :: L) (st) w = iv_V call mc_86 rt 9 (v0 :: v1 :: .int x :: L) (.int x :: st) w := e86_8
theorem f86_9 : iv_V call mc_86 rt 9 (L) (st) w = iv_V call mc_86 rt 10 (L) (.int (nI 2) :: st) w := e86_9
theorem f86_10 : iv_V call mc_86 rt 10 (L) (.int y :: .int x :: st) w = if x < y then iv_V call mc_86 rt 13 (L) (st) w else iv_V call mc_86 rt 11 (L) (st) w := e86_10
theorem f86_11 : iv_V call mc_86 rt 11 (L) (st) w = iv_V call mc_86 rt 12 (L) (.int (nI 0) :: st) w := e86_11
theorem f86_12 : iv_V call mc_86 rt 12 (L) (st) w = iv_ret rt st w := e86_12
theorem f86_13 : iv_V call mc_86 rt 13 (.ref a :: L) (st) w = iv_V call mc_86 rt 14 (.ref a :: L) (.ref a :: st) w := e86_13
theorem f86_14 : iv_V call mc_86 rt 14 (L) (st) w = iv_gf w st 5 1 (iv_kv call mc_86 rt 15 L w) := e86_14
theorem f86_15 : iv_V call mc_86 rt 15 (v0 :: .int x :: L) (st) w = iv_V call mc_86 rt 16 (v0 :: .int x :: L) (.int x :: st) w := e86_15
theorem f86_16 : iv_V call mc_86 rt 16 (L) (st) w = iv_V call mc_86 rt 17 (L) (.int (nI 6) :: st) w := e86_16
theorem f86_17 : iv_V call mc_86 rt 17 (L) (.int y :: .int x :: st) w = iv_V call mc_86 rt 18 (L) (.int (x - y) :: st) w := e86_17
theorem f86_18 : iv_V call mc_86 rt 18 (L) (st) w = iv_ald w st iv_isA (iv_kv call mc_86 rt 19 L w) := e86_18
theorem f86_19 : iv_V call mc_86 rt 19 (v0 :: v1 :: v2 :: u :: L) (.ref a :: st) w = iv_V call mc_86 rt 20 (v0 :: v1 :: v2 :: .ref a :: L) (st) w := e86_19
theorem f86_20 : iv_V call mc_86 rt 20 (L) (st) w = iv_V call mc_86 rt 21 (L) (.int (nI 0) :: st) w := e86_20
theorem f86_21 : iv_V call mc_86 rt 21 (v0 :: v1 :: v2 :: v3 :: u :: L) (.int x :: st) w = iv_V call mc_86 rt 22 (v0 :: v1 :: v2 :: v3 :: .int x :: L) (st) w := e86_21
theorem f86_22 : iv_V call mc_86 rt 22 (v0 :: v1 :: v2 :: v3 :: .int x :: L) (st) w = iv_V call mc_86 rt 23 (v0 :: v1 :: v2 :: v3 :: .int x :: L) (.int x :: st) w := e86_22
theorem f86_23 : iv_V call mc_86 rt 23 (v0 :: v1 :: v2 :: .ref a :: L) (st) w = iv_V call mc_86 rt 24 (v0 :: v1 :: v2 :: .ref a :: L) (.ref a :: st) w := e86_23
theorem f86_24 : iv_V call mc_86 rt 24 (L) (st) w = iv_gf w st 7 1 (iv_kv call mc_86 rt 25 L w) := e86_24
theorem f86_25 : iv_V call mc_86 rt 25 (L) (.int y :: .int x :: st) w = if y ≤ x then iv_V call mc_86 rt 40 (L) (st) w else iv_V call mc_86 rt 26 (L) (st) w := e86_25
theorem f86_26 : iv_V call mc_86 rt 26 (.ref a :: L) (st) w = iv_V call mc_86 rt 27 (.ref a :: L) (.ref a :: st) w := e86_26
theorem f86_27 : iv_V call mc_86 rt 27 (v0 :: v1 :: v2 :: .ref a :: L) (st) w = iv_V call mc_86 rt 28 (v0 :: v1 :: v2 :: .ref a :: L) (.ref a :: st) w := e86_27
theorem f86_28 : iv_V call mc_86 rt 28 (L) (st) w = iv_gf w st 7 0 (iv_kv call mc_86 rt 29 L w) := e86_28
theorem f86_29 : iv_V call mc_86 rt 29 (v0 :: v1 :: v2 :: v3 :: .int x :: L) (st) w = iv_V call mc_86 rt 30 (v0 :: v1 :: v2 :: v3 :: .int x :: L) (.int x :: st) w := e86_29
theorem f86_30 : iv_V call mc_86 rt 30 (L) (st) w = iv_ald w st iv_isI (iv_kv call mc_86 rt 31 L w) := e86_30
theorem f86_31 : iv_V call mc_86 rt 31 (v0 :: v1 :: .int x :: L) (st) w = iv_V call mc_86 rt 32 (v0 :: v1 :: .int x :: L) (.int x :: st) w := e86_31
theorem f86_32 : iv_V call mc_86 rt 32 (L) (st) w = iv_V call mc_86 rt 33 (L) (.int (nI 1) :: st) w := e86_32
theorem f86_33 : iv_V call mc_86 rt 33 (L) (.int y :: .int x :: st) w = iv_V call mc_86 rt 34 (L) (.int (x + y) :: st) w := e86_33
theorem f86_34 {a0 : Nat} {x1 : Int32} {x2 : Int32} : iv_V call mc_86 rt 34 (L) (.int x2 :: .int x1 :: .ref a0 :: []) w = iv_cr (iv_rc w [.ref a0, .int x1, .int x2] 5) (iv_ct call mc_86 rt 35 L [] (call 86 [.ref a0, .int x1, .int x2] w)) := e86_34
theorem f86_35 : iv_V call mc_86 rt 35 (L) (.int x :: st) w = if ¬ x = nI 0 then iv_V call mc_86 rt 38 (L) (st) w else iv_V call mc_86 rt 36 (L) (st) w := e86_35
theorem f86_36 : iv_V call mc_86 rt 36 (L) (st) w = iv_V call mc_86 rt 37 (L) (.int (nI 0) :: st) w := e86_36
theorem f86_37 : iv_V call mc_86 rt 37 (L) (st) w = iv_ret rt st w := e86_37
theorem f86_38 : iv_V call mc_86 rt 38 (v0 :: v1 :: v2 :: v3 :: .int x :: L) (st) w = iv_V call mc_86 rt 39 (v0 :: v1 :: v2 :: v3 :: .int (x + (nI 1)) :: L) (st) w := e86_38
theorem f86_39 : iv_V call mc_86 rt 39 (L) (st) w = iv_V call mc_86 rt 22 (L) (st) w := e86_39
theorem f86_40 : iv_V call mc_86 rt 40 (L) (st) w = iv_V call mc_86 rt 41 (L) (.int (nI 1) :: st) w := e86_40
theorem f86_41 : iv_V call mc_86 rt 41 (L) (st) w = iv_ret rt st w := e86_41
theorem f88_0 : iv_V call mc_88 rt 0 (v0 :: .int x :: L) (st) w = iv_V call mc_88 rt 1 (v0 :: .int x :: L) (.int x :: st) w := e88_0
theorem f88_1 : iv_V call mc_88 rt 1 (L) (.int x :: st) w = if x < nI 0 then iv_V call mc_88 rt 8 (L) (st) w else iv_V call mc_88 rt 2 (L) (st) w := e88_1
theorem f88_2 : iv_V call mc_88 rt 2 (v0 :: .int x :: L) (st) w = iv_V call mc_88 rt 3 (v0 :: .int x :: L) (.int x :: st) w := e88_2
theorem f88_3 : iv_V call mc_88 rt 3 (.ref a :: L) (st) w = iv_V call mc_88 rt 4 (.ref a :: L) (.ref a :: st) w := e88_3
theorem f88_4 : iv_V call mc_88 rt 4 (L) (st) w = iv_gf w st 6 0 (iv_kv call mc_88 rt 5 L w) := e88_4
theorem f88_5 : iv_V call mc_88 rt 5 (L) (.int y :: .int x :: st) w = if y ≤ x then iv_V call mc_88 rt 8 (L) (st) w else iv_V call mc_88 rt 6 (L) (st) w := e88_5
theorem f88_6 : iv_V call mc_88 rt 6 (L) (st) w = iv_V call mc_88 rt 7 (L) (.int (nI 1) :: st) w := e88_6
theorem f88_7 : iv_V call mc_88 rt 7 (L) (st) w = iv_V call mc_88 rt 9 (L) (st) w := e88_7
theorem f88_8 : iv_V call mc_88 rt 8 (L) (st) w = iv_V call mc_88 rt 9 (L) (.int (nI 0) :: st) w := e88_8
theorem f88_9 : iv_V call mc_88 rt 9 (L) (st) w = iv_ret rt st w := e88_9
theorem f89_0 : iv_V call mc_89 rt 0 (.ref a :: L) (st) w = iv_V call mc_89 rt 1 (.ref a :: L) (.ref a :: st) w := e89_0
theorem f89_1 : iv_V call mc_89 rt 1 (L) (st) w = iv_gf w st 6 0 (iv_kv call mc_89 rt 2 L w) := e89_1
theorem f89_2 : iv_V call mc_89 rt 2 (L) (st) w = iv_V call mc_89 rt 3 (L) (.int (nI 24) :: st) w := e89_2
theorem f89_3 : iv_V call mc_89 rt 3 (L) (.int y :: .int x :: st) w = if x < y then iv_V call mc_89 rt 6 (L) (st) w else iv_V call mc_89 rt 4 (L) (st) w := e89_3
theorem f89_4 : iv_V call mc_89 rt 4 (L) (st) w = iv_V call mc_89 rt 5 (L) (.int (nI 0) :: st) w := e89_4
theorem f89_5 : iv_V call mc_89 rt 5 (L) (st) w = iv_ret rt st w := e89_5
theorem f89_6 : iv_V call mc_89 rt 6 (.ref a :: L) (st) w = iv_V call mc_89 rt 7 (.ref a :: L) (.ref a :: st) w := e89_6
theorem f89_7 : iv_V call mc_89 rt 7 (L) (st) w = iv_gf w st 6 1 (iv_kv call mc_89 rt 8 L w) := e89_7
theorem f89_8 : iv_V call mc_89 rt 8 (.ref a :: L) (st) w = iv_V call mc_89 rt 9 (.ref a :: L) (.ref a :: st) w := e89_8
theorem f89_9 : iv_V call mc_89 rt 9 (L) (st) w = iv_gf w st 6 0 (iv_kv call mc_89 rt 10 L w) := e89_9
theorem f89_10 : iv_V call mc_89 rt 10 (L) (st) w = iv_ald w st iv_isA (iv_kv call mc_89 rt 11 L w) := e89_10
theorem f89_11 : iv_V call mc_89 rt 11 (v0 :: v1 :: v2 :: v3 :: v4 :: v5 :: v6 :: u :: L) (.ref a :: st) w = iv_V call mc_89 rt 12 (v0 :: v1 :: v2 :: v3 :: v4 :: v5 :: v6 :: .ref a :: L) (st) w := e89_11
theorem f89_12 : iv_V call mc_89 rt 12 (v0 :: v1 :: v2 :: v3 :: v4 :: v5 :: v6 :: .ref a :: L) (st) w = iv_V call mc_89 rt 13 (v0 :: v1 :: v2 :: v3 :: v4 :: v5 :: v6 :: .ref a :: L) (.ref a :: st) w := e89_12
theorem f89_13 : iv_V call mc_89 rt 13 (L) (st) w = iv_V call mc_89 rt 14 (L) (.int (nI 0) :: st) w := e89_13
theorem f89_14 : iv_V call mc_89 rt 14 (v0 :: .int x :: L) (st) w = iv_V call mc_89 rt 15 (v0 :: .int x :: L) (.int x :: st) w := e89_14
theorem f89_15 : iv_V call mc_89 rt 15 (L) (st) w = iv_ast w st iv_isI (iv_kw call mc_89 rt 16 L) := e89_15
theorem f89_16 : iv_V call mc_89 rt 16 (v0 :: v1 :: v2 :: v3 :: v4 :: v5 :: v6 :: .ref a :: L) (st) w = iv_V call mc_89 rt 17 (v0 :: v1 :: v2 :: v3 :: v4 :: v5 :: v6 :: .ref a :: L) (.ref a :: st) w := e89_16
theorem f89_17 : iv_V call mc_89 rt 17 (L) (st) w = iv_V call mc_89 rt 18 (L) (.int (nI 1) :: st) w := e89_17
theorem f89_18 : iv_V call mc_89 rt 18 (v0 :: v1 :: .int x :: L) (st) w = iv_V call mc_89 rt 19 (v0 :: v1 :: .int x :: L) (.int x :: st) w := e89_18
theorem f89_19 : iv_V call mc_89 rt 19 (L) (st) w = iv_ast w st iv_isI (iv_kw call mc_89 rt 20 L) := e89_19
theorem f89_20 : iv_V call mc_89 rt 20 (v0 :: v1 :: v2 :: v3 :: v4 :: v5 :: v6 :: .ref a :: L) (st) w = iv_V call mc_89 rt 21 (v0 :: v1 :: v2 :: v3 :: v4 :: v5 :: v6 :: .ref a :: L) (.ref a :: st) w := e89_20
theorem f89_21 : iv_V call mc_89 rt 21 (L) (st) w = iv_V call mc_89 rt 22 (L) (.int (nI 2) :: st) w := e89_21
theorem f89_22 : iv_V call mc_89 rt 22 (v0 :: v1 :: v2 :: .int x :: L) (st) w = iv_V call mc_89 rt 23 (v0 :: v1 :: v2 :: .int x :: L) (.int x :: st) w := e89_22
theorem f89_23 : iv_V call mc_89 rt 23 (L) (st) w = iv_ast w st iv_isI (iv_kw call mc_89 rt 24 L) := e89_23
theorem f89_24 : iv_V call mc_89 rt 24 (v0 :: v1 :: v2 :: v3 :: v4 :: v5 :: v6 :: .ref a :: L) (st) w = iv_V call mc_89 rt 25 (v0 :: v1 :: v2 :: v3 :: v4 :: v5 :: v6 :: .ref a :: L) (.ref a :: st) w := e89_24
theorem f89_25 : iv_V call mc_89 rt 25 (L) (st) w = iv_V call mc_89 rt 26 (L) (.int (nI 3) :: st) w := e89_25
theorem f89_26 : iv_V call mc_89 rt 26 (v0 :: v1 :: v2 :: v3 :: .int x :: L) (st) w = iv_V call mc_89 rt 27 (v0 :: v1 :: v2 :: v3 :: .int x :: L) (.int x :: st) w := e89_26
theorem f89_27 : iv_V call mc_89 rt 27 (L) (st) w = iv_ast w st iv_isI (iv_kw call mc_89 rt 28 L) := e89_27
theorem f89_28 : iv_V call mc_89 rt 28 (v0 :: v1 :: v2 :: v3 :: v4 :: v5 :: v6 :: .ref a :: L) (st) w = iv_V call mc_89 rt 29 (v0 :: v1 :: v2 :: v3 :: v4 :: v5 :: v6 :: .ref a :: L) (.ref a :: st) w := e89_28
theorem f89_29 : iv_V call mc_89 rt 29 (L) (st) w = iv_V call mc_89 rt 30 (L) (.int (nI 4) :: st) w := e89_29
theorem f89_30 : iv_V call mc_89 rt 30 (v0 :: v1 :: v2 :: v3 :: v4 :: .int x :: L) (st) w = iv_V call mc_89 rt 31 (v0 :: v1 :: v2 :: v3 :: v4 :: .int x :: L) (.int x :: st) w := e89_30
theorem f89_31 : iv_V call mc_89 rt 31 (L) (st) w = iv_ast w st iv_isI (iv_kw call mc_89 rt 32 L) := e89_31
theorem f89_32 : iv_V call mc_89 rt 32 (v0 :: v1 :: v2 :: v3 :: v4 :: v5 :: v6 :: .ref a :: L) (st) w = iv_V call mc_89 rt 33 (v0 :: v1 :: v2 :: v3 :: v4 :: v5 :: v6 :: .ref a :: L) (.ref a :: st) w := e89_32
theorem f89_33 : iv_V call mc_89 rt 33 (L) (st) w = iv_V call mc_89 rt 34 (L) (.int (nI 5) :: st) w := e89_33
theorem f89_34 : iv_V call mc_89 rt 34 (v0 :: v1 :: v2 :: v3 :: v4 :: v5 :: .int x :: L) (st) w = iv_V call mc_89 rt 35 (v0 :: v1 :: v2 :: v3 :: v4 :: v5 :: .int x :: L) (.int x :: st) w := e89_34
theorem f89_35 : iv_V call mc_89 rt 35 (L) (st) w = iv_ast w st iv_isI (iv_kw call mc_89 rt 36 L) := e89_35
theorem f89_36 : iv_V call mc_89 rt 36 (.ref a :: L) (st) w = iv_V call mc_89 rt 37 (.ref a :: L) (.ref a :: st) w := e89_36
theorem f89_37 : iv_V call mc_89 rt 37 (L) (st) w = iv_gf w st 6 2 (iv_kv call mc_89 rt 38 L w) := e89_37
theorem f89_38 : iv_V call mc_89 rt 38 (.ref a :: L) (st) w = iv_V call mc_89 rt 39 (.ref a :: L) (.ref a :: st) w := e89_38
theorem f89_39 : iv_V call mc_89 rt 39 (L) (st) w = iv_gf w st 6 0 (iv_kv call mc_89 rt 40 L w) := e89_39
theorem f89_40 : iv_V call mc_89 rt 40 (L) (st) w = iv_ald w st iv_isA (iv_kv call mc_89 rt 41 L w) := e89_40
theorem f89_41 : iv_V call mc_89 rt 41 (v0 :: v1 :: v2 :: v3 :: v4 :: v5 :: v6 :: v7 :: u :: L) (.ref a :: st) w = iv_V call mc_89 rt 42 (v0 :: v1 :: v2 :: v3 :: v4 :: v5 :: v6 :: v7 :: .ref a :: L) (st) w := e89_41
theorem f89_42 : iv_V call mc_89 rt 42 (L) (st) w = iv_V call mc_89 rt 43 (L) (.int (nI 0) :: st) w := e89_42
theorem f89_43 : iv_V call mc_89 rt 43 (v0 :: v1 :: v2 :: v3 :: v4 :: v5 :: v6 :: v7 :: v8 :: u :: L) (.int x :: st) w = iv_V call mc_89 rt 44 (v0 :: v1 :: v2 :: v3 :: v4 :: v5 :: v6 :: v7 :: v8 :: .int x :: L) (st) w := e89_43
theorem f89_44 : iv_V call mc_89 rt 44 (v0 :: v1 :: v2 :: v3 :: v4 :: v5 :: v6 :: v7 :: v8 :: .int x :: L) (st) w = iv_V call mc_89 rt 45 (v0 :: v1 :: v2 :: v3 :: v4 :: v5 :: v6 :: v7 :: v8 :: .int x :: L) (.int x :: st) w := e89_44
theorem f89_45 : iv_V call mc_89 rt 45 (.ref a :: L) (st) w = iv_V call mc_89 rt 46 (.ref a :: L) (.ref a :: st) w := e89_45
theorem f89_46 : iv_V call mc_89 rt 46 (L) (st) w = iv_gf w st 6 3 (iv_kv call mc_89 rt 47 L w) := e89_46
theorem f89_47 : iv_V call mc_89 rt 47 (L) (st) w = iv_gf w st 7 1 (iv_kv call mc_89 rt 48 L w) := e89_47
theorem f89_48 : iv_V call mc_89 rt 48 (L) (.int y :: .int x :: st) w = if y ≤ x then iv_V call mc_89 rt 60 (L) (st) w else iv_V call mc_89 rt 49 (L) (st) w := e89_48
theorem f89_49 : iv_V call mc_89 rt 49 (v0 :: v1 :: v2 :: v3 :: v4 :: v5 :: v6 :: v7 :: .ref a :: L) (st) w = iv_V call mc_89 rt 50 (v0 :: v1 :: v2 :: v3 :: v4 :: v5 :: v6 :: v7 :: .ref a :: L) (.ref a :: st) w := e89_49
theorem f89_50 : iv_V call mc_89 rt 50 (L) (st) w = iv_gf w st 7 0 (iv_kv call mc_89 rt 51 L w) := e89_50
theorem f89_51 : iv_V call mc_89 rt 51 (v0 :: v1 :: v2 :: v3 :: v4 :: v5 :: v6 :: v7 :: v8 :: .int x :: L) (st) w = iv_V call mc_89 rt 52 (v0 :: v1 :: v2 :: v3 :: v4 :: v5 :: v6 :: v7 :: v8 :: .int x :: L) (.int x :: st) w := e89_51
theorem f89_52 : iv_V call mc_89 rt 52 (.ref a :: L) (st) w = iv_V call mc_89 rt 53 (.ref a :: L) (.ref a :: st) w := e89_52
theorem f89_53 : iv_V call mc_89 rt 53 (L) (st) w = iv_gf w st 6 3 (iv_kv call mc_89 rt 54 L w) := e89_53
theorem f89_54 : iv_V call mc_89 rt 54 (L) (st) w = iv_gf w st 7 0 (iv_kv call mc_89 rt 55 L w) := e89_54
theorem f89_55 : iv_V call mc_89 rt 55 (v0 :: v1 :: v2 :: v3 :: v4 :: v5 :: v6 :: v7 :: v8 :: .int x :: L) (st) w = iv_V call mc_89 rt 56 (v0 :: v1 :: v2 :: v3 :: v4 :: v5 :: v6 :: v7 :: v8 :: .int x :: L) (.int x :: st) w := e89_55
theorem f89_56 : iv_V call mc_89 rt 56 (L) (st) w = iv_ald w st iv_isI (iv_kv call mc_89 rt 57 L w) := e89_56
theorem f89_57 : iv_V call mc_89 rt 57 (L) (st) w = iv_ast w st iv_isI (iv_kw call mc_89 rt 58 L) := e89_57
theorem f89_58 : iv_V call mc_89 rt 58 (v0 :: v1 :: v2 :: v3 :: v4 :: v5 :: v6 :: v7 :: v8 :: .int x :: L) (st) w = iv_V call mc_89 rt 59 (v0 :: v1 :: v2 :: v3 :: v4 :: v5 :: v6 :: v7 :: v8 :: .int (x + (nI 1)) :: L) (st) w := e89_58
theorem f89_59 : iv_V call mc_89 rt 59 (L) (st) w = iv_V call mc_89 rt 44 (L) (st) w := e89_59
theorem f89_60 : iv_V call mc_89 rt 60 (v0 :: v1 :: v2 :: v3 :: v4 :: v5 :: v6 :: v7 :: .ref a :: L) (st) w = iv_V call mc_89 rt 61 (v0 :: v1 :: v2 :: v3 :: v4 :: v5 :: v6 :: v7 :: .ref a :: L) (.ref a :: st) w := e89_60
theorem f89_61 : iv_V call mc_89 rt 61 (.ref a :: L) (st) w = iv_V call mc_89 rt 62 (.ref a :: L) (.ref a :: st) w := e89_61
theorem f89_62 : iv_V call mc_89 rt 62 (L) (st) w = iv_gf w st 6 3 (iv_kv call mc_89 rt 63 L w) := e89_62
theorem f89_63 : iv_V call mc_89 rt 63 (L) (st) w = iv_gf w st 7 1 (iv_kv call mc_89 rt 64 L w) := e89_63
theorem f89_64 : iv_V call mc_89 rt 64 (L) (st) w = iv_pf w st 7 1 (iv_kw call mc_89 rt 65 L) := e89_64
theorem f89_65 : iv_V call mc_89 rt 65 (.ref a :: L) (st) w = iv_V call mc_89 rt 66 (.ref a :: L) (.ref a :: st) w := e89_65
theorem f89_66 : iv_V call mc_89 rt 66 (L) (.ref a :: st) w = iv_V call mc_89 rt 67 (L) (.ref a :: .ref a :: st) w := e89_66
theorem f89_67 : iv_V call mc_89 rt 67 (L) (st) w = iv_gf w st 6 0 (iv_kv call mc_89 rt 68 L w) := e89_67
theorem f89_68 : iv_V call mc_89 rt 68 (L) (st) w = iv_V call mc_89 rt 69 (L) (.int (nI 1) :: st) w := e89_68
theorem f89_69 : iv_V call mc_89 rt 69 (L) (.int y :: .int x :: st) w = iv_V call mc_89 rt 70 (L) (.int (x + y) :: st) w := e89_69
theorem f89_70 : iv_V call mc_89 rt 70 (L) (st) w = iv_pf w st 6 0 (iv_kw call mc_89 rt 71 L) := e89_70
theorem f89_71 : iv_V call mc_89 rt 71 (L) (st) w = iv_V call mc_89 rt 72 (L) (.int (nI 1) :: st) w := e89_71
theorem f89_72 : iv_V call mc_89 rt 72 (L) (st) w = iv_ret rt st w := e89_72
theorem f90_0 : iv_V call mc_90 rt 0 (v0 :: .int x :: L) (st) w = iv_V call mc_90 rt 1 (v0 :: .int x :: L) (.int x :: st) w := e90_0
theorem f90_1 : iv_V call mc_90 rt 1 (L) (.int x :: st) w = if x = nI 0 then iv_V call mc_90 rt 7 (L) (st) w else iv_V call mc_90 rt 2 (L) (st) w := e90_1
theorem f90_2 : iv_V call mc_90 rt 2 (.ref a :: L) (st) w = iv_V call mc_90 rt 3 (.ref a :: L) (.ref a :: st) w := e90_2
theorem f90_3 : iv_V call mc_90 rt 3 (L) (st) w = iv_V call mc_90 rt 4 (L) (.int (nI 0) :: st) w := e90_3
theorem f90_4 : iv_V call mc_90 rt 4 (L) (st) w = iv_pf w st 6 0 (iv_kw call mc_90 rt 5 L) := e90_4
theorem f90_5 : iv_V call mc_90 rt 5 (v0 :: .int x :: L) (st) w = iv_V call mc_90 rt 6 (v0 :: .int x :: L) (.int x :: st) w := e90_5
theorem f90_6 : iv_V call mc_90 rt 6 (L) (st) w = iv_ret rt st w := e90_6
theorem f90_7 : iv_V call mc_90 rt 7 (.ref a :: L) (st) w = iv_V call mc_90 rt 8 (.ref a :: L) (.ref a :: st) w := e90_7
theorem f90_8 : iv_V call mc_90 rt 8 (L) (st) w = iv_gf w st 6 0 (iv_kv call mc_90 rt 9 L w) := e90_8
theorem f90_9 : iv_V call mc_90 rt 9 (L) (st) w = iv_ret rt st w := e90_9
end IVF3
