/-! rows, on -/
section IVF2
variable {call : Nat → List Value → iv_S → iv_R} {rt : Option FieldType} {L st : List Value} {w : iv_S} {v0 v1 v2 v3 v4 v5 v6 v7 v8 v9 u : Value} {x y : Int32} {a : Nat}
theorem f47_0 : iv_V call mc_47 rt 0 (.ref a :: L) (st) w = iv_V call mc_47 rt 1 (.ref a :: L) (.ref a :: st) w := e47_0
theorem f47_1 : iv_V call mc_47 rt 1 (v0 :: v1 :: .int x :: L) (st) w = iv_V call mc_47 rt 2 (v0 :: v1 :: .int x :: L) (.int x :: st) w := e47_1
theorem f47_2 {a0 : Nat} {x1 : Int32} : iv_V call mc_47 rt 2 (L) (.int x1 :: .ref a0 :: []) w = iv_cr (iv_rc w [.ref a0, .int x1] 1) (iv_ct call mc_47 rt 3 L [] (call 31 [.ref a0, .int x1] w)) := e47_2
theorem f47_3 : iv_V call mc_47 rt 3 (v0 :: v1 :: v2 :: v3 :: u :: L) (.int x :: st) w = iv_V call mc_47 rt 4 (v0 :: v1 :: v2 :: v3 :: .int x :: L) (st) w := e47_3
theorem f47_4 : iv_V call mc_47 rt 4 (L) (st) w = iv_V call mc_47 rt 5 (L) (.int (nI 0) :: st) w := e47_4
theorem f47_5 : iv_V call mc_47 rt 5 (v0 :: v1 :: v2 :: v3 :: v4 :: u :: L) (.int x :: st) w = iv_V call mc_47 rt 6 (v0 :: v1 :: v2 :: v3 :: v4 :: .int x :: L) (st) w := e47_5
theorem f47_6 : iv_V call mc_47 rt 6 (v0 :: v1 :: v2 :: v3 :: v4 :: .int x :: L) (st) w = iv_V call mc_47 rt 7 (v0 :: v1 :: v2 :: v3 :: v4 :: .int x :: L) (.int x :: st) w := e47_6
theorem f47_7 : iv_V call mc_47 rt 7 (.ref a :: L) (st) w = iv_V call mc_47 rt 8 (.ref a :: L) (.ref a :: st) w := e47_7
theorem f47_8 : iv_V call mc_47 rt 8 (L) (st) w = iv_gf w st 1 7 (iv_kv call mc_47 rt 9 L w) := e47_8
theorem f47_9 : iv_V call mc_47 rt 9 (L) (.int y :: .int x :: st) w = if y ≤ x then iv_V call mc_47 rt 107 (L) (st) w else iv_V call mc_47 rt 10 (L) (st) w := e47_9
theorem f47_10 : iv_V call mc_47 rt 10 (.ref a :: L) (st) w = iv_V call mc_47 rt 11 (.ref a :: L) (.ref a :: st) w := e47_10
theorem f47_11 : iv_V call mc_47 rt 11 (L) (st) w = iv_gf w st 1 8 (iv_kv call mc_47 rt 12 L w) := e47_11
theorem f47_12 : iv_V call mc_47 rt 12 (v0 :: v1 :: v2 :: v3 :: v4 :: .int x :: L) (st) w = iv_V call mc_47 rt 13 (v0 :: v1 :: v2 :: v3 :: v4 :: .int x :: L) (.int x :: st) w := e47_12
theorem f47_13 : iv_V call mc_47 rt 13 (L) (st) w = iv_ald w st iv_isI (iv_kv call mc_47 rt 14 L w) := e47_13
theorem f47_14 : iv_V call mc_47 rt 14 (v0 :: v1 :: v2 :: v3 :: v4 :: v5 :: u :: L) (.int x :: st) w = iv_V call mc_47 rt 15 (v0 :: v1 :: v2 :: v3 :: v4 :: v5 :: .int x :: L) (st) w := e47_14
theorem f47_15 : iv_V call mc_47 rt 15 (.ref a :: L) (st) w = iv_V call mc_47 rt 16 (.ref a :: L) (.ref a :: st) w := e47_15
theorem f47_16 : iv_V call mc_47 rt 16 (v0 :: .int x :: L) (st) w = iv_V call mc_47 rt 17 (v0 :: .int x :: L) (.int x :: st) w := e47_16
theorem f47_17 : iv_V call mc_47 rt 17 (v0 :: v1 :: v2 :: v3 :: v4 :: v5 :: .int x :: L) (st) w = iv_V call mc_47 rt 18 (v0 :: v1 :: v2 :: v3 :: v4 :: v5 :: .int x :: L) (.int x :: st) w := e47_17
theorem f47_18 {a0 : Nat} {x1 : Int32} {x2 : Int32} : iv_V call mc_47 rt 18 (L) (.int x2 :: .int x1 :: .ref a0 :: []) w = iv_cr (iv_rc w [.ref a0, .int x1, .int x2] 1) (iv_ct call mc_47 rt 19 L [] (call 38 [.ref a0, .int x1, .int x2] w)) := e47_18
theorem f47_19 : iv_V call mc_47 rt 19 (L) (.int x :: st) w = if x = nI 0 then iv_V call mc_47 rt 105 (L) (st) w else iv_V call mc_47 rt 20 (L) (st) w := e47_19
theorem f47_20 : iv_V call mc_47 rt 20 (v0 :: v1 :: v2 :: .int x :: L) (st) w = iv_V call mc_47 rt 21 (v0 :: v1 :: v2 :: .int x :: L) (.int x :: st) w := e47_20
theorem f47_21 : iv_V call mc_47 rt 21 (L) (.int x :: st) w = if x < nI 0 then iv_V call mc_47 rt 25 (L) (st) w else iv_V call mc_47 rt 22 (L) (st) w := e47_21
theorem f47_22 : iv_V call mc_47 rt 22 (v0 :: v1 :: v2 :: .int x :: L) (st) w = iv_V call mc_47 rt 23 (v0 :: v1 :: v2 :: .int x :: L) (.int x :: st) w := e47_22
theorem f47_23 : iv_V call mc_47 rt 23 (v0 :: v1 :: v2 :: v3 :: v4 :: v5 :: .int x :: L) (st) w = iv_V call mc_47 rt 24 (v0 :: v1 :: v2 :: v3 :: v4 :: v5 :: .int x :: L) (.int x :: st) w := e47_23
theorem f47_24 : iv_V call mc_47 rt 24 (L) (.int y :: .int x :: st) w = if ¬ x = y then iv_V call mc_47 rt 105 (L) (st) w else iv_V call mc_47 rt 25 (L) (st) w := e47_24
theorem f47_25 : iv_V call mc_47 rt 25 (.ref a :: L) (st) w = iv_V call mc_47 rt 26 (.ref a :: L) (.ref a :: st) w := e47_25
theorem f47_26 : iv_V call mc_47 rt 26 (L) (st) w = iv_gf w st 1 13 (iv_kv call mc_47 rt 27 L w) := e47_26
theorem f47_27 : iv_V call mc_47 rt 27 (v0 :: v1 :: v2 :: v3 :: v4 :: .int x :: L) (st) w = iv_V call mc_47 rt 28 (v0 :: v1 :: v2 :: v3 :: v4 :: .int x :: L) (.int x :: st) w := e47_27
theorem f47_28 : iv_V call mc_47 rt 28 (L) (st) w = iv_ald w st iv_isI (iv_kv call mc_47 rt 29 L w) := e47_28
theorem f47_29 : iv_V call mc_47 rt 29 (v0 :: v1 :: v2 :: v3 :: .int x :: L) (st) w = iv_V call mc_47 rt 30 (v0 :: v1 :: v2 :: v3 :: .int x :: L) (.int x :: st) w := e47_29
theorem f47_30 : iv_V call mc_47 rt 30 (L) (.int y :: .int x :: st) w = iv_V call mc_47 rt 31 (L) (.int (x &&& y) :: st) w := e47_30
theorem f47_31 : iv_V call mc_47 rt 31 (L) (.int x :: st) w = if x = nI 0 then iv_V call mc_47 rt 105 (L) (st) w else iv_V call mc_47 rt 32 (L) (st) w := e47_31
theorem f47_32 : iv_V call mc_47 rt 32 (.ref a :: L) (st) w = iv_V call mc_47 rt 33 (.ref a :: L) (.ref a :: st) w := e47_32
theorem f47_33 : iv_V call mc_47 rt 33 (v0 :: v1 :: v2 :: v3 :: v4 :: .int x :: L) (st) w = iv_V call mc_47 rt 34 (v0 :: v1 :: v2 :: v3 :: v4 :: .int x :: L) (.int x :: st) w := e47_33
theorem f47_34 {a0 : Nat} {x1 : Int32} : iv_V call mc_47 rt 34 (L) (.int x1 :: .ref a0 :: []) w = iv_cr (iv_rc w [.ref a0, .int x1] 1) (iv_ct call mc_47 rt 35 L [] (call 43 [.ref a0, .int x1] w)) := e47_34
theorem f47_35 : iv_V call mc_47 rt 35 (L) (.int x :: st) w = if ¬ x = nI 0 then iv_V call mc_47 rt 38 (L) (st) w else iv_V call mc_47 rt 36 (L) (st) w := e47_35
theorem f47_36 : iv_V call mc_47 rt 36 (L) (st) w = iv_V call mc_47 rt 37 (L) (.int (-4) :: st) w := e47_36
theorem f47_37 : iv_V call mc_47 rt 37 (L) (st) w = iv_ret rt st w := e47_37
theorem f47_38 : iv_V call mc_47 rt 38 (.ref a :: L) (st) w = iv_V call mc_47 rt 39 (.ref a :: L) (.ref a :: st) w := e47_38
theorem f47_39 : iv_V call mc_47 rt 39 (L) (st) w = iv_gf w st 1 4 (iv_kv call mc_47 rt 40 L w) := e47_39
theorem f47_40 : iv_V call mc_47 rt 40 (v0 :: v1 :: v2 :: v3 :: v4 :: v5 :: .int x :: L) (st) w = iv_V call mc_47 rt 41 (v0 :: v1 :: v2 :: v3 :: v4 :: v5 :: .int x :: L) (.int x :: st) w := e47_40
theorem f47_41 : iv_V call mc_47 rt 41 (L) (st) w = iv_ald w st iv_isI (iv_kv call mc_47 rt 42 L w) := e47_41
theorem f47_42 : iv_V call mc_47 rt 42 (L) (st) w = iv_V call mc_47 rt 43 (L) (.int (nI 2) :: st) w := e47_42
theorem f47_43 : iv_V call mc_47 rt 43 (L) (.int y :: .int x :: st) w = if x < y then iv_V call mc_47 rt 64 (L) (st) w else iv_V call mc_47 rt 44 (L) (st) w := e47_43
theorem f47_44 : iv_V call mc_47 rt 44 (.ref a :: L) (st) w = iv_V call mc_47 rt 45 (.ref a :: L) (.ref a :: st) w := e47_44
theorem f47_45 : iv_V call mc_47 rt 45 (L) (st) w = iv_gf w st 1 26 (iv_kv call mc_47 rt 46 L w) := e47_45
theorem f47_46 : iv_V call mc_47 rt 46 (L) (st) w = iv_V call mc_47 rt 47 (L) (.int (nI 14) :: st) w := e47_46
theorem f47_47 : iv_V call mc_47 rt 47 (v0 :: .int x :: L) (st) w = iv_V call mc_47 rt 48 (v0 :: .int x :: L) (.int x :: st) w := e47_47
theorem f47_48 : iv_V call mc_47 rt 48 (L) (.int y :: .int x :: st) w = iv_V call mc_47 rt 49 (L) (.int (x * y) :: st) w := e47_48
theorem f47_49 : iv_V call mc_47 rt 49 (v0 :: v1 :: v2 :: v3 :: v4 :: v5 :: .int x :: L) (st) w = iv_V call mc_47 rt 50 (v0 :: v1 :: v2 :: v3 :: v4 :: v5 :: .int x :: L) (.int x :: st) w := e47_49
theorem f47_50 : iv_V call mc_47 rt 50 (L) (.int y :: .int x :: st) w = iv_V call mc_47 rt 51 (L) (.int (x + y) :: st) w := e47_50
theorem f47_51 : iv_V call mc_47 rt 51 (L) (st) w = iv_ald w st iv_isI (iv_kv call mc_47 rt 52 L w) := e47_51
theorem f47_52 : iv_V call mc_47 rt 52 (L) (.int x :: st) w = if x ≤ nI 0 then iv_V call mc_47 rt 64 (L) (st) w else iv_V call mc_47 rt 53 (L) (st) w := e47_52
theorem f47_53 : iv_V call mc_47 rt 53 (.ref a :: L) (st) w = iv_V call mc_47 rt 54 (.ref a :: L) (.ref a :: st) w := e47_53
theorem f47_54 : iv_V call mc_47 rt 54 (L) (st) w = iv_gf w st 1 26 (iv_kv call mc_47 rt 55 L w) := e47_54
theorem f47_55 : iv_V call mc_47 rt 55 (L) (st) w = iv_V call mc_47 rt 56 (L) (.int (nI 14) :: st) w := e47_55
theorem f47_56 : iv_V call mc_47 rt 56 (v0 :: .int x :: L) (st) w = iv_V call mc_47 rt 57 (v0 :: .int x :: L) (.int x :: st) w := e47_56
theorem f47_57 : iv_V call mc_47 rt 57 (L) (.int y :: .int x :: st) w = iv_V call mc_47 rt 58 (L) (.int (x * y) :: st) w := e47_57
theorem f47_58 : iv_V call mc_47 rt 58 (v0 :: v1 :: v2 :: v3 :: v4 :: v5 :: .int x :: L) (st) w = iv_V call mc_47 rt 59 (v0 :: v1 :: v2 :: v3 :: v4 :: v5 :: .int x :: L) (.int x :: st) w := e47_58
theorem f47_59 : iv_V call mc_47 rt 59 (L) (.int y :: .int x :: st) w = iv_V call mc_47 rt 60 (L) (.int (x + y) :: st) w := e47_59
theorem f47_60 : iv_V call mc_47 rt 60 (L) (st) w = iv_ald w st iv_isI (iv_kv call mc_47 rt 61 L w) := e47_60
theorem f47_61 : iv_V call mc_47 rt 61 (L) (st) w = iv_V call mc_47 rt 62 (L) (.int (nI 1) :: st) w := e47_61
theorem f47_62 : iv_V call mc_47 rt 62 (L) (.int y :: .int x :: st) w = iv_V call mc_47 rt 63 (L) (.int (x - y) :: st) w := e47_62
theorem f47_63 : iv_V call mc_47 rt 63 (L) (st) w = iv_V call mc_47 rt 65 (L) (st) w := e47_63
theorem f47_64 : iv_V call mc_47 rt 64 (L) (st) w = iv_V call mc_47 rt 65 (L) (.int (nI 0) :: st) w := e47_64
theorem f47_65 : iv_V call mc_47 rt 65 (v0 :: v1 :: v2 :: v3 :: v4 :: v5 :: v6 :: u :: L) (.int x :: st) w = iv_V call mc_47 rt 66 (v0 :: v1 :: v2 :: v3 :: v4 :: v5 :: v6 :: .int x :: L) (st) w := e47_65
theorem f47_66 : iv_V call mc_47 rt 66 (.ref a :: L) (st) w = iv_V call mc_47 rt 67 (.ref a :: L) (.ref a :: st) w := e47_66
theorem f47_67 : iv_V call mc_47 rt 67 (L) (st) w = iv_gf w st 1 9 (iv_kv call mc_47 rt 68 L w) := e47_67
theorem f47_68 : iv_V call mc_47 rt 68 (v0 :: v1 :: v2 :: v3 :: v4 :: .int x :: L) (st) w = iv_V call mc_47 rt 69 (v0 :: v1 :: v2 :: v3 :: v4 :: .int x :: L) (.int x :: st) w := e47_68
theorem f47_69 : iv_V call mc_47 rt 69 (L) (st) w = iv_ald w st iv_isZ (iv_kv call mc_47 rt 70 L w) := e47_69
theorem f47_70 : iv_V call mc_47 rt 70 (L) (.int x :: st) w = if ¬ x = nI 0 then iv_V call mc_47 rt 77 (L) (st) w else iv_V call mc_47 rt 71 (L) (st) w := e47_70
theorem f47_71 : iv_V call mc_47 rt 71 (.ref a :: L) (st) w = iv_V call mc_47 rt 72 (.ref a :: L) (.ref a :: st) w := e47_71
theorem f47_72 : iv_V call mc_47 rt 72 (v0 :: .int x :: L) (st) w = iv_V call mc_47 rt 73 (v0 :: .int x :: L) (.int x :: st) w := e47_72
theorem f47_73 : iv_V call mc_47 rt 73 (v0 :: v1 :: v2 :: v3 :: v4 :: .int x :: L) (st) w = iv_V call mc_47 rt 74 (v0 :: v1 :: v2 :: v3 :: v4 :: .int x :: L) (.int x :: st) w := e47_73
theorem f47_74 : iv_V call mc_47 rt 74 (L) (st) w = iv_V call mc_47 rt 75 (L) (.int (-1) :: st) w := e47_74
theorem f47_75 {a0 : Nat} {x1 : Int32} {x2 : Int32} {x3 : Int32} : iv_V call mc_47 rt 75 (L) (.int x3 :: .int x2 :: .int x1 :: .ref a0 :: []) w = iv_cr (iv_rc w [.ref a0, .int x1, .int x2, .int x3] 1) (iv_ct call mc_47 rt 76 L [] (call 46 [.ref a0, .int x1, .int x2, .int x3] w)) := e47_75
theorem f47_76 : iv_V call mc_47 rt 76 (L) (.int x :: st) w = if x = nI 0 then iv_V call mc_47 rt 79 (L) (st) w else iv_V call mc_47 rt 77 (L) (st) w := e47_76
theorem f47_77 : iv_V call mc_47 rt 77 (L) (st) w = iv_V call mc_47 rt 78 (L) (.int (nI 1) :: st) w := e47_77
theorem f47_78 : iv_V call mc_47 rt 78 (L) (st) w = iv_V call mc_47 rt 80 (L) (st) w := e47_78
theorem f47_79 : iv_V call mc_47 rt 79 (L) (st) w = iv_V call mc_47 rt 80 (L) (.int (nI 0) :: st) w := e47_79
theorem f47_80 : iv_V call mc_47 rt 80 (v0 :: v1 :: v2 :: v3 :: v4 :: v5 :: v6 :: v7 :: u :: L) (.int x :: st) w = iv_V call mc_47 rt 81 (v0 :: v1 :: v2 :: v3 :: v4 :: v5 :: v6 :: v7 :: .int x :: L) (st) w := e47_80
theorem f47_81 : iv_V call mc_47 rt 81 (L) (st) w = iv_V call mc_47 rt 82 (L) (.int (nI 0) :: st) w := e47_81
theorem f47_82 : iv_V call mc_47 rt 82 (v0 :: v1 :: v2 :: v3 :: v4 :: v5 :: v6 :: v7 :: v8 :: u :: L) (.int x :: st) w = iv_V call mc_47 rt 83 (v0 :: v1 :: v2 :: v3 :: v4 :: v5 :: v6 :: v7 :: v8 :: .int x :: L) (st) w := e47_82
theorem f47_83 : iv_V call mc_47 rt 83 (v0 :: v1 :: v2 :: v3 :: v4 :: v5 :: v6 :: v7 :: v8 :: .int x :: L) (st) w = iv_V call mc_47 rt 84 (v0 :: v1 :: v2 :: v3 :: v4 :: v5 :: v6 :: v7 :: v8 :: .int x :: L) (.int x :: st) w := e47_83
theorem f47_84 : iv_V call mc_47 rt 84 (v0 :: v1 :: v2 :: v3 :: v4 :: v5 :: v6 :: .int x :: L) (st) w = iv_V call mc_47 rt 85 (v0 :: v1 :: v2 :: v3 :: v4 :: v5 :: v6 :: .int x :: L) (.int x :: st) w := e47_84
theorem f47_85 : iv_V call mc_47 rt 85 (L) (.int y :: .int x :: st) w = if y ≤ x then iv_V call mc_47 rt 101 (L) (st) w else iv_V call mc_47 rt 86 (L) (st) w := e47_85
theorem f47_86 : iv_V call mc_47 rt 86 (.ref a :: L) (st) w = iv_V call mc_47 rt 87 (.ref a :: L) (.ref a :: st) w := e47_86
theorem f47_87 : iv_V call mc_47 rt 87 (L) (st) w = iv_gf w st 1 9 (iv_kv call mc_47 rt 88 L w) := e47_87
theorem f47_88 : iv_V call mc_47 rt 88 (v0 :: v1 :: v2 :: v3 :: v4 :: .int x :: L) (st) w = iv_V call mc_47 rt 89 (v0 :: v1 :: v2 :: v3 :: v4 :: .int x :: L) (.int x :: st) w := e47_88
theorem f47_89 : iv_V call mc_47 rt 89 (L) (st) w = iv_ald w st iv_isZ (iv_kv call mc_47 rt 90 L w) := e47_89
theorem f47_90 : iv_V call mc_47 rt 90 (L) (.int x :: st) w = if x = nI 0 then iv_V call mc_47 rt 101 (L) (st) w else iv_V call mc_47 rt 91 (L) (st) w := e47_90
theorem f47_91 : iv_V call mc_47 rt 91 (v0 :: v1 :: v2 :: v3 :: v4 :: v5 :: v6 :: v7 :: .int x :: L) (st) w = iv_V call mc_47 rt 92 (v0 :: v1 :: v2 :: v3 :: v4 :: v5 :: v6 :: v7 :: .int x :: L) (.int x :: st) w := e47_91
theorem f47_92 : iv_V call mc_47 rt 92 (L) (.int x :: st) w = if x = nI 0 then iv_V call mc_47 rt 101 (L) (st) w else iv_V call mc_47 rt 93 (L) (st) w := e47_92
theorem f47_93 : iv_V call mc_47 rt 93 (.ref a :: L) (st) w = iv_V call mc_47 rt 94 (.ref a :: L) (.ref a :: st) w := e47_93
theorem f47_94 : iv_V call mc_47 rt 94 (v0 :: .int x :: L) (st) w = iv_V call mc_47 rt 95 (v0 :: .int x :: L) (.int x :: st) w := e47_94
theorem f47_95 : iv_V call mc_47 rt 95 (v0 :: v1 :: v2 :: v3 :: v4 :: .int x :: L) (st) w = iv_V call mc_47 rt 96 (v0 :: v1 :: v2 :: v3 :: v4 :: .int x :: L) (.int x :: st) w := e47_95
theorem f47_96 : iv_V call mc_47 rt 96 (v0 :: v1 :: v2 :: v3 :: v4 :: v5 :: v6 :: v7 :: v8 :: .int x :: L) (st) w = iv_V call mc_47 rt 97 (v0 :: v1 :: v2 :: v3 :: v4 :: v5 :: v6 :: v7 :: v8 :: .int x :: L) (.int x :: st) w := e47_96
theorem f47_97 {a0 : Nat} {x1 : Int32} {x2 : Int32} {x3 : Int32} : iv_V call mc_47 rt 97 (L) (.int x3 :: .int x2 :: .int x1 :: .ref a0 :: []) w = iv_cr (iv_rc w [.ref a0, .int x1, .int x2, .int x3] 1) (iv_ct call mc_47 rt 98 L [] (call 46 [.ref a0, .int x1, .int x2, .int x3] w)) := e47_97
theorem f47_98 : iv_V call mc_47 rt 98 (v0 :: v1 :: v2 :: v3 :: v4 :: v5 :: v6 :: v7 :: u :: L) (.int x :: st) w = iv_V call mc_47 rt 99 (v0 :: v1 :: v2 :: v3 :: v4 :: v5 :: v6 :: v7 :: .int x :: L) (st) w := e47_98
theorem f47_99 : iv_V call mc_47 rt 99 (v0 :: v1 :: v2 :: v3 :: v4 :: v5 :: v6 :: v7 :: v8 :: .int x :: L) (st) w = iv_V call mc_47 rt 100 (v0 :: v1 :: v2 :: v3 :: v4 :: v5 :: v6 :: v7 :: v8 :: .int (x + (nI 1)) :: L) (st) w := e47_99
theorem f47_100 : iv_V call mc_47 rt 100 (L) (st) w = iv_V call mc_47 rt 83 (L) (st) w := e47_100
theorem f47_101 : iv_V call mc_47 rt 101 (v0 :: v1 :: v2 :: v3 :: v4 :: v5 :: v6 :: v7 :: .int x :: L) (st) w = iv_V call mc_47 rt 102 (v0 :: v1 :: v2 :: v3 :: v4 :: v5 :: v6 :: v7 :: .int x :: L) (.int x :: st) w := e47_101
theorem f47_102 : iv_V call mc_47 rt 102 (L) (.int x :: st) w = if ¬ x = nI 0 then iv_V call mc_47 rt 105 (L) (st) w else iv_V call mc_47 rt 103 (L) (st) w := e47_102
theorem f47_103 : iv_V call mc_47 rt 103 (L) (st) w = iv_V call mc_47 rt 104 (L) (.int (-5) :: st) w := e47_103
theorem f47_104 : iv_V call mc_47 rt 104 (L) (st) w = iv_ret rt st w := e47_104
theorem f47_105 : iv_V call mc_47 rt 105 (v0 :: v1 :: v2 :: v3 :: v4 :: .int x :: L) (st) w = iv_V call mc_47 rt 106 (v0 :: v1 :: v2 :: v3 :: v4 :: .int (x + (nI 1)) :: L) (st) w := e47_105
theorem f47_106 : iv_V call mc_47 rt 106 (L) (st) w = iv_V call mc_47 rt 6 (L) (st) w := e47_106
theorem f47_107 : iv_V call mc_47 rt 107 (L) (st) w = iv_V call mc_47 rt 108 (L) (.int (nI 0) :: st) w := e47_107
theorem f47_108 : iv_V call mc_47 rt 108 (L) (st) w = iv_ret rt st w := e47_108
theorem f48_0 : iv_V call mc_48 rt 0 (L) (st) w = iv_V call mc_48 rt 1 (L) (.int (nI 0) :: st) w := e48_0
theorem f48_1 : iv_V call mc_48 rt 1 (v0 :: v1 :: u :: L) (.int x :: st) w = iv_V call mc_48 rt 2 (v0 :: v1 :: .int x :: L) (st) w := e48_1
theorem f48_2 : iv_V call mc_48 rt 2 (L) (st) w = iv_V call mc_48 rt 3 (L) (.int (nI 0) :: st) w := e48_2
theorem f48_3 : iv_V call mc_48 rt 3 (v0 :: v1 :: v2 :: u :: L) (.int x :: st) w = iv_V call mc_48 rt 4 (v0 :: v1 :: v2 :: .int x :: L) (st) w := e48_3
theorem f48_4 : iv_V call mc_48 rt 4 (L) (st) w = iv_V call mc_48 rt 5 (L) (.int (nI 0) :: st) w := e48_4
theorem f48_5 : iv_V call mc_48 rt 5 (v0 :: v1 :: v2 :: v3 :: u :: L) (.int x :: st) w = iv_V call mc_48 rt 6 (v0 :: v1 :: v2 :: v3 :: .int x :: L) (st) w := e48_5
theorem f48_6 : iv_V call mc_48 rt 6 (v0 :: v1 :: v2 :: v3 :: .int x :: L) (st) w = iv_V call mc_48 rt 7 (v0 :: v1 :: v2 :: v3 :: .int x :: L) (.int x :: st) w := e48_6
theorem f48_7 : iv_V call mc_48 rt 7 (.ref a :: L) (st) w = iv_V call mc_48 rt 8 (.ref a :: L) (.ref a :: st) w := e48_7
theorem f48_8 : iv_V call mc_48 rt 8 (L) (st) w = iv_gf w st 1 22 (iv_kv call mc_48 rt 9 L w) := e48_8
theorem f48_9 : iv_V call mc_48 rt 9 (v0 :: .int x :: L) (st) w = iv_V call mc_48 rt 10 (v0 :: .int x :: L) (.int x :: st) w := e48_9
theorem f48_10 : iv_V call mc_48 rt 10 (L) (st) w = iv_ald w st iv_isI (iv_kv call mc_48 rt 11 L w) := e48_10
theorem f48_11 : iv_V call mc_48 rt 11 (L) (.int y :: .int x :: st) w = if y ≤ x then iv_V call mc_48 rt 45 (L) (st) w else iv_V call mc_48 rt 12 (L) (st) w := e48_11
theorem f48_12 : iv_V call mc_48 rt 12 (.ref a :: L) (st) w = iv_V call mc_48 rt 13 (.ref a :: L) (.ref a :: st) w := e48_12
theorem f48_13 : iv_V call mc_48 rt 13 (L) (st) w = iv_gf w st 1 23 (iv_kv call mc_48 rt 14 L w) := e48_13
theorem f48_14 : iv_V call mc_48 rt 14 (L) (st) w = iv_V call mc_48 rt 15 (L) (.int (nI 4) :: st) w := e48_14
theorem f48_15 : iv_V call mc_48 rt 15 (v0 :: .int x :: L) (st) w = iv_V call mc_48 rt 16 (v0 :: .int x :: L) (.int x :: st) w := e48_15
theorem f48_16 : iv_V call mc_48 rt 16 (L) (.int y :: .int x :: st) w = iv_V call mc_48 rt 17 (L) (.int (x * y) :: st) w := e48_16
theorem f48_17 : iv_V call mc_48 rt 17 (v0 :: v1 :: v2 :: v3 :: .int x :: L) (st) w = iv_V call mc_48 rt 18 (v0 :: v1 :: v2 :: v3 :: .int x :: L) (.int x :: st) w := e48_17
theorem f48_18 : iv_V call mc_48 rt 18 (L) (.int y :: .int x :: st) w = iv_V call mc_48 rt 19 (L) (.int (x + y) :: st) w := e48_18
theorem f48_19 : iv_V call mc_48 rt 19 (L) (st) w = iv_ald w st iv_isI (iv_kv call mc_48 rt 20 L w) := e48_19
theorem f48_20 : iv_V call mc_48 rt 20 (L) (st) w = iv_V call mc_48 rt 21 (L) (.int (-1) :: st) w := e48_20
theorem f48_21 : iv_V call mc_48 rt 21 (L) (.int y :: .int x :: st) w = if ¬ x = y then iv_V call mc_48 rt 26 (L) (st) w else iv_V call mc_48 rt 22 (L) (st) w := e48_21
theorem f48_22 : iv_V call mc_48 rt 22 (v0 :: v1 :: .int x :: L) (st) w = iv_V call mc_48 rt 23 (v0 :: v1 :: .int x :: L) (.int x :: st) w := e48_22
theorem f48_23 : iv_V call mc_48 rt 23 (L) (st) w = iv_V call mc_48 rt 24 (L) (.int (nI 1) :: st) w := e48_23
theorem f48_24 : iv_V call mc_48 rt 24 (L) (.int y :: .int x :: st) w = iv_V call mc_48 rt 25 (L) (.int (x + y) :: st) w := e48_24
theorem f48_25 : iv_V call mc_48 rt 25 (L) (st) w = iv_V call mc_48 rt 27 (L) (st) w := e48_25
theorem f48_26 : iv_V call mc_48 rt 26 (v0 :: v1 :: .int x :: L) (st) w = iv_V call mc_48 rt 27 (v0 :: v1 :: .int x :: L) (.int x :: st) w := e48_26
theorem f48_27 : iv_V call mc_48 rt 27 (v0 :: v1 :: u :: L) (.int x :: st) w = iv_V call mc_48 rt 28 (v0 :: v1 :: .int x :: L) (st) w := e48_27
theorem f48_28 : iv_V call mc_48 rt 28 (v0 :: v1 :: v2 :: .int x :: L) (st) w = iv_V call mc_48 rt 29 (v0 :: v1 :: v2 :: .int x :: L) (.int x :: st) w := e48_28
theorem f48_29 : iv_V call mc_48 rt 29 (L) (.int x :: st) w = if ¬ x = nI 0 then iv_V call mc_48 rt 39 (L) (st) w else iv_V call mc_48 rt 30 (L) (st) w := e48_29
theorem f48_30 : iv_V call mc_48 rt 30 (.ref a :: L) (st) w = iv_V call mc_48 rt 31 (.ref a :: L) (.ref a :: st) w := e48_30
theorem f48_31 : iv_V call mc_48 rt 31 (L) (st) w = iv_gf w st 1 23 (iv_kv call mc_48 rt 32 L w) := e48_31
theorem f48_32 : iv_V call mc_48 rt 32 (L) (st) w = iv_V call mc_48 rt 33 (L) (.int (nI 4) :: st) w := e48_32
theorem f48_33 : iv_V call mc_48 rt 33 (v0 :: .int x :: L) (st) w = iv_V call mc_48 rt 34 (v0 :: .int x :: L) (.int x :: st) w := e48_33
theorem f48_34 : iv_V call mc_48 rt 34 (L) (.int y :: .int x :: st) w = iv_V call mc_48 rt 35 (L) (.int (x * y) :: st) w := e48_34
theorem f48_35 : iv_V call mc_48 rt 35 (v0 :: v1 :: v2 :: v3 :: .int x :: L) (st) w = iv_V call mc_48 rt 36 (v0 :: v1 :: v2 :: v3 :: .int x :: L) (.int x :: st) w := e48_35
theorem f48_36 : iv_V call mc_48 rt 36 (L) (.int y :: .int x :: st) w = iv_V call mc_48 rt 37 (L) (.int (x + y) :: st) w := e48_36
theorem f48_37 : iv_V call mc_48 rt 37 (L) (st) w = iv_ald w st iv_isI (iv_kv call mc_48 rt 38 L w) := e48_37
theorem f48_38 : iv_V call mc_48 rt 38 (L) (.int x :: st) w = if ¬ x = nI 0 then iv_V call mc_48 rt 41 (L) (st) w else iv_V call mc_48 rt 39 (L) (st) w := e48_38
theorem f48_39 : iv_V call mc_48 rt 39 (L) (st) w = iv_V call mc_48 rt 40 (L) (.int (nI 1) :: st) w := e48_39
theorem f48_40 : iv_V call mc_48 rt 40 (L) (st) w = iv_V call mc_48 rt 42 (L) (st) w := e48_40
theorem f48_41 : iv_V call mc_48 rt 41 (L) (st) w = iv_V call mc_48 rt 42 (L) (.int (nI 0) :: st) w := e48_41
theorem f48_42 : iv_V call mc_48 rt 42 (v0 :: v1 :: v2 :: u :: L) (.int x :: st) w = iv_V call mc_48 rt 43 (v0 :: v1 :: v2 :: .int x :: L) (st) w := e48_42
theorem f48_43 : iv_V call mc_48 rt 43 (v0 :: v1 :: v2 :: v3 :: .int x :: L) (st) w = iv_V call mc_48 rt 44 (v0 :: v1 :: v2 :: v3 :: .int (x + (nI 1)) :: L) (st) w := e48_43
theorem f48_44 : iv_V call mc_48 rt 44 (L) (st) w = iv_V call mc_48 rt 6 (L) (st) w := e48_44
theorem f48_45 : iv_V call mc_48 rt 45 (v0 :: v1 :: .int x :: L) (st) w = iv_V call mc_48 rt 46 (v0 :: v1 :: .int x :: L) (.int x :: st) w := e48_45
theorem f48_46 : iv_V call mc_48 rt 46 (L) (st) w = iv_V call mc_48 rt 47 (L) (.int (nI 1) :: st) w := e48_46
theorem f48_47 : iv_V call mc_48 rt 47 (L) (.int y :: .int x :: st) w = if ¬ x = y then iv_V call mc_48 rt 52 (L) (st) w else iv_V call mc_48 rt 48 (L) (st) w := e48_47
theorem f48_48 : iv_V call mc_48 rt 48 (v0 :: v1 :: v2 :: .int x :: L) (st) w = iv_V call mc_48 rt 49 (v0 :: v1 :: v2 :: .int x :: L) (.int x :: st) w := e48_48
theorem f48_49 : iv_V call mc_48 rt 49 (L) (.int x :: st) w = if ¬ x = nI 0 then iv_V call mc_48 rt 52 (L) (st) w else iv_V call mc_48 rt 50 (L) (st) w := e48_49
theorem f48_50 : iv_V call mc_48 rt 50 (L) (st) w = iv_V call mc_48 rt 51 (L) (.int (nI 1) :: st) w := e48_50
theorem f48_51 : iv_V call mc_48 rt 51 (L) (st) w = iv_V call mc_48 rt 53 (L) (st) w := e48_51
theorem f48_52 : iv_V call mc_48 rt 52 (L) (st) w = iv_V call mc_48 rt 53 (L) (.int (nI 0) :: st) w := e48_52
theorem f48_53 : iv_V call mc_48 rt 53 (L) (st) w = iv_ret rt st w := e48_53
theorem f49_0 : iv_V call mc_49 rt 0 (L) (st) w = iv_V call mc_49 rt 1 (L) (.int (nI 0) :: st) w := e49_0
theorem f49_1 : iv_V call mc_49 rt 1 (v0 :: v1 :: v2 :: u :: L) (.int x :: st) w = iv_V call mc_49 rt 2 (v0 :: v1 :: v2 :: .int x :: L) (st) w := e49_1
theorem f49_2 : iv_V call mc_49 rt 2 (v0 :: v1 :: v2 :: .int x :: L) (st) w = iv_V call mc_49 rt 3 (v0 :: v1 :: v2 :: .int x :: L) (.int x :: st) w := e49_2
theorem f49_3 : iv_V call mc_49 rt 3 (.ref a :: L) (st) w = iv_V call mc_49 rt 4 (.ref a :: L) (.ref a :: st) w := e49_3
theorem f49_4 : iv_V call mc_49 rt 4 (L) (st) w = iv_gf w st 1 28 (iv_kv call mc_49 rt 5 L w) := e49_4
theorem f49_5 : iv_V call mc_49 rt 5 (L) (.int y :: .int x :: st) w = if y ≤ x then iv_V call mc_49 rt 22 (L) (st) w else iv_V call mc_49 rt 6 (L) (st) w := e49_5
theorem f49_6 : iv_V call mc_49 rt 6 (.ref a :: L) (st) w = iv_V call mc_49 rt 7 (.ref a :: L) (.ref a :: st) w := e49_6
theorem f49_7 : iv_V call mc_49 rt 7 (L) (st) w = iv_gf w st 1 29 (iv_kv call mc_49 rt 8 L w) := e49_7
theorem f49_8 : iv_V call mc_49 rt 8 (v0 :: v1 :: v2 :: .int x :: L) (st) w = iv_V call mc_49 rt 9 (v0 :: v1 :: v2 :: .int x :: L) (.int x :: st) w := e49_8
theorem f49_9 : iv_V call mc_49 rt 9 (L) (st) w = iv_ald w st iv_isI (iv_kv call mc_49 rt 10 L w) := e49_9
theorem f49_10 : iv_V call mc_49 rt 10 (v0 :: .int x :: L) (st) w = iv_V call mc_49 rt 11 (v0 :: .int x :: L) (.int x :: st) w := e49_10
theorem f49_11 : iv_V call mc_49 rt 11 (L) (.int y :: .int x :: st) w = if ¬ x = y then iv_V call mc_49 rt 20 (L) (st) w else iv_V call mc_49 rt 12 (L) (st) w := e49_11
theorem f49_12 : iv_V call mc_49 rt 12 (.ref a :: L) (st) w = iv_V call mc_49 rt 13 (.ref a :: L) (.ref a :: st) w := e49_12
theorem f49_13 : iv_V call mc_49 rt 13 (L) (st) w = iv_gf w st 1 30 (iv_kv call mc_49 rt 14 L w) := e49_13
theorem f49_14 : iv_V call mc_49 rt 14 (v0 :: v1 :: v2 :: .int x :: L) (st) w = iv_V call mc_49 rt 15 (v0 :: v1 :: v2 :: .int x :: L) (.int x :: st) w := e49_14
theorem f49_15 : iv_V call mc_49 rt 15 (L) (st) w = iv_ald w st iv_isI (iv_kv call mc_49 rt 16 L w) := e49_15
theorem f49_16 : iv_V call mc_49 rt 16 (v0 :: v1 :: .int x :: L) (st) w = iv_V call mc_49 rt 17 (v0 :: v1 :: .int x :: L) (.int x :: st) w := e49_16
theorem f49_17 : iv_V call mc_49 rt 17 (L) (.int y :: .int x :: st) w = if ¬ x = y then iv_V call mc_49 rt 20 (L) (st) w else iv_V call mc_49 rt 18 (L) (st) w := e49_17
theorem f49_18 : iv_V call mc_49 rt 18 (L) (st) w = iv_V call mc_49 rt 19 (L) (.int (nI 0) :: st) w := e49_18
theorem f49_19 : iv_V call mc_49 rt 19 (L) (st) w = iv_ret rt st w := e49_19
theorem f49_20 : iv_V call mc_49 rt 20 (v0 :: v1 :: v2 :: .int x :: L) (st) w = iv_V call mc_49 rt 21 (v0 :: v1 :: v2 :: .int (x + (nI 1)) :: L) (st) w := e49_20
theorem f49_21 : iv_V call mc_49 rt 21 (L) (st) w = iv_V call mc_49 rt 2 (L) (st) w := e49_21
theorem f49_22 : iv_V call mc_49 rt 22 (.ref a :: L) (st) w = iv_V call mc_49 rt 23 (.ref a :: L) (.ref a :: st) w := e49_22
theorem f49_23 : iv_V call mc_49 rt 23 (L) (st) w = iv_gf w st 1 39 (iv_kv call mc_49 rt 24 L w) := e49_23
theorem f49_24 : iv_V call mc_49 rt 24 (L) (st) w = iv_V call mc_49 rt 25 (L) (.int (nI 60) :: st) w := e49_24
theorem f49_25 : iv_V call mc_49 rt 25 (L) (.int y :: .int x :: st) w = if x = y then iv_V call mc_49 rt 30 (L) (st) w else iv_V call mc_49 rt 26 (L) (st) w := e49_25
theorem f49_26 : iv_V call mc_49 rt 26 (.ref a :: L) (st) w = iv_V call mc_49 rt 27 (.ref a :: L) (.ref a :: st) w := e49_26
theorem f49_27 : iv_V call mc_49 rt 27 (L) (st) w = iv_gf w st 1 28 (iv_kv call mc_49 rt 28 L w) := e49_27
theorem f49_28 : iv_V call mc_49 rt 28 (L) (st) w = iv_V call mc_49 rt 29 (L) (.int (nI 16) :: st) w := e49_28
theorem f49_29 : iv_V call mc_49 rt 29 (L) (.int y :: .int x :: st) w = if ¬ x = y then iv_V call mc_49 rt 32 (L) (st) w else iv_V call mc_49 rt 30 (L) (st) w := e49_29
theorem f49_30 : iv_V call mc_49 rt 30 (L) (st) w = iv_V call mc_49 rt 31 (L) (.int (-5) :: st) w := e49_30
theorem f49_31 : iv_V call mc_49 rt 31 (L) (st) w = iv_ret rt st w := e49_31
theorem f49_32 : iv_V call mc_49 rt 32 (.ref a :: L) (st) w = iv_V call mc_49 rt 33 (.ref a :: L) (.ref a :: st) w := e49_32
theorem f49_33 : iv_V call mc_49 rt 33 (L) (.ref a :: st) w = iv_V call mc_49 rt 34 (L) (.ref a :: .ref a :: st) w := e49_33
theorem f49_34 : iv_V call mc_49 rt 34 (L) (st) w = iv_gf w st 1 39 (iv_kv call mc_49 rt 35 L w) := e49_34
theorem f49_35 : iv_V call mc_49 rt 35 (L) (st) w = iv_V call mc_49 rt 36 (L) (.int (nI 1) :: st) w := e49_35
theorem f49_36 : iv_V call mc_49 rt 36 (L) (.int y :: .int x :: st) w = iv_V call mc_49 rt 37 (L) (.int (x + y) :: st) w := e49_36
theorem f49_37 : iv_V call mc_49 rt 37 (L) (st) w = iv_pf w st 1 39 (iv_kw call mc_49 rt 38 L) := e49_37
theorem f49_38 : iv_V call mc_49 rt 38 (v0 :: v1 :: .int x :: L) (st) w = iv_V call mc_49 rt 39 (v0 :: v1 :: .int x :: L) (.int x :: st) w := e49_38
theorem f49_39 : iv_V call mc_49 rt 39 (L) (.int x :: st) w = if ¬ x = nI 0 then iv_V call mc_49 rt 57 (L) (st) w else iv_V call mc_49 rt 40 (L) (st) w := e49_39
theorem f49_40 : iv_V call mc_49 rt 40 (.ref a :: L) (st) w = iv_V call mc_49 rt 41 (.ref a :: L) (.ref a :: st) w := e49_40
theorem f49_41 : iv_V call mc_49 rt 41 (L) (st) w = iv_gf w st 1 22 (iv_kv call mc_49 rt 42 L w) := e49_41
theorem f49_42 : iv_V call mc_49 rt 42 (.ref a :: L) (st) w = iv_V call mc_49 rt 43 (.ref a :: L) (.ref a :: st) w := e49_42
theorem f49_43 : iv_V call mc_49 rt 43 (L) (st) w = iv_gf w st 1 25 (iv_kv call mc_49 rt 44 L w) := e49_43
theorem f49_44 : iv_V call mc_49 rt 44 (v0 :: .int x :: L) (st) w = iv_V call mc_49 rt 45 (v0 :: .int x :: L) (.int x :: st) w := e49_44
theorem f49_45 : iv_V call mc_49 rt 45 (L) (st) w = iv_ald w st iv_isI (iv_kv call mc_49 rt 46 L w) := e49_45
theorem f49_46 : iv_V call mc_49 rt 46 (L) (st) w = iv_ald w st iv_isI (iv_kv call mc_49 rt 47 L w) := e49_46
theorem f49_47 : iv_V call mc_49 rt 47 (L) (.int x :: st) w = if x ≤ nI 0 then iv_V call mc_49 rt 57 (L) (st) w else iv_V call mc_49 rt 48 (L) (st) w := e49_47
theorem f49_48 : iv_V call mc_49 rt 48 (.ref a :: L) (st) w = iv_V call mc_49 rt 49 (.ref a :: L) (.ref a :: st) w := e49_48
theorem f49_49 : iv_V call mc_49 rt 49 (.ref a :: L) (st) w = iv_V call mc_49 rt 50 (.ref a :: L) (.ref a :: st) w := e49_49
theorem f49_50 : iv_V call mc_49 rt 50 (L) (st) w = iv_gf w st 1 25 (iv_kv call mc_49 rt 51 L w) := e49_50
theorem f49_51 : iv_V call mc_49 rt 51 (v0 :: .int x :: L) (st) w = iv_V call mc_49 rt 52 (v0 :: .int x :: L) (.int x :: st) w := e49_51
theorem f49_52 : iv_V call mc_49 rt 52 (L) (st) w = iv_ald w st iv_isI (iv_kv call mc_49 rt 53 L w) := e49_52
theorem f49_53 {a0 : Nat} {x1 : Int32} : iv_V call mc_49 rt 53 (L) (.int x1 :: .ref a0 :: []) w = iv_cr (iv_rc w [.ref a0, .int x1] 1) (iv_ct call mc_49 rt 54 L [] (call 48 [.ref a0, .int x1] w)) := e49_53
theorem f49_54 : iv_V call mc_49 rt 54 (L) (.int x :: st) w = if ¬ x = nI 0 then iv_V call mc_49 rt 57 (L) (st) w else iv_V call mc_49 rt 55 (L) (st) w := e49_54
theorem f49_55 : iv_V call mc_49 rt 55 (L) (st) w = iv_V call mc_49 rt 56 (L) (.int (-3) :: st) w := e49_55
theorem f49_56 : iv_V call mc_49 rt 56 (L) (st) w = iv_ret rt st w := e49_56
theorem f49_57 : iv_V call mc_49 rt 57 (.ref a :: L) (st) w = iv_V call mc_49 rt 58 (.ref a :: L) (.ref a :: st) w := e49_57
theorem f49_58 : iv_V call mc_49 rt 58 (L) (st) w = iv_gf w st 1 29 (iv_kv call mc_49 rt 59 L w) := e49_58
theorem f49_59 : iv_V call mc_49 rt 59 (.ref a :: L) (st) w = iv_V call mc_49 rt 60 (.ref a :: L) (.ref a :: st) w := e49_59
theorem f49_60 : iv_V call mc_49 rt 60 (L) (st) w = iv_gf w st 1 28 (iv_kv call mc_49 rt 61 L w) := e49_60
theorem f49_61 : iv_V call mc_49 rt 61 (v0 :: .int x :: L) (st) w = iv_V call mc_49 rt 62 (v0 :: .int x :: L) (.int x :: st) w := e49_61
theorem f49_62 : iv_V call mc_49 rt 62 (L) (st) w = iv_ast w st iv_isI (iv_kw call mc_49 rt 63 L) := e49_62
theorem f49_63 : iv_V call mc_49 rt 63 (.ref a :: L) (st) w = iv_V call mc_49 rt 64 (.ref a :: L) (.ref a :: st) w := e49_63
theorem f49_64 : iv_V call mc_49 rt 64 (L) (st) w = iv_gf w st 1 30 (iv_kv call mc_49 rt 65 L w) := e49_64
theorem f49_65 : iv_V call mc_49 rt 65 (.ref a :: L) (st) w = iv_V call mc_49 rt 66 (.ref a :: L) (.ref a :: st) w := e49_65
theorem f49_66 : iv_V call mc_49 rt 66 (L) (st) w = iv_gf w st 1 28 (iv_kv call mc_49 rt 67 L w) := e49_66
theorem f49_67 : iv_V call mc_49 rt 67 (v0 :: v1 :: .int x :: L) (st) w = iv_V call mc_49 rt 68 (v0 :: v1 :: .int x :: L) (.int x :: st) w := e49_67
theorem f49_68 : iv_V call mc_49 rt 68 (L) (st) w = iv_ast w st iv_isI (iv_kw call mc_49 rt 69 L) := e49_68
theorem f49_69 : iv_V call mc_49 rt 69 (.ref a :: L) (st) w = iv_V call mc_49 rt 70 (.ref a :: L) (.ref a :: st) w := e49_69
theorem f49_70 : iv_V call mc_49 rt 70 (L) (st) w = iv_gf w st 1 31 (iv_kv call mc_49 rt 71 L w) := e49_70
theorem f49_71 : iv_V call mc_49 rt 71 (.ref a :: L) (st) w = iv_V call mc_49 rt 72 (.ref a :: L) (.ref a :: st) w := e49_71
theorem f49_72 : iv_V call mc_49 rt 72 (L) (st) w = iv_gf w st 1 28 (iv_kv call mc_49 rt 73 L w) := e49_72
theorem f49_73 : iv_V call mc_49 rt 73 (L) (st) w = iv_V call mc_49 rt 74 (L) (.int (nI 0) :: st) w := e49_73
theorem f49_74 : iv_V call mc_49 rt 74 (L) (st) w = iv_ast w st iv_isI (iv_kw call mc_49 rt 75 L) := e49_74
theorem f49_75 : iv_V call mc_49 rt 75 (.ref a :: L) (st) w = iv_V call mc_49 rt 76 (.ref a :: L) (.ref a :: st) w := e49_75
theorem f49_76 : iv_V call mc_49 rt 76 (L) (st) w = iv_gf w st 1 33 (iv_kv call mc_49 rt 77 L w) := e49_76
theorem f49_77 : iv_V call mc_49 rt 77 (.ref a :: L) (st) w = iv_V call mc_49 rt 78 (.ref a :: L) (.ref a :: st) w := e49_77
theorem f49_78 : iv_V call mc_49 rt 78 (L) (st) w = iv_gf w st 1 28 (iv_kv call mc_49 rt 79 L w) := e49_78
theorem f49_79 : iv_V call mc_49 rt 79 (L) (st) w = iv_V call mc_49 rt 80 (L) (.int (nI 0) :: st) w := e49_79
theorem f49_80 : iv_V call mc_49 rt 80 (L) (st) w = iv_ast w st iv_isZ (iv_kw call mc_49 rt 81 L) := e49_80
theorem f49_81 : iv_V call mc_49 rt 81 (.ref a :: L) (st) w = iv_V call mc_49 rt 82 (.ref a :: L) (.ref a :: st) w := e49_81
theorem f49_82 : iv_V call mc_49 rt 82 (L) (.ref a :: st) w = iv_V call mc_49 rt 83 (L) (.ref a :: .ref a :: st) w := e49_82
theorem f49_83 : iv_V call mc_49 rt 83 (L) (st) w = iv_gf w st 1 28 (iv_kv call mc_49 rt 84 L w) := e49_83
theorem f49_84 : iv_V call mc_49 rt 84 (L) (st) w = iv_V call mc_49 rt 85 (L) (.int (nI 1) :: st) w := e49_84
theorem f49_85 : iv_V call mc_49 rt 85 (L) (.int y :: .int x :: st) w = iv_V call mc_49 rt 86 (L) (.int (x + y) :: st) w := e49_85
theorem f49_86 : iv_V call mc_49 rt 86 (L) (st) w = iv_pf w st 1 28 (iv_kw call mc_49 rt 87 L) := e49_86
theorem f49_87 : iv_V call mc_49 rt 87 (L) (st) w = iv_V call mc_49 rt 88 (L) (.int (nI 0) :: st) w := e49_87
theorem f49_88 : iv_V call mc_49 rt 88 (L) (st) w = iv_ret rt st w := e49_88
theorem f50_0 : iv_V call mc_50 rt 0 (.ref a :: L) (st) w = iv_V call mc_50 rt 1 (.ref a :: L) (.ref a :: st) w := e50_0
theorem f50_1 : iv_V call mc_50 rt 1 (L) (st) w = iv_gf w st 1 25 (iv_kv call mc_50 rt 2 L w) := e50_1
theorem f50_2 : iv_V call mc_50 rt 2 (.ref a :: L) (st) w = iv_V call mc_50 rt 3 (.ref a :: L) (.ref a :: st) w := e50_2
theorem f50_3 : iv_V call mc_50 rt 3 (L) (st) w = iv_gf w st 1 29 (iv_kv call mc_50 rt 4 L w) := e50_3
theorem f50_4 : iv_V call mc_50 rt 4 (v0 :: .int x :: L) (st) w = iv_V call mc_50 rt 5 (v0 :: .int x :: L) (.int x :: st) w := e50_4
theorem f50_5 : iv_V call mc_50 rt 5 (L) (st) w = iv_ald w st iv_isI (iv_kv call mc_50 rt 6 L w) := e50_5
theorem f50_6 : iv_V call mc_50 rt 6 (L) (st) w = iv_ald w st iv_isI (iv_kv call mc_50 rt 7 L w) := e50_6
theorem f50_7 : iv_V call mc_50 rt 7 (v0 :: v1 :: u :: L) (.int x :: st) w = iv_V call mc_50 rt 8 (v0 :: v1 :: .int x :: L) (st) w := e50_7
theorem f50_8 : iv_V call mc_50 rt 8 (.ref a :: L) (st) w = iv_V call mc_50 rt 9 (.ref a :: L) (.ref a :: st) w := e50_8
theorem f50_9 : iv_V call mc_50 rt 9 (L) (st) w = iv_gf w st 1 30 (iv_kv call mc_50 rt 10 L w) := e50_9
theorem f50_10 : iv_V call mc_50 rt 10 (v0 :: .int x :: L) (st) w = iv_V call mc_50 rt 11 (v0 :: .int x :: L) (.int x :: st) w := e50_10
theorem f50_11 : iv_V call mc_50 rt 11 (L) (st) w = iv_ald w st iv_isI (iv_kv call mc_50 rt 12 L w) := e50_11
theorem f50_12 : iv_V call mc_50 rt 12 (L) (.int x :: st) w = if ¬ x = nI 0 then iv_V call mc_50 rt 20 (L) (st) w else iv_V call mc_50 rt 13 (L) (st) w := e50_12
theorem f50_13 : iv_V call mc_50 rt 13 (.ref a :: L) (st) w = iv_V call mc_50 rt 14 (.ref a :: L) (.ref a :: st) w := e50_13
theorem f50_14 : iv_V call mc_50 rt 14 (L) (st) w = iv_gf w st 1 22 (iv_kv call mc_50 rt 15 L w) := e50_14
theorem f50_15 : iv_V call mc_50 rt 15 (v0 :: v1 :: .int x :: L) (st) w = iv_V call mc_50 rt 16 (v0 :: v1 :: .int x :: L) (.int x :: st) w := e50_15
theorem f50_16 : iv_V call mc_50 rt 16 (L) (st) w = iv_ald w st iv_isI (iv_kv call mc_50 rt 17 L w) := e50_16
theorem f50_17 : iv_V call mc_50 rt 17 (L) (.int x :: st) w = if x ≤ nI 0 then iv_V call mc_50 rt 20 (L) (st) w else iv_V call mc_50 rt 18 (L) (st) w := e50_17
theorem f50_18 : iv_V call mc_50 rt 18 (L) (st) w = iv_V call mc_50 rt 19 (L) (.int (nI 1) :: st) w := e50_18
theorem f50_19 : iv_V call mc_50 rt 19 (L) (st) w = iv_V call mc_50 rt 21 (L) (st) w := e50_19
theorem f50_20 : iv_V call mc_50 rt 20 (L) (st) w = iv_V call mc_50 rt 21 (L) (.int (nI 0) :: st) w := e50_20
theorem f50_21 : iv_V call mc_50 rt 21 (v0 :: v1 :: v2 :: u :: L) (.int x :: st) w = iv_V call mc_50 rt 22 (v0 :: v1 :: v2 :: .int x :: L) (st) w := e50_21
theorem f50_22 : iv_V call mc_50 rt 22 (.ref a :: L) (st) w = iv_V call mc_50 rt 23 (.ref a :: L) (.ref a :: st) w := e50_22
theorem f50_23 : iv_V call mc_50 rt 23 (L) (st) w = iv_gf w st 1 31 (iv_kv call mc_50 rt 24 L w) := e50_23
theorem f50_24 : iv_V call mc_50 rt 24 (v0 :: .int x :: L) (st) w = iv_V call mc_50 rt 25 (v0 :: .int x :: L) (.int x :: st) w := e50_24
theorem f50_25 : iv_V call mc_50 rt 25 (L) (st) w = iv_ald w st iv_isI (iv_kv call mc_50 rt 26 L w) := e50_25
theorem f50_26 : iv_V call mc_50 rt 26 (v0 :: v1 :: v2 :: .int x :: L) (st) w = iv_V call mc_50 rt 27 (v0 :: v1 :: v2 :: .int x :: L) (.int x :: st) w := e50_26
theorem f50_27 : iv_V call mc_50 rt 27 (L) (.int x :: st) w = if x = nI 0 then iv_V call mc_50 rt 33 (L) (st) w else iv_V call mc_50 rt 28 (L) (st) w := e50_27
theorem f50_28 : iv_V call mc_50 rt 28 (.ref a :: L) (st) w = iv_V call mc_50 rt 29 (.ref a :: L) (.ref a :: st) w := e50_28
theorem f50_29 : iv_V call mc_50 rt 29 (L) (st) w = iv_gf w st 1 22 (iv_kv call mc_50 rt 30 L w) := e50_29
theorem f50_30 : iv_V call mc_50 rt 30 (v0 :: v1 :: .int x :: L) (st) w = iv_V call mc_50 rt 31 (v0 :: v1 :: .int x :: L) (.int x :: st) w := e50_30
theorem f50_31 : iv_V call mc_50 rt 31 (L) (st) w = iv_ald w st iv_isI (iv_kv call mc_50 rt 32 L w) := e50_31
theorem f50_32 : iv_V call mc_50 rt 32 (L) (st) w = iv_V call mc_50 rt 34 (L) (st) w := e50_32
theorem f50_33 : iv_V call mc_50 rt 33 (L) (st) w = iv_V call mc_50 rt 34 (L) (.int (nI 1) :: st) w := e50_33
theorem f50_34 : iv_V call mc_50 rt 34 (L) (.int y :: .int x :: st) w = if ¬ x = y then iv_V call mc_50 rt 43 (L) (st) w else iv_V call mc_50 rt 35 (L) (st) w := e50_34
theorem f50_35 : iv_V call mc_50 rt 35 (.ref a :: L) (st) w = iv_V call mc_50 rt 36 (.ref a :: L) (.ref a :: st) w := e50_35
theorem f50_36 : iv_V call mc_50 rt 36 (L) (.ref a :: st) w = iv_V call mc_50 rt 37 (L) (.ref a :: .ref a :: st) w := e50_36
theorem f50_37 : iv_V call mc_50 rt 37 (L) (st) w = iv_gf w st 1 28 (iv_kv call mc_50 rt 38 L w) := e50_37
theorem f50_38 : iv_V call mc_50 rt 38 (L) (st) w = iv_V call mc_50 rt 39 (L) (.int (nI 1) :: st) w := e50_38
theorem f50_39 : iv_V call mc_50 rt 39 (L) (.int y :: .int x :: st) w = iv_V call mc_50 rt 40 (L) (.int (x - y) :: st) w := e50_39
theorem f50_40 : iv_V call mc_50 rt 40 (L) (st) w = iv_pf w st 1 28 (iv_kw call mc_50 rt 41 L) := e50_40
theorem f50_41 : iv_V call mc_50 rt 41 (L) (st) w = iv_V call mc_50 rt 42 (L) (.int (nI 0) :: st) w := e50_41
theorem f50_42 : iv_V call mc_50 rt 42 (L) (st) w = iv_ret rt st w := e50_42
theorem f50_43 : iv_V call mc_50 rt 43 (v0 :: v1 :: v2 :: .int x :: L) (st) w = iv_V call mc_50 rt 44 (v0 :: v1 :: v2 :: .int x :: L) (.int x :: st) w := e50_43
theorem f50_44 : iv_V call mc_50 rt 44 (L) (.int x :: st) w = if x = nI 0 then iv_V call mc_50 rt 57 (L) (st) w else iv_V call mc_50 rt 45 (L) (st) w := e50_44
theorem f50_45 : iv_V call mc_50 rt 45 (.ref a :: L) (st) w = iv_V call mc_50 rt 46 (.ref a :: L) (.ref a :: st) w := e50_45
theorem f50_46 : iv_V call mc_50 rt 46 (L) (st) w = iv_gf w st 1 23 (iv_kv call mc_50 rt 47 L w) := e50_46
theorem f50_47 : iv_V call mc_50 rt 47 (L) (st) w = iv_V call mc_50 rt 48 (L) (.int (nI 4) :: st) w := e50_47
theorem f50_48 : iv_V call mc_50 rt 48 (v0 :: v1 :: .int x :: L) (st) w = iv_V call mc_50 rt 49 (v0 :: v1 :: .int x :: L) (.int x :: st) w := e50_48
theorem f50_49 : iv_V call mc_50 rt 49 (L) (.int y :: .int x :: st) w = iv_V call mc_50 rt 50 (L) (.int (x * y) :: st) w := e50_49
theorem f50_50 : iv_V call mc_50 rt 50 (.ref a :: L) (st) w = iv_V call mc_50 rt 51 (.ref a :: L) (.ref a :: st) w := e50_50
theorem f50_51 : iv_V call mc_50 rt 51 (L) (st) w = iv_gf w st 1 31 (iv_kv call mc_50 rt 52 L w) := e50_51
theorem f50_52 : iv_V call mc_50 rt 52 (v0 :: .int x :: L) (st) w = iv_V call mc_50 rt 53 (v0 :: .int x :: L) (.int x :: st) w := e50_52
theorem f50_53 : iv_V call mc_50 rt 53 (L) (st) w = iv_ald w st iv_isI (iv_kv call mc_50 rt 54 L w) := e50_53
theorem f50_54 : iv_V call mc_50 rt 54 (L) (.int y :: .int x :: st) w = iv_V call mc_50 rt 55 (L) (.int (x + y) :: st) w := e50_54
theorem f50_55 : iv_V call mc_50 rt 55 (L) (st) w = iv_ald w st iv_isI (iv_kv call mc_50 rt 56 L w) := e50_55
theorem f50_56 : iv_V call mc_50 rt 56 (L) (st) w = iv_V call mc_50 rt 61 (L) (st) w := e50_56
theorem f50_57 : iv_V call mc_50 rt 57 (.ref a :: L) (st) w = iv_V call mc_50 rt 58 (.ref a :: L) (.ref a :: st) w := e50_57
theorem f50_58 : iv_V call mc_50 rt 58 (L) (st) w = iv_gf w st 1 30 (iv_kv call mc_50 rt 59 L w) := e50_58
theorem f50_59 : iv_V call mc_50 rt 59 (v0 :: .int x :: L) (st) w = iv_V call mc_50 rt 60 (v0 :: .int x :: L) (.int x :: st) w := e50_59
theorem f50_60 : iv_V call mc_50 rt 60 (L) (st) w = iv_ald w st iv_isI (iv_kv call mc_50 rt 61 L w) := e50_60
theorem f50_61 : iv_V call mc_50 rt 61 (v0 :: v1 :: v2 :: v3 :: u :: L) (.int x :: st) w = iv_V call mc_50 rt 62 (v0 :: v1 :: v2 :: v3 :: .int x :: L) (st) w := e50_61
theorem f50_62 : iv_V call mc_50 rt 62 (v0 :: v1 :: v2 :: v3 :: .int x :: L) (st) w = iv_V call mc_50 rt 63 (v0 :: v1 :: v2 :: v3 :: .int x :: L) (.int x :: st) w := e50_62
theorem f50_63 : iv_V call mc_50 rt 63 (L) (.int x :: st) w = if nI 0 ≤ x then iv_V call mc_50 rt 66 (L) (st) w else iv_V call mc_50 rt 64 (L) (st) w := e50_63
theorem f50_64 : iv_V call mc_50 rt 64 (L) (st) w = iv_V call mc_50 rt 65 (L) (.int (nI 0) :: st) w := e50_64
theorem f50_65 : iv_V call mc_50 rt 65 (L) (st) w = iv_V call mc_50 rt 67 (L) (st) w := e50_65
theorem f50_66 : iv_V call mc_50 rt 66 (v0 :: v1 :: v2 :: v3 :: .int x :: L) (st) w = iv_V call mc_50 rt 67 (v0 :: v1 :: v2 :: v3 :: .int x :: L) (.int x :: st) w := e50_66
theorem f50_67 : iv_V call mc_50 rt 67 (v0 :: v1 :: v2 :: v3 :: u :: L) (.int x :: st) w = iv_V call mc_50 rt 68 (v0 :: v1 :: v2 :: v3 :: .int x :: L) (st) w := e50_67
theorem f50_68 : iv_V call mc_50 rt 68 (.ref a :: L) (st) w = iv_V call mc_50 rt 69 (.ref a :: L) (.ref a :: st) w := e50_68
theorem f50_69 : iv_V call mc_50 rt 69 (L) (st) w = iv_gf w st 1 32 (iv_kv call mc_50 rt 70 L w) := e50_69
theorem f50_70 : iv_V call mc_50 rt 70 (v0 :: .int x :: L) (st) w = iv_V call mc_50 rt 71 (v0 :: .int x :: L) (.int x :: st) w := e50_70
theorem f50_71 : iv_V call mc_50 rt 71 (v0 :: v1 :: v2 :: v3 :: .int x :: L) (st) w = iv_V call mc_50 rt 72 (v0 :: v1 :: v2 :: v3 :: .int x :: L) (.int x :: st) w := e50_71
theorem f50_72 : iv_V call mc_50 rt 72 (L) (st) w = iv_ast w st iv_isI (iv_kw call mc_50 rt 73 L) := e50_72
theorem f50_73 : iv_V call mc_50 rt 73 (.ref a :: L) (st) w = iv_V call mc_50 rt 74 (.ref a :: L) (.ref a :: st) w := e50_73
theorem f50_74 : iv_V call mc_50 rt 74 (L) (st) w = iv_gf w st 1 36 (iv_kv call mc_50 rt 75 L w) := e50_74
theorem f50_75 : iv_V call mc_50 rt 75 (v0 :: .int x :: L) (st) w = iv_V call mc_50 rt 76 (v0 :: .int x :: L) (.int x :: st) w := e50_75
theorem f50_76 : iv_V call mc_50 rt 76 (.ref a :: L) (st) w = iv_V call mc_50 rt 77 (.ref a :: L) (.ref a :: st) w := e50_76
theorem f50_77 : iv_V call mc_50 rt 77 (L) (st) w = iv_gf w st 1 41 (iv_kv call mc_50 rt 78 L w) := e50_77
theorem f50_78 : iv_V call mc_50 rt 78 (L) (st) w = iv_ast w st iv_isI (iv_kw call mc_50 rt 79 L) := e50_78
theorem f50_79 : iv_V call mc_50 rt 79 (.ref a :: L) (st) w = iv_V call mc_50 rt 80 (.ref a :: L) (.ref a :: st) w := e50_79
theorem f50_80 : iv_V call mc_50 rt 80 (L) (st) w = iv_gf w st 1 33 (iv_kv call mc_50 rt 81 L w) := e50_80
theorem f50_81 : iv_V call mc_50 rt 81 (v0 :: .int x :: L) (st) w = iv_V call mc_50 rt 82 (v0 :: .int x :: L) (.int x :: st) w := e50_81
theorem f50_82 : iv_V call mc_50 rt 82 (L) (st) w = iv_V call mc_50 rt 83 (L) (.int (nI 1) :: st) w := e50_82
theorem f50_83 : iv_V call mc_50 rt 83 (L) (st) w = iv_ast w st iv_isZ (iv_kw call mc_50 rt 84 L) := e50_83
theorem f50_84 : iv_V call mc_50 rt 84 (.ref a :: L) (st) w = iv_V call mc_50 rt 85 (.ref a :: L) (.ref a :: st) w := e50_84
theorem f50_85 : iv_V call mc_50 rt 85 (L) (st) w = iv_gf w st 1 34 (iv_kv call mc_50 rt 86 L w) := e50_85
theorem f50_86 : iv_V call mc_50 rt 86 (v0 :: .int x :: L) (st) w = iv_V call mc_50 rt 87 (v0 :: .int x :: L) (.int x :: st) w := e50_86
theorem f50_87 : iv_V call mc_50 rt 87 (L) (st) w = iv_V call mc_50 rt 88 (L) (.int (nI 0) :: st) w := e50_87
theorem f50_88 : iv_V call mc_50 rt 88 (L) (st) w = iv_ast w st iv_isI (iv_kw call mc_50 rt 89 L) := e50_88
theorem f50_89 : iv_V call mc_50 rt 89 (.ref a :: L) (st) w = iv_V call mc_50 rt 90 (.ref a :: L) (.ref a :: st) w := e50_89
theorem f50_90 : iv_V call mc_50 rt 90 (L) (st) w = iv_gf w st 1 35 (iv_kv call mc_50 rt 91 L w) := e50_90
theorem f50_91 : iv_V call mc_50 rt 91 (v0 :: .int x :: L) (st) w = iv_V call mc_50 rt 92 (v0 :: .int x :: L) (.int x :: st) w := e50_91
theorem f50_92 : iv_V call mc_50 rt 92 (L) (st) w = iv_V call mc_50 rt 93 (L) (.int (nI 0) :: st) w := e50_92
theorem f50_93 : iv_V call mc_50 rt 93 (L) (st) w = iv_ast w st iv_isI (iv_kw call mc_50 rt 94 L) := e50_93
theorem f50_94 : iv_V call mc_50 rt 94 (.ref a :: L) (st) w = iv_V call mc_50 rt 95 (.ref a :: L) (.ref a :: st) w := e50_94
theorem f50_95 : iv_V call mc_50 rt 95 (.ref a :: L) (st) w = iv_V call mc_50 rt 96 (.ref a :: L) (.ref a :: st) w := e50_95
theorem f50_96 : iv_V call mc_50 rt 96 (L) (st) w = iv_gf w st 1 29 (iv_kv call mc_50 rt 97 L w) := e50_96
theorem f50_97 : iv_V call mc_50 rt 97 (v0 :: .int x :: L) (st) w = iv_V call mc_50 rt 98 (v0 :: .int x :: L) (.int x :: st) w := e50_97
theorem f50_98 : iv_V call mc_50 rt 98 (L) (st) w = iv_ald w st iv_isI (iv_kv call mc_50 rt 99 L w) := e50_98
theorem f50_99 : iv_V call mc_50 rt 99 (v0 :: v1 :: v2 :: v3 :: .int x :: L) (st) w = iv_V call mc_50 rt 100 (v0 :: v1 :: v2 :: v3 :: .int x :: L) (.int x :: st) w := e50_99
theorem f50_100 : iv_V call mc_50 rt 100 (L) (st) w = iv_V call mc_50 rt 101 (L) (.int (-1) :: st) w := e50_100
theorem f50_101 {a0 : Nat} {x1 : Int32} {x2 : Int32} {x3 : Int32} : iv_V call mc_50 rt 101 (L) (.int x3 :: .int x2 :: .int x1 :: .ref a0 :: []) w = iv_cr (iv_rc w [.ref a0, .int x1, .int x2, .int x3] 1) (iv_ct call mc_50 rt 102 L [] (call 47 [.ref a0, .int x1, .int x2, .int x3] w)) := e50_101
theorem f50_102 : iv_V call mc_50 rt 102 (L) (st) w = iv_ret rt st w := e50_102
theorem f51_0 : iv_V call mc_51 rt 0 (.ref a :: L) (st) w = iv_V call mc_51 rt 1 (.ref a :: L) (.ref a :: st) w := e51_0
theorem f51_1 : iv_V call mc_51 rt 1 (L) (st) w = iv_gf w st 1 34 (iv_kv call mc_51 rt 2 L w) := e51_1
theorem f51_2 : iv_V call mc_51 rt 2 (v0 :: .int x :: L) (st) w = iv_V call mc_51 rt 3 (v0 :: .int x :: L) (.int x :: st) w := e51_2
theorem f51_3 : iv_V call mc_51 rt 3 (L) (st) w = iv_ald w st iv_isI (iv_kv call mc_51 rt 4 L w) := e51_3
theorem f51_4 : iv_V call mc_51 rt 4 (v0 :: v1 :: u :: L) (.int x :: st) w = iv_V call mc_51 rt 5 (v0 :: v1 :: .int x :: L) (st) w := e51_4
theorem f51_5 : iv_V call mc_51 rt 5 (L) (st) w = iv_V call mc_51 rt 6 (L) (.int (nI 14) :: st) w := e51_5
theorem f51_6 : iv_V call mc_51 rt 6 (.ref a :: L) (st) w = iv_V call mc_51 rt 7 (.ref a :: L) (.ref a :: st) w := e51_6
theorem f51_7 : iv_V call mc_51 rt 7 (L) (st) w = iv_gf w st 1 29 (iv_kv call mc_51 rt 8 L w) := e51_7
theorem f51_8 : iv_V call mc_51 rt 8 (v0 :: .int x :: L) (st) w = iv_V call mc_51 rt 9 (v0 :: .int x :: L) (.int x :: st) w := e51_8
theorem f51_9 : iv_V call mc_51 rt 9 (L) (st) w = iv_ald w st iv_isI (iv_kv call mc_51 rt 10 L w) := e51_9
theorem f51_10 : iv_V call mc_51 rt 10 (L) (.int y :: .int x :: st) w = iv_V call mc_51 rt 11 (L) (.int (x * y) :: st) w := e51_10
theorem f51_11 : iv_V call mc_51 rt 11 (v0 :: v1 :: .int x :: L) (st) w = iv_V call mc_51 rt 12 (v0 :: v1 :: .int x :: L) (.int x :: st) w := e51_11
theorem f51_12 : iv_V call mc_51 rt 12 (L) (.int y :: .int x :: st) w = iv_V call mc_51 rt 13 (L) (.int (x + y) :: st) w := e51_12
theorem f51_13 : iv_V call mc_51 rt 13 (v0 :: v1 :: v2 :: u :: L) (.int x :: st) w = iv_V call mc_51 rt 14 (v0 :: v1 :: v2 :: .int x :: L) (st) w := e51_13
theorem f51_14 : iv_V call mc_51 rt 14 (v0 :: v1 :: .int x :: L) (st) w = iv_V call mc_51 rt 15 (v0 :: v1 :: .int x :: L) (.int x :: st) w := e51_14
theorem f51_15 : iv_V call mc_51 rt 15 (.ref a :: L) (st) w = iv_V call mc_51 rt 16 (.ref a :: L) (.ref a :: st) w := e51_15
theorem f51_16 : iv_V call mc_51 rt 16 (L) (st) w = iv_gf w st 1 2 (iv_kv call mc_51 rt 17 L w) := e51_16
theorem f51_17 : iv_V call mc_51 rt 17 (L) (.int y :: .int x :: st) w = if ¬ x = y then iv_V call mc_51 rt 49 (L) (st) w else iv_V call mc_51 rt 18 (L) (st) w := e51_17
theorem f51_18 : iv_V call mc_51 rt 18 (.ref a :: L) (st) w = iv_V call mc_51 rt 19 (.ref a :: L) (.ref a :: st) w := e51_18
theorem f51_19 : iv_V call mc_51 rt 19 (L) (st) w = iv_gf w st 1 33 (iv_kv call mc_51 rt 20 L w) := e51_19
theorem f51_20 : iv_V call mc_51 rt 20 (v0 :: .int x :: L) (st) w = iv_V call mc_51 rt 21 (v0 :: .int x :: L) (.int x :: st) w := e51_20
theorem f51_21 : iv_V call mc_51 rt 21 (L) (st) w = iv_V call mc_51 rt 22 (L) (.int (nI 0) :: st) w := e51_21
theorem f51_22 : iv_V call mc_51 rt 22 (L) (st) w = iv_ast w st iv_isZ (iv_kw call mc_51 rt 23 L) := e51_22
theorem f51_23 : iv_V call mc_51 rt 23 (.ref a :: L) (st) w = iv_V call mc_51 rt 24 (.ref a :: L) (.ref a :: st) w := e51_23
theorem f51_24 : iv_V call mc_51 rt 24 (L) (st) w = iv_gf w st 1 31 (iv_kv call mc_51 rt 25 L w) := e51_24
theorem f51_25 : iv_V call mc_51 rt 25 (v0 :: .int x :: L) (st) w = iv_V call mc_51 rt 26 (v0 :: .int x :: L) (.int x :: st) w := e51_25
theorem f51_26 : iv_V call mc_51 rt 26 (L) (.int x :: .ref a :: st) w = iv_V call mc_51 rt 27 (L) (.int x :: .ref a :: .int x :: .ref a :: st) w := e51_26
theorem f51_27 : iv_V call mc_51 rt 27 (L) (st) w = iv_ald w st iv_isI (iv_kv call mc_51 rt 28 L w) := e51_27
theorem f51_28 : iv_V call mc_51 rt 28 (L) (st) w = iv_V call mc_51 rt 29 (L) (.int (nI 1) :: st) w := e51_28
theorem f51_29 : iv_V call mc_51 rt 29 (L) (.int y :: .int x :: st) w = iv_V call mc_51 rt 30 (L) (.int (x + y) :: st) w := e51_29
theorem f51_30 : iv_V call mc_51 rt 30 (L) (st) w = iv_ast w st iv_isI (iv_kw call mc_51 rt 31 L) := e51_30
theorem f51_31 : iv_V call mc_51 rt 31 (.ref a :: L) (st) w = iv_V call mc_51 rt 32 (.ref a :: L) (.ref a :: st) w := e51_31
theorem f51_32 : iv_V call mc_51 rt 32 (.ref a :: L) (st) w = iv_V call mc_51 rt 33 (.ref a :: L) (.ref a :: st) w := e51_32
theorem f51_33 : iv_V call mc_51 rt 33 (L) (st) w = iv_gf w st 1 41 (iv_kv call mc_51 rt 34 L w) := e51_33
theorem f51_34 : iv_V call mc_51 rt 34 (.ref a :: L) (st) w = iv_V call mc_51 rt 35 (.ref a :: L) (.ref a :: st) w := e51_34
theorem f51_35 : iv_V call mc_51 rt 35 (L) (st) w = iv_gf w st 1 36 (iv_kv call mc_51 rt 36 L w) := e51_35
theorem f51_36 : iv_V call mc_51 rt 36 (v0 :: .int x :: L) (st) w = iv_V call mc_51 rt 37 (v0 :: .int x :: L) (.int x :: st) w := e51_36
theorem f51_37 : iv_V call mc_51 rt 37 (L) (st) w = iv_ald w st iv_isI (iv_kv call mc_51 rt 38 L w) := e51_37
theorem f51_38 : iv_V call mc_51 rt 38 (L) (.int y :: .int x :: st) w = if x ≤ y then iv_V call mc_51 rt 44 (L) (st) w else iv_V call mc_51 rt 39 (L) (st) w := e51_38
theorem f51_39 : iv_V call mc_51 rt 39 (.ref a :: L) (st) w = iv_V call mc_51 rt 40 (.ref a :: L) (.ref a :: st) w := e51_39
theorem f51_40 : iv_V call mc_51 rt 40 (L) (st) w = iv_gf w st 1 28 (iv_kv call mc_51 rt 41 L w) := e51_40
theorem f51_41 : iv_V call mc_51 rt 41 (L) (st) w = iv_V call mc_51 rt 42 (L) (.int (nI 1) :: st) w := e51_41
theorem f51_42 : iv_V call mc_51 rt 42 (L) (.int y :: .int x :: st) w = iv_V call mc_51 rt 43 (L) (.int (x - y) :: st) w := e51_42
theorem f51_43 : iv_V call mc_51 rt 43 (L) (st) w = iv_V call mc_51 rt 46 (L) (st) w := e51_43
theorem f51_44 : iv_V call mc_51 rt 44 (.ref a :: L) (st) w = iv_V call mc_51 rt 45 (.ref a :: L) (.ref a :: st) w := e51_44
theorem f51_45 : iv_V call mc_51 rt 45 (L) (st) w = iv_gf w st 1 28 (iv_kv call mc_51 rt 46 L w) := e51_45
theorem f51_46 : iv_V call mc_51 rt 46 (L) (st) w = iv_pf w st 1 28 (iv_kw call mc_51 rt 47 L) := e51_46
theorem f51_47 : iv_V call mc_51 rt 47 (L) (st) w = iv_V call mc_51 rt 48 (L) (.int (nI 0) :: st) w := e51_47
theorem f51_48 : iv_V call mc_51 rt 48 (L) (st) w = iv_ret rt st w := e51_48
theorem f51_49 : iv_V call mc_51 rt 49 (.ref a :: L) (st) w = iv_V call mc_51 rt 50 (.ref a :: L) (.ref a :: st) w := e51_49
theorem f51_50 : iv_V call mc_51 rt 50 (L) (st) w = iv_gf w st 1 4 (iv_kv call mc_51 rt 51 L w) := e51_50
theorem f51_51 : iv_V call mc_51 rt 51 (v0 :: v1 :: .int x :: L) (st) w = iv_V call mc_51 rt 52 (v0 :: v1 :: .int x :: L) (.int x :: st) w := e51_51
theorem f51_52 : iv_V call mc_51 rt 52 (L) (st) w = iv_ald w st iv_isI (iv_kv call mc_51 rt 53 L w) := e51_52
theorem f51_53 : iv_V call mc_51 rt 53 (L) (st) w = iv_V call mc_51 rt 54 (L) (.int (nI 3) :: st) w := e51_53
theorem f51_54 : iv_V call mc_51 rt 54 (L) (.int y :: .int x :: st) w = if ¬ x = y then iv_V call mc_51 rt 57 (L) (st) w else iv_V call mc_51 rt 55 (L) (st) w := e51_54
theorem f51_55 : iv_V call mc_51 rt 55 (L) (st) w = iv_V call mc_51 rt 56 (L) (.int (nI 1) :: st) w := e51_55
theorem f51_56 : iv_V call mc_51 rt 56 (L) (st) w = iv_V call mc_51 rt 58 (L) (st) w := e51_56
theorem f51_57 : iv_V call mc_51 rt 57 (L) (st) w = iv_V call mc_51 rt 58 (L) (.int (nI 0) :: st) w := e51_57
theorem f51_58 : iv_V call mc_51 rt 58 (v0 :: v1 :: v2 :: v3 :: u :: L) (.int x :: st) w = iv_V call mc_51 rt 59 (v0 :: v1 :: v2 :: v3 :: .int x :: L) (st) w := e51_58
theorem f51_59 : iv_V call mc_51 rt 59 (.ref a :: L) (st) w = iv_V call mc_51 rt 60 (.ref a :: L) (.ref a :: st) w := e51_59
theorem f51_60 : iv_V call mc_51 rt 60 (L) (st) w = iv_gf w st 1 26 (iv_kv call mc_51 rt 61 L w) := e51_60
theorem f51_61 : iv_V call mc_51 rt 61 (v0 :: v1 :: v2 :: .int x :: L) (st) w = iv_V call mc_51 rt 62 (v0 :: v1 :: v2 :: .int x :: L) (.int x :: st) w := e51_61
theorem f51_62 : iv_V call mc_51 rt 62 (L) (st) w = iv_ald w st iv_isI (iv_kv call mc_51 rt 63 L w) := e51_62
theorem f51_63 : iv_V call mc_51 rt 63 (L) (.int x :: st) w = if ¬ x = nI 0 then iv_V call mc_51 rt 66 (L) (st) w else iv_V call mc_51 rt 64 (L) (st) w := e51_63
theorem f51_64 : iv_V call mc_51 rt 64 (L) (st) w = iv_V call mc_51 rt 65 (L) (.int (nI 0) :: st) w := e51_64
theorem f51_65 : iv_V call mc_51 rt 65 (L) (st) w = iv_V call mc_51 rt 76 (L) (st) w := e51_65
theorem f51_66 : iv_V call mc_51 rt 66 (v0 :: v1 :: v2 :: v3 :: .int x :: L) (st) w = iv_V call mc_51 rt 67 (v0 :: v1 :: v2 :: v3 :: .int x :: L) (.int x :: st) w := e51_66
theorem f51_67 : iv_V call mc_51 rt 67 (L) (.int x :: st) w = if x = nI 0 then iv_V call mc_51 rt 75 (L) (st) w else iv_V call mc_51 rt 68 (L) (st) w := e51_67
theorem f51_68 : iv_V call mc_51 rt 68 (.ref a :: L) (st) w = iv_V call mc_51 rt 69 (.ref a :: L) (.ref a :: st) w := e51_68
theorem f51_69 : iv_V call mc_51 rt 69 (L) (st) w = iv_gf w st 1 26 (iv_kv call mc_51 rt 70 L w) := e51_69
theorem f51_70 : iv_V call mc_51 rt 70 (v0 :: v1 :: v2 :: .int x :: L) (st) w = iv_V call mc_51 rt 71 (v0 :: v1 :: v2 :: .int x :: L) (.int x :: st) w := e51_70
theorem f51_71 : iv_V call mc_51 rt 71 (L) (st) w = iv_ald w st iv_isI (iv_kv call mc_51 rt 72 L w) := e51_71
theorem f51_72 : iv_V call mc_51 rt 72 (L) (st) w = iv_V call mc_51 rt 73 (L) (.int (nI 1) :: st) w := e51_72
theorem f51_73 : iv_V call mc_51 rt 73 (L) (.int y :: .int x :: st) w = iv_V call mc_51 rt 74 (L) (.int (x - y) :: st) w := e51_73
theorem f51_74 : iv_V call mc_51 rt 74 (L) (st) w = iv_V call mc_51 rt 76 (L) (st) w := e51_74
theorem f51_75 : iv_V call mc_51 rt 75 (L) (st) w = iv_V call mc_51 rt 76 (L) (.int (nI 1) :: st) w := e51_75
theorem f51_76 : iv_V call mc_51 rt 76 (v0 :: v1 :: v2 :: v3 :: v4 :: u :: L) (.int x :: st) w = iv_V call mc_51 rt 77 (v0 :: v1 :: v2 :: v3 :: v4 :: .int x :: L) (st) w := e51_76
theorem f51_77 : iv_V call mc_51 rt 77 (.ref a :: L) (st) w = iv_V call mc_51 rt 78 (.ref a :: L) (.ref a :: st) w := e51_77
theorem f51_78 : iv_V call mc_51 rt 78 (L) (st) w = iv_gf w st 1 5 (iv_kv call mc_51 rt 79 L w) := e51_78
theorem f51_79 : iv_V call mc_51 rt 79 (v0 :: v1 :: .int x :: L) (st) w = iv_V call mc_51 rt 80 (v0 :: v1 :: .int x :: L) (.int x :: st) w := e51_79
theorem f51_80 : iv_V call mc_51 rt 80 (L) (st) w = iv_ald w st iv_isZ (iv_kv call mc_51 rt 81 L w) := e51_80
theorem f51_81 : iv_V call mc_51 rt 81 (L) (.int x :: st) w = if x = nI 0 then iv_V call mc_51 rt 96 (L) (st) w else iv_V call mc_51 rt 82 (L) (st) w := e51_81
theorem f51_82 : iv_V call mc_51 rt 82 (.ref a :: L) (st) w = iv_V call mc_51 rt 83 (.ref a :: L) (.ref a :: st) w := e51_82
theorem f51_83 : iv_V call mc_51 rt 83 (.ref a :: L) (st) w = iv_V call mc_51 rt 84 (.ref a :: L) (.ref a :: st) w := e51_83
theorem f51_84 : iv_V call mc_51 rt 84 (L) (st) w = iv_gf w st 1 29 (iv_kv call mc_51 rt 85 L w) := e51_84
theorem f51_85 : iv_V call mc_51 rt 85 (v0 :: .int x :: L) (st) w = iv_V call mc_51 rt 86 (v0 :: .int x :: L) (.int x :: st) w := e51_85
theorem f51_86 : iv_V call mc_51 rt 86 (L) (st) w = iv_ald w st iv_isI (iv_kv call mc_51 rt 87 L w) := e51_86
theorem f51_87 : iv_V call mc_51 rt 87 (v0 :: v1 :: .int x :: L) (st) w = iv_V call mc_51 rt 88 (v0 :: v1 :: .int x :: L) (.int x :: st) w := e51_87
theorem f51_88 {a0 : Nat} {x1 : Int32} {x2 : Int32} : iv_V call mc_51 rt 88 (L) (.int x2 :: .int x1 :: .ref a0 :: []) w = iv_cr (iv_rc w [.ref a0, .int x1, .int x2] 1) (iv_ct call mc_51 rt 89 L [] (call 38 [.ref a0, .int x1, .int x2] w)) := e51_88
theorem f51_89 : iv_V call mc_51 rt 89 (L) (.int x :: st) w = if x = nI 0 then iv_V call mc_51 rt 96 (L) (st) w else iv_V call mc_51 rt 90 (L) (st) w := e51_89
theorem f51_90 : iv_V call mc_51 rt 90 (.ref a :: L) (st) w = iv_V call mc_51 rt 91 (.ref a :: L) (.ref a :: st) w := e51_90
theorem f51_91 : iv_V call mc_51 rt 91 (L) (st) w = iv_gf w st 1 35 (iv_kv call mc_51 rt 92 L w) := e51_91
theorem f51_92 : iv_V call mc_51 rt 92 (v0 :: .int x :: L) (st) w = iv_V call mc_51 rt 93 (v0 :: .int x :: L) (.int x :: st) w := e51_92
theorem f51_93 : iv_V call mc_51 rt 93 (L) (st) w = iv_ald w st iv_isI (iv_kv call mc_51 rt 94 L w) := e51_93
theorem f51_94 : iv_V call mc_51 rt 94 (v0 :: v1 :: v2 :: v3 :: v4 :: .int x :: L) (st) w = iv_V call mc_51 rt 95 (v0 :: v1 :: v2 :: v3 :: v4 :: .int x :: L) (.int x :: st) w := e51_94
theorem f51_95 : iv_V call mc_51 rt 95 (L) (.int y :: .int x :: st) w = if ¬ x = y then iv_V call mc_51 rt 111 (L) (st) w else iv_V call mc_51 rt 96 (L) (st) w := e51_95
theorem f51_96 : iv_V call mc_51 rt 96 (.ref a :: L) (st) w = iv_V call mc_51 rt 97 (.ref a :: L) (.ref a :: st) w := e51_96
theorem f51_97 : iv_V call mc_51 rt 97 (L) (st) w = iv_gf w st 1 34 (iv_kv call mc_51 rt 98 L w) := e51_97
theorem f51_98 : iv_V call mc_51 rt 98 (v0 :: .int x :: L) (st) w = iv_V call mc_51 rt 99 (v0 :: .int x :: L) (.int x :: st) w := e51_98
theorem f51_99 : iv_V call mc_51 rt 99 (L) (.int x :: .ref a :: st) w = iv_V call mc_51 rt 100 (L) (.int x :: .ref a :: .int x :: .ref a :: st) w := e51_99
theorem f51_100 : iv_V call mc_51 rt 100 (L) (st) w = iv_ald w st iv_isI (iv_kv call mc_51 rt 101 L w) := e51_100
theorem f51_101 : iv_V call mc_51 rt 101 (L) (st) w = iv_V call mc_51 rt 102 (L) (.int (nI 1) :: st) w := e51_101
theorem f51_102 : iv_V call mc_51 rt 102 (L) (.int y :: .int x :: st) w = iv_V call mc_51 rt 103 (L) (.int (x + y) :: st) w := e51_102
theorem f51_103 : iv_V call mc_51 rt 103 (L) (st) w = iv_ast w st iv_isI (iv_kw call mc_51 rt 104 L) := e51_103
theorem f51_104 : iv_V call mc_51 rt 104 (.ref a :: L) (st) w = iv_V call mc_51 rt 105 (.ref a :: L) (.ref a :: st) w := e51_104
theorem f51_105 : iv_V call mc_51 rt 105 (L) (st) w = iv_gf w st 1 35 (iv_kv call mc_51 rt 106 L w) := e51_105
theorem f51_106 : iv_V call mc_51 rt 106 (v0 :: .int x :: L) (st) w = iv_V call mc_51 rt 107 (v0 :: .int x :: L) (.int x :: st) w := e51_106
theorem f51_107 : iv_V call mc_51 rt 107 (L) (st) w = iv_V call mc_51 rt 108 (L) (.int (nI 0) :: st) w := e51_107
theorem f51_108 : iv_V call mc_51 rt 108 (L) (st) w = iv_ast w st iv_isI (iv_kw call mc_51 rt 109 L) := e51_108
theorem f51_109 : iv_V call mc_51 rt 109 (L) (st) w = iv_V call mc_51 rt 110 (L) (.int (nI 0) :: st) w := e51_109
theorem f51_110 : iv_V call mc_51 rt 110 (L) (st) w = iv_ret rt st w := e51_110
theorem f51_111 : iv_V call mc_51 rt 111 (v0 :: v1 :: v2 :: v3 :: .int x :: L) (st) w = iv_V call mc_51 rt 112 (v0 :: v1 :: v2 :: v3 :: .int x :: L) (.int x :: st) w := e51_111
theorem f51_112 : iv_V call mc_51 rt 112 (L) (.int x :: st) w = if x = nI 0 then iv_V call mc_51 rt 125 (L) (st) w else iv_V call mc_51 rt 113 (L) (st) w := e51_112
theorem f51_113 : iv_V call mc_51 rt 113 (.ref a :: L) (st) w = iv_V call mc_51 rt 114 (.ref a :: L) (.ref a :: st) w := e51_113
theorem f51_114 : iv_V call mc_51 rt 114 (L) (st) w = iv_gf w st 1 27 (iv_kv call mc_51 rt 115 L w) := e51_114
theorem f51_115 : iv_V call mc_51 rt 115 (L) (st) w = iv_V call mc_51 rt 116 (L) (.int (nI 3) :: st) w := e51_115
theorem f51_116 : iv_V call mc_51 rt 116 (v0 :: v1 :: v2 :: .int x :: L) (st) w = iv_V call mc_51 rt 117 (v0 :: v1 :: v2 :: .int x :: L) (.int x :: st) w := e51_116
theorem f51_117 : iv_V call mc_51 rt 117 (L) (.int y :: .int x :: st) w = iv_V call mc_51 rt 118 (L) (.int (x * y) :: st) w := e51_117
theorem f51_118 : iv_V call mc_51 rt 118 (.ref a :: L) (st) w = iv_V call mc_51 rt 119 (.ref a :: L) (.ref a :: st) w := e51_118
theorem f51_119 : iv_V call mc_51 rt 119 (L) (st) w = iv_gf w st 1 35 (iv_kv call mc_51 rt 120 L w) := e51_119
theorem f51_120 : iv_V call mc_51 rt 120 (v0 :: .int x :: L) (st) w = iv_V call mc_51 rt 121 (v0 :: .int x :: L) (.int x :: st) w := e51_120
theorem f51_121 : iv_V call mc_51 rt 121 (L) (st) w = iv_ald w st iv_isI (iv_kv call mc_51 rt 122 L w) := e51_121
theorem f51_122 : iv_V call mc_51 rt 122 (L) (.int y :: .int x :: st) w = iv_V call mc_51 rt 123 (L) (.int (x + y) :: st) w := e51_122
theorem f51_123 : iv_V call mc_51 rt 123 (L) (st) w = iv_ald w st iv_isI (iv_kv call mc_51 rt 124 L w) := e51_123
theorem f51_124 : iv_V call mc_51 rt 124 (L) (st) w = iv_V call mc_51 rt 131 (L) (st) w := e51_124
theorem f51_125 : iv_V call mc_51 rt 125 (.ref a :: L) (st) w = iv_V call mc_51 rt 126 (.ref a :: L) (.ref a :: st) w := e51_125
theorem f51_126 : iv_V call mc_51 rt 126 (L) (st) w = iv_gf w st 1 26 (iv_kv call mc_51 rt 127 L w) := e51_126
theorem f51_127 : iv_V call mc_51 rt 127 (v0 :: v1 :: v2 :: .int x :: L) (st) w = iv_V call mc_51 rt 128 (v0 :: v1 :: v2 :: .int x :: L) (.int x :: st) w := e51_127
theorem f51_128 : iv_V call mc_51 rt 128 (L) (st) w = iv_ald w st iv_isI (iv_kv call mc_51 rt 129 L w) := e51_128
theorem f51_129 : iv_V call mc_51 rt 129 (L) (st) w = iv_V call mc_51 rt 130 (L) (.int (nI 1) :: st) w := e51_129
theorem f51_130 : iv_V call mc_51 rt 130 (L) (.int y :: .int x :: st) w = iv_V call mc_51 rt 131 (L) (.int (x - y) :: st) w := e51_130
theorem f51_131 : iv_V call mc_51 rt 131 (v0 :: v1 :: v2 :: v3 :: v4 :: v5 :: u :: L) (.int x :: st) w = iv_V call mc_51 rt 132 (v0 :: v1 :: v2 :: v3 :: v4 :: v5 :: .int x :: L) (st) w := e51_131
theorem f51_132 : iv_V call mc_51 rt 132 (.ref a :: L) (st) w = iv_V call mc_51 rt 133 (.ref a :: L) (.ref a :: st) w := e51_132
theorem f51_133 : iv_V call mc_51 rt 133 (L) (st) w = iv_gf w st 1 37 (iv_kv call mc_51 rt 134 L w) := e51_133
theorem f51_134 : iv_V call mc_51 rt 134 (.ref a :: L) (st) w = iv_V call mc_51 rt 135 (.ref a :: L) (.ref a :: st) w := e51_134
theorem f51_135 : iv_V call mc_51 rt 135 (L) (st) w = iv_gf w st 1 28 (iv_kv call mc_51 rt 136 L w) := e51_135
theorem f51_136 : iv_V call mc_51 rt 136 (v0 :: v1 :: .int x :: L) (st) w = iv_V call mc_51 rt 137 (v0 :: v1 :: .int x :: L) (.int x :: st) w := e51_136
theorem f51_137 : iv_V call mc_51 rt 137 (L) (st) w = iv_ast w st iv_isI (iv_kw call mc_51 rt 138 L) := e51_137
theorem f51_138 : iv_V call mc_51 rt 138 (.ref a :: L) (st) w = iv_V call mc_51 rt 139 (.ref a :: L) (.ref a :: st) w := e51_138
theorem f51_139 : iv_V call mc_51 rt 139 (L) (st) w = iv_gf w st 1 38 (iv_kv call mc_51 rt 140 L w) := e51_139
theorem f51_140 : iv_V call mc_51 rt 140 (.ref a :: L) (st) w = iv_V call mc_51 rt 141 (.ref a :: L) (.ref a :: st) w := e51_140
theorem f51_141 : iv_V call mc_51 rt 141 (L) (st) w = iv_gf w st 1 28 (iv_kv call mc_51 rt 142 L w) := e51_141
theorem f51_142 : iv_V call mc_51 rt 142 (v0 :: v1 :: v2 :: v3 :: .int x :: L) (st) w = iv_V call mc_51 rt 143 (v0 :: v1 :: v2 :: v3 :: .int x :: L) (.int x :: st) w := e51_142
theorem f51_143 : iv_V call mc_51 rt 143 (L) (.int x :: st) w = if x = nI 0 then iv_V call mc_51 rt 149 (L) (st) w else iv_V call mc_51 rt 144 (L) (st) w := e51_143
theorem f51_144 : iv_V call mc_51 rt 144 (.ref a :: L) (st) w = iv_V call mc_51 rt 145 (.ref a :: L) (.ref a :: st) w := e51_144
theorem f51_145 : iv_V call mc_51 rt 145 (L) (st) w = iv_gf w st 1 35 (iv_kv call mc_51 rt 146 L w) := e51_145
theorem f51_146 : iv_V call mc_51 rt 146 (v0 :: .int x :: L) (st) w = iv_V call mc_51 rt 147 (v0 :: .int x :: L) (.int x :: st) w := e51_146
theorem f51_147 : iv_V call mc_51 rt 147 (L) (st) w = iv_ald w st iv_isI (iv_kv call mc_51 rt 148 L w) := e51_147
theorem f51_148 : iv_V call mc_51 rt 148 (L) (st) w = iv_V call mc_51 rt 150 (L) (st) w := e51_148
theorem f51_149 : iv_V call mc_51 rt 149 (L) (st) w = iv_V call mc_51 rt 150 (L) (.int (-1) :: st) w := e51_149
theorem f51_150 : iv_V call mc_51 rt 150 (L) (st) w = iv_ast w st iv_isI (iv_kw call mc_51 rt 151 L) := e51_150
theorem f51_151 : iv_V call mc_51 rt 151 (.ref a :: L) (st) w = iv_V call mc_51 rt 152 (.ref a :: L) (.ref a :: st) w := e51_151
theorem f51_152 : iv_V call mc_51 rt 152 (L) (st) w = iv_gf w st 1 35 (iv_kv call mc_51 rt 153 L w) := e51_152
theorem f51_153 : iv_V call mc_51 rt 153 (v0 :: .int x :: L) (st) w = iv_V call mc_51 rt 154 (v0 :: .int x :: L) (.int x :: st) w := e51_153
theorem f51_154 : iv_V call mc_51 rt 154 (L) (.int x :: .ref a :: st) w = iv_V call mc_51 rt 155 (L) (.int x :: .ref a :: .int x :: .ref a :: st) w := e51_154
theorem f51_155 : iv_V call mc_51 rt 155 (L) (st) w = iv_ald w st iv_isI (iv_kv call mc_51 rt 156 L w) := e51_155
theorem f51_156 : iv_V call mc_51 rt 156 (L) (st) w = iv_V call mc_51 rt 157 (L) (.int (nI 1) :: st) w := e51_156
theorem f51_157 : iv_V call mc_51 rt 157 (L) (.int y :: .int x :: st) w = iv_V call mc_51 rt 158 (L) (.int (x + y) :: st) w := e51_157
theorem f51_158 : iv_V call mc_51 rt 158 (L) (st) w = iv_ast w st iv_isI (iv_kw call mc_51 rt 159 L) := e51_158
theorem f51_159 : iv_V call mc_51 rt 159 (.ref a :: L) (st) w = iv_V call mc_51 rt 160 (.ref a :: L) (.ref a :: st) w := e51_159
theorem f51_160 : iv_V call mc_51 rt 160 (L) (st) w = iv_gf w st 1 6 (iv_kv call mc_51 rt 161 L w) := e51_160
theorem f51_161 : iv_V call mc_51 rt 161 (L) (st) w = iv_V call mc_51 rt 162 (L) (.int (nI 6) :: st) w := e51_161
theorem f51_162 : iv_V call mc_51 rt 162 (v0 :: v1 :: .int x :: L) (st) w = iv_V call mc_51 rt 163 (v0 :: v1 :: .int x :: L) (.int x :: st) w := e51_162
theorem f51_163 : iv_V call mc_51 rt 163 (L) (.int y :: .int x :: st) w = iv_V call mc_51 rt 164 (L) (.int (x * y) :: st) w := e51_163
theorem f51_164 : iv_V call mc_51 rt 164 (.ref a :: L) (st) w = iv_V call mc_51 rt 165 (.ref a :: L) (.ref a :: st) w := e51_164
theorem f51_165 : iv_V call mc_51 rt 165 (L) (st) w = iv_gf w st 1 32 (iv_kv call mc_51 rt 166 L w) := e51_165
theorem f51_166 : iv_V call mc_51 rt 166 (v0 :: .int x :: L) (st) w = iv_V call mc_51 rt 167 (v0 :: .int x :: L) (.int x :: st) w := e51_166
theorem f51_167 : iv_V call mc_51 rt 167 (L) (st) w = iv_ald w st iv_isI (iv_kv call mc_51 rt 168 L w) := e51_167
theorem f51_168 : iv_V call mc_51 rt 168 (L) (.int y :: .int x :: st) w = iv_V call mc_51 rt 169 (L) (.int (x + y) :: st) w := e51_168
theorem f51_169 : iv_V call mc_51 rt 169 (L) (st) w = iv_ald w st iv_isI (iv_kv call mc_51 rt 170 L w) := e51_169
theorem f51_170 : iv_V call mc_51 rt 170 (v0 :: v1 :: v2 :: v3 :: v4 :: v5 :: v6 :: u :: L) (.int x :: st) w = iv_V call mc_51 rt 171 (v0 :: v1 :: v2 :: v3 :: v4 :: v5 :: v6 :: .int x :: L) (st) w := e51_170
theorem f51_171 : iv_V call mc_51 rt 171 (.ref a :: L) (st) w = iv_V call mc_51 rt 172 (.ref a :: L) (.ref a :: st) w := e51_171
theorem f51_172 : iv_V call mc_51 rt 172 (v0 :: v1 :: v2 :: v3 :: v4 :: v5 :: .int x :: L) (st) w = iv_V call mc_51 rt 173 (v0 :: v1 :: v2 :: v3 :: v4 :: v5 :: .int x :: L) (.int x :: st) w := e51_172
theorem f51_173 : iv_V call mc_51 rt 173 (v0 :: v1 :: v2 :: v3 :: v4 :: v5 :: v6 :: .int x :: L) (st) w = iv_V call mc_51 rt 174 (v0 :: v1 :: v2 :: v3 :: v4 :: v5 :: v6 :: .int x :: L) (.int x :: st) w := e51_173
theorem f51_174 : iv_V call mc_51 rt 174 (L) (.int x :: st) w = if x ≤ nI 0 then iv_V call mc_51 rt 179 (L) (st) w else iv_V call mc_51 rt 175 (L) (st) w := e51_174
theorem f51_175 : iv_V call mc_51 rt 175 (v0 :: v1 :: v2 :: v3 :: v4 :: v5 :: v6 :: .int x :: L) (st) w = iv_V call mc_51 rt 176 (v0 :: v1 :: v2 :: v3 :: v4 :: v5 :: v6 :: .int x :: L) (.int x :: st) w := e51_175
theorem f51_176 : iv_V call mc_51 rt 176 (L) (st) w = iv_V call mc_51 rt 177 (L) (.int (nI 1) :: st) w := e51_176
theorem f51_177 : iv_V call mc_51 rt 177 (L) (.int y :: .int x :: st) w = iv_V call mc_51 rt 178 (L) (.int (x - y) :: st) w := e51_177
theorem f51_178 : iv_V call mc_51 rt 178 (L) (st) w = iv_V call mc_51 rt 183 (L) (st) w := e51_178
theorem f51_179 : iv_V call mc_51 rt 179 (.ref a :: L) (st) w = iv_V call mc_51 rt 180 (.ref a :: L) (.ref a :: st) w := e51_179
theorem f51_180 : iv_V call mc_51 rt 180 (L) (st) w = iv_gf w st 1 32 (iv_kv call mc_51 rt 181 L w) := e51_180
theorem f51_181 : iv_V call mc_51 rt 181 (v0 :: .int x :: L) (st) w = iv_V call mc_51 rt 182 (v0 :: .int x :: L) (.int x :: st) w := e51_181
theorem f51_182 : iv_V call mc_51 rt 182 (L) (st) w = iv_ald w st iv_isI (iv_kv call mc_51 rt 183 L w) := e51_182
theorem f51_183 {a0 : Nat} {x1 : Int32} {x2 : Int32} : iv_V call mc_51 rt 183 (L) (.int x2 :: .int x1 :: .ref a0 :: []) w = iv_cr (iv_rc w [.ref a0, .int x1, .int x2] 1) (iv_ct call mc_51 rt 184 L [] (call 49 [.ref a0, .int x1, .int x2] w)) := e51_183
theorem f51_184 : iv_V call mc_51 rt 184 (L) (st) w = iv_ret rt st w := e51_184
theorem f52_0 : iv_V call mc_52 rt 0 (.ref a :: L) (st) w = iv_V call mc_52 rt 1 (.ref a :: L) (.ref a :: st) w := e52_0
theorem f52_1 : iv_V call mc_52 rt 1 (L) (st) w = iv_V call mc_52 rt 2 (L) (.int (nI 0) :: st) w := e52_1
theorem f52_2 : iv_V call mc_52 rt 2 (L) (st) w = iv_pf w st 1 28 (iv_kw call mc_52 rt 3 L) := e52_2
theorem f52_3 : iv_V call mc_52 rt 3 (.ref a :: L) (st) w = iv_V call mc_52 rt 4 (.ref a :: L) (.ref a :: st) w := e52_3
theorem f52_4 : iv_V call mc_52 rt 4 (v0 :: .int x :: L) (st) w = iv_V call mc_52 rt 5 (v0 :: .int x :: L) (.int x :: st) w := e52_4
theorem f52_5 : iv_V call mc_52 rt 5 (v0 :: v1 :: .int x :: L) (st) w = iv_V call mc_52 rt 6 (v0 :: v1 :: .int x :: L) (.int x :: st) w := e52_5
theorem f52_6 {a0 : Nat} {x1 : Int32} {x2 : Int32} : iv_V call mc_52 rt 6 (L) (.int x2 :: .int x1 :: .ref a0 :: []) w = iv_cr (iv_rc w [.ref a0, .int x1, .int x2] 1) (iv_ct call mc_52 rt 7 L [] (call 49 [.ref a0, .int x1, .int x2] w)) := e52_6
theorem f52_7 : iv_V call mc_52 rt 7 (v0 :: v1 :: v2 :: u :: L) (.int x :: st) w = iv_V call mc_52 rt 8 (v0 :: v1 :: v2 :: .int x :: L) (st) w := e52_7
theorem f52_8 : iv_V call mc_52 rt 8 (L) (st) w = iv_V call mc_52 rt 9 (L) (.int (nI 0) :: st) w := e52_8
theorem f52_9 : iv_V call mc_52 rt 9 (v0 :: v1 :: v2 :: v3 :: u :: L) (.int x :: st) w = iv_V call mc_52 rt 10 (v0 :: v1 :: v2 :: v3 :: .int x :: L) (st) w := e52_9
theorem f52_10 : iv_V call mc_52 rt 10 (v0 :: v1 :: v2 :: v3 :: .int x :: L) (st) w = iv_V call mc_52 rt 11 (v0 :: v1 :: v2 :: v3 :: .int x :: L) (.int x :: st) w := e52_10
theorem f52_11 : iv_V call mc_52 rt 11 (L) (st) w = iv_V call mc_52 rt 12 (L) (.int (nI 100000) :: st) w := e52_11
theorem f52_12 : iv_V call mc_52 rt 12 (L) (.int y :: .int x :: st) w = if y ≤ x then iv_V call mc_52 rt 42 (L) (st) w else iv_V call mc_52 rt 13 (L) (st) w := e52_12
theorem f52_13 : iv_V call mc_52 rt 13 (v0 :: v1 :: v2 :: .int x :: L) (st) w = iv_V call mc_52 rt 14 (v0 :: v1 :: v2 :: .int x :: L) (.int x :: st) w := e52_13
theorem f52_14 : iv_V call mc_52 rt 14 (L) (.int x :: st) w = if ¬ x = nI 0 then iv_V call mc_52 rt 42 (L) (st) w else iv_V call mc_52 rt 15 (L) (st) w := e52_14
theorem f52_15 : iv_V call mc_52 rt 15 (.ref a :: L) (st) w = iv_V call mc_52 rt 16 (.ref a :: L) (.ref a :: st) w := e52_15
theorem f52_16 : iv_V call mc_52 rt 16 (L) (st) w = iv_gf w st 1 28 (iv_kv call mc_52 rt 17 L w) := e52_16
theorem f52_17 : iv_V call mc_52 rt 17 (L) (.int x :: st) w = if x ≤ nI 0 then iv_V call mc_52 rt 42 (L) (st) w else iv_V call mc_52 rt 18 (L) (st) w := e52_17
theorem f52_18 : iv_V call mc_52 rt 18 (.ref a :: L) (st) w = iv_V call mc_52 rt 19 (.ref a :: L) (.ref a :: st) w := e52_18
theorem f52_19 : iv_V call mc_52 rt 19 (L) (st) w = iv_gf w st 1 33 (iv_kv call mc_52 rt 20 L w) := e52_19
theorem f52_20 : iv_V call mc_52 rt 20 (.ref a :: L) (st) w = iv_V call mc_52 rt 21 (.ref a :: L) (.ref a :: st) w := e52_20
theorem f52_21 : iv_V call mc_52 rt 21 (L) (st) w = iv_gf w st 1 28 (iv_kv call mc_52 rt 22 L w) := e52_21
theorem f52_22 : iv_V call mc_52 rt 22 (L) (st) w = iv_V call mc_52 rt 23 (L) (.int (nI 1) :: st) w := e52_22
theorem f52_23 : iv_V call mc_52 rt 23 (L) (.int y :: .int x :: st) w = iv_V call mc_52 rt 24 (L) (.int (x - y) :: st) w := e52_23
theorem f52_24 : iv_V call mc_52 rt 24 (L) (st) w = iv_ald w st iv_isZ (iv_kv call mc_52 rt 25 L w) := e52_24
theorem f52_25 : iv_V call mc_52 rt 25 (L) (.int x :: st) w = if x = nI 0 then iv_V call mc_52 rt 33 (L) (st) w else iv_V call mc_52 rt 26 (L) (st) w := e52_25
theorem f52_26 : iv_V call mc_52 rt 26 (.ref a :: L) (st) w = iv_V call mc_52 rt 27 (.ref a :: L) (.ref a :: st) w := e52_26
theorem f52_27 : iv_V call mc_52 rt 27 (.ref a :: L) (st) w = iv_V call mc_52 rt 28 (.ref a :: L) (.ref a :: st) w := e52_27
theorem f52_28 : iv_V call mc_52 rt 28 (L) (st) w = iv_gf w st 1 28 (iv_kv call mc_52 rt 29 L w) := e52_28
theorem f52_29 : iv_V call mc_52 rt 29 (L) (st) w = iv_V call mc_52 rt 30 (L) (.int (nI 1) :: st) w := e52_29
theorem f52_30 : iv_V call mc_52 rt 30 (L) (.int y :: .int x :: st) w = iv_V call mc_52 rt 31 (L) (.int (x - y) :: st) w := e52_30
theorem f52_31 {a0 : Nat} {x1 : Int32} : iv_V call mc_52 rt 31 (L) (.int x1 :: .ref a0 :: []) w = iv_cr (iv_rc w [.ref a0, .int x1] 1) (iv_ct call mc_52 rt 32 L [] (call 51 [.ref a0, .int x1] w)) := e52_31
theorem f52_32 : iv_V call mc_52 rt 32 (L) (st) w = iv_V call mc_52 rt 39 (L) (st) w := e52_32
theorem f52_33 : iv_V call mc_52 rt 33 (.ref a :: L) (st) w = iv_V call mc_52 rt 34 (.ref a :: L) (.ref a :: st) w := e52_33
theorem f52_34 : iv_V call mc_52 rt 34 (.ref a :: L) (st) w = iv_V call mc_52 rt 35 (.ref a :: L) (.ref a :: st) w := e52_34
theorem f52_35 : iv_V call mc_52 rt 35 (L) (st) w = iv_gf w st 1 28 (iv_kv call mc_52 rt 36 L w) := e52_35
theorem f52_36 : iv_V call mc_52 rt 36 (L) (st) w = iv_V call mc_52 rt 37 (L) (.int (nI 1) :: st) w := e52_36
theorem f52_37 : iv_V call mc_52 rt 37 (L) (.int y :: .int x :: st) w = iv_V call mc_52 rt 38 (L) (.int (x - y) :: st) w := e52_37
theorem f52_38 {a0 : Nat} {x1 : Int32} : iv_V call mc_52 rt 38 (L) (.int x1 :: .ref a0 :: []) w = iv_cr (iv_rc w [.ref a0, .int x1] 1) (iv_ct call mc_52 rt 39 L [] (call 50 [.ref a0, .int x1] w)) := e52_38
theorem f52_39 : iv_V call mc_52 rt 39 (v0 :: v1 :: v2 :: u :: L) (.int x :: st) w = iv_V call mc_52 rt 40 (v0 :: v1 :: v2 :: .int x :: L) (st) w := e52_39
theorem f52_40 : iv_V call mc_52 rt 40 (v0 :: v1 :: v2 :: v3 :: .int x :: L) (st) w = iv_V call mc_52 rt 41 (v0 :: v1 :: v2 :: v3 :: .int (x + (nI 1)) :: L) (st) w := e52_40
theorem f52_41 : iv_V call mc_52 rt 41 (L) (st) w = iv_V call mc_52 rt 10 (L) (st) w := e52_41
theorem f52_42 : iv_V call mc_52 rt 42 (v0 :: v1 :: v2 :: .int x :: L) (st) w = iv_V call mc_52 rt 43 (v0 :: v1 :: v2 :: .int x :: L) (.int x :: st) w := e52_42
theorem f52_43 : iv_V call mc_52 rt 43 (L) (st) w = iv_ret rt st w := e52_43
theorem f53_0 : iv_V call mc_53 rt 0 (L) (st) w = iv_V call mc_53 rt 1 (L) (.int (nI 0) :: st) w := e53_0
theorem f53_1 : iv_V call mc_53 rt 1 (v0 :: v1 :: v2 :: u :: L) (.int x :: st) w = iv_V call mc_53 rt 2 (v0 :: v1 :: v2 :: .int x :: L) (st) w := e53_1
theorem f53_2 : iv_V call mc_53 rt 2 (L) (st) w = iv_V call mc_53 rt 3 (L) (.int (nI 0) :: st) w := e53_2
theorem f53_3 : iv_V call mc_53 rt 3 (v0 :: v1 :: v2 :: v3 :: u :: L) (.int x :: st) w = iv_V call mc_53 rt 4 (v0 :: v1 :: v2 :: v3 :: .int x :: L) (st) w := e53_3
theorem f53_4 : iv_V call mc_53 rt 4 (v0 :: v1 :: v2 :: v3 :: .int x :: L) (st) w = iv_V call mc_53 rt 5 (v0 :: v1 :: v2 :: v3 :: .int x :: L) (.int x :: st) w := e53_4
theorem f53_5 : iv_V call mc_53 rt 5 (.ref a :: L) (st) w = iv_V call mc_53 rt 6 (.ref a :: L) (.ref a :: st) w := e53_5
theorem f53_6 : iv_V call mc_53 rt 6 (L) (st) w = iv_gf w st 1 20 (iv_kv call mc_53 rt 7 L w) := e53_6
theorem f53_7 : iv_V call mc_53 rt 7 (v0 :: .int x :: L) (st) w = iv_V call mc_53 rt 8 (v0 :: .int x :: L) (.int x :: st) w := e53_7
theorem f53_8 : iv_V call mc_53 rt 8 (L) (st) w = iv_V call mc_53 rt 9 (L) (.int (nI 6) :: st) w := e53_8
theorem f53_9 : iv_V call mc_53 rt 9 (L) (.int y :: .int x :: st) w = iv_V call mc_53 rt 10 (L) (.int (x - y) :: st) w := e53_9
theorem f53_10 : iv_V call mc_53 rt 10 (L) (st) w = iv_ald w st iv_isI (iv_kv call mc_53 rt 11 L w) := e53_10
theorem f53_11 : iv_V call mc_53 rt 11 (L) (.int y :: .int x :: st) w = if y ≤ x then iv_V call mc_53 rt 32 (L) (st) w else iv_V call mc_53 rt 12 (L) (st) w := e53_11
theorem f53_12 : iv_V call mc_53 rt 12 (v0 :: v1 :: v2 :: .int x :: L) (st) w = iv_V call mc_53 rt 13 (v0 :: v1 :: v2 :: .int x :: L) (.int x :: st) w := e53_12
theorem f53_13 : iv_V call mc_53 rt 13 (L) (.int x :: st) w = if ¬ x = nI 0 then iv_V call mc_53 rt 26 (L) (st) w else iv_V call mc_53 rt 14 (L) (st) w := e53_13
theorem f53_14 : iv_V call mc_53 rt 14 (.ref a :: L) (st) w = iv_V call mc_53 rt 15 (.ref a :: L) (.ref a :: st) w := e53_14
theorem f53_15 : iv_V call mc_53 rt 15 (L) (st) w = iv_gf w st 1 21 (iv_kv call mc_53 rt 16 L w) := e53_15
theorem f53_16 : iv_V call mc_53 rt 16 (L) (st) w = iv_V call mc_53 rt 17 (L) (.int (nI 4) :: st) w := e53_16
theorem f53_17 : iv_V call mc_53 rt 17 (v0 :: .int x :: L) (st) w = iv_V call mc_53 rt 18 (v0 :: .int x :: L) (.int x :: st) w := e53_17
theorem f53_18 : iv_V call mc_53 rt 18 (L) (st) w = iv_V call mc_53 rt 19 (L) (.int (nI 6) :: st) w := e53_18
theorem f53_19 : iv_V call mc_53 rt 19 (L) (.int y :: .int x :: st) w = iv_V call mc_53 rt 20 (L) (.int (x - y) :: st) w := e53_19
theorem f53_20 : iv_V call mc_53 rt 20 (L) (.int y :: .int x :: st) w = iv_V call mc_53 rt 21 (L) (.int (x * y) :: st) w := e53_20
theorem f53_21 : iv_V call mc_53 rt 21 (v0 :: v1 :: v2 :: v3 :: .int x :: L) (st) w = iv_V call mc_53 rt 22 (v0 :: v1 :: v2 :: v3 :: .int x :: L) (.int x :: st) w := e53_21
theorem f53_22 : iv_V call mc_53 rt 22 (L) (.int y :: .int x :: st) w = iv_V call mc_53 rt 23 (L) (.int (x + y) :: st) w := e53_22
theorem f53_23 : iv_V call mc_53 rt 23 (L) (st) w = iv_ald w st iv_isI (iv_kv call mc_53 rt 24 L w) := e53_23
theorem f53_24 : iv_V call mc_53 rt 24 (v0 :: v1 :: .int x :: L) (st) w = iv_V call mc_53 rt 25 (v0 :: v1 :: .int x :: L) (.int x :: st) w := e53_24
theorem f53_25 : iv_V call mc_53 rt 25 (L) (.int y :: .int x :: st) w = if ¬ x = y then iv_V call mc_53 rt 28 (L) (st) w else iv_V call mc_53 rt 26 (L) (st) w := e53_25
theorem f53_26 : iv_V call mc_53 rt 26 (L) (st) w = iv_V call mc_53 rt 27 (L) (.int (nI 1) :: st) w := e53_26
theorem f53_27 : iv_V call mc_53 rt 27 (L) (st) w = iv_V call mc_53 rt 29 (L) (st) w := e53_27
theorem f53_28 : iv_V call mc_53 rt 28 (L) (st) w = iv_V call mc_53 rt 29 (L) (.int (nI 0) :: st) w := e53_28
theorem f53_29 : iv_V call mc_53 rt 29 (v0 :: v1 :: v2 :: u :: L) (.int x :: st) w = iv_V call mc_53 rt 30 (v0 :: v1 :: v2 :: .int x :: L) (st) w := e53_29
theorem f53_30 : iv_V call mc_53 rt 30 (v0 :: v1 :: v2 :: v3 :: .int x :: L) (st) w = iv_V call mc_53 rt 31 (v0 :: v1 :: v2 :: v3 :: .int (x + (nI 1)) :: L) (st) w := e53_30
theorem f53_31 : iv_V call mc_53 rt 31 (L) (st) w = iv_V call mc_53 rt 4 (L) (st) w := e53_31
theorem f53_32 : iv_V call mc_53 rt 32 (v0 :: v1 :: v2 :: .int x :: L) (st) w = iv_V call mc_53 rt 33 (v0 :: v1 :: v2 :: .int x :: L) (.int x :: st) w := e53_32
theorem f53_33 : iv_V call mc_53 rt 33 (L) (st) w = iv_ret rt st w := e53_33
theorem f54_0 : iv_V call mc_54 rt 0 (L) (st) w = iv_V call mc_54 rt 1 (L) (.int (nI 13) :: st) w := e54_0
theorem f54_1 : iv_V call mc_54 rt 1 (v0 :: .int x :: L) (st) w = iv_V call mc_54 rt 2 (v0 :: .int x :: L) (.int x :: st) w := e54_1
theorem f54_2 : iv_V call mc_54 rt 2 (L) (.int y :: .int x :: st) w = iv_V call mc_54 rt 3 (L) (.int (x - y) :: st) w := e54_2
theorem f54_3 : iv_V call mc_54 rt 3 (v0 :: v1 :: u :: L) (.int x :: st) w = iv_V call mc_54 rt 4 (v0 :: v1 :: .int x :: L) (st) w := e54_3
theorem f54_4 : iv_V call mc_54 rt 4 (.ref a :: L) (st) w = iv_V call mc_54 rt 5 (.ref a :: L) (.ref a :: st) w := e54_4
theorem f54_5 : iv_V call mc_54 rt 5 (v0 :: .int x :: L) (st) w = iv_V call mc_54 rt 6 (v0 :: .int x :: L) (.int x :: st) w := e54_5
theorem f54_6 : iv_V call mc_54 rt 6 (v0 :: .int x :: L) (st) w = iv_V call mc_54 rt 7 (v0 :: .int x :: L) (.int x :: st) w := e54_6
theorem f54_7 {a0 : Nat} {x1 : Int32} {x2 : Int32} : iv_V call mc_54 rt 7 (L) (.int x2 :: .int x1 :: .ref a0 :: []) w = iv_cr (iv_rc w [.ref a0, .int x1, .int x2] 1) (iv_ct call mc_54 rt 8 L [] (call 53 [.ref a0, .int x1, .int x2] w)) := e54_7
theorem f54_8 : iv_V call mc_54 rt 8 (L) (.int x :: st) w = if ¬ x = nI 0 then iv_V call mc_54 rt 24 (L) (st) w else iv_V call mc_54 rt 9 (L) (st) w := e54_8
theorem f54_9 : iv_V call mc_54 rt 9 (.ref a :: L) (st) w = iv_V call mc_54 rt 10 (.ref a :: L) (.ref a :: st) w := e54_9
theorem f54_10 : iv_V call mc_54 rt 10 (v0 :: .int x :: L) (st) w = iv_V call mc_54 rt 11 (v0 :: .int x :: L) (.int x :: st) w := e54_10
theorem f54_11 : iv_V call mc_54 rt 11 (v0 :: v1 :: .int x :: L) (st) w = iv_V call mc_54 rt 12 (v0 :: v1 :: .int x :: L) (.int x :: st) w := e54_11
theorem f54_12 {a0 : Nat} {x1 : Int32} {x2 : Int32} : iv_V call mc_54 rt 12 (L) (.int x2 :: .int x1 :: .ref a0 :: []) w = iv_cr (iv_rc w [.ref a0, .int x1, .int x2] 1) (iv_ct call mc_54 rt 13 L [] (call 53 [.ref a0, .int x1, .int x2] w)) := e54_12
theorem f54_13 : iv_V call mc_54 rt 13 (L) (.int x :: st) w = if x = nI 0 then iv_V call mc_54 rt 26 (L) (st) w else iv_V call mc_54 rt 14 (L) (st) w := e54_13
theorem f54_14 : iv_V call mc_54 rt 14 (.ref a :: L) (st) w = iv_V call mc_54 rt 15 (.ref a :: L) (.ref a :: st) w := e54_14
theorem f54_15 : iv_V call mc_54 rt 15 (v0 :: v1 :: .int x :: L) (st) w = iv_V call mc_54 rt 16 (v0 :: v1 :: .int x :: L) (.int x :: st) w := e54_15
theorem f54_16 : iv_V call mc_54 rt 16 (v0 :: v1 :: .int x :: L) (st) w = iv_V call mc_54 rt 17 (v0 :: v1 :: .int x :: L) (.int x :: st) w := e54_16
theorem f54_17 {a0 : Nat} {x1 : Int32} {x2 : Int32} : iv_V call mc_54 rt 17 (L) (.int x2 :: .int x1 :: .ref a0 :: []) w = iv_cr (iv_rc w [.ref a0, .int x1, .int x2] 1) (iv_ct call mc_54 rt 18 L [] (call 53 [.ref a0, .int x1, .int x2] w)) := e54_17
theorem f54_18 : iv_V call mc_54 rt 18 (L) (.int x :: st) w = if ¬ x = nI 0 then iv_V call mc_54 rt 24 (L) (st) w else iv_V call mc_54 rt 19 (L) (st) w := e54_18
theorem f54_19 : iv_V call mc_54 rt 19 (.ref a :: L) (st) w = iv_V call mc_54 rt 20 (.ref a :: L) (.ref a :: st) w := e54_19
theorem f54_20 : iv_V call mc_54 rt 20 (v0 :: v1 :: .int x :: L) (st) w = iv_V call mc_54 rt 21 (v0 :: v1 :: .int x :: L) (.int x :: st) w := e54_20
theorem f54_21 : iv_V call mc_54 rt 21 (v0 :: .int x :: L) (st) w = iv_V call mc_54 rt 22 (v0 :: .int x :: L) (.int x :: st) w := e54_21
theorem f54_22 {a0 : Nat} {x1 : Int32} {x2 : Int32} : iv_V call mc_54 rt 22 (L) (.int x2 :: .int x1 :: .ref a0 :: []) w = iv_cr (iv_rc w [.ref a0, .int x1, .int x2] 1) (iv_ct call mc_54 rt 23 L [] (call 53 [.ref a0, .int x1, .int x2] w)) := e54_22
theorem f54_23 : iv_V call mc_54 rt 23 (L) (.int x :: st) w = if x = nI 0 then iv_V call mc_54 rt 26 (L) (st) w else iv_V call mc_54 rt 24 (L) (st) w := e54_23
theorem f54_24 : iv_V call mc_54 rt 24 (L) (st) w = iv_V call mc_54 rt 25 (L) (.int (nI 1) :: st) w := e54_24
theorem f54_25 : iv_V call mc_54 rt 25 (L) (st) w = iv_V call mc_54 rt 27 (L) (st) w := e54_25
theorem f54_26 : iv_V call mc_54 rt 26 (L) (st) w = iv_V call mc_54 rt 27 (L) (.int (nI 0) :: st) w := e54_26
theorem f54_27 : iv_V call mc_54 rt 27 (L) (st) w = iv_ret rt st w := e54_27
theorem f55_0 : iv_V call mc_55 rt 0 (.ref a :: L) (st) w = iv_V call mc_55 rt 1 (.ref a :: L) (.ref a :: st) w := e55_0
theorem f55_1 : iv_V call mc_55 rt 1 (L) (st) w = iv_gf w st 1 40 (iv_kv call mc_55 rt 2 L w) := e55_1
theorem f55_2 : iv_V call mc_55 rt 2 (L) (st) w = iv_V call mc_55 rt 3 (L) (.int (nI 0) :: st) w := e55_2
theorem f55_3 : iv_V call mc_55 rt 3 (v0 :: .int x :: L) (st) w = iv_V call mc_55 rt 4 (v0 :: .int x :: L) (.int x :: st) w := e55_3
theorem f55_4 : iv_V call mc_55 rt 4 (L) (st) w = iv_ast w st iv_isI (iv_kw call mc_55 rt 5 L) := e55_4
theorem f55_5 : iv_V call mc_55 rt 5 (v0 :: .int x :: L) (st) w = iv_V call mc_55 rt 6 (v0 :: .int x :: L) (.int x :: st) w := e55_5
theorem f55_6 : iv_V call mc_55 rt 6 (L) (st) w = iv_V call mc_55 rt 7 (L) (.int (nI 6) :: st) w := e55_6
theorem f55_7 : iv_V call mc_55 rt 7 (L) (.int y :: .int x :: st) w = if y ≤ x then iv_V call mc_55 rt 10 (L) (st) w else iv_V call mc_55 rt 8 (L) (st) w := e55_7
theorem f55_8 : iv_V call mc_55 rt 8 (L) (st) w = iv_V call mc_55 rt 9 (L) (.int (nI 1) :: st) w := e55_8
theorem f55_9 : iv_V call mc_55 rt 9 (L) (st) w = iv_ret rt st w := e55_9
theorem f55_10 : iv_V call mc_55 rt 10 (L) (st) w = iv_V call mc_55 rt 11 (L) (.int (nI 0) :: st) w := e55_10
theorem f55_11 : iv_V call mc_55 rt 11 (v0 :: v1 :: u :: L) (.int x :: st) w = iv_V call mc_55 rt 12 (v0 :: v1 :: .int x :: L) (st) w := e55_11
theorem f55_12 : iv_V call mc_55 rt 12 (L) (st) w = iv_V call mc_55 rt 13 (L) (.int (nI 0) :: st) w := e55_12
theorem f55_13 : iv_V call mc_55 rt 13 (v0 :: v1 :: v2 :: u :: L) (.int x :: st) w = iv_V call mc_55 rt 14 (v0 :: v1 :: v2 :: .int x :: L) (st) w := e55_13
theorem f55_14 : iv_V call mc_55 rt 14 (v0 :: v1 :: v2 :: .int x :: L) (st) w = iv_V call mc_55 rt 15 (v0 :: v1 :: v2 :: .int x :: L) (.int x :: st) w := e55_14
theorem f55_15 : iv_V call mc_55 rt 15 (.ref a :: L) (st) w = iv_V call mc_55 rt 16 (.ref a :: L) (.ref a :: st) w := e55_15
theorem f55_16 : iv_V call mc_55 rt 16 (L) (st) w = iv_gf w st 1 20 (iv_kv call mc_55 rt 17 L w) := e55_16
theorem f55_17 : iv_V call mc_55 rt 17 (v0 :: .int x :: L) (st) w = iv_V call mc_55 rt 18 (v0 :: .int x :: L) (.int x :: st) w := e55_17
theorem f55_18 : iv_V call mc_55 rt 18 (L) (st) w = iv_V call mc_55 rt 19 (L) (.int (nI 6) :: st) w := e55_18
theorem f55_19 : iv_V call mc_55 rt 19 (L) (.int y :: .int x :: st) w = iv_V call mc_55 rt 20 (L) (.int (x - y) :: st) w := e55_19
theorem f55_20 : iv_V call mc_55 rt 20 (L) (st) w = iv_ald w st iv_isI (iv_kv call mc_55 rt 21 L w) := e55_20
theorem f55_21 : iv_V call mc_55 rt 21 (L) (.int y :: .int x :: st) w = if y ≤ x then iv_V call mc_55 rt 74 (L) (st) w else iv_V call mc_55 rt 22 (L) (st) w := e55_21
theorem f55_22 : iv_V call mc_55 rt 22 (.ref a :: L) (st) w = iv_V call mc_55 rt 23 (.ref a :: L) (.ref a :: st) w := e55_22
theorem f55_23 : iv_V call mc_55 rt 23 (L) (st) w = iv_gf w st 1 21 (iv_kv call mc_55 rt 24 L w) := e55_23
theorem f55_24 : iv_V call mc_55 rt 24 (L) (st) w = iv_V call mc_55 rt 25 (L) (.int (nI 4) :: st) w := e55_24
theorem f55_25 : iv_V call mc_55 rt 25 (v0 :: .int x :: L) (st) w = iv_V call mc_55 rt 26 (v0 :: .int x :: L) (.int x :: st) w := e55_25
theorem f55_26 : iv_V call mc_55 rt 26 (L) (st) w = iv_V call mc_55 rt 27 (L) (.int (nI 6) :: st) w := e55_26
theorem f55_27 : iv_V call mc_55 rt 27 (L) (.int y :: .int x :: st) w = iv_V call mc_55 rt 28 (L) (.int (x - y) :: st) w := e55_27
theorem f55_28 : iv_V call mc_55 rt 28 (L) (.int y :: .int x :: st) w = iv_V call mc_55 rt 29 (L) (.int (x * y) :: st) w := e55_28
theorem f55_29 : iv_V call mc_55 rt 29 (v0 :: v1 :: v2 :: .int x :: L) (st) w = iv_V call mc_55 rt 30 (v0 :: v1 :: v2 :: .int x :: L) (.int x :: st) w := e55_29
theorem f55_30 : iv_V call mc_55 rt 30 (L) (.int y :: .int x :: st) w = iv_V call mc_55 rt 31 (L) (.int (x + y) :: st) w := e55_30
theorem f55_31 : iv_V call mc_55 rt 31 (L) (st) w = iv_ald w st iv_isI (iv_kv call mc_55 rt 32 L w) := e55_31
theorem f55_32 : iv_V call mc_55 rt 32 (v0 :: v1 :: v2 :: v3 :: u :: L) (.int x :: st) w = iv_V call mc_55 rt 33 (v0 :: v1 :: v2 :: v3 :: .int x :: L) (st) w := e55_32
theorem f55_33 : iv_V call mc_55 rt 33 (v0 :: v1 :: v2 :: v3 :: .int x :: L) (st) w = iv_V call mc_55 rt 34 (v0 :: v1 :: v2 :: v3 :: .int x :: L) (.int x :: st) w := e55_33
theorem f55_34 : iv_V call mc_55 rt 34 (L) (st) w = iv_V call mc_55 rt 35 (L) (.int (nI 6) :: st) w := e55_34
theorem f55_35 : iv_V call mc_55 rt 35 (L) (.int y :: .int x :: st) w = if y ≤ x then iv_V call mc_55 rt 38 (L) (st) w else iv_V call mc_55 rt 36 (L) (st) w := e55_35
theorem f55_36 : iv_V call mc_55 rt 36 (L) (st) w = iv_V call mc_55 rt 37 (L) (.int (nI 1) :: st) w := e55_36
theorem f55_37 : iv_V call mc_55 rt 37 (L) (st) w = iv_V call mc_55 rt 44 (L) (st) w := e55_37
theorem f55_38 : iv_V call mc_55 rt 38 (.ref a :: L) (st) w = iv_V call mc_55 rt 39 (.ref a :: L) (.ref a :: st) w := e55_38
theorem f55_39 : iv_V call mc_55 rt 39 (L) (st) w = iv_gf w st 1 20 (iv_kv call mc_55 rt 40 L w) := e55_39
theorem f55_40 : iv_V call mc_55 rt 40 (v0 :: v1 :: v2 :: v3 :: .int x :: L) (st) w = iv_V call mc_55 rt 41 (v0 :: v1 :: v2 :: v3 :: .int x :: L) (.int x :: st) w := e55_40
theorem f55_41 : iv_V call mc_55 rt 41 (L) (st) w = iv_V call mc_55 rt 42 (L) (.int (nI 6) :: st) w := e55_41
theorem f55_42 : iv_V call mc_55 rt 42 (L) (.int y :: .int x :: st) w = iv_V call mc_55 rt 43 (L) (.int (x - y) :: st) w := e55_42
theorem f55_43 : iv_V call mc_55 rt 43 (L) (st) w = iv_ald w st iv_isI (iv_kv call mc_55 rt 44 L w) := e55_43
theorem f55_44 : iv_V call mc_55 rt 44 (v0 :: v1 :: v2 :: v3 :: v4 :: u :: L) (.int x :: st) w = iv_V call mc_55 rt 45 (v0 :: v1 :: v2 :: v3 :: v4 :: .int x :: L) (st) w := e55_44
theorem f55_45 : iv_V call mc_55 rt 45 (L) (st) w = iv_V call mc_55 rt 46 (L) (.int (nI 0) :: st) w := e55_45
theorem f55_46 : iv_V call mc_55 rt 46 (v0 :: v1 :: v2 :: v3 :: v4 :: v5 :: u :: L) (.int x :: st) w = iv_V call mc_55 rt 47 (v0 :: v1 :: v2 :: v3 :: v4 :: v5 :: .int x :: L) (st) w := e55_46
theorem f55_47 : iv_V call mc_55 rt 47 (v0 :: v1 :: v2 :: v3 :: v4 :: v5 :: .int x :: L) (st) w = iv_V call mc_55 rt 48 (v0 :: v1 :: v2 :: v3 :: v4 :: v5 :: .int x :: L) (.int x :: st) w := e55_47
theorem f55_48 : iv_V call mc_55 rt 48 (v0 :: v1 :: v2 :: v3 :: v4 :: .int x :: L) (st) w = iv_V call mc_55 rt 49 (v0 :: v1 :: v2 :: v3 :: v4 :: .int x :: L) (.int x :: st) w := e55_48
theorem f55_49 : iv_V call mc_55 rt 49 (L) (.int y :: .int x :: st) w = if y ≤ x then iv_V call mc_55 rt 72 (L) (st) w else iv_V call mc_55 rt 50 (L) (st) w := e55_49
theorem f55_50 : iv_V call mc_55 rt 50 (.ref a :: L) (st) w = iv_V call mc_55 rt 51 (.ref a :: L) (.ref a :: st) w := e55_50
theorem f55_51 : iv_V call mc_55 rt 51 (L) (st) w = iv_gf w st 1 40 (iv_kv call mc_55 rt 52 L w) := e55_51
theorem f55_52 : iv_V call mc_55 rt 52 (v0 :: v1 :: .int x :: L) (st) w = iv_V call mc_55 rt 53 (v0 :: v1 :: .int x :: L) (.int x :: st) w := e55_52
theorem f55_53 : iv_V call mc_55 rt 53 (v0 :: v1 :: v2 :: v3 :: .int x :: L) (st) w = iv_V call mc_55 rt 54 (v0 :: v1 :: v2 :: v3 :: .int x :: L) (.int x :: st) w := e55_53
theorem f55_54 : iv_V call mc_55 rt 54 (L) (st) w = iv_V call mc_55 rt 55 (L) (.int (nI 6) :: st) w := e55_54
theorem f55_55 : iv_V call mc_55 rt 55 (L) (.int y :: .int x :: st) w = if y ≤ x then iv_V call mc_55 rt 58 (L) (st) w else iv_V call mc_55 rt 56 (L) (st) w := e55_55
theorem f55_56 : iv_V call mc_55 rt 56 (v0 :: v1 :: v2 :: v3 :: .int x :: L) (st) w = iv_V call mc_55 rt 57 (v0 :: v1 :: v2 :: v3 :: .int x :: L) (.int x :: st) w := e55_56
theorem f55_57 : iv_V call mc_55 rt 57 (L) (st) w = iv_V call mc_55 rt 68 (L) (st) w := e55_57
theorem f55_58 : iv_V call mc_55 rt 58 (.ref a :: L) (st) w = iv_V call mc_55 rt 59 (.ref a :: L) (.ref a :: st) w := e55_58
theorem f55_59 : iv_V call mc_55 rt 59 (L) (st) w = iv_gf w st 1 21 (iv_kv call mc_55 rt 60 L w) := e55_59
theorem f55_60 : iv_V call mc_55 rt 60 (L) (st) w = iv_V call mc_55 rt 61 (L) (.int (nI 4) :: st) w := e55_60
theorem f55_61 : iv_V call mc_55 rt 61 (v0 :: v1 :: v2 :: v3 :: .int x :: L) (st) w = iv_V call mc_55 rt 62 (v0 :: v1 :: v2 :: v3 :: .int x :: L) (.int x :: st) w := e55_61
theorem f55_62 : iv_V call mc_55 rt 62 (L) (st) w = iv_V call mc_55 rt 63 (L) (.int (nI 6) :: st) w := e55_62
theorem f55_63 : iv_V call mc_55 rt 63 (L) (.int y :: .int x :: st) w = iv_V call mc_55 rt 64 (L) (.int (x - y) :: st) w := e55_63
theorem f55_64 : iv_V call mc_55 rt 64 (L) (.int y :: .int x :: st) w = iv_V call mc_55 rt 65 (L) (.int (x * y) :: st) w := e55_64
theorem f55_65 : iv_V call mc_55 rt 65 (v0 :: v1 :: v2 :: v3 :: v4 :: v5 :: .int x :: L) (st) w = iv_V call mc_55 rt 66 (v0 :: v1 :: v2 :: v3 :: v4 :: v5 :: .int x :: L) (.int x :: st) w := e55_65
theorem f55_66 : iv_V call mc_55 rt 66 (L) (.int y :: .int x :: st) w = iv_V call mc_55 rt 67 (L) (.int (x + y) :: st) w := e55_66
theorem f55_67 : iv_V call mc_55 rt 67 (L) (st) w = iv_ald w st iv_isI (iv_kv call mc_55 rt 68 L w) := e55_67
theorem f55_68 : iv_V call mc_55 rt 68 (L) (st) w = iv_ast w st iv_isI (iv_kw call mc_55 rt 69 L) := e55_68
theorem f55_69 : iv_V call mc_55 rt 69 (v0 :: v1 :: .int x :: L) (st) w = iv_V call mc_55 rt 70 (v0 :: v1 :: .int (x + (nI 1)) :: L) (st) w := e55_69
theorem f55_70 : iv_V call mc_55 rt 70 (v0 :: v1 :: v2 :: v3 :: v4 :: v5 :: .int x :: L) (st) w = iv_V call mc_55 rt 71 (v0 :: v1 :: v2 :: v3 :: v4 :: v5 :: .int (x + (nI 1)) :: L) (st) w := e55_70
theorem f55_71 : iv_V call mc_55 rt 71 (L) (st) w = iv_V call mc_55 rt 47 (L) (st) w := e55_71
theorem f55_72 : iv_V call mc_55 rt 72 (v0 :: v1 :: v2 :: .int x :: L) (st) w = iv_V call mc_55 rt 73 (v0 :: v1 :: v2 :: .int (x + (nI 1)) :: L) (st) w := e55_72
theorem f55_73 : iv_V call mc_55 rt 73 (L) (st) w = iv_V call mc_55 rt 14 (L) (st) w := e55_73
theorem f55_74 : iv_V call mc_55 rt 74 (v0 :: v1 :: .int x :: L) (st) w = iv_V call mc_55 rt 75 (v0 :: v1 :: .int x :: L) (.int x :: st) w := e55_74
theorem f55_75 : iv_V call mc_55 rt 75 (L) (st) w = iv_ret rt st w := e55_75
theorem f56_0 : iv_V call mc_56 rt 0 (v0 :: .int x :: L) (st) w = iv_V call mc_56 rt 1 (v0 :: .int x :: L) (.int x :: st) w := e56_0
theorem f56_1 : iv_V call mc_56 rt 1 (L) (st) w = iv_V call mc_56 rt 2 (L) (.int (nI 0) :: st) w := e56_1
theorem f56_2 : iv_V call mc_56 rt 2 (.ref a :: L) (st) w = iv_V call mc_56 rt 3 (.ref a :: L) (.ref a :: st) w := e56_2
theorem f56_3 : iv_V call mc_56 rt 3 (L) (st) w = iv_gf w st 1 24 (iv_kv call mc_56 rt 4 L w) := e56_3
theorem f56_4 : iv_V call mc_56 rt 4 (L) (st) w = iv_V call mc_56 rt 5 (L) (.int (nI 1) :: st) w := e56_4
theorem f56_5 : iv_V call mc_56 rt 5 (L) (.int y :: .int x :: st) w = iv_V call mc_56 rt 6 (L) (.int (x - y) :: st) w := e56_5
theorem f56_6 {x0 : Int32} {x1 : Int32} {x2 : Int32} : iv_V call mc_56 rt 6 (L) (.int x2 :: .int x1 :: .int x0 :: []) w = iv_ct call mc_56 rt 7 L [] (call 25 [.int x0, .int x1, .int x2] w) := e56_6
theorem f56_7 : iv_V call mc_56 rt 7 (L) (.int x :: st) w = if x = nI 0 then iv_V call mc_56 rt 13 (L) (st) w else iv_V call mc_56 rt 8 (L) (st) w := e56_7
theorem f56_8 : iv_V call mc_56 rt 8 (v0 :: v1 :: .int x :: L) (st) w = iv_V call mc_56 rt 9 (v0 :: v1 :: .int x :: L) (.int x :: st) w := e56_8
theorem f56_9 : iv_V call mc_56 rt 9 (L) (st) w = iv_V call mc_56 rt 10 (L) (.int (nI 0) :: st) w := e56_9
theorem f56_10 : iv_V call mc_56 rt 10 (L) (st) w = iv_V call mc_56 rt 11 (L) (.int (nI 7) :: st) w := e56_10
theorem f56_11 {x0 : Int32} {x1 : Int32} {x2 : Int32} : iv_V call mc_56 rt 11 (L) (.int x2 :: .int x1 :: .int x0 :: []) w = iv_ct call mc_56 rt 12 L [] (call 25 [.int x0, .int x1, .int x2] w) := e56_11
theorem f56_12 : iv_V call mc_56 rt 12 (L) (.int x :: st) w = if ¬ x = nI 0 then iv_V call mc_56 rt 15 (L) (st) w else iv_V call mc_56 rt 13 (L) (st) w := e56_12
theorem f56_13 : iv_V call mc_56 rt 13 (L) (st) w = iv_V call mc_56 rt 14 (L) (.int (-1) :: st) w := e56_13
theorem f56_14 : iv_V call mc_56 rt 14 (L) (st) w = iv_ret rt st w := e56_14
theorem f56_15 : iv_V call mc_56 rt 15 (.ref a :: L) (st) w = iv_V call mc_56 rt 16 (.ref a :: L) (.ref a :: st) w := e56_15
theorem f56_16 : iv_V call mc_56 rt 16 (L) (st) w = iv_V call mc_56 rt 17 (L) (.int (nI 0) :: st) w := e56_16
theorem f56_17 : iv_V call mc_56 rt 17 (L) (st) w = iv_pf w st 1 41 (iv_kw call mc_56 rt 18 L) := e56_17
theorem f56_18 : iv_V call mc_56 rt 18 (.ref a :: L) (st) w = iv_V call mc_56 rt 19 (.ref a :: L) (.ref a :: st) w := e56_18
theorem f56_19 : iv_V call mc_56 rt 19 (L) (st) w = iv_V call mc_56 rt 20 (L) (.int (nI 0) :: st) w := e56_19
theorem f56_20 : iv_V call mc_56 rt 20 (L) (st) w = iv_pf w st 1 39 (iv_kw call mc_56 rt 21 L) := e56_20
theorem f56_21 : iv_V call mc_56 rt 21 (v0 :: v1 :: .int x :: L) (st) w = iv_V call mc_56 rt 22 (v0 :: v1 :: .int x :: L) (.int x :: st) w := e56_21
theorem f56_22 : iv_V call mc_56 rt 22 (L) (st) w = iv_V call mc_56 rt 23 (L) (.int (nI 5) :: st) w := e56_22
theorem f56_23 : iv_V call mc_56 rt 23 (L) (.int y :: .int x :: st) w = if x ≤ y then iv_V call mc_56 rt 30 (L) (st) w else iv_V call mc_56 rt 24 (L) (st) w := e56_23
theorem f56_24 : iv_V call mc_56 rt 24 (.ref a :: L) (st) w = iv_V call mc_56 rt 25 (.ref a :: L) (.ref a :: st) w := e56_24
theorem f56_25 : iv_V call mc_56 rt 25 (v0 :: v1 :: .int x :: L) (st) w = iv_V call mc_56 rt 26 (v0 :: v1 :: .int x :: L) (.int x :: st) w := e56_25
theorem f56_26 {a0 : Nat} {x1 : Int32} : iv_V call mc_56 rt 26 (L) (.int x1 :: .ref a0 :: []) w = iv_cr (iv_rc w [.ref a0, .int x1] 1) (iv_ct call mc_56 rt 27 L [] (call 54 [.ref a0, .int x1] w)) := e56_26
theorem f56_27 : iv_V call mc_56 rt 27 (L) (.int x :: st) w = if x = nI 0 then iv_V call mc_56 rt 30 (L) (st) w else iv_V call mc_56 rt 28 (L) (st) w := e56_27
theorem f56_28 : iv_V call mc_56 rt 28 (L) (st) w = iv_V call mc_56 rt 29 (L) (.int (-2) :: st) w := e56_28
theorem f56_29 : iv_V call mc_56 rt 29 (L) (st) w = iv_ret rt st w := e56_29
theorem f56_30 : iv_V call mc_56 rt 30 (.ref a :: L) (st) w = iv_V call mc_56 rt 31 (.ref a :: L) (.ref a :: st) w := e56_30
theorem f56_31 : iv_V call mc_56 rt 31 (v0 :: v1 :: .int x :: L) (st) w = iv_V call mc_56 rt 32 (v0 :: v1 :: .int x :: L) (.int x :: st) w := e56_31
theorem f56_32 {a0 : Nat} {x1 : Int32} : iv_V call mc_56 rt 32 (L) (.int x1 :: .ref a0 :: []) w = iv_cr (iv_rc w [.ref a0, .int x1] 1) (iv_ct call mc_56 rt 33 L [] (call 55 [.ref a0, .int x1] w)) := e56_32
theorem f56_33 : iv_V call mc_56 rt 33 (v0 :: v1 :: v2 :: u :: L) (.int x :: st) w = iv_V call mc_56 rt 34 (v0 :: v1 :: v2 :: .int x :: L) (st) w := e56_33
theorem f56_34 : iv_V call mc_56 rt 34 (L) (st) w = iv_V call mc_56 rt 35 (L) (.int (nI 0) :: st) w := e56_34
theorem f56_35 : iv_V call mc_56 rt 35 (v0 :: v1 :: v2 :: v3 :: u :: L) (.int x :: st) w = iv_V call mc_56 rt 36 (v0 :: v1 :: v2 :: v3 :: .int x :: L) (st) w := e56_35
theorem f56_36 : iv_V call mc_56 rt 36 (v0 :: v1 :: v2 :: v3 :: .int x :: L) (st) w = iv_V call mc_56 rt 37 (v0 :: v1 :: v2 :: v3 :: .int x :: L) (.int x :: st) w := e56_36
theorem f56_37 : iv_V call mc_56 rt 37 (v0 :: v1 :: v2 :: .int x :: L) (st) w = iv_V call mc_56 rt 38 (v0 :: v1 :: v2 :: .int x :: L) (.int x :: st) w := e56_37
theorem f56_38 : iv_V call mc_56 rt 38 (L) (.int y :: .int x :: st) w = if y ≤ x then iv_V call mc_56 rt 59 (L) (st) w else iv_V call mc_56 rt 39 (L) (st) w := e56_38
theorem f56_39 : iv_V call mc_56 rt 39 (.ref a :: L) (st) w = iv_V call mc_56 rt 40 (.ref a :: L) (.ref a :: st) w := e56_39
theorem f56_40 : iv_V call mc_56 rt 40 (L) (st) w = iv_gf w st 1 41 (iv_kv call mc_56 rt 41 L w) := e56_40
theorem f56_41 : iv_V call mc_56 rt 41 (L) (.int x :: st) w = if ¬ x = nI 0 then iv_V call mc_56 rt 59 (L) (st) w else iv_V call mc_56 rt 42 (L) (st) w := e56_41
theorem f56_42 : iv_V call mc_56 rt 42 (.ref a :: L) (st) w = iv_V call mc_56 rt 43 (.ref a :: L) (.ref a :: st) w := e56_42
theorem f56_43 : iv_V call mc_56 rt 43 (v0 :: .int x :: L) (st) w = iv_V call mc_56 rt 44 (v0 :: .int x :: L) (.int x :: st) w := e56_43
theorem f56_44 : iv_V call mc_56 rt 44 (.ref a :: L) (st) w = iv_V call mc_56 rt 45 (.ref a :: L) (.ref a :: st) w := e56_44
theorem f56_45 : iv_V call mc_56 rt 45 (L) (st) w = iv_gf w st 1 40 (iv_kv call mc_56 rt 46 L w) := e56_45
theorem f56_46 : iv_V call mc_56 rt 46 (v0 :: v1 :: v2 :: v3 :: .int x :: L) (st) w = iv_V call mc_56 rt 47 (v0 :: v1 :: v2 :: v3 :: .int x :: L) (.int x :: st) w := e56_46
theorem f56_47 : iv_V call mc_56 rt 47 (L) (st) w = iv_ald w st iv_isI (iv_kv call mc_56 rt 48 L w) := e56_47
theorem f56_48 {a0 : Nat} {x1 : Int32} {x2 : Int32} : iv_V call mc_56 rt 48 (L) (.int x2 :: .int x1 :: .ref a0 :: []) w = iv_cr (iv_rc w [.ref a0, .int x1, .int x2] 1) (iv_ct call mc_56 rt 49 L [] (call 52 [.ref a0, .int x1, .int x2] w)) := e56_48
theorem f56_49 : iv_V call mc_56 rt 49 (v0 :: v1 :: v2 :: v3 :: v4 :: u :: L) (.int x :: st) w = iv_V call mc_56 rt 50 (v0 :: v1 :: v2 :: v3 :: v4 :: .int x :: L) (st) w := e56_49
theorem f56_50 : iv_V call mc_56 rt 50 (v0 :: v1 :: v2 :: v3 :: v4 :: .int x :: L) (st) w = iv_V call mc_56 rt 51 (v0 :: v1 :: v2 :: v3 :: v4 :: .int x :: L) (.int x :: st) w := e56_50
theorem f56_51 : iv_V call mc_56 rt 51 (L) (.int x :: st) w = if x = nI 0 then iv_V call mc_56 rt 57 (L) (st) w else iv_V call mc_56 rt 52 (L) (st) w := e56_51
theorem f56_52 : iv_V call mc_56 rt 52 (.ref a :: L) (st) w = iv_V call mc_56 rt 53 (.ref a :: L) (.ref a :: st) w := e56_52
theorem f56_53 : iv_V call mc_56 rt 53 (L) (st) w = iv_V call mc_56 rt 54 (L) (.int (nI 0) :: st) w := e56_53
theorem f56_54 : iv_V call mc_56 rt 54 (L) (st) w = iv_pf w st 1 41 (iv_kw call mc_56 rt 55 L) := e56_54
theorem f56_55 : iv_V call mc_56 rt 55 (v0 :: v1 :: v2 :: v3 :: v4 :: .int x :: L) (st) w = iv_V call mc_56 rt 56 (v0 :: v1 :: v2 :: v3 :: v4 :: .int x :: L) (.int x :: st) w := e56_55
theorem f56_56 : iv_V call mc_56 rt 56 (L) (st) w = iv_ret rt st w := e56_56
theorem f56_57 : iv_V call mc_56 rt 57 (v0 :: v1 :: v2 :: v3 :: .int x :: L) (st) w = iv_V call mc_56 rt 58 (v0 :: v1 :: v2 :: v3 :: .int (x + (nI 1)) :: L) (st) w := e56_57
theorem f56_58 : iv_V call mc_56 rt 58 (L) (st) w = iv_V call mc_56 rt 36 (L) (st) w := e56_58
theorem f56_59 : iv_V call mc_56 rt 59 (.ref a :: L) (st) w = iv_V call mc_56 rt 60 (.ref a :: L) (.ref a :: st) w := e56_59
theorem f56_60 : iv_V call mc_56 rt 60 (L) (st) w = iv_gf w st 1 41 (iv_kv call mc_56 rt 61 L w) := e56_60
theorem f56_61 : iv_V call mc_56 rt 61 (L) (st) w = iv_ret rt st w := e56_61
theorem f57_0 : iv_V call mc_57 rt 0 (.ref a :: L) (st) w = iv_V call mc_57 rt 1 (.ref a :: L) (.ref a :: st) w := e57_0
theorem f57_1 : iv_V call mc_57 rt 1 (v0 :: .int x :: L) (st) w = iv_V call mc_57 rt 2 (v0 :: .int x :: L) (.int x :: st) w := e57_1
theorem f57_2 : iv_V call mc_57 rt 2 (v0 :: v1 :: .int x :: L) (st) w = iv_V call mc_57 rt 3 (v0 :: v1 :: .int x :: L) (.int x :: st) w := e57_2
theorem f57_3 {a0 : Nat} {x1 : Int32} {x2 : Int32} : iv_V call mc_57 rt 3 (L) (.int x2 :: .int x1 :: .ref a0 :: []) w = iv_cr (iv_rc w [.ref a0, .int x1, .int x2] 1) (iv_ct call mc_57 rt 4 L [] (call 38 [.ref a0, .int x1, .int x2] w)) := e57_3
theorem f57_4 : iv_V call mc_57 rt 4 (L) (.int x :: st) w = if x = nI 0 then iv_V call mc_57 rt 10 (L) (st) w else iv_V call mc_57 rt 5 (L) (st) w := e57_4
theorem f57_5 : iv_V call mc_57 rt 5 (v0 :: v1 :: v2 :: .int x :: L) (st) w = iv_V call mc_57 rt 6 (v0 :: v1 :: v2 :: .int x :: L) (.int x :: st) w := e57_5
theorem f57_6 : iv_V call mc_57 rt 6 (L) (st) w = iv_V call mc_57 rt 7 (L) (.int (nI 0) :: st) w := e57_6
theorem f57_7 : iv_V call mc_57 rt 7 (L) (st) w = iv_V call mc_57 rt 8 (L) (.int (nI 5) :: st) w := e57_7
theorem f57_8 {x0 : Int32} {x1 : Int32} {x2 : Int32} : iv_V call mc_57 rt 8 (L) (.int x2 :: .int x1 :: .int x0 :: []) w = iv_ct call mc_57 rt 9 L [] (call 25 [.int x0, .int x1, .int x2] w) := e57_8
theorem f57_9 : iv_V call mc_57 rt 9 (L) (.int x :: st) w = if ¬ x = nI 0 then iv_V call mc_57 rt 12 (L) (st) w else iv_V call mc_57 rt 10 (L) (st) w := e57_9
theorem f57_10 : iv_V call mc_57 rt 10 (L) (st) w = iv_V call mc_57 rt 11 (L) (.int (-1) :: st) w := e57_10
theorem f57_11 : iv_V call mc_57 rt 11 (L) (st) w = iv_ret rt st w := e57_11
theorem f57_12 : iv_V call mc_57 rt 12 (.ref a :: L) (st) w = iv_V call mc_57 rt 13 (.ref a :: L) (.ref a :: st) w := e57_12
theorem f57_13 : iv_V call mc_57 rt 13 (L) (st) w = iv_V call mc_57 rt 14 (L) (.int (nI 0) :: st) w := e57_13
theorem f57_14 : iv_V call mc_57 rt 14 (L) (st) w = iv_pf w st 1 41 (iv_kw call mc_57 rt 15 L) := e57_14
theorem f57_15 : iv_V call mc_57 rt 15 (.ref a :: L) (st) w = iv_V call mc_57 rt 16 (.ref a :: L) (.ref a :: st) w := e57_15
theorem f57_16 : iv_V call mc_57 rt 16 (L) (st) w = iv_V call mc_57 rt 17 (L) (.int (nI 0) :: st) w := e57_16
theorem f57_17 : iv_V call mc_57 rt 17 (L) (st) w = iv_pf w st 1 28 (iv_kw call mc_57 rt 18 L) := e57_17
theorem f57_18 : iv_V call mc_57 rt 18 (.ref a :: L) (st) w = iv_V call mc_57 rt 19 (.ref a :: L) (.ref a :: st) w := e57_18
theorem f57_19 : iv_V call mc_57 rt 19 (v0 :: .int x :: L) (st) w = iv_V call mc_57 rt 20 (v0 :: .int x :: L) (.int x :: st) w := e57_19
theorem f57_20 : iv_V call mc_57 rt 20 (v0 :: v1 :: v2 :: .int x :: L) (st) w = iv_V call mc_57 rt 21 (v0 :: v1 :: v2 :: .int x :: L) (.int x :: st) w := e57_20
theorem f57_21 : iv_V call mc_57 rt 21 (v0 :: v1 :: .int x :: L) (st) w = iv_V call mc_57 rt 22 (v0 :: v1 :: .int x :: L) (.int x :: st) w := e57_21
theorem f57_22 {a0 : Nat} {x1 : Int32} {x2 : Int32} {x3 : Int32} : iv_V call mc_57 rt 22 (L) (.int x3 :: .int x2 :: .int x1 :: .ref a0 :: []) w = iv_cr (iv_rc w [.ref a0, .int x1, .int x2, .int x3] 1) (iv_ct call mc_57 rt 23 L [] (call 47 [.ref a0, .int x1, .int x2, .int x3] w)) := e57_22
theorem f57_23 : iv_V call mc_57 rt 23 (v0 :: v1 :: v2 :: v3 :: u :: L) (.int x :: st) w = iv_V call mc_57 rt 24 (v0 :: v1 :: v2 :: v3 :: .int x :: L) (st) w := e57_23
theorem f57_24 : iv_V call mc_57 rt 24 (.ref a :: L) (st) w = iv_V call mc_57 rt 25 (.ref a :: L) (.ref a :: st) w := e57_24
theorem f57_25 : iv_V call mc_57 rt 25 (v0 :: v1 :: v2 :: v3 :: .int x :: L) (st) w = iv_V call mc_57 rt 26 (v0 :: v1 :: v2 :: v3 :: .int x :: L) (.int x :: st) w := e57_25
theorem f57_26 : iv_V call mc_57 rt 26 (L) (.int x :: st) w = if x = nI 0 then iv_V call mc_57 rt 29 (L) (st) w else iv_V call mc_57 rt 27 (L) (st) w := e57_26
theorem f57_27 : iv_V call mc_57 rt 27 (L) (st) w = iv_V call mc_57 rt 28 (L) (.int (nI 0) :: st) w := e57_27
theorem f57_28 : iv_V call mc_57 rt 28 (L) (st) w = iv_V call mc_57 rt 31 (L) (st) w := e57_28
theorem f57_29 : iv_V call mc_57 rt 29 (.ref a :: L) (st) w = iv_V call mc_57 rt 30 (.ref a :: L) (.ref a :: st) w := e57_29
theorem f57_30 : iv_V call mc_57 rt 30 (L) (st) w = iv_gf w st 1 41 (iv_kv call mc_57 rt 31 L w) := e57_30
theorem f57_31 : iv_V call mc_57 rt 31 (L) (st) w = iv_pf w st 1 41 (iv_kw call mc_57 rt 32 L) := e57_31
theorem f57_32 : iv_V call mc_57 rt 32 (v0 :: v1 :: v2 :: v3 :: .int x :: L) (st) w = iv_V call mc_57 rt 33 (v0 :: v1 :: v2 :: v3 :: .int x :: L) (.int x :: st) w := e57_32
theorem f57_33 : iv_V call mc_57 rt 33 (L) (.int x :: st) w = if x = nI 0 then iv_V call mc_57 rt 36 (L) (st) w else iv_V call mc_57 rt 34 (L) (st) w := e57_33
theorem f57_34 : iv_V call mc_57 rt 34 (v0 :: v1 :: v2 :: v3 :: .int x :: L) (st) w = iv_V call mc_57 rt 35 (v0 :: v1 :: v2 :: v3 :: .int x :: L) (.int x :: st) w := e57_34
theorem f57_35 : iv_V call mc_57 rt 35 (L) (st) w = iv_V call mc_57 rt 38 (L) (st) w := e57_35
theorem f57_36 : iv_V call mc_57 rt 36 (.ref a :: L) (st) w = iv_V call mc_57 rt 37 (.ref a :: L) (.ref a :: st) w := e57_36
theorem f57_37 : iv_V call mc_57 rt 37 (L) (st) w = iv_gf w st 1 41 (iv_kv call mc_57 rt 38 L w) := e57_37
theorem f57_38 : iv_V call mc_57 rt 38 (L) (st) w = iv_ret rt st w := e57_38
theorem f58_0 : iv_V call mc_58 rt 0 (.ref a :: L) (st) w = iv_V call mc_58 rt 1 (.ref a :: L) (.ref a :: st) w := e58_0
theorem f58_1 : iv_V call mc_58 rt 1 (L) (st) w = iv_gf w st 1 41 (iv_kv call mc_58 rt 2 L w) := e58_1
theorem f58_2 : iv_V call mc_58 rt 2 (L) (st) w = iv_ret rt st w := e58_2
theorem f59_0 : iv_V call mc_59 rt 0 (.ref a :: L) (st) w = iv_V call mc_59 rt 1 (.ref a :: L) (.ref a :: st) w := e59_0
theorem f59_1 : iv_V call mc_59 rt 1 (L) (st) w = iv_gf w st 1 39 (iv_kv call mc_59 rt 2 L w) := e59_1
theorem f59_2 : iv_V call mc_59 rt 2 (L) (st) w = iv_ret rt st w := e59_2
theorem f60_0 : iv_V call mc_60 rt 0 (v0 :: .int x :: L) (st) w = iv_V call mc_60 rt 1 (v0 :: .int x :: L) (.int x :: st) w := e60_0
theorem f60_1 : iv_V call mc_60 rt 1 (L) (st) w = iv_V call mc_60 rt 2 (L) (.int (nI 0) :: st) w := e60_1
theorem f60_2 : iv_V call mc_60 rt 2 (.ref a :: L) (st) w = iv_V call mc_60 rt 3 (.ref a :: L) (.ref a :: st) w := e60_2
theorem f60_3 : iv_V call mc_60 rt 3 (L) (st) w = iv_gf w st 1 41 (iv_kv call mc_60 rt 4 L w) := e60_3
theorem f60_4 : iv_V call mc_60 rt 4 (L) (st) w = iv_V call mc_60 rt 5 (L) (.int (nI 1) :: st) w := e60_4
theorem f60_5 : iv_V call mc_60 rt 5 (L) (.int y :: .int x :: st) w = iv_V call mc_60 rt 6 (L) (.int (x - y) :: st) w := e60_5
theorem f60_6 {x0 : Int32} {x1 : Int32} {x2 : Int32} : iv_V call mc_60 rt 6 (L) (.int x2 :: .int x1 :: .int x0 :: []) w = iv_ct call mc_60 rt 7 L [] (call 25 [.int x0, .int x1, .int x2] w) := e60_6
theorem f60_7 : iv_V call mc_60 rt 7 (L) (.int x :: st) w = if x = nI 0 then iv_V call mc_60 rt 22 (L) (st) w else iv_V call mc_60 rt 8 (L) (st) w := e60_7
theorem f60_8 : iv_V call mc_60 rt 8 (v0 :: v1 :: .int x :: L) (st) w = iv_V call mc_60 rt 9 (v0 :: v1 :: .int x :: L) (.int x :: st) w := e60_8
theorem f60_9 : iv_V call mc_60 rt 9 (L) (st) w = iv_V call mc_60 rt 10 (L) (.int (nI 0) :: st) w := e60_9
theorem f60_10 : iv_V call mc_60 rt 10 (L) (st) w = iv_V call mc_60 rt 11 (L) (.int (nI 5) :: st) w := e60_10
theorem f60_11 {x0 : Int32} {x1 : Int32} {x2 : Int32} : iv_V call mc_60 rt 11 (L) (.int x2 :: .int x1 :: .int x0 :: []) w = iv_ct call mc_60 rt 12 L [] (call 25 [.int x0, .int x1, .int x2] w) := e60_11
theorem f60_12 : iv_V call mc_60 rt 12 (L) (.int x :: st) w = if x = nI 0 then iv_V call mc_60 rt 22 (L) (st) w else iv_V call mc_60 rt 13 (L) (st) w := e60_12
theorem f60_13 : iv_V call mc_60 rt 13 (.ref a :: L) (st) w = iv_V call mc_60 rt 14 (.ref a :: L) (.ref a :: st) w := e60_13
theorem f60_14 : iv_V call mc_60 rt 14 (L) (st) w = iv_gf w st 1 42 (iv_kv call mc_60 rt 15 L w) := e60_14
theorem f60_15 : iv_V call mc_60 rt 15 (L) (st) w = iv_V call mc_60 rt 16 (L) (.int (nI 6) :: st) w := e60_15
theorem f60_16 : iv_V call mc_60 rt 16 (v0 :: .int x :: L) (st) w = iv_V call mc_60 rt 17 (v0 :: .int x :: L) (.int x :: st) w := e60_16
theorem f60_17 : iv_V call mc_60 rt 17 (L) (.int y :: .int x :: st) w = iv_V call mc_60 rt 18 (L) (.int (x * y) :: st) w := e60_17
theorem f60_18 : iv_V call mc_60 rt 18 (v0 :: v1 :: .int x :: L) (st) w = iv_V call mc_60 rt 19 (v0 :: v1 :: .int x :: L) (.int x :: st) w := e60_18
theorem f60_19 : iv_V call mc_60 rt 19 (L) (.int y :: .int x :: st) w = iv_V call mc_60 rt 20 (L) (.int (x + y) :: st) w := e60_19
theorem f60_20 : iv_V call mc_60 rt 20 (L) (st) w = iv_ald w st iv_isI (iv_kv call mc_60 rt 21 L w) := e60_20
theorem f60_21 : iv_V call mc_60 rt 21 (L) (st) w = iv_V call mc_60 rt 23 (L) (st) w := e60_21
theorem f60_22 : iv_V call mc_60 rt 22 (L) (st) w = iv_V call mc_60 rt 23 (L) (.int (-1) :: st) w := e60_22
theorem f60_23 : iv_V call mc_60 rt 23 (L) (st) w = iv_ret rt st w := e60_23
theorem f61_0 : iv_V call mc_61 rt 0 (.ref a :: L) (st) w = iv_V call mc_61 rt 1 (.ref a :: L) (.ref a :: st) w := e61_0
theorem f61_1 : iv_V call mc_61 rt 1 (L) (st) w = iv_gf w st 1 46 (iv_kv call mc_61 rt 2 L w) := e61_1
theorem f61_2 : iv_V call mc_61 rt 2 (.ref a :: L) (st) w = iv_V call mc_61 rt 3 (.ref a :: L) (.ref a :: st) w := e61_2
theorem f61_3 : iv_V call mc_61 rt 3 (L) (st) w = iv_gf w st 1 47 (iv_kv call mc_61 rt 4 L w) := e61_3
theorem f61_4 : iv_V call mc_61 rt 4 (v0 :: .int x :: L) (st) w = iv_V call mc_61 rt 5 (v0 :: .int x :: L) (.int x :: st) w := e61_4
theorem f61_5 : iv_V call mc_61 rt 5 (L) (st) w = iv_ast w st iv_isI (iv_kw call mc_61 rt 6 L) := e61_5
theorem f61_6 : iv_V call mc_61 rt 6 (.ref a :: L) (st) w = iv_V call mc_61 rt 7 (.ref a :: L) (.ref a :: st) w := e61_6
theorem f61_7 : iv_V call mc_61 rt 7 (L) (.ref a :: st) w = iv_V call mc_61 rt 8 (L) (.ref a :: .ref a :: st) w := e61_7
theorem f61_8 : iv_V call mc_61 rt 8 (L) (st) w = iv_gf w st 1 47 (iv_kv call mc_61 rt 9 L w) := e61_8
theorem f61_9 : iv_V call mc_61 rt 9 (L) (st) w = iv_V call mc_61 rt 10 (L) (.int (nI 1) :: st) w := e61_9
theorem f61_10 : iv_V call mc_61 rt 10 (L) (.int y :: .int x :: st) w = iv_V call mc_61 rt 11 (L) (.int (x + y) :: st) w := e61_10
theorem f61_11 : iv_V call mc_61 rt 11 (L) (st) w = iv_pf w st 1 47 (iv_kw call mc_61 rt 12 L) := e61_11
theorem f61_12 : iv_V call mc_61 rt 12 (L) (st) w = iv_rev rt st w := e61_12
theorem f62_0 : iv_V call mc_62 rt 0 (.ref a :: L) (st) w = iv_V call mc_62 rt 1 (.ref a :: L) (.ref a :: st) w := e62_0
theorem f62_1 : iv_V call mc_62 rt 1 (L) (st) w = iv_V call mc_62 rt 2 (L) (.int (nI 102) :: st) w := e62_1
theorem f62_2 {a0 : Nat} {x1 : Int32} : iv_V call mc_62 rt 2 (L) (.int x1 :: .ref a0 :: []) w = iv_cr (iv_rc w [.ref a0, .int x1] 1) (iv_ct call mc_62 rt 3 L [] (call 61 [.ref a0, .int x1] w)) := e62_2
theorem f62_3 : iv_V call mc_62 rt 3 (v0 :: .int x :: L) (st) w = iv_V call mc_62 rt 4 (v0 :: .int x :: L) (.int x :: st) w := e62_3
theorem f62_4 : iv_V call mc_62 rt 4 (L) (st) w = iv_V call mc_62 rt 5 (L) (.int (nI 9) :: st) w := e62_4
theorem f62_5 : iv_V call mc_62 rt 5 (L) (.int y :: .int x :: st) w = if x ≤ y then iv_V call mc_62 rt 13 (L) (st) w else iv_V call mc_62 rt 6 (L) (st) w := e62_5
theorem f62_6 : iv_V call mc_62 rt 6 (.ref a :: L) (st) w = iv_V call mc_62 rt 7 (.ref a :: L) (.ref a :: st) w := e62_6
theorem f62_7 : iv_V call mc_62 rt 7 (L) (st) w = iv_V call mc_62 rt 8 (L) (.int (nI 48) :: st) w := e62_7
theorem f62_8 : iv_V call mc_62 rt 8 (v0 :: .int x :: L) (st) w = iv_V call mc_62 rt 9 (v0 :: .int x :: L) (.int x :: st) w := e62_8
theorem f62_9 : iv_V call mc_62 rt 9 (L) (st) w = iv_V call mc_62 rt 10 (L) (.int (nI 10) :: st) w := e62_9
theorem f62_10 : iv_V call mc_62 rt 10 (L) (.int y :: .int x :: st) w = if y = 0 then none else iv_V call mc_62 rt 11 (L) (.int (x / y) :: st) w := e62_10
theorem f62_11 : iv_V call mc_62 rt 11 (L) (.int y :: .int x :: st) w = iv_V call mc_62 rt 12 (L) (.int (x + y) :: st) w := e62_11
theorem f62_12 {a0 : Nat} {x1 : Int32} : iv_V call mc_62 rt 12 (L) (.int x1 :: .ref a0 :: []) w = iv_cr (iv_rc w [.ref a0, .int x1] 1) (iv_ct call mc_62 rt 13 L [] (call 61 [.ref a0, .int x1] w)) := e62_12
theorem f62_13 : iv_V call mc_62 rt 13 (.ref a :: L) (st) w = iv_V call mc_62 rt 14 (.ref a :: L) (.ref a :: st) w := e62_13
theorem f62_14 : iv_V call mc_62 rt 14 (L) (st) w = iv_V call mc_62 rt 15 (L) (.int (nI 48) :: st) w := e62_14
theorem f62_15 : iv_V call mc_62 rt 15 (v0 :: .int x :: L) (st) w = iv_V call mc_62 rt 16 (v0 :: .int x :: L) (.int x :: st) w := e62_15
theorem f62_16 : iv_V call mc_62 rt 16 (L) (st) w = iv_V call mc_62 rt 17 (L) (.int (nI 10) :: st) w := e62_16
theorem f62_17 : iv_V call mc_62 rt 17 (L) (.int y :: .int x :: st) w = if y = 0 then none else iv_V call mc_62 rt 18 (L) (.int (x - x / y * y) :: st) w := e62_17
theorem f62_18 : iv_V call mc_62 rt 18 (L) (.int y :: .int x :: st) w = iv_V call mc_62 rt 19 (L) (.int (x + y) :: st) w := e62_18
theorem f62_19 {a0 : Nat} {x1 : Int32} : iv_V call mc_62 rt 19 (L) (.int x1 :: .ref a0 :: []) w = iv_cr (iv_rc w [.ref a0, .int x1] 1) (iv_ct call mc_62 rt 20 L [] (call 61 [.ref a0, .int x1] w)) := e62_19
theorem f62_20 : iv_V call mc_62 rt 20 (v0 :: v1 :: .int x :: L) (st) w = iv_V call mc_62 rt 21 (v0 :: v1 :: .int x :: L) (.int x :: st) w := e62_20
theorem f62_21 : iv_V call mc_62 rt 21 (L) (.int x :: st) w = if x < nI 0 then iv_V call mc_62 rt 33 (L) (st) w else iv_V call mc_62 rt 22 (L) (st) w := e62_21
theorem f62_22 : iv_V call mc_62 rt 22 (.ref a :: L) (st) w = iv_V call mc_62 rt 23 (.ref a :: L) (.ref a :: st) w := e62_22
theorem f62_23 : iv_V call mc_62 rt 23 (L) (st) w = iv_V call mc_62 rt 24 (L) (.int (nI 91) :: st) w := e62_23
theorem f62_24 {a0 : Nat} {x1 : Int32} : iv_V call mc_62 rt 24 (L) (.int x1 :: .ref a0 :: []) w = iv_cr (iv_rc w [.ref a0, .int x1] 1) (iv_ct call mc_62 rt 25 L [] (call 61 [.ref a0, .int x1] w)) := e62_24
theorem f62_25 : iv_V call mc_62 rt 25 (.ref a :: L) (st) w = iv_V call mc_62 rt 26 (.ref a :: L) (.ref a :: st) w := e62_25
theorem f62_26 : iv_V call mc_62 rt 26 (L) (st) w = iv_V call mc_62 rt 27 (L) (.int (nI 48) :: st) w := e62_26
theorem f62_27 : iv_V call mc_62 rt 27 (v0 :: v1 :: .int x :: L) (st) w = iv_V call mc_62 rt 28 (v0 :: v1 :: .int x :: L) (.int x :: st) w := e62_27
theorem f62_28 : iv_V call mc_62 rt 28 (L) (.int y :: .int x :: st) w = iv_V call mc_62 rt 29 (L) (.int (x + y) :: st) w := e62_28
theorem f62_29 {a0 : Nat} {x1 : Int32} : iv_V call mc_62 rt 29 (L) (.int x1 :: .ref a0 :: []) w = iv_cr (iv_rc w [.ref a0, .int x1] 1) (iv_ct call mc_62 rt 30 L [] (call 61 [.ref a0, .int x1] w)) := e62_29
theorem f62_30 : iv_V call mc_62 rt 30 (.ref a :: L) (st) w = iv_V call mc_62 rt 31 (.ref a :: L) (.ref a :: st) w := e62_30
theorem f62_31 : iv_V call mc_62 rt 31 (L) (st) w = iv_V call mc_62 rt 32 (L) (.int (nI 93) :: st) w := e62_31
theorem f62_32 {a0 : Nat} {x1 : Int32} : iv_V call mc_62 rt 32 (L) (.int x1 :: .ref a0 :: []) w = iv_cr (iv_rc w [.ref a0, .int x1] 1) (iv_ct call mc_62 rt 33 L [] (call 61 [.ref a0, .int x1] w)) := e62_32
theorem f62_33 : iv_V call mc_62 rt 33 (L) (st) w = iv_rev rt st w := e62_33
end IVF2
