/-! what each row does -/
section IVS6
variable {call : Nat → List Value → iv_S → iv_R} {rt : Option FieldType} {L st : List Value} {w : iv_S}
theorem e110_0 : iv_V call mc_110 rt 0 L st w = iv_lda L 0 fun x => iv_V call mc_110 rt 1 L (x :: st) w := iv_V_eq (I := (((0, 1), .aload_n 0, 0, 0, 0) : iv_I)) rfl
theorem e110_1 : iv_V call mc_110 rt 1 L st w = iv_oi st fun st' => iv_V call mc_110 rt 2 L (st') w := iv_V_eq (I := (((1, 3), .invokespecial 3, 0, 1, 187) : iv_I)) rfl
theorem e110_2 : iv_V call mc_110 rt 2 L st w = iv_lda L 0 fun x => iv_V call mc_110 rt 3 L (x :: st) w := iv_V_eq (I := (((4, 1), .aload_n 0, 0, 0, 0) : iv_I)) rfl
theorem e110_3 : iv_V call mc_110 rt 3 L st w = iv_V call mc_110 rt 4 L (.int 0 :: st) w := (iv_V_eq (I := (((5, 1), .iconst 0, 0, 0, 0) : iv_I)) rfl).trans (congrArg (fun c => iv_V call mc_110 rt 4 L (.int c :: st) w) li_o0)
theorem e110_4 : iv_V call mc_110 rt 4 L st w = iv_pf w st 11 0 fun st' w' => iv_V call mc_110 rt 5 L (st') w' := iv_V_eq (I := (((6, 3), .putfield 9, 11, 0, 189) : iv_I)) rfl
theorem e110_5 : iv_V call mc_110 rt 5 L st w = iv_lda L 0 fun x => iv_V call mc_110 rt 6 L (x :: st) w := iv_V_eq (I := (((9, 1), .aload_n 0, 0, 0, 0) : iv_I)) rfl
theorem e110_6 : iv_V call mc_110 rt 6 L st w = iv_V call mc_110 rt 7 L (.int 10 :: st) w := (iv_V_eq (I := (((10, 2), .bipush 10, 0, 0, 0) : iv_I)) rfl).trans (congrArg (fun c => iv_V call mc_110 rt 7 L (.int c :: st) w) li_b10)
theorem e110_7 : iv_V call mc_110 rt 7 L st w = iv_p1 st fun n st' => iv_na w 100 (.int 0) n fun v w' => iv_V call mc_110 rt 8 L (v :: st') w' := iv_V_eq (I := (((12, 2), .newarray .int, 100, 0, 78) : iv_I)) rfl
theorem e110_8 : iv_V call mc_110 rt 8 L st w = iv_pf w st 11 1 fun st' w' => iv_V call mc_110 rt 9 L (st') w' := iv_V_eq (I := (((14, 3), .putfield 15, 11, 1, 190) : iv_I)) rfl
theorem e110_9 : iv_V call mc_110 rt 9 L st w = iv_lda L 0 fun x => iv_V call mc_110 rt 10 L (x :: st) w := iv_V_eq (I := (((17, 1), .aload_n 0, 0, 0, 0) : iv_I)) rfl
theorem e110_10 : iv_V call mc_110 rt 10 L st w = iv_V call mc_110 rt 11 L (.int 10 :: st) w := (iv_V_eq (I := (((18, 2), .bipush 10, 0, 0, 0) : iv_I)) rfl).trans (congrArg (fun c => iv_V call mc_110 rt 11 L (.int c :: st) w) li_b10)
theorem e110_11 : iv_V call mc_110 rt 11 L st w = iv_V call mc_110 rt 12 L (.int 14 :: st) w := (iv_V_eq (I := (((20, 2), .bipush 14, 0, 0, 0) : iv_I)) rfl).trans (congrArg (fun c => iv_V call mc_110 rt 12 L (.int c :: st) w) li_b14)
theorem e110_12 : iv_V call mc_110 rt 12 L st w = iv_p2 st fun n m st' => iv_nm w 103 100 (.int 0) n m fun v w' => iv_V call mc_110 rt 13 L (v :: st') w' := iv_V_eq (I := (((22, 4), .multianewarray 19 2, 103, 100, 188) : iv_I)) rfl
theorem e110_13 : iv_V call mc_110 rt 13 L st w = iv_pf w st 11 2 fun st' w' => iv_V call mc_110 rt 14 L (st') w' := iv_V_eq (I := (((26, 3), .putfield 21, 11, 2, 193) : iv_I)) rfl
theorem e110_14 : iv_V call mc_110 rt 14 L st w = iv_lda L 0 fun x => iv_V call mc_110 rt 15 L (x :: st) w := iv_V_eq (I := (((29, 1), .aload_n 0, 0, 0, 0) : iv_I)) rfl
theorem e110_15 : iv_V call mc_110 rt 15 L st w = iv_V call mc_110 rt 16 L (.int 10 :: st) w := (iv_V_eq (I := (((30, 2), .bipush 10, 0, 0, 0) : iv_I)) rfl).trans (congrArg (fun c => iv_V call mc_110 rt 16 L (.int c :: st) w) li_b10)
theorem e110_16 : iv_V call mc_110 rt 16 L st w = iv_V call mc_110 rt 17 L (.int 42 :: st) w := (iv_V_eq (I := (((32, 2), .bipush 42, 0, 0, 0) : iv_I)) rfl).trans (congrArg (fun c => iv_V call mc_110 rt 17 L (.int c :: st) w) li_b42)
theorem e110_17 : iv_V call mc_110 rt 17 L st w = iv_p2 st fun n m st' => iv_nm w 103 100 (.int 0) n m fun v w' => iv_V call mc_110 rt 18 L (v :: st') w' := iv_V_eq (I := (((34, 4), .multianewarray 19 2, 103, 100, 188) : iv_I)) rfl
theorem e110_18 : iv_V call mc_110 rt 18 L st w = iv_pf w st 11 3 fun st' w' => iv_V call mc_110 rt 19 L (st') w' := iv_V_eq (I := (((38, 3), .putfield 24, 11, 3, 196) : iv_I)) rfl
theorem e110_19 : iv_V call mc_110 rt 19 L st w = iv_rev rt st w := iv_V_eq (I := (((41, 1), .return_, 0, 0, 0) : iv_I)) rfl
theorem e111_0 : iv_V call mc_111 rt 0 L st w = iv_ldi L 1 fun x => iv_V call mc_111 rt 1 L (.int x :: st) w := iv_V_eq (I := (((0, 1), .iload_n 1, 0, 0, 0) : iv_I)) rfl
theorem e111_1 : iv_V call mc_111 rt 1 L st w = iv_p1 st fun x st' => if x < 0 then iv_V call mc_111 rt 8 L (st') w else iv_V call mc_111 rt 2 L (st') w := (iv_V_eq (I := (((1, 3), .ifCond .lt 15, 8, 0, 0) : iv_I)) rfl).trans (by simp only [iv_go, iv_cnd, decide_eq_true_eq])
theorem e111_2 : iv_V call mc_111 rt 2 L st w = iv_ldi L 1 fun x => iv_V call mc_111 rt 3 L (.int x :: st) w := iv_V_eq (I := (((4, 1), .iload_n 1, 0, 0, 0) : iv_I)) rfl
theorem e111_3 : iv_V call mc_111 rt 3 L st w = iv_lda L 0 fun x => iv_V call mc_111 rt 4 L (x :: st) w := iv_V_eq (I := (((5, 1), .aload_n 0, 0, 0, 0) : iv_I)) rfl
theorem e111_4 : iv_V call mc_111 rt 4 L st w = iv_gf w st 11 0 fun v st' => iv_V call mc_111 rt 5 L (v :: st') w := iv_V_eq (I := (((6, 3), .getfield 9, 11, 0, 189) : iv_I)) rfl
theorem e111_5 : iv_V call mc_111 rt 5 L st w = iv_p2 st fun x y st' => if y ≤ x then iv_V call mc_111 rt 8 L (st') w else iv_V call mc_111 rt 6 L (st') w := (iv_V_eq (I := (((9, 3), .if_icmp .ge 7, 8, 0, 0) : iv_I)) rfl).trans (by simp only [iv_go, iv_cnd, decide_eq_true_eq])
theorem e111_6 : iv_V call mc_111 rt 6 L st w = iv_V call mc_111 rt 7 L (.int 1 :: st) w := (iv_V_eq (I := (((12, 1), .iconst 1, 0, 0, 0) : iv_I)) rfl).trans (congrArg (fun c => iv_V call mc_111 rt 7 L (.int c :: st) w) li_o1)
theorem e111_7 : iv_V call mc_111 rt 7 L st w = iv_V call mc_111 rt 9 L (st) w := iv_V_eq (I := (((13, 3), .goto 4, 9, 0, 0) : iv_I)) rfl
theorem e111_8 : iv_V call mc_111 rt 8 L st w = iv_V call mc_111 rt 9 L (.int 0 :: st) w := (iv_V_eq (I := (((16, 1), .iconst 0, 0, 0, 0) : iv_I)) rfl).trans (congrArg (fun c => iv_V call mc_111 rt 9 L (.int c :: st) w) li_o0)
theorem e111_9 : iv_V call mc_111 rt 9 L st w = iv_ret rt st w := iv_V_eq (I := (((17, 1), .ireturn, 0, 0, 0) : iv_I)) rfl
theorem e112_0 : iv_V call mc_112 rt 0 L st w = iv_V call mc_112 rt 1 L (.int 0 :: st) w := (iv_V_eq (I := (((0, 1), .iconst 0, 0, 0, 0) : iv_I)) rfl).trans (congrArg (fun c => iv_V call mc_112 rt 1 L (.int c :: st) w) li_o0)
theorem e112_1 : iv_V call mc_112 rt 1 L st w = iv_p1 st fun x st' => iv_sto L 3 (.int x) fun L' => iv_V call mc_112 rt 2 L' (st') w := iv_V_eq (I := (((1, 1), .istore_n 3, 0, 0, 0) : iv_I)) rfl
theorem e112_2 : iv_V call mc_112 rt 2 L st w = iv_ldi L 3 fun x => iv_V call mc_112 rt 3 L (.int x :: st) w := iv_V_eq (I := (((2, 1), .iload_n 3, 0, 0, 0) : iv_I)) rfl
theorem e112_3 : iv_V call mc_112 rt 3 L st w = iv_V call mc_112 rt 4 L (.int 10 :: st) w := (iv_V_eq (I := (((3, 2), .bipush 10, 0, 0, 0) : iv_I)) rfl).trans (congrArg (fun c => iv_V call mc_112 rt 4 L (.int c :: st) w) li_b10)
theorem e112_4 : iv_V call mc_112 rt 4 L st w = iv_p2 st fun x y st' => if y ≤ x then iv_V call mc_112 rt 14 L (st') w else iv_V call mc_112 rt 5 L (st') w := (iv_V_eq (I := (((5, 3), .if_icmp .ge 18, 14, 0, 0) : iv_I)) rfl).trans (by simp only [iv_go, iv_cnd, decide_eq_true_eq])
theorem e112_5 : iv_V call mc_112 rt 5 L st w = iv_lda L 0 fun x => iv_V call mc_112 rt 6 L (x :: st) w := iv_V_eq (I := (((8, 1), .aload_n 0, 0, 0, 0) : iv_I)) rfl
theorem e112_6 : iv_V call mc_112 rt 6 L st w = iv_gf w st 11 2 fun v st' => iv_V call mc_112 rt 7 L (v :: st') w := iv_V_eq (I := (((9, 3), .getfield 21, 11, 2, 193) : iv_I)) rfl
theorem e112_7 : iv_V call mc_112 rt 7 L st w = iv_ldi L 3 fun x => iv_V call mc_112 rt 8 L (.int x :: st) w := iv_V_eq (I := (((12, 1), .iload_n 3, 0, 0, 0) : iv_I)) rfl
theorem e112_8 : iv_V call mc_112 rt 8 L st w = iv_ald w st iv_isA fun v st' => iv_V call mc_112 rt 9 L (v :: st') w := iv_V_eq (I := (((13, 1), .aaload, 0, 0, 0) : iv_I)) rfl
theorem e112_9 : iv_V call mc_112 rt 9 L st w = iv_ldi L 1 fun x => iv_V call mc_112 rt 10 L (.int x :: st) w := iv_V_eq (I := (((14, 1), .iload_n 1, 0, 0, 0) : iv_I)) rfl
theorem e112_10 : iv_V call mc_112 rt 10 L st w = iv_ldi L 2 fun x => iv_V call mc_112 rt 11 L (.int x :: st) w := iv_V_eq (I := (((15, 1), .iload_n 2, 0, 0, 0) : iv_I)) rfl
theorem e112_11 : iv_V call mc_112 rt 11 L st w = iv_ast w st iv_isI fun st' w' => iv_V call mc_112 rt 12 L (st') w' := iv_V_eq (I := (((16, 1), .iastore, 0, 0, 0) : iv_I)) rfl
theorem e112_12 : iv_V call mc_112 rt 12 L st w = iv_ldi L 3 fun x => iv_sto L 3 (.int (x + 1)) fun L' => iv_V call mc_112 rt 13 L' (st) w := (iv_V_eq (I := (((17, 3), .iinc 3 1, 0, 0, 0) : iv_I)) rfl).trans (congrArg (fun c => iv_ldi L 3 fun x => iv_sto L 3 (.int (x + c)) fun L' => iv_V call mc_112 rt 13 L' (st) w) li_o1)
theorem e112_13 : iv_V call mc_112 rt 13 L st w = iv_V call mc_112 rt 2 L (st) w := iv_V_eq (I := (((20, 3), .goto (-18), 2, 0, 0) : iv_I)) rfl
theorem e112_14 : iv_V call mc_112 rt 14 L st w = iv_rev rt st w := iv_V_eq (I := (((23, 1), .return_, 0, 0, 0) : iv_I)) rfl
theorem e113_0 : iv_V call mc_113 rt 0 L st w = iv_lda L 0 fun x => iv_V call mc_113 rt 1 L (x :: st) w := iv_V_eq (I := (((0, 1), .aload_n 0, 0, 0, 0) : iv_I)) rfl
theorem e113_1 : iv_V call mc_113 rt 1 L st w = iv_gf w st 11 0 fun v st' => iv_V call mc_113 rt 2 L (v :: st') w := iv_V_eq (I := (((1, 3), .getfield 9, 11, 0, 189) : iv_I)) rfl
theorem e113_2 : iv_V call mc_113 rt 2 L st w = iv_V call mc_113 rt 3 L (.int 10 :: st) w := (iv_V_eq (I := (((4, 2), .bipush 10, 0, 0, 0) : iv_I)) rfl).trans (congrArg (fun c => iv_V call mc_113 rt 3 L (.int c :: st) w) li_b10)
theorem e113_3 : iv_V call mc_113 rt 3 L st w = iv_p2 st fun x y st' => if x < y then iv_V call mc_113 rt 6 L (st') w else iv_V call mc_113 rt 4 L (st') w := (iv_V_eq (I := (((6, 3), .if_icmp .lt 5, 6, 0, 0) : iv_I)) rfl).trans (by simp only [iv_go, iv_cnd, decide_eq_true_eq])
theorem e113_4 : iv_V call mc_113 rt 4 L st w = iv_V call mc_113 rt 5 L (.int (-1) :: st) w := (iv_V_eq (I := (((9, 1), .iconst (-1), 0, 0, 0) : iv_I)) rfl).trans (congrArg (fun c => iv_V call mc_113 rt 5 L (.int c :: st) w) li_om1)
theorem e113_5 : iv_V call mc_113 rt 5 L st w = iv_ret rt st w := iv_V_eq (I := (((10, 1), .ireturn, 0, 0, 0) : iv_I)) rfl
theorem e113_6 : iv_V call mc_113 rt 6 L st w = iv_lda L 0 fun x => iv_V call mc_113 rt 7 L (x :: st) w := iv_V_eq (I := (((11, 1), .aload_n 0, 0, 0, 0) : iv_I)) rfl
theorem e113_7 : iv_V call mc_113 rt 7 L st w = iv_gf w st 11 1 fun v st' => iv_V call mc_113 rt 8 L (v :: st') w := iv_V_eq (I := (((12, 3), .getfield 15, 11, 1, 190) : iv_I)) rfl
theorem e113_8 : iv_V call mc_113 rt 8 L st w = iv_lda L 0 fun x => iv_V call mc_113 rt 9 L (x :: st) w := iv_V_eq (I := (((15, 1), .aload_n 0, 0, 0, 0) : iv_I)) rfl
theorem e113_9 : iv_V call mc_113 rt 9 L st w = iv_gf w st 11 0 fun v st' => iv_V call mc_113 rt 10 L (v :: st') w := iv_V_eq (I := (((16, 3), .getfield 9, 11, 0, 189) : iv_I)) rfl
theorem e113_10 : iv_V call mc_113 rt 10 L st w = iv_ldi L 1 fun x => iv_V call mc_113 rt 11 L (.int x :: st) w := iv_V_eq (I := (((19, 1), .iload_n 1, 0, 0, 0) : iv_I)) rfl
theorem e113_11 : iv_V call mc_113 rt 11 L st w = iv_ast w st iv_isI fun st' w' => iv_V call mc_113 rt 12 L (st') w' := iv_V_eq (I := (((20, 1), .iastore, 0, 0, 0) : iv_I)) rfl
theorem e113_12 : iv_V call mc_113 rt 12 L st w = iv_lda L 0 fun x => iv_V call mc_113 rt 13 L (x :: st) w := iv_V_eq (I := (((21, 1), .aload_n 0, 0, 0, 0) : iv_I)) rfl
theorem e113_13 : iv_V call mc_113 rt 13 L st w = iv_d1 st fun a st' => iv_V call mc_113 rt 14 L (a :: a :: st') w := iv_V_eq (I := (((22, 1), .dup, 0, 0, 0) : iv_I)) rfl
theorem e113_14 : iv_V call mc_113 rt 14 L st w = iv_gf w st 11 0 fun v st' => iv_V call mc_113 rt 15 L (v :: st') w := iv_V_eq (I := (((23, 3), .getfield 9, 11, 0, 189) : iv_I)) rfl
theorem e113_15 : iv_V call mc_113 rt 15 L st w = iv_V call mc_113 rt 16 L (.int 1 :: st) w := (iv_V_eq (I := (((26, 1), .iconst 1, 0, 0, 0) : iv_I)) rfl).trans (congrArg (fun c => iv_V call mc_113 rt 16 L (.int c :: st) w) li_o1)
theorem e113_16 : iv_V call mc_113 rt 16 L st w = iv_p2 st fun x y st' => iv_V call mc_113 rt 17 L (.int (x + y) :: st') w := iv_V_eq (I := (((27, 1), .iadd, 0, 0, 0) : iv_I)) rfl
theorem e113_17 : iv_V call mc_113 rt 17 L st w = iv_pf w st 11 0 fun st' w' => iv_V call mc_113 rt 18 L (st') w' := iv_V_eq (I := (((28, 3), .putfield 9, 11, 0, 189) : iv_I)) rfl
theorem e113_18 : iv_V call mc_113 rt 18 L st w = iv_lda L 0 fun x => iv_V call mc_113 rt 19 L (x :: st) w := iv_V_eq (I := (((31, 1), .aload_n 0, 0, 0, 0) : iv_I)) rfl
theorem e113_19 : iv_V call mc_113 rt 19 L st w = iv_gf w st 11 0 fun v st' => iv_V call mc_113 rt 20 L (v :: st') w := iv_V_eq (I := (((32, 3), .getfield 9, 11, 0, 189) : iv_I)) rfl
theorem e113_20 : iv_V call mc_113 rt 20 L st w = iv_V call mc_113 rt 21 L (.int 1 :: st) w := (iv_V_eq (I := (((35, 1), .iconst 1, 0, 0, 0) : iv_I)) rfl).trans (congrArg (fun c => iv_V call mc_113 rt 21 L (.int c :: st) w) li_o1)
theorem e113_21 : iv_V call mc_113 rt 21 L st w = iv_p2 st fun x y st' => iv_V call mc_113 rt 22 L (.int (x - y) :: st') w := iv_V_eq (I := (((36, 1), .isub, 0, 0, 0) : iv_I)) rfl
theorem e113_22 : iv_V call mc_113 rt 22 L st w = iv_ret rt st w := iv_V_eq (I := (((37, 1), .ireturn, 0, 0, 0) : iv_I)) rfl
theorem e114_0 : iv_V call mc_114 rt 0 L st w = iv_lda L 0 fun x => iv_V call mc_114 rt 1 L (x :: st) w := iv_V_eq (I := (((0, 1), .aload_n 0, 0, 0, 0) : iv_I)) rfl
theorem e114_1 : iv_V call mc_114 rt 1 L st w = iv_gf w st 11 2 fun v st' => iv_V call mc_114 rt 2 L (v :: st') w := iv_V_eq (I := (((1, 3), .getfield 21, 11, 2, 193) : iv_I)) rfl
theorem e114_2 : iv_V call mc_114 rt 2 L st w = iv_ldi L 1 fun x => iv_V call mc_114 rt 3 L (.int x :: st) w := iv_V_eq (I := (((4, 1), .iload_n 1, 0, 0, 0) : iv_I)) rfl
theorem e114_3 : iv_V call mc_114 rt 3 L st w = iv_ald w st iv_isA fun v st' => iv_V call mc_114 rt 4 L (v :: st') w := iv_V_eq (I := (((5, 1), .aaload, 0, 0, 0) : iv_I)) rfl
theorem e114_4 : iv_V call mc_114 rt 4 L st w = iv_ldi L 2 fun x => iv_V call mc_114 rt 5 L (.int x :: st) w := iv_V_eq (I := (((6, 1), .iload_n 2, 0, 0, 0) : iv_I)) rfl
theorem e114_5 : iv_V call mc_114 rt 5 L st w = iv_ald w st iv_isI fun v st' => iv_V call mc_114 rt 6 L (v :: st') w := iv_V_eq (I := (((7, 1), .iaload, 0, 0, 0) : iv_I)) rfl
theorem e114_6 : iv_V call mc_114 rt 6 L st w = iv_V call mc_114 rt 7 L (.int (-1) :: st) w := (iv_V_eq (I := (((8, 1), .iconst (-1), 0, 0, 0) : iv_I)) rfl).trans (congrArg (fun c => iv_V call mc_114 rt 7 L (.int c :: st) w) li_om1)
theorem e114_7 : iv_V call mc_114 rt 7 L st w = iv_p2 st fun x y st' => if ¬ x = y then iv_V call mc_114 rt 10 L (st') w else iv_V call mc_114 rt 8 L (st') w := (iv_V_eq (I := (((9, 3), .if_icmp .ne 7, 10, 0, 0) : iv_I)) rfl).trans (by simp only [iv_go, iv_cnd, decide_eq_true_eq])
theorem e114_8 : iv_V call mc_114 rt 8 L st w = iv_V call mc_114 rt 9 L (.int 0 :: st) w := (iv_V_eq (I := (((12, 1), .iconst 0, 0, 0, 0) : iv_I)) rfl).trans (congrArg (fun c => iv_V call mc_114 rt 9 L (.int c :: st) w) li_o0)
theorem e114_9 : iv_V call mc_114 rt 9 L st w = iv_V call mc_114 rt 16 L (st) w := iv_V_eq (I := (((13, 3), .goto 11, 16, 0, 0) : iv_I)) rfl
theorem e114_10 : iv_V call mc_114 rt 10 L st w = iv_lda L 0 fun x => iv_V call mc_114 rt 11 L (x :: st) w := iv_V_eq (I := (((16, 1), .aload_n 0, 0, 0, 0) : iv_I)) rfl
theorem e114_11 : iv_V call mc_114 rt 11 L st w = iv_gf w st 11 2 fun v st' => iv_V call mc_114 rt 12 L (v :: st') w := iv_V_eq (I := (((17, 3), .getfield 21, 11, 2, 193) : iv_I)) rfl
theorem e114_12 : iv_V call mc_114 rt 12 L st w = iv_ldi L 1 fun x => iv_V call mc_114 rt 13 L (.int x :: st) w := iv_V_eq (I := (((20, 1), .iload_n 1, 0, 0, 0) : iv_I)) rfl
theorem e114_13 : iv_V call mc_114 rt 13 L st w = iv_ald w st iv_isA fun v st' => iv_V call mc_114 rt 14 L (v :: st') w := iv_V_eq (I := (((21, 1), .aaload, 0, 0, 0) : iv_I)) rfl
theorem e114_14 : iv_V call mc_114 rt 14 L st w = iv_ldi L 2 fun x => iv_V call mc_114 rt 15 L (.int x :: st) w := iv_V_eq (I := (((22, 1), .iload_n 2, 0, 0, 0) : iv_I)) rfl
theorem e114_15 : iv_V call mc_114 rt 15 L st w = iv_ald w st iv_isI fun v st' => iv_V call mc_114 rt 16 L (v :: st') w := iv_V_eq (I := (((23, 1), .iaload, 0, 0, 0) : iv_I)) rfl
theorem e114_16 : iv_V call mc_114 rt 16 L st w = iv_p1 st fun x st' => iv_sto L 4 (.int x) fun L' => iv_V call mc_114 rt 17 L' (st') w := iv_V_eq (I := (((24, 2), .istore 4, 0, 0, 0) : iv_I)) rfl
theorem e114_17 : iv_V call mc_114 rt 17 L st w = iv_ldi L 4 fun x => iv_V call mc_114 rt 18 L (.int x :: st) w := iv_V_eq (I := (((26, 2), .iload 4, 0, 0, 0) : iv_I)) rfl
theorem e114_18 : iv_V call mc_114 rt 18 L st w = iv_V call mc_114 rt 19 L (.int 3 :: st) w := (iv_V_eq (I := (((28, 1), .iconst 3, 0, 0, 0) : iv_I)) rfl).trans (congrArg (fun c => iv_V call mc_114 rt 19 L (.int c :: st) w) li_o3)
theorem e114_19 : iv_V call mc_114 rt 19 L st w = iv_p2 st fun x y st' => if x < y then iv_V call mc_114 rt 22 L (st') w else iv_V call mc_114 rt 20 L (st') w := (iv_V_eq (I := (((29, 3), .if_icmp .lt 5, 22, 0, 0) : iv_I)) rfl).trans (by simp only [iv_go, iv_cnd, decide_eq_true_eq])
theorem e114_20 : iv_V call mc_114 rt 20 L st w = iv_V call mc_114 rt 21 L (.int 0 :: st) w := (iv_V_eq (I := (((32, 1), .iconst 0, 0, 0, 0) : iv_I)) rfl).trans (congrArg (fun c => iv_V call mc_114 rt 21 L (.int c :: st) w) li_o0)
theorem e114_21 : iv_V call mc_114 rt 21 L st w = iv_ret rt st w := iv_V_eq (I := (((33, 1), .ireturn, 0, 0, 0) : iv_I)) rfl
theorem e114_22 : iv_V call mc_114 rt 22 L st w = iv_lda L 0 fun x => iv_V call mc_114 rt 23 L (x :: st) w := iv_V_eq (I := (((34, 1), .aload_n 0, 0, 0, 0) : iv_I)) rfl
theorem e114_23 : iv_V call mc_114 rt 23 L st w = iv_gf w st 11 3 fun v st' => iv_V call mc_114 rt 24 L (v :: st') w := iv_V_eq (I := (((35, 3), .getfield 24, 11, 3, 196) : iv_I)) rfl
theorem e114_24 : iv_V call mc_114 rt 24 L st w = iv_ldi L 1 fun x => iv_V call mc_114 rt 25 L (.int x :: st) w := iv_V_eq (I := (((38, 1), .iload_n 1, 0, 0, 0) : iv_I)) rfl
theorem e114_25 : iv_V call mc_114 rt 25 L st w = iv_ald w st iv_isA fun v st' => iv_V call mc_114 rt 26 L (v :: st') w := iv_V_eq (I := (((39, 1), .aaload, 0, 0, 0) : iv_I)) rfl
theorem e114_26 : iv_V call mc_114 rt 26 L st w = iv_ldi L 2 fun x => iv_V call mc_114 rt 27 L (.int x :: st) w := iv_V_eq (I := (((40, 1), .iload_n 2, 0, 0, 0) : iv_I)) rfl
theorem e114_27 : iv_V call mc_114 rt 27 L st w = iv_V call mc_114 rt 28 L (.int 3 :: st) w := (iv_V_eq (I := (((41, 1), .iconst 3, 0, 0, 0) : iv_I)) rfl).trans (congrArg (fun c => iv_V call mc_114 rt 28 L (.int c :: st) w) li_o3)
theorem e114_28 : iv_V call mc_114 rt 28 L st w = iv_p2 st fun x y st' => iv_V call mc_114 rt 29 L (.int (x * y) :: st') w := iv_V_eq (I := (((42, 1), .imul, 0, 0, 0) : iv_I)) rfl
theorem e114_29 : iv_V call mc_114 rt 29 L st w = iv_ldi L 4 fun x => iv_V call mc_114 rt 30 L (.int x :: st) w := iv_V_eq (I := (((43, 2), .iload 4, 0, 0, 0) : iv_I)) rfl
theorem e114_30 : iv_V call mc_114 rt 30 L st w = iv_p2 st fun x y st' => iv_V call mc_114 rt 31 L (.int (x + y) :: st') w := iv_V_eq (I := (((45, 1), .iadd, 0, 0, 0) : iv_I)) rfl
theorem e114_31 : iv_V call mc_114 rt 31 L st w = iv_ldi L 3 fun x => iv_V call mc_114 rt 32 L (.int x :: st) w := iv_V_eq (I := (((46, 1), .iload_n 3, 0, 0, 0) : iv_I)) rfl
theorem e114_32 : iv_V call mc_114 rt 32 L st w = iv_ast w st iv_isI fun st' w' => iv_V call mc_114 rt 33 L (st') w' := iv_V_eq (I := (((47, 1), .iastore, 0, 0, 0) : iv_I)) rfl
theorem e114_33 : iv_V call mc_114 rt 33 L st w = iv_lda L 0 fun x => iv_V call mc_114 rt 34 L (x :: st) w := iv_V_eq (I := (((48, 1), .aload_n 0, 0, 0, 0) : iv_I)) rfl
theorem e114_34 : iv_V call mc_114 rt 34 L st w = iv_gf w st 11 2 fun v st' => iv_V call mc_114 rt 35 L (v :: st') w := iv_V_eq (I := (((49, 3), .getfield 21, 11, 2, 193) : iv_I)) rfl
theorem e114_35 : iv_V call mc_114 rt 35 L st w = iv_ldi L 1 fun x => iv_V call mc_114 rt 36 L (.int x :: st) w := iv_V_eq (I := (((52, 1), .iload_n 1, 0, 0, 0) : iv_I)) rfl
theorem e114_36 : iv_V call mc_114 rt 36 L st w = iv_ald w st iv_isA fun v st' => iv_V call mc_114 rt 37 L (v :: st') w := iv_V_eq (I := (((53, 1), .aaload, 0, 0, 0) : iv_I)) rfl
theorem e114_37 : iv_V call mc_114 rt 37 L st w = iv_ldi L 2 fun x => iv_V call mc_114 rt 38 L (.int x :: st) w := iv_V_eq (I := (((54, 1), .iload_n 2, 0, 0, 0) : iv_I)) rfl
theorem e114_38 : iv_V call mc_114 rt 38 L st w = iv_ldi L 4 fun x => iv_V call mc_114 rt 39 L (.int x :: st) w := iv_V_eq (I := (((55, 2), .iload 4, 0, 0, 0) : iv_I)) rfl
theorem e114_39 : iv_V call mc_114 rt 39 L st w = iv_V call mc_114 rt 40 L (.int 1 :: st) w := (iv_V_eq (I := (((57, 1), .iconst 1, 0, 0, 0) : iv_I)) rfl).trans (congrArg (fun c => iv_V call mc_114 rt 40 L (.int c :: st) w) li_o1)
theorem e114_40 : iv_V call mc_114 rt 40 L st w = iv_p2 st fun x y st' => iv_V call mc_114 rt 41 L (.int (x + y) :: st') w := iv_V_eq (I := (((58, 1), .iadd, 0, 0, 0) : iv_I)) rfl
theorem e114_41 : iv_V call mc_114 rt 41 L st w = iv_ast w st iv_isI fun st' w' => iv_V call mc_114 rt 42 L (st') w' := iv_V_eq (I := (((59, 1), .iastore, 0, 0, 0) : iv_I)) rfl
theorem e114_42 : iv_V call mc_114 rt 42 L st w = iv_V call mc_114 rt 43 L (.int 1 :: st) w := (iv_V_eq (I := (((60, 1), .iconst 1, 0, 0, 0) : iv_I)) rfl).trans (congrArg (fun c => iv_V call mc_114 rt 43 L (.int c :: st) w) li_o1)
theorem e114_43 : iv_V call mc_114 rt 43 L st w = iv_ret rt st w := iv_V_eq (I := (((61, 1), .ireturn, 0, 0, 0) : iv_I)) rfl
theorem e115_0 : iv_V call mc_115 rt 0 L st w = iv_lda L 0 fun x => iv_V call mc_115 rt 1 L (x :: st) w := iv_V_eq (I := (((0, 1), .aload_n 0, 0, 0, 0) : iv_I)) rfl
theorem e115_1 : iv_V call mc_115 rt 1 L st w = iv_gf w st 11 3 fun v st' => iv_V call mc_115 rt 2 L (v :: st') w := iv_V_eq (I := (((1, 3), .getfield 24, 11, 3, 196) : iv_I)) rfl
theorem e115_2 : iv_V call mc_115 rt 2 L st w = iv_ldi L 1 fun x => iv_V call mc_115 rt 3 L (.int x :: st) w := iv_V_eq (I := (((4, 1), .iload_n 1, 0, 0, 0) : iv_I)) rfl
theorem e115_3 : iv_V call mc_115 rt 3 L st w = iv_ald w st iv_isA fun v st' => iv_V call mc_115 rt 4 L (v :: st') w := iv_V_eq (I := (((5, 1), .aaload, 0, 0, 0) : iv_I)) rfl
theorem e115_4 : iv_V call mc_115 rt 4 L st w = iv_ldi L 2 fun x => iv_V call mc_115 rt 5 L (.int x :: st) w := iv_V_eq (I := (((6, 1), .iload_n 2, 0, 0, 0) : iv_I)) rfl
theorem e115_5 : iv_V call mc_115 rt 5 L st w = iv_V call mc_115 rt 6 L (.int 3 :: st) w := (iv_V_eq (I := (((7, 1), .iconst 3, 0, 0, 0) : iv_I)) rfl).trans (congrArg (fun c => iv_V call mc_115 rt 6 L (.int c :: st) w) li_o3)
theorem e115_6 : iv_V call mc_115 rt 6 L st w = iv_p2 st fun x y st' => iv_V call mc_115 rt 7 L (.int (x * y) :: st') w := iv_V_eq (I := (((8, 1), .imul, 0, 0, 0) : iv_I)) rfl
theorem e115_7 : iv_V call mc_115 rt 7 L st w = iv_ldi L 3 fun x => iv_V call mc_115 rt 8 L (.int x :: st) w := iv_V_eq (I := (((9, 1), .iload_n 3, 0, 0, 0) : iv_I)) rfl
theorem e115_8 : iv_V call mc_115 rt 8 L st w = iv_p2 st fun x y st' => iv_V call mc_115 rt 9 L (.int (x + y) :: st') w := iv_V_eq (I := (((10, 1), .iadd, 0, 0, 0) : iv_I)) rfl
theorem e115_9 : iv_V call mc_115 rt 9 L st w = iv_ald w st iv_isI fun v st' => iv_V call mc_115 rt 10 L (v :: st') w := iv_V_eq (I := (((11, 1), .iaload, 0, 0, 0) : iv_I)) rfl
theorem e115_10 : iv_V call mc_115 rt 10 L st w = iv_ret rt st w := iv_V_eq (I := (((12, 1), .ireturn, 0, 0, 0) : iv_I)) rfl
end IVS6
