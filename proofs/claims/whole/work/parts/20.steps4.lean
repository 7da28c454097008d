/-! what each row does -/
section IVS4
variable {call : Nat → List Value → iv_S → iv_R} {rt : Option FieldType} {L st : List Value} {w : iv_S}
theorem e53_0 : iv_V call mc_53 rt 0 L st w = iv_V call mc_53 rt 1 L (.int 0 :: st) w := (iv_V_eq (I := (((0, 1), .iconst 0, 0, 0, 0) : iv_I)) rfl).trans (congrArg (fun c => iv_V call mc_53 rt 1 L (.int c :: st) w) li_o0)
theorem e53_1 : iv_V call mc_53 rt 1 L st w = iv_p1 st fun x st' => iv_sto L 3 (.int x) fun L' => iv_V call mc_53 rt 2 L' (st') w := iv_V_eq (I := (((1, 1), .istore_n 3, 0, 0, 0) : iv_I)) rfl
theorem e53_2 : iv_V call mc_53 rt 2 L st w = iv_V call mc_53 rt 3 L (.int 0 :: st) w := (iv_V_eq (I := (((2, 1), .iconst 0, 0, 0, 0) : iv_I)) rfl).trans (congrArg (fun c => iv_V call mc_53 rt 3 L (.int c :: st) w) li_o0)
theorem e53_3 : iv_V call mc_53 rt 3 L st w = iv_p1 st fun x st' => iv_sto L 4 (.int x) fun L' => iv_V call mc_53 rt 4 L' (st') w := iv_V_eq (I := (((3, 2), .istore 4, 0, 0, 0) : iv_I)) rfl
theorem e53_4 : iv_V call mc_53 rt 4 L st w = iv_ldi L 4 fun x => iv_V call mc_53 rt 5 L (.int x :: st) w := iv_V_eq (I := (((5, 2), .iload 4, 0, 0, 0) : iv_I)) rfl
theorem e53_5 : iv_V call mc_53 rt 5 L st w = iv_lda L 0 fun x => iv_V call mc_53 rt 6 L (x :: st) w := iv_V_eq (I := (((7, 1), .aload_n 0, 0, 0, 0) : iv_I)) rfl
theorem e53_6 : iv_V call mc_53 rt 6 L st w = iv_gf w st 1 20 fun v st' => iv_V call mc_53 rt 7 L (v :: st') w := iv_V_eq (I := (((8, 3), .getfield 62, 1, 20, 619) : iv_I)) rfl
theorem e53_7 : iv_V call mc_53 rt 7 L st w = iv_ldi L 1 fun x => iv_V call mc_53 rt 8 L (.int x :: st) w := iv_V_eq (I := (((11, 1), .iload_n 1, 0, 0, 0) : iv_I)) rfl
theorem e53_8 : iv_V call mc_53 rt 8 L st w = iv_V call mc_53 rt 9 L (.int 6 :: st) w := (iv_V_eq (I := (((12, 2), .bipush 6, 0, 0, 0) : iv_I)) rfl).trans (congrArg (fun c => iv_V call mc_53 rt 9 L (.int c :: st) w) li_b6)
theorem e53_9 : iv_V call mc_53 rt 9 L st w = iv_p2 st fun x y st' => iv_V call mc_53 rt 10 L (.int (x - y) :: st') w := iv_V_eq (I := (((14, 1), .isub, 0, 0, 0) : iv_I)) rfl
theorem e53_10 : iv_V call mc_53 rt 10 L st w = iv_ald w st iv_isI fun v st' => iv_V call mc_53 rt 11 L (v :: st') w := iv_V_eq (I := (((15, 1), .iaload, 0, 0, 0) : iv_I)) rfl
theorem e53_11 : iv_V call mc_53 rt 11 L st w = iv_p2 st fun x y st' => if y ≤ x then iv_V call mc_53 rt 32 L (st') w else iv_V call mc_53 rt 12 L (st') w := (iv_V_eq (I := (((16, 3), .if_icmp .ge 37, 32, 0, 0) : iv_I)) rfl).trans (by simp only [iv_go, iv_cnd, decide_eq_true_eq])
theorem e53_12 : iv_V call mc_53 rt 12 L st w = iv_ldi L 3 fun x => iv_V call mc_53 rt 13 L (.int x :: st) w := iv_V_eq (I := (((19, 1), .iload_n 3, 0, 0, 0) : iv_I)) rfl
theorem e53_13 : iv_V call mc_53 rt 13 L st w = iv_p1 st fun x st' => if ¬ x = 0 then iv_V call mc_53 rt 26 L (st') w else iv_V call mc_53 rt 14 L (st') w := (iv_V_eq (I := (((20, 3), .ifCond .ne 21, 26, 0, 0) : iv_I)) rfl).trans (by simp only [iv_go, iv_cnd, decide_eq_true_eq])
theorem e53_14 : iv_V call mc_53 rt 14 L st w = iv_lda L 0 fun x => iv_V call mc_53 rt 15 L (x :: st) w := iv_V_eq (I := (((23, 1), .aload_n 0, 0, 0, 0) : iv_I)) rfl
theorem e53_15 : iv_V call mc_53 rt 15 L st w = iv_gf w st 1 21 fun v st' => iv_V call mc_53 rt 16 L (v :: st') w := iv_V_eq (I := (((24, 3), .getfield 65, 1, 21, 620) : iv_I)) rfl
theorem e53_16 : iv_V call mc_53 rt 16 L st w = iv_V call mc_53 rt 17 L (.int 4 :: st) w := (iv_V_eq (I := (((27, 1), .iconst 4, 0, 0, 0) : iv_I)) rfl).trans (congrArg (fun c => iv_V call mc_53 rt 17 L (.int c :: st) w) li_o4)
theorem e53_17 : iv_V call mc_53 rt 17 L st w = iv_ldi L 1 fun x => iv_V call mc_53 rt 18 L (.int x :: st) w := iv_V_eq (I := (((28, 1), .iload_n 1, 0, 0, 0) : iv_I)) rfl
theorem e53_18 : iv_V call mc_53 rt 18 L st w = iv_V call mc_53 rt 19 L (.int 6 :: st) w := (iv_V_eq (I := (((29, 2), .bipush 6, 0, 0, 0) : iv_I)) rfl).trans (congrArg (fun c => iv_V call mc_53 rt 19 L (.int c :: st) w) li_b6)
theorem e53_19 : iv_V call mc_53 rt 19 L st w = iv_p2 st fun x y st' => iv_V call mc_53 rt 20 L (.int (x - y) :: st') w := iv_V_eq (I := (((31, 1), .isub, 0, 0, 0) : iv_I)) rfl
theorem e53_20 : iv_V call mc_53 rt 20 L st w = iv_p2 st fun x y st' => iv_V call mc_53 rt 21 L (.int (x * y) :: st') w := iv_V_eq (I := (((32, 1), .imul, 0, 0, 0) : iv_I)) rfl
theorem e53_21 : iv_V call mc_53 rt 21 L st w = iv_ldi L 4 fun x => iv_V call mc_53 rt 22 L (.int x :: st) w := iv_V_eq (I := (((33, 2), .iload 4, 0, 0, 0) : iv_I)) rfl
theorem e53_22 : iv_V call mc_53 rt 22 L st w = iv_p2 st fun x y st' => iv_V call mc_53 rt 23 L (.int (x + y) :: st') w := iv_V_eq (I := (((35, 1), .iadd, 0, 0, 0) : iv_I)) rfl
theorem e53_23 : iv_V call mc_53 rt 23 L st w = iv_ald w st iv_isI fun v st' => iv_V call mc_53 rt 24 L (v :: st') w := iv_V_eq (I := (((36, 1), .iaload, 0, 0, 0) : iv_I)) rfl
theorem e53_24 : iv_V call mc_53 rt 24 L st w = iv_ldi L 2 fun x => iv_V call mc_53 rt 25 L (.int x :: st) w := iv_V_eq (I := (((37, 1), .iload_n 2, 0, 0, 0) : iv_I)) rfl
theorem e53_25 : iv_V call mc_53 rt 25 L st w = iv_p2 st fun x y st' => if ¬ x = y then iv_V call mc_53 rt 28 L (st') w else iv_V call mc_53 rt 26 L (st') w := (iv_V_eq (I := (((38, 3), .if_icmp .ne 7, 28, 0, 0) : iv_I)) rfl).trans (by simp only [iv_go, iv_cnd, decide_eq_true_eq])
theorem e53_26 : iv_V call mc_53 rt 26 L st w = iv_V call mc_53 rt 27 L (.int 1 :: st) w := (iv_V_eq (I := (((41, 1), .iconst 1, 0, 0, 0) : iv_I)) rfl).trans (congrArg (fun c => iv_V call mc_53 rt 27 L (.int c :: st) w) li_o1)
theorem e53_27 : iv_V call mc_53 rt 27 L st w = iv_V call mc_53 rt 29 L (st) w := iv_V_eq (I := (((42, 3), .goto 4, 29, 0, 0) : iv_I)) rfl
theorem e53_28 : iv_V call mc_53 rt 28 L st w = iv_V call mc_53 rt 29 L (.int 0 :: st) w := (iv_V_eq (I := (((45, 1), .iconst 0, 0, 0, 0) : iv_I)) rfl).trans (congrArg (fun c => iv_V call mc_53 rt 29 L (.int c :: st) w) li_o0)
theorem e53_29 : iv_V call mc_53 rt 29 L st w = iv_p1 st fun x st' => iv_sto L 3 (.int x) fun L' => iv_V call mc_53 rt 30 L' (st') w := iv_V_eq (I := (((46, 1), .istore_n 3, 0, 0, 0) : iv_I)) rfl
theorem e53_30 : iv_V call mc_53 rt 30 L st w = iv_ldi L 4 fun x => iv_sto L 4 (.int (x + 1)) fun L' => iv_V call mc_53 rt 31 L' (st) w := (iv_V_eq (I := (((47, 3), .iinc 4 1, 0, 0, 0) : iv_I)) rfl).trans (congrArg (fun c => iv_ldi L 4 fun x => iv_sto L 4 (.int (x + c)) fun L' => iv_V call mc_53 rt 31 L' (st) w) li_o1)
theorem e53_31 : iv_V call mc_53 rt 31 L st w = iv_V call mc_53 rt 4 L (st) w := iv_V_eq (I := (((50, 3), .goto (-45), 4, 0, 0) : iv_I)) rfl
theorem e53_32 : iv_V call mc_53 rt 32 L st w = iv_ldi L 3 fun x => iv_V call mc_53 rt 33 L (.int x :: st) w := iv_V_eq (I := (((53, 1), .iload_n 3, 0, 0, 0) : iv_I)) rfl
theorem e53_33 : iv_V call mc_53 rt 33 L st w = iv_ret rt st w := iv_V_eq (I := (((54, 1), .ireturn, 0, 0, 0) : iv_I)) rfl
theorem e54_0 : iv_V call mc_54 rt 0 L st w = iv_V call mc_54 rt 1 L (.int 13 :: st) w := (iv_V_eq (I := (((0, 2), .bipush 13, 0, 0, 0) : iv_I)) rfl).trans (congrArg (fun c => iv_V call mc_54 rt 1 L (.int c :: st) w) li_b13)
theorem e54_1 : iv_V call mc_54 rt 1 L st w = iv_ldi L 1 fun x => iv_V call mc_54 rt 2 L (.int x :: st) w := iv_V_eq (I := (((2, 1), .iload_n 1, 0, 0, 0) : iv_I)) rfl
theorem e54_2 : iv_V call mc_54 rt 2 L st w = iv_p2 st fun x y st' => iv_V call mc_54 rt 3 L (.int (x - y) :: st') w := iv_V_eq (I := (((3, 1), .isub, 0, 0, 0) : iv_I)) rfl
theorem e54_3 : iv_V call mc_54 rt 3 L st w = iv_p1 st fun x st' => iv_sto L 2 (.int x) fun L' => iv_V call mc_54 rt 4 L' (st') w := iv_V_eq (I := (((4, 1), .istore_n 2, 0, 0, 0) : iv_I)) rfl
theorem e54_4 : iv_V call mc_54 rt 4 L st w = iv_lda L 0 fun x => iv_V call mc_54 rt 5 L (x :: st) w := iv_V_eq (I := (((5, 1), .aload_n 0, 0, 0, 0) : iv_I)) rfl
theorem e54_5 : iv_V call mc_54 rt 5 L st w = iv_ldi L 1 fun x => iv_V call mc_54 rt 6 L (.int x :: st) w := iv_V_eq (I := (((6, 1), .iload_n 1, 0, 0, 0) : iv_I)) rfl
theorem e54_6 : iv_V call mc_54 rt 6 L st w = iv_ldi L 1 fun x => iv_V call mc_54 rt 7 L (.int x :: st) w := iv_V_eq (I := (((7, 1), .iload_n 1, 0, 0, 0) : iv_I)) rfl
theorem e54_7 : iv_V call mc_54 rt 7 L st w = iv_inv call 53 3 (fun as => iv_rc w as (iv_mc 53)) st w fun st' w' => iv_V call mc_54 rt 8 L (st') w' := iv_V_eq (I := (((8, 3), .invokevirtual 202, 53, 3, 819) : iv_I)) rfl
theorem e54_8 : iv_V call mc_54 rt 8 L st w = iv_p1 st fun x st' => if ¬ x = 0 then iv_V call mc_54 rt 24 L (st') w else iv_V call mc_54 rt 9 L (st') w := (iv_V_eq (I := (((11, 3), .ifCond .ne 30, 24, 0, 0) : iv_I)) rfl).trans (by simp only [iv_go, iv_cnd, decide_eq_true_eq])
theorem e54_9 : iv_V call mc_54 rt 9 L st w = iv_lda L 0 fun x => iv_V call mc_54 rt 10 L (x :: st) w := iv_V_eq (I := (((14, 1), .aload_n 0, 0, 0, 0) : iv_I)) rfl
theorem e54_10 : iv_V call mc_54 rt 10 L st w = iv_ldi L 1 fun x => iv_V call mc_54 rt 11 L (.int x :: st) w := iv_V_eq (I := (((15, 1), .iload_n 1, 0, 0, 0) : iv_I)) rfl
theorem e54_11 : iv_V call mc_54 rt 11 L st w = iv_ldi L 2 fun x => iv_V call mc_54 rt 12 L (.int x :: st) w := iv_V_eq (I := (((16, 1), .iload_n 2, 0, 0, 0) : iv_I)) rfl
theorem e54_12 : iv_V call mc_54 rt 12 L st w = iv_inv call 53 3 (fun as => iv_rc w as (iv_mc 53)) st w fun st' w' => iv_V call mc_54 rt 13 L (st') w' := iv_V_eq (I := (((17, 3), .invokevirtual 202, 53, 3, 819) : iv_I)) rfl
theorem e54_13 : iv_V call mc_54 rt 13 L st w = iv_p1 st fun x st' => if x = 0 then iv_V call mc_54 rt 26 L (st') w else iv_V call mc_54 rt 14 L (st') w := (iv_V_eq (I := (((20, 3), .ifCond .eq 25, 26, 0, 0) : iv_I)) rfl).trans (by simp only [iv_go, iv_cnd, decide_eq_true_eq])
theorem e54_14 : iv_V call mc_54 rt 14 L st w = iv_lda L 0 fun x => iv_V call mc_54 rt 15 L (x :: st) w := iv_V_eq (I := (((23, 1), .aload_n 0, 0, 0, 0) : iv_I)) rfl
theorem e54_15 : iv_V call mc_54 rt 15 L st w = iv_ldi L 2 fun x => iv_V call mc_54 rt 16 L (.int x :: st) w := iv_V_eq (I := (((24, 1), .iload_n 2, 0, 0, 0) : iv_I)) rfl
theorem e54_16 : iv_V call mc_54 rt 16 L st w = iv_ldi L 2 fun x => iv_V call mc_54 rt 17 L (.int x :: st) w := iv_V_eq (I := (((25, 1), .iload_n 2, 0, 0, 0) : iv_I)) rfl
theorem e54_17 : iv_V call mc_54 rt 17 L st w = iv_inv call 53 3 (fun as => iv_rc w as (iv_mc 53)) st w fun st' w' => iv_V call mc_54 rt 18 L (st') w' := iv_V_eq (I := (((26, 3), .invokevirtual 202, 53, 3, 819) : iv_I)) rfl
theorem e54_18 : iv_V call mc_54 rt 18 L st w = iv_p1 st fun x st' => if ¬ x = 0 then iv_V call mc_54 rt 24 L (st') w else iv_V call mc_54 rt 19 L (st') w := (iv_V_eq (I := (((29, 3), .ifCond .ne 12, 24, 0, 0) : iv_I)) rfl).trans (by simp only [iv_go, iv_cnd, decide_eq_true_eq])
theorem e54_19 : iv_V call mc_54 rt 19 L st w = iv_lda L 0 fun x => iv_V call mc_54 rt 20 L (x :: st) w := iv_V_eq (I := (((32, 1), .aload_n 0, 0, 0, 0) : iv_I)) rfl
theorem e54_20 : iv_V call mc_54 rt 20 L st w = iv_ldi L 2 fun x => iv_V call mc_54 rt 21 L (.int x :: st) w := iv_V_eq (I := (((33, 1), .iload_n 2, 0, 0, 0) : iv_I)) rfl
theorem e54_21 : iv_V call mc_54 rt 21 L st w = iv_ldi L 1 fun x => iv_V call mc_54 rt 22 L (.int x :: st) w := iv_V_eq (I := (((34, 1), .iload_n 1, 0, 0, 0) : iv_I)) rfl
theorem e54_22 : iv_V call mc_54 rt 22 L st w = iv_inv call 53 3 (fun as => iv_rc w as (iv_mc 53)) st w fun st' w' => iv_V call mc_54 rt 23 L (st') w' := iv_V_eq (I := (((35, 3), .invokevirtual 202, 53, 3, 819) : iv_I)) rfl
theorem e54_23 : iv_V call mc_54 rt 23 L st w = iv_p1 st fun x st' => if x = 0 then iv_V call mc_54 rt 26 L (st') w else iv_V call mc_54 rt 24 L (st') w := (iv_V_eq (I := (((38, 3), .ifCond .eq 7, 26, 0, 0) : iv_I)) rfl).trans (by simp only [iv_go, iv_cnd, decide_eq_true_eq])
theorem e54_24 : iv_V call mc_54 rt 24 L st w = iv_V call mc_54 rt 25 L (.int 1 :: st) w := (iv_V_eq (I := (((41, 1), .iconst 1, 0, 0, 0) : iv_I)) rfl).trans (congrArg (fun c => iv_V call mc_54 rt 25 L (.int c :: st) w) li_o1)
theorem e54_25 : iv_V call mc_54 rt 25 L st w = iv_V call mc_54 rt 27 L (st) w := iv_V_eq (I := (((42, 3), .goto 4, 27, 0, 0) : iv_I)) rfl
theorem e54_26 : iv_V call mc_54 rt 26 L st w = iv_V call mc_54 rt 27 L (.int 0 :: st) w := (iv_V_eq (I := (((45, 1), .iconst 0, 0, 0, 0) : iv_I)) rfl).trans (congrArg (fun c => iv_V call mc_54 rt 27 L (.int c :: st) w) li_o0)
theorem e54_27 : iv_V call mc_54 rt 27 L st w = iv_ret rt st w := iv_V_eq (I := (((46, 1), .ireturn, 0, 0, 0) : iv_I)) rfl
theorem e55_0 : iv_V call mc_55 rt 0 L st w = iv_lda L 0 fun x => iv_V call mc_55 rt 1 L (x :: st) w := iv_V_eq (I := (((0, 1), .aload_n 0, 0, 0, 0) : iv_I)) rfl
theorem e55_1 : iv_V call mc_55 rt 1 L st w = iv_gf w st 1 40 fun v st' => iv_V call mc_55 rt 2 L (v :: st') w := iv_V_eq (I := (((1, 3), .getfield 113, 1, 40, 639) : iv_I)) rfl
theorem e55_2 : iv_V call mc_55 rt 2 L st w = iv_V call mc_55 rt 3 L (.int 0 :: st) w := (iv_V_eq (I := (((4, 1), .iconst 0, 0, 0, 0) : iv_I)) rfl).trans (congrArg (fun c => iv_V call mc_55 rt 3 L (.int c :: st) w) li_o0)
theorem e55_3 : iv_V call mc_55 rt 3 L st w = iv_ldi L 1 fun x => iv_V call mc_55 rt 4 L (.int x :: st) w := iv_V_eq (I := (((5, 1), .iload_n 1, 0, 0, 0) : iv_I)) rfl
theorem e55_4 : iv_V call mc_55 rt 4 L st w = iv_ast w st iv_isI fun st' w' => iv_V call mc_55 rt 5 L (st') w' := iv_V_eq (I := (((6, 1), .iastore, 0, 0, 0) : iv_I)) rfl
theorem e55_5 : iv_V call mc_55 rt 5 L st w = iv_ldi L 1 fun x => iv_V call mc_55 rt 6 L (.int x :: st) w := iv_V_eq (I := (((7, 1), .iload_n 1, 0, 0, 0) : iv_I)) rfl
theorem e55_6 : iv_V call mc_55 rt 6 L st w = iv_V call mc_55 rt 7 L (.int 6 :: st) w := (iv_V_eq (I := (((8, 2), .bipush 6, 0, 0, 0) : iv_I)) rfl).trans (congrArg (fun c => iv_V call mc_55 rt 7 L (.int c :: st) w) li_b6)
theorem e55_7 : iv_V call mc_55 rt 7 L st w = iv_p2 st fun x y st' => if y ≤ x then iv_V call mc_55 rt 10 L (st') w else iv_V call mc_55 rt 8 L (st') w := (iv_V_eq (I := (((10, 3), .if_icmp .ge 5, 10, 0, 0) : iv_I)) rfl).trans (by simp only [iv_go, iv_cnd, decide_eq_true_eq])
theorem e55_8 : iv_V call mc_55 rt 8 L st w = iv_V call mc_55 rt 9 L (.int 1 :: st) w := (iv_V_eq (I := (((13, 1), .iconst 1, 0, 0, 0) : iv_I)) rfl).trans (congrArg (fun c => iv_V call mc_55 rt 9 L (.int c :: st) w) li_o1)
theorem e55_9 : iv_V call mc_55 rt 9 L st w = iv_ret rt st w := iv_V_eq (I := (((14, 1), .ireturn, 0, 0, 0) : iv_I)) rfl
theorem e55_10 : iv_V call mc_55 rt 10 L st w = iv_V call mc_55 rt 11 L (.int 0 :: st) w := (iv_V_eq (I := (((15, 1), .iconst 0, 0, 0, 0) : iv_I)) rfl).trans (congrArg (fun c => iv_V call mc_55 rt 11 L (.int c :: st) w) li_o0)
theorem e55_11 : iv_V call mc_55 rt 11 L st w = iv_p1 st fun x st' => iv_sto L 2 (.int x) fun L' => iv_V call mc_55 rt 12 L' (st') w := iv_V_eq (I := (((16, 1), .istore_n 2, 0, 0, 0) : iv_I)) rfl
theorem e55_12 : iv_V call mc_55 rt 12 L st w = iv_V call mc_55 rt 13 L (.int 0 :: st) w := (iv_V_eq (I := (((17, 1), .iconst 0, 0, 0, 0) : iv_I)) rfl).trans (congrArg (fun c => iv_V call mc_55 rt 13 L (.int c :: st) w) li_o0)
theorem e55_13 : iv_V call mc_55 rt 13 L st w = iv_p1 st fun x st' => iv_sto L 3 (.int x) fun L' => iv_V call mc_55 rt 14 L' (st') w := iv_V_eq (I := (((18, 1), .istore_n 3, 0, 0, 0) : iv_I)) rfl
theorem e55_14 : iv_V call mc_55 rt 14 L st w = iv_ldi L 3 fun x => iv_V call mc_55 rt 15 L (.int x :: st) w := iv_V_eq (I := (((19, 1), .iload_n 3, 0, 0, 0) : iv_I)) rfl
theorem e55_15 : iv_V call mc_55 rt 15 L st w = iv_lda L 0 fun x => iv_V call mc_55 rt 16 L (x :: st) w := iv_V_eq (I := (((20, 1), .aload_n 0, 0, 0, 0) : iv_I)) rfl
theorem e55_16 : iv_V call mc_55 rt 16 L st w = iv_gf w st 1 20 fun v st' => iv_V call mc_55 rt 17 L (v :: st') w := iv_V_eq (I := (((21, 3), .getfield 62, 1, 20, 619) : iv_I)) rfl
theorem e55_17 : iv_V call mc_55 rt 17 L st w = iv_ldi L 1 fun x => iv_V call mc_55 rt 18 L (.int x :: st) w := iv_V_eq (I := (((24, 1), .iload_n 1, 0, 0, 0) : iv_I)) rfl
theorem e55_18 : iv_V call mc_55 rt 18 L st w = iv_V call mc_55 rt 19 L (.int 6 :: st) w := (iv_V_eq (I := (((25, 2), .bipush 6, 0, 0, 0) : iv_I)) rfl).trans (congrArg (fun c => iv_V call mc_55 rt 19 L (.int c :: st) w) li_b6)
theorem e55_19 : iv_V call mc_55 rt 19 L st w = iv_p2 st fun x y st' => iv_V call mc_55 rt 20 L (.int (x - y) :: st') w := iv_V_eq (I := (((27, 1), .isub, 0, 0, 0) : iv_I)) rfl
theorem e55_20 : iv_V call mc_55 rt 20 L st w = iv_ald w st iv_isI fun v st' => iv_V call mc_55 rt 21 L (v :: st') w := iv_V_eq (I := (((28, 1), .iaload, 0, 0, 0) : iv_I)) rfl
theorem e55_21 : iv_V call mc_55 rt 21 L st w = iv_p2 st fun x y st' => if y ≤ x then iv_V call mc_55 rt 74 L (st') w else iv_V call mc_55 rt 22 L (st') w := (iv_V_eq (I := (((29, 3), .if_icmp .ge 99, 74, 0, 0) : iv_I)) rfl).trans (by simp only [iv_go, iv_cnd, decide_eq_true_eq])
theorem e55_22 : iv_V call mc_55 rt 22 L st w = iv_lda L 0 fun x => iv_V call mc_55 rt 23 L (x :: st) w := iv_V_eq (I := (((32, 1), .aload_n 0, 0, 0, 0) : iv_I)) rfl
theorem e55_23 : iv_V call mc_55 rt 23 L st w = iv_gf w st 1 21 fun v st' => iv_V call mc_55 rt 24 L (v :: st') w := iv_V_eq (I := (((33, 3), .getfield 65, 1, 21, 620) : iv_I)) rfl
theorem e55_24 : iv_V call mc_55 rt 24 L st w = iv_V call mc_55 rt 25 L (.int 4 :: st) w := (iv_V_eq (I := (((36, 1), .iconst 4, 0, 0, 0) : iv_I)) rfl).trans (congrArg (fun c => iv_V call mc_55 rt 25 L (.int c :: st) w) li_o4)
theorem e55_25 : iv_V call mc_55 rt 25 L st w = iv_ldi L 1 fun x => iv_V call mc_55 rt 26 L (.int x :: st) w := iv_V_eq (I := (((37, 1), .iload_n 1, 0, 0, 0) : iv_I)) rfl
theorem e55_26 : iv_V call mc_55 rt 26 L st w = iv_V call mc_55 rt 27 L (.int 6 :: st) w := (iv_V_eq (I := (((38, 2), .bipush 6, 0, 0, 0) : iv_I)) rfl).trans (congrArg (fun c => iv_V call mc_55 rt 27 L (.int c :: st) w) li_b6)
theorem e55_27 : iv_V call mc_55 rt 27 L st w = iv_p2 st fun x y st' => iv_V call mc_55 rt 28 L (.int (x - y) :: st') w := iv_V_eq (I := (((40, 1), .isub, 0, 0, 0) : iv_I)) rfl
theorem e55_28 : iv_V call mc_55 rt 28 L st w = iv_p2 st fun x y st' => iv_V call mc_55 rt 29 L (.int (x * y) :: st') w := iv_V_eq (I := (((41, 1), .imul, 0, 0, 0) : iv_I)) rfl
theorem e55_29 : iv_V call mc_55 rt 29 L st w = iv_ldi L 3 fun x => iv_V call mc_55 rt 30 L (.int x :: st) w := iv_V_eq (I := (((42, 1), .iload_n 3, 0, 0, 0) : iv_I)) rfl
theorem e55_30 : iv_V call mc_55 rt 30 L st w = iv_p2 st fun x y st' => iv_V call mc_55 rt 31 L (.int (x + y) :: st') w := iv_V_eq (I := (((43, 1), .iadd, 0, 0, 0) : iv_I)) rfl
theorem e55_31 : iv_V call mc_55 rt 31 L st w = iv_ald w st iv_isI fun v st' => iv_V call mc_55 rt 32 L (v :: st') w := iv_V_eq (I := (((44, 1), .iaload, 0, 0, 0) : iv_I)) rfl
theorem e55_32 : iv_V call mc_55 rt 32 L st w = iv_p1 st fun x st' => iv_sto L 4 (.int x) fun L' => iv_V call mc_55 rt 33 L' (st') w := iv_V_eq (I := (((45, 2), .istore 4, 0, 0, 0) : iv_I)) rfl
theorem e55_33 : iv_V call mc_55 rt 33 L st w = iv_ldi L 4 fun x => iv_V call mc_55 rt 34 L (.int x :: st) w := iv_V_eq (I := (((47, 2), .iload 4, 0, 0, 0) : iv_I)) rfl
theorem e55_34 : iv_V call mc_55 rt 34 L st w = iv_V call mc_55 rt 35 L (.int 6 :: st) w := (iv_V_eq (I := (((49, 2), .bipush 6, 0, 0, 0) : iv_I)) rfl).trans (congrArg (fun c => iv_V call mc_55 rt 35 L (.int c :: st) w) li_b6)
theorem e55_35 : iv_V call mc_55 rt 35 L st w = iv_p2 st fun x y st' => if y ≤ x then iv_V call mc_55 rt 38 L (st') w else iv_V call mc_55 rt 36 L (st') w := (iv_V_eq (I := (((51, 3), .if_icmp .ge 7, 38, 0, 0) : iv_I)) rfl).trans (by simp only [iv_go, iv_cnd, decide_eq_true_eq])
theorem e55_36 : iv_V call mc_55 rt 36 L st w = iv_V call mc_55 rt 37 L (.int 1 :: st) w := (iv_V_eq (I := (((54, 1), .iconst 1, 0, 0, 0) : iv_I)) rfl).trans (congrArg (fun c => iv_V call mc_55 rt 37 L (.int c :: st) w) li_o1)
theorem e55_37 : iv_V call mc_55 rt 37 L st w = iv_V call mc_55 rt 44 L (st) w := iv_V_eq (I := (((55, 3), .goto 13, 44, 0, 0) : iv_I)) rfl
theorem e55_38 : iv_V call mc_55 rt 38 L st w = iv_lda L 0 fun x => iv_V call mc_55 rt 39 L (x :: st) w := iv_V_eq (I := (((58, 1), .aload_n 0, 0, 0, 0) : iv_I)) rfl
theorem e55_39 : iv_V call mc_55 rt 39 L st w = iv_gf w st 1 20 fun v st' => iv_V call mc_55 rt 40 L (v :: st') w := iv_V_eq (I := (((59, 3), .getfield 62, 1, 20, 619) : iv_I)) rfl
theorem e55_40 : iv_V call mc_55 rt 40 L st w = iv_ldi L 4 fun x => iv_V call mc_55 rt 41 L (.int x :: st) w := iv_V_eq (I := (((62, 2), .iload 4, 0, 0, 0) : iv_I)) rfl
theorem e55_41 : iv_V call mc_55 rt 41 L st w = iv_V call mc_55 rt 42 L (.int 6 :: st) w := (iv_V_eq (I := (((64, 2), .bipush 6, 0, 0, 0) : iv_I)) rfl).trans (congrArg (fun c => iv_V call mc_55 rt 42 L (.int c :: st) w) li_b6)
theorem e55_42 : iv_V call mc_55 rt 42 L st w = iv_p2 st fun x y st' => iv_V call mc_55 rt 43 L (.int (x - y) :: st') w := iv_V_eq (I := (((66, 1), .isub, 0, 0, 0) : iv_I)) rfl
theorem e55_43 : iv_V call mc_55 rt 43 L st w = iv_ald w st iv_isI fun v st' => iv_V call mc_55 rt 44 L (v :: st') w := iv_V_eq (I := (((67, 1), .iaload, 0, 0, 0) : iv_I)) rfl
theorem e55_44 : iv_V call mc_55 rt 44 L st w = iv_p1 st fun x st' => iv_sto L 5 (.int x) fun L' => iv_V call mc_55 rt 45 L' (st') w := iv_V_eq (I := (((68, 2), .istore 5, 0, 0, 0) : iv_I)) rfl
theorem e55_45 : iv_V call mc_55 rt 45 L st w = iv_V call mc_55 rt 46 L (.int 0 :: st) w := (iv_V_eq (I := (((70, 1), .iconst 0, 0, 0, 0) : iv_I)) rfl).trans (congrArg (fun c => iv_V call mc_55 rt 46 L (.int c :: st) w) li_o0)
theorem e55_46 : iv_V call mc_55 rt 46 L st w = iv_p1 st fun x st' => iv_sto L 6 (.int x) fun L' => iv_V call mc_55 rt 47 L' (st') w := iv_V_eq (I := (((71, 2), .istore 6, 0, 0, 0) : iv_I)) rfl
theorem e55_47 : iv_V call mc_55 rt 47 L st w = iv_ldi L 6 fun x => iv_V call mc_55 rt 48 L (.int x :: st) w := iv_V_eq (I := (((73, 2), .iload 6, 0, 0, 0) : iv_I)) rfl
theorem e55_48 : iv_V call mc_55 rt 48 L st w = iv_ldi L 5 fun x => iv_V call mc_55 rt 49 L (.int x :: st) w := iv_V_eq (I := (((75, 2), .iload 5, 0, 0, 0) : iv_I)) rfl
theorem e55_49 : iv_V call mc_55 rt 49 L st w = iv_p2 st fun x y st' => if y ≤ x then iv_V call mc_55 rt 72 L (st') w else iv_V call mc_55 rt 50 L (st') w := (iv_V_eq (I := (((77, 3), .if_icmp .ge 45, 72, 0, 0) : iv_I)) rfl).trans (by simp only [iv_go, iv_cnd, decide_eq_true_eq])
theorem e55_50 : iv_V call mc_55 rt 50 L st w = iv_lda L 0 fun x => iv_V call mc_55 rt 51 L (x :: st) w := iv_V_eq (I := (((80, 1), .aload_n 0, 0, 0, 0) : iv_I)) rfl
theorem e55_51 : iv_V call mc_55 rt 51 L st w = iv_gf w st 1 40 fun v st' => iv_V call mc_55 rt 52 L (v :: st') w := iv_V_eq (I := (((81, 3), .getfield 113, 1, 40, 639) : iv_I)) rfl
theorem e55_52 : iv_V call mc_55 rt 52 L st w = iv_ldi L 2 fun x => iv_V call mc_55 rt 53 L (.int x :: st) w := iv_V_eq (I := (((84, 1), .iload_n 2, 0, 0, 0) : iv_I)) rfl
theorem e55_53 : iv_V call mc_55 rt 53 L st w = iv_ldi L 4 fun x => iv_V call mc_55 rt 54 L (.int x :: st) w := iv_V_eq (I := (((85, 2), .iload 4, 0, 0, 0) : iv_I)) rfl
theorem e55_54 : iv_V call mc_55 rt 54 L st w = iv_V call mc_55 rt 55 L (.int 6 :: st) w := (iv_V_eq (I := (((87, 2), .bipush 6, 0, 0, 0) : iv_I)) rfl).trans (congrArg (fun c => iv_V call mc_55 rt 55 L (.int c :: st) w) li_b6)
theorem e55_55 : iv_V call mc_55 rt 55 L st w = iv_p2 st fun x y st' => if y ≤ x then iv_V call mc_55 rt 58 L (st') w else iv_V call mc_55 rt 56 L (st') w := (iv_V_eq (I := (((89, 3), .if_icmp .ge 8, 58, 0, 0) : iv_I)) rfl).trans (by simp only [iv_go, iv_cnd, decide_eq_true_eq])
theorem e55_56 : iv_V call mc_55 rt 56 L st w = iv_ldi L 4 fun x => iv_V call mc_55 rt 57 L (.int x :: st) w := iv_V_eq (I := (((92, 2), .iload 4, 0, 0, 0) : iv_I)) rfl
theorem e55_57 : iv_V call mc_55 rt 57 L st w = iv_V call mc_55 rt 68 L (st) w := iv_V_eq (I := (((94, 3), .goto 18, 68, 0, 0) : iv_I)) rfl
theorem e55_58 : iv_V call mc_55 rt 58 L st w = iv_lda L 0 fun x => iv_V call mc_55 rt 59 L (x :: st) w := iv_V_eq (I := (((97, 1), .aload_n 0, 0, 0, 0) : iv_I)) rfl
theorem e55_59 : iv_V call mc_55 rt 59 L st w = iv_gf w st 1 21 fun v st' => iv_V call mc_55 rt 60 L (v :: st') w := iv_V_eq (I := (((98, 3), .getfield 65, 1, 21, 620) : iv_I)) rfl
theorem e55_60 : iv_V call mc_55 rt 60 L st w = iv_V call mc_55 rt 61 L (.int 4 :: st) w := (iv_V_eq (I := (((101, 1), .iconst 4, 0, 0, 0) : iv_I)) rfl).trans (congrArg (fun c => iv_V call mc_55 rt 61 L (.int c :: st) w) li_o4)
theorem e55_61 : iv_V call mc_55 rt 61 L st w = iv_ldi L 4 fun x => iv_V call mc_55 rt 62 L (.int x :: st) w := iv_V_eq (I := (((102, 2), .iload 4, 0, 0, 0) : iv_I)) rfl
theorem e55_62 : iv_V call mc_55 rt 62 L st w = iv_V call mc_55 rt 63 L (.int 6 :: st) w := (iv_V_eq (I := (((104, 2), .bipush 6, 0, 0, 0) : iv_I)) rfl).trans (congrArg (fun c => iv_V call mc_55 rt 63 L (.int c :: st) w) li_b6)
theorem e55_63 : iv_V call mc_55 rt 63 L st w = iv_p2 st fun x y st' => iv_V call mc_55 rt 64 L (.int (x - y) :: st') w := iv_V_eq (I := (((106, 1), .isub, 0, 0, 0) : iv_I)) rfl
theorem e55_64 : iv_V call mc_55 rt 64 L st w = iv_p2 st fun x y st' => iv_V call mc_55 rt 65 L (.int (x * y) :: st') w := iv_V_eq (I := (((107, 1), .imul, 0, 0, 0) : iv_I)) rfl
theorem e55_65 : iv_V call mc_55 rt 65 L st w = iv_ldi L 6 fun x => iv_V call mc_55 rt 66 L (.int x :: st) w := iv_V_eq (I := (((108, 2), .iload 6, 0, 0, 0) : iv_I)) rfl
theorem e55_66 : iv_V call mc_55 rt 66 L st w = iv_p2 st fun x y st' => iv_V call mc_55 rt 67 L (.int (x + y) :: st') w := iv_V_eq (I := (((110, 1), .iadd, 0, 0, 0) : iv_I)) rfl
theorem e55_67 : iv_V call mc_55 rt 67 L st w = iv_ald w st iv_isI fun v st' => iv_V call mc_55 rt 68 L (v :: st') w := iv_V_eq (I := (((111, 1), .iaload, 0, 0, 0) : iv_I)) rfl
theorem e55_68 : iv_V call mc_55 rt 68 L st w = iv_ast w st iv_isI fun st' w' => iv_V call mc_55 rt 69 L (st') w' := iv_V_eq (I := (((112, 1), .iastore, 0, 0, 0) : iv_I)) rfl
theorem e55_69 : iv_V call mc_55 rt 69 L st w = iv_ldi L 2 fun x => iv_sto L 2 (.int (x + 1)) fun L' => iv_V call mc_55 rt 70 L' (st) w := (iv_V_eq (I := (((113, 3), .iinc 2 1, 0, 0, 0) : iv_I)) rfl).trans (congrArg (fun c => iv_ldi L 2 fun x => iv_sto L 2 (.int (x + c)) fun L' => iv_V call mc_55 rt 70 L' (st) w) li_o1)
theorem e55_70 : iv_V call mc_55 rt 70 L st w = iv_ldi L 6 fun x => iv_sto L 6 (.int (x + 1)) fun L' => iv_V call mc_55 rt 71 L' (st) w := (iv_V_eq (I := (((116, 3), .iinc 6 1, 0, 0, 0) : iv_I)) rfl).trans (congrArg (fun c => iv_ldi L 6 fun x => iv_sto L 6 (.int (x + c)) fun L' => iv_V call mc_55 rt 71 L' (st) w) li_o1)
theorem e55_71 : iv_V call mc_55 rt 71 L st w = iv_V call mc_55 rt 47 L (st) w := iv_V_eq (I := (((119, 3), .goto (-46), 47, 0, 0) : iv_I)) rfl
theorem e55_72 : iv_V call mc_55 rt 72 L st w = iv_ldi L 3 fun x => iv_sto L 3 (.int (x + 1)) fun L' => iv_V call mc_55 rt 73 L' (st) w := (iv_V_eq (I := (((122, 3), .iinc 3 1, 0, 0, 0) : iv_I)) rfl).trans (congrArg (fun c => iv_ldi L 3 fun x => iv_sto L 3 (.int (x + c)) fun L' => iv_V call mc_55 rt 73 L' (st) w) li_o1)
theorem e55_73 : iv_V call mc_55 rt 73 L st w = iv_V call mc_55 rt 14 L (st) w := iv_V_eq (I := (((125, 3), .goto (-106), 14, 0, 0) : iv_I)) rfl
theorem e55_74 : iv_V call mc_55 rt 74 L st w = iv_ldi L 2 fun x => iv_V call mc_55 rt 75 L (.int x :: st) w := iv_V_eq (I := (((128, 1), .iload_n 2, 0, 0, 0) : iv_I)) rfl
theorem e55_75 : iv_V call mc_55 rt 75 L st w = iv_ret rt st w := iv_V_eq (I := (((129, 1), .ireturn, 0, 0, 0) : iv_I)) rfl
theorem e56_0 : iv_V call mc_56 rt 0 L st w = iv_ldi L 1 fun x => iv_V call mc_56 rt 1 L (.int x :: st) w := iv_V_eq (I := (((0, 1), .iload_n 1, 0, 0, 0) : iv_I)) rfl
theorem e56_1 : iv_V call mc_56 rt 1 L st w = iv_V call mc_56 rt 2 L (.int 0 :: st) w := (iv_V_eq (I := (((1, 1), .iconst 0, 0, 0, 0) : iv_I)) rfl).trans (congrArg (fun c => iv_V call mc_56 rt 2 L (.int c :: st) w) li_o0)
theorem e56_2 : iv_V call mc_56 rt 2 L st w = iv_lda L 0 fun x => iv_V call mc_56 rt 3 L (x :: st) w := iv_V_eq (I := (((2, 1), .aload_n 0, 0, 0, 0) : iv_I)) rfl
theorem e56_3 : iv_V call mc_56 rt 3 L st w = iv_gf w st 1 24 fun v st' => iv_V call mc_56 rt 4 L (v :: st') w := iv_V_eq (I := (((3, 3), .getfield 149, 1, 24, 623) : iv_I)) rfl
theorem e56_4 : iv_V call mc_56 rt 4 L st w = iv_V call mc_56 rt 5 L (.int 1 :: st) w := (iv_V_eq (I := (((6, 1), .iconst 1, 0, 0, 0) : iv_I)) rfl).trans (congrArg (fun c => iv_V call mc_56 rt 5 L (.int c :: st) w) li_o1)
theorem e56_5 : iv_V call mc_56 rt 5 L st w = iv_p2 st fun x y st' => iv_V call mc_56 rt 6 L (.int (x - y) :: st') w := iv_V_eq (I := (((7, 1), .isub, 0, 0, 0) : iv_I)) rfl
theorem e56_6 : iv_V call mc_56 rt 6 L st w = iv_inv call 25 3 (fun _ => true) st w fun st' w' => iv_V call mc_56 rt 7 L (st') w' := iv_V_eq (I := (((8, 3), .invokestatic 135, 25, 3, 748) : iv_I)) rfl
theorem e56_7 : iv_V call mc_56 rt 7 L st w = iv_p1 st fun x st' => if x = 0 then iv_V call mc_56 rt 13 L (st') w else iv_V call mc_56 rt 8 L (st') w := (iv_V_eq (I := (((11, 3), .ifCond .eq 13, 13, 0, 0) : iv_I)) rfl).trans (by simp only [iv_go, iv_cnd, decide_eq_true_eq])
theorem e56_8 : iv_V call mc_56 rt 8 L st w = iv_ldi L 2 fun x => iv_V call mc_56 rt 9 L (.int x :: st) w := iv_V_eq (I := (((14, 1), .iload_n 2, 0, 0, 0) : iv_I)) rfl
theorem e56_9 : iv_V call mc_56 rt 9 L st w = iv_V call mc_56 rt 10 L (.int 0 :: st) w := (iv_V_eq (I := (((15, 1), .iconst 0, 0, 0, 0) : iv_I)) rfl).trans (congrArg (fun c => iv_V call mc_56 rt 10 L (.int c :: st) w) li_o0)
theorem e56_10 : iv_V call mc_56 rt 10 L st w = iv_V call mc_56 rt 11 L (.int 7 :: st) w := (iv_V_eq (I := (((16, 2), .bipush 7, 0, 0, 0) : iv_I)) rfl).trans (congrArg (fun c => iv_V call mc_56 rt 11 L (.int c :: st) w) li_b7)
theorem e56_11 : iv_V call mc_56 rt 11 L st w = iv_inv call 25 3 (fun _ => true) st w fun st' w' => iv_V call mc_56 rt 12 L (st') w' := iv_V_eq (I := (((18, 3), .invokestatic 135, 25, 3, 748) : iv_I)) rfl
theorem e56_12 : iv_V call mc_56 rt 12 L st w = iv_p1 st fun x st' => if ¬ x = 0 then iv_V call mc_56 rt 15 L (st') w else iv_V call mc_56 rt 13 L (st') w := (iv_V_eq (I := (((21, 3), .ifCond .ne 5, 15, 0, 0) : iv_I)) rfl).trans (by simp only [iv_go, iv_cnd, decide_eq_true_eq])
theorem e56_13 : iv_V call mc_56 rt 13 L st w = iv_V call mc_56 rt 14 L (.int (-1) :: st) w := (iv_V_eq (I := (((24, 1), .iconst (-1), 0, 0, 0) : iv_I)) rfl).trans (congrArg (fun c => iv_V call mc_56 rt 14 L (.int c :: st) w) li_om1)
theorem e56_14 : iv_V call mc_56 rt 14 L st w = iv_ret rt st w := iv_V_eq (I := (((25, 1), .ireturn, 0, 0, 0) : iv_I)) rfl
theorem e56_15 : iv_V call mc_56 rt 15 L st w = iv_lda L 0 fun x => iv_V call mc_56 rt 16 L (x :: st) w := iv_V_eq (I := (((26, 1), .aload_n 0, 0, 0, 0) : iv_I)) rfl
theorem e56_16 : iv_V call mc_56 rt 16 L st w = iv_V call mc_56 rt 17 L (.int 0 :: st) w := (iv_V_eq (I := (((27, 1), .iconst 0, 0, 0, 0) : iv_I)) rfl).trans (congrArg (fun c => iv_V call mc_56 rt 17 L (.int c :: st) w) li_o0)
theorem e56_17 : iv_V call mc_56 rt 17 L st w = iv_pf w st 1 41 fun st' w' => iv_V call mc_56 rt 18 L (st') w' := iv_V_eq (I := (((28, 3), .putfield 160, 1, 41, 640) : iv_I)) rfl
theorem e56_18 : iv_V call mc_56 rt 18 L st w = iv_lda L 0 fun x => iv_V call mc_56 rt 19 L (x :: st) w := iv_V_eq (I := (((31, 1), .aload_n 0, 0, 0, 0) : iv_I)) rfl
theorem e56_19 : iv_V call mc_56 rt 19 L st w = iv_V call mc_56 rt 20 L (.int 0 :: st) w := (iv_V_eq (I := (((32, 1), .iconst 0, 0, 0, 0) : iv_I)) rfl).trans (congrArg (fun c => iv_V call mc_56 rt 20 L (.int c :: st) w) li_o0)
theorem e56_20 : iv_V call mc_56 rt 20 L st w = iv_pf w st 1 39 fun st' w' => iv_V call mc_56 rt 21 L (st') w' := iv_V_eq (I := (((33, 3), .putfield 181, 1, 39, 638) : iv_I)) rfl
theorem e56_21 : iv_V call mc_56 rt 21 L st w = iv_ldi L 2 fun x => iv_V call mc_56 rt 22 L (.int x :: st) w := iv_V_eq (I := (((36, 1), .iload_n 2, 0, 0, 0) : iv_I)) rfl
theorem e56_22 : iv_V call mc_56 rt 22 L st w = iv_V call mc_56 rt 23 L (.int 5 :: st) w := (iv_V_eq (I := (((37, 1), .iconst 5, 0, 0, 0) : iv_I)) rfl).trans (congrArg (fun c => iv_V call mc_56 rt 23 L (.int c :: st) w) li_o5)
theorem e56_23 : iv_V call mc_56 rt 23 L st w = iv_p2 st fun x y st' => if x ≤ y then iv_V call mc_56 rt 30 L (st') w else iv_V call mc_56 rt 24 L (st') w := (iv_V_eq (I := (((38, 3), .if_icmp .le 14, 30, 0, 0) : iv_I)) rfl).trans (by simp only [iv_go, iv_cnd, decide_eq_true_eq])
theorem e56_24 : iv_V call mc_56 rt 24 L st w = iv_lda L 0 fun x => iv_V call mc_56 rt 25 L (x :: st) w := iv_V_eq (I := (((41, 1), .aload_n 0, 0, 0, 0) : iv_I)) rfl
theorem e56_25 : iv_V call mc_56 rt 25 L st w = iv_ldi L 2 fun x => iv_V call mc_56 rt 26 L (.int x :: st) w := iv_V_eq (I := (((42, 1), .iload_n 2, 0, 0, 0) : iv_I)) rfl
theorem e56_26 : iv_V call mc_56 rt 26 L st w = iv_inv call 54 2 (fun as => iv_rc w as (iv_mc 54)) st w fun st' w' => iv_V call mc_56 rt 27 L (st') w' := iv_V_eq (I := (((43, 3), .invokevirtual 205, 54, 2, 815) : iv_I)) rfl
theorem e56_27 : iv_V call mc_56 rt 27 L st w = iv_p1 st fun x st' => if x = 0 then iv_V call mc_56 rt 30 L (st') w else iv_V call mc_56 rt 28 L (st') w := (iv_V_eq (I := (((46, 3), .ifCond .eq 6, 30, 0, 0) : iv_I)) rfl).trans (by simp only [iv_go, iv_cnd, decide_eq_true_eq])
theorem e56_28 : iv_V call mc_56 rt 28 L st w = iv_V call mc_56 rt 29 L (.int (-2) :: st) w := (iv_V_eq (I := (((49, 2), .bipush (-2), 0, 0, 0) : iv_I)) rfl).trans (congrArg (fun c => iv_V call mc_56 rt 29 L (.int c :: st) w) li_bm2)
theorem e56_29 : iv_V call mc_56 rt 29 L st w = iv_ret rt st w := iv_V_eq (I := (((51, 1), .ireturn, 0, 0, 0) : iv_I)) rfl
theorem e56_30 : iv_V call mc_56 rt 30 L st w = iv_lda L 0 fun x => iv_V call mc_56 rt 31 L (x :: st) w := iv_V_eq (I := (((52, 1), .aload_n 0, 0, 0, 0) : iv_I)) rfl
theorem e56_31 : iv_V call mc_56 rt 31 L st w = iv_ldi L 2 fun x => iv_V call mc_56 rt 32 L (.int x :: st) w := iv_V_eq (I := (((53, 1), .iload_n 2, 0, 0, 0) : iv_I)) rfl
theorem e56_32 : iv_V call mc_56 rt 32 L st w = iv_inv call 55 2 (fun as => iv_rc w as (iv_mc 55)) st w fun st' w' => iv_V call mc_56 rt 33 L (st') w' := iv_V_eq (I := (((54, 3), .invokevirtual 208, 55, 2, 823) : iv_I)) rfl
theorem e56_33 : iv_V call mc_56 rt 33 L st w = iv_p1 st fun x st' => iv_sto L 3 (.int x) fun L' => iv_V call mc_56 rt 34 L' (st') w := iv_V_eq (I := (((57, 1), .istore_n 3, 0, 0, 0) : iv_I)) rfl
theorem e56_34 : iv_V call mc_56 rt 34 L st w = iv_V call mc_56 rt 35 L (.int 0 :: st) w := (iv_V_eq (I := (((58, 1), .iconst 0, 0, 0, 0) : iv_I)) rfl).trans (congrArg (fun c => iv_V call mc_56 rt 35 L (.int c :: st) w) li_o0)
theorem e56_35 : iv_V call mc_56 rt 35 L st w = iv_p1 st fun x st' => iv_sto L 4 (.int x) fun L' => iv_V call mc_56 rt 36 L' (st') w := iv_V_eq (I := (((59, 2), .istore 4, 0, 0, 0) : iv_I)) rfl
theorem e56_36 : iv_V call mc_56 rt 36 L st w = iv_ldi L 4 fun x => iv_V call mc_56 rt 37 L (.int x :: st) w := iv_V_eq (I := (((61, 2), .iload 4, 0, 0, 0) : iv_I)) rfl
theorem e56_37 : iv_V call mc_56 rt 37 L st w = iv_ldi L 3 fun x => iv_V call mc_56 rt 38 L (.int x :: st) w := iv_V_eq (I := (((63, 1), .iload_n 3, 0, 0, 0) : iv_I)) rfl
theorem e56_38 : iv_V call mc_56 rt 38 L st w = iv_p2 st fun x y st' => if y ≤ x then iv_V call mc_56 rt 59 L (st') w else iv_V call mc_56 rt 39 L (st') w := (iv_V_eq (I := (((64, 3), .if_icmp .ge 43, 59, 0, 0) : iv_I)) rfl).trans (by simp only [iv_go, iv_cnd, decide_eq_true_eq])
theorem e56_39 : iv_V call mc_56 rt 39 L st w = iv_lda L 0 fun x => iv_V call mc_56 rt 40 L (x :: st) w := iv_V_eq (I := (((67, 1), .aload_n 0, 0, 0, 0) : iv_I)) rfl
theorem e56_40 : iv_V call mc_56 rt 40 L st w = iv_gf w st 1 41 fun v st' => iv_V call mc_56 rt 41 L (v :: st') w := iv_V_eq (I := (((68, 3), .getfield 160, 1, 41, 640) : iv_I)) rfl
theorem e56_41 : iv_V call mc_56 rt 41 L st w = iv_p1 st fun x st' => if ¬ x = 0 then iv_V call mc_56 rt 59 L (st') w else iv_V call mc_56 rt 42 L (st') w := (iv_V_eq (I := (((71, 3), .ifCond .ne 36, 59, 0, 0) : iv_I)) rfl).trans (by simp only [iv_go, iv_cnd, decide_eq_true_eq])
theorem e56_42 : iv_V call mc_56 rt 42 L st w = iv_lda L 0 fun x => iv_V call mc_56 rt 43 L (x :: st) w := iv_V_eq (I := (((74, 1), .aload_n 0, 0, 0, 0) : iv_I)) rfl
theorem e56_43 : iv_V call mc_56 rt 43 L st w = iv_ldi L 1 fun x => iv_V call mc_56 rt 44 L (.int x :: st) w := iv_V_eq (I := (((75, 1), .iload_n 1, 0, 0, 0) : iv_I)) rfl
theorem e56_44 : iv_V call mc_56 rt 44 L st w = iv_lda L 0 fun x => iv_V call mc_56 rt 45 L (x :: st) w := iv_V_eq (I := (((76, 1), .aload_n 0, 0, 0, 0) : iv_I)) rfl
theorem e56_45 : iv_V call mc_56 rt 45 L st w = iv_gf w st 1 40 fun v st' => iv_V call mc_56 rt 46 L (v :: st') w := iv_V_eq (I := (((77, 3), .getfield 113, 1, 40, 639) : iv_I)) rfl
theorem e56_46 : iv_V call mc_56 rt 46 L st w = iv_ldi L 4 fun x => iv_V call mc_56 rt 47 L (.int x :: st) w := iv_V_eq (I := (((80, 2), .iload 4, 0, 0, 0) : iv_I)) rfl
theorem e56_47 : iv_V call mc_56 rt 47 L st w = iv_ald w st iv_isI fun v st' => iv_V call mc_56 rt 48 L (v :: st') w := iv_V_eq (I := (((82, 1), .iaload, 0, 0, 0) : iv_I)) rfl
theorem e56_48 : iv_V call mc_56 rt 48 L st w = iv_inv call 52 3 (fun as => iv_rc w as (iv_mc 52)) st w fun st' w' => iv_V call mc_56 rt 49 L (st') w' := iv_V_eq (I := (((83, 3), .invokevirtual 211, 52, 3, 827) : iv_I)) rfl
theorem e56_49 : iv_V call mc_56 rt 49 L st w = iv_p1 st fun x st' => iv_sto L 5 (.int x) fun L' => iv_V call mc_56 rt 50 L' (st') w := iv_V_eq (I := (((86, 2), .istore 5, 0, 0, 0) : iv_I)) rfl
theorem e56_50 : iv_V call mc_56 rt 50 L st w = iv_ldi L 5 fun x => iv_V call mc_56 rt 51 L (.int x :: st) w := iv_V_eq (I := (((88, 2), .iload 5, 0, 0, 0) : iv_I)) rfl
theorem e56_51 : iv_V call mc_56 rt 51 L st w = iv_p1 st fun x st' => if x = 0 then iv_V call mc_56 rt 57 L (st') w else iv_V call mc_56 rt 52 L (st') w := (iv_V_eq (I := (((90, 3), .ifCond .eq 11, 57, 0, 0) : iv_I)) rfl).trans (by simp only [iv_go, iv_cnd, decide_eq_true_eq])
theorem e56_52 : iv_V call mc_56 rt 52 L st w = iv_lda L 0 fun x => iv_V call mc_56 rt 53 L (x :: st) w := iv_V_eq (I := (((93, 1), .aload_n 0, 0, 0, 0) : iv_I)) rfl
theorem e56_53 : iv_V call mc_56 rt 53 L st w = iv_V call mc_56 rt 54 L (.int 0 :: st) w := (iv_V_eq (I := (((94, 1), .iconst 0, 0, 0, 0) : iv_I)) rfl).trans (congrArg (fun c => iv_V call mc_56 rt 54 L (.int c :: st) w) li_o0)
theorem e56_54 : iv_V call mc_56 rt 54 L st w = iv_pf w st 1 41 fun st' w' => iv_V call mc_56 rt 55 L (st') w' := iv_V_eq (I := (((95, 3), .putfield 160, 1, 41, 640) : iv_I)) rfl
theorem e56_55 : iv_V call mc_56 rt 55 L st w = iv_ldi L 5 fun x => iv_V call mc_56 rt 56 L (.int x :: st) w := iv_V_eq (I := (((98, 2), .iload 5, 0, 0, 0) : iv_I)) rfl
theorem e56_56 : iv_V call mc_56 rt 56 L st w = iv_ret rt st w := iv_V_eq (I := (((100, 1), .ireturn, 0, 0, 0) : iv_I)) rfl
theorem e56_57 : iv_V call mc_56 rt 57 L st w = iv_ldi L 4 fun x => iv_sto L 4 (.int (x + 1)) fun L' => iv_V call mc_56 rt 58 L' (st) w := (iv_V_eq (I := (((101, 3), .iinc 4 1, 0, 0, 0) : iv_I)) rfl).trans (congrArg (fun c => iv_ldi L 4 fun x => iv_sto L 4 (.int (x + c)) fun L' => iv_V call mc_56 rt 58 L' (st) w) li_o1)
theorem e56_58 : iv_V call mc_56 rt 58 L st w = iv_V call mc_56 rt 36 L (st) w := iv_V_eq (I := (((104, 3), .goto (-43), 36, 0, 0) : iv_I)) rfl
theorem e56_59 : iv_V call mc_56 rt 59 L st w = iv_lda L 0 fun x => iv_V call mc_56 rt 60 L (x :: st) w := iv_V_eq (I := (((107, 1), .aload_n 0, 0, 0, 0) : iv_I)) rfl
theorem e56_60 : iv_V call mc_56 rt 60 L st w = iv_gf w st 1 41 fun v st' => iv_V call mc_56 rt 61 L (v :: st') w := iv_V_eq (I := (((108, 3), .getfield 160, 1, 41, 640) : iv_I)) rfl
theorem e56_61 : iv_V call mc_56 rt 61 L st w = iv_ret rt st w := iv_V_eq (I := (((111, 1), .ireturn, 0, 0, 0) : iv_I)) rfl
theorem e57_0 : iv_V call mc_57 rt 0 L st w = iv_lda L 0 fun x => iv_V call mc_57 rt 1 L (x :: st) w := iv_V_eq (I := (((0, 1), .aload_n 0, 0, 0, 0) : iv_I)) rfl
theorem e57_1 : iv_V call mc_57 rt 1 L st w = iv_ldi L 1 fun x => iv_V call mc_57 rt 2 L (.int x :: st) w := iv_V_eq (I := (((1, 1), .iload_n 1, 0, 0, 0) : iv_I)) rfl
theorem e57_2 : iv_V call mc_57 rt 2 L st w = iv_ldi L 2 fun x => iv_V call mc_57 rt 3 L (.int x :: st) w := iv_V_eq (I := (((2, 1), .iload_n 2, 0, 0, 0) : iv_I)) rfl
theorem e57_3 : iv_V call mc_57 rt 3 L st w = iv_inv call 38 3 (fun as => iv_rc w as (iv_mc 38)) st w fun st' w' => iv_V call mc_57 rt 4 L (st') w' := iv_V_eq (I := (((3, 3), .invokevirtual 152, 38, 3, 799) : iv_I)) rfl
theorem e57_4 : iv_V call mc_57 rt 4 L st w = iv_p1 st fun x st' => if x = 0 then iv_V call mc_57 rt 10 L (st') w else iv_V call mc_57 rt 5 L (st') w := (iv_V_eq (I := (((6, 3), .ifCond .eq 12, 10, 0, 0) : iv_I)) rfl).trans (by simp only [iv_go, iv_cnd, decide_eq_true_eq])
theorem e57_5 : iv_V call mc_57 rt 5 L st w = iv_ldi L 3 fun x => iv_V call mc_57 rt 6 L (.int x :: st) w := iv_V_eq (I := (((9, 1), .iload_n 3, 0, 0, 0) : iv_I)) rfl
theorem e57_6 : iv_V call mc_57 rt 6 L st w = iv_V call mc_57 rt 7 L (.int 0 :: st) w := (iv_V_eq (I := (((10, 1), .iconst 0, 0, 0, 0) : iv_I)) rfl).trans (congrArg (fun c => iv_V call mc_57 rt 7 L (.int c :: st) w) li_o0)
theorem e57_7 : iv_V call mc_57 rt 7 L st w = iv_V call mc_57 rt 8 L (.int 5 :: st) w := (iv_V_eq (I := (((11, 1), .iconst 5, 0, 0, 0) : iv_I)) rfl).trans (congrArg (fun c => iv_V call mc_57 rt 8 L (.int c :: st) w) li_o5)
theorem e57_8 : iv_V call mc_57 rt 8 L st w = iv_inv call 25 3 (fun _ => true) st w fun st' w' => iv_V call mc_57 rt 9 L (st') w' := iv_V_eq (I := (((12, 3), .invokestatic 135, 25, 3, 748) : iv_I)) rfl
theorem e57_9 : iv_V call mc_57 rt 9 L st w = iv_p1 st fun x st' => if ¬ x = 0 then iv_V call mc_57 rt 12 L (st') w else iv_V call mc_57 rt 10 L (st') w := (iv_V_eq (I := (((15, 3), .ifCond .ne 5, 12, 0, 0) : iv_I)) rfl).trans (by simp only [iv_go, iv_cnd, decide_eq_true_eq])
theorem e57_10 : iv_V call mc_57 rt 10 L st w = iv_V call mc_57 rt 11 L (.int (-1) :: st) w := (iv_V_eq (I := (((18, 1), .iconst (-1), 0, 0, 0) : iv_I)) rfl).trans (congrArg (fun c => iv_V call mc_57 rt 11 L (.int c :: st) w) li_om1)
theorem e57_11 : iv_V call mc_57 rt 11 L st w = iv_ret rt st w := iv_V_eq (I := (((19, 1), .ireturn, 0, 0, 0) : iv_I)) rfl
theorem e57_12 : iv_V call mc_57 rt 12 L st w = iv_lda L 0 fun x => iv_V call mc_57 rt 13 L (x :: st) w := iv_V_eq (I := (((20, 1), .aload_n 0, 0, 0, 0) : iv_I)) rfl
theorem e57_13 : iv_V call mc_57 rt 13 L st w = iv_V call mc_57 rt 14 L (.int 0 :: st) w := (iv_V_eq (I := (((21, 1), .iconst 0, 0, 0, 0) : iv_I)) rfl).trans (congrArg (fun c => iv_V call mc_57 rt 14 L (.int c :: st) w) li_o0)
theorem e57_14 : iv_V call mc_57 rt 14 L st w = iv_pf w st 1 41 fun st' w' => iv_V call mc_57 rt 15 L (st') w' := iv_V_eq (I := (((22, 3), .putfield 160, 1, 41, 640) : iv_I)) rfl
theorem e57_15 : iv_V call mc_57 rt 15 L st w = iv_lda L 0 fun x => iv_V call mc_57 rt 16 L (x :: st) w := iv_V_eq (I := (((25, 1), .aload_n 0, 0, 0, 0) : iv_I)) rfl
theorem e57_16 : iv_V call mc_57 rt 16 L st w = iv_V call mc_57 rt 17 L (.int 0 :: st) w := (iv_V_eq (I := (((26, 1), .iconst 0, 0, 0, 0) : iv_I)) rfl).trans (congrArg (fun c => iv_V call mc_57 rt 17 L (.int c :: st) w) li_o0)
theorem e57_17 : iv_V call mc_57 rt 17 L st w = iv_pf w st 1 28 fun st' w' => iv_V call mc_57 rt 18 L (st') w' := iv_V_eq (I := (((27, 3), .putfield 163, 1, 28, 627) : iv_I)) rfl
theorem e57_18 : iv_V call mc_57 rt 18 L st w = iv_lda L 0 fun x => iv_V call mc_57 rt 19 L (x :: st) w := iv_V_eq (I := (((30, 1), .aload_n 0, 0, 0, 0) : iv_I)) rfl
theorem e57_19 : iv_V call mc_57 rt 19 L st w = iv_ldi L 1 fun x => iv_V call mc_57 rt 20 L (.int x :: st) w := iv_V_eq (I := (((31, 1), .iload_n 1, 0, 0, 0) : iv_I)) rfl
theorem e57_20 : iv_V call mc_57 rt 20 L st w = iv_ldi L 3 fun x => iv_V call mc_57 rt 21 L (.int x :: st) w := iv_V_eq (I := (((32, 1), .iload_n 3, 0, 0, 0) : iv_I)) rfl
theorem e57_21 : iv_V call mc_57 rt 21 L st w = iv_ldi L 2 fun x => iv_V call mc_57 rt 22 L (.int x :: st) w := iv_V_eq (I := (((33, 1), .iload_n 2, 0, 0, 0) : iv_I)) rfl
theorem e57_22 : iv_V call mc_57 rt 22 L st w = iv_inv call 47 4 (fun as => iv_rc w as (iv_mc 47)) st w fun st' w' => iv_V call mc_57 rt 23 L (st') w' := iv_V_eq (I := (((34, 3), .invokevirtual 187, 47, 4, 848) : iv_I)) rfl
theorem e57_23 : iv_V call mc_57 rt 23 L st w = iv_p1 st fun x st' => iv_sto L 4 (.int x) fun L' => iv_V call mc_57 rt 24 L' (st') w := iv_V_eq (I := (((37, 2), .istore 4, 0, 0, 0) : iv_I)) rfl
theorem e57_24 : iv_V call mc_57 rt 24 L st w = iv_lda L 0 fun x => iv_V call mc_57 rt 25 L (x :: st) w := iv_V_eq (I := (((39, 1), .aload_n 0, 0, 0, 0) : iv_I)) rfl
theorem e57_25 : iv_V call mc_57 rt 25 L st w = iv_ldi L 4 fun x => iv_V call mc_57 rt 26 L (.int x :: st) w := iv_V_eq (I := (((40, 2), .iload 4, 0, 0, 0) : iv_I)) rfl
theorem e57_26 : iv_V call mc_57 rt 26 L st w = iv_p1 st fun x st' => if x = 0 then iv_V call mc_57 rt 29 L (st') w else iv_V call mc_57 rt 27 L (st') w := (iv_V_eq (I := (((42, 3), .ifCond .eq 7, 29, 0, 0) : iv_I)) rfl).trans (by simp only [iv_go, iv_cnd, decide_eq_true_eq])
theorem e57_27 : iv_V call mc_57 rt 27 L st w = iv_V call mc_57 rt 28 L (.int 0 :: st) w := (iv_V_eq (I := (((45, 1), .iconst 0, 0, 0, 0) : iv_I)) rfl).trans (congrArg (fun c => iv_V call mc_57 rt 28 L (.int c :: st) w) li_o0)
theorem e57_28 : iv_V call mc_57 rt 28 L st w = iv_V call mc_57 rt 31 L (st) w := iv_V_eq (I := (((46, 3), .goto 7, 31, 0, 0) : iv_I)) rfl
theorem e57_29 : iv_V call mc_57 rt 29 L st w = iv_lda L 0 fun x => iv_V call mc_57 rt 30 L (x :: st) w := iv_V_eq (I := (((49, 1), .aload_n 0, 0, 0, 0) : iv_I)) rfl
theorem e57_30 : iv_V call mc_57 rt 30 L st w = iv_gf w st 1 41 fun v st' => iv_V call mc_57 rt 31 L (v :: st') w := iv_V_eq (I := (((50, 3), .getfield 160, 1, 41, 640) : iv_I)) rfl
theorem e57_31 : iv_V call mc_57 rt 31 L st w = iv_pf w st 1 41 fun st' w' => iv_V call mc_57 rt 32 L (st') w' := iv_V_eq (I := (((53, 3), .putfield 160, 1, 41, 640) : iv_I)) rfl
theorem e57_32 : iv_V call mc_57 rt 32 L st w = iv_ldi L 4 fun x => iv_V call mc_57 rt 33 L (.int x :: st) w := iv_V_eq (I := (((56, 2), .iload 4, 0, 0, 0) : iv_I)) rfl
theorem e57_33 : iv_V call mc_57 rt 33 L st w = iv_p1 st fun x st' => if x = 0 then iv_V call mc_57 rt 36 L (st') w else iv_V call mc_57 rt 34 L (st') w := (iv_V_eq (I := (((58, 3), .ifCond .eq 8, 36, 0, 0) : iv_I)) rfl).trans (by simp only [iv_go, iv_cnd, decide_eq_true_eq])
theorem e57_34 : iv_V call mc_57 rt 34 L st w = iv_ldi L 4 fun x => iv_V call mc_57 rt 35 L (.int x :: st) w := iv_V_eq (I := (((61, 2), .iload 4, 0, 0, 0) : iv_I)) rfl
theorem e57_35 : iv_V call mc_57 rt 35 L st w = iv_V call mc_57 rt 38 L (st) w := iv_V_eq (I := (((63, 3), .goto 7, 38, 0, 0) : iv_I)) rfl
theorem e57_36 : iv_V call mc_57 rt 36 L st w = iv_lda L 0 fun x => iv_V call mc_57 rt 37 L (x :: st) w := iv_V_eq (I := (((66, 1), .aload_n 0, 0, 0, 0) : iv_I)) rfl
theorem e57_37 : iv_V call mc_57 rt 37 L st w = iv_gf w st 1 41 fun v st' => iv_V call mc_57 rt 38 L (v :: st') w := iv_V_eq (I := (((67, 3), .getfield 160, 1, 41, 640) : iv_I)) rfl
theorem e57_38 : iv_V call mc_57 rt 38 L st w = iv_ret rt st w := iv_V_eq (I := (((70, 1), .ireturn, 0, 0, 0) : iv_I)) rfl
theorem e58_0 : iv_V call mc_58 rt 0 L st w = iv_lda L 0 fun x => iv_V call mc_58 rt 1 L (x :: st) w := iv_V_eq (I := (((0, 1), .aload_n 0, 0, 0, 0) : iv_I)) rfl
theorem e58_1 : iv_V call mc_58 rt 1 L st w = iv_gf w st 1 41 fun v st' => iv_V call mc_58 rt 2 L (v :: st') w := iv_V_eq (I := (((1, 3), .getfield 160, 1, 41, 640) : iv_I)) rfl
theorem e58_2 : iv_V call mc_58 rt 2 L st w = iv_ret rt st w := iv_V_eq (I := (((4, 1), .ireturn, 0, 0, 0) : iv_I)) rfl
theorem e59_0 : iv_V call mc_59 rt 0 L st w = iv_lda L 0 fun x => iv_V call mc_59 rt 1 L (x :: st) w := iv_V_eq (I := (((0, 1), .aload_n 0, 0, 0, 0) : iv_I)) rfl
theorem e59_1 : iv_V call mc_59 rt 1 L st w = iv_gf w st 1 39 fun v st' => iv_V call mc_59 rt 2 L (v :: st') w := iv_V_eq (I := (((1, 3), .getfield 181, 1, 39, 638) : iv_I)) rfl
theorem e59_2 : iv_V call mc_59 rt 2 L st w = iv_ret rt st w := iv_V_eq (I := (((4, 1), .ireturn, 0, 0, 0) : iv_I)) rfl
theorem e60_0 : iv_V call mc_60 rt 0 L st w = iv_ldi L 1 fun x => iv_V call mc_60 rt 1 L (.int x :: st) w := iv_V_eq (I := (((0, 1), .iload_n 1, 0, 0, 0) : iv_I)) rfl
theorem e60_1 : iv_V call mc_60 rt 1 L st w = iv_V call mc_60 rt 2 L (.int 0 :: st) w := (iv_V_eq (I := (((1, 1), .iconst 0, 0, 0, 0) : iv_I)) rfl).trans (congrArg (fun c => iv_V call mc_60 rt 2 L (.int c :: st) w) li_o0)
theorem e60_2 : iv_V call mc_60 rt 2 L st w = iv_lda L 0 fun x => iv_V call mc_60 rt 3 L (x :: st) w := iv_V_eq (I := (((2, 1), .aload_n 0, 0, 0, 0) : iv_I)) rfl
theorem e60_3 : iv_V call mc_60 rt 3 L st w = iv_gf w st 1 41 fun v st' => iv_V call mc_60 rt 4 L (v :: st') w := iv_V_eq (I := (((3, 3), .getfield 160, 1, 41, 640) : iv_I)) rfl
theorem e60_4 : iv_V call mc_60 rt 4 L st w = iv_V call mc_60 rt 5 L (.int 1 :: st) w := (iv_V_eq (I := (((6, 1), .iconst 1, 0, 0, 0) : iv_I)) rfl).trans (congrArg (fun c => iv_V call mc_60 rt 5 L (.int c :: st) w) li_o1)
theorem e60_5 : iv_V call mc_60 rt 5 L st w = iv_p2 st fun x y st' => iv_V call mc_60 rt 6 L (.int (x - y) :: st') w := iv_V_eq (I := (((7, 1), .isub, 0, 0, 0) : iv_I)) rfl
theorem e60_6 : iv_V call mc_60 rt 6 L st w = iv_inv call 25 3 (fun _ => true) st w fun st' w' => iv_V call mc_60 rt 7 L (st') w' := iv_V_eq (I := (((8, 3), .invokestatic 135, 25, 3, 748) : iv_I)) rfl
theorem e60_7 : iv_V call mc_60 rt 7 L st w = iv_p1 st fun x st' => if x = 0 then iv_V call mc_60 rt 22 L (st') w else iv_V call mc_60 rt 8 L (st') w := (iv_V_eq (I := (((11, 3), .ifCond .eq 26, 22, 0, 0) : iv_I)) rfl).trans (by simp only [iv_go, iv_cnd, decide_eq_true_eq])
theorem e60_8 : iv_V call mc_60 rt 8 L st w = iv_ldi L 2 fun x => iv_V call mc_60 rt 9 L (.int x :: st) w := iv_V_eq (I := (((14, 1), .iload_n 2, 0, 0, 0) : iv_I)) rfl
theorem e60_9 : iv_V call mc_60 rt 9 L st w = iv_V call mc_60 rt 10 L (.int 0 :: st) w := (iv_V_eq (I := (((15, 1), .iconst 0, 0, 0, 0) : iv_I)) rfl).trans (congrArg (fun c => iv_V call mc_60 rt 10 L (.int c :: st) w) li_o0)
theorem e60_10 : iv_V call mc_60 rt 10 L st w = iv_V call mc_60 rt 11 L (.int 5 :: st) w := (iv_V_eq (I := (((16, 1), .iconst 5, 0, 0, 0) : iv_I)) rfl).trans (congrArg (fun c => iv_V call mc_60 rt 11 L (.int c :: st) w) li_o5)
theorem e60_11 : iv_V call mc_60 rt 11 L st w = iv_inv call 25 3 (fun _ => true) st w fun st' w' => iv_V call mc_60 rt 12 L (st') w' := iv_V_eq (I := (((17, 3), .invokestatic 135, 25, 3, 748) : iv_I)) rfl
theorem e60_12 : iv_V call mc_60 rt 12 L st w = iv_p1 st fun x st' => if x = 0 then iv_V call mc_60 rt 22 L (st') w else iv_V call mc_60 rt 13 L (st') w := (iv_V_eq (I := (((20, 3), .ifCond .eq 17, 22, 0, 0) : iv_I)) rfl).trans (by simp only [iv_go, iv_cnd, decide_eq_true_eq])
theorem e60_13 : iv_V call mc_60 rt 13 L st w = iv_lda L 0 fun x => iv_V call mc_60 rt 14 L (x :: st) w := iv_V_eq (I := (((23, 1), .aload_n 0, 0, 0, 0) : iv_I)) rfl
theorem e60_14 : iv_V call mc_60 rt 14 L st w = iv_gf w st 1 42 fun v st' => iv_V call mc_60 rt 15 L (v :: st') w := iv_V_eq (I := (((24, 3), .getfield 116, 1, 42, 641) : iv_I)) rfl
theorem e60_15 : iv_V call mc_60 rt 15 L st w = iv_V call mc_60 rt 16 L (.int 6 :: st) w := (iv_V_eq (I := (((27, 2), .bipush 6, 0, 0, 0) : iv_I)) rfl).trans (congrArg (fun c => iv_V call mc_60 rt 16 L (.int c :: st) w) li_b6)
theorem e60_16 : iv_V call mc_60 rt 16 L st w = iv_ldi L 1 fun x => iv_V call mc_60 rt 17 L (.int x :: st) w := iv_V_eq (I := (((29, 1), .iload_n 1, 0, 0, 0) : iv_I)) rfl
theorem e60_17 : iv_V call mc_60 rt 17 L st w = iv_p2 st fun x y st' => iv_V call mc_60 rt 18 L (.int (x * y) :: st') w := iv_V_eq (I := (((30, 1), .imul, 0, 0, 0) : iv_I)) rfl
theorem e60_18 : iv_V call mc_60 rt 18 L st w = iv_ldi L 2 fun x => iv_V call mc_60 rt 19 L (.int x :: st) w := iv_V_eq (I := (((31, 1), .iload_n 2, 0, 0, 0) : iv_I)) rfl
theorem e60_19 : iv_V call mc_60 rt 19 L st w = iv_p2 st fun x y st' => iv_V call mc_60 rt 20 L (.int (x + y) :: st') w := iv_V_eq (I := (((32, 1), .iadd, 0, 0, 0) : iv_I)) rfl
theorem e60_20 : iv_V call mc_60 rt 20 L st w = iv_ald w st iv_isI fun v st' => iv_V call mc_60 rt 21 L (v :: st') w := iv_V_eq (I := (((33, 1), .iaload, 0, 0, 0) : iv_I)) rfl
theorem e60_21 : iv_V call mc_60 rt 21 L st w = iv_V call mc_60 rt 23 L (st) w := iv_V_eq (I := (((34, 3), .goto 4, 23, 0, 0) : iv_I)) rfl
theorem e60_22 : iv_V call mc_60 rt 22 L st w = iv_V call mc_60 rt 23 L (.int (-1) :: st) w := (iv_V_eq (I := (((37, 1), .iconst (-1), 0, 0, 0) : iv_I)) rfl).trans (congrArg (fun c => iv_V call mc_60 rt 23 L (.int c :: st) w) li_om1)
theorem e60_23 : iv_V call mc_60 rt 23 L st w = iv_ret rt st w := iv_V_eq (I := (((38, 1), .ireturn, 0, 0, 0) : iv_I)) rfl
theorem e61_0 : iv_V call mc_61 rt 0 L st w = iv_lda L 0 fun x => iv_V call mc_61 rt 1 L (x :: st) w := iv_V_eq (I := (((0, 1), .aload_n 0, 0, 0, 0) : iv_I)) rfl
theorem e61_1 : iv_V call mc_61 rt 1 L st w = iv_gf w st 1 46 fun v st' => iv_V call mc_61 rt 2 L (v :: st') w := iv_V_eq (I := (((1, 3), .getfield 128, 1, 46, 645) : iv_I)) rfl
theorem e61_2 : iv_V call mc_61 rt 2 L st w = iv_lda L 0 fun x => iv_V call mc_61 rt 3 L (x :: st) w := iv_V_eq (I := (((4, 1), .aload_n 0, 0, 0, 0) : iv_I)) rfl
theorem e61_3 : iv_V call mc_61 rt 3 L st w = iv_gf w st 1 47 fun v st' => iv_V call mc_61 rt 4 L (v :: st') w := iv_V_eq (I := (((5, 3), .getfield 214, 1, 47, 646) : iv_I)) rfl
theorem e61_4 : iv_V call mc_61 rt 4 L st w = iv_ldi L 1 fun x => iv_V call mc_61 rt 5 L (.int x :: st) w := iv_V_eq (I := (((8, 1), .iload_n 1, 0, 0, 0) : iv_I)) rfl
theorem e61_5 : iv_V call mc_61 rt 5 L st w = iv_ast w st iv_isI fun st' w' => iv_V call mc_61 rt 6 L (st') w' := iv_V_eq (I := (((9, 1), .iastore, 0, 0, 0) : iv_I)) rfl
theorem e61_6 : iv_V call mc_61 rt 6 L st w = iv_lda L 0 fun x => iv_V call mc_61 rt 7 L (x :: st) w := iv_V_eq (I := (((10, 1), .aload_n 0, 0, 0, 0) : iv_I)) rfl
theorem e61_7 : iv_V call mc_61 rt 7 L st w = iv_d1 st fun a st' => iv_V call mc_61 rt 8 L (a :: a :: st') w := iv_V_eq (I := (((11, 1), .dup, 0, 0, 0) : iv_I)) rfl
theorem e61_8 : iv_V call mc_61 rt 8 L st w = iv_gf w st 1 47 fun v st' => iv_V call mc_61 rt 9 L (v :: st') w := iv_V_eq (I := (((12, 3), .getfield 214, 1, 47, 646) : iv_I)) rfl
theorem e61_9 : iv_V call mc_61 rt 9 L st w = iv_V call mc_61 rt 10 L (.int 1 :: st) w := (iv_V_eq (I := (((15, 1), .iconst 1, 0, 0, 0) : iv_I)) rfl).trans (congrArg (fun c => iv_V call mc_61 rt 10 L (.int c :: st) w) li_o1)
theorem e61_10 : iv_V call mc_61 rt 10 L st w = iv_p2 st fun x y st' => iv_V call mc_61 rt 11 L (.int (x + y) :: st') w := iv_V_eq (I := (((16, 1), .iadd, 0, 0, 0) : iv_I)) rfl
theorem e61_11 : iv_V call mc_61 rt 11 L st w = iv_pf w st 1 47 fun st' w' => iv_V call mc_61 rt 12 L (st') w' := iv_V_eq (I := (((17, 3), .putfield 214, 1, 47, 646) : iv_I)) rfl
theorem e61_12 : iv_V call mc_61 rt 12 L st w = iv_rev rt st w := iv_V_eq (I := (((20, 1), .return_, 0, 0, 0) : iv_I)) rfl
theorem e62_0 : iv_V call mc_62 rt 0 L st w = iv_lda L 0 fun x => iv_V call mc_62 rt 1 L (x :: st) w := iv_V_eq (I := (((0, 1), .aload_n 0, 0, 0, 0) : iv_I)) rfl
theorem e62_1 : iv_V call mc_62 rt 1 L st w = iv_V call mc_62 rt 2 L (.int 102 :: st) w := (iv_V_eq (I := (((1, 2), .bipush 102, 0, 0, 0) : iv_I)) rfl).trans (congrArg (fun c => iv_V call mc_62 rt 2 L (.int c :: st) w) li_b102)
theorem e62_2 : iv_V call mc_62 rt 2 L st w = iv_inv call 61 2 (fun as => iv_rc w as (iv_mc 61)) st w fun st' w' => iv_V call mc_62 rt 3 L (st') w' := iv_V_eq (I := (((3, 3), .invokevirtual 217, 61, 2, 894) : iv_I)) rfl
theorem e62_3 : iv_V call mc_62 rt 3 L st w = iv_ldi L 1 fun x => iv_V call mc_62 rt 4 L (.int x :: st) w := iv_V_eq (I := (((6, 1), .iload_n 1, 0, 0, 0) : iv_I)) rfl
theorem e62_4 : iv_V call mc_62 rt 4 L st w = iv_V call mc_62 rt 5 L (.int 9 :: st) w := (iv_V_eq (I := (((7, 2), .bipush 9, 0, 0, 0) : iv_I)) rfl).trans (congrArg (fun c => iv_V call mc_62 rt 5 L (.int c :: st) w) li_b9)
theorem e62_5 : iv_V call mc_62 rt 5 L st w = iv_p2 st fun x y st' => if x ≤ y then iv_V call mc_62 rt 13 L (st') w else iv_V call mc_62 rt 6 L (st') w := (iv_V_eq (I := (((9, 3), .if_icmp .le 14, 13, 0, 0) : iv_I)) rfl).trans (by simp only [iv_go, iv_cnd, decide_eq_true_eq])
theorem e62_6 : iv_V call mc_62 rt 6 L st w = iv_lda L 0 fun x => iv_V call mc_62 rt 7 L (x :: st) w := iv_V_eq (I := (((12, 1), .aload_n 0, 0, 0, 0) : iv_I)) rfl
theorem e62_7 : iv_V call mc_62 rt 7 L st w = iv_V call mc_62 rt 8 L (.int 48 :: st) w := (iv_V_eq (I := (((13, 2), .bipush 48, 0, 0, 0) : iv_I)) rfl).trans (congrArg (fun c => iv_V call mc_62 rt 8 L (.int c :: st) w) li_b48)
theorem e62_8 : iv_V call mc_62 rt 8 L st w = iv_ldi L 1 fun x => iv_V call mc_62 rt 9 L (.int x :: st) w := iv_V_eq (I := (((15, 1), .iload_n 1, 0, 0, 0) : iv_I)) rfl
theorem e62_9 : iv_V call mc_62 rt 9 L st w = iv_V call mc_62 rt 10 L (.int 10 :: st) w := (iv_V_eq (I := (((16, 2), .bipush 10, 0, 0, 0) : iv_I)) rfl).trans (congrArg (fun c => iv_V call mc_62 rt 10 L (.int c :: st) w) li_b10)
theorem e62_10 : iv_V call mc_62 rt 10 L st w = iv_p2 st fun x y st' => if y = 0 then none else iv_V call mc_62 rt 11 L (.int (x / y) :: st') w := iv_V_eq (I := (((18, 1), .idiv, 0, 0, 0) : iv_I)) rfl
theorem e62_11 : iv_V call mc_62 rt 11 L st w = iv_p2 st fun x y st' => iv_V call mc_62 rt 12 L (.int (x + y) :: st') w := iv_V_eq (I := (((19, 1), .iadd, 0, 0, 0) : iv_I)) rfl
theorem e62_12 : iv_V call mc_62 rt 12 L st w = iv_inv call 61 2 (fun as => iv_rc w as (iv_mc 61)) st w fun st' w' => iv_V call mc_62 rt 13 L (st') w' := iv_V_eq (I := (((20, 3), .invokevirtual 217, 61, 2, 894) : iv_I)) rfl
theorem e62_13 : iv_V call mc_62 rt 13 L st w = iv_lda L 0 fun x => iv_V call mc_62 rt 14 L (x :: st) w := iv_V_eq (I := (((23, 1), .aload_n 0, 0, 0, 0) : iv_I)) rfl
theorem e62_14 : iv_V call mc_62 rt 14 L st w = iv_V call mc_62 rt 15 L (.int 48 :: st) w := (iv_V_eq (I := (((24, 2), .bipush 48, 0, 0, 0) : iv_I)) rfl).trans (congrArg (fun c => iv_V call mc_62 rt 15 L (.int c :: st) w) li_b48)
theorem e62_15 : iv_V call mc_62 rt 15 L st w = iv_ldi L 1 fun x => iv_V call mc_62 rt 16 L (.int x :: st) w := iv_V_eq (I := (((26, 1), .iload_n 1, 0, 0, 0) : iv_I)) rfl
theorem e62_16 : iv_V call mc_62 rt 16 L st w = iv_V call mc_62 rt 17 L (.int 10 :: st) w := (iv_V_eq (I := (((27, 2), .bipush 10, 0, 0, 0) : iv_I)) rfl).trans (congrArg (fun c => iv_V call mc_62 rt 17 L (.int c :: st) w) li_b10)
theorem e62_17 : iv_V call mc_62 rt 17 L st w = iv_p2 st fun x y st' => if y = 0 then none else iv_V call mc_62 rt 18 L (.int (x - x / y * y) :: st') w := iv_V_eq (I := (((29, 1), .irem, 0, 0, 0) : iv_I)) rfl
theorem e62_18 : iv_V call mc_62 rt 18 L st w = iv_p2 st fun x y st' => iv_V call mc_62 rt 19 L (.int (x + y) :: st') w := iv_V_eq (I := (((30, 1), .iadd, 0, 0, 0) : iv_I)) rfl
theorem e62_19 : iv_V call mc_62 rt 19 L st w = iv_inv call 61 2 (fun as => iv_rc w as (iv_mc 61)) st w fun st' w' => iv_V call mc_62 rt 20 L (st') w' := iv_V_eq (I := (((31, 3), .invokevirtual 217, 61, 2, 894) : iv_I)) rfl
theorem e62_20 : iv_V call mc_62 rt 20 L st w = iv_ldi L 2 fun x => iv_V call mc_62 rt 21 L (.int x :: st) w := iv_V_eq (I := (((34, 1), .iload_n 2, 0, 0, 0) : iv_I)) rfl
theorem e62_21 : iv_V call mc_62 rt 21 L st w = iv_p1 st fun x st' => if x < 0 then iv_V call mc_62 rt 33 L (st') w else iv_V call mc_62 rt 22 L (st') w := (iv_V_eq (I := (((35, 3), .ifCond .lt 23, 33, 0, 0) : iv_I)) rfl).trans (by simp only [iv_go, iv_cnd, decide_eq_true_eq])
theorem e62_22 : iv_V call mc_62 rt 22 L st w = iv_lda L 0 fun x => iv_V call mc_62 rt 23 L (x :: st) w := iv_V_eq (I := (((38, 1), .aload_n 0, 0, 0, 0) : iv_I)) rfl
theorem e62_23 : iv_V call mc_62 rt 23 L st w = iv_V call mc_62 rt 24 L (.int 91 :: st) w := (iv_V_eq (I := (((39, 2), .bipush 91, 0, 0, 0) : iv_I)) rfl).trans (congrArg (fun c => iv_V call mc_62 rt 24 L (.int c :: st) w) li_b91)
theorem e62_24 : iv_V call mc_62 rt 24 L st w = iv_inv call 61 2 (fun as => iv_rc w as (iv_mc 61)) st w fun st' w' => iv_V call mc_62 rt 25 L (st') w' := iv_V_eq (I := (((41, 3), .invokevirtual 217, 61, 2, 894) : iv_I)) rfl
theorem e62_25 : iv_V call mc_62 rt 25 L st w = iv_lda L 0 fun x => iv_V call mc_62 rt 26 L (x :: st) w := iv_V_eq (I := (((44, 1), .aload_n 0, 0, 0, 0) : iv_I)) rfl
theorem e62_26 : iv_V call mc_62 rt 26 L st w = iv_V call mc_62 rt 27 L (.int 48 :: st) w := (iv_V_eq (I := (((45, 2), .bipush 48, 0, 0, 0) : iv_I)) rfl).trans (congrArg (fun c => iv_V call mc_62 rt 27 L (.int c :: st) w) li_b48)
theorem e62_27 : iv_V call mc_62 rt 27 L st w = iv_ldi L 2 fun x => iv_V call mc_62 rt 28 L (.int x :: st) w := iv_V_eq (I := (((47, 1), .iload_n 2, 0, 0, 0) : iv_I)) rfl
theorem e62_28 : iv_V call mc_62 rt 28 L st w = iv_p2 st fun x y st' => iv_V call mc_62 rt 29 L (.int (x + y) :: st') w := iv_V_eq (I := (((48, 1), .iadd, 0, 0, 0) : iv_I)) rfl
theorem e62_29 : iv_V call mc_62 rt 29 L st w = iv_inv call 61 2 (fun as => iv_rc w as (iv_mc 61)) st w fun st' w' => iv_V call mc_62 rt 30 L (st') w' := iv_V_eq (I := (((49, 3), .invokevirtual 217, 61, 2, 894) : iv_I)) rfl
theorem e62_30 : iv_V call mc_62 rt 30 L st w = iv_lda L 0 fun x => iv_V call mc_62 rt 31 L (x :: st) w := iv_V_eq (I := (((52, 1), .aload_n 0, 0, 0, 0) : iv_I)) rfl
theorem e62_31 : iv_V call mc_62 rt 31 L st w = iv_V call mc_62 rt 32 L (.int 93 :: st) w := (iv_V_eq (I := (((53, 2), .bipush 93, 0, 0, 0) : iv_I)) rfl).trans (congrArg (fun c => iv_V call mc_62 rt 32 L (.int c :: st) w) li_b93)
theorem e62_32 : iv_V call mc_62 rt 32 L st w = iv_inv call 61 2 (fun as => iv_rc w as (iv_mc 61)) st w fun st' w' => iv_V call mc_62 rt 33 L (st') w' := iv_V_eq (I := (((55, 3), .invokevirtual 217, 61, 2, 894) : iv_I)) rfl
theorem e62_33 : iv_V call mc_62 rt 33 L st w = iv_rev rt st w := iv_V_eq (I := (((58, 1), .return_, 0, 0, 0) : iv_I)) rfl
theorem e63_0 : iv_V call mc_63 rt 0 L st w = iv_ldi L 1 fun x => iv_V call mc_63 rt 1 L (.int x :: st) w := iv_V_eq (I := (((0, 1), .iload_n 1, 0, 0, 0) : iv_I)) rfl
theorem e63_1 : iv_V call mc_63 rt 1 L st w = iv_V call mc_63 rt 2 L (.int 0 :: st) w := (iv_V_eq (I := (((1, 1), .iconst 0, 0, 0, 0) : iv_I)) rfl).trans (congrArg (fun c => iv_V call mc_63 rt 2 L (.int c :: st) w) li_o0)
theorem e63_2 : iv_V call mc_63 rt 2 L st w = iv_lda L 0 fun x => iv_V call mc_63 rt 3 L (x :: st) w := iv_V_eq (I := (((2, 1), .aload_n 0, 0, 0, 0) : iv_I)) rfl
theorem e63_3 : iv_V call mc_63 rt 3 L st w = iv_gf w st 1 41 fun v st' => iv_V call mc_63 rt 4 L (v :: st') w := iv_V_eq (I := (((3, 3), .getfield 160, 1, 41, 640) : iv_I)) rfl
theorem e63_4 : iv_V call mc_63 rt 4 L st w = iv_V call mc_63 rt 5 L (.int 1 :: st) w := (iv_V_eq (I := (((6, 1), .iconst 1, 0, 0, 0) : iv_I)) rfl).trans (congrArg (fun c => iv_V call mc_63 rt 5 L (.int c :: st) w) li_o1)
theorem e63_5 : iv_V call mc_63 rt 5 L st w = iv_p2 st fun x y st' => iv_V call mc_63 rt 6 L (.int (x - y) :: st') w := iv_V_eq (I := (((7, 1), .isub, 0, 0, 0) : iv_I)) rfl
theorem e63_6 : iv_V call mc_63 rt 6 L st w = iv_inv call 25 3 (fun _ => true) st w fun st' w' => iv_V call mc_63 rt 7 L (st') w' := iv_V_eq (I := (((8, 3), .invokestatic 135, 25, 3, 748) : iv_I)) rfl
theorem e63_7 : iv_V call mc_63 rt 7 L st w = iv_p1 st fun x st' => if x = 0 then iv_V call mc_63 rt 11 L (st') w else iv_V call mc_63 rt 8 L (st') w := (iv_V_eq (I := (((11, 3), .ifCond .eq 8, 11, 0, 0) : iv_I)) rfl).trans (by simp only [iv_go, iv_cnd, decide_eq_true_eq])
theorem e63_8 : iv_V call mc_63 rt 8 L st w = iv_ldi L 2 fun x => iv_V call mc_63 rt 9 L (.int x :: st) w := iv_V_eq (I := (((14, 1), .iload_n 2, 0, 0, 0) : iv_I)) rfl
theorem e63_9 : iv_V call mc_63 rt 9 L st w = iv_V call mc_63 rt 10 L (.int (-1) :: st) w := (iv_V_eq (I := (((15, 1), .iconst (-1), 0, 0, 0) : iv_I)) rfl).trans (congrArg (fun c => iv_V call mc_63 rt 10 L (.int c :: st) w) li_om1)
theorem e63_10 : iv_V call mc_63 rt 10 L st w = iv_p2 st fun x y st' => if y ≤ x then iv_V call mc_63 rt 13 L (st') w else iv_V call mc_63 rt 11 L (st') w := (iv_V_eq (I := (((16, 3), .if_icmp .ge 5, 13, 0, 0) : iv_I)) rfl).trans (by simp only [iv_go, iv_cnd, decide_eq_true_eq])
theorem e63_11 : iv_V call mc_63 rt 11 L st w = iv_V call mc_63 rt 12 L (.int (-1) :: st) w := (iv_V_eq (I := (((19, 1), .iconst (-1), 0, 0, 0) : iv_I)) rfl).trans (congrArg (fun c => iv_V call mc_63 rt 12 L (.int c :: st) w) li_om1)
theorem e63_12 : iv_V call mc_63 rt 12 L st w = iv_ret rt st w := iv_V_eq (I := (((20, 1), .ireturn, 0, 0, 0) : iv_I)) rfl
theorem e63_13 : iv_V call mc_63 rt 13 L st w = iv_lda L 0 fun x => iv_V call mc_63 rt 14 L (x :: st) w := iv_V_eq (I := (((21, 1), .aload_n 0, 0, 0, 0) : iv_I)) rfl
theorem e63_14 : iv_V call mc_63 rt 14 L st w = iv_V call mc_63 rt 15 L (.int 0 :: st) w := (iv_V_eq (I := (((22, 1), .iconst 0, 0, 0, 0) : iv_I)) rfl).trans (congrArg (fun c => iv_V call mc_63 rt 15 L (.int c :: st) w) li_o0)
theorem e63_15 : iv_V call mc_63 rt 15 L st w = iv_pf w st 1 47 fun st' w' => iv_V call mc_63 rt 16 L (st') w' := iv_V_eq (I := (((23, 3), .putfield 214, 1, 47, 646) : iv_I)) rfl
theorem e63_16 : iv_V call mc_63 rt 16 L st w = iv_V call mc_63 rt 17 L (.int 0 :: st) w := (iv_V_eq (I := (((26, 1), .iconst 0, 0, 0, 0) : iv_I)) rfl).trans (congrArg (fun c => iv_V call mc_63 rt 17 L (.int c :: st) w) li_o0)
theorem e63_17 : iv_V call mc_63 rt 17 L st w = iv_p1 st fun x st' => iv_sto L 3 (.int x) fun L' => iv_V call mc_63 rt 18 L' (st') w := iv_V_eq (I := (((27, 1), .istore_n 3, 0, 0, 0) : iv_I)) rfl
theorem e63_18 : iv_V call mc_63 rt 18 L st w = iv_ldi L 3 fun x => iv_V call mc_63 rt 19 L (.int x :: st) w := iv_V_eq (I := (((28, 1), .iload_n 3, 0, 0, 0) : iv_I)) rfl
theorem e63_19 : iv_V call mc_63 rt 19 L st w = iv_lda L 0 fun x => iv_V call mc_63 rt 20 L (x :: st) w := iv_V_eq (I := (((29, 1), .aload_n 0, 0, 0, 0) : iv_I)) rfl
theorem e63_20 : iv_V call mc_63 rt 20 L st w = iv_gf w st 1 43 fun v st' => iv_V call mc_63 rt 21 L (v :: st') w := iv_V_eq (I := (((30, 3), .getfield 119, 1, 43, 642) : iv_I)) rfl
theorem e63_21 : iv_V call mc_63 rt 21 L st w = iv_ldi L 1 fun x => iv_V call mc_63 rt 22 L (.int x :: st) w := iv_V_eq (I := (((33, 1), .iload_n 1, 0, 0, 0) : iv_I)) rfl
theorem e63_22 : iv_V call mc_63 rt 22 L st w = iv_ald w st iv_isI fun v st' => iv_V call mc_63 rt 23 L (v :: st') w := iv_V_eq (I := (((34, 1), .iaload, 0, 0, 0) : iv_I)) rfl
theorem e63_23 : iv_V call mc_63 rt 23 L st w = iv_p2 st fun x y st' => if y ≤ x then iv_V call mc_63 rt 47 L (st') w else iv_V call mc_63 rt 24 L (st') w := (iv_V_eq (I := (((35, 3), .if_icmp .ge 41, 47, 0, 0) : iv_I)) rfl).trans (by simp only [iv_go, iv_cnd, decide_eq_true_eq])
theorem e63_24 : iv_V call mc_63 rt 24 L st w = iv_lda L 0 fun x => iv_V call mc_63 rt 25 L (x :: st) w := iv_V_eq (I := (((38, 1), .aload_n 0, 0, 0, 0) : iv_I)) rfl
theorem e63_25 : iv_V call mc_63 rt 25 L st w = iv_lda L 0 fun x => iv_V call mc_63 rt 26 L (x :: st) w := iv_V_eq (I := (((39, 1), .aload_n 0, 0, 0, 0) : iv_I)) rfl
theorem e63_26 : iv_V call mc_63 rt 26 L st w = iv_gf w st 1 44 fun v st' => iv_V call mc_63 rt 27 L (v :: st') w := iv_V_eq (I := (((40, 3), .getfield 122, 1, 44, 643) : iv_I)) rfl
theorem e63_27 : iv_V call mc_63 rt 27 L st w = iv_V call mc_63 rt 28 L (.int 16 :: st) w := (iv_V_eq (I := (((43, 2), .bipush 16, 0, 0, 0) : iv_I)) rfl).trans (congrArg (fun c => iv_V call mc_63 rt 28 L (.int c :: st) w) li_b16)
theorem e63_28 : iv_V call mc_63 rt 28 L st w = iv_ldi L 1 fun x => iv_V call mc_63 rt 29 L (.int x :: st) w := iv_V_eq (I := (((45, 1), .iload_n 1, 0, 0, 0) : iv_I)) rfl
theorem e63_29 : iv_V call mc_63 rt 29 L st w = iv_p2 st fun x y st' => iv_V call mc_63 rt 30 L (.int (x * y) :: st') w := iv_V_eq (I := (((46, 1), .imul, 0, 0, 0) : iv_I)) rfl
theorem e63_30 : iv_V call mc_63 rt 30 L st w = iv_ldi L 3 fun x => iv_V call mc_63 rt 31 L (.int x :: st) w := iv_V_eq (I := (((47, 1), .iload_n 3, 0, 0, 0) : iv_I)) rfl
theorem e63_31 : iv_V call mc_63 rt 31 L st w = iv_p2 st fun x y st' => iv_V call mc_63 rt 32 L (.int (x + y) :: st') w := iv_V_eq (I := (((48, 1), .iadd, 0, 0, 0) : iv_I)) rfl
theorem e63_32 : iv_V call mc_63 rt 32 L st w = iv_ald w st iv_isI fun v st' => iv_V call mc_63 rt 33 L (v :: st') w := iv_V_eq (I := (((49, 1), .iaload, 0, 0, 0) : iv_I)) rfl
theorem e63_33 : iv_V call mc_63 rt 33 L st w = iv_lda L 0 fun x => iv_V call mc_63 rt 34 L (x :: st) w := iv_V_eq (I := (((50, 1), .aload_n 0, 0, 0, 0) : iv_I)) rfl
theorem e63_34 : iv_V call mc_63 rt 34 L st w = iv_gf w st 1 45 fun v st' => iv_V call mc_63 rt 35 L (v :: st') w := iv_V_eq (I := (((51, 3), .getfield 125, 1, 45, 644) : iv_I)) rfl
theorem e63_35 : iv_V call mc_63 rt 35 L st w = iv_V call mc_63 rt 36 L (.int 16 :: st) w := (iv_V_eq (I := (((54, 2), .bipush 16, 0, 0, 0) : iv_I)) rfl).trans (congrArg (fun c => iv_V call mc_63 rt 36 L (.int c :: st) w) li_b16)
theorem e63_36 : iv_V call mc_63 rt 36 L st w = iv_ldi L 1 fun x => iv_V call mc_63 rt 37 L (.int x :: st) w := iv_V_eq (I := (((56, 1), .iload_n 1, 0, 0, 0) : iv_I)) rfl
theorem e63_37 : iv_V call mc_63 rt 37 L st w = iv_p2 st fun x y st' => iv_V call mc_63 rt 38 L (.int (x * y) :: st') w := iv_V_eq (I := (((57, 1), .imul, 0, 0, 0) : iv_I)) rfl
theorem e63_38 : iv_V call mc_63 rt 38 L st w = iv_ldi L 3 fun x => iv_V call mc_63 rt 39 L (.int x :: st) w := iv_V_eq (I := (((58, 1), .iload_n 3, 0, 0, 0) : iv_I)) rfl
theorem e63_39 : iv_V call mc_63 rt 39 L st w = iv_p2 st fun x y st' => iv_V call mc_63 rt 40 L (.int (x + y) :: st') w := iv_V_eq (I := (((59, 1), .iadd, 0, 0, 0) : iv_I)) rfl
theorem e63_40 : iv_V call mc_63 rt 40 L st w = iv_ald w st iv_isI fun v st' => iv_V call mc_63 rt 41 L (v :: st') w := iv_V_eq (I := (((60, 1), .iaload, 0, 0, 0) : iv_I)) rfl
theorem e63_41 : iv_V call mc_63 rt 41 L st w = iv_inv call 62 3 (fun as => iv_rc w as (iv_mc 62)) st w fun st' w' => iv_V call mc_63 rt 42 L (st') w' := iv_V_eq (I := (((61, 3), .invokevirtual 221, 62, 3, 890) : iv_I)) rfl
theorem e63_42 : iv_V call mc_63 rt 42 L st w = iv_lda L 0 fun x => iv_V call mc_63 rt 43 L (x :: st) w := iv_V_eq (I := (((64, 1), .aload_n 0, 0, 0, 0) : iv_I)) rfl
theorem e63_43 : iv_V call mc_63 rt 43 L st w = iv_V call mc_63 rt 44 L (.int 46 :: st) w := (iv_V_eq (I := (((65, 2), .bipush 46, 0, 0, 0) : iv_I)) rfl).trans (congrArg (fun c => iv_V call mc_63 rt 44 L (.int c :: st) w) li_b46)
theorem e63_44 : iv_V call mc_63 rt 44 L st w = iv_inv call 61 2 (fun as => iv_rc w as (iv_mc 61)) st w fun st' w' => iv_V call mc_63 rt 45 L (st') w' := iv_V_eq (I := (((67, 3), .invokevirtual 217, 61, 2, 894) : iv_I)) rfl
theorem e63_45 : iv_V call mc_63 rt 45 L st w = iv_ldi L 3 fun x => iv_sto L 3 (.int (x + 1)) fun L' => iv_V call mc_63 rt 46 L' (st) w := (iv_V_eq (I := (((70, 3), .iinc 3 1, 0, 0, 0) : iv_I)) rfl).trans (congrArg (fun c => iv_ldi L 3 fun x => iv_sto L 3 (.int (x + c)) fun L' => iv_V call mc_63 rt 46 L' (st) w) li_o1)
theorem e63_46 : iv_V call mc_63 rt 46 L st w = iv_V call mc_63 rt 18 L (st) w := iv_V_eq (I := (((73, 3), .goto (-45), 18, 0, 0) : iv_I)) rfl
theorem e63_47 : iv_V call mc_63 rt 47 L st w = iv_lda L 0 fun x => iv_V call mc_63 rt 48 L (x :: st) w := iv_V_eq (I := (((76, 1), .aload_n 0, 0, 0, 0) : iv_I)) rfl
theorem e63_48 : iv_V call mc_63 rt 48 L st w = iv_lda L 0 fun x => iv_V call mc_63 rt 49 L (x :: st) w := iv_V_eq (I := (((77, 1), .aload_n 0, 0, 0, 0) : iv_I)) rfl
theorem e63_49 : iv_V call mc_63 rt 49 L st w = iv_gf w st 1 42 fun v st' => iv_V call mc_63 rt 50 L (v :: st') w := iv_V_eq (I := (((78, 3), .getfield 116, 1, 42, 641) : iv_I)) rfl
theorem e63_50 : iv_V call mc_63 rt 50 L st w = iv_V call mc_63 rt 51 L (.int 6 :: st) w := (iv_V_eq (I := (((81, 2), .bipush 6, 0, 0, 0) : iv_I)) rfl).trans (congrArg (fun c => iv_V call mc_63 rt 51 L (.int c :: st) w) li_b6)
theorem e63_51 : iv_V call mc_63 rt 51 L st w = iv_ldi L 1 fun x => iv_V call mc_63 rt 52 L (.int x :: st) w := iv_V_eq (I := (((83, 1), .iload_n 1, 0, 0, 0) : iv_I)) rfl
theorem e63_52 : iv_V call mc_63 rt 52 L st w = iv_p2 st fun x y st' => iv_V call mc_63 rt 53 L (.int (x * y) :: st') w := iv_V_eq (I := (((84, 1), .imul, 0, 0, 0) : iv_I)) rfl
theorem e63_53 : iv_V call mc_63 rt 53 L st w = iv_V call mc_63 rt 54 L (.int 1 :: st) w := (iv_V_eq (I := (((85, 1), .iconst 1, 0, 0, 0) : iv_I)) rfl).trans (congrArg (fun c => iv_V call mc_63 rt 54 L (.int c :: st) w) li_o1)
theorem e63_54 : iv_V call mc_63 rt 54 L st w = iv_p2 st fun x y st' => iv_V call mc_63 rt 55 L (.int (x + y) :: st') w := iv_V_eq (I := (((86, 1), .iadd, 0, 0, 0) : iv_I)) rfl
theorem e63_55 : iv_V call mc_63 rt 55 L st w = iv_ald w st iv_isI fun v st' => iv_V call mc_63 rt 56 L (v :: st') w := iv_V_eq (I := (((87, 1), .iaload, 0, 0, 0) : iv_I)) rfl
theorem e63_56 : iv_V call mc_63 rt 56 L st w = iv_lda L 0 fun x => iv_V call mc_63 rt 57 L (x :: st) w := iv_V_eq (I := (((88, 1), .aload_n 0, 0, 0, 0) : iv_I)) rfl
theorem e63_57 : iv_V call mc_63 rt 57 L st w = iv_gf w st 1 42 fun v st' => iv_V call mc_63 rt 58 L (v :: st') w := iv_V_eq (I := (((89, 3), .getfield 116, 1, 42, 641) : iv_I)) rfl
theorem e63_58 : iv_V call mc_63 rt 58 L st w = iv_V call mc_63 rt 59 L (.int 6 :: st) w := (iv_V_eq (I := (((92, 2), .bipush 6, 0, 0, 0) : iv_I)) rfl).trans (congrArg (fun c => iv_V call mc_63 rt 59 L (.int c :: st) w) li_b6)
theorem e63_59 : iv_V call mc_63 rt 59 L st w = iv_ldi L 1 fun x => iv_V call mc_63 rt 60 L (.int x :: st) w := iv_V_eq (I := (((94, 1), .iload_n 1, 0, 0, 0) : iv_I)) rfl
theorem e63_60 : iv_V call mc_63 rt 60 L st w = iv_p2 st fun x y st' => iv_V call mc_63 rt 61 L (.int (x * y) :: st') w := iv_V_eq (I := (((95, 1), .imul, 0, 0, 0) : iv_I)) rfl
theorem e63_61 : iv_V call mc_63 rt 61 L st w = iv_V call mc_63 rt 62 L (.int 2 :: st) w := (iv_V_eq (I := (((96, 1), .iconst 2, 0, 0, 0) : iv_I)) rfl).trans (congrArg (fun c => iv_V call mc_63 rt 62 L (.int c :: st) w) li_o2)
theorem e63_62 : iv_V call mc_63 rt 62 L st w = iv_p2 st fun x y st' => iv_V call mc_63 rt 63 L (.int (x + y) :: st') w := iv_V_eq (I := (((97, 1), .iadd, 0, 0, 0) : iv_I)) rfl
theorem e63_63 : iv_V call mc_63 rt 63 L st w = iv_ald w st iv_isI fun v st' => iv_V call mc_63 rt 64 L (v :: st') w := iv_V_eq (I := (((98, 1), .iaload, 0, 0, 0) : iv_I)) rfl
theorem e63_64 : iv_V call mc_63 rt 64 L st w = iv_inv call 62 3 (fun as => iv_rc w as (iv_mc 62)) st w fun st' w' => iv_V call mc_63 rt 65 L (st') w' := iv_V_eq (I := (((99, 3), .invokevirtual 221, 62, 3, 890) : iv_I)) rfl
theorem e63_65 : iv_V call mc_63 rt 65 L st w = iv_ldi L 2 fun x => iv_V call mc_63 rt 66 L (.int x :: st) w := iv_V_eq (I := (((102, 1), .iload_n 2, 0, 0, 0) : iv_I)) rfl
theorem e63_66 : iv_V call mc_63 rt 66 L st w = iv_V call mc_63 rt 67 L (.int (-1) :: st) w := (iv_V_eq (I := (((103, 1), .iconst (-1), 0, 0, 0) : iv_I)) rfl).trans (congrArg (fun c => iv_V call mc_63 rt 67 L (.int c :: st) w) li_om1)
theorem e63_67 : iv_V call mc_63 rt 67 L st w = iv_p2 st fun x y st' => if ¬ x = y then iv_V call mc_63 rt 71 L (st') w else iv_V call mc_63 rt 68 L (st') w := (iv_V_eq (I := (((104, 3), .if_icmp .ne 10, 71, 0, 0) : iv_I)) rfl).trans (by simp only [iv_go, iv_cnd, decide_eq_true_eq])
theorem e63_68 : iv_V call mc_63 rt 68 L st w = iv_lda L 0 fun x => iv_V call mc_63 rt 69 L (x :: st) w := iv_V_eq (I := (((107, 1), .aload_n 0, 0, 0, 0) : iv_I)) rfl
theorem e63_69 : iv_V call mc_63 rt 69 L st w = iv_gf w st 1 47 fun v st' => iv_V call mc_63 rt 70 L (v :: st') w := iv_V_eq (I := (((108, 3), .getfield 214, 1, 47, 646) : iv_I)) rfl
theorem e63_70 : iv_V call mc_63 rt 70 L st w = iv_V call mc_63 rt 81 L (st) w := iv_V_eq (I := (((111, 3), .goto 21, 81, 0, 0) : iv_I)) rfl
theorem e63_71 : iv_V call mc_63 rt 71 L st w = iv_ldi L 2 fun x => iv_V call mc_63 rt 72 L (.int x :: st) w := iv_V_eq (I := (((114, 1), .iload_n 2, 0, 0, 0) : iv_I)) rfl
theorem e63_72 : iv_V call mc_63 rt 72 L st w = iv_lda L 0 fun x => iv_V call mc_63 rt 73 L (x :: st) w := iv_V_eq (I := (((115, 1), .aload_n 0, 0, 0, 0) : iv_I)) rfl
theorem e63_73 : iv_V call mc_63 rt 73 L st w = iv_gf w st 1 47 fun v st' => iv_V call mc_63 rt 74 L (v :: st') w := iv_V_eq (I := (((116, 3), .getfield 214, 1, 47, 646) : iv_I)) rfl
theorem e63_74 : iv_V call mc_63 rt 74 L st w = iv_p2 st fun x y st' => if y ≤ x then iv_V call mc_63 rt 80 L (st') w else iv_V call mc_63 rt 75 L (st') w := (iv_V_eq (I := (((119, 3), .if_icmp .ge 12, 80, 0, 0) : iv_I)) rfl).trans (by simp only [iv_go, iv_cnd, decide_eq_true_eq])
theorem e63_75 : iv_V call mc_63 rt 75 L st w = iv_lda L 0 fun x => iv_V call mc_63 rt 76 L (x :: st) w := iv_V_eq (I := (((122, 1), .aload_n 0, 0, 0, 0) : iv_I)) rfl
theorem e63_76 : iv_V call mc_63 rt 76 L st w = iv_gf w st 1 46 fun v st' => iv_V call mc_63 rt 77 L (v :: st') w := iv_V_eq (I := (((123, 3), .getfield 128, 1, 46, 645) : iv_I)) rfl
theorem e63_77 : iv_V call mc_63 rt 77 L st w = iv_ldi L 2 fun x => iv_V call mc_63 rt 78 L (.int x :: st) w := iv_V_eq (I := (((126, 1), .iload_n 2, 0, 0, 0) : iv_I)) rfl
theorem e63_78 : iv_V call mc_63 rt 78 L st w = iv_ald w st iv_isI fun v st' => iv_V call mc_63 rt 79 L (v :: st') w := iv_V_eq (I := (((127, 1), .iaload, 0, 0, 0) : iv_I)) rfl
theorem e63_79 : iv_V call mc_63 rt 79 L st w = iv_V call mc_63 rt 81 L (st) w := iv_V_eq (I := (((128, 3), .goto 4, 81, 0, 0) : iv_I)) rfl
theorem e63_80 : iv_V call mc_63 rt 80 L st w = iv_V call mc_63 rt 81 L (.int (-1) :: st) w := (iv_V_eq (I := (((131, 1), .iconst (-1), 0, 0, 0) : iv_I)) rfl).trans (congrArg (fun c => iv_V call mc_63 rt 81 L (.int c :: st) w) li_om1)
theorem e63_81 : iv_V call mc_63 rt 81 L st w = iv_ret rt st w := iv_V_eq (I := (((132, 1), .ireturn, 0, 0, 0) : iv_I)) rfl
theorem e64_0 : iv_V call mc_64 rt 0 L st w = iv_lda L 0 fun x => iv_V call mc_64 rt 1 L (x :: st) w := iv_V_eq (I := (((0, 1), .aload_n 0, 0, 0, 0) : iv_I)) rfl
theorem e64_1 : iv_V call mc_64 rt 1 L st w = iv_oi st fun st' => iv_V call mc_64 rt 2 L (st') w := iv_V_eq (I := (((1, 3), .invokespecial 3, 0, 1, 246) : iv_I)) rfl
theorem e64_2 : iv_V call mc_64 rt 2 L st w = iv_lda L 0 fun x => iv_V call mc_64 rt 3 L (x :: st) w := iv_V_eq (I := (((4, 1), .aload_n 0, 0, 0, 0) : iv_I)) rfl
theorem e64_3 : iv_V call mc_64 rt 3 L st w = iv_lda L 1 fun x => iv_V call mc_64 rt 4 L (x :: st) w := iv_V_eq (I := (((5, 1), .aload_n 1, 0, 0, 0) : iv_I)) rfl
theorem e64_4 : iv_V call mc_64 rt 4 L st w = iv_pf w st 2 0 fun st' w' => iv_V call mc_64 rt 5 L (st') w' := iv_V_eq (I := (((6, 3), .putfield 9, 2, 0, 247) : iv_I)) rfl
theorem e64_5 : iv_V call mc_64 rt 5 L st w = iv_lda L 0 fun x => iv_V call mc_64 rt 6 L (x :: st) w := iv_V_eq (I := (((9, 1), .aload_n 0, 0, 0, 0) : iv_I)) rfl
theorem e64_6 : iv_V call mc_64 rt 6 L st w = iv_lda L 2 fun x => iv_V call mc_64 rt 7 L (x :: st) w := iv_V_eq (I := (((10, 1), .aload_n 2, 0, 0, 0) : iv_I)) rfl
theorem e64_7 : iv_V call mc_64 rt 7 L st w = iv_pf w st 2 1 fun st' w' => iv_V call mc_64 rt 8 L (st') w' := iv_V_eq (I := (((11, 3), .putfield 15, 2, 1, 248) : iv_I)) rfl
theorem e64_8 : iv_V call mc_64 rt 8 L st w = iv_lda L 0 fun x => iv_V call mc_64 rt 9 L (x :: st) w := iv_V_eq (I := (((14, 1), .aload_n 0, 0, 0, 0) : iv_I)) rfl
theorem e64_9 : iv_V call mc_64 rt 9 L st w = iv_lda L 3 fun x => iv_V call mc_64 rt 10 L (x :: st) w := iv_V_eq (I := (((15, 1), .aload_n 3, 0, 0, 0) : iv_I)) rfl
theorem e64_10 : iv_V call mc_64 rt 10 L st w = iv_pf w st 2 2 fun st' w' => iv_V call mc_64 rt 11 L (st') w' := iv_V_eq (I := (((16, 3), .putfield 19, 2, 2, 249) : iv_I)) rfl
theorem e64_11 : iv_V call mc_64 rt 11 L st w = iv_lda L 0 fun x => iv_V call mc_64 rt 12 L (x :: st) w := iv_V_eq (I := (((19, 1), .aload_n 0, 0, 0, 0) : iv_I)) rfl
theorem e64_12 : iv_V call mc_64 rt 12 L st w = iv_lda L 4 fun x => iv_V call mc_64 rt 13 L (x :: st) w := iv_V_eq (I := (((20, 2), .aload 4, 0, 0, 0) : iv_I)) rfl
theorem e64_13 : iv_V call mc_64 rt 13 L st w = iv_pf w st 2 3 fun st' w' => iv_V call mc_64 rt 14 L (st') w' := iv_V_eq (I := (((22, 3), .putfield 23, 2, 3, 250) : iv_I)) rfl
theorem e64_14 : iv_V call mc_64 rt 14 L st w = iv_lda L 0 fun x => iv_V call mc_64 rt 15 L (x :: st) w := iv_V_eq (I := (((25, 1), .aload_n 0, 0, 0, 0) : iv_I)) rfl
theorem e64_15 : iv_V call mc_64 rt 15 L st w = iv_lda L 5 fun x => iv_V call mc_64 rt 16 L (x :: st) w := iv_V_eq (I := (((26, 2), .aload 5, 0, 0, 0) : iv_I)) rfl
theorem e64_16 : iv_V call mc_64 rt 16 L st w = iv_pf w st 2 4 fun st' w' => iv_V call mc_64 rt 17 L (st') w' := iv_V_eq (I := (((28, 3), .putfield 27, 2, 4, 251) : iv_I)) rfl
theorem e64_17 : iv_V call mc_64 rt 17 L st w = iv_lda L 0 fun x => iv_V call mc_64 rt 18 L (x :: st) w := iv_V_eq (I := (((31, 1), .aload_n 0, 0, 0, 0) : iv_I)) rfl
theorem e64_18 : iv_V call mc_64 rt 18 L st w = iv_V call mc_64 rt 19 L (.int 16 :: st) w := (iv_V_eq (I := (((32, 2), .bipush 16, 0, 0, 0) : iv_I)) rfl).trans (congrArg (fun c => iv_V call mc_64 rt 19 L (.int c :: st) w) li_b16)
theorem e64_19 : iv_V call mc_64 rt 19 L st w = iv_p1 st fun n st' => iv_na w 100 (.int 0) n fun v w' => iv_V call mc_64 rt 20 L (v :: st') w' := iv_V_eq (I := (((34, 2), .newarray .int, 100, 0, 78) : iv_I)) rfl
theorem e64_20 : iv_V call mc_64 rt 20 L st w = iv_pf w st 2 5 fun st' w' => iv_V call mc_64 rt 21 L (st') w' := iv_V_eq (I := (((36, 3), .putfield 31, 2, 5, 252) : iv_I)) rfl
theorem e64_21 : iv_V call mc_64 rt 21 L st w = iv_lda L 0 fun x => iv_V call mc_64 rt 22 L (x :: st) w := iv_V_eq (I := (((39, 1), .aload_n 0, 0, 0, 0) : iv_I)) rfl
theorem e64_22 : iv_V call mc_64 rt 22 L st w = iv_V call mc_64 rt 23 L (.int 16 :: st) w := (iv_V_eq (I := (((40, 2), .bipush 16, 0, 0, 0) : iv_I)) rfl).trans (congrArg (fun c => iv_V call mc_64 rt 23 L (.int c :: st) w) li_b16)
theorem e64_23 : iv_V call mc_64 rt 23 L st w = iv_p1 st fun n st' => iv_na w 100 (.int 0) n fun v w' => iv_V call mc_64 rt 24 L (v :: st') w' := iv_V_eq (I := (((42, 2), .newarray .int, 100, 0, 78) : iv_I)) rfl
theorem e64_24 : iv_V call mc_64 rt 24 L st w = iv_pf w st 2 6 fun st' w' => iv_V call mc_64 rt 25 L (st') w' := iv_V_eq (I := (((44, 3), .putfield 35, 2, 6, 253) : iv_I)) rfl
theorem e64_25 : iv_V call mc_64 rt 25 L st w = iv_lda L 0 fun x => iv_V call mc_64 rt 26 L (x :: st) w := iv_V_eq (I := (((47, 1), .aload_n 0, 0, 0, 0) : iv_I)) rfl
theorem e64_26 : iv_V call mc_64 rt 26 L st w = iv_V call mc_64 rt 27 L (.int 0 :: st) w := (iv_V_eq (I := (((48, 1), .iconst 0, 0, 0, 0) : iv_I)) rfl).trans (congrArg (fun c => iv_V call mc_64 rt 27 L (.int c :: st) w) li_o0)
theorem e64_27 : iv_V call mc_64 rt 27 L st w = iv_pf w st 2 7 fun st' w' => iv_V call mc_64 rt 28 L (st') w' := iv_V_eq (I := (((49, 3), .putfield 38, 2, 7, 254) : iv_I)) rfl
theorem e64_28 : iv_V call mc_64 rt 28 L st w = iv_lda L 0 fun x => iv_V call mc_64 rt 29 L (x :: st) w := iv_V_eq (I := (((52, 1), .aload_n 0, 0, 0, 0) : iv_I)) rfl
theorem e64_29 : iv_V call mc_64 rt 29 L st w = iv_V call mc_64 rt 30 L (.int 0 :: st) w := (iv_V_eq (I := (((53, 1), .iconst 0, 0, 0, 0) : iv_I)) rfl).trans (congrArg (fun c => iv_V call mc_64 rt 30 L (.int c :: st) w) li_o0)
theorem e64_30 : iv_V call mc_64 rt 30 L st w = iv_pf w st 2 8 fun st' w' => iv_V call mc_64 rt 31 L (st') w' := iv_V_eq (I := (((54, 3), .putfield 42, 2, 8, 255) : iv_I)) rfl
theorem e64_31 : iv_V call mc_64 rt 31 L st w = iv_rev rt st w := iv_V_eq (I := (((57, 1), .return_, 0, 0, 0) : iv_I)) rfl
theorem e65_0 : iv_V call mc_65 rt 0 L st w = iv_lda L 0 fun x => iv_V call mc_65 rt 1 L (x :: st) w := iv_V_eq (I := (((0, 1), .aload_n 0, 0, 0, 0) : iv_I)) rfl
theorem e65_1 : iv_V call mc_65 rt 1 L st w = iv_ldi L 1 fun x => iv_V call mc_65 rt 2 L (.int x :: st) w := iv_V_eq (I := (((1, 1), .iload_n 1, 0, 0, 0) : iv_I)) rfl
theorem e65_2 : iv_V call mc_65 rt 2 L st w = iv_ldi L 2 fun x => iv_V call mc_65 rt 3 L (.int x :: st) w := iv_V_eq (I := (((2, 1), .iload_n 2, 0, 0, 0) : iv_I)) rfl
theorem e65_3 : iv_V call mc_65 rt 3 L st w = iv_inv call 66 3 (fun as => iv_rc w as (iv_mc 66)) st w fun st' w' => iv_V call mc_65 rt 4 L (st') w' := iv_V_eq (I := (((3, 3), .invokevirtual 45, 66, 3, 488) : iv_I)) rfl
theorem e65_4 : iv_V call mc_65 rt 4 L st w = iv_p1 st fun x st' => if x = 0 then iv_V call mc_65 rt 7 L (st') w else iv_V call mc_65 rt 5 L (st') w := (iv_V_eq (I := (((6, 3), .ifCond .eq 5, 7, 0, 0) : iv_I)) rfl).trans (by simp only [iv_go, iv_cnd, decide_eq_true_eq])
theorem e65_5 : iv_V call mc_65 rt 5 L st w = iv_V call mc_65 rt 6 L (.int 0 :: st) w := (iv_V_eq (I := (((9, 1), .iconst 0, 0, 0, 0) : iv_I)) rfl).trans (congrArg (fun c => iv_V call mc_65 rt 6 L (.int c :: st) w) li_o0)
theorem e65_6 : iv_V call mc_65 rt 6 L st w = iv_ret rt st w := iv_V_eq (I := (((10, 1), .ireturn, 0, 0, 0) : iv_I)) rfl
theorem e65_7 : iv_V call mc_65 rt 7 L st w = iv_lda L 0 fun x => iv_V call mc_65 rt 8 L (x :: st) w := iv_V_eq (I := (((11, 1), .aload_n 0, 0, 0, 0) : iv_I)) rfl
theorem e65_8 : iv_V call mc_65 rt 8 L st w = iv_gf w st 2 8 fun v st' => iv_V call mc_65 rt 9 L (v :: st') w := iv_V_eq (I := (((12, 3), .getfield 42, 2, 8, 255) : iv_I)) rfl
theorem e65_9 : iv_V call mc_65 rt 9 L st w = iv_V call mc_65 rt 10 L (.int 60 :: st) w := (iv_V_eq (I := (((15, 2), .bipush 60, 0, 0, 0) : iv_I)) rfl).trans (congrArg (fun c => iv_V call mc_65 rt 10 L (.int c :: st) w) li_b60)
theorem e65_10 : iv_V call mc_65 rt 10 L st w = iv_p2 st fun x y st' => if y ≤ x then iv_V call mc_65 rt 15 L (st') w else iv_V call mc_65 rt 11 L (st') w := (iv_V_eq (I := (((17, 3), .if_icmp .ge 12, 15, 0, 0) : iv_I)) rfl).trans (by simp only [iv_go, iv_cnd, decide_eq_true_eq])
theorem e65_11 : iv_V call mc_65 rt 11 L st w = iv_lda L 0 fun x => iv_V call mc_65 rt 12 L (x :: st) w := iv_V_eq (I := (((20, 1), .aload_n 0, 0, 0, 0) : iv_I)) rfl
theorem e65_12 : iv_V call mc_65 rt 12 L st w = iv_gf w st 2 7 fun v st' => iv_V call mc_65 rt 13 L (v :: st') w := iv_V_eq (I := (((21, 3), .getfield 38, 2, 7, 254) : iv_I)) rfl
theorem e65_13 : iv_V call mc_65 rt 13 L st w = iv_V call mc_65 rt 14 L (.int 16 :: st) w := (iv_V_eq (I := (((24, 2), .bipush 16, 0, 0, 0) : iv_I)) rfl).trans (congrArg (fun c => iv_V call mc_65 rt 14 L (.int c :: st) w) li_b16)
theorem e65_14 : iv_V call mc_65 rt 14 L st w = iv_p2 st fun x y st' => if x < y then iv_V call mc_65 rt 17 L (st') w else iv_V call mc_65 rt 15 L (st') w := (iv_V_eq (I := (((26, 3), .if_icmp .lt 6, 17, 0, 0) : iv_I)) rfl).trans (by simp only [iv_go, iv_cnd, decide_eq_true_eq])
theorem e65_15 : iv_V call mc_65 rt 15 L st w = iv_V call mc_65 rt 16 L (.int (-5) :: st) w := (iv_V_eq (I := (((29, 2), .bipush (-5), 0, 0, 0) : iv_I)) rfl).trans (congrArg (fun c => iv_V call mc_65 rt 16 L (.int c :: st) w) li_bm5)
theorem e65_16 : iv_V call mc_65 rt 16 L st w = iv_ret rt st w := iv_V_eq (I := (((31, 1), .ireturn, 0, 0, 0) : iv_I)) rfl
theorem e65_17 : iv_V call mc_65 rt 17 L st w = iv_lda L 0 fun x => iv_V call mc_65 rt 18 L (x :: st) w := iv_V_eq (I := (((32, 1), .aload_n 0, 0, 0, 0) : iv_I)) rfl
theorem e65_18 : iv_V call mc_65 rt 18 L st w = iv_d1 st fun a st' => iv_V call mc_65 rt 19 L (a :: a :: st') w := iv_V_eq (I := (((33, 1), .dup, 0, 0, 0) : iv_I)) rfl
theorem e65_19 : iv_V call mc_65 rt 19 L st w = iv_gf w st 2 8 fun v st' => iv_V call mc_65 rt 20 L (v :: st') w := iv_V_eq (I := (((34, 3), .getfield 42, 2, 8, 255) : iv_I)) rfl
theorem e65_20 : iv_V call mc_65 rt 20 L st w = iv_V call mc_65 rt 21 L (.int 1 :: st) w := (iv_V_eq (I := (((37, 1), .iconst 1, 0, 0, 0) : iv_I)) rfl).trans (congrArg (fun c => iv_V call mc_65 rt 21 L (.int c :: st) w) li_o1)
theorem e65_21 : iv_V call mc_65 rt 21 L st w = iv_p2 st fun x y st' => iv_V call mc_65 rt 22 L (.int (x + y) :: st') w := iv_V_eq (I := (((38, 1), .iadd, 0, 0, 0) : iv_I)) rfl
theorem e65_22 : iv_V call mc_65 rt 22 L st w = iv_pf w st 2 8 fun st' w' => iv_V call mc_65 rt 23 L (st') w' := iv_V_eq (I := (((39, 3), .putfield 42, 2, 8, 255) : iv_I)) rfl
theorem e65_23 : iv_V call mc_65 rt 23 L st w = iv_lda L 0 fun x => iv_V call mc_65 rt 24 L (x :: st) w := iv_V_eq (I := (((42, 1), .aload_n 0, 0, 0, 0) : iv_I)) rfl
theorem e65_24 : iv_V call mc_65 rt 24 L st w = iv_gf w st 2 5 fun v st' => iv_V call mc_65 rt 25 L (v :: st') w := iv_V_eq (I := (((43, 3), .getfield 31, 2, 5, 252) : iv_I)) rfl
theorem e65_25 : iv_V call mc_65 rt 25 L st w = iv_lda L 0 fun x => iv_V call mc_65 rt 26 L (x :: st) w := iv_V_eq (I := (((46, 1), .aload_n 0, 0, 0, 0) : iv_I)) rfl
theorem e65_26 : iv_V call mc_65 rt 26 L st w = iv_gf w st 2 7 fun v st' => iv_V call mc_65 rt 27 L (v :: st') w := iv_V_eq (I := (((47, 3), .getfield 38, 2, 7, 254) : iv_I)) rfl
theorem e65_27 : iv_V call mc_65 rt 27 L st w = iv_ldi L 1 fun x => iv_V call mc_65 rt 28 L (.int x :: st) w := iv_V_eq (I := (((50, 1), .iload_n 1, 0, 0, 0) : iv_I)) rfl
theorem e65_28 : iv_V call mc_65 rt 28 L st w = iv_ast w st iv_isI fun st' w' => iv_V call mc_65 rt 29 L (st') w' := iv_V_eq (I := (((51, 1), .iastore, 0, 0, 0) : iv_I)) rfl
theorem e65_29 : iv_V call mc_65 rt 29 L st w = iv_lda L 0 fun x => iv_V call mc_65 rt 30 L (x :: st) w := iv_V_eq (I := (((52, 1), .aload_n 0, 0, 0, 0) : iv_I)) rfl
theorem e65_30 : iv_V call mc_65 rt 30 L st w = iv_gf w st 2 6 fun v st' => iv_V call mc_65 rt 31 L (v :: st') w := iv_V_eq (I := (((53, 3), .getfield 35, 2, 6, 253) : iv_I)) rfl
theorem e65_31 : iv_V call mc_65 rt 31 L st w = iv_lda L 0 fun x => iv_V call mc_65 rt 32 L (x :: st) w := iv_V_eq (I := (((56, 1), .aload_n 0, 0, 0, 0) : iv_I)) rfl
theorem e65_32 : iv_V call mc_65 rt 32 L st w = iv_gf w st 2 7 fun v st' => iv_V call mc_65 rt 33 L (v :: st') w := iv_V_eq (I := (((57, 3), .getfield 38, 2, 7, 254) : iv_I)) rfl
theorem e65_33 : iv_V call mc_65 rt 33 L st w = iv_ldi L 2 fun x => iv_V call mc_65 rt 34 L (.int x :: st) w := iv_V_eq (I := (((60, 1), .iload_n 2, 0, 0, 0) : iv_I)) rfl
theorem e65_34 : iv_V call mc_65 rt 34 L st w = iv_ast w st iv_isI fun st' w' => iv_V call mc_65 rt 35 L (st') w' := iv_V_eq (I := (((61, 1), .iastore, 0, 0, 0) : iv_I)) rfl
theorem e65_35 : iv_V call mc_65 rt 35 L st w = iv_lda L 0 fun x => iv_V call mc_65 rt 36 L (x :: st) w := iv_V_eq (I := (((62, 1), .aload_n 0, 0, 0, 0) : iv_I)) rfl
theorem e65_36 : iv_V call mc_65 rt 36 L st w = iv_d1 st fun a st' => iv_V call mc_65 rt 37 L (a :: a :: st') w := iv_V_eq (I := (((63, 1), .dup, 0, 0, 0) : iv_I)) rfl
theorem e65_37 : iv_V call mc_65 rt 37 L st w = iv_gf w st 2 7 fun v st' => iv_V call mc_65 rt 38 L (v :: st') w := iv_V_eq (I := (((64, 3), .getfield 38, 2, 7, 254) : iv_I)) rfl
theorem e65_38 : iv_V call mc_65 rt 38 L st w = iv_V call mc_65 rt 39 L (.int 1 :: st) w := (iv_V_eq (I := (((67, 1), .iconst 1, 0, 0, 0) : iv_I)) rfl).trans (congrArg (fun c => iv_V call mc_65 rt 39 L (.int c :: st) w) li_o1)
theorem e65_39 : iv_V call mc_65 rt 39 L st w = iv_p2 st fun x y st' => iv_V call mc_65 rt 40 L (.int (x + y) :: st') w := iv_V_eq (I := (((68, 1), .iadd, 0, 0, 0) : iv_I)) rfl
theorem e65_40 : iv_V call mc_65 rt 40 L st w = iv_pf w st 2 7 fun st' w' => iv_V call mc_65 rt 41 L (st') w' := iv_V_eq (I := (((69, 3), .putfield 38, 2, 7, 254) : iv_I)) rfl
theorem e65_41 : iv_V call mc_65 rt 41 L st w = iv_lda L 0 fun x => iv_V call mc_65 rt 42 L (x :: st) w := iv_V_eq (I := (((72, 1), .aload_n 0, 0, 0, 0) : iv_I)) rfl
theorem e65_42 : iv_V call mc_65 rt 42 L st w = iv_ldi L 1 fun x => iv_V call mc_65 rt 43 L (.int x :: st) w := iv_V_eq (I := (((73, 1), .iload_n 1, 0, 0, 0) : iv_I)) rfl
theorem e65_43 : iv_V call mc_65 rt 43 L st w = iv_ldi L 2 fun x => iv_V call mc_65 rt 44 L (.int x :: st) w := iv_V_eq (I := (((74, 1), .iload_n 2, 0, 0, 0) : iv_I)) rfl
theorem e65_44 : iv_V call mc_65 rt 44 L st w = iv_inv call 67 3 (fun as => iv_rc w as (iv_mc 67)) st w fun st' w' => iv_V call mc_65 rt 45 L (st') w' := iv_V_eq (I := (((75, 3), .invokevirtual 49, 67, 3, 492) : iv_I)) rfl
theorem e65_45 : iv_V call mc_65 rt 45 L st w = iv_p1 st fun x st' => iv_sto L 3 (.int x) fun L' => iv_V call mc_65 rt 46 L' (st') w := iv_V_eq (I := (((78, 1), .istore_n 3, 0, 0, 0) : iv_I)) rfl
theorem e65_46 : iv_V call mc_65 rt 46 L st w = iv_lda L 0 fun x => iv_V call mc_65 rt 47 L (x :: st) w := iv_V_eq (I := (((79, 1), .aload_n 0, 0, 0, 0) : iv_I)) rfl
theorem e65_47 : iv_V call mc_65 rt 47 L st w = iv_d1 st fun a st' => iv_V call mc_65 rt 48 L (a :: a :: st') w := iv_V_eq (I := (((80, 1), .dup, 0, 0, 0) : iv_I)) rfl
theorem e65_48 : iv_V call mc_65 rt 48 L st w = iv_gf w st 2 7 fun v st' => iv_V call mc_65 rt 49 L (v :: st') w := iv_V_eq (I := (((81, 3), .getfield 38, 2, 7, 254) : iv_I)) rfl
theorem e65_49 : iv_V call mc_65 rt 49 L st w = iv_V call mc_65 rt 50 L (.int 1 :: st) w := (iv_V_eq (I := (((84, 1), .iconst 1, 0, 0, 0) : iv_I)) rfl).trans (congrArg (fun c => iv_V call mc_65 rt 50 L (.int c :: st) w) li_o1)
theorem e65_50 : iv_V call mc_65 rt 50 L st w = iv_p2 st fun x y st' => iv_V call mc_65 rt 51 L (.int (x - y) :: st') w := iv_V_eq (I := (((85, 1), .isub, 0, 0, 0) : iv_I)) rfl
theorem e65_51 : iv_V call mc_65 rt 51 L st w = iv_pf w st 2 7 fun st' w' => iv_V call mc_65 rt 52 L (st') w' := iv_V_eq (I := (((86, 3), .putfield 38, 2, 7, 254) : iv_I)) rfl
theorem e65_52 : iv_V call mc_65 rt 52 L st w = iv_ldi L 3 fun x => iv_V call mc_65 rt 53 L (.int x :: st) w := iv_V_eq (I := (((89, 1), .iload_n 3, 0, 0, 0) : iv_I)) rfl
theorem e65_53 : iv_V call mc_65 rt 53 L st w = iv_ret rt st w := iv_V_eq (I := (((90, 1), .ireturn, 0, 0, 0) : iv_I)) rfl
theorem e66_0 : iv_V call mc_66 rt 0 L st w = iv_V call mc_66 rt 1 L (.int 0 :: st) w := (iv_V_eq (I := (((0, 1), .iconst 0, 0, 0, 0) : iv_I)) rfl).trans (congrArg (fun c => iv_V call mc_66 rt 1 L (.int c :: st) w) li_o0)
theorem e66_1 : iv_V call mc_66 rt 1 L st w = iv_p1 st fun x st' => iv_sto L 3 (.int x) fun L' => iv_V call mc_66 rt 2 L' (st') w := iv_V_eq (I := (((1, 1), .istore_n 3, 0, 0, 0) : iv_I)) rfl
theorem e66_2 : iv_V call mc_66 rt 2 L st w = iv_ldi L 3 fun x => iv_V call mc_66 rt 3 L (.int x :: st) w := iv_V_eq (I := (((2, 1), .iload_n 3, 0, 0, 0) : iv_I)) rfl
theorem e66_3 : iv_V call mc_66 rt 3 L st w = iv_lda L 0 fun x => iv_V call mc_66 rt 4 L (x :: st) w := iv_V_eq (I := (((3, 1), .aload_n 0, 0, 0, 0) : iv_I)) rfl
theorem e66_4 : iv_V call mc_66 rt 4 L st w = iv_gf w st 2 7 fun v st' => iv_V call mc_66 rt 5 L (v :: st') w := iv_V_eq (I := (((4, 3), .getfield 38, 2, 7, 254) : iv_I)) rfl
theorem e66_5 : iv_V call mc_66 rt 5 L st w = iv_p2 st fun x y st' => if y ≤ x then iv_V call mc_66 rt 22 L (st') w else iv_V call mc_66 rt 6 L (st') w := (iv_V_eq (I := (((7, 3), .if_icmp .ge 31, 22, 0, 0) : iv_I)) rfl).trans (by simp only [iv_go, iv_cnd, decide_eq_true_eq])
theorem e66_6 : iv_V call mc_66 rt 6 L st w = iv_lda L 0 fun x => iv_V call mc_66 rt 7 L (x :: st) w := iv_V_eq (I := (((10, 1), .aload_n 0, 0, 0, 0) : iv_I)) rfl
theorem e66_7 : iv_V call mc_66 rt 7 L st w = iv_gf w st 2 5 fun v st' => iv_V call mc_66 rt 8 L (v :: st') w := iv_V_eq (I := (((11, 3), .getfield 31, 2, 5, 252) : iv_I)) rfl
theorem e66_8 : iv_V call mc_66 rt 8 L st w = iv_ldi L 3 fun x => iv_V call mc_66 rt 9 L (.int x :: st) w := iv_V_eq (I := (((14, 1), .iload_n 3, 0, 0, 0) : iv_I)) rfl
theorem e66_9 : iv_V call mc_66 rt 9 L st w = iv_ald w st iv_isI fun v st' => iv_V call mc_66 rt 10 L (v :: st') w := iv_V_eq (I := (((15, 1), .iaload, 0, 0, 0) : iv_I)) rfl
theorem e66_10 : iv_V call mc_66 rt 10 L st w = iv_ldi L 1 fun x => iv_V call mc_66 rt 11 L (.int x :: st) w := iv_V_eq (I := (((16, 1), .iload_n 1, 0, 0, 0) : iv_I)) rfl
theorem e66_11 : iv_V call mc_66 rt 11 L st w = iv_p2 st fun x y st' => if ¬ x = y then iv_V call mc_66 rt 20 L (st') w else iv_V call mc_66 rt 12 L (st') w := (iv_V_eq (I := (((17, 3), .if_icmp .ne 15, 20, 0, 0) : iv_I)) rfl).trans (by simp only [iv_go, iv_cnd, decide_eq_true_eq])
theorem e66_12 : iv_V call mc_66 rt 12 L st w = iv_lda L 0 fun x => iv_V call mc_66 rt 13 L (x :: st) w := iv_V_eq (I := (((20, 1), .aload_n 0, 0, 0, 0) : iv_I)) rfl
theorem e66_13 : iv_V call mc_66 rt 13 L st w = iv_gf w st 2 6 fun v st' => iv_V call mc_66 rt 14 L (v :: st') w := iv_V_eq (I := (((21, 3), .getfield 35, 2, 6, 253) : iv_I)) rfl
theorem e66_14 : iv_V call mc_66 rt 14 L st w = iv_ldi L 3 fun x => iv_V call mc_66 rt 15 L (.int x :: st) w := iv_V_eq (I := (((24, 1), .iload_n 3, 0, 0, 0) : iv_I)) rfl
theorem e66_15 : iv_V call mc_66 rt 15 L st w = iv_ald w st iv_isI fun v st' => iv_V call mc_66 rt 16 L (v :: st') w := iv_V_eq (I := (((25, 1), .iaload, 0, 0, 0) : iv_I)) rfl
theorem e66_16 : iv_V call mc_66 rt 16 L st w = iv_ldi L 2 fun x => iv_V call mc_66 rt 17 L (.int x :: st) w := iv_V_eq (I := (((26, 1), .iload_n 2, 0, 0, 0) : iv_I)) rfl
theorem e66_17 : iv_V call mc_66 rt 17 L st w = iv_p2 st fun x y st' => if ¬ x = y then iv_V call mc_66 rt 20 L (st') w else iv_V call mc_66 rt 18 L (st') w := (iv_V_eq (I := (((27, 3), .if_icmp .ne 5, 20, 0, 0) : iv_I)) rfl).trans (by simp only [iv_go, iv_cnd, decide_eq_true_eq])
theorem e66_18 : iv_V call mc_66 rt 18 L st w = iv_V call mc_66 rt 19 L (.int 1 :: st) w := (iv_V_eq (I := (((30, 1), .iconst 1, 0, 0, 0) : iv_I)) rfl).trans (congrArg (fun c => iv_V call mc_66 rt 19 L (.int c :: st) w) li_o1)
theorem e66_19 : iv_V call mc_66 rt 19 L st w = iv_ret rt st w := iv_V_eq (I := (((31, 1), .ireturn, 0, 0, 0) : iv_I)) rfl
theorem e66_20 : iv_V call mc_66 rt 20 L st w = iv_ldi L 3 fun x => iv_sto L 3 (.int (x + 1)) fun L' => iv_V call mc_66 rt 21 L' (st) w := (iv_V_eq (I := (((32, 3), .iinc 3 1, 0, 0, 0) : iv_I)) rfl).trans (congrArg (fun c => iv_ldi L 3 fun x => iv_sto L 3 (.int (x + c)) fun L' => iv_V call mc_66 rt 21 L' (st) w) li_o1)
theorem e66_21 : iv_V call mc_66 rt 21 L st w = iv_V call mc_66 rt 2 L (st) w := iv_V_eq (I := (((35, 3), .goto (-33), 2, 0, 0) : iv_I)) rfl
theorem e66_22 : iv_V call mc_66 rt 22 L st w = iv_V call mc_66 rt 23 L (.int 0 :: st) w := (iv_V_eq (I := (((38, 1), .iconst 0, 0, 0, 0) : iv_I)) rfl).trans (congrArg (fun c => iv_V call mc_66 rt 23 L (.int c :: st) w) li_o0)
theorem e66_23 : iv_V call mc_66 rt 23 L st w = iv_ret rt st w := iv_V_eq (I := (((39, 1), .ireturn, 0, 0, 0) : iv_I)) rfl
theorem e67_0 : iv_V call mc_67 rt 0 L st w = iv_lda L 0 fun x => iv_V call mc_67 rt 1 L (x :: st) w := iv_V_eq (I := (((0, 1), .aload_n 0, 0, 0, 0) : iv_I)) rfl
theorem e67_1 : iv_V call mc_67 rt 1 L st w = iv_gf w st 2 0 fun v st' => iv_V call mc_67 rt 2 L (v :: st') w := iv_V_eq (I := (((1, 3), .getfield 9, 2, 0, 247) : iv_I)) rfl
theorem e67_2 : iv_V call mc_67 rt 2 L st w = iv_gf w st 10 2 fun v st' => iv_V call mc_67 rt 3 L (v :: st') w := iv_V_eq (I := (((4, 3), .getfield 53, 10, 2, 84) : iv_I)) rfl
theorem e67_3 : iv_V call mc_67 rt 3 L st w = iv_lda L 0 fun x => iv_V call mc_67 rt 4 L (x :: st) w := iv_V_eq (I := (((7, 1), .aload_n 0, 0, 0, 0) : iv_I)) rfl
theorem e67_4 : iv_V call mc_67 rt 4 L st w = iv_gf w st 2 3 fun v st' => iv_V call mc_67 rt 5 L (v :: st') w := iv_V_eq (I := (((8, 3), .getfield 23, 2, 3, 250) : iv_I)) rfl
theorem e67_5 : iv_V call mc_67 rt 5 L st w = iv_gf w st 11 1 fun v st' => iv_V call mc_67 rt 6 L (v :: st') w := iv_V_eq (I := (((11, 3), .getfield 59, 11, 1, 191) : iv_I)) rfl
theorem e67_6 : iv_V call mc_67 rt 6 L st w = iv_ldi L 1 fun x => iv_V call mc_67 rt 7 L (.int x :: st) w := iv_V_eq (I := (((14, 1), .iload_n 1, 0, 0, 0) : iv_I)) rfl
theorem e67_7 : iv_V call mc_67 rt 7 L st w = iv_ald w st iv_isI fun v st' => iv_V call mc_67 rt 8 L (v :: st') w := iv_V_eq (I := (((15, 1), .iaload, 0, 0, 0) : iv_I)) rfl
theorem e67_8 : iv_V call mc_67 rt 8 L st w = iv_ald w st iv_isA fun v st' => iv_V call mc_67 rt 9 L (v :: st') w := iv_V_eq (I := (((16, 1), .aaload, 0, 0, 0) : iv_I)) rfl
theorem e67_9 : iv_V call mc_67 rt 9 L st w = iv_as st fun a st' => iv_sto L 3 (.ref a) fun L' => iv_V call mc_67 rt 10 L' (st') w := iv_V_eq (I := (((17, 1), .astore_n 3, 0, 0, 0) : iv_I)) rfl
theorem e67_10 : iv_V call mc_67 rt 10 L st w = iv_ldi L 2 fun x => iv_V call mc_67 rt 11 L (.int x :: st) w := iv_V_eq (I := (((18, 1), .iload_n 2, 0, 0, 0) : iv_I)) rfl
theorem e67_11 : iv_V call mc_67 rt 11 L st w = iv_p1 st fun x st' => if ¬ x = 0 then iv_V call mc_67 rt 15 L (st') w else iv_V call mc_67 rt 12 L (st') w := (iv_V_eq (I := (((19, 3), .ifCond .ne 10, 15, 0, 0) : iv_I)) rfl).trans (by simp only [iv_go, iv_cnd, decide_eq_true_eq])
theorem e67_12 : iv_V call mc_67 rt 12 L st w = iv_lda L 3 fun x => iv_V call mc_67 rt 13 L (x :: st) w := iv_V_eq (I := (((22, 1), .aload_n 3, 0, 0, 0) : iv_I)) rfl
theorem e67_13 : iv_V call mc_67 rt 13 L st w = iv_gf w st 7 1 fun v st' => iv_V call mc_67 rt 14 L (v :: st') w := iv_V_eq (I := (((23, 3), .getfield 64, 7, 1, 70) : iv_I)) rfl
theorem e67_14 : iv_V call mc_67 rt 14 L st w = iv_p1 st fun x st' => if ¬ x = 0 then iv_V call mc_67 rt 20 L (st') w else iv_V call mc_67 rt 15 L (st') w := (iv_V_eq (I := (((26, 3), .ifCond .ne 10, 20, 0, 0) : iv_I)) rfl).trans (by simp only [iv_go, iv_cnd, decide_eq_true_eq])
theorem e67_15 : iv_V call mc_67 rt 15 L st w = iv_lda L 0 fun x => iv_V call mc_67 rt 16 L (x :: st) w := iv_V_eq (I := (((29, 1), .aload_n 0, 0, 0, 0) : iv_I)) rfl
theorem e67_16 : iv_V call mc_67 rt 16 L st w = iv_ldi L 1 fun x => iv_V call mc_67 rt 17 L (.int x :: st) w := iv_V_eq (I := (((30, 1), .iload_n 1, 0, 0, 0) : iv_I)) rfl
theorem e67_17 : iv_V call mc_67 rt 17 L st w = iv_ldi L 2 fun x => iv_V call mc_67 rt 18 L (.int x :: st) w := iv_V_eq (I := (((31, 1), .iload_n 2, 0, 0, 0) : iv_I)) rfl
theorem e67_18 : iv_V call mc_67 rt 18 L st w = iv_inv call 69 3 (fun as => iv_rc w as (iv_mc 69)) st w fun st' w' => iv_V call mc_67 rt 19 L (st') w' := iv_V_eq (I := (((32, 3), .invokevirtual 69, 69, 3, 496) : iv_I)) rfl
theorem e67_19 : iv_V call mc_67 rt 19 L st w = iv_ret rt st w := iv_V_eq (I := (((35, 1), .ireturn, 0, 0, 0) : iv_I)) rfl
theorem e67_20 : iv_V call mc_67 rt 20 L st w = iv_lda L 0 fun x => iv_V call mc_67 rt 21 L (x :: st) w := iv_V_eq (I := (((36, 1), .aload_n 0, 0, 0, 0) : iv_I)) rfl
theorem e67_21 : iv_V call mc_67 rt 21 L st w = iv_lda L 3 fun x => iv_V call mc_67 rt 22 L (x :: st) w := iv_V_eq (I := (((37, 1), .aload_n 3, 0, 0, 0) : iv_I)) rfl
theorem e67_22 : iv_V call mc_67 rt 22 L st w = iv_inv call 68 2 (fun as => iv_rc w as (iv_mc 68)) st w fun st' w' => iv_V call mc_67 rt 23 L (st') w' := iv_V_eq (I := (((38, 3), .invokevirtual 72, 68, 2, 548) : iv_I)) rfl
theorem e67_23 : iv_V call mc_67 rt 23 L st w = iv_p1 st fun x st' => if ¬ x = 0 then iv_V call mc_67 rt 26 L (st') w else iv_V call mc_67 rt 24 L (st') w := (iv_V_eq (I := (((41, 3), .ifCond .ne 6, 26, 0, 0) : iv_I)) rfl).trans (by simp only [iv_go, iv_cnd, decide_eq_true_eq])
theorem e67_24 : iv_V call mc_67 rt 24 L st w = iv_V call mc_67 rt 25 L (.int (-3) :: st) w := (iv_V_eq (I := (((44, 2), .bipush (-3), 0, 0, 0) : iv_I)) rfl).trans (congrArg (fun c => iv_V call mc_67 rt 25 L (.int c :: st) w) li_bm3)
theorem e67_25 : iv_V call mc_67 rt 25 L st w = iv_ret rt st w := iv_V_eq (I := (((46, 1), .ireturn, 0, 0, 0) : iv_I)) rfl
theorem e67_26 : iv_V call mc_67 rt 26 L st w = iv_lda L 0 fun x => iv_V call mc_67 rt 27 L (x :: st) w := iv_V_eq (I := (((47, 1), .aload_n 0, 0, 0, 0) : iv_I)) rfl
theorem e67_27 : iv_V call mc_67 rt 27 L st w = iv_gf w st 2 4 fun v st' => iv_V call mc_67 rt 28 L (v :: st') w := iv_V_eq (I := (((48, 3), .getfield 27, 2, 4, 251) : iv_I)) rfl
theorem e67_28 : iv_V call mc_67 rt 28 L st w = iv_gf w st 6 0 fun v st' => iv_V call mc_67 rt 29 L (v :: st') w := iv_V_eq (I := (((51, 3), .getfield 76, 6, 0, 216) : iv_I)) rfl
theorem e67_29 : iv_V call mc_67 rt 29 L st w = iv_p1 st fun x st' => iv_sto L 4 (.int x) fun L' => iv_V call mc_67 rt 30 L' (st') w := iv_V_eq (I := (((54, 2), .istore 4, 0, 0, 0) : iv_I)) rfl
theorem e67_30 : iv_V call mc_67 rt 30 L st w = iv_V call mc_67 rt 31 L (.int 0 :: st) w := (iv_V_eq (I := (((56, 1), .iconst 0, 0, 0, 0) : iv_I)) rfl).trans (congrArg (fun c => iv_V call mc_67 rt 31 L (.int c :: st) w) li_o0)
theorem e67_31 : iv_V call mc_67 rt 31 L st w = iv_p1 st fun x st' => iv_sto L 5 (.int x) fun L' => iv_V call mc_67 rt 32 L' (st') w := iv_V_eq (I := (((57, 2), .istore 5, 0, 0, 0) : iv_I)) rfl
theorem e67_32 : iv_V call mc_67 rt 32 L st w = iv_V call mc_67 rt 33 L (.int 0 :: st) w := (iv_V_eq (I := (((59, 1), .iconst 0, 0, 0, 0) : iv_I)) rfl).trans (congrArg (fun c => iv_V call mc_67 rt 33 L (.int c :: st) w) li_o0)
theorem e67_33 : iv_V call mc_67 rt 33 L st w = iv_p1 st fun x st' => iv_sto L 6 (.int x) fun L' => iv_V call mc_67 rt 34 L' (st') w := iv_V_eq (I := (((60, 2), .istore 6, 0, 0, 0) : iv_I)) rfl
theorem e67_34 : iv_V call mc_67 rt 34 L st w = iv_ldi L 6 fun x => iv_V call mc_67 rt 35 L (.int x :: st) w := iv_V_eq (I := (((62, 2), .iload 6, 0, 0, 0) : iv_I)) rfl
theorem e67_35 : iv_V call mc_67 rt 35 L st w = iv_lda L 3 fun x => iv_V call mc_67 rt 36 L (x :: st) w := iv_V_eq (I := (((64, 1), .aload_n 3, 0, 0, 0) : iv_I)) rfl
theorem e67_36 : iv_V call mc_67 rt 36 L st w = iv_gf w st 7 1 fun v st' => iv_V call mc_67 rt 37 L (v :: st') w := iv_V_eq (I := (((65, 3), .getfield 64, 7, 1, 70) : iv_I)) rfl
theorem e67_37 : iv_V call mc_67 rt 37 L st w = iv_p2 st fun x y st' => if y ≤ x then iv_V call mc_67 rt 62 L (st') w else iv_V call mc_67 rt 38 L (st') w := (iv_V_eq (I := (((68, 3), .if_icmp .ge 54, 62, 0, 0) : iv_I)) rfl).trans (by simp only [iv_go, iv_cnd, decide_eq_true_eq])
theorem e67_38 : iv_V call mc_67 rt 38 L st w = iv_ldi L 5 fun x => iv_V call mc_67 rt 39 L (.int x :: st) w := iv_V_eq (I := (((71, 2), .iload 5, 0, 0, 0) : iv_I)) rfl
theorem e67_39 : iv_V call mc_67 rt 39 L st w = iv_p1 st fun x st' => if ¬ x = 0 then iv_V call mc_67 rt 62 L (st') w else iv_V call mc_67 rt 40 L (st') w := (iv_V_eq (I := (((73, 3), .ifCond .ne 49, 62, 0, 0) : iv_I)) rfl).trans (by simp only [iv_go, iv_cnd, decide_eq_true_eq])
theorem e67_40 : iv_V call mc_67 rt 40 L st w = iv_lda L 0 fun x => iv_V call mc_67 rt 41 L (x :: st) w := iv_V_eq (I := (((76, 1), .aload_n 0, 0, 0, 0) : iv_I)) rfl
theorem e67_41 : iv_V call mc_67 rt 41 L st w = iv_gf w st 2 4 fun v st' => iv_V call mc_67 rt 42 L (v :: st') w := iv_V_eq (I := (((77, 3), .getfield 27, 2, 4, 251) : iv_I)) rfl
theorem e67_42 : iv_V call mc_67 rt 42 L st w = iv_gf w st 6 0 fun v st' => iv_V call mc_67 rt 43 L (v :: st') w := iv_V_eq (I := (((80, 3), .getfield 76, 6, 0, 216) : iv_I)) rfl
theorem e67_43 : iv_V call mc_67 rt 43 L st w = iv_ldi L 4 fun x => iv_V call mc_67 rt 44 L (.int x :: st) w := iv_V_eq (I := (((83, 2), .iload 4, 0, 0, 0) : iv_I)) rfl
theorem e67_44 : iv_V call mc_67 rt 44 L st w = iv_p2 st fun x y st' => if ¬ x = y then iv_V call mc_67 rt 62 L (st') w else iv_V call mc_67 rt 45 L (st') w := (iv_V_eq (I := (((85, 3), .if_icmp .ne 37, 62, 0, 0) : iv_I)) rfl).trans (by simp only [iv_go, iv_cnd, decide_eq_true_eq])
theorem e67_45 : iv_V call mc_67 rt 45 L st w = iv_lda L 3 fun x => iv_V call mc_67 rt 46 L (x :: st) w := iv_V_eq (I := (((88, 1), .aload_n 3, 0, 0, 0) : iv_I)) rfl
theorem e67_46 : iv_V call mc_67 rt 46 L st w = iv_gf w st 7 0 fun v st' => iv_V call mc_67 rt 47 L (v :: st') w := iv_V_eq (I := (((89, 3), .getfield 81, 7, 0, 65) : iv_I)) rfl
theorem e67_47 : iv_V call mc_67 rt 47 L st w = iv_ldi L 6 fun x => iv_V call mc_67 rt 48 L (.int x :: st) w := iv_V_eq (I := (((92, 2), .iload 6, 0, 0, 0) : iv_I)) rfl
theorem e67_48 : iv_V call mc_67 rt 48 L st w = iv_ald w st iv_isI fun v st' => iv_V call mc_67 rt 49 L (v :: st') w := iv_V_eq (I := (((94, 1), .iaload, 0, 0, 0) : iv_I)) rfl
theorem e67_49 : iv_V call mc_67 rt 49 L st w = iv_p1 st fun x st' => iv_sto L 7 (.int x) fun L' => iv_V call mc_67 rt 50 L' (st') w := iv_V_eq (I := (((95, 2), .istore 7, 0, 0, 0) : iv_I)) rfl
theorem e67_50 : iv_V call mc_67 rt 50 L st w = iv_lda L 0 fun x => iv_V call mc_67 rt 51 L (x :: st) w := iv_V_eq (I := (((97, 1), .aload_n 0, 0, 0, 0) : iv_I)) rfl
theorem e67_51 : iv_V call mc_67 rt 51 L st w = iv_ldi L 1 fun x => iv_V call mc_67 rt 52 L (.int x :: st) w := iv_V_eq (I := (((98, 1), .iload_n 1, 0, 0, 0) : iv_I)) rfl
theorem e67_52 : iv_V call mc_67 rt 52 L st w = iv_ldi L 7 fun x => iv_V call mc_67 rt 53 L (.int x :: st) w := iv_V_eq (I := (((99, 2), .iload 7, 0, 0, 0) : iv_I)) rfl
theorem e67_53 : iv_V call mc_67 rt 53 L st w = iv_V call mc_67 rt 54 L (.int (-1) :: st) w := (iv_V_eq (I := (((101, 1), .iconst (-1), 0, 0, 0) : iv_I)) rfl).trans (congrArg (fun c => iv_V call mc_67 rt 54 L (.int c :: st) w) li_om1)
theorem e67_54 : iv_V call mc_67 rt 54 L st w = iv_p2 st fun x y st' => if ¬ x = y then iv_V call mc_67 rt 57 L (st') w else iv_V call mc_67 rt 55 L (st') w := (iv_V_eq (I := (((102, 3), .if_icmp .ne 7, 57, 0, 0) : iv_I)) rfl).trans (by simp only [iv_go, iv_cnd, decide_eq_true_eq])
theorem e67_55 : iv_V call mc_67 rt 55 L st w = iv_V call mc_67 rt 56 L (.int 0 :: st) w := (iv_V_eq (I := (((105, 1), .iconst 0, 0, 0, 0) : iv_I)) rfl).trans (congrArg (fun c => iv_V call mc_67 rt 56 L (.int c :: st) w) li_o0)
theorem e67_56 : iv_V call mc_67 rt 56 L st w = iv_V call mc_67 rt 58 L (st) w := iv_V_eq (I := (((106, 3), .goto 5, 58, 0, 0) : iv_I)) rfl
theorem e67_57 : iv_V call mc_67 rt 57 L st w = iv_ldi L 7 fun x => iv_V call mc_67 rt 58 L (.int x :: st) w := iv_V_eq (I := (((109, 2), .iload 7, 0, 0, 0) : iv_I)) rfl
theorem e67_58 : iv_V call mc_67 rt 58 L st w = iv_inv call 69 3 (fun as => iv_rc w as (iv_mc 69)) st w fun st' w' => iv_V call mc_67 rt 59 L (st') w' := iv_V_eq (I := (((111, 3), .invokevirtual 69, 69, 3, 496) : iv_I)) rfl
theorem e67_59 : iv_V call mc_67 rt 59 L st w = iv_p1 st fun x st' => iv_sto L 5 (.int x) fun L' => iv_V call mc_67 rt 60 L' (st') w := iv_V_eq (I := (((114, 2), .istore 5, 0, 0, 0) : iv_I)) rfl
theorem e67_60 : iv_V call mc_67 rt 60 L st w = iv_ldi L 6 fun x => iv_sto L 6 (.int (x + 1)) fun L' => iv_V call mc_67 rt 61 L' (st) w := (iv_V_eq (I := (((116, 3), .iinc 6 1, 0, 0, 0) : iv_I)) rfl).trans (congrArg (fun c => iv_ldi L 6 fun x => iv_sto L 6 (.int (x + c)) fun L' => iv_V call mc_67 rt 61 L' (st) w) li_o1)
theorem e67_61 : iv_V call mc_67 rt 61 L st w = iv_V call mc_67 rt 34 L (st) w := iv_V_eq (I := (((119, 3), .goto (-57), 34, 0, 0) : iv_I)) rfl
theorem e67_62 : iv_V call mc_67 rt 62 L st w = iv_ldi L 5 fun x => iv_V call mc_67 rt 63 L (.int x :: st) w := iv_V_eq (I := (((122, 2), .iload 5, 0, 0, 0) : iv_I)) rfl
theorem e67_63 : iv_V call mc_67 rt 63 L st w = iv_ret rt st w := iv_V_eq (I := (((124, 1), .ireturn, 0, 0, 0) : iv_I)) rfl
theorem e68_0 : iv_V call mc_68 rt 0 L st w = iv_V call mc_68 rt 1 L (.int 0 :: st) w := (iv_V_eq (I := (((0, 1), .iconst 0, 0, 0, 0) : iv_I)) rfl).trans (congrArg (fun c => iv_V call mc_68 rt 1 L (.int c :: st) w) li_o0)
theorem e68_1 : iv_V call mc_68 rt 1 L st w = iv_p1 st fun x st' => iv_sto L 2 (.int x) fun L' => iv_V call mc_68 rt 2 L' (st') w := iv_V_eq (I := (((1, 1), .istore_n 2, 0, 0, 0) : iv_I)) rfl
theorem e68_2 : iv_V call mc_68 rt 2 L st w = iv_V call mc_68 rt 3 L (.int 0 :: st) w := (iv_V_eq (I := (((2, 1), .iconst 0, 0, 0, 0) : iv_I)) rfl).trans (congrArg (fun c => iv_V call mc_68 rt 3 L (.int c :: st) w) li_o0)
theorem e68_3 : iv_V call mc_68 rt 3 L st w = iv_p1 st fun x st' => iv_sto L 3 (.int x) fun L' => iv_V call mc_68 rt 4 L' (st') w := iv_V_eq (I := (((3, 1), .istore_n 3, 0, 0, 0) : iv_I)) rfl
theorem e68_4 : iv_V call mc_68 rt 4 L st w = iv_ldi L 3 fun x => iv_V call mc_68 rt 5 L (.int x :: st) w := iv_V_eq (I := (((4, 1), .iload_n 3, 0, 0, 0) : iv_I)) rfl
theorem e68_5 : iv_V call mc_68 rt 5 L st w = iv_lda L 1 fun x => iv_V call mc_68 rt 6 L (x :: st) w := iv_V_eq (I := (((5, 1), .aload_n 1, 0, 0, 0) : iv_I)) rfl
theorem e68_6 : iv_V call mc_68 rt 6 L st w = iv_gf w st 7 1 fun v st' => iv_V call mc_68 rt 7 L (v :: st') w := iv_V_eq (I := (((6, 3), .getfield 64, 7, 1, 70) : iv_I)) rfl
theorem e68_7 : iv_V call mc_68 rt 7 L st w = iv_p2 st fun x y st' => if y ≤ x then iv_V call mc_68 rt 24 L (st') w else iv_V call mc_68 rt 8 L (st') w := (iv_V_eq (I := (((9, 3), .if_icmp .ge 33, 24, 0, 0) : iv_I)) rfl).trans (by simp only [iv_go, iv_cnd, decide_eq_true_eq])
theorem e68_8 : iv_V call mc_68 rt 8 L st w = iv_lda L 1 fun x => iv_V call mc_68 rt 9 L (x :: st) w := iv_V_eq (I := (((12, 1), .aload_n 1, 0, 0, 0) : iv_I)) rfl
theorem e68_9 : iv_V call mc_68 rt 9 L st w = iv_gf w st 7 0 fun v st' => iv_V call mc_68 rt 10 L (v :: st') w := iv_V_eq (I := (((13, 3), .getfield 81, 7, 0, 65) : iv_I)) rfl
theorem e68_10 : iv_V call mc_68 rt 10 L st w = iv_ldi L 3 fun x => iv_V call mc_68 rt 11 L (.int x :: st) w := iv_V_eq (I := (((16, 1), .iload_n 3, 0, 0, 0) : iv_I)) rfl
theorem e68_11 : iv_V call mc_68 rt 11 L st w = iv_ald w st iv_isI fun v st' => iv_V call mc_68 rt 12 L (v :: st') w := iv_V_eq (I := (((17, 1), .iaload, 0, 0, 0) : iv_I)) rfl
theorem e68_12 : iv_V call mc_68 rt 12 L st w = iv_p1 st fun x st' => if ¬ x = 0 then iv_V call mc_68 rt 15 L (st') w else iv_V call mc_68 rt 13 L (st') w := (iv_V_eq (I := (((18, 3), .ifCond .ne 5, 15, 0, 0) : iv_I)) rfl).trans (by simp only [iv_go, iv_cnd, decide_eq_true_eq])
theorem e68_13 : iv_V call mc_68 rt 13 L st w = iv_V call mc_68 rt 14 L (.int 0 :: st) w := (iv_V_eq (I := (((21, 1), .iconst 0, 0, 0, 0) : iv_I)) rfl).trans (congrArg (fun c => iv_V call mc_68 rt 14 L (.int c :: st) w) li_o0)
theorem e68_14 : iv_V call mc_68 rt 14 L st w = iv_ret rt st w := iv_V_eq (I := (((22, 1), .ireturn, 0, 0, 0) : iv_I)) rfl
theorem e68_15 : iv_V call mc_68 rt 15 L st w = iv_lda L 1 fun x => iv_V call mc_68 rt 16 L (x :: st) w := iv_V_eq (I := (((23, 1), .aload_n 1, 0, 0, 0) : iv_I)) rfl
theorem e68_16 : iv_V call mc_68 rt 16 L st w = iv_gf w st 7 0 fun v st' => iv_V call mc_68 rt 17 L (v :: st') w := iv_V_eq (I := (((24, 3), .getfield 81, 7, 0, 65) : iv_I)) rfl
theorem e68_17 : iv_V call mc_68 rt 17 L st w = iv_ldi L 3 fun x => iv_V call mc_68 rt 18 L (.int x :: st) w := iv_V_eq (I := (((27, 1), .iload_n 3, 0, 0, 0) : iv_I)) rfl
theorem e68_18 : iv_V call mc_68 rt 18 L st w = iv_ald w st iv_isI fun v st' => iv_V call mc_68 rt 19 L (v :: st') w := iv_V_eq (I := (((28, 1), .iaload, 0, 0, 0) : iv_I)) rfl
theorem e68_19 : iv_V call mc_68 rt 19 L st w = iv_V call mc_68 rt 20 L (.int (-1) :: st) w := (iv_V_eq (I := (((29, 1), .iconst (-1), 0, 0, 0) : iv_I)) rfl).trans (congrArg (fun c => iv_V call mc_68 rt 20 L (.int c :: st) w) li_om1)
theorem e68_20 : iv_V call mc_68 rt 20 L st w = iv_p2 st fun x y st' => if ¬ x = y then iv_V call mc_68 rt 22 L (st') w else iv_V call mc_68 rt 21 L (st') w := (iv_V_eq (I := (((30, 3), .if_icmp .ne 6, 22, 0, 0) : iv_I)) rfl).trans (by simp only [iv_go, iv_cnd, decide_eq_true_eq])
theorem e68_21 : iv_V call mc_68 rt 21 L st w = iv_ldi L 2 fun x => iv_sto L 2 (.int (x + 1)) fun L' => iv_V call mc_68 rt 22 L' (st) w := (iv_V_eq (I := (((33, 3), .iinc 2 1, 0, 0, 0) : iv_I)) rfl).trans (congrArg (fun c => iv_ldi L 2 fun x => iv_sto L 2 (.int (x + c)) fun L' => iv_V call mc_68 rt 22 L' (st) w) li_o1)
theorem e68_22 : iv_V call mc_68 rt 22 L st w = iv_ldi L 3 fun x => iv_sto L 3 (.int (x + 1)) fun L' => iv_V call mc_68 rt 23 L' (st) w := (iv_V_eq (I := (((36, 3), .iinc 3 1, 0, 0, 0) : iv_I)) rfl).trans (congrArg (fun c => iv_ldi L 3 fun x => iv_sto L 3 (.int (x + c)) fun L' => iv_V call mc_68 rt 23 L' (st) w) li_o1)
theorem e68_23 : iv_V call mc_68 rt 23 L st w = iv_V call mc_68 rt 4 L (st) w := iv_V_eq (I := (((39, 3), .goto (-35), 4, 0, 0) : iv_I)) rfl
theorem e68_24 : iv_V call mc_68 rt 24 L st w = iv_ldi L 2 fun x => iv_V call mc_68 rt 25 L (.int x :: st) w := iv_V_eq (I := (((42, 1), .iload_n 2, 0, 0, 0) : iv_I)) rfl
theorem e68_25 : iv_V call mc_68 rt 25 L st w = iv_V call mc_68 rt 26 L (.int 1 :: st) w := (iv_V_eq (I := (((43, 1), .iconst 1, 0, 0, 0) : iv_I)) rfl).trans (congrArg (fun c => iv_V call mc_68 rt 26 L (.int c :: st) w) li_o1)
theorem e68_26 : iv_V call mc_68 rt 26 L st w = iv_p2 st fun x y st' => if ¬ x = y then iv_V call mc_68 rt 29 L (st') w else iv_V call mc_68 rt 27 L (st') w := (iv_V_eq (I := (((44, 3), .if_icmp .ne 7, 29, 0, 0) : iv_I)) rfl).trans (by simp only [iv_go, iv_cnd, decide_eq_true_eq])
theorem e68_27 : iv_V call mc_68 rt 27 L st w = iv_V call mc_68 rt 28 L (.int 1 :: st) w := (iv_V_eq (I := (((47, 1), .iconst 1, 0, 0, 0) : iv_I)) rfl).trans (congrArg (fun c => iv_V call mc_68 rt 28 L (.int c :: st) w) li_o1)
theorem e68_28 : iv_V call mc_68 rt 28 L st w = iv_V call mc_68 rt 30 L (st) w := iv_V_eq (I := (((48, 3), .goto 4, 30, 0, 0) : iv_I)) rfl
theorem e68_29 : iv_V call mc_68 rt 29 L st w = iv_V call mc_68 rt 30 L (.int 0 :: st) w := (iv_V_eq (I := (((51, 1), .iconst 0, 0, 0, 0) : iv_I)) rfl).trans (congrArg (fun c => iv_V call mc_68 rt 30 L (.int c :: st) w) li_o0)
theorem e68_30 : iv_V call mc_68 rt 30 L st w = iv_ret rt st w := iv_V_eq (I := (((52, 1), .ireturn, 0, 0, 0) : iv_I)) rfl
theorem e69_0 : iv_V call mc_69 rt 0 L st w = iv_lda L 0 fun x => iv_V call mc_69 rt 1 L (x :: st) w := iv_V_eq (I := (((0, 1), .aload_n 0, 0, 0, 0) : iv_I)) rfl
theorem e69_1 : iv_V call mc_69 rt 1 L st w = iv_gf w st 2 0 fun v st' => iv_V call mc_69 rt 2 L (v :: st') w := iv_V_eq (I := (((1, 3), .getfield 9, 2, 0, 247) : iv_I)) rfl
theorem e69_2 : iv_V call mc_69 rt 2 L st w = iv_lda L 0 fun x => iv_V call mc_69 rt 3 L (x :: st) w := iv_V_eq (I := (((4, 1), .aload_n 0, 0, 0, 0) : iv_I)) rfl
theorem e69_3 : iv_V call mc_69 rt 3 L st w = iv_gf w st 2 3 fun v st' => iv_V call mc_69 rt 4 L (v :: st') w := iv_V_eq (I := (((5, 3), .getfield 23, 2, 3, 250) : iv_I)) rfl
theorem e69_4 : iv_V call mc_69 rt 4 L st w = iv_gf w st 11 1 fun v st' => iv_V call mc_69 rt 5 L (v :: st') w := iv_V_eq (I := (((8, 3), .getfield 59, 11, 1, 191) : iv_I)) rfl
theorem e69_5 : iv_V call mc_69 rt 5 L st w = iv_ldi L 1 fun x => iv_V call mc_69 rt 6 L (.int x :: st) w := iv_V_eq (I := (((11, 1), .iload_n 1, 0, 0, 0) : iv_I)) rfl
theorem e69_6 : iv_V call mc_69 rt 6 L st w = iv_ald w st iv_isI fun v st' => iv_V call mc_69 rt 7 L (v :: st') w := iv_V_eq (I := (((12, 1), .iaload, 0, 0, 0) : iv_I)) rfl
theorem e69_7 : iv_V call mc_69 rt 7 L st w = iv_inv call 107 2 (fun as => iv_rc w as (iv_mc 107)) st w fun st' w' => iv_V call mc_69 rt 8 L (st') w' := iv_V_eq (I := (((13, 3), .invokevirtual 84, 107, 2, 500) : iv_I)) rfl
theorem e69_8 : iv_V call mc_69 rt 8 L st w = iv_p1 st fun x st' => iv_sto L 3 (.int x) fun L' => iv_V call mc_69 rt 9 L' (st') w := iv_V_eq (I := (((16, 1), .istore_n 3, 0, 0, 0) : iv_I)) rfl
theorem e69_9 : iv_V call mc_69 rt 9 L st w = iv_lda L 0 fun x => iv_V call mc_69 rt 10 L (x :: st) w := iv_V_eq (I := (((17, 1), .aload_n 0, 0, 0, 0) : iv_I)) rfl
theorem e69_10 : iv_V call mc_69 rt 10 L st w = iv_ldi L 1 fun x => iv_V call mc_69 rt 11 L (.int x :: st) w := iv_V_eq (I := (((18, 1), .iload_n 1, 0, 0, 0) : iv_I)) rfl
theorem e69_11 : iv_V call mc_69 rt 11 L st w = iv_ldi L 3 fun x => iv_V call mc_69 rt 12 L (.int x :: st) w := iv_V_eq (I := (((19, 1), .iload_n 3, 0, 0, 0) : iv_I)) rfl
theorem e69_12 : iv_V call mc_69 rt 12 L st w = iv_ldi L 2 fun x => iv_V call mc_69 rt 13 L (.int x :: st) w := iv_V_eq (I := (((20, 1), .iload_n 2, 0, 0, 0) : iv_I)) rfl
theorem e69_13 : iv_V call mc_69 rt 13 L st w = iv_inv call 72 4 (fun as => iv_rc w as (iv_mc 72)) st w fun st' w' => iv_V call mc_69 rt 14 L (st') w' := iv_V_eq (I := (((21, 3), .invokevirtual 88, 72, 4, 505) : iv_I)) rfl
theorem e69_14 : iv_V call mc_69 rt 14 L st w = iv_p1 st fun x st' => iv_sto L 4 (.int x) fun L' => iv_V call mc_69 rt 15 L' (st') w := iv_V_eq (I := (((24, 2), .istore 4, 0, 0, 0) : iv_I)) rfl
theorem e69_15 : iv_V call mc_69 rt 15 L st w = iv_V call mc_69 rt 16 L (.int 0 :: st) w := (iv_V_eq (I := (((26, 1), .iconst 0, 0, 0, 0) : iv_I)) rfl).trans (congrArg (fun c => iv_V call mc_69 rt 16 L (.int c :: st) w) li_o0)
theorem e69_16 : iv_V call mc_69 rt 16 L st w = iv_p1 st fun x st' => iv_sto L 5 (.int x) fun L' => iv_V call mc_69 rt 17 L' (st') w := iv_V_eq (I := (((27, 2), .istore 5, 0, 0, 0) : iv_I)) rfl
theorem e69_17 : iv_V call mc_69 rt 17 L st w = iv_ldi L 5 fun x => iv_V call mc_69 rt 18 L (.int x :: st) w := iv_V_eq (I := (((29, 2), .iload 5, 0, 0, 0) : iv_I)) rfl
theorem e69_18 : iv_V call mc_69 rt 18 L st w = iv_lda L 0 fun x => iv_V call mc_69 rt 19 L (x :: st) w := iv_V_eq (I := (((31, 1), .aload_n 0, 0, 0, 0) : iv_I)) rfl
theorem e69_19 : iv_V call mc_69 rt 19 L st w = iv_gf w st 2 0 fun v st' => iv_V call mc_69 rt 20 L (v :: st') w := iv_V_eq (I := (((32, 3), .getfield 9, 2, 0, 247) : iv_I)) rfl
theorem e69_20 : iv_V call mc_69 rt 20 L st w = iv_gf w st 10 3 fun v st' => iv_V call mc_69 rt 21 L (v :: st') w := iv_V_eq (I := (((35, 3), .getfield 92, 10, 3, 87) : iv_I)) rfl
theorem e69_21 : iv_V call mc_69 rt 21 L st w = iv_p2 st fun x y st' => if y ≤ x then iv_V call mc_69 rt 50 L (st') w else iv_V call mc_69 rt 22 L (st') w := (iv_V_eq (I := (((38, 3), .if_icmp .ge 57, 50, 0, 0) : iv_I)) rfl).trans (by simp only [iv_go, iv_cnd, decide_eq_true_eq])
theorem e69_22 : iv_V call mc_69 rt 22 L st w = iv_ldi L 4 fun x => iv_V call mc_69 rt 23 L (.int x :: st) w := iv_V_eq (I := (((41, 2), .iload 4, 0, 0, 0) : iv_I)) rfl
theorem e69_23 : iv_V call mc_69 rt 23 L st w = iv_p1 st fun x st' => if ¬ x = 0 then iv_V call mc_69 rt 50 L (st') w else iv_V call mc_69 rt 24 L (st') w := (iv_V_eq (I := (((43, 3), .ifCond .ne 52, 50, 0, 0) : iv_I)) rfl).trans (by simp only [iv_go, iv_cnd, decide_eq_true_eq])
theorem e69_24 : iv_V call mc_69 rt 24 L st w = iv_lda L 0 fun x => iv_V call mc_69 rt 25 L (x :: st) w := iv_V_eq (I := (((46, 1), .aload_n 0, 0, 0, 0) : iv_I)) rfl
theorem e69_25 : iv_V call mc_69 rt 25 L st w = iv_gf w st 2 0 fun v st' => iv_V call mc_69 rt 26 L (v :: st') w := iv_V_eq (I := (((47, 3), .getfield 9, 2, 0, 247) : iv_I)) rfl
theorem e69_26 : iv_V call mc_69 rt 26 L st w = iv_gf w st 10 6 fun v st' => iv_V call mc_69 rt 27 L (v :: st') w := iv_V_eq (I := (((50, 3), .getfield 95, 10, 6, 93) : iv_I)) rfl
theorem e69_27 : iv_V call mc_69 rt 27 L st w = iv_ldi L 5 fun x => iv_V call mc_69 rt 28 L (.int x :: st) w := iv_V_eq (I := (((53, 2), .iload 5, 0, 0, 0) : iv_I)) rfl
theorem e69_28 : iv_V call mc_69 rt 28 L st w = iv_ald w st iv_isZ fun v st' => iv_V call mc_69 rt 29 L (v :: st') w := iv_V_eq (I := (((55, 1), .baload, 0, 0, 0) : iv_I)) rfl
theorem e69_29 : iv_V call mc_69 rt 29 L st w = iv_p1 st fun x st' => if x = 0 then iv_V call mc_69 rt 48 L (st') w else iv_V call mc_69 rt 30 L (st') w := (iv_V_eq (I := (((56, 3), .ifCond .eq 33, 48, 0, 0) : iv_I)) rfl).trans (by simp only [iv_go, iv_cnd, decide_eq_true_eq])
theorem e69_30 : iv_V call mc_69 rt 30 L st w = iv_ldi L 3 fun x => iv_V call mc_69 rt 31 L (.int x :: st) w := iv_V_eq (I := (((59, 1), .iload_n 3, 0, 0, 0) : iv_I)) rfl
theorem e69_31 : iv_V call mc_69 rt 31 L st w = iv_ldi L 5 fun x => iv_V call mc_69 rt 32 L (.int x :: st) w := iv_V_eq (I := (((60, 2), .iload 5, 0, 0, 0) : iv_I)) rfl
theorem e69_32 : iv_V call mc_69 rt 32 L st w = iv_p2 st fun x y st' => iv_V call mc_69 rt 33 L (.int (x >>> (y &&& 31)) :: st') w := iv_V_eq (I := (((62, 1), .ishr, 0, 0, 0) : iv_I)) rfl
theorem e69_33 : iv_V call mc_69 rt 33 L st w = iv_V call mc_69 rt 34 L (.int 1 :: st) w := (iv_V_eq (I := (((63, 1), .iconst 1, 0, 0, 0) : iv_I)) rfl).trans (congrArg (fun c => iv_V call mc_69 rt 34 L (.int c :: st) w) li_o1)
theorem e69_34 : iv_V call mc_69 rt 34 L st w = iv_p2 st fun x y st' => iv_V call mc_69 rt 35 L (.int (x &&& y) :: st') w := iv_V_eq (I := (((64, 1), .iand, 0, 0, 0) : iv_I)) rfl
theorem e69_35 : iv_V call mc_69 rt 35 L st w = iv_p1 st fun x st' => if x = 0 then iv_V call mc_69 rt 48 L (st') w else iv_V call mc_69 rt 36 L (st') w := (iv_V_eq (I := (((65, 3), .ifCond .eq 24, 48, 0, 0) : iv_I)) rfl).trans (by simp only [iv_go, iv_cnd, decide_eq_true_eq])
theorem e69_36 : iv_V call mc_69 rt 36 L st w = iv_lda L 0 fun x => iv_V call mc_69 rt 37 L (x :: st) w := iv_V_eq (I := (((68, 1), .aload_n 0, 0, 0, 0) : iv_I)) rfl
theorem e69_37 : iv_V call mc_69 rt 37 L st w = iv_ldi L 1 fun x => iv_V call mc_69 rt 38 L (.int x :: st) w := iv_V_eq (I := (((69, 1), .iload_n 1, 0, 0, 0) : iv_I)) rfl
theorem e69_38 : iv_V call mc_69 rt 38 L st w = iv_ldi L 5 fun x => iv_V call mc_69 rt 39 L (.int x :: st) w := iv_V_eq (I := (((70, 2), .iload 5, 0, 0, 0) : iv_I)) rfl
theorem e69_39 : iv_V call mc_69 rt 39 L st w = iv_lda L 0 fun x => iv_V call mc_69 rt 40 L (x :: st) w := iv_V_eq (I := (((72, 1), .aload_n 0, 0, 0, 0) : iv_I)) rfl
theorem e69_40 : iv_V call mc_69 rt 40 L st w = iv_gf w st 2 0 fun v st' => iv_V call mc_69 rt 41 L (v :: st') w := iv_V_eq (I := (((73, 3), .getfield 9, 2, 0, 247) : iv_I)) rfl
theorem e69_41 : iv_V call mc_69 rt 41 L st w = iv_gf w st 10 7 fun v st' => iv_V call mc_69 rt 42 L (v :: st') w := iv_V_eq (I := (((76, 3), .getfield 99, 10, 7, 96) : iv_I)) rfl
theorem e69_42 : iv_V call mc_69 rt 42 L st w = iv_ldi L 5 fun x => iv_V call mc_69 rt 43 L (.int x :: st) w := iv_V_eq (I := (((79, 2), .iload 5, 0, 0, 0) : iv_I)) rfl
theorem e69_43 : iv_V call mc_69 rt 43 L st w = iv_ald w st iv_isA fun v st' => iv_V call mc_69 rt 44 L (v :: st') w := iv_V_eq (I := (((81, 1), .aaload, 0, 0, 0) : iv_I)) rfl
theorem e69_44 : iv_V call mc_69 rt 44 L st w = iv_ldi L 2 fun x => iv_V call mc_69 rt 45 L (.int x :: st) w := iv_V_eq (I := (((82, 1), .iload_n 2, 0, 0, 0) : iv_I)) rfl
theorem e69_45 : iv_V call mc_69 rt 45 L st w = iv_ald w st iv_isI fun v st' => iv_V call mc_69 rt 46 L (v :: st') w := iv_V_eq (I := (((83, 1), .iaload, 0, 0, 0) : iv_I)) rfl
theorem e69_46 : iv_V call mc_69 rt 46 L st w = iv_inv call 70 4 (fun as => iv_rc w as (iv_mc 70)) st w fun st' w' => iv_V call mc_69 rt 47 L (st') w' := iv_V_eq (I := (((84, 3), .invokevirtual 103, 70, 4, 538) : iv_I)) rfl
theorem e69_47 : iv_V call mc_69 rt 47 L st w = iv_p1 st fun x st' => iv_sto L 4 (.int x) fun L' => iv_V call mc_69 rt 48 L' (st') w := iv_V_eq (I := (((87, 2), .istore 4, 0, 0, 0) : iv_I)) rfl
theorem e69_48 : iv_V call mc_69 rt 48 L st w = iv_ldi L 5 fun x => iv_sto L 5 (.int (x + 1)) fun L' => iv_V call mc_69 rt 49 L' (st) w := (iv_V_eq (I := (((89, 3), .iinc 5 1, 0, 0, 0) : iv_I)) rfl).trans (congrArg (fun c => iv_ldi L 5 fun x => iv_sto L 5 (.int (x + c)) fun L' => iv_V call mc_69 rt 49 L' (st) w) li_o1)
theorem e69_49 : iv_V call mc_69 rt 49 L st w = iv_V call mc_69 rt 17 L (st) w := iv_V_eq (I := (((92, 3), .goto (-63), 17, 0, 0) : iv_I)) rfl
theorem e69_50 : iv_V call mc_69 rt 50 L st w = iv_ldi L 4 fun x => iv_V call mc_69 rt 51 L (.int x :: st) w := iv_V_eq (I := (((95, 2), .iload 4, 0, 0, 0) : iv_I)) rfl
theorem e69_51 : iv_V call mc_69 rt 51 L st w = iv_ret rt st w := iv_V_eq (I := (((97, 1), .ireturn, 0, 0, 0) : iv_I)) rfl
theorem e70_0 : iv_V call mc_70 rt 0 L st w = iv_lda L 0 fun x => iv_V call mc_70 rt 1 L (x :: st) w := iv_V_eq (I := (((0, 1), .aload_n 0, 0, 0, 0) : iv_I)) rfl
theorem e70_1 : iv_V call mc_70 rt 1 L st w = iv_gf w st 2 3 fun v st' => iv_V call mc_70 rt 2 L (v :: st') w := iv_V_eq (I := (((1, 3), .getfield 23, 2, 3, 250) : iv_I)) rfl
theorem e70_2 : iv_V call mc_70 rt 2 L st w = iv_gf w st 11 2 fun v st' => iv_V call mc_70 rt 3 L (v :: st') w := iv_V_eq (I := (((4, 3), .getfield 106, 11, 2, 194) : iv_I)) rfl
theorem e70_3 : iv_V call mc_70 rt 3 L st w = iv_ldi L 1 fun x => iv_V call mc_70 rt 4 L (.int x :: st) w := iv_V_eq (I := (((7, 1), .iload_n 1, 0, 0, 0) : iv_I)) rfl
theorem e70_4 : iv_V call mc_70 rt 4 L st w = iv_ald w st iv_isA fun v st' => iv_V call mc_70 rt 5 L (v :: st') w := iv_V_eq (I := (((8, 1), .aaload, 0, 0, 0) : iv_I)) rfl
theorem e70_5 : iv_V call mc_70 rt 5 L st w = iv_ldi L 2 fun x => iv_V call mc_70 rt 6 L (.int x :: st) w := iv_V_eq (I := (((9, 1), .iload_n 2, 0, 0, 0) : iv_I)) rfl
theorem e70_6 : iv_V call mc_70 rt 6 L st w = iv_ald w st iv_isI fun v st' => iv_V call mc_70 rt 7 L (v :: st') w := iv_V_eq (I := (((10, 1), .iaload, 0, 0, 0) : iv_I)) rfl
theorem e70_7 : iv_V call mc_70 rt 7 L st w = iv_p1 st fun x st' => iv_sto L 4 (.int x) fun L' => iv_V call mc_70 rt 8 L' (st') w := iv_V_eq (I := (((11, 2), .istore 4, 0, 0, 0) : iv_I)) rfl
theorem e70_8 : iv_V call mc_70 rt 8 L st w = iv_lda L 0 fun x => iv_V call mc_70 rt 9 L (x :: st) w := iv_V_eq (I := (((13, 1), .aload_n 0, 0, 0, 0) : iv_I)) rfl
theorem e70_9 : iv_V call mc_70 rt 9 L st w = iv_gf w st 2 0 fun v st' => iv_V call mc_70 rt 10 L (v :: st') w := iv_V_eq (I := (((14, 3), .getfield 9, 2, 0, 247) : iv_I)) rfl
theorem e70_10 : iv_V call mc_70 rt 10 L st w = iv_ldi L 2 fun x => iv_V call mc_70 rt 11 L (.int x :: st) w := iv_V_eq (I := (((17, 1), .iload_n 2, 0, 0, 0) : iv_I)) rfl
theorem e70_11 : iv_V call mc_70 rt 11 L st w = iv_inv call 104 2 (fun as => iv_rc w as (iv_mc 104)) st w fun st' w' => iv_V call mc_70 rt 12 L (st') w' := iv_V_eq (I := (((18, 3), .invokevirtual 109, 104, 2, 533) : iv_I)) rfl
theorem e70_12 : iv_V call mc_70 rt 12 L st w = iv_p1 st fun x st' => if ¬ x = 0 then iv_V call mc_70 rt 25 L (st') w else iv_V call mc_70 rt 13 L (st') w := (iv_V_eq (I := (((21, 3), .ifCond .ne 23, 25, 0, 0) : iv_I)) rfl).trans (by simp only [iv_go, iv_cnd, decide_eq_true_eq])
theorem e70_13 : iv_V call mc_70 rt 13 L st w = iv_ldi L 4 fun x => iv_V call mc_70 rt 14 L (.int x :: st) w := iv_V_eq (I := (((24, 2), .iload 4, 0, 0, 0) : iv_I)) rfl
theorem e70_14 : iv_V call mc_70 rt 14 L st w = iv_V call mc_70 rt 15 L (.int (-1) :: st) w := (iv_V_eq (I := (((26, 1), .iconst (-1), 0, 0, 0) : iv_I)) rfl).trans (congrArg (fun c => iv_V call mc_70 rt 15 L (.int c :: st) w) li_om1)
theorem e70_15 : iv_V call mc_70 rt 15 L st w = iv_p2 st fun x y st' => if ¬ x = y then iv_V call mc_70 rt 18 L (st') w else iv_V call mc_70 rt 16 L (st') w := (iv_V_eq (I := (((27, 3), .if_icmp .ne 7, 18, 0, 0) : iv_I)) rfl).trans (by simp only [iv_go, iv_cnd, decide_eq_true_eq])
theorem e70_16 : iv_V call mc_70 rt 16 L st w = iv_V call mc_70 rt 17 L (.int 0 :: st) w := (iv_V_eq (I := (((30, 1), .iconst 0, 0, 0, 0) : iv_I)) rfl).trans (congrArg (fun c => iv_V call mc_70 rt 17 L (.int c :: st) w) li_o0)
theorem e70_17 : iv_V call mc_70 rt 17 L st w = iv_V call mc_70 rt 24 L (st) w := iv_V_eq (I := (((31, 3), .goto 12, 24, 0, 0) : iv_I)) rfl
theorem e70_18 : iv_V call mc_70 rt 18 L st w = iv_lda L 0 fun x => iv_V call mc_70 rt 19 L (x :: st) w := iv_V_eq (I := (((34, 1), .aload_n 0, 0, 0, 0) : iv_I)) rfl
theorem e70_19 : iv_V call mc_70 rt 19 L st w = iv_ldi L 2 fun x => iv_V call mc_70 rt 20 L (.int x :: st) w := iv_V_eq (I := (((35, 1), .iload_n 2, 0, 0, 0) : iv_I)) rfl
theorem e70_20 : iv_V call mc_70 rt 20 L st w = iv_V call mc_70 rt 21 L (.int (-1) :: st) w := (iv_V_eq (I := (((36, 1), .iconst (-1), 0, 0, 0) : iv_I)) rfl).trans (congrArg (fun c => iv_V call mc_70 rt 21 L (.int c :: st) w) li_om1)
theorem e70_21 : iv_V call mc_70 rt 21 L st w = iv_ldi L 4 fun x => iv_V call mc_70 rt 22 L (.int x :: st) w := iv_V_eq (I := (((37, 2), .iload 4, 0, 0, 0) : iv_I)) rfl
theorem e70_22 : iv_V call mc_70 rt 22 L st w = iv_ldi L 3 fun x => iv_V call mc_70 rt 23 L (.int x :: st) w := iv_V_eq (I := (((39, 1), .iload_n 3, 0, 0, 0) : iv_I)) rfl
theorem e70_23 : iv_V call mc_70 rt 23 L st w = iv_inv call 71 5 (fun as => iv_rc w as (iv_mc 71)) st w fun st' w' => iv_V call mc_70 rt 24 L (st') w' := iv_V_eq (I := (((40, 3), .invokevirtual 113, 71, 5, 542) : iv_I)) rfl
theorem e70_24 : iv_V call mc_70 rt 24 L st w = iv_ret rt st w := iv_V_eq (I := (((43, 1), .ireturn, 0, 0, 0) : iv_I)) rfl
theorem e70_25 : iv_V call mc_70 rt 25 L st w = iv_V call mc_70 rt 26 L (.int 0 :: st) w := (iv_V_eq (I := (((44, 1), .iconst 0, 0, 0, 0) : iv_I)) rfl).trans (congrArg (fun c => iv_V call mc_70 rt 26 L (.int c :: st) w) li_o0)
theorem e70_26 : iv_V call mc_70 rt 26 L st w = iv_p1 st fun x st' => iv_sto L 5 (.int x) fun L' => iv_V call mc_70 rt 27 L' (st') w := iv_V_eq (I := (((45, 2), .istore 5, 0, 0, 0) : iv_I)) rfl
theorem e70_27 : iv_V call mc_70 rt 27 L st w = iv_V call mc_70 rt 28 L (.int 0 :: st) w := (iv_V_eq (I := (((47, 1), .iconst 0, 0, 0, 0) : iv_I)) rfl).trans (congrArg (fun c => iv_V call mc_70 rt 28 L (.int c :: st) w) li_o0)
theorem e70_28 : iv_V call mc_70 rt 28 L st w = iv_p1 st fun x st' => iv_sto L 6 (.int x) fun L' => iv_V call mc_70 rt 29 L' (st') w := iv_V_eq (I := (((48, 2), .istore 6, 0, 0, 0) : iv_I)) rfl
theorem e70_29 : iv_V call mc_70 rt 29 L st w = iv_ldi L 6 fun x => iv_V call mc_70 rt 30 L (.int x :: st) w := iv_V_eq (I := (((50, 2), .iload 6, 0, 0, 0) : iv_I)) rfl
theorem e70_30 : iv_V call mc_70 rt 30 L st w = iv_ldi L 4 fun x => iv_V call mc_70 rt 31 L (.int x :: st) w := iv_V_eq (I := (((52, 2), .iload 4, 0, 0, 0) : iv_I)) rfl
theorem e70_31 : iv_V call mc_70 rt 31 L st w = iv_p2 st fun x y st' => if y ≤ x then iv_V call mc_70 rt 48 L (st') w else iv_V call mc_70 rt 32 L (st') w := (iv_V_eq (I := (((54, 3), .if_icmp .ge 35, 48, 0, 0) : iv_I)) rfl).trans (by simp only [iv_go, iv_cnd, decide_eq_true_eq])
theorem e70_32 : iv_V call mc_70 rt 32 L st w = iv_ldi L 5 fun x => iv_V call mc_70 rt 33 L (.int x :: st) w := iv_V_eq (I := (((57, 2), .iload 5, 0, 0, 0) : iv_I)) rfl
theorem e70_33 : iv_V call mc_70 rt 33 L st w = iv_p1 st fun x st' => if ¬ x = 0 then iv_V call mc_70 rt 48 L (st') w else iv_V call mc_70 rt 34 L (st') w := (iv_V_eq (I := (((59, 3), .ifCond .ne 30, 48, 0, 0) : iv_I)) rfl).trans (by simp only [iv_go, iv_cnd, decide_eq_true_eq])
theorem e70_34 : iv_V call mc_70 rt 34 L st w = iv_lda L 0 fun x => iv_V call mc_70 rt 35 L (x :: st) w := iv_V_eq (I := (((62, 1), .aload_n 0, 0, 0, 0) : iv_I)) rfl
theorem e70_35 : iv_V call mc_70 rt 35 L st w = iv_ldi L 2 fun x => iv_V call mc_70 rt 36 L (.int x :: st) w := iv_V_eq (I := (((63, 1), .iload_n 2, 0, 0, 0) : iv_I)) rfl
theorem e70_36 : iv_V call mc_70 rt 36 L st w = iv_ldi L 6 fun x => iv_V call mc_70 rt 37 L (.int x :: st) w := iv_V_eq (I := (((64, 2), .iload 6, 0, 0, 0) : iv_I)) rfl
theorem e70_37 : iv_V call mc_70 rt 37 L st w = iv_lda L 0 fun x => iv_V call mc_70 rt 38 L (x :: st) w := iv_V_eq (I := (((66, 1), .aload_n 0, 0, 0, 0) : iv_I)) rfl
theorem e70_38 : iv_V call mc_70 rt 38 L st w = iv_gf w st 2 3 fun v st' => iv_V call mc_70 rt 39 L (v :: st') w := iv_V_eq (I := (((67, 3), .getfield 23, 2, 3, 250) : iv_I)) rfl
theorem e70_39 : iv_V call mc_70 rt 39 L st w = iv_ldi L 1 fun x => iv_V call mc_70 rt 40 L (.int x :: st) w := iv_V_eq (I := (((70, 1), .iload_n 1, 0, 0, 0) : iv_I)) rfl
theorem e70_40 : iv_V call mc_70 rt 40 L st w = iv_ldi L 2 fun x => iv_V call mc_70 rt 41 L (.int x :: st) w := iv_V_eq (I := (((71, 1), .iload_n 2, 0, 0, 0) : iv_I)) rfl
theorem e70_41 : iv_V call mc_70 rt 41 L st w = iv_ldi L 6 fun x => iv_V call mc_70 rt 42 L (.int x :: st) w := iv_V_eq (I := (((72, 2), .iload 6, 0, 0, 0) : iv_I)) rfl
theorem e70_42 : iv_V call mc_70 rt 42 L st w = iv_inv call 115 4 (fun as => iv_rc w as (iv_mc 115)) st w fun st' w' => iv_V call mc_70 rt 43 L (st') w' := iv_V_eq (I := (((74, 3), .invokevirtual 117, 115, 4, 534) : iv_I)) rfl
theorem e70_43 : iv_V call mc_70 rt 43 L st w = iv_ldi L 3 fun x => iv_V call mc_70 rt 44 L (.int x :: st) w := iv_V_eq (I := (((77, 1), .iload_n 3, 0, 0, 0) : iv_I)) rfl
theorem e70_44 : iv_V call mc_70 rt 44 L st w = iv_inv call 71 5 (fun as => iv_rc w as (iv_mc 71)) st w fun st' w' => iv_V call mc_70 rt 45 L (st') w' := iv_V_eq (I := (((78, 3), .invokevirtual 113, 71, 5, 542) : iv_I)) rfl
theorem e70_45 : iv_V call mc_70 rt 45 L st w = iv_p1 st fun x st' => iv_sto L 5 (.int x) fun L' => iv_V call mc_70 rt 46 L' (st') w := iv_V_eq (I := (((81, 2), .istore 5, 0, 0, 0) : iv_I)) rfl
theorem e70_46 : iv_V call mc_70 rt 46 L st w = iv_ldi L 6 fun x => iv_sto L 6 (.int (x + 1)) fun L' => iv_V call mc_70 rt 47 L' (st) w := (iv_V_eq (I := (((83, 3), .iinc 6 1, 0, 0, 0) : iv_I)) rfl).trans (congrArg (fun c => iv_ldi L 6 fun x => iv_sto L 6 (.int (x + c)) fun L' => iv_V call mc_70 rt 47 L' (st) w) li_o1)
theorem e70_47 : iv_V call mc_70 rt 47 L st w = iv_V call mc_70 rt 29 L (st) w := iv_V_eq (I := (((86, 3), .goto (-36), 29, 0, 0) : iv_I)) rfl
theorem e70_48 : iv_V call mc_70 rt 48 L st w = iv_ldi L 5 fun x => iv_V call mc_70 rt 49 L (.int x :: st) w := iv_V_eq (I := (((89, 2), .iload 5, 0, 0, 0) : iv_I)) rfl
theorem e70_49 : iv_V call mc_70 rt 49 L st w = iv_ret rt st w := iv_V_eq (I := (((91, 1), .ireturn, 0, 0, 0) : iv_I)) rfl
theorem e71_0 : iv_V call mc_71 rt 0 L st w = iv_lda L 0 fun x => iv_V call mc_71 rt 1 L (x :: st) w := iv_V_eq (I := (((0, 1), .aload_n 0, 0, 0, 0) : iv_I)) rfl
theorem e71_1 : iv_V call mc_71 rt 1 L st w = iv_gf w st 2 4 fun v st' => iv_V call mc_71 rt 2 L (v :: st') w := iv_V_eq (I := (((1, 3), .getfield 27, 2, 4, 251) : iv_I)) rfl
theorem e71_2 : iv_V call mc_71 rt 2 L st w = iv_gf w st 6 3 fun v st' => iv_V call mc_71 rt 3 L (v :: st') w := iv_V_eq (I := (((4, 3), .getfield 120, 6, 3, 222) : iv_I)) rfl
theorem e71_3 : iv_V call mc_71 rt 3 L st w = iv_as st fun a st' => iv_sto L 5 (.ref a) fun L' => iv_V call mc_71 rt 4 L' (st') w := iv_V_eq (I := (((7, 2), .astore 5, 0, 0, 0) : iv_I)) rfl
theorem e71_4 : iv_V call mc_71 rt 4 L st w = iv_lda L 5 fun x => iv_V call mc_71 rt 5 L (x :: st) w := iv_V_eq (I := (((9, 2), .aload 5, 0, 0, 0) : iv_I)) rfl
theorem e71_5 : iv_V call mc_71 rt 5 L st w = iv_ldi L 1 fun x => iv_V call mc_71 rt 6 L (.int x :: st) w := iv_V_eq (I := (((11, 1), .iload_n 1, 0, 0, 0) : iv_I)) rfl
theorem e71_6 : iv_V call mc_71 rt 6 L st w = iv_V call mc_71 rt 7 L (.int 4 :: st) w := (iv_V_eq (I := (((12, 1), .iconst 4, 0, 0, 0) : iv_I)) rfl).trans (congrArg (fun c => iv_V call mc_71 rt 7 L (.int c :: st) w) li_o4)
theorem e71_7 : iv_V call mc_71 rt 7 L st w = iv_p2 st fun x y st' => iv_V call mc_71 rt 8 L (.int (x * y) :: st') w := iv_V_eq (I := (((13, 1), .imul, 0, 0, 0) : iv_I)) rfl
theorem e71_8 : iv_V call mc_71 rt 8 L st w = iv_ldi L 2 fun x => iv_V call mc_71 rt 9 L (.int x :: st) w := iv_V_eq (I := (((14, 1), .iload_n 2, 0, 0, 0) : iv_I)) rfl
theorem e71_9 : iv_V call mc_71 rt 9 L st w = iv_p2 st fun x y st' => iv_V call mc_71 rt 10 L (.int (x + y) :: st') w := iv_V_eq (I := (((15, 1), .iadd, 0, 0, 0) : iv_I)) rfl
theorem e71_10 : iv_V call mc_71 rt 10 L st w = iv_V call mc_71 rt 11 L (.int 1 :: st) w := (iv_V_eq (I := (((16, 1), .iconst 1, 0, 0, 0) : iv_I)) rfl).trans (congrArg (fun c => iv_V call mc_71 rt 11 L (.int c :: st) w) li_o1)
theorem e71_11 : iv_V call mc_71 rt 11 L st w = iv_p2 st fun x y st' => iv_V call mc_71 rt 12 L (.int (x + y) :: st') w := iv_V_eq (I := (((17, 1), .iadd, 0, 0, 0) : iv_I)) rfl
theorem e71_12 : iv_V call mc_71 rt 12 L st w = iv_inv call 95 2 (fun as => iv_rc w as (iv_mc 95)) st w fun st' w' => iv_V call mc_71 rt 13 L (st') w' := iv_V_eq (I := (((18, 3), .invokevirtual 124, 95, 2, 546) : iv_I)) rfl
theorem e71_13 : iv_V call mc_71 rt 13 L st w = iv_p1 st fun x st' => if ¬ x = 0 then iv_V call mc_71 rt 16 L (st') w else iv_V call mc_71 rt 14 L (st') w := (iv_V_eq (I := (((21, 3), .ifCond .ne 6, 16, 0, 0) : iv_I)) rfl).trans (by simp only [iv_go, iv_cnd, decide_eq_true_eq])
theorem e71_14 : iv_V call mc_71 rt 14 L st w = iv_V call mc_71 rt 15 L (.int (-5) :: st) w := (iv_V_eq (I := (((24, 2), .bipush (-5), 0, 0, 0) : iv_I)) rfl).trans (congrArg (fun c => iv_V call mc_71 rt 15 L (.int c :: st) w) li_bm5)
theorem e71_15 : iv_V call mc_71 rt 15 L st w = iv_ret rt st w := iv_V_eq (I := (((26, 1), .ireturn, 0, 0, 0) : iv_I)) rfl
theorem e71_16 : iv_V call mc_71 rt 16 L st w = iv_lda L 0 fun x => iv_V call mc_71 rt 17 L (x :: st) w := iv_V_eq (I := (((27, 1), .aload_n 0, 0, 0, 0) : iv_I)) rfl
theorem e71_17 : iv_V call mc_71 rt 17 L st w = iv_ldi L 3 fun x => iv_V call mc_71 rt 18 L (.int x :: st) w := iv_V_eq (I := (((28, 1), .iload_n 3, 0, 0, 0) : iv_I)) rfl
theorem e71_18 : iv_V call mc_71 rt 18 L st w = iv_ldi L 4 fun x => iv_V call mc_71 rt 19 L (.int x :: st) w := iv_V_eq (I := (((29, 2), .iload 4, 0, 0, 0) : iv_I)) rfl
theorem e71_19 : iv_V call mc_71 rt 19 L st w = iv_inv call 65 3 (fun as => iv_rc w as (iv_mc 65)) st w fun st' w' => iv_V call mc_71 rt 20 L (st') w' := iv_V_eq (I := (((31, 3), .invokevirtual 127, 65, 3, 547) : iv_I)) rfl
theorem e71_20 : iv_V call mc_71 rt 20 L st w = iv_p1 st fun x st' => iv_sto L 6 (.int x) fun L' => iv_V call mc_71 rt 21 L' (st') w := iv_V_eq (I := (((34, 2), .istore 6, 0, 0, 0) : iv_I)) rfl
theorem e71_21 : iv_V call mc_71 rt 21 L st w = iv_lda L 5 fun x => iv_V call mc_71 rt 22 L (x :: st) w := iv_V_eq (I := (((36, 2), .aload 5, 0, 0, 0) : iv_I)) rfl
theorem e71_22 : iv_V call mc_71 rt 22 L st w = iv_d1 st fun a st' => iv_V call mc_71 rt 23 L (a :: a :: st') w := iv_V_eq (I := (((38, 1), .dup, 0, 0, 0) : iv_I)) rfl
theorem e71_23 : iv_V call mc_71 rt 23 L st w = iv_gf w st 7 1 fun v st' => iv_V call mc_71 rt 24 L (v :: st') w := iv_V_eq (I := (((39, 3), .getfield 64, 7, 1, 70) : iv_I)) rfl
theorem e71_24 : iv_V call mc_71 rt 24 L st w = iv_V call mc_71 rt 25 L (.int 1 :: st) w := (iv_V_eq (I := (((42, 1), .iconst 1, 0, 0, 0) : iv_I)) rfl).trans (congrArg (fun c => iv_V call mc_71 rt 25 L (.int c :: st) w) li_o1)
theorem e71_25 : iv_V call mc_71 rt 25 L st w = iv_p2 st fun x y st' => iv_V call mc_71 rt 26 L (.int (x - y) :: st') w := iv_V_eq (I := (((43, 1), .isub, 0, 0, 0) : iv_I)) rfl
theorem e71_26 : iv_V call mc_71 rt 26 L st w = iv_pf w st 7 1 fun st' w' => iv_V call mc_71 rt 27 L (st') w' := iv_V_eq (I := (((44, 3), .putfield 64, 7, 1, 70) : iv_I)) rfl
theorem e71_27 : iv_V call mc_71 rt 27 L st w = iv_ldi L 6 fun x => iv_V call mc_71 rt 28 L (.int x :: st) w := iv_V_eq (I := (((47, 2), .iload 6, 0, 0, 0) : iv_I)) rfl
theorem e71_28 : iv_V call mc_71 rt 28 L st w = iv_ret rt st w := iv_V_eq (I := (((49, 1), .ireturn, 0, 0, 0) : iv_I)) rfl
theorem e72_0 : iv_V call mc_72 rt 0 L st w = iv_V call mc_72 rt 1 L (.int 0 :: st) w := (iv_V_eq (I := (((0, 1), .iconst 0, 0, 0, 0) : iv_I)) rfl).trans (congrArg (fun c => iv_V call mc_72 rt 1 L (.int c :: st) w) li_o0)
theorem e72_1 : iv_V call mc_72 rt 1 L st w = iv_p1 st fun x st' => iv_sto L 4 (.int x) fun L' => iv_V call mc_72 rt 2 L' (st') w := iv_V_eq (I := (((1, 2), .istore 4, 0, 0, 0) : iv_I)) rfl
theorem e72_2 : iv_V call mc_72 rt 2 L st w = iv_V call mc_72 rt 3 L (.int 0 :: st) w := (iv_V_eq (I := (((3, 1), .iconst 0, 0, 0, 0) : iv_I)) rfl).trans (congrArg (fun c => iv_V call mc_72 rt 3 L (.int c :: st) w) li_o0)
theorem e72_3 : iv_V call mc_72 rt 3 L st w = iv_p1 st fun x st' => iv_sto L 5 (.int x) fun L' => iv_V call mc_72 rt 4 L' (st') w := iv_V_eq (I := (((4, 2), .istore 5, 0, 0, 0) : iv_I)) rfl
theorem e72_4 : iv_V call mc_72 rt 4 L st w = iv_ldi L 5 fun x => iv_V call mc_72 rt 5 L (.int x :: st) w := iv_V_eq (I := (((6, 2), .iload 5, 0, 0, 0) : iv_I)) rfl
theorem e72_5 : iv_V call mc_72 rt 5 L st w = iv_lda L 0 fun x => iv_V call mc_72 rt 6 L (x :: st) w := iv_V_eq (I := (((8, 1), .aload_n 0, 0, 0, 0) : iv_I)) rfl
theorem e72_6 : iv_V call mc_72 rt 6 L st w = iv_gf w st 2 1 fun v st' => iv_V call mc_72 rt 7 L (v :: st') w := iv_V_eq (I := (((9, 3), .getfield 15, 2, 1, 248) : iv_I)) rfl
theorem e72_7 : iv_V call mc_72 rt 7 L st w = iv_gf w st 9 1 fun v st' => iv_V call mc_72 rt 8 L (v :: st') w := iv_V_eq (I := (((12, 3), .getfield 130, 9, 1, 151) : iv_I)) rfl
theorem e72_8 : iv_V call mc_72 rt 8 L st w = iv_p2 st fun x y st' => if y ≤ x then iv_V call mc_72 rt 41 L (st') w else iv_V call mc_72 rt 9 L (st') w := (iv_V_eq (I := (((15, 3), .if_icmp .ge 67, 41, 0, 0) : iv_I)) rfl).trans (by simp only [iv_go, iv_cnd, decide_eq_true_eq])
theorem e72_9 : iv_V call mc_72 rt 9 L st w = iv_ldi L 4 fun x => iv_V call mc_72 rt 10 L (.int x :: st) w := iv_V_eq (I := (((18, 2), .iload 4, 0, 0, 0) : iv_I)) rfl
theorem e72_10 : iv_V call mc_72 rt 10 L st w = iv_p1 st fun x st' => if ¬ x = 0 then iv_V call mc_72 rt 41 L (st') w else iv_V call mc_72 rt 11 L (st') w := (iv_V_eq (I := (((20, 3), .ifCond .ne 62, 41, 0, 0) : iv_I)) rfl).trans (by simp only [iv_go, iv_cnd, decide_eq_true_eq])
theorem e72_11 : iv_V call mc_72 rt 11 L st w = iv_lda L 0 fun x => iv_V call mc_72 rt 12 L (x :: st) w := iv_V_eq (I := (((23, 1), .aload_n 0, 0, 0, 0) : iv_I)) rfl
theorem e72_12 : iv_V call mc_72 rt 12 L st w = iv_gf w st 2 1 fun v st' => iv_V call mc_72 rt 13 L (v :: st') w := iv_V_eq (I := (((24, 3), .getfield 15, 2, 1, 248) : iv_I)) rfl
theorem e72_13 : iv_V call mc_72 rt 13 L st w = iv_gf w st 9 0 fun v st' => iv_V call mc_72 rt 14 L (v :: st') w := iv_V_eq (I := (((27, 3), .getfield 135, 9, 0, 149) : iv_I)) rfl
theorem e72_14 : iv_V call mc_72 rt 14 L st w = iv_ldi L 5 fun x => iv_V call mc_72 rt 15 L (.int x :: st) w := iv_V_eq (I := (((30, 2), .iload 5, 0, 0, 0) : iv_I)) rfl
theorem e72_15 : iv_V call mc_72 rt 15 L st w = iv_ald w st iv_isA fun v st' => iv_V call mc_72 rt 16 L (v :: st') w := iv_V_eq (I := (((32, 1), .aaload, 0, 0, 0) : iv_I)) rfl
theorem e72_16 : iv_V call mc_72 rt 16 L st w = iv_as st fun a st' => iv_sto L 6 (.ref a) fun L' => iv_V call mc_72 rt 17 L' (st') w := iv_V_eq (I := (((33, 2), .astore 6, 0, 0, 0) : iv_I)) rfl
theorem e72_17 : iv_V call mc_72 rt 17 L st w = iv_ldi L 2 fun x => iv_V call mc_72 rt 18 L (.int x :: st) w := iv_V_eq (I := (((35, 1), .iload_n 2, 0, 0, 0) : iv_I)) rfl
theorem e72_18 : iv_V call mc_72 rt 18 L st w = iv_lda L 6 fun x => iv_V call mc_72 rt 19 L (x :: st) w := iv_V_eq (I := (((36, 2), .aload 6, 0, 0, 0) : iv_I)) rfl
theorem e72_19 : iv_V call mc_72 rt 19 L st w = iv_gf w st 8 0 fun v st' => iv_V call mc_72 rt 20 L (v :: st') w := iv_V_eq (I := (((38, 3), .getfield 139, 8, 0, 364) : iv_I)) rfl
theorem e72_20 : iv_V call mc_72 rt 20 L st w = iv_p2 st fun x y st' => iv_V call mc_72 rt 21 L (.int (x >>> (y &&& 31)) :: st') w := iv_V_eq (I := (((41, 1), .ishr, 0, 0, 0) : iv_I)) rfl
theorem e72_21 : iv_V call mc_72 rt 21 L st w = iv_V call mc_72 rt 22 L (.int 1 :: st) w := (iv_V_eq (I := (((42, 1), .iconst 1, 0, 0, 0) : iv_I)) rfl).trans (congrArg (fun c => iv_V call mc_72 rt 22 L (.int c :: st) w) li_o1)
theorem e72_22 : iv_V call mc_72 rt 22 L st w = iv_p2 st fun x y st' => iv_V call mc_72 rt 23 L (.int (x &&& y) :: st') w := iv_V_eq (I := (((43, 1), .iand, 0, 0, 0) : iv_I)) rfl
theorem e72_23 : iv_V call mc_72 rt 23 L st w = iv_p1 st fun x st' => if x = 0 then iv_V call mc_72 rt 39 L (st') w else iv_V call mc_72 rt 24 L (st') w := (iv_V_eq (I := (((44, 3), .ifCond .eq 32, 39, 0, 0) : iv_I)) rfl).trans (by simp only [iv_go, iv_cnd, decide_eq_true_eq])
theorem e72_24 : iv_V call mc_72 rt 24 L st w = iv_lda L 6 fun x => iv_V call mc_72 rt 25 L (x :: st) w := iv_V_eq (I := (((47, 2), .aload 6, 0, 0, 0) : iv_I)) rfl
theorem e72_25 : iv_V call mc_72 rt 25 L st w = iv_gf w st 8 3 fun v st' => iv_V call mc_72 rt 26 L (v :: st') w := iv_V_eq (I := (((49, 3), .getfield 144, 8, 3, 370) : iv_I)) rfl
theorem e72_26 : iv_V call mc_72 rt 26 L st w = iv_lda L 0 fun x => iv_V call mc_72 rt 27 L (x :: st) w := iv_V_eq (I := (((52, 1), .aload_n 0, 0, 0, 0) : iv_I)) rfl
theorem e72_27 : iv_V call mc_72 rt 27 L st w = iv_gf w st 2 2 fun v st' => iv_V call mc_72 rt 28 L (v :: st') w := iv_V_eq (I := (((53, 3), .getfield 19, 2, 2, 249) : iv_I)) rfl
theorem e72_28 : iv_V call mc_72 rt 28 L st w = iv_gf w st 5 0 fun v st' => iv_V call mc_72 rt 29 L (v :: st') w := iv_V_eq (I := (((56, 3), .getfield 146, 5, 0, 170) : iv_I)) rfl
theorem e72_29 : iv_V call mc_72 rt 29 L st w = iv_ldi L 3 fun x => iv_V call mc_72 rt 30 L (.int x :: st) w := iv_V_eq (I := (((59, 1), .iload_n 3, 0, 0, 0) : iv_I)) rfl
theorem e72_30 : iv_V call mc_72 rt 30 L st w = iv_ald w st iv_isI fun v st' => iv_V call mc_72 rt 31 L (v :: st') w := iv_V_eq (I := (((60, 1), .iaload, 0, 0, 0) : iv_I)) rfl
theorem e72_31 : iv_V call mc_72 rt 31 L st w = iv_p2 st fun x y st' => iv_V call mc_72 rt 32 L (.int (x &&& y) :: st') w := iv_V_eq (I := (((61, 1), .iand, 0, 0, 0) : iv_I)) rfl
theorem e72_32 : iv_V call mc_72 rt 32 L st w = iv_p1 st fun x st' => if x = 0 then iv_V call mc_72 rt 39 L (st') w else iv_V call mc_72 rt 33 L (st') w := (iv_V_eq (I := (((62, 3), .ifCond .eq 14, 39, 0, 0) : iv_I)) rfl).trans (by simp only [iv_go, iv_cnd, decide_eq_true_eq])
theorem e72_33 : iv_V call mc_72 rt 33 L st w = iv_lda L 0 fun x => iv_V call mc_72 rt 34 L (x :: st) w := iv_V_eq (I := (((65, 1), .aload_n 0, 0, 0, 0) : iv_I)) rfl
theorem e72_34 : iv_V call mc_72 rt 34 L st w = iv_ldi L 1 fun x => iv_V call mc_72 rt 35 L (.int x :: st) w := iv_V_eq (I := (((66, 1), .iload_n 1, 0, 0, 0) : iv_I)) rfl
theorem e72_35 : iv_V call mc_72 rt 35 L st w = iv_lda L 6 fun x => iv_V call mc_72 rt 36 L (x :: st) w := iv_V_eq (I := (((67, 2), .aload 6, 0, 0, 0) : iv_I)) rfl
theorem e72_36 : iv_V call mc_72 rt 36 L st w = iv_ldi L 5 fun x => iv_V call mc_72 rt 37 L (.int x :: st) w := iv_V_eq (I := (((69, 2), .iload 5, 0, 0, 0) : iv_I)) rfl
theorem e72_37 : iv_V call mc_72 rt 37 L st w = iv_inv call 73 4 (fun as => iv_rc w as (iv_mc 73)) st w fun st' w' => iv_V call mc_72 rt 38 L (st') w' := iv_V_eq (I := (((71, 3), .invokevirtual 151, 73, 4, 509) : iv_I)) rfl
theorem e72_38 : iv_V call mc_72 rt 38 L st w = iv_p1 st fun x st' => iv_sto L 4 (.int x) fun L' => iv_V call mc_72 rt 39 L' (st') w := iv_V_eq (I := (((74, 2), .istore 4, 0, 0, 0) : iv_I)) rfl
theorem e72_39 : iv_V call mc_72 rt 39 L st w = iv_ldi L 5 fun x => iv_sto L 5 (.int (x + 1)) fun L' => iv_V call mc_72 rt 40 L' (st) w := (iv_V_eq (I := (((76, 3), .iinc 5 1, 0, 0, 0) : iv_I)) rfl).trans (congrArg (fun c => iv_ldi L 5 fun x => iv_sto L 5 (.int (x + c)) fun L' => iv_V call mc_72 rt 40 L' (st) w) li_o1)
theorem e72_40 : iv_V call mc_72 rt 40 L st w = iv_V call mc_72 rt 4 L (st) w := iv_V_eq (I := (((79, 3), .goto (-73), 4, 0, 0) : iv_I)) rfl
theorem e72_41 : iv_V call mc_72 rt 41 L st w = iv_ldi L 4 fun x => iv_V call mc_72 rt 42 L (.int x :: st) w := iv_V_eq (I := (((82, 2), .iload 4, 0, 0, 0) : iv_I)) rfl
theorem e72_42 : iv_V call mc_72 rt 42 L st w = iv_ret rt st w := iv_V_eq (I := (((84, 1), .ireturn, 0, 0, 0) : iv_I)) rfl
theorem e73_0 : iv_V call mc_73 rt 0 L st w = iv_lda L 2 fun x => iv_V call mc_73 rt 1 L (x :: st) w := iv_V_eq (I := (((0, 1), .aload_n 2, 0, 0, 0) : iv_I)) rfl
theorem e73_1 : iv_V call mc_73 rt 1 L st w = iv_gf w st 8 0 fun v st' => iv_V call mc_73 rt 2 L (v :: st') w := iv_V_eq (I := (((1, 3), .getfield 139, 8, 0, 364) : iv_I)) rfl
theorem e73_2 : iv_V call mc_73 rt 2 L st w = iv_p1 st fun x st' => iv_sto L 4 (.int x) fun L' => iv_V call mc_73 rt 3 L' (st') w := iv_V_eq (I := (((4, 2), .istore 4, 0, 0, 0) : iv_I)) rfl
theorem e73_3 : iv_V call mc_73 rt 3 L st w = iv_lda L 2 fun x => iv_V call mc_73 rt 4 L (x :: st) w := iv_V_eq (I := (((6, 1), .aload_n 2, 0, 0, 0) : iv_I)) rfl
theorem e73_4 : iv_V call mc_73 rt 4 L st w = iv_gf w st 8 2 fun v st' => iv_V call mc_73 rt 5 L (v :: st') w := iv_V_eq (I := (((7, 3), .getfield 155, 8, 2, 368) : iv_I)) rfl
theorem e73_5 : iv_V call mc_73 rt 5 L st w = iv_lda L 0 fun x => iv_V call mc_73 rt 6 L (x :: st) w := iv_V_eq (I := (((10, 1), .aload_n 0, 0, 0, 0) : iv_I)) rfl
theorem e73_6 : iv_V call mc_73 rt 6 L st w = iv_gf w st 2 0 fun v st' => iv_V call mc_73 rt 7 L (v :: st') w := iv_V_eq (I := (((11, 3), .getfield 9, 2, 0, 247) : iv_I)) rfl
theorem e73_7 : iv_V call mc_73 rt 7 L st w = iv_gf w st 10 5 fun v st' => iv_V call mc_73 rt 8 L (v :: st') w := iv_V_eq (I := (((14, 3), .getfield 159, 10, 5, 90) : iv_I)) rfl
theorem e73_8 : iv_V call mc_73 rt 8 L st w = iv_ldi L 4 fun x => iv_V call mc_73 rt 9 L (.int x :: st) w := iv_V_eq (I := (((17, 2), .iload 4, 0, 0, 0) : iv_I)) rfl
theorem e73_9 : iv_V call mc_73 rt 9 L st w = iv_ald w st iv_isI fun v st' => iv_V call mc_73 rt 10 L (v :: st') w := iv_V_eq (I := (((19, 1), .iaload, 0, 0, 0) : iv_I)) rfl
theorem e73_10 : iv_V call mc_73 rt 10 L st w = iv_lda L 2 fun x => iv_V call mc_73 rt 11 L (x :: st) w := iv_V_eq (I := (((20, 1), .aload_n 2, 0, 0, 0) : iv_I)) rfl
theorem e73_11 : iv_V call mc_73 rt 11 L st w = iv_gf w st 8 1 fun v st' => iv_V call mc_73 rt 12 L (v :: st') w := iv_V_eq (I := (((21, 3), .getfield 162, 8, 1, 366) : iv_I)) rfl
theorem e73_12 : iv_V call mc_73 rt 12 L st w = iv_inv call 77 3 (fun as => iv_rc w as (iv_mc 77)) st w fun st' w' => iv_V call mc_73 rt 13 L (st') w' := iv_V_eq (I := (((24, 3), .invokevirtual 166, 77, 3, 513) : iv_I)) rfl
theorem e73_13 : iv_V call mc_73 rt 13 L st w = iv_p1 st fun x st' => if ¬ x = 0 then iv_V call mc_73 rt 16 L (st') w else iv_V call mc_73 rt 14 L (st') w := (iv_V_eq (I := (((27, 3), .ifCond .ne 6, 16, 0, 0) : iv_I)) rfl).trans (by simp only [iv_go, iv_cnd, decide_eq_true_eq])
theorem e73_14 : iv_V call mc_73 rt 14 L st w = iv_V call mc_73 rt 15 L (.int (-4) :: st) w := (iv_V_eq (I := (((30, 2), .bipush (-4), 0, 0, 0) : iv_I)) rfl).trans (congrArg (fun c => iv_V call mc_73 rt 15 L (.int c :: st) w) li_bm4)
theorem e73_15 : iv_V call mc_73 rt 15 L st w = iv_ret rt st w := iv_V_eq (I := (((32, 1), .ireturn, 0, 0, 0) : iv_I)) rfl
theorem e73_16 : iv_V call mc_73 rt 16 L st w = iv_lda L 0 fun x => iv_V call mc_73 rt 17 L (x :: st) w := iv_V_eq (I := (((33, 1), .aload_n 0, 0, 0, 0) : iv_I)) rfl
theorem e73_17 : iv_V call mc_73 rt 17 L st w = iv_gf w st 2 3 fun v st' => iv_V call mc_73 rt 18 L (v :: st') w := iv_V_eq (I := (((34, 3), .getfield 23, 2, 3, 250) : iv_I)) rfl
theorem e73_18 : iv_V call mc_73 rt 18 L st w = iv_gf w st 11 2 fun v st' => iv_V call mc_73 rt 19 L (v :: st') w := iv_V_eq (I := (((37, 3), .getfield 106, 11, 2, 194) : iv_I)) rfl
theorem e73_19 : iv_V call mc_73 rt 19 L st w = iv_ldi L 1 fun x => iv_V call mc_73 rt 20 L (.int x :: st) w := iv_V_eq (I := (((40, 1), .iload_n 1, 0, 0, 0) : iv_I)) rfl
theorem e73_20 : iv_V call mc_73 rt 20 L st w = iv_ald w st iv_isA fun v st' => iv_V call mc_73 rt 21 L (v :: st') w := iv_V_eq (I := (((41, 1), .aaload, 0, 0, 0) : iv_I)) rfl
theorem e73_21 : iv_V call mc_73 rt 21 L st w = iv_ldi L 4 fun x => iv_V call mc_73 rt 22 L (.int x :: st) w := iv_V_eq (I := (((42, 2), .iload 4, 0, 0, 0) : iv_I)) rfl
theorem e73_22 : iv_V call mc_73 rt 22 L st w = iv_ald w st iv_isI fun v st' => iv_V call mc_73 rt 23 L (v :: st') w := iv_V_eq (I := (((44, 1), .iaload, 0, 0, 0) : iv_I)) rfl
theorem e73_23 : iv_V call mc_73 rt 23 L st w = iv_p1 st fun x st' => iv_sto L 5 (.int x) fun L' => iv_V call mc_73 rt 24 L' (st') w := iv_V_eq (I := (((45, 2), .istore 5, 0, 0, 0) : iv_I)) rfl
theorem e73_24 : iv_V call mc_73 rt 24 L st w = iv_lda L 2 fun x => iv_V call mc_73 rt 25 L (x :: st) w := iv_V_eq (I := (((47, 1), .aload_n 2, 0, 0, 0) : iv_I)) rfl
theorem e73_25 : iv_V call mc_73 rt 25 L st w = iv_gf w st 8 1 fun v st' => iv_V call mc_73 rt 26 L (v :: st') w := iv_V_eq (I := (((48, 3), .getfield 162, 8, 1, 366) : iv_I)) rfl
theorem e73_26 : iv_V call mc_73 rt 26 L st w = iv_p1 st fun x st' => if ¬ x = 0 then iv_V call mc_73 rt 35 L (st') w else iv_V call mc_73 rt 27 L (st') w := (iv_V_eq (I := (((51, 3), .ifCond .ne 14, 35, 0, 0) : iv_I)) rfl).trans (by simp only [iv_go, iv_cnd, decide_eq_true_eq])
theorem e73_27 : iv_V call mc_73 rt 27 L st w = iv_lda L 0 fun x => iv_V call mc_73 rt 28 L (x :: st) w := iv_V_eq (I := (((54, 1), .aload_n 0, 0, 0, 0) : iv_I)) rfl
theorem e73_28 : iv_V call mc_73 rt 28 L st w = iv_ldi L 1 fun x => iv_V call mc_73 rt 29 L (.int x :: st) w := iv_V_eq (I := (((55, 1), .iload_n 1, 0, 0, 0) : iv_I)) rfl
theorem e73_29 : iv_V call mc_73 rt 29 L st w = iv_lda L 2 fun x => iv_V call mc_73 rt 30 L (x :: st) w := iv_V_eq (I := (((56, 1), .aload_n 2, 0, 0, 0) : iv_I)) rfl
theorem e73_30 : iv_V call mc_73 rt 30 L st w = iv_ldi L 3 fun x => iv_V call mc_73 rt 31 L (.int x :: st) w := iv_V_eq (I := (((57, 1), .iload_n 3, 0, 0, 0) : iv_I)) rfl
theorem e73_31 : iv_V call mc_73 rt 31 L st w = iv_V call mc_73 rt 32 L (.int (-1) :: st) w := (iv_V_eq (I := (((58, 1), .iconst (-1), 0, 0, 0) : iv_I)) rfl).trans (congrArg (fun c => iv_V call mc_73 rt 32 L (.int c :: st) w) li_om1)
theorem e73_32 : iv_V call mc_73 rt 32 L st w = iv_ldi L 5 fun x => iv_V call mc_73 rt 33 L (.int x :: st) w := iv_V_eq (I := (((59, 2), .iload 5, 0, 0, 0) : iv_I)) rfl
theorem e73_33 : iv_V call mc_73 rt 33 L st w = iv_inv call 74 6 (fun as => iv_rc w as (iv_mc 74)) st w fun st' w' => iv_V call mc_73 rt 34 L (st') w' := iv_V_eq (I := (((61, 3), .invokevirtual 172, 74, 6, 521) : iv_I)) rfl
theorem e73_34 : iv_V call mc_73 rt 34 L st w = iv_ret rt st w := iv_V_eq (I := (((64, 1), .ireturn, 0, 0, 0) : iv_I)) rfl
theorem e73_35 : iv_V call mc_73 rt 35 L st w = iv_lda L 0 fun x => iv_V call mc_73 rt 36 L (x :: st) w := iv_V_eq (I := (((65, 1), .aload_n 0, 0, 0, 0) : iv_I)) rfl
theorem e73_36 : iv_V call mc_73 rt 36 L st w = iv_gf w st 2 0 fun v st' => iv_V call mc_73 rt 37 L (v :: st') w := iv_V_eq (I := (((66, 3), .getfield 9, 2, 0, 247) : iv_I)) rfl
theorem e73_37 : iv_V call mc_73 rt 37 L st w = iv_ldi L 4 fun x => iv_V call mc_73 rt 38 L (.int x :: st) w := iv_V_eq (I := (((69, 2), .iload 4, 0, 0, 0) : iv_I)) rfl
theorem e73_38 : iv_V call mc_73 rt 38 L st w = iv_inv call 104 2 (fun as => iv_rc w as (iv_mc 104)) st w fun st' w' => iv_V call mc_73 rt 39 L (st') w' := iv_V_eq (I := (((71, 3), .invokevirtual 109, 104, 2, 533) : iv_I)) rfl
theorem e73_39 : iv_V call mc_73 rt 39 L st w = iv_p1 st fun x st' => if x = 0 then iv_V call mc_73 rt 42 L (st') w else iv_V call mc_73 rt 40 L (st') w := (iv_V_eq (I := (((74, 3), .ifCond .eq 8, 42, 0, 0) : iv_I)) rfl).trans (by simp only [iv_go, iv_cnd, decide_eq_true_eq])
theorem e73_40 : iv_V call mc_73 rt 40 L st w = iv_ldi L 5 fun x => iv_V call mc_73 rt 41 L (.int x :: st) w := iv_V_eq (I := (((77, 2), .iload 5, 0, 0, 0) : iv_I)) rfl
theorem e73_41 : iv_V call mc_73 rt 41 L st w = iv_V call mc_73 rt 43 L (st) w := iv_V_eq (I := (((79, 3), .goto 4, 43, 0, 0) : iv_I)) rfl
theorem e73_42 : iv_V call mc_73 rt 42 L st w = iv_V call mc_73 rt 43 L (.int 0 :: st) w := (iv_V_eq (I := (((82, 1), .iconst 0, 0, 0, 0) : iv_I)) rfl).trans (congrArg (fun c => iv_V call mc_73 rt 43 L (.int c :: st) w) li_o0)
theorem e73_43 : iv_V call mc_73 rt 43 L st w = iv_p1 st fun x st' => iv_sto L 6 (.int x) fun L' => iv_V call mc_73 rt 44 L' (st') w := iv_V_eq (I := (((83, 2), .istore 6, 0, 0, 0) : iv_I)) rfl
theorem e73_44 : iv_V call mc_73 rt 44 L st w = iv_V call mc_73 rt 45 L (.int 0 :: st) w := (iv_V_eq (I := (((85, 1), .iconst 0, 0, 0, 0) : iv_I)) rfl).trans (congrArg (fun c => iv_V call mc_73 rt 45 L (.int c :: st) w) li_o0)
theorem e73_45 : iv_V call mc_73 rt 45 L st w = iv_p1 st fun x st' => iv_sto L 7 (.int x) fun L' => iv_V call mc_73 rt 46 L' (st') w := iv_V_eq (I := (((86, 2), .istore 7, 0, 0, 0) : iv_I)) rfl
theorem e73_46 : iv_V call mc_73 rt 46 L st w = iv_V call mc_73 rt 47 L (.int 0 :: st) w := (iv_V_eq (I := (((88, 1), .iconst 0, 0, 0, 0) : iv_I)) rfl).trans (congrArg (fun c => iv_V call mc_73 rt 47 L (.int c :: st) w) li_o0)
theorem e73_47 : iv_V call mc_73 rt 47 L st w = iv_p1 st fun x st' => iv_sto L 8 (.int x) fun L' => iv_V call mc_73 rt 48 L' (st') w := iv_V_eq (I := (((89, 2), .istore 8, 0, 0, 0) : iv_I)) rfl
theorem e73_48 : iv_V call mc_73 rt 48 L st w = iv_ldi L 8 fun x => iv_V call mc_73 rt 49 L (.int x :: st) w := iv_V_eq (I := (((91, 2), .iload 8, 0, 0, 0) : iv_I)) rfl
theorem e73_49 : iv_V call mc_73 rt 49 L st w = iv_ldi L 6 fun x => iv_V call mc_73 rt 50 L (.int x :: st) w := iv_V_eq (I := (((93, 2), .iload 6, 0, 0, 0) : iv_I)) rfl
theorem e73_50 : iv_V call mc_73 rt 50 L st w = iv_p2 st fun x y st' => if y ≤ x then iv_V call mc_73 rt 68 L (st') w else iv_V call mc_73 rt 51 L (st') w := (iv_V_eq (I := (((95, 3), .if_icmp .ge 37, 68, 0, 0) : iv_I)) rfl).trans (by simp only [iv_go, iv_cnd, decide_eq_true_eq])
theorem e73_51 : iv_V call mc_73 rt 51 L st w = iv_ldi L 7 fun x => iv_V call mc_73 rt 52 L (.int x :: st) w := iv_V_eq (I := (((98, 2), .iload 7, 0, 0, 0) : iv_I)) rfl
theorem e73_52 : iv_V call mc_73 rt 52 L st w = iv_p1 st fun x st' => if ¬ x = 0 then iv_V call mc_73 rt 68 L (st') w else iv_V call mc_73 rt 53 L (st') w := (iv_V_eq (I := (((100, 3), .ifCond .ne 32, 68, 0, 0) : iv_I)) rfl).trans (by simp only [iv_go, iv_cnd, decide_eq_true_eq])
theorem e73_53 : iv_V call mc_73 rt 53 L st w = iv_lda L 0 fun x => iv_V call mc_73 rt 54 L (x :: st) w := iv_V_eq (I := (((103, 1), .aload_n 0, 0, 0, 0) : iv_I)) rfl
theorem e73_54 : iv_V call mc_73 rt 54 L st w = iv_ldi L 1 fun x => iv_V call mc_73 rt 55 L (.int x :: st) w := iv_V_eq (I := (((104, 1), .iload_n 1, 0, 0, 0) : iv_I)) rfl
theorem e73_55 : iv_V call mc_73 rt 55 L st w = iv_lda L 2 fun x => iv_V call mc_73 rt 56 L (x :: st) w := iv_V_eq (I := (((105, 1), .aload_n 2, 0, 0, 0) : iv_I)) rfl
theorem e73_56 : iv_V call mc_73 rt 56 L st w = iv_ldi L 3 fun x => iv_V call mc_73 rt 57 L (.int x :: st) w := iv_V_eq (I := (((106, 1), .iload_n 3, 0, 0, 0) : iv_I)) rfl
theorem e73_57 : iv_V call mc_73 rt 57 L st w = iv_ldi L 8 fun x => iv_V call mc_73 rt 58 L (.int x :: st) w := iv_V_eq (I := (((107, 2), .iload 8, 0, 0, 0) : iv_I)) rfl
theorem e73_58 : iv_V call mc_73 rt 58 L st w = iv_lda L 0 fun x => iv_V call mc_73 rt 59 L (x :: st) w := iv_V_eq (I := (((109, 1), .aload_n 0, 0, 0, 0) : iv_I)) rfl
theorem e73_59 : iv_V call mc_73 rt 59 L st w = iv_gf w st 2 3 fun v st' => iv_V call mc_73 rt 60 L (v :: st') w := iv_V_eq (I := (((110, 3), .getfield 23, 2, 3, 250) : iv_I)) rfl
theorem e73_60 : iv_V call mc_73 rt 60 L st w = iv_ldi L 1 fun x => iv_V call mc_73 rt 61 L (.int x :: st) w := iv_V_eq (I := (((113, 1), .iload_n 1, 0, 0, 0) : iv_I)) rfl
theorem e73_61 : iv_V call mc_73 rt 61 L st w = iv_ldi L 4 fun x => iv_V call mc_73 rt 62 L (.int x :: st) w := iv_V_eq (I := (((114, 2), .iload 4, 0, 0, 0) : iv_I)) rfl
theorem e73_62 : iv_V call mc_73 rt 62 L st w = iv_ldi L 8 fun x => iv_V call mc_73 rt 63 L (.int x :: st) w := iv_V_eq (I := (((116, 2), .iload 8, 0, 0, 0) : iv_I)) rfl
theorem e73_63 : iv_V call mc_73 rt 63 L st w = iv_inv call 115 4 (fun as => iv_rc w as (iv_mc 115)) st w fun st' w' => iv_V call mc_73 rt 64 L (st') w' := iv_V_eq (I := (((118, 3), .invokevirtual 117, 115, 4, 534) : iv_I)) rfl
theorem e73_64 : iv_V call mc_73 rt 64 L st w = iv_inv call 74 6 (fun as => iv_rc w as (iv_mc 74)) st w fun st' w' => iv_V call mc_73 rt 65 L (st') w' := iv_V_eq (I := (((121, 3), .invokevirtual 172, 74, 6, 521) : iv_I)) rfl
theorem e73_65 : iv_V call mc_73 rt 65 L st w = iv_p1 st fun x st' => iv_sto L 7 (.int x) fun L' => iv_V call mc_73 rt 66 L' (st') w := iv_V_eq (I := (((124, 2), .istore 7, 0, 0, 0) : iv_I)) rfl
theorem e73_66 : iv_V call mc_73 rt 66 L st w = iv_ldi L 8 fun x => iv_sto L 8 (.int (x + 1)) fun L' => iv_V call mc_73 rt 67 L' (st) w := (iv_V_eq (I := (((126, 3), .iinc 8 1, 0, 0, 0) : iv_I)) rfl).trans (congrArg (fun c => iv_ldi L 8 fun x => iv_sto L 8 (.int (x + c)) fun L' => iv_V call mc_73 rt 67 L' (st) w) li_o1)
theorem e73_67 : iv_V call mc_73 rt 67 L st w = iv_V call mc_73 rt 48 L (st) w := iv_V_eq (I := (((129, 3), .goto (-38), 48, 0, 0) : iv_I)) rfl
theorem e73_68 : iv_V call mc_73 rt 68 L st w = iv_ldi L 7 fun x => iv_V call mc_73 rt 69 L (.int x :: st) w := iv_V_eq (I := (((132, 2), .iload 7, 0, 0, 0) : iv_I)) rfl
theorem e73_69 : iv_V call mc_73 rt 69 L st w = iv_ret rt st w := iv_V_eq (I := (((134, 1), .ireturn, 0, 0, 0) : iv_I)) rfl
theorem e74_0 : iv_V call mc_74 rt 0 L st w = iv_lda L 2 fun x => iv_V call mc_74 rt 1 L (x :: st) w := iv_V_eq (I := (((0, 1), .aload_n 2, 0, 0, 0) : iv_I)) rfl
theorem e74_1 : iv_V call mc_74 rt 1 L st w = iv_gf w st 8 2 fun v st' => iv_V call mc_74 rt 2 L (v :: st') w := iv_V_eq (I := (((1, 3), .getfield 155, 8, 2, 368) : iv_I)) rfl
theorem e74_2 : iv_V call mc_74 rt 2 L st w = iv_as st fun a st' => iv_sto L 6 (.ref a) fun L' => iv_V call mc_74 rt 3 L' (st') w := iv_V_eq (I := (((4, 2), .astore 6, 0, 0, 0) : iv_I)) rfl
theorem e74_3 : iv_V call mc_74 rt 3 L st w = iv_V call mc_74 rt 4 L (.int 0 :: st) w := (iv_V_eq (I := (((6, 1), .iconst 0, 0, 0, 0) : iv_I)) rfl).trans (congrArg (fun c => iv_V call mc_74 rt 4 L (.int c :: st) w) li_o0)
theorem e74_4 : iv_V call mc_74 rt 4 L st w = iv_p1 st fun x st' => iv_sto L 7 (.int x) fun L' => iv_V call mc_74 rt 5 L' (st') w := iv_V_eq (I := (((7, 2), .istore 7, 0, 0, 0) : iv_I)) rfl
theorem e74_5 : iv_V call mc_74 rt 5 L st w = iv_ldi L 7 fun x => iv_V call mc_74 rt 6 L (.int x :: st) w := iv_V_eq (I := (((9, 2), .iload 7, 0, 0, 0) : iv_I)) rfl
theorem e74_6 : iv_V call mc_74 rt 6 L st w = iv_lda L 6 fun x => iv_V call mc_74 rt 7 L (x :: st) w := iv_V_eq (I := (((11, 2), .aload 6, 0, 0, 0) : iv_I)) rfl
theorem e74_7 : iv_V call mc_74 rt 7 L st w = iv_gf w st 3 1 fun v st' => iv_V call mc_74 rt 8 L (v :: st') w := iv_V_eq (I := (((13, 3), .getfield 176, 3, 1, 136) : iv_I)) rfl
theorem e74_8 : iv_V call mc_74 rt 8 L st w = iv_p2 st fun x y st' => if y ≤ x then iv_V call mc_74 rt 43 L (st') w else iv_V call mc_74 rt 9 L (st') w := (iv_V_eq (I := (((16, 3), .if_icmp .ge 76, 43, 0, 0) : iv_I)) rfl).trans (by simp only [iv_go, iv_cnd, decide_eq_true_eq])
theorem e74_9 : iv_V call mc_74 rt 9 L st w = iv_lda L 6 fun x => iv_V call mc_74 rt 10 L (x :: st) w := iv_V_eq (I := (((19, 2), .aload 6, 0, 0, 0) : iv_I)) rfl
theorem e74_10 : iv_V call mc_74 rt 10 L st w = iv_gf w st 3 0 fun v st' => iv_V call mc_74 rt 11 L (v :: st') w := iv_V_eq (I := (((21, 3), .getfield 177, 3, 0, 134) : iv_I)) rfl
theorem e74_11 : iv_V call mc_74 rt 11 L st w = iv_ldi L 7 fun x => iv_V call mc_74 rt 12 L (.int x :: st) w := iv_V_eq (I := (((24, 2), .iload 7, 0, 0, 0) : iv_I)) rfl
theorem e74_12 : iv_V call mc_74 rt 12 L st w = iv_ald w st iv_isA fun v st' => iv_V call mc_74 rt 13 L (v :: st') w := iv_V_eq (I := (((26, 1), .aaload, 0, 0, 0) : iv_I)) rfl
theorem e74_13 : iv_V call mc_74 rt 13 L st w = iv_ldi L 5 fun x => iv_V call mc_74 rt 14 L (.int x :: st) w := iv_V_eq (I := (((27, 2), .iload 5, 0, 0, 0) : iv_I)) rfl
theorem e74_14 : iv_V call mc_74 rt 14 L st w = iv_inv call 80 2 (fun as => iv_rc w as (iv_mc 80)) st w fun st' w' => iv_V call mc_74 rt 15 L (st') w' := iv_V_eq (I := (((29, 3), .invokevirtual 181, 80, 2, 525) : iv_I)) rfl
theorem e74_15 : iv_V call mc_74 rt 15 L st w = iv_p1 st fun x st' => if x = 0 then iv_V call mc_74 rt 41 L (st') w else iv_V call mc_74 rt 16 L (st') w := (iv_V_eq (I := (((32, 3), .ifCond .eq 54, 41, 0, 0) : iv_I)) rfl).trans (by simp only [iv_go, iv_cnd, decide_eq_true_eq])
theorem e74_16 : iv_V call mc_74 rt 16 L st w = iv_lda L 6 fun x => iv_V call mc_74 rt 17 L (x :: st) w := iv_V_eq (I := (((35, 2), .aload 6, 0, 0, 0) : iv_I)) rfl
theorem e74_17 : iv_V call mc_74 rt 17 L st w = iv_gf w st 3 2 fun v st' => iv_V call mc_74 rt 18 L (v :: st') w := iv_V_eq (I := (((37, 3), .getfield 186, 3, 2, 140) : iv_I)) rfl
theorem e74_18 : iv_V call mc_74 rt 18 L st w = iv_p1 st fun x st' => if x = 0 then iv_V call mc_74 rt 21 L (st') w else iv_V call mc_74 rt 19 L (st') w := (iv_V_eq (I := (((40, 3), .ifCond .eq 7, 21, 0, 0) : iv_I)) rfl).trans (by simp only [iv_go, iv_cnd, decide_eq_true_eq])
theorem e74_19 : iv_V call mc_74 rt 19 L st w = iv_V call mc_74 rt 20 L (.int (-1) :: st) w := (iv_V_eq (I := (((43, 1), .iconst (-1), 0, 0, 0) : iv_I)) rfl).trans (congrArg (fun c => iv_V call mc_74 rt 20 L (.int c :: st) w) li_om1)
theorem e74_20 : iv_V call mc_74 rt 20 L st w = iv_V call mc_74 rt 22 L (st) w := iv_V_eq (I := (((44, 3), .goto 5, 22, 0, 0) : iv_I)) rfl
theorem e74_21 : iv_V call mc_74 rt 21 L st w = iv_ldi L 7 fun x => iv_V call mc_74 rt 22 L (.int x :: st) w := iv_V_eq (I := (((47, 2), .iload 7, 0, 0, 0) : iv_I)) rfl
theorem e74_22 : iv_V call mc_74 rt 22 L st w = iv_p1 st fun x st' => iv_sto L 8 (.int x) fun L' => iv_V call mc_74 rt 23 L' (st') w := iv_V_eq (I := (((49, 2), .istore 8, 0, 0, 0) : iv_I)) rfl
theorem e74_23 : iv_V call mc_74 rt 23 L st w = iv_lda L 0 fun x => iv_V call mc_74 rt 24 L (x :: st) w := iv_V_eq (I := (((51, 1), .aload_n 0, 0, 0, 0) : iv_I)) rfl
theorem e74_24 : iv_V call mc_74 rt 24 L st w = iv_gf w st 2 4 fun v st' => iv_V call mc_74 rt 25 L (v :: st') w := iv_V_eq (I := (((52, 3), .getfield 27, 2, 4, 251) : iv_I)) rfl
theorem e74_25 : iv_V call mc_74 rt 25 L st w = iv_ldi L 1 fun x => iv_V call mc_74 rt 26 L (.int x :: st) w := iv_V_eq (I := (((55, 1), .iload_n 1, 0, 0, 0) : iv_I)) rfl
theorem e74_26 : iv_V call mc_74 rt 26 L st w = iv_lda L 2 fun x => iv_V call mc_74 rt 27 L (x :: st) w := iv_V_eq (I := (((56, 1), .aload_n 2, 0, 0, 0) : iv_I)) rfl
theorem e74_27 : iv_V call mc_74 rt 27 L st w = iv_gf w st 8 0 fun v st' => iv_V call mc_74 rt 28 L (v :: st') w := iv_V_eq (I := (((57, 3), .getfield 139, 8, 0, 364) : iv_I)) rfl
theorem e74_28 : iv_V call mc_74 rt 28 L st w = iv_ldi L 4 fun x => iv_V call mc_74 rt 29 L (.int x :: st) w := iv_V_eq (I := (((60, 2), .iload 4, 0, 0, 0) : iv_I)) rfl
theorem e74_29 : iv_V call mc_74 rt 29 L st w = iv_ldi L 3 fun x => iv_V call mc_74 rt 30 L (.int x :: st) w := iv_V_eq (I := (((62, 1), .iload_n 3, 0, 0, 0) : iv_I)) rfl
theorem e74_30 : iv_V call mc_74 rt 30 L st w = iv_ldi L 8 fun x => iv_V call mc_74 rt 31 L (.int x :: st) w := iv_V_eq (I := (((63, 2), .iload 8, 0, 0, 0) : iv_I)) rfl
theorem e74_31 : iv_V call mc_74 rt 31 L st w = iv_ldi L 5 fun x => iv_V call mc_74 rt 32 L (.int x :: st) w := iv_V_eq (I := (((65, 2), .iload 5, 0, 0, 0) : iv_I)) rfl
theorem e74_32 : iv_V call mc_74 rt 32 L st w = iv_inv call 89 7 (fun as => iv_rc w as (iv_mc 89)) st w fun st' w' => iv_V call mc_74 rt 33 L (st') w' := iv_V_eq (I := (((67, 3), .invokevirtual 189, 89, 7, 529) : iv_I)) rfl
theorem e74_33 : iv_V call mc_74 rt 33 L st w = iv_p1 st fun x st' => if ¬ x = 0 then iv_V call mc_74 rt 36 L (st') w else iv_V call mc_74 rt 34 L (st') w := (iv_V_eq (I := (((70, 3), .ifCond .ne 6, 36, 0, 0) : iv_I)) rfl).trans (by simp only [iv_go, iv_cnd, decide_eq_true_eq])
theorem e74_34 : iv_V call mc_74 rt 34 L st w = iv_V call mc_74 rt 35 L (.int (-5) :: st) w := (iv_V_eq (I := (((73, 2), .bipush (-5), 0, 0, 0) : iv_I)) rfl).trans (congrArg (fun c => iv_V call mc_74 rt 35 L (.int c :: st) w) li_bm5)
theorem e74_35 : iv_V call mc_74 rt 35 L st w = iv_ret rt st w := iv_V_eq (I := (((75, 1), .ireturn, 0, 0, 0) : iv_I)) rfl
theorem e74_36 : iv_V call mc_74 rt 36 L st w = iv_lda L 6 fun x => iv_V call mc_74 rt 37 L (x :: st) w := iv_V_eq (I := (((76, 2), .aload 6, 0, 0, 0) : iv_I)) rfl
theorem e74_37 : iv_V call mc_74 rt 37 L st w = iv_gf w st 3 2 fun v st' => iv_V call mc_74 rt 38 L (v :: st') w := iv_V_eq (I := (((78, 3), .getfield 186, 3, 2, 140) : iv_I)) rfl
theorem e74_38 : iv_V call mc_74 rt 38 L st w = iv_p1 st fun x st' => if x = 0 then iv_V call mc_74 rt 41 L (st') w else iv_V call mc_74 rt 39 L (st') w := (iv_V_eq (I := (((81, 3), .ifCond .eq 5, 41, 0, 0) : iv_I)) rfl).trans (by simp only [iv_go, iv_cnd, decide_eq_true_eq])
theorem e74_39 : iv_V call mc_74 rt 39 L st w = iv_V call mc_74 rt 40 L (.int 0 :: st) w := (iv_V_eq (I := (((84, 1), .iconst 0, 0, 0, 0) : iv_I)) rfl).trans (congrArg (fun c => iv_V call mc_74 rt 40 L (.int c :: st) w) li_o0)
theorem e74_40 : iv_V call mc_74 rt 40 L st w = iv_ret rt st w := iv_V_eq (I := (((85, 1), .ireturn, 0, 0, 0) : iv_I)) rfl
theorem e74_41 : iv_V call mc_74 rt 41 L st w = iv_ldi L 7 fun x => iv_sto L 7 (.int (x + 1)) fun L' => iv_V call mc_74 rt 42 L' (st) w := (iv_V_eq (I := (((86, 3), .iinc 7 1, 0, 0, 0) : iv_I)) rfl).trans (congrArg (fun c => iv_ldi L 7 fun x => iv_sto L 7 (.int (x + c)) fun L' => iv_V call mc_74 rt 42 L' (st) w) li_o1)
theorem e74_42 : iv_V call mc_74 rt 42 L st w = iv_V call mc_74 rt 5 L (st) w := iv_V_eq (I := (((89, 3), .goto (-80), 5, 0, 0) : iv_I)) rfl
theorem e74_43 : iv_V call mc_74 rt 43 L st w = iv_V call mc_74 rt 44 L (.int 0 :: st) w := (iv_V_eq (I := (((92, 1), .iconst 0, 0, 0, 0) : iv_I)) rfl).trans (congrArg (fun c => iv_V call mc_74 rt 44 L (.int c :: st) w) li_o0)
theorem e74_44 : iv_V call mc_74 rt 44 L st w = iv_ret rt st w := iv_V_eq (I := (((93, 1), .ireturn, 0, 0, 0) : iv_I)) rfl
end IVS4
