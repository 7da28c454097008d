/-! what each row does -/
section IVS1
variable {call : Nat → List Value → iv_S → iv_R} {rt : Option FieldType} {L st : List Value} {w : iv_S}
theorem e2_0 : iv_V call mc_2 rt 0 L st w = iv_lda L 0 fun x => iv_V call mc_2 rt 1 L (x :: st) w := iv_V_eq (I := (((0, 1), .aload_n 0, 0, 0, 0) : iv_I)) rfl
theorem e2_1 : iv_V call mc_2 rt 1 L st w = iv_oi st fun st' => iv_V call mc_2 rt 2 L (st') w := iv_V_eq (I := (((1, 3), .invokespecial 3, 0, 1, 47) : iv_I)) rfl
theorem e2_2 : iv_V call mc_2 rt 2 L st w = iv_lda L 0 fun x => iv_V call mc_2 rt 3 L (x :: st) w := iv_V_eq (I := (((4, 1), .aload_n 0, 0, 0, 0) : iv_I)) rfl
theorem e2_3 : iv_V call mc_2 rt 3 L st w = iv_nw w 10 fun v w' => iv_V call mc_2 rt 4 L (v :: st) w' := iv_V_eq (I := (((5, 3), .new 9, 10, 0, 50) : iv_I)) rfl
theorem e2_4 : iv_V call mc_2 rt 4 L st w = iv_d1 st fun a st' => iv_V call mc_2 rt 5 L (a :: a :: st') w := iv_V_eq (I := (((8, 1), .dup, 0, 0, 0) : iv_I)) rfl
theorem e2_5 : iv_V call mc_2 rt 5 L st w = iv_inv call 101 1 iv_isr st w fun st' w' => iv_V call mc_2 rt 6 L (st') w' := iv_V_eq (I := (((9, 3), .invokespecial 11, 101, 1, 52) : iv_I)) rfl
theorem e2_6 : iv_V call mc_2 rt 6 L st w = iv_pf w st 0 0 fun st' w' => iv_V call mc_2 rt 7 L (st') w' := iv_V_eq (I := (((12, 3), .putfield 12, 0, 0, 276) : iv_I)) rfl
theorem e2_7 : iv_V call mc_2 rt 7 L st w = iv_lda L 0 fun x => iv_V call mc_2 rt 8 L (x :: st) w := iv_V_eq (I := (((15, 1), .aload_n 0, 0, 0, 0) : iv_I)) rfl
theorem e2_8 : iv_V call mc_2 rt 8 L st w = iv_nw w 9 fun v w' => iv_V call mc_2 rt 9 L (v :: st) w' := iv_V_eq (I := (((16, 3), .new 16, 9, 0, 116) : iv_I)) rfl
theorem e2_9 : iv_V call mc_2 rt 9 L st w = iv_d1 st fun a st' => iv_V call mc_2 rt 10 L (a :: a :: st') w := iv_V_eq (I := (((19, 1), .dup, 0, 0, 0) : iv_I)) rfl
theorem e2_10 : iv_V call mc_2 rt 10 L st w = iv_inv call 97 1 iv_isr st w fun st' w' => iv_V call mc_2 rt 11 L (st') w' := iv_V_eq (I := (((20, 3), .invokespecial 18, 97, 1, 118) : iv_I)) rfl
theorem e2_11 : iv_V call mc_2 rt 11 L st w = iv_pf w st 0 1 fun st' w' => iv_V call mc_2 rt 12 L (st') w' := iv_V_eq (I := (((23, 3), .putfield 19, 0, 1, 277) : iv_I)) rfl
theorem e2_12 : iv_V call mc_2 rt 12 L st w = iv_lda L 0 fun x => iv_V call mc_2 rt 13 L (x :: st) w := iv_V_eq (I := (((26, 1), .aload_n 0, 0, 0, 0) : iv_I)) rfl
theorem e2_13 : iv_V call mc_2 rt 13 L st w = iv_nw w 5 fun v w' => iv_V call mc_2 rt 14 L (v :: st) w' := iv_V_eq (I := (((27, 3), .new 23, 5, 0, 161) : iv_I)) rfl
theorem e2_14 : iv_V call mc_2 rt 14 L st w = iv_d1 st fun a st' => iv_V call mc_2 rt 15 L (a :: a :: st') w := iv_V_eq (I := (((30, 1), .dup, 0, 0, 0) : iv_I)) rfl
theorem e2_15 : iv_V call mc_2 rt 15 L st w = iv_inv call 81 1 iv_isr st w fun st' w' => iv_V call mc_2 rt 16 L (st') w' := iv_V_eq (I := (((31, 3), .invokespecial 25, 81, 1, 163) : iv_I)) rfl
theorem e2_16 : iv_V call mc_2 rt 16 L st w = iv_pf w st 0 2 fun st' w' => iv_V call mc_2 rt 17 L (st') w' := iv_V_eq (I := (((34, 3), .putfield 26, 0, 2, 278) : iv_I)) rfl
theorem e2_17 : iv_V call mc_2 rt 17 L st w = iv_lda L 0 fun x => iv_V call mc_2 rt 18 L (x :: st) w := iv_V_eq (I := (((37, 1), .aload_n 0, 0, 0, 0) : iv_I)) rfl
theorem e2_18 : iv_V call mc_2 rt 18 L st w = iv_nw w 11 fun v w' => iv_V call mc_2 rt 19 L (v :: st) w' := iv_V_eq (I := (((38, 3), .new 30, 11, 0, 182) : iv_I)) rfl
theorem e2_19 : iv_V call mc_2 rt 19 L st w = iv_d1 st fun a st' => iv_V call mc_2 rt 20 L (a :: a :: st') w := iv_V_eq (I := (((41, 1), .dup, 0, 0, 0) : iv_I)) rfl
theorem e2_20 : iv_V call mc_2 rt 20 L st w = iv_inv call 110 1 iv_isr st w fun st' w' => iv_V call mc_2 rt 21 L (st') w' := iv_V_eq (I := (((42, 3), .invokespecial 32, 110, 1, 184) : iv_I)) rfl
theorem e2_21 : iv_V call mc_2 rt 21 L st w = iv_pf w st 0 3 fun st' w' => iv_V call mc_2 rt 22 L (st') w' := iv_V_eq (I := (((45, 3), .putfield 33, 0, 3, 279) : iv_I)) rfl
theorem e2_22 : iv_V call mc_2 rt 22 L st w = iv_lda L 0 fun x => iv_V call mc_2 rt 23 L (x :: st) w := iv_V_eq (I := (((48, 1), .aload_n 0, 0, 0, 0) : iv_I)) rfl
theorem e2_23 : iv_V call mc_2 rt 23 L st w = iv_nw w 6 fun v w' => iv_V call mc_2 rt 24 L (v :: st) w' := iv_V_eq (I := (((49, 3), .new 37, 6, 0, 206) : iv_I)) rfl
theorem e2_24 : iv_V call mc_2 rt 24 L st w = iv_d1 st fun a st' => iv_V call mc_2 rt 25 L (a :: a :: st') w := iv_V_eq (I := (((52, 1), .dup, 0, 0, 0) : iv_I)) rfl
theorem e2_25 : iv_V call mc_2 rt 25 L st w = iv_inv call 87 1 iv_isr st w fun st' w' => iv_V call mc_2 rt 26 L (st') w' := iv_V_eq (I := (((53, 3), .invokespecial 39, 87, 1, 208) : iv_I)) rfl
theorem e2_26 : iv_V call mc_2 rt 26 L st w = iv_pf w st 0 4 fun st' w' => iv_V call mc_2 rt 27 L (st') w' := iv_V_eq (I := (((56, 3), .putfield 40, 0, 4, 280) : iv_I)) rfl
theorem e2_27 : iv_V call mc_2 rt 27 L st w = iv_lda L 0 fun x => iv_V call mc_2 rt 28 L (x :: st) w := iv_V_eq (I := (((59, 1), .aload_n 0, 0, 0, 0) : iv_I)) rfl
theorem e2_28 : iv_V call mc_2 rt 28 L st w = iv_nw w 2 fun v w' => iv_V call mc_2 rt 29 L (v :: st) w' := iv_V_eq (I := (((60, 3), .new 44, 2, 0, 241) : iv_I)) rfl
theorem e2_29 : iv_V call mc_2 rt 29 L st w = iv_d1 st fun a st' => iv_V call mc_2 rt 30 L (a :: a :: st') w := iv_V_eq (I := (((63, 1), .dup, 0, 0, 0) : iv_I)) rfl
theorem e2_30 : iv_V call mc_2 rt 30 L st w = iv_lda L 0 fun x => iv_V call mc_2 rt 31 L (x :: st) w := iv_V_eq (I := (((64, 1), .aload_n 0, 0, 0, 0) : iv_I)) rfl
theorem e2_31 : iv_V call mc_2 rt 31 L st w = iv_gf w st 0 0 fun v st' => iv_V call mc_2 rt 32 L (v :: st') w := iv_V_eq (I := (((65, 3), .getfield 12, 0, 0, 276) : iv_I)) rfl
theorem e2_32 : iv_V call mc_2 rt 32 L st w = iv_lda L 0 fun x => iv_V call mc_2 rt 33 L (x :: st) w := iv_V_eq (I := (((68, 1), .aload_n 0, 0, 0, 0) : iv_I)) rfl
theorem e2_33 : iv_V call mc_2 rt 33 L st w = iv_gf w st 0 1 fun v st' => iv_V call mc_2 rt 34 L (v :: st') w := iv_V_eq (I := (((69, 3), .getfield 19, 0, 1, 277) : iv_I)) rfl
theorem e2_34 : iv_V call mc_2 rt 34 L st w = iv_lda L 0 fun x => iv_V call mc_2 rt 35 L (x :: st) w := iv_V_eq (I := (((72, 1), .aload_n 0, 0, 0, 0) : iv_I)) rfl
theorem e2_35 : iv_V call mc_2 rt 35 L st w = iv_gf w st 0 2 fun v st' => iv_V call mc_2 rt 36 L (v :: st') w := iv_V_eq (I := (((73, 3), .getfield 26, 0, 2, 278) : iv_I)) rfl
theorem e2_36 : iv_V call mc_2 rt 36 L st w = iv_lda L 0 fun x => iv_V call mc_2 rt 37 L (x :: st) w := iv_V_eq (I := (((76, 1), .aload_n 0, 0, 0, 0) : iv_I)) rfl
theorem e2_37 : iv_V call mc_2 rt 37 L st w = iv_gf w st 0 3 fun v st' => iv_V call mc_2 rt 38 L (v :: st') w := iv_V_eq (I := (((77, 3), .getfield 33, 0, 3, 279) : iv_I)) rfl
theorem e2_38 : iv_V call mc_2 rt 38 L st w = iv_lda L 0 fun x => iv_V call mc_2 rt 39 L (x :: st) w := iv_V_eq (I := (((80, 1), .aload_n 0, 0, 0, 0) : iv_I)) rfl
theorem e2_39 : iv_V call mc_2 rt 39 L st w = iv_gf w st 0 4 fun v st' => iv_V call mc_2 rt 40 L (v :: st') w := iv_V_eq (I := (((81, 3), .getfield 40, 0, 4, 280) : iv_I)) rfl
theorem e2_40 : iv_V call mc_2 rt 40 L st w = iv_inv call 64 6 iv_isr st w fun st' w' => iv_V call mc_2 rt 41 L (st') w' := iv_V_eq (I := (((84, 3), .invokespecial 46, 64, 6, 243) : iv_I)) rfl
theorem e2_41 : iv_V call mc_2 rt 41 L st w = iv_pf w st 0 5 fun st' w' => iv_V call mc_2 rt 42 L (st') w' := iv_V_eq (I := (((87, 3), .putfield 49, 0, 5, 281) : iv_I)) rfl
theorem e2_42 : iv_V call mc_2 rt 42 L st w = iv_rev rt st w := iv_V_eq (I := (((90, 1), .return_, 0, 0, 0) : iv_I)) rfl
theorem e3_0 : iv_V call mc_3 rt 0 L st w = iv_ldi L 1 fun x => iv_V call mc_3 rt 1 L (.int x :: st) w := iv_V_eq (I := (((0, 1), .iload_n 1, 0, 0, 0) : iv_I)) rfl
theorem e3_1 : iv_V call mc_3 rt 1 L st w = iv_V call mc_3 rt 2 L (.int (-1) :: st) w := (iv_V_eq (I := (((1, 1), .iconst (-1), 0, 0, 0) : iv_I)) rfl).trans (congrArg (fun c => iv_V call mc_3 rt 2 L (.int c :: st) w) li_om1)
theorem e3_2 : iv_V call mc_3 rt 2 L st w = iv_p2 st fun x y st' => if x = y then iv_V call mc_3 rt 10 L (st') w else iv_V call mc_3 rt 3 L (st') w := (iv_V_eq (I := (((2, 3), .if_icmp .eq 16, 10, 0, 0) : iv_I)) rfl).trans (by simp only [iv_go, iv_cnd, decide_eq_true_eq])
theorem e3_3 : iv_V call mc_3 rt 3 L st w = iv_lda L 0 fun x => iv_V call mc_3 rt 4 L (x :: st) w := iv_V_eq (I := (((5, 1), .aload_n 0, 0, 0, 0) : iv_I)) rfl
theorem e3_4 : iv_V call mc_3 rt 4 L st w = iv_gf w st 0 0 fun v st' => iv_V call mc_3 rt 5 L (v :: st') w := iv_V_eq (I := (((6, 3), .getfield 12, 0, 0, 276) : iv_I)) rfl
theorem e3_5 : iv_V call mc_3 rt 5 L st w = iv_ldi L 1 fun x => iv_V call mc_3 rt 6 L (.int x :: st) w := iv_V_eq (I := (((9, 1), .iload_n 1, 0, 0, 0) : iv_I)) rfl
theorem e3_6 : iv_V call mc_3 rt 6 L st w = iv_inv call 102 2 (fun as => iv_rc w as (iv_mc 102)) st w fun st' w' => iv_V call mc_3 rt 7 L (st') w' := iv_V_eq (I := (((10, 3), .invokevirtual 53, 102, 2, 299) : iv_I)) rfl
theorem e3_7 : iv_V call mc_3 rt 7 L st w = iv_p1 st fun x st' => if ¬ x = 0 then iv_V call mc_3 rt 10 L (st') w else iv_V call mc_3 rt 8 L (st') w := (iv_V_eq (I := (((13, 3), .ifCond .ne 5, 10, 0, 0) : iv_I)) rfl).trans (by simp only [iv_go, iv_cnd, decide_eq_true_eq])
theorem e3_8 : iv_V call mc_3 rt 8 L st w = iv_V call mc_3 rt 9 L (.int (-1) :: st) w := (iv_V_eq (I := (((16, 1), .iconst (-1), 0, 0, 0) : iv_I)) rfl).trans (congrArg (fun c => iv_V call mc_3 rt 9 L (.int c :: st) w) li_om1)
theorem e3_9 : iv_V call mc_3 rt 9 L st w = iv_ret rt st w := iv_V_eq (I := (((17, 1), .ireturn, 0, 0, 0) : iv_I)) rfl
theorem e3_10 : iv_V call mc_3 rt 10 L st w = iv_lda L 0 fun x => iv_V call mc_3 rt 11 L (x :: st) w := iv_V_eq (I := (((18, 1), .aload_n 0, 0, 0, 0) : iv_I)) rfl
theorem e3_11 : iv_V call mc_3 rt 11 L st w = iv_gf w st 0 0 fun v st' => iv_V call mc_3 rt 12 L (v :: st') w := iv_V_eq (I := (((19, 3), .getfield 12, 0, 0, 276) : iv_I)) rfl
theorem e3_12 : iv_V call mc_3 rt 12 L st w = iv_ldi L 1 fun x => iv_V call mc_3 rt 13 L (.int x :: st) w := iv_V_eq (I := (((22, 1), .iload_n 1, 0, 0, 0) : iv_I)) rfl
theorem e3_13 : iv_V call mc_3 rt 13 L st w = iv_inv call 108 2 (fun as => iv_rc w as (iv_mc 108)) st w fun st' w' => iv_V call mc_3 rt 14 L (st') w' := iv_V_eq (I := (((23, 3), .invokevirtual 57, 108, 2, 303) : iv_I)) rfl
theorem e3_14 : iv_V call mc_3 rt 14 L st w = iv_ret rt st w := iv_V_eq (I := (((26, 1), .ireturn, 0, 0, 0) : iv_I)) rfl
theorem e4_0 : iv_V call mc_4 rt 0 L st w = iv_lda L 0 fun x => iv_V call mc_4 rt 1 L (x :: st) w := iv_V_eq (I := (((0, 1), .aload_n 0, 0, 0, 0) : iv_I)) rfl
theorem e4_1 : iv_V call mc_4 rt 1 L st w = iv_gf w st 0 0 fun v st' => iv_V call mc_4 rt 2 L (v :: st') w := iv_V_eq (I := (((1, 3), .getfield 12, 0, 0, 276) : iv_I)) rfl
theorem e4_2 : iv_V call mc_4 rt 2 L st w = iv_ldi L 1 fun x => iv_V call mc_4 rt 3 L (.int x :: st) w := iv_V_eq (I := (((4, 1), .iload_n 1, 0, 0, 0) : iv_I)) rfl
theorem e4_3 : iv_V call mc_4 rt 3 L st w = iv_inv call 102 2 (fun as => iv_rc w as (iv_mc 102)) st w fun st' w' => iv_V call mc_4 rt 4 L (st') w' := iv_V_eq (I := (((5, 3), .invokevirtual 53, 102, 2, 299) : iv_I)) rfl
theorem e4_4 : iv_V call mc_4 rt 4 L st w = iv_p1 st fun x st' => if x = 0 then iv_V call mc_4 rt 10 L (st') w else iv_V call mc_4 rt 5 L (st') w := (iv_V_eq (I := (((8, 3), .ifCond .eq 12, 10, 0, 0) : iv_I)) rfl).trans (by simp only [iv_go, iv_cnd, decide_eq_true_eq])
theorem e4_5 : iv_V call mc_4 rt 5 L st w = iv_ldi L 2 fun x => iv_V call mc_4 rt 6 L (.int x :: st) w := iv_V_eq (I := (((11, 1), .iload_n 2, 0, 0, 0) : iv_I)) rfl
theorem e4_6 : iv_V call mc_4 rt 6 L st w = iv_p1 st fun x st' => if x < 0 then iv_V call mc_4 rt 10 L (st') w else iv_V call mc_4 rt 7 L (st') w := (iv_V_eq (I := (((12, 3), .ifCond .lt 8, 10, 0, 0) : iv_I)) rfl).trans (by simp only [iv_go, iv_cnd, decide_eq_true_eq])
theorem e4_7 : iv_V call mc_4 rt 7 L st w = iv_ldi L 2 fun x => iv_V call mc_4 rt 8 L (.int x :: st) w := iv_V_eq (I := (((15, 1), .iload_n 2, 0, 0, 0) : iv_I)) rfl
theorem e4_8 : iv_V call mc_4 rt 8 L st w = iv_V call mc_4 rt 9 L (.int 3 :: st) w := (iv_V_eq (I := (((16, 1), .iconst 3, 0, 0, 0) : iv_I)) rfl).trans (congrArg (fun c => iv_V call mc_4 rt 9 L (.int c :: st) w) li_o3)
theorem e4_9 : iv_V call mc_4 rt 9 L st w = iv_p2 st fun x y st' => if x ≤ y then iv_V call mc_4 rt 12 L (st') w else iv_V call mc_4 rt 10 L (st') w := (iv_V_eq (I := (((17, 3), .if_icmp .le 5, 12, 0, 0) : iv_I)) rfl).trans (by simp only [iv_go, iv_cnd, decide_eq_true_eq])
theorem e4_10 : iv_V call mc_4 rt 10 L st w = iv_V call mc_4 rt 11 L (.int (-1) :: st) w := (iv_V_eq (I := (((20, 1), .iconst (-1), 0, 0, 0) : iv_I)) rfl).trans (congrArg (fun c => iv_V call mc_4 rt 11 L (.int c :: st) w) li_om1)
theorem e4_11 : iv_V call mc_4 rt 11 L st w = iv_ret rt st w := iv_V_eq (I := (((21, 1), .ireturn, 0, 0, 0) : iv_I)) rfl
theorem e4_12 : iv_V call mc_4 rt 12 L st w = iv_lda L 0 fun x => iv_V call mc_4 rt 13 L (x :: st) w := iv_V_eq (I := (((22, 1), .aload_n 0, 0, 0, 0) : iv_I)) rfl
theorem e4_13 : iv_V call mc_4 rt 13 L st w = iv_gf w st 0 0 fun v st' => iv_V call mc_4 rt 14 L (v :: st') w := iv_V_eq (I := (((23, 3), .getfield 12, 0, 0, 276) : iv_I)) rfl
theorem e4_14 : iv_V call mc_4 rt 14 L st w = iv_ldi L 1 fun x => iv_V call mc_4 rt 15 L (.int x :: st) w := iv_V_eq (I := (((26, 1), .iload_n 1, 0, 0, 0) : iv_I)) rfl
theorem e4_15 : iv_V call mc_4 rt 15 L st w = iv_ldi L 2 fun x => iv_V call mc_4 rt 16 L (.int x :: st) w := iv_V_eq (I := (((27, 1), .iload_n 2, 0, 0, 0) : iv_I)) rfl
theorem e4_16 : iv_V call mc_4 rt 16 L st w = iv_inv call 109 3 (fun as => iv_rc w as (iv_mc 109)) st w fun st' w' => iv_V call mc_4 rt 17 L (st') w' := iv_V_eq (I := (((28, 3), .invokevirtual 61, 109, 3, 311) : iv_I)) rfl
theorem e4_17 : iv_V call mc_4 rt 17 L st w = iv_p1 st fun x st' => iv_sto L 3 (.int x) fun L' => iv_V call mc_4 rt 18 L' (st') w := iv_V_eq (I := (((31, 1), .istore_n 3, 0, 0, 0) : iv_I)) rfl
theorem e4_18 : iv_V call mc_4 rt 18 L st w = iv_ldi L 3 fun x => iv_V call mc_4 rt 19 L (.int x :: st) w := iv_V_eq (I := (((32, 1), .iload_n 3, 0, 0, 0) : iv_I)) rfl
theorem e4_19 : iv_V call mc_4 rt 19 L st w = iv_V call mc_4 rt 20 L (.int (-1) :: st) w := (iv_V_eq (I := (((33, 1), .iconst (-1), 0, 0, 0) : iv_I)) rfl).trans (congrArg (fun c => iv_V call mc_4 rt 20 L (.int c :: st) w) li_om1)
theorem e4_20 : iv_V call mc_4 rt 20 L st w = iv_p2 st fun x y st' => if x = y then iv_V call mc_4 rt 30 L (st') w else iv_V call mc_4 rt 21 L (st') w := (iv_V_eq (I := (((34, 3), .if_icmp .eq 20, 30, 0, 0) : iv_I)) rfl).trans (by simp only [iv_go, iv_cnd, decide_eq_true_eq])
theorem e4_21 : iv_V call mc_4 rt 21 L st w = iv_lda L 0 fun x => iv_V call mc_4 rt 22 L (x :: st) w := iv_V_eq (I := (((37, 1), .aload_n 0, 0, 0, 0) : iv_I)) rfl
theorem e4_22 : iv_V call mc_4 rt 22 L st w = iv_gf w st 0 3 fun v st' => iv_V call mc_4 rt 23 L (v :: st') w := iv_V_eq (I := (((38, 3), .getfield 33, 0, 3, 279) : iv_I)) rfl
theorem e4_23 : iv_V call mc_4 rt 23 L st w = iv_ldi L 3 fun x => iv_V call mc_4 rt 24 L (.int x :: st) w := iv_V_eq (I := (((41, 1), .iload_n 3, 0, 0, 0) : iv_I)) rfl
theorem e4_24 : iv_V call mc_4 rt 24 L st w = iv_ldi L 2 fun x => iv_V call mc_4 rt 25 L (.int x :: st) w := iv_V_eq (I := (((42, 1), .iload_n 2, 0, 0, 0) : iv_I)) rfl
theorem e4_25 : iv_V call mc_4 rt 25 L st w = iv_p1 st fun x st' => if ¬ x = 0 then iv_V call mc_4 rt 28 L (st') w else iv_V call mc_4 rt 26 L (st') w := (iv_V_eq (I := (((43, 3), .ifCond .ne 7, 28, 0, 0) : iv_I)) rfl).trans (by simp only [iv_go, iv_cnd, decide_eq_true_eq])
theorem e4_26 : iv_V call mc_4 rt 26 L st w = iv_V call mc_4 rt 27 L (.int 0 :: st) w := (iv_V_eq (I := (((46, 1), .iconst 0, 0, 0, 0) : iv_I)) rfl).trans (congrArg (fun c => iv_V call mc_4 rt 27 L (.int c :: st) w) li_o0)
theorem e4_27 : iv_V call mc_4 rt 27 L st w = iv_V call mc_4 rt 29 L (st) w := iv_V_eq (I := (((47, 3), .goto 4, 29, 0, 0) : iv_I)) rfl
theorem e4_28 : iv_V call mc_4 rt 28 L st w = iv_V call mc_4 rt 29 L (.int (-1) :: st) w := (iv_V_eq (I := (((50, 1), .iconst (-1), 0, 0, 0) : iv_I)) rfl).trans (congrArg (fun c => iv_V call mc_4 rt 29 L (.int c :: st) w) li_om1)
theorem e4_29 : iv_V call mc_4 rt 29 L st w = iv_inv call 112 3 (fun as => iv_rc w as (iv_mc 112)) st w fun st' w' => iv_V call mc_4 rt 30 L (st') w' := iv_V_eq (I := (((51, 3), .invokevirtual 65, 112, 3, 315) : iv_I)) rfl
theorem e4_30 : iv_V call mc_4 rt 30 L st w = iv_ldi L 3 fun x => iv_V call mc_4 rt 31 L (.int x :: st) w := iv_V_eq (I := (((54, 1), .iload_n 3, 0, 0, 0) : iv_I)) rfl
theorem e4_31 : iv_V call mc_4 rt 31 L st w = iv_ret rt st w := iv_V_eq (I := (((55, 1), .ireturn, 0, 0, 0) : iv_I)) rfl
theorem e5_0 : iv_V call mc_5 rt 0 L st w = iv_lda L 0 fun x => iv_V call mc_5 rt 1 L (x :: st) w := iv_V_eq (I := (((0, 1), .aload_n 0, 0, 0, 0) : iv_I)) rfl
theorem e5_1 : iv_V call mc_5 rt 1 L st w = iv_gf w st 0 0 fun v st' => iv_V call mc_5 rt 2 L (v :: st') w := iv_V_eq (I := (((1, 3), .getfield 12, 0, 0, 276) : iv_I)) rfl
theorem e5_2 : iv_V call mc_5 rt 2 L st w = iv_ldi L 1 fun x => iv_V call mc_5 rt 3 L (.int x :: st) w := iv_V_eq (I := (((4, 1), .iload_n 1, 0, 0, 0) : iv_I)) rfl
theorem e5_3 : iv_V call mc_5 rt 3 L st w = iv_inv call 103 2 (fun as => iv_rc w as (iv_mc 103)) st w fun st' w' => iv_V call mc_5 rt 4 L (st') w' := iv_V_eq (I := (((5, 3), .invokevirtual 69, 103, 2, 323) : iv_I)) rfl
theorem e5_4 : iv_V call mc_5 rt 4 L st w = iv_p1 st fun x st' => if x = 0 then iv_V call mc_5 rt 10 L (st') w else iv_V call mc_5 rt 5 L (st') w := (iv_V_eq (I := (((8, 3), .ifCond .eq 12, 10, 0, 0) : iv_I)) rfl).trans (by simp only [iv_go, iv_cnd, decide_eq_true_eq])
theorem e5_5 : iv_V call mc_5 rt 5 L st w = iv_ldi L 3 fun x => iv_V call mc_5 rt 6 L (.int x :: st) w := iv_V_eq (I := (((11, 1), .iload_n 3, 0, 0, 0) : iv_I)) rfl
theorem e5_6 : iv_V call mc_5 rt 6 L st w = iv_p1 st fun x st' => if x < 0 then iv_V call mc_5 rt 10 L (st') w else iv_V call mc_5 rt 7 L (st') w := (iv_V_eq (I := (((12, 3), .ifCond .lt 8, 10, 0, 0) : iv_I)) rfl).trans (by simp only [iv_go, iv_cnd, decide_eq_true_eq])
theorem e5_7 : iv_V call mc_5 rt 7 L st w = iv_ldi L 3 fun x => iv_V call mc_5 rt 8 L (.int x :: st) w := iv_V_eq (I := (((15, 1), .iload_n 3, 0, 0, 0) : iv_I)) rfl
theorem e5_8 : iv_V call mc_5 rt 8 L st w = iv_V call mc_5 rt 9 L (.int 4 :: st) w := (iv_V_eq (I := (((16, 1), .iconst 4, 0, 0, 0) : iv_I)) rfl).trans (congrArg (fun c => iv_V call mc_5 rt 9 L (.int c :: st) w) li_o4)
theorem e5_9 : iv_V call mc_5 rt 9 L st w = iv_p2 st fun x y st' => if x ≤ y then iv_V call mc_5 rt 12 L (st') w else iv_V call mc_5 rt 10 L (st') w := (iv_V_eq (I := (((17, 3), .if_icmp .le 5, 12, 0, 0) : iv_I)) rfl).trans (by simp only [iv_go, iv_cnd, decide_eq_true_eq])
theorem e5_10 : iv_V call mc_5 rt 10 L st w = iv_V call mc_5 rt 11 L (.int (-1) :: st) w := (iv_V_eq (I := (((20, 1), .iconst (-1), 0, 0, 0) : iv_I)) rfl).trans (congrArg (fun c => iv_V call mc_5 rt 11 L (.int c :: st) w) li_om1)
theorem e5_11 : iv_V call mc_5 rt 11 L st w = iv_ret rt st w := iv_V_eq (I := (((21, 1), .ireturn, 0, 0, 0) : iv_I)) rfl
theorem e5_12 : iv_V call mc_5 rt 12 L st w = iv_ldi L 3 fun x => iv_V call mc_5 rt 13 L (.int x :: st) w := iv_V_eq (I := (((22, 1), .iload_n 3, 0, 0, 0) : iv_I)) rfl
theorem e5_13 : iv_V call mc_5 rt 13 L st w = iv_V call mc_5 rt 14 L (.int 4 :: st) w := (iv_V_eq (I := (((23, 1), .iconst 4, 0, 0, 0) : iv_I)) rfl).trans (congrArg (fun c => iv_V call mc_5 rt 14 L (.int c :: st) w) li_o4)
theorem e5_14 : iv_V call mc_5 rt 14 L st w = iv_p2 st fun x y st' => if ¬ x = y then iv_V call mc_5 rt 22 L (st') w else iv_V call mc_5 rt 15 L (st') w := (iv_V_eq (I := (((24, 3), .if_icmp .ne 17, 22, 0, 0) : iv_I)) rfl).trans (by simp only [iv_go, iv_cnd, decide_eq_true_eq])
theorem e5_15 : iv_V call mc_5 rt 15 L st w = iv_lda L 0 fun x => iv_V call mc_5 rt 16 L (x :: st) w := iv_V_eq (I := (((27, 1), .aload_n 0, 0, 0, 0) : iv_I)) rfl
theorem e5_16 : iv_V call mc_5 rt 16 L st w = iv_gf w st 0 1 fun v st' => iv_V call mc_5 rt 17 L (v :: st') w := iv_V_eq (I := (((28, 3), .getfield 19, 0, 1, 277) : iv_I)) rfl
theorem e5_17 : iv_V call mc_5 rt 17 L st w = iv_ldi L 4 fun x => iv_V call mc_5 rt 18 L (.int x :: st) w := iv_V_eq (I := (((31, 2), .iload 4, 0, 0, 0) : iv_I)) rfl
theorem e5_18 : iv_V call mc_5 rt 18 L st w = iv_inv call 98 2 (fun as => iv_rc w as (iv_mc 98)) st w fun st' w' => iv_V call mc_5 rt 19 L (st') w' := iv_V_eq (I := (((33, 3), .invokevirtual 72, 98, 2, 327) : iv_I)) rfl
theorem e5_19 : iv_V call mc_5 rt 19 L st w = iv_p1 st fun x st' => if ¬ x = 0 then iv_V call mc_5 rt 22 L (st') w else iv_V call mc_5 rt 20 L (st') w := (iv_V_eq (I := (((36, 3), .ifCond .ne 5, 22, 0, 0) : iv_I)) rfl).trans (by simp only [iv_go, iv_cnd, decide_eq_true_eq])
theorem e5_20 : iv_V call mc_5 rt 20 L st w = iv_V call mc_5 rt 21 L (.int (-1) :: st) w := (iv_V_eq (I := (((39, 1), .iconst (-1), 0, 0, 0) : iv_I)) rfl).trans (congrArg (fun c => iv_V call mc_5 rt 21 L (.int c :: st) w) li_om1)
theorem e5_21 : iv_V call mc_5 rt 21 L st w = iv_ret rt st w := iv_V_eq (I := (((40, 1), .ireturn, 0, 0, 0) : iv_I)) rfl
theorem e5_22 : iv_V call mc_5 rt 22 L st w = iv_ldi L 6 fun x => iv_V call mc_5 rt 23 L (.int x :: st) w := iv_V_eq (I := (((41, 2), .iload 6, 0, 0, 0) : iv_I)) rfl
theorem e5_23 : iv_V call mc_5 rt 23 L st w = iv_V call mc_5 rt 24 L (.int 1 :: st) w := (iv_V_eq (I := (((43, 1), .iconst 1, 0, 0, 0) : iv_I)) rfl).trans (congrArg (fun c => iv_V call mc_5 rt 24 L (.int c :: st) w) li_o1)
theorem e5_24 : iv_V call mc_5 rt 24 L st w = iv_p2 st fun x y st' => if x < y then iv_V call mc_5 rt 28 L (st') w else iv_V call mc_5 rt 25 L (st') w := (iv_V_eq (I := (((44, 3), .if_icmp .lt 10, 28, 0, 0) : iv_I)) rfl).trans (by simp only [iv_go, iv_cnd, decide_eq_true_eq])
theorem e5_25 : iv_V call mc_5 rt 25 L st w = iv_ldi L 6 fun x => iv_V call mc_5 rt 26 L (.int x :: st) w := iv_V_eq (I := (((47, 2), .iload 6, 0, 0, 0) : iv_I)) rfl
theorem e5_26 : iv_V call mc_5 rt 26 L st w = iv_V call mc_5 rt 27 L (.int 63 :: st) w := (iv_V_eq (I := (((49, 2), .bipush 63, 0, 0, 0) : iv_I)) rfl).trans (congrArg (fun c => iv_V call mc_5 rt 27 L (.int c :: st) w) li_b63)
theorem e5_27 : iv_V call mc_5 rt 27 L st w = iv_p2 st fun x y st' => if x ≤ y then iv_V call mc_5 rt 30 L (st') w else iv_V call mc_5 rt 28 L (st') w := (iv_V_eq (I := (((51, 3), .if_icmp .le 5, 30, 0, 0) : iv_I)) rfl).trans (by simp only [iv_go, iv_cnd, decide_eq_true_eq])
theorem e5_28 : iv_V call mc_5 rt 28 L st w = iv_V call mc_5 rt 29 L (.int (-1) :: st) w := (iv_V_eq (I := (((54, 1), .iconst (-1), 0, 0, 0) : iv_I)) rfl).trans (congrArg (fun c => iv_V call mc_5 rt 29 L (.int c :: st) w) li_om1)
theorem e5_29 : iv_V call mc_5 rt 29 L st w = iv_ret rt st w := iv_V_eq (I := (((55, 1), .ireturn, 0, 0, 0) : iv_I)) rfl
theorem e5_30 : iv_V call mc_5 rt 30 L st w = iv_ldi L 3 fun x => iv_V call mc_5 rt 31 L (.int x :: st) w := iv_V_eq (I := (((56, 1), .iload_n 3, 0, 0, 0) : iv_I)) rfl
theorem e5_31 : iv_V call mc_5 rt 31 L st w = iv_V call mc_5 rt 32 L (.int 4 :: st) w := (iv_V_eq (I := (((57, 1), .iconst 4, 0, 0, 0) : iv_I)) rfl).trans (congrArg (fun c => iv_V call mc_5 rt 32 L (.int c :: st) w) li_o4)
theorem e5_32 : iv_V call mc_5 rt 32 L st w = iv_p2 st fun x y st' => if ¬ x = y then iv_V call mc_5 rt 39 L (st') w else iv_V call mc_5 rt 33 L (st') w := (iv_V_eq (I := (((58, 3), .if_icmp .ne 16, 39, 0, 0) : iv_I)) rfl).trans (by simp only [iv_go, iv_cnd, decide_eq_true_eq])
theorem e5_33 : iv_V call mc_5 rt 33 L st w = iv_lda L 0 fun x => iv_V call mc_5 rt 34 L (x :: st) w := iv_V_eq (I := (((61, 1), .aload_n 0, 0, 0, 0) : iv_I)) rfl
theorem e5_34 : iv_V call mc_5 rt 34 L st w = iv_gf w st 0 1 fun v st' => iv_V call mc_5 rt 35 L (v :: st') w := iv_V_eq (I := (((62, 3), .getfield 19, 0, 1, 277) : iv_I)) rfl
theorem e5_35 : iv_V call mc_5 rt 35 L st w = iv_gf w st 9 2 fun v st' => iv_V call mc_5 rt 36 L (v :: st') w := iv_V_eq (I := (((65, 3), .getfield 75, 9, 2, 153) : iv_I)) rfl
theorem e5_36 : iv_V call mc_5 rt 36 L st w = iv_ldi L 4 fun x => iv_V call mc_5 rt 37 L (.int x :: st) w := iv_V_eq (I := (((68, 2), .iload 4, 0, 0, 0) : iv_I)) rfl
theorem e5_37 : iv_V call mc_5 rt 37 L st w = iv_ald w st iv_isA fun v st' => iv_V call mc_5 rt 38 L (v :: st') w := iv_V_eq (I := (((70, 1), .aaload, 0, 0, 0) : iv_I)) rfl
theorem e5_38 : iv_V call mc_5 rt 38 L st w = iv_V call mc_5 rt 45 L (st) w := iv_V_eq (I := (((71, 3), .goto 15, 45, 0, 0) : iv_I)) rfl
theorem e5_39 : iv_V call mc_5 rt 39 L st w = iv_lda L 0 fun x => iv_V call mc_5 rt 40 L (x :: st) w := iv_V_eq (I := (((74, 1), .aload_n 0, 0, 0, 0) : iv_I)) rfl
theorem e5_40 : iv_V call mc_5 rt 40 L st w = iv_gf w st 0 1 fun v st' => iv_V call mc_5 rt 41 L (v :: st') w := iv_V_eq (I := (((75, 3), .getfield 19, 0, 1, 277) : iv_I)) rfl
theorem e5_41 : iv_V call mc_5 rt 41 L st w = iv_ldi L 3 fun x => iv_V call mc_5 rt 42 L (.int x :: st) w := iv_V_eq (I := (((78, 1), .iload_n 3, 0, 0, 0) : iv_I)) rfl
theorem e5_42 : iv_V call mc_5 rt 42 L st w = iv_ldi L 4 fun x => iv_V call mc_5 rt 43 L (.int x :: st) w := iv_V_eq (I := (((79, 2), .iload 4, 0, 0, 0) : iv_I)) rfl
theorem e5_43 : iv_V call mc_5 rt 43 L st w = iv_ldi L 5 fun x => iv_V call mc_5 rt 44 L (.int x :: st) w := iv_V_eq (I := (((81, 2), .iload 5, 0, 0, 0) : iv_I)) rfl
theorem e5_44 : iv_V call mc_5 rt 44 L st w = iv_inv call 99 4 (fun as => iv_rc w as (iv_mc 99)) st w fun st' w' => iv_V call mc_5 rt 45 L (st') w' := iv_V_eq (I := (((83, 3), .invokevirtual 79, 99, 4, 331) : iv_I)) rfl
theorem e5_45 : iv_V call mc_5 rt 45 L st w = iv_as st fun a st' => iv_sto L 7 (.ref a) fun L' => iv_V call mc_5 rt 46 L' (st') w := iv_V_eq (I := (((86, 2), .astore 7, 0, 0, 0) : iv_I)) rfl
theorem e5_46 : iv_V call mc_5 rt 46 L st w = iv_lda L 0 fun x => iv_V call mc_5 rt 47 L (x :: st) w := iv_V_eq (I := (((88, 1), .aload_n 0, 0, 0, 0) : iv_I)) rfl
theorem e5_47 : iv_V call mc_5 rt 47 L st w = iv_gf w st 0 1 fun v st' => iv_V call mc_5 rt 48 L (v :: st') w := iv_V_eq (I := (((89, 3), .getfield 19, 0, 1, 277) : iv_I)) rfl
theorem e5_48 : iv_V call mc_5 rt 48 L st w = iv_ldi L 1 fun x => iv_V call mc_5 rt 49 L (.int x :: st) w := iv_V_eq (I := (((92, 1), .iload_n 1, 0, 0, 0) : iv_I)) rfl
theorem e5_49 : iv_V call mc_5 rt 49 L st w = iv_ldi L 2 fun x => iv_V call mc_5 rt 50 L (.int x :: st) w := iv_V_eq (I := (((93, 1), .iload_n 2, 0, 0, 0) : iv_I)) rfl
theorem e5_50 : iv_V call mc_5 rt 50 L st w = iv_lda L 7 fun x => iv_V call mc_5 rt 51 L (x :: st) w := iv_V_eq (I := (((94, 2), .aload 7, 0, 0, 0) : iv_I)) rfl
theorem e5_51 : iv_V call mc_5 rt 51 L st w = iv_ldi L 6 fun x => iv_V call mc_5 rt 52 L (.int x :: st) w := iv_V_eq (I := (((96, 2), .iload 6, 0, 0, 0) : iv_I)) rfl
theorem e5_52 : iv_V call mc_5 rt 52 L st w = iv_inv call 100 5 (fun as => iv_rc w as (iv_mc 100)) st w fun st' w' => iv_V call mc_5 rt 53 L (st') w' := iv_V_eq (I := (((98, 3), .invokevirtual 83, 100, 5, 354) : iv_I)) rfl
theorem e5_53 : iv_V call mc_5 rt 53 L st w = iv_ret rt st w := iv_V_eq (I := (((101, 1), .ireturn, 0, 0, 0) : iv_I)) rfl
theorem e6_0 : iv_V call mc_6 rt 0 L st w = iv_lda L 0 fun x => iv_V call mc_6 rt 1 L (x :: st) w := iv_V_eq (I := (((0, 1), .aload_n 0, 0, 0, 0) : iv_I)) rfl
theorem e6_1 : iv_V call mc_6 rt 1 L st w = iv_gf w st 0 1 fun v st' => iv_V call mc_6 rt 2 L (v :: st') w := iv_V_eq (I := (((1, 3), .getfield 19, 0, 1, 277) : iv_I)) rfl
theorem e6_2 : iv_V call mc_6 rt 2 L st w = iv_ldi L 1 fun x => iv_V call mc_6 rt 3 L (.int x :: st) w := iv_V_eq (I := (((4, 1), .iload_n 1, 0, 0, 0) : iv_I)) rfl
theorem e6_3 : iv_V call mc_6 rt 3 L st w = iv_inv call 98 2 (fun as => iv_rc w as (iv_mc 98)) st w fun st' w' => iv_V call mc_6 rt 4 L (st') w' := iv_V_eq (I := (((5, 3), .invokevirtual 72, 98, 2, 327) : iv_I)) rfl
theorem e6_4 : iv_V call mc_6 rt 4 L st w = iv_p1 st fun x st' => if x = 0 then iv_V call mc_6 rt 10 L (st') w else iv_V call mc_6 rt 5 L (st') w := (iv_V_eq (I := (((8, 3), .ifCond .eq 12, 10, 0, 0) : iv_I)) rfl).trans (by simp only [iv_go, iv_cnd, decide_eq_true_eq])
theorem e6_5 : iv_V call mc_6 rt 5 L st w = iv_ldi L 2 fun x => iv_V call mc_6 rt 6 L (.int x :: st) w := iv_V_eq (I := (((11, 1), .iload_n 2, 0, 0, 0) : iv_I)) rfl
theorem e6_6 : iv_V call mc_6 rt 6 L st w = iv_p1 st fun x st' => if x < 0 then iv_V call mc_6 rt 10 L (st') w else iv_V call mc_6 rt 7 L (st') w := (iv_V_eq (I := (((12, 3), .ifCond .lt 8, 10, 0, 0) : iv_I)) rfl).trans (by simp only [iv_go, iv_cnd, decide_eq_true_eq])
theorem e6_7 : iv_V call mc_6 rt 7 L st w = iv_ldi L 2 fun x => iv_V call mc_6 rt 8 L (.int x :: st) w := iv_V_eq (I := (((15, 1), .iload_n 2, 0, 0, 0) : iv_I)) rfl
theorem e6_8 : iv_V call mc_6 rt 8 L st w = iv_V call mc_6 rt 9 L (.int 3 :: st) w := (iv_V_eq (I := (((16, 1), .iconst 3, 0, 0, 0) : iv_I)) rfl).trans (congrArg (fun c => iv_V call mc_6 rt 9 L (.int c :: st) w) li_o3)
theorem e6_9 : iv_V call mc_6 rt 9 L st w = iv_p2 st fun x y st' => if x ≤ y then iv_V call mc_6 rt 12 L (st') w else iv_V call mc_6 rt 10 L (st') w := (iv_V_eq (I := (((17, 3), .if_icmp .le 5, 12, 0, 0) : iv_I)) rfl).trans (by simp only [iv_go, iv_cnd, decide_eq_true_eq])
theorem e6_10 : iv_V call mc_6 rt 10 L st w = iv_V call mc_6 rt 11 L (.int 0 :: st) w := (iv_V_eq (I := (((20, 1), .iconst 0, 0, 0, 0) : iv_I)) rfl).trans (congrArg (fun c => iv_V call mc_6 rt 11 L (.int c :: st) w) li_o0)
theorem e6_11 : iv_V call mc_6 rt 11 L st w = iv_ret rt st w := iv_V_eq (I := (((21, 1), .ireturn, 0, 0, 0) : iv_I)) rfl
theorem e6_12 : iv_V call mc_6 rt 12 L st w = iv_lda L 0 fun x => iv_V call mc_6 rt 13 L (x :: st) w := iv_V_eq (I := (((22, 1), .aload_n 0, 0, 0, 0) : iv_I)) rfl
theorem e6_13 : iv_V call mc_6 rt 13 L st w = iv_gf w st 0 1 fun v st' => iv_V call mc_6 rt 14 L (v :: st') w := iv_V_eq (I := (((23, 3), .getfield 19, 0, 1, 277) : iv_I)) rfl
theorem e6_14 : iv_V call mc_6 rt 14 L st w = iv_gf w st 9 2 fun v st' => iv_V call mc_6 rt 15 L (v :: st') w := iv_V_eq (I := (((26, 3), .getfield 75, 9, 2, 153) : iv_I)) rfl
theorem e6_15 : iv_V call mc_6 rt 15 L st w = iv_ldi L 1 fun x => iv_V call mc_6 rt 16 L (.int x :: st) w := iv_V_eq (I := (((29, 1), .iload_n 1, 0, 0, 0) : iv_I)) rfl
theorem e6_16 : iv_V call mc_6 rt 16 L st w = iv_ald w st iv_isA fun v st' => iv_V call mc_6 rt 17 L (v :: st') w := iv_V_eq (I := (((30, 1), .aaload, 0, 0, 0) : iv_I)) rfl
theorem e6_17 : iv_V call mc_6 rt 17 L st w = iv_ldi L 2 fun x => iv_V call mc_6 rt 18 L (.int x :: st) w := iv_V_eq (I := (((31, 1), .iload_n 2, 0, 0, 0) : iv_I)) rfl
theorem e6_18 : iv_V call mc_6 rt 18 L st w = iv_ldi L 3 fun x => iv_V call mc_6 rt 19 L (.int x :: st) w := iv_V_eq (I := (((32, 1), .iload_n 3, 0, 0, 0) : iv_I)) rfl
theorem e6_19 : iv_V call mc_6 rt 19 L st w = iv_ldi L 4 fun x => iv_V call mc_6 rt 20 L (.int x :: st) w := iv_V_eq (I := (((33, 2), .iload 4, 0, 0, 0) : iv_I)) rfl
theorem e6_20 : iv_V call mc_6 rt 20 L st w = iv_inv call 76 4 (fun as => iv_rc w as (iv_mc 76)) st w fun st' w' => iv_V call mc_6 rt 21 L (st') w' := iv_V_eq (I := (((35, 3), .invokevirtual 87, 76, 4, 384) : iv_I)) rfl
theorem e6_21 : iv_V call mc_6 rt 21 L st w = iv_ret rt st w := iv_V_eq (I := (((38, 1), .ireturn, 0, 0, 0) : iv_I)) rfl
theorem e7_0 : iv_V call mc_7 rt 0 L st w = iv_lda L 0 fun x => iv_V call mc_7 rt 1 L (x :: st) w := iv_V_eq (I := (((0, 1), .aload_n 0, 0, 0, 0) : iv_I)) rfl
theorem e7_1 : iv_V call mc_7 rt 1 L st w = iv_gf w st 0 1 fun v st' => iv_V call mc_7 rt 2 L (v :: st') w := iv_V_eq (I := (((1, 3), .getfield 19, 0, 1, 277) : iv_I)) rfl
theorem e7_2 : iv_V call mc_7 rt 2 L st w = iv_ldi L 1 fun x => iv_V call mc_7 rt 3 L (.int x :: st) w := iv_V_eq (I := (((4, 1), .iload_n 1, 0, 0, 0) : iv_I)) rfl
theorem e7_3 : iv_V call mc_7 rt 3 L st w = iv_inv call 98 2 (fun as => iv_rc w as (iv_mc 98)) st w fun st' w' => iv_V call mc_7 rt 4 L (st') w' := iv_V_eq (I := (((5, 3), .invokevirtual 72, 98, 2, 327) : iv_I)) rfl
theorem e7_4 : iv_V call mc_7 rt 4 L st w = iv_p1 st fun x st' => if ¬ x = 0 then iv_V call mc_7 rt 7 L (st') w else iv_V call mc_7 rt 5 L (st') w := (iv_V_eq (I := (((8, 3), .ifCond .ne 5, 7, 0, 0) : iv_I)) rfl).trans (by simp only [iv_go, iv_cnd, decide_eq_true_eq])
theorem e7_5 : iv_V call mc_7 rt 5 L st w = iv_V call mc_7 rt 6 L (.int 0 :: st) w := (iv_V_eq (I := (((11, 1), .iconst 0, 0, 0, 0) : iv_I)) rfl).trans (congrArg (fun c => iv_V call mc_7 rt 6 L (.int c :: st) w) li_o0)
theorem e7_6 : iv_V call mc_7 rt 6 L st w = iv_ret rt st w := iv_V_eq (I := (((12, 1), .ireturn, 0, 0, 0) : iv_I)) rfl
theorem e7_7 : iv_V call mc_7 rt 7 L st w = iv_lda L 0 fun x => iv_V call mc_7 rt 8 L (x :: st) w := iv_V_eq (I := (((13, 1), .aload_n 0, 0, 0, 0) : iv_I)) rfl
theorem e7_8 : iv_V call mc_7 rt 8 L st w = iv_gf w st 0 1 fun v st' => iv_V call mc_7 rt 9 L (v :: st') w := iv_V_eq (I := (((14, 3), .getfield 19, 0, 1, 277) : iv_I)) rfl
theorem e7_9 : iv_V call mc_7 rt 9 L st w = iv_gf w st 9 2 fun v st' => iv_V call mc_7 rt 10 L (v :: st') w := iv_V_eq (I := (((17, 3), .getfield 75, 9, 2, 153) : iv_I)) rfl
theorem e7_10 : iv_V call mc_7 rt 10 L st w = iv_ldi L 1 fun x => iv_V call mc_7 rt 11 L (.int x :: st) w := iv_V_eq (I := (((20, 1), .iload_n 1, 0, 0, 0) : iv_I)) rfl
theorem e7_11 : iv_V call mc_7 rt 11 L st w = iv_ald w st iv_isA fun v st' => iv_V call mc_7 rt 12 L (v :: st') w := iv_V_eq (I := (((21, 1), .aaload, 0, 0, 0) : iv_I)) rfl
theorem e7_12 : iv_V call mc_7 rt 12 L st w = iv_ldi L 2 fun x => iv_V call mc_7 rt 13 L (.int x :: st) w := iv_V_eq (I := (((22, 1), .iload_n 2, 0, 0, 0) : iv_I)) rfl
theorem e7_13 : iv_V call mc_7 rt 13 L st w = iv_pf w st 3 2 fun st' w' => iv_V call mc_7 rt 14 L (st') w' := iv_V_eq (I := (((23, 3), .putfield 93, 3, 2, 139) : iv_I)) rfl
theorem e7_14 : iv_V call mc_7 rt 14 L st w = iv_V call mc_7 rt 15 L (.int 1 :: st) w := (iv_V_eq (I := (((26, 1), .iconst 1, 0, 0, 0) : iv_I)) rfl).trans (congrArg (fun c => iv_V call mc_7 rt 15 L (.int c :: st) w) li_o1)
theorem e7_15 : iv_V call mc_7 rt 15 L st w = iv_ret rt st w := iv_V_eq (I := (((27, 1), .ireturn, 0, 0, 0) : iv_I)) rfl
theorem e8_0 : iv_V call mc_8 rt 0 L st w = iv_lda L 0 fun x => iv_V call mc_8 rt 1 L (x :: st) w := iv_V_eq (I := (((0, 1), .aload_n 0, 0, 0, 0) : iv_I)) rfl
theorem e8_1 : iv_V call mc_8 rt 1 L st w = iv_gf w st 0 2 fun v st' => iv_V call mc_8 rt 2 L (v :: st') w := iv_V_eq (I := (((1, 3), .getfield 26, 0, 2, 278) : iv_I)) rfl
theorem e8_2 : iv_V call mc_8 rt 2 L st w = iv_ldi L 1 fun x => iv_V call mc_8 rt 3 L (.int x :: st) w := iv_V_eq (I := (((4, 1), .iload_n 1, 0, 0, 0) : iv_I)) rfl
theorem e8_3 : iv_V call mc_8 rt 3 L st w = iv_inv call 82 2 (fun as => iv_rc w as (iv_mc 82)) st w fun st' w' => iv_V call mc_8 rt 4 L (st') w' := iv_V_eq (I := (((5, 3), .invokevirtual 97, 82, 2, 393) : iv_I)) rfl
theorem e8_4 : iv_V call mc_8 rt 4 L st w = iv_p1 st fun x st' => if x = 0 then iv_V call mc_8 rt 16 L (st') w else iv_V call mc_8 rt 5 L (st') w := (iv_V_eq (I := (((8, 3), .ifCond .eq 26, 16, 0, 0) : iv_I)) rfl).trans (by simp only [iv_go, iv_cnd, decide_eq_true_eq])
theorem e8_5 : iv_V call mc_8 rt 5 L st w = iv_lda L 0 fun x => iv_V call mc_8 rt 6 L (x :: st) w := iv_V_eq (I := (((11, 1), .aload_n 0, 0, 0, 0) : iv_I)) rfl
theorem e8_6 : iv_V call mc_8 rt 6 L st w = iv_gf w st 0 2 fun v st' => iv_V call mc_8 rt 7 L (v :: st') w := iv_V_eq (I := (((12, 3), .getfield 26, 0, 2, 278) : iv_I)) rfl
theorem e8_7 : iv_V call mc_8 rt 7 L st w = iv_ldi L 2 fun x => iv_V call mc_8 rt 8 L (.int x :: st) w := iv_V_eq (I := (((15, 1), .iload_n 2, 0, 0, 0) : iv_I)) rfl
theorem e8_8 : iv_V call mc_8 rt 8 L st w = iv_inv call 82 2 (fun as => iv_rc w as (iv_mc 82)) st w fun st' w' => iv_V call mc_8 rt 9 L (st') w' := iv_V_eq (I := (((16, 3), .invokevirtual 97, 82, 2, 393) : iv_I)) rfl
theorem e8_9 : iv_V call mc_8 rt 9 L st w = iv_p1 st fun x st' => if x = 0 then iv_V call mc_8 rt 16 L (st') w else iv_V call mc_8 rt 10 L (st') w := (iv_V_eq (I := (((19, 3), .ifCond .eq 15, 16, 0, 0) : iv_I)) rfl).trans (by simp only [iv_go, iv_cnd, decide_eq_true_eq])
theorem e8_10 : iv_V call mc_8 rt 10 L st w = iv_lda L 0 fun x => iv_V call mc_8 rt 11 L (x :: st) w := iv_V_eq (I := (((22, 1), .aload_n 0, 0, 0, 0) : iv_I)) rfl
theorem e8_11 : iv_V call mc_8 rt 11 L st w = iv_gf w st 0 2 fun v st' => iv_V call mc_8 rt 12 L (v :: st') w := iv_V_eq (I := (((23, 3), .getfield 26, 0, 2, 278) : iv_I)) rfl
theorem e8_12 : iv_V call mc_8 rt 12 L st w = iv_ldi L 2 fun x => iv_V call mc_8 rt 13 L (.int x :: st) w := iv_V_eq (I := (((26, 1), .iload_n 2, 0, 0, 0) : iv_I)) rfl
theorem e8_13 : iv_V call mc_8 rt 13 L st w = iv_ldi L 1 fun x => iv_V call mc_8 rt 14 L (.int x :: st) w := iv_V_eq (I := (((27, 1), .iload_n 1, 0, 0, 0) : iv_I)) rfl
theorem e8_14 : iv_V call mc_8 rt 14 L st w = iv_inv call 84 3 (fun as => iv_rc w as (iv_mc 84)) st w fun st' w' => iv_V call mc_8 rt 15 L (st') w' := iv_V_eq (I := (((28, 3), .invokevirtual 100, 84, 3, 397) : iv_I)) rfl
theorem e8_15 : iv_V call mc_8 rt 15 L st w = iv_p1 st fun x st' => if x = 0 then iv_V call mc_8 rt 18 L (st') w else iv_V call mc_8 rt 16 L (st') w := (iv_V_eq (I := (((31, 3), .ifCond .eq 5, 18, 0, 0) : iv_I)) rfl).trans (by simp only [iv_go, iv_cnd, decide_eq_true_eq])
theorem e8_16 : iv_V call mc_8 rt 16 L st w = iv_V call mc_8 rt 17 L (.int 0 :: st) w := (iv_V_eq (I := (((34, 1), .iconst 0, 0, 0, 0) : iv_I)) rfl).trans (congrArg (fun c => iv_V call mc_8 rt 17 L (.int c :: st) w) li_o0)
theorem e8_17 : iv_V call mc_8 rt 17 L st w = iv_ret rt st w := iv_V_eq (I := (((35, 1), .ireturn, 0, 0, 0) : iv_I)) rfl
theorem e8_18 : iv_V call mc_8 rt 18 L st w = iv_lda L 0 fun x => iv_V call mc_8 rt 19 L (x :: st) w := iv_V_eq (I := (((36, 1), .aload_n 0, 0, 0, 0) : iv_I)) rfl
theorem e8_19 : iv_V call mc_8 rt 19 L st w = iv_gf w st 0 2 fun v st' => iv_V call mc_8 rt 20 L (v :: st') w := iv_V_eq (I := (((37, 3), .getfield 26, 0, 2, 278) : iv_I)) rfl
theorem e8_20 : iv_V call mc_8 rt 20 L st w = iv_ldi L 1 fun x => iv_V call mc_8 rt 21 L (.int x :: st) w := iv_V_eq (I := (((40, 1), .iload_n 1, 0, 0, 0) : iv_I)) rfl
theorem e8_21 : iv_V call mc_8 rt 21 L st w = iv_ldi L 2 fun x => iv_V call mc_8 rt 22 L (.int x :: st) w := iv_V_eq (I := (((41, 1), .iload_n 2, 0, 0, 0) : iv_I)) rfl
theorem e8_22 : iv_V call mc_8 rt 22 L st w = iv_inv call 85 3 (fun as => iv_rc w as (iv_mc 85)) st w fun st' w' => iv_V call mc_8 rt 23 L (st') w' := iv_V_eq (I := (((42, 3), .invokevirtual 104, 85, 3, 401) : iv_I)) rfl
theorem e8_23 : iv_V call mc_8 rt 23 L st w = iv_V call mc_8 rt 24 L (.int 1 :: st) w := (iv_V_eq (I := (((45, 1), .iconst 1, 0, 0, 0) : iv_I)) rfl).trans (congrArg (fun c => iv_V call mc_8 rt 24 L (.int c :: st) w) li_o1)
theorem e8_24 : iv_V call mc_8 rt 24 L st w = iv_ret rt st w := iv_V_eq (I := (((46, 1), .ireturn, 0, 0, 0) : iv_I)) rfl
theorem e9_0 : iv_V call mc_9 rt 0 L st w = iv_lda L 0 fun x => iv_V call mc_9 rt 1 L (x :: st) w := iv_V_eq (I := (((0, 1), .aload_n 0, 0, 0, 0) : iv_I)) rfl
theorem e9_1 : iv_V call mc_9 rt 1 L st w = iv_gf w st 0 2 fun v st' => iv_V call mc_9 rt 2 L (v :: st') w := iv_V_eq (I := (((1, 3), .getfield 26, 0, 2, 278) : iv_I)) rfl
theorem e9_2 : iv_V call mc_9 rt 2 L st w = iv_ldi L 1 fun x => iv_V call mc_9 rt 3 L (.int x :: st) w := iv_V_eq (I := (((4, 1), .iload_n 1, 0, 0, 0) : iv_I)) rfl
theorem e9_3 : iv_V call mc_9 rt 3 L st w = iv_inv call 83 2 (fun as => iv_rc w as (iv_mc 83)) st w fun st' w' => iv_V call mc_9 rt 4 L (st') w' := iv_V_eq (I := (((5, 3), .invokevirtual 107, 83, 2, 410) : iv_I)) rfl
theorem e9_4 : iv_V call mc_9 rt 4 L st w = iv_p1 st fun x st' => if x = 0 then iv_V call mc_9 rt 15 L (st') w else iv_V call mc_9 rt 5 L (st') w := (iv_V_eq (I := (((8, 3), .ifCond .eq 25, 15, 0, 0) : iv_I)) rfl).trans (by simp only [iv_go, iv_cnd, decide_eq_true_eq])
theorem e9_5 : iv_V call mc_9 rt 5 L st w = iv_lda L 0 fun x => iv_V call mc_9 rt 6 L (x :: st) w := iv_V_eq (I := (((11, 1), .aload_n 0, 0, 0, 0) : iv_I)) rfl
theorem e9_6 : iv_V call mc_9 rt 6 L st w = iv_gf w st 0 2 fun v st' => iv_V call mc_9 rt 7 L (v :: st') w := iv_V_eq (I := (((12, 3), .getfield 26, 0, 2, 278) : iv_I)) rfl
theorem e9_7 : iv_V call mc_9 rt 7 L st w = iv_ldi L 2 fun x => iv_V call mc_9 rt 8 L (.int x :: st) w := iv_V_eq (I := (((15, 1), .iload_n 2, 0, 0, 0) : iv_I)) rfl
theorem e9_8 : iv_V call mc_9 rt 8 L st w = iv_inv call 82 2 (fun as => iv_rc w as (iv_mc 82)) st w fun st' w' => iv_V call mc_9 rt 9 L (st') w' := iv_V_eq (I := (((16, 3), .invokevirtual 97, 82, 2, 393) : iv_I)) rfl
theorem e9_9 : iv_V call mc_9 rt 9 L st w = iv_p1 st fun x st' => if ¬ x = 0 then iv_V call mc_9 rt 17 L (st') w else iv_V call mc_9 rt 10 L (st') w := (iv_V_eq (I := (((19, 3), .ifCond .ne 16, 17, 0, 0) : iv_I)) rfl).trans (by simp only [iv_go, iv_cnd, decide_eq_true_eq])
theorem e9_10 : iv_V call mc_9 rt 10 L st w = iv_lda L 0 fun x => iv_V call mc_9 rt 11 L (x :: st) w := iv_V_eq (I := (((22, 1), .aload_n 0, 0, 0, 0) : iv_I)) rfl
theorem e9_11 : iv_V call mc_9 rt 11 L st w = iv_gf w st 0 2 fun v st' => iv_V call mc_9 rt 12 L (v :: st') w := iv_V_eq (I := (((23, 3), .getfield 26, 0, 2, 278) : iv_I)) rfl
theorem e9_12 : iv_V call mc_9 rt 12 L st w = iv_ldi L 2 fun x => iv_V call mc_9 rt 13 L (.int x :: st) w := iv_V_eq (I := (((26, 1), .iload_n 2, 0, 0, 0) : iv_I)) rfl
theorem e9_13 : iv_V call mc_9 rt 13 L st w = iv_inv call 83 2 (fun as => iv_rc w as (iv_mc 83)) st w fun st' w' => iv_V call mc_9 rt 14 L (st') w' := iv_V_eq (I := (((27, 3), .invokevirtual 107, 83, 2, 410) : iv_I)) rfl
theorem e9_14 : iv_V call mc_9 rt 14 L st w = iv_p1 st fun x st' => if ¬ x = 0 then iv_V call mc_9 rt 17 L (st') w else iv_V call mc_9 rt 15 L (st') w := (iv_V_eq (I := (((30, 3), .ifCond .ne 5, 17, 0, 0) : iv_I)) rfl).trans (by simp only [iv_go, iv_cnd, decide_eq_true_eq])
theorem e9_15 : iv_V call mc_9 rt 15 L st w = iv_V call mc_9 rt 16 L (.int 0 :: st) w := (iv_V_eq (I := (((33, 1), .iconst 0, 0, 0, 0) : iv_I)) rfl).trans (congrArg (fun c => iv_V call mc_9 rt 16 L (.int c :: st) w) li_o0)
theorem e9_16 : iv_V call mc_9 rt 16 L st w = iv_ret rt st w := iv_V_eq (I := (((34, 1), .ireturn, 0, 0, 0) : iv_I)) rfl
theorem e9_17 : iv_V call mc_9 rt 17 L st w = iv_lda L 0 fun x => iv_V call mc_9 rt 18 L (x :: st) w := iv_V_eq (I := (((35, 1), .aload_n 0, 0, 0, 0) : iv_I)) rfl
theorem e9_18 : iv_V call mc_9 rt 18 L st w = iv_gf w st 0 2 fun v st' => iv_V call mc_9 rt 19 L (v :: st') w := iv_V_eq (I := (((36, 3), .getfield 26, 0, 2, 278) : iv_I)) rfl
theorem e9_19 : iv_V call mc_9 rt 19 L st w = iv_gf w st 5 1 fun v st' => iv_V call mc_9 rt 20 L (v :: st') w := iv_V_eq (I := (((39, 3), .getfield 110, 5, 1, 172) : iv_I)) rfl
theorem e9_20 : iv_V call mc_9 rt 20 L st w = iv_ldi L 1 fun x => iv_V call mc_9 rt 21 L (.int x :: st) w := iv_V_eq (I := (((42, 1), .iload_n 1, 0, 0, 0) : iv_I)) rfl
theorem e9_21 : iv_V call mc_9 rt 21 L st w = iv_V call mc_9 rt 22 L (.int 6 :: st) w := (iv_V_eq (I := (((43, 2), .bipush 6, 0, 0, 0) : iv_I)) rfl).trans (congrArg (fun c => iv_V call mc_9 rt 22 L (.int c :: st) w) li_b6)
theorem e9_22 : iv_V call mc_9 rt 22 L st w = iv_p2 st fun x y st' => iv_V call mc_9 rt 23 L (.int (x - y) :: st') w := iv_V_eq (I := (((45, 1), .isub, 0, 0, 0) : iv_I)) rfl
theorem e9_23 : iv_V call mc_9 rt 23 L st w = iv_ald w st iv_isA fun v st' => iv_V call mc_9 rt 24 L (v :: st') w := iv_V_eq (I := (((46, 1), .aaload, 0, 0, 0) : iv_I)) rfl
theorem e9_24 : iv_V call mc_9 rt 24 L st w = iv_ldi L 2 fun x => iv_V call mc_9 rt 25 L (.int x :: st) w := iv_V_eq (I := (((47, 1), .iload_n 2, 0, 0, 0) : iv_I)) rfl
theorem e9_25 : iv_V call mc_9 rt 25 L st w = iv_inv call 95 2 (fun as => iv_rc w as (iv_mc 95)) st w fun st' w' => iv_V call mc_9 rt 26 L (st') w' := iv_V_eq (I := (((48, 3), .invokevirtual 114, 95, 2, 414) : iv_I)) rfl
theorem e9_26 : iv_V call mc_9 rt 26 L st w = iv_ret rt st w := iv_V_eq (I := (((51, 1), .ireturn, 0, 0, 0) : iv_I)) rfl
theorem e10_0 : iv_V call mc_10 rt 0 L st w = iv_lda L 0 fun x => iv_V call mc_10 rt 1 L (x :: st) w := iv_V_eq (I := (((0, 1), .aload_n 0, 0, 0, 0) : iv_I)) rfl
theorem e10_1 : iv_V call mc_10 rt 1 L st w = iv_gf w st 0 0 fun v st' => iv_V call mc_10 rt 2 L (v :: st') w := iv_V_eq (I := (((1, 3), .getfield 12, 0, 0, 276) : iv_I)) rfl
theorem e10_2 : iv_V call mc_10 rt 2 L st w = iv_ldi L 1 fun x => iv_V call mc_10 rt 3 L (.int x :: st) w := iv_V_eq (I := (((4, 1), .iload_n 1, 0, 0, 0) : iv_I)) rfl
theorem e10_3 : iv_V call mc_10 rt 3 L st w = iv_inv call 102 2 (fun as => iv_rc w as (iv_mc 102)) st w fun st' w' => iv_V call mc_10 rt 4 L (st') w' := iv_V_eq (I := (((5, 3), .invokevirtual 53, 102, 2, 299) : iv_I)) rfl
theorem e10_4 : iv_V call mc_10 rt 4 L st w = iv_p1 st fun x st' => if x = 0 then iv_V call mc_10 rt 13 L (st') w else iv_V call mc_10 rt 5 L (st') w := (iv_V_eq (I := (((8, 3), .ifCond .eq 19, 13, 0, 0) : iv_I)) rfl).trans (by simp only [iv_go, iv_cnd, decide_eq_true_eq])
theorem e10_5 : iv_V call mc_10 rt 5 L st w = iv_ldi L 2 fun x => iv_V call mc_10 rt 6 L (.int x :: st) w := iv_V_eq (I := (((11, 1), .iload_n 2, 0, 0, 0) : iv_I)) rfl
theorem e10_6 : iv_V call mc_10 rt 6 L st w = iv_V call mc_10 rt 7 L (.int (-1) :: st) w := (iv_V_eq (I := (((12, 1), .iconst (-1), 0, 0, 0) : iv_I)) rfl).trans (congrArg (fun c => iv_V call mc_10 rt 7 L (.int c :: st) w) li_om1)
theorem e10_7 : iv_V call mc_10 rt 7 L st w = iv_p2 st fun x y st' => if x = y then iv_V call mc_10 rt 15 L (st') w else iv_V call mc_10 rt 8 L (st') w := (iv_V_eq (I := (((13, 3), .if_icmp .eq 16, 15, 0, 0) : iv_I)) rfl).trans (by simp only [iv_go, iv_cnd, decide_eq_true_eq])
theorem e10_8 : iv_V call mc_10 rt 8 L st w = iv_lda L 0 fun x => iv_V call mc_10 rt 9 L (x :: st) w := iv_V_eq (I := (((16, 1), .aload_n 0, 0, 0, 0) : iv_I)) rfl
theorem e10_9 : iv_V call mc_10 rt 9 L st w = iv_gf w st 0 2 fun v st' => iv_V call mc_10 rt 10 L (v :: st') w := iv_V_eq (I := (((17, 3), .getfield 26, 0, 2, 278) : iv_I)) rfl
theorem e10_10 : iv_V call mc_10 rt 10 L st w = iv_ldi L 2 fun x => iv_V call mc_10 rt 11 L (.int x :: st) w := iv_V_eq (I := (((20, 1), .iload_n 2, 0, 0, 0) : iv_I)) rfl
theorem e10_11 : iv_V call mc_10 rt 11 L st w = iv_inv call 82 2 (fun as => iv_rc w as (iv_mc 82)) st w fun st' w' => iv_V call mc_10 rt 12 L (st') w' := iv_V_eq (I := (((21, 3), .invokevirtual 97, 82, 2, 393) : iv_I)) rfl
theorem e10_12 : iv_V call mc_10 rt 12 L st w = iv_p1 st fun x st' => if ¬ x = 0 then iv_V call mc_10 rt 15 L (st') w else iv_V call mc_10 rt 13 L (st') w := (iv_V_eq (I := (((24, 3), .ifCond .ne 5, 15, 0, 0) : iv_I)) rfl).trans (by simp only [iv_go, iv_cnd, decide_eq_true_eq])
theorem e10_13 : iv_V call mc_10 rt 13 L st w = iv_V call mc_10 rt 14 L (.int 0 :: st) w := (iv_V_eq (I := (((27, 1), .iconst 0, 0, 0, 0) : iv_I)) rfl).trans (congrArg (fun c => iv_V call mc_10 rt 14 L (.int c :: st) w) li_o0)
theorem e10_14 : iv_V call mc_10 rt 14 L st w = iv_ret rt st w := iv_V_eq (I := (((28, 1), .ireturn, 0, 0, 0) : iv_I)) rfl
theorem e10_15 : iv_V call mc_10 rt 15 L st w = iv_lda L 0 fun x => iv_V call mc_10 rt 16 L (x :: st) w := iv_V_eq (I := (((29, 1), .aload_n 0, 0, 0, 0) : iv_I)) rfl
theorem e10_16 : iv_V call mc_10 rt 16 L st w = iv_gf w st 0 0 fun v st' => iv_V call mc_10 rt 17 L (v :: st') w := iv_V_eq (I := (((30, 3), .getfield 12, 0, 0, 276) : iv_I)) rfl
theorem e10_17 : iv_V call mc_10 rt 17 L st w = iv_gf w st 10 2 fun v st' => iv_V call mc_10 rt 18 L (v :: st') w := iv_V_eq (I := (((33, 3), .getfield 119, 10, 2, 85) : iv_I)) rfl
theorem e10_18 : iv_V call mc_10 rt 18 L st w = iv_ldi L 1 fun x => iv_V call mc_10 rt 19 L (.int x :: st) w := iv_V_eq (I := (((36, 1), .iload_n 1, 0, 0, 0) : iv_I)) rfl
theorem e10_19 : iv_V call mc_10 rt 19 L st w = iv_ald w st iv_isA fun v st' => iv_V call mc_10 rt 20 L (v :: st') w := iv_V_eq (I := (((37, 1), .aaload, 0, 0, 0) : iv_I)) rfl
theorem e10_20 : iv_V call mc_10 rt 20 L st w = iv_ldi L 2 fun x => iv_V call mc_10 rt 21 L (.int x :: st) w := iv_V_eq (I := (((38, 1), .iload_n 2, 0, 0, 0) : iv_I)) rfl
theorem e10_21 : iv_V call mc_10 rt 21 L st w = iv_inv call 95 2 (fun as => iv_rc w as (iv_mc 95)) st w fun st' w' => iv_V call mc_10 rt 22 L (st') w' := iv_V_eq (I := (((39, 3), .invokevirtual 114, 95, 2, 414) : iv_I)) rfl
theorem e10_22 : iv_V call mc_10 rt 22 L st w = iv_ret rt st w := iv_V_eq (I := (((42, 1), .ireturn, 0, 0, 0) : iv_I)) rfl
theorem e11_0 : iv_V call mc_11 rt 0 L st w = iv_lda L 0 fun x => iv_V call mc_11 rt 1 L (x :: st) w := iv_V_eq (I := (((0, 1), .aload_n 0, 0, 0, 0) : iv_I)) rfl
theorem e11_1 : iv_V call mc_11 rt 1 L st w = iv_gf w st 0 0 fun v st' => iv_V call mc_11 rt 2 L (v :: st') w := iv_V_eq (I := (((1, 3), .getfield 12, 0, 0, 276) : iv_I)) rfl
theorem e11_2 : iv_V call mc_11 rt 2 L st w = iv_ldi L 1 fun x => iv_V call mc_11 rt 3 L (.int x :: st) w := iv_V_eq (I := (((4, 1), .iload_n 1, 0, 0, 0) : iv_I)) rfl
theorem e11_3 : iv_V call mc_11 rt 3 L st w = iv_inv call 103 2 (fun as => iv_rc w as (iv_mc 103)) st w fun st' w' => iv_V call mc_11 rt 4 L (st') w' := iv_V_eq (I := (((5, 3), .invokevirtual 69, 103, 2, 323) : iv_I)) rfl
theorem e11_4 : iv_V call mc_11 rt 4 L st w = iv_p1 st fun x st' => if x = 0 then iv_V call mc_11 rt 10 L (st') w else iv_V call mc_11 rt 5 L (st') w := (iv_V_eq (I := (((8, 3), .ifCond .eq 14, 10, 0, 0) : iv_I)) rfl).trans (by simp only [iv_go, iv_cnd, decide_eq_true_eq])
theorem e11_5 : iv_V call mc_11 rt 5 L st w = iv_lda L 0 fun x => iv_V call mc_11 rt 6 L (x :: st) w := iv_V_eq (I := (((11, 1), .aload_n 0, 0, 0, 0) : iv_I)) rfl
theorem e11_6 : iv_V call mc_11 rt 6 L st w = iv_gf w st 0 0 fun v st' => iv_V call mc_11 rt 7 L (v :: st') w := iv_V_eq (I := (((12, 3), .getfield 12, 0, 0, 276) : iv_I)) rfl
theorem e11_7 : iv_V call mc_11 rt 7 L st w = iv_ldi L 1 fun x => iv_V call mc_11 rt 8 L (.int x :: st) w := iv_V_eq (I := (((15, 1), .iload_n 1, 0, 0, 0) : iv_I)) rfl
theorem e11_8 : iv_V call mc_11 rt 8 L st w = iv_inv call 105 2 (fun as => iv_rc w as (iv_mc 105)) st w fun st' w' => iv_V call mc_11 rt 9 L (st') w' := iv_V_eq (I := (((16, 3), .invokevirtual 122, 105, 2, 426) : iv_I)) rfl
theorem e11_9 : iv_V call mc_11 rt 9 L st w = iv_p1 st fun x st' => if ¬ x = 0 then iv_V call mc_11 rt 12 L (st') w else iv_V call mc_11 rt 10 L (st') w := (iv_V_eq (I := (((19, 3), .ifCond .ne 5, 12, 0, 0) : iv_I)) rfl).trans (by simp only [iv_go, iv_cnd, decide_eq_true_eq])
theorem e11_10 : iv_V call mc_11 rt 10 L st w = iv_V call mc_11 rt 11 L (.int 0 :: st) w := (iv_V_eq (I := (((22, 1), .iconst 0, 0, 0, 0) : iv_I)) rfl).trans (congrArg (fun c => iv_V call mc_11 rt 11 L (.int c :: st) w) li_o0)
theorem e11_11 : iv_V call mc_11 rt 11 L st w = iv_ret rt st w := iv_V_eq (I := (((23, 1), .ireturn, 0, 0, 0) : iv_I)) rfl
theorem e11_12 : iv_V call mc_11 rt 12 L st w = iv_lda L 0 fun x => iv_V call mc_11 rt 13 L (x :: st) w := iv_V_eq (I := (((24, 1), .aload_n 0, 0, 0, 0) : iv_I)) rfl
theorem e11_13 : iv_V call mc_11 rt 13 L st w = iv_gf w st 0 0 fun v st' => iv_V call mc_11 rt 14 L (v :: st') w := iv_V_eq (I := (((25, 3), .getfield 12, 0, 0, 276) : iv_I)) rfl
theorem e11_14 : iv_V call mc_11 rt 14 L st w = iv_gf w st 10 6 fun v st' => iv_V call mc_11 rt 15 L (v :: st') w := iv_V_eq (I := (((28, 3), .getfield 125, 10, 6, 94) : iv_I)) rfl
theorem e11_15 : iv_V call mc_11 rt 15 L st w = iv_ldi L 1 fun x => iv_V call mc_11 rt 16 L (.int x :: st) w := iv_V_eq (I := (((31, 1), .iload_n 1, 0, 0, 0) : iv_I)) rfl
theorem e11_16 : iv_V call mc_11 rt 16 L st w = iv_V call mc_11 rt 17 L (.int 1 :: st) w := (iv_V_eq (I := (((32, 1), .iconst 1, 0, 0, 0) : iv_I)) rfl).trans (congrArg (fun c => iv_V call mc_11 rt 17 L (.int c :: st) w) li_o1)
theorem e11_17 : iv_V call mc_11 rt 17 L st w = iv_ast w st iv_isZ fun st' w' => iv_V call mc_11 rt 18 L (st') w' := iv_V_eq (I := (((33, 1), .bastore, 0, 0, 0) : iv_I)) rfl
theorem e11_18 : iv_V call mc_11 rt 18 L st w = iv_V call mc_11 rt 19 L (.int 1 :: st) w := (iv_V_eq (I := (((34, 1), .iconst 1, 0, 0, 0) : iv_I)) rfl).trans (congrArg (fun c => iv_V call mc_11 rt 19 L (.int c :: st) w) li_o1)
theorem e11_19 : iv_V call mc_11 rt 19 L st w = iv_ret rt st w := iv_V_eq (I := (((35, 1), .ireturn, 0, 0, 0) : iv_I)) rfl
theorem e12_0 : iv_V call mc_12 rt 0 L st w = iv_lda L 0 fun x => iv_V call mc_12 rt 1 L (x :: st) w := iv_V_eq (I := (((0, 1), .aload_n 0, 0, 0, 0) : iv_I)) rfl
theorem e12_1 : iv_V call mc_12 rt 1 L st w = iv_gf w st 0 0 fun v st' => iv_V call mc_12 rt 2 L (v :: st') w := iv_V_eq (I := (((1, 3), .getfield 12, 0, 0, 276) : iv_I)) rfl
theorem e12_2 : iv_V call mc_12 rt 2 L st w = iv_ldi L 1 fun x => iv_V call mc_12 rt 3 L (.int x :: st) w := iv_V_eq (I := (((4, 1), .iload_n 1, 0, 0, 0) : iv_I)) rfl
theorem e12_3 : iv_V call mc_12 rt 3 L st w = iv_inv call 103 2 (fun as => iv_rc w as (iv_mc 103)) st w fun st' w' => iv_V call mc_12 rt 4 L (st') w' := iv_V_eq (I := (((5, 3), .invokevirtual 69, 103, 2, 323) : iv_I)) rfl
theorem e12_4 : iv_V call mc_12 rt 4 L st w = iv_p1 st fun x st' => if x = 0 then iv_V call mc_12 rt 15 L (st') w else iv_V call mc_12 rt 5 L (st') w := (iv_V_eq (I := (((8, 3), .ifCond .eq 25, 15, 0, 0) : iv_I)) rfl).trans (by simp only [iv_go, iv_cnd, decide_eq_true_eq])
theorem e12_5 : iv_V call mc_12 rt 5 L st w = iv_lda L 0 fun x => iv_V call mc_12 rt 6 L (x :: st) w := iv_V_eq (I := (((11, 1), .aload_n 0, 0, 0, 0) : iv_I)) rfl
theorem e12_6 : iv_V call mc_12 rt 6 L st w = iv_gf w st 0 2 fun v st' => iv_V call mc_12 rt 7 L (v :: st') w := iv_V_eq (I := (((12, 3), .getfield 26, 0, 2, 278) : iv_I)) rfl
theorem e12_7 : iv_V call mc_12 rt 7 L st w = iv_ldi L 2 fun x => iv_V call mc_12 rt 8 L (.int x :: st) w := iv_V_eq (I := (((15, 1), .iload_n 2, 0, 0, 0) : iv_I)) rfl
theorem e12_8 : iv_V call mc_12 rt 8 L st w = iv_inv call 82 2 (fun as => iv_rc w as (iv_mc 82)) st w fun st' w' => iv_V call mc_12 rt 9 L (st') w' := iv_V_eq (I := (((16, 3), .invokevirtual 97, 82, 2, 393) : iv_I)) rfl
theorem e12_9 : iv_V call mc_12 rt 9 L st w = iv_p1 st fun x st' => if x = 0 then iv_V call mc_12 rt 15 L (st') w else iv_V call mc_12 rt 10 L (st') w := (iv_V_eq (I := (((19, 3), .ifCond .eq 14, 15, 0, 0) : iv_I)) rfl).trans (by simp only [iv_go, iv_cnd, decide_eq_true_eq])
theorem e12_10 : iv_V call mc_12 rt 10 L st w = iv_lda L 0 fun x => iv_V call mc_12 rt 11 L (x :: st) w := iv_V_eq (I := (((22, 1), .aload_n 0, 0, 0, 0) : iv_I)) rfl
theorem e12_11 : iv_V call mc_12 rt 11 L st w = iv_gf w st 0 2 fun v st' => iv_V call mc_12 rt 12 L (v :: st') w := iv_V_eq (I := (((23, 3), .getfield 26, 0, 2, 278) : iv_I)) rfl
theorem e12_12 : iv_V call mc_12 rt 12 L st w = iv_ldi L 3 fun x => iv_V call mc_12 rt 13 L (.int x :: st) w := iv_V_eq (I := (((26, 1), .iload_n 3, 0, 0, 0) : iv_I)) rfl
theorem e12_13 : iv_V call mc_12 rt 13 L st w = iv_inv call 82 2 (fun as => iv_rc w as (iv_mc 82)) st w fun st' w' => iv_V call mc_12 rt 14 L (st') w' := iv_V_eq (I := (((27, 3), .invokevirtual 97, 82, 2, 393) : iv_I)) rfl
theorem e12_14 : iv_V call mc_12 rt 14 L st w = iv_p1 st fun x st' => if ¬ x = 0 then iv_V call mc_12 rt 17 L (st') w else iv_V call mc_12 rt 15 L (st') w := (iv_V_eq (I := (((30, 3), .ifCond .ne 5, 17, 0, 0) : iv_I)) rfl).trans (by simp only [iv_go, iv_cnd, decide_eq_true_eq])
theorem e12_15 : iv_V call mc_12 rt 15 L st w = iv_V call mc_12 rt 16 L (.int 0 :: st) w := (iv_V_eq (I := (((33, 1), .iconst 0, 0, 0, 0) : iv_I)) rfl).trans (congrArg (fun c => iv_V call mc_12 rt 16 L (.int c :: st) w) li_o0)
theorem e12_16 : iv_V call mc_12 rt 16 L st w = iv_ret rt st w := iv_V_eq (I := (((34, 1), .ireturn, 0, 0, 0) : iv_I)) rfl
theorem e12_17 : iv_V call mc_12 rt 17 L st w = iv_lda L 0 fun x => iv_V call mc_12 rt 18 L (x :: st) w := iv_V_eq (I := (((35, 1), .aload_n 0, 0, 0, 0) : iv_I)) rfl
theorem e12_18 : iv_V call mc_12 rt 18 L st w = iv_gf w st 0 0 fun v st' => iv_V call mc_12 rt 19 L (v :: st') w := iv_V_eq (I := (((36, 3), .getfield 12, 0, 0, 276) : iv_I)) rfl
theorem e12_19 : iv_V call mc_12 rt 19 L st w = iv_gf w st 10 7 fun v st' => iv_V call mc_12 rt 20 L (v :: st') w := iv_V_eq (I := (((39, 3), .getfield 129, 10, 7, 97) : iv_I)) rfl
theorem e12_20 : iv_V call mc_12 rt 20 L st w = iv_ldi L 1 fun x => iv_V call mc_12 rt 21 L (.int x :: st) w := iv_V_eq (I := (((42, 1), .iload_n 1, 0, 0, 0) : iv_I)) rfl
theorem e12_21 : iv_V call mc_12 rt 21 L st w = iv_ald w st iv_isA fun v st' => iv_V call mc_12 rt 22 L (v :: st') w := iv_V_eq (I := (((43, 1), .aaload, 0, 0, 0) : iv_I)) rfl
theorem e12_22 : iv_V call mc_12 rt 22 L st w = iv_ldi L 2 fun x => iv_V call mc_12 rt 23 L (.int x :: st) w := iv_V_eq (I := (((44, 1), .iload_n 2, 0, 0, 0) : iv_I)) rfl
theorem e12_23 : iv_V call mc_12 rt 23 L st w = iv_ldi L 3 fun x => iv_V call mc_12 rt 24 L (.int x :: st) w := iv_V_eq (I := (((45, 1), .iload_n 3, 0, 0, 0) : iv_I)) rfl
theorem e12_24 : iv_V call mc_12 rt 24 L st w = iv_ast w st iv_isI fun st' w' => iv_V call mc_12 rt 25 L (st') w' := iv_V_eq (I := (((46, 1), .iastore, 0, 0, 0) : iv_I)) rfl
theorem e12_25 : iv_V call mc_12 rt 25 L st w = iv_V call mc_12 rt 26 L (.int 1 :: st) w := (iv_V_eq (I := (((47, 1), .iconst 1, 0, 0, 0) : iv_I)) rfl).trans (congrArg (fun c => iv_V call mc_12 rt 26 L (.int c :: st) w) li_o1)
theorem e12_26 : iv_V call mc_12 rt 26 L st w = iv_ret rt st w := iv_V_eq (I := (((48, 1), .ireturn, 0, 0, 0) : iv_I)) rfl
theorem e13_0 : iv_V call mc_13 rt 0 L st w = iv_lda L 0 fun x => iv_V call mc_13 rt 1 L (x :: st) w := iv_V_eq (I := (((0, 1), .aload_n 0, 0, 0, 0) : iv_I)) rfl
theorem e13_1 : iv_V call mc_13 rt 1 L st w = iv_gf w st 0 0 fun v st' => iv_V call mc_13 rt 2 L (v :: st') w := iv_V_eq (I := (((1, 3), .getfield 12, 0, 0, 276) : iv_I)) rfl
theorem e13_2 : iv_V call mc_13 rt 2 L st w = iv_ldi L 1 fun x => iv_V call mc_13 rt 3 L (.int x :: st) w := iv_V_eq (I := (((4, 1), .iload_n 1, 0, 0, 0) : iv_I)) rfl
theorem e13_3 : iv_V call mc_13 rt 3 L st w = iv_inv call 102 2 (fun as => iv_rc w as (iv_mc 102)) st w fun st' w' => iv_V call mc_13 rt 4 L (st') w' := iv_V_eq (I := (((5, 3), .invokevirtual 53, 102, 2, 299) : iv_I)) rfl
theorem e13_4 : iv_V call mc_13 rt 4 L st w = iv_p1 st fun x st' => if ¬ x = 0 then iv_V call mc_13 rt 7 L (st') w else iv_V call mc_13 rt 5 L (st') w := (iv_V_eq (I := (((8, 3), .ifCond .ne 5, 7, 0, 0) : iv_I)) rfl).trans (by simp only [iv_go, iv_cnd, decide_eq_true_eq])
theorem e13_5 : iv_V call mc_13 rt 5 L st w = iv_V call mc_13 rt 6 L (.int (-1) :: st) w := (iv_V_eq (I := (((11, 1), .iconst (-1), 0, 0, 0) : iv_I)) rfl).trans (congrArg (fun c => iv_V call mc_13 rt 6 L (.int c :: st) w) li_om1)
theorem e13_6 : iv_V call mc_13 rt 6 L st w = iv_ret rt st w := iv_V_eq (I := (((12, 1), .ireturn, 0, 0, 0) : iv_I)) rfl
theorem e13_7 : iv_V call mc_13 rt 7 L st w = iv_lda L 0 fun x => iv_V call mc_13 rt 8 L (x :: st) w := iv_V_eq (I := (((13, 1), .aload_n 0, 0, 0, 0) : iv_I)) rfl
theorem e13_8 : iv_V call mc_13 rt 8 L st w = iv_gf w st 0 3 fun v st' => iv_V call mc_13 rt 9 L (v :: st') w := iv_V_eq (I := (((14, 3), .getfield 33, 0, 3, 279) : iv_I)) rfl
theorem e13_9 : iv_V call mc_13 rt 9 L st w = iv_ldi L 1 fun x => iv_V call mc_13 rt 10 L (.int x :: st) w := iv_V_eq (I := (((17, 1), .iload_n 1, 0, 0, 0) : iv_I)) rfl
theorem e13_10 : iv_V call mc_13 rt 10 L st w = iv_inv call 113 2 (fun as => iv_rc w as (iv_mc 113)) st w fun st' w' => iv_V call mc_13 rt 11 L (st') w' := iv_V_eq (I := (((18, 3), .invokevirtual 133, 113, 2, 438) : iv_I)) rfl
theorem e13_11 : iv_V call mc_13 rt 11 L st w = iv_ret rt st w := iv_V_eq (I := (((21, 1), .ireturn, 0, 0, 0) : iv_I)) rfl
theorem e14_0 : iv_V call mc_14 rt 0 L st w = iv_lda L 0 fun x => iv_V call mc_14 rt 1 L (x :: st) w := iv_V_eq (I := (((0, 1), .aload_n 0, 0, 0, 0) : iv_I)) rfl
theorem e14_1 : iv_V call mc_14 rt 1 L st w = iv_ldi L 1 fun x => iv_V call mc_14 rt 2 L (.int x :: st) w := iv_V_eq (I := (((1, 1), .iload_n 1, 0, 0, 0) : iv_I)) rfl
theorem e14_2 : iv_V call mc_14 rt 2 L st w = iv_ldi L 2 fun x => iv_V call mc_14 rt 3 L (.int x :: st) w := iv_V_eq (I := (((2, 1), .iload_n 2, 0, 0, 0) : iv_I)) rfl
theorem e14_3 : iv_V call mc_14 rt 3 L st w = iv_inv call 23 3 (fun as => iv_rc w as (iv_mc 23)) st w fun st' w' => iv_V call mc_14 rt 4 L (st') w' := iv_V_eq (I := (((3, 3), .invokevirtual 136, 23, 3, 446) : iv_I)) rfl
theorem e14_4 : iv_V call mc_14 rt 4 L st w = iv_p1 st fun x st' => if x = 0 then iv_V call mc_14 rt 10 L (st') w else iv_V call mc_14 rt 5 L (st') w := (iv_V_eq (I := (((6, 3), .ifCond .eq 14, 10, 0, 0) : iv_I)) rfl).trans (by simp only [iv_go, iv_cnd, decide_eq_true_eq])
theorem e14_5 : iv_V call mc_14 rt 5 L st w = iv_lda L 0 fun x => iv_V call mc_14 rt 6 L (x :: st) w := iv_V_eq (I := (((9, 1), .aload_n 0, 0, 0, 0) : iv_I)) rfl
theorem e14_6 : iv_V call mc_14 rt 6 L st w = iv_gf w st 0 0 fun v st' => iv_V call mc_14 rt 7 L (v :: st') w := iv_V_eq (I := (((10, 3), .getfield 12, 0, 0, 276) : iv_I)) rfl
theorem e14_7 : iv_V call mc_14 rt 7 L st w = iv_ldi L 2 fun x => iv_V call mc_14 rt 8 L (.int x :: st) w := iv_V_eq (I := (((13, 1), .iload_n 2, 0, 0, 0) : iv_I)) rfl
theorem e14_8 : iv_V call mc_14 rt 8 L st w = iv_inv call 104 2 (fun as => iv_rc w as (iv_mc 104)) st w fun st' w' => iv_V call mc_14 rt 9 L (st') w' := iv_V_eq (I := (((14, 3), .invokevirtual 139, 104, 2, 458) : iv_I)) rfl
theorem e14_9 : iv_V call mc_14 rt 9 L st w = iv_p1 st fun x st' => if x = 0 then iv_V call mc_14 rt 12 L (st') w else iv_V call mc_14 rt 10 L (st') w := (iv_V_eq (I := (((17, 3), .ifCond .eq 5, 12, 0, 0) : iv_I)) rfl).trans (by simp only [iv_go, iv_cnd, decide_eq_true_eq])
theorem e14_10 : iv_V call mc_14 rt 10 L st w = iv_V call mc_14 rt 11 L (.int 0 :: st) w := (iv_V_eq (I := (((20, 1), .iconst 0, 0, 0, 0) : iv_I)) rfl).trans (congrArg (fun c => iv_V call mc_14 rt 11 L (.int c :: st) w) li_o0)
theorem e14_11 : iv_V call mc_14 rt 11 L st w = iv_ret rt st w := iv_V_eq (I := (((21, 1), .ireturn, 0, 0, 0) : iv_I)) rfl
theorem e14_12 : iv_V call mc_14 rt 12 L st w = iv_lda L 0 fun x => iv_V call mc_14 rt 13 L (x :: st) w := iv_V_eq (I := (((22, 1), .aload_n 0, 0, 0, 0) : iv_I)) rfl
theorem e14_13 : iv_V call mc_14 rt 13 L st w = iv_gf w st 0 0 fun v st' => iv_V call mc_14 rt 14 L (v :: st') w := iv_V_eq (I := (((23, 3), .getfield 12, 0, 0, 276) : iv_I)) rfl
theorem e14_14 : iv_V call mc_14 rt 14 L st w = iv_gf w st 10 5 fun v st' => iv_V call mc_14 rt 15 L (v :: st') w := iv_V_eq (I := (((26, 3), .getfield 142, 10, 5, 91) : iv_I)) rfl
theorem e14_15 : iv_V call mc_14 rt 15 L st w = iv_ldi L 2 fun x => iv_V call mc_14 rt 16 L (.int x :: st) w := iv_V_eq (I := (((29, 1), .iload_n 2, 0, 0, 0) : iv_I)) rfl
theorem e14_16 : iv_V call mc_14 rt 16 L st w = iv_ald w st iv_isI fun v st' => iv_V call mc_14 rt 17 L (v :: st') w := iv_V_eq (I := (((30, 1), .iaload, 0, 0, 0) : iv_I)) rfl
theorem e14_17 : iv_V call mc_14 rt 17 L st w = iv_V call mc_14 rt 18 L (.int 1 :: st) w := (iv_V_eq (I := (((31, 1), .iconst 1, 0, 0, 0) : iv_I)) rfl).trans (congrArg (fun c => iv_V call mc_14 rt 18 L (.int c :: st) w) li_o1)
theorem e14_18 : iv_V call mc_14 rt 18 L st w = iv_p2 st fun x y st' => if ¬ x = y then iv_V call mc_14 rt 29 L (st') w else iv_V call mc_14 rt 19 L (st') w := (iv_V_eq (I := (((32, 3), .if_icmp .ne 21, 29, 0, 0) : iv_I)) rfl).trans (by simp only [iv_go, iv_cnd, decide_eq_true_eq])
theorem e14_19 : iv_V call mc_14 rt 19 L st w = iv_ldi L 3 fun x => iv_V call mc_14 rt 20 L (.int x :: st) w := iv_V_eq (I := (((35, 1), .iload_n 3, 0, 0, 0) : iv_I)) rfl
theorem e14_20 : iv_V call mc_14 rt 20 L st w = iv_V call mc_14 rt 21 L (.int (-1) :: st) w := (iv_V_eq (I := (((36, 1), .iconst (-1), 0, 0, 0) : iv_I)) rfl).trans (congrArg (fun c => iv_V call mc_14 rt 21 L (.int c :: st) w) li_om1)
theorem e14_21 : iv_V call mc_14 rt 21 L st w = iv_p2 st fun x y st' => if x = y then iv_V call mc_14 rt 29 L (st') w else iv_V call mc_14 rt 22 L (st') w := (iv_V_eq (I := (((37, 3), .if_icmp .eq 16, 29, 0, 0) : iv_I)) rfl).trans (by simp only [iv_go, iv_cnd, decide_eq_true_eq])
theorem e14_22 : iv_V call mc_14 rt 22 L st w = iv_lda L 0 fun x => iv_V call mc_14 rt 23 L (x :: st) w := iv_V_eq (I := (((40, 1), .aload_n 0, 0, 0, 0) : iv_I)) rfl
theorem e14_23 : iv_V call mc_14 rt 23 L st w = iv_gf w st 0 3 fun v st' => iv_V call mc_14 rt 24 L (v :: st') w := iv_V_eq (I := (((41, 3), .getfield 33, 0, 3, 279) : iv_I)) rfl
theorem e14_24 : iv_V call mc_14 rt 24 L st w = iv_ldi L 3 fun x => iv_V call mc_14 rt 25 L (.int x :: st) w := iv_V_eq (I := (((44, 1), .iload_n 3, 0, 0, 0) : iv_I)) rfl
theorem e14_25 : iv_V call mc_14 rt 25 L st w = iv_inv call 111 2 (fun as => iv_rc w as (iv_mc 111)) st w fun st' w' => iv_V call mc_14 rt 26 L (st') w' := iv_V_eq (I := (((45, 3), .invokevirtual 146, 111, 2, 450) : iv_I)) rfl
theorem e14_26 : iv_V call mc_14 rt 26 L st w = iv_p1 st fun x st' => if ¬ x = 0 then iv_V call mc_14 rt 29 L (st') w else iv_V call mc_14 rt 27 L (st') w := (iv_V_eq (I := (((48, 3), .ifCond .ne 5, 29, 0, 0) : iv_I)) rfl).trans (by simp only [iv_go, iv_cnd, decide_eq_true_eq])
theorem e14_27 : iv_V call mc_14 rt 27 L st w = iv_V call mc_14 rt 28 L (.int 0 :: st) w := (iv_V_eq (I := (((51, 1), .iconst 0, 0, 0, 0) : iv_I)) rfl).trans (congrArg (fun c => iv_V call mc_14 rt 28 L (.int c :: st) w) li_o0)
theorem e14_28 : iv_V call mc_14 rt 28 L st w = iv_ret rt st w := iv_V_eq (I := (((52, 1), .ireturn, 0, 0, 0) : iv_I)) rfl
theorem e14_29 : iv_V call mc_14 rt 29 L st w = iv_lda L 0 fun x => iv_V call mc_14 rt 30 L (x :: st) w := iv_V_eq (I := (((53, 1), .aload_n 0, 0, 0, 0) : iv_I)) rfl
theorem e14_30 : iv_V call mc_14 rt 30 L st w = iv_gf w st 0 3 fun v st' => iv_V call mc_14 rt 31 L (v :: st') w := iv_V_eq (I := (((54, 3), .getfield 33, 0, 3, 279) : iv_I)) rfl
theorem e14_31 : iv_V call mc_14 rt 31 L st w = iv_gf w st 11 2 fun v st' => iv_V call mc_14 rt 32 L (v :: st') w := iv_V_eq (I := (((57, 3), .getfield 149, 11, 2, 195) : iv_I)) rfl
theorem e14_32 : iv_V call mc_14 rt 32 L st w = iv_ldi L 1 fun x => iv_V call mc_14 rt 33 L (.int x :: st) w := iv_V_eq (I := (((60, 1), .iload_n 1, 0, 0, 0) : iv_I)) rfl
theorem e14_33 : iv_V call mc_14 rt 33 L st w = iv_ald w st iv_isA fun v st' => iv_V call mc_14 rt 34 L (v :: st') w := iv_V_eq (I := (((61, 1), .aaload, 0, 0, 0) : iv_I)) rfl
theorem e14_34 : iv_V call mc_14 rt 34 L st w = iv_ldi L 2 fun x => iv_V call mc_14 rt 35 L (.int x :: st) w := iv_V_eq (I := (((62, 1), .iload_n 2, 0, 0, 0) : iv_I)) rfl
theorem e14_35 : iv_V call mc_14 rt 35 L st w = iv_ldi L 3 fun x => iv_V call mc_14 rt 36 L (.int x :: st) w := iv_V_eq (I := (((63, 1), .iload_n 3, 0, 0, 0) : iv_I)) rfl
theorem e14_36 : iv_V call mc_14 rt 36 L st w = iv_ast w st iv_isI fun st' w' => iv_V call mc_14 rt 37 L (st') w' := iv_V_eq (I := (((64, 1), .iastore, 0, 0, 0) : iv_I)) rfl
theorem e14_37 : iv_V call mc_14 rt 37 L st w = iv_V call mc_14 rt 38 L (.int 1 :: st) w := (iv_V_eq (I := (((65, 1), .iconst 1, 0, 0, 0) : iv_I)) rfl).trans (congrArg (fun c => iv_V call mc_14 rt 38 L (.int c :: st) w) li_o1)
theorem e14_38 : iv_V call mc_14 rt 38 L st w = iv_ret rt st w := iv_V_eq (I := (((66, 1), .ireturn, 0, 0, 0) : iv_I)) rfl
theorem e15_0 : iv_V call mc_15 rt 0 L st w = iv_lda L 0 fun x => iv_V call mc_15 rt 1 L (x :: st) w := iv_V_eq (I := (((0, 1), .aload_n 0, 0, 0, 0) : iv_I)) rfl
theorem e15_1 : iv_V call mc_15 rt 1 L st w = iv_ldi L 1 fun x => iv_V call mc_15 rt 2 L (.int x :: st) w := iv_V_eq (I := (((1, 1), .iload_n 1, 0, 0, 0) : iv_I)) rfl
theorem e15_2 : iv_V call mc_15 rt 2 L st w = iv_ldi L 2 fun x => iv_V call mc_15 rt 3 L (.int x :: st) w := iv_V_eq (I := (((2, 1), .iload_n 2, 0, 0, 0) : iv_I)) rfl
theorem e15_3 : iv_V call mc_15 rt 3 L st w = iv_inv call 23 3 (fun as => iv_rc w as (iv_mc 23)) st w fun st' w' => iv_V call mc_15 rt 4 L (st') w' := iv_V_eq (I := (((3, 3), .invokevirtual 136, 23, 3, 446) : iv_I)) rfl
theorem e15_4 : iv_V call mc_15 rt 4 L st w = iv_p1 st fun x st' => if x = 0 then iv_V call mc_15 rt 10 L (st') w else iv_V call mc_15 rt 5 L (st') w := (iv_V_eq (I := (((6, 3), .ifCond .eq 14, 10, 0, 0) : iv_I)) rfl).trans (by simp only [iv_go, iv_cnd, decide_eq_true_eq])
theorem e15_5 : iv_V call mc_15 rt 5 L st w = iv_lda L 0 fun x => iv_V call mc_15 rt 6 L (x :: st) w := iv_V_eq (I := (((9, 1), .aload_n 0, 0, 0, 0) : iv_I)) rfl
theorem e15_6 : iv_V call mc_15 rt 6 L st w = iv_gf w st 0 0 fun v st' => iv_V call mc_15 rt 7 L (v :: st') w := iv_V_eq (I := (((10, 3), .getfield 12, 0, 0, 276) : iv_I)) rfl
theorem e15_7 : iv_V call mc_15 rt 7 L st w = iv_ldi L 2 fun x => iv_V call mc_15 rt 8 L (.int x :: st) w := iv_V_eq (I := (((13, 1), .iload_n 2, 0, 0, 0) : iv_I)) rfl
theorem e15_8 : iv_V call mc_15 rt 8 L st w = iv_inv call 104 2 (fun as => iv_rc w as (iv_mc 104)) st w fun st' w' => iv_V call mc_15 rt 9 L (st') w' := iv_V_eq (I := (((14, 3), .invokevirtual 139, 104, 2, 458) : iv_I)) rfl
theorem e15_9 : iv_V call mc_15 rt 9 L st w = iv_p1 st fun x st' => if ¬ x = 0 then iv_V call mc_15 rt 12 L (st') w else iv_V call mc_15 rt 10 L (st') w := (iv_V_eq (I := (((17, 3), .ifCond .ne 5, 12, 0, 0) : iv_I)) rfl).trans (by simp only [iv_go, iv_cnd, decide_eq_true_eq])
theorem e15_10 : iv_V call mc_15 rt 10 L st w = iv_V call mc_15 rt 11 L (.int 0 :: st) w := (iv_V_eq (I := (((20, 1), .iconst 0, 0, 0, 0) : iv_I)) rfl).trans (congrArg (fun c => iv_V call mc_15 rt 11 L (.int c :: st) w) li_o0)
theorem e15_11 : iv_V call mc_15 rt 11 L st w = iv_ret rt st w := iv_V_eq (I := (((21, 1), .ireturn, 0, 0, 0) : iv_I)) rfl
theorem e15_12 : iv_V call mc_15 rt 12 L st w = iv_lda L 0 fun x => iv_V call mc_15 rt 13 L (x :: st) w := iv_V_eq (I := (((22, 1), .aload_n 0, 0, 0, 0) : iv_I)) rfl
theorem e15_13 : iv_V call mc_15 rt 13 L st w = iv_gf w st 0 0 fun v st' => iv_V call mc_15 rt 14 L (v :: st') w := iv_V_eq (I := (((23, 3), .getfield 12, 0, 0, 276) : iv_I)) rfl
theorem e15_14 : iv_V call mc_15 rt 14 L st w = iv_gf w st 10 5 fun v st' => iv_V call mc_15 rt 15 L (v :: st') w := iv_V_eq (I := (((26, 3), .getfield 142, 10, 5, 91) : iv_I)) rfl
theorem e15_15 : iv_V call mc_15 rt 15 L st w = iv_ldi L 2 fun x => iv_V call mc_15 rt 16 L (.int x :: st) w := iv_V_eq (I := (((29, 1), .iload_n 2, 0, 0, 0) : iv_I)) rfl
theorem e15_16 : iv_V call mc_15 rt 16 L st w = iv_ald w st iv_isI fun v st' => iv_V call mc_15 rt 17 L (v :: st') w := iv_V_eq (I := (((30, 1), .iaload, 0, 0, 0) : iv_I)) rfl
theorem e15_17 : iv_V call mc_15 rt 17 L st w = iv_V call mc_15 rt 18 L (.int 3 :: st) w := (iv_V_eq (I := (((31, 1), .iconst 3, 0, 0, 0) : iv_I)) rfl).trans (congrArg (fun c => iv_V call mc_15 rt 18 L (.int c :: st) w) li_o3)
theorem e15_18 : iv_V call mc_15 rt 18 L st w = iv_p2 st fun x y st' => if ¬ x = y then iv_V call mc_15 rt 26 L (st') w else iv_V call mc_15 rt 19 L (st') w := (iv_V_eq (I := (((32, 3), .if_icmp .ne 16, 26, 0, 0) : iv_I)) rfl).trans (by simp only [iv_go, iv_cnd, decide_eq_true_eq])
theorem e15_19 : iv_V call mc_15 rt 19 L st w = iv_lda L 0 fun x => iv_V call mc_15 rt 20 L (x :: st) w := iv_V_eq (I := (((35, 1), .aload_n 0, 0, 0, 0) : iv_I)) rfl
theorem e15_20 : iv_V call mc_15 rt 20 L st w = iv_gf w st 0 3 fun v st' => iv_V call mc_15 rt 21 L (v :: st') w := iv_V_eq (I := (((36, 3), .getfield 33, 0, 3, 279) : iv_I)) rfl
theorem e15_21 : iv_V call mc_15 rt 21 L st w = iv_ldi L 3 fun x => iv_V call mc_15 rt 22 L (.int x :: st) w := iv_V_eq (I := (((39, 1), .iload_n 3, 0, 0, 0) : iv_I)) rfl
theorem e15_22 : iv_V call mc_15 rt 22 L st w = iv_inv call 111 2 (fun as => iv_rc w as (iv_mc 111)) st w fun st' w' => iv_V call mc_15 rt 23 L (st') w' := iv_V_eq (I := (((40, 3), .invokevirtual 146, 111, 2, 450) : iv_I)) rfl
theorem e15_23 : iv_V call mc_15 rt 23 L st w = iv_p1 st fun x st' => if ¬ x = 0 then iv_V call mc_15 rt 26 L (st') w else iv_V call mc_15 rt 24 L (st') w := (iv_V_eq (I := (((43, 3), .ifCond .ne 5, 26, 0, 0) : iv_I)) rfl).trans (by simp only [iv_go, iv_cnd, decide_eq_true_eq])
theorem e15_24 : iv_V call mc_15 rt 24 L st w = iv_V call mc_15 rt 25 L (.int 0 :: st) w := (iv_V_eq (I := (((46, 1), .iconst 0, 0, 0, 0) : iv_I)) rfl).trans (congrArg (fun c => iv_V call mc_15 rt 25 L (.int c :: st) w) li_o0)
theorem e15_25 : iv_V call mc_15 rt 25 L st w = iv_ret rt st w := iv_V_eq (I := (((47, 1), .ireturn, 0, 0, 0) : iv_I)) rfl
theorem e15_26 : iv_V call mc_15 rt 26 L st w = iv_lda L 0 fun x => iv_V call mc_15 rt 27 L (x :: st) w := iv_V_eq (I := (((48, 1), .aload_n 0, 0, 0, 0) : iv_I)) rfl
theorem e15_27 : iv_V call mc_15 rt 27 L st w = iv_gf w st 0 3 fun v st' => iv_V call mc_15 rt 28 L (v :: st') w := iv_V_eq (I := (((49, 3), .getfield 33, 0, 3, 279) : iv_I)) rfl
theorem e15_28 : iv_V call mc_15 rt 28 L st w = iv_ldi L 1 fun x => iv_V call mc_15 rt 29 L (.int x :: st) w := iv_V_eq (I := (((52, 1), .iload_n 1, 0, 0, 0) : iv_I)) rfl
theorem e15_29 : iv_V call mc_15 rt 29 L st w = iv_ldi L 2 fun x => iv_V call mc_15 rt 30 L (.int x :: st) w := iv_V_eq (I := (((53, 1), .iload_n 2, 0, 0, 0) : iv_I)) rfl
theorem e15_30 : iv_V call mc_15 rt 30 L st w = iv_ldi L 3 fun x => iv_V call mc_15 rt 31 L (.int x :: st) w := iv_V_eq (I := (((54, 1), .iload_n 3, 0, 0, 0) : iv_I)) rfl
theorem e15_31 : iv_V call mc_15 rt 31 L st w = iv_inv call 114 4 (fun as => iv_rc w as (iv_mc 114)) st w fun st' w' => iv_V call mc_15 rt 32 L (st') w' := iv_V_eq (I := (((55, 3), .invokevirtual 152, 114, 4, 466) : iv_I)) rfl
theorem e15_32 : iv_V call mc_15 rt 32 L st w = iv_ret rt st w := iv_V_eq (I := (((58, 1), .ireturn, 0, 0, 0) : iv_I)) rfl
theorem e16_0 : iv_V call mc_16 rt 0 L st w = iv_lda L 0 fun x => iv_V call mc_16 rt 1 L (x :: st) w := iv_V_eq (I := (((0, 1), .aload_n 0, 0, 0, 0) : iv_I)) rfl
theorem e16_1 : iv_V call mc_16 rt 1 L st w = iv_ldi L 1 fun x => iv_V call mc_16 rt 2 L (.int x :: st) w := iv_V_eq (I := (((1, 1), .iload_n 1, 0, 0, 0) : iv_I)) rfl
theorem e16_2 : iv_V call mc_16 rt 2 L st w = iv_ldi L 2 fun x => iv_V call mc_16 rt 3 L (.int x :: st) w := iv_V_eq (I := (((2, 1), .iload_n 2, 0, 0, 0) : iv_I)) rfl
theorem e16_3 : iv_V call mc_16 rt 3 L st w = iv_inv call 23 3 (fun as => iv_rc w as (iv_mc 23)) st w fun st' w' => iv_V call mc_16 rt 4 L (st') w' := iv_V_eq (I := (((3, 3), .invokevirtual 136, 23, 3, 446) : iv_I)) rfl
theorem e16_4 : iv_V call mc_16 rt 4 L st w = iv_p1 st fun x st' => if x = 0 then iv_V call mc_16 rt 10 L (st') w else iv_V call mc_16 rt 5 L (st') w := (iv_V_eq (I := (((6, 3), .ifCond .eq 14, 10, 0, 0) : iv_I)) rfl).trans (by simp only [iv_go, iv_cnd, decide_eq_true_eq])
theorem e16_5 : iv_V call mc_16 rt 5 L st w = iv_lda L 0 fun x => iv_V call mc_16 rt 6 L (x :: st) w := iv_V_eq (I := (((9, 1), .aload_n 0, 0, 0, 0) : iv_I)) rfl
theorem e16_6 : iv_V call mc_16 rt 6 L st w = iv_gf w st 0 0 fun v st' => iv_V call mc_16 rt 7 L (v :: st') w := iv_V_eq (I := (((10, 3), .getfield 12, 0, 0, 276) : iv_I)) rfl
theorem e16_7 : iv_V call mc_16 rt 7 L st w = iv_ldi L 2 fun x => iv_V call mc_16 rt 8 L (.int x :: st) w := iv_V_eq (I := (((13, 1), .iload_n 2, 0, 0, 0) : iv_I)) rfl
theorem e16_8 : iv_V call mc_16 rt 8 L st w = iv_inv call 104 2 (fun as => iv_rc w as (iv_mc 104)) st w fun st' w' => iv_V call mc_16 rt 9 L (st') w' := iv_V_eq (I := (((14, 3), .invokevirtual 139, 104, 2, 458) : iv_I)) rfl
theorem e16_9 : iv_V call mc_16 rt 9 L st w = iv_p1 st fun x st' => if ¬ x = 0 then iv_V call mc_16 rt 12 L (st') w else iv_V call mc_16 rt 10 L (st') w := (iv_V_eq (I := (((17, 3), .ifCond .ne 5, 12, 0, 0) : iv_I)) rfl).trans (by simp only [iv_go, iv_cnd, decide_eq_true_eq])
theorem e16_10 : iv_V call mc_16 rt 10 L st w = iv_V call mc_16 rt 11 L (.int 0 :: st) w := (iv_V_eq (I := (((20, 1), .iconst 0, 0, 0, 0) : iv_I)) rfl).trans (congrArg (fun c => iv_V call mc_16 rt 11 L (.int c :: st) w) li_o0)
theorem e16_11 : iv_V call mc_16 rt 11 L st w = iv_ret rt st w := iv_V_eq (I := (((21, 1), .ireturn, 0, 0, 0) : iv_I)) rfl
theorem e16_12 : iv_V call mc_16 rt 12 L st w = iv_lda L 0 fun x => iv_V call mc_16 rt 13 L (x :: st) w := iv_V_eq (I := (((22, 1), .aload_n 0, 0, 0, 0) : iv_I)) rfl
theorem e16_13 : iv_V call mc_16 rt 13 L st w = iv_gf w st 0 3 fun v st' => iv_V call mc_16 rt 14 L (v :: st') w := iv_V_eq (I := (((23, 3), .getfield 33, 0, 3, 279) : iv_I)) rfl
theorem e16_14 : iv_V call mc_16 rt 14 L st w = iv_gf w st 11 2 fun v st' => iv_V call mc_16 rt 15 L (v :: st') w := iv_V_eq (I := (((26, 3), .getfield 149, 11, 2, 195) : iv_I)) rfl
theorem e16_15 : iv_V call mc_16 rt 15 L st w = iv_ldi L 1 fun x => iv_V call mc_16 rt 16 L (.int x :: st) w := iv_V_eq (I := (((29, 1), .iload_n 1, 0, 0, 0) : iv_I)) rfl
theorem e16_16 : iv_V call mc_16 rt 16 L st w = iv_ald w st iv_isA fun v st' => iv_V call mc_16 rt 17 L (v :: st') w := iv_V_eq (I := (((30, 1), .aaload, 0, 0, 0) : iv_I)) rfl
theorem e16_17 : iv_V call mc_16 rt 17 L st w = iv_ldi L 2 fun x => iv_V call mc_16 rt 18 L (.int x :: st) w := iv_V_eq (I := (((31, 1), .iload_n 2, 0, 0, 0) : iv_I)) rfl
theorem e16_18 : iv_V call mc_16 rt 18 L st w = iv_ldi L 3 fun x => iv_V call mc_16 rt 19 L (.int x :: st) w := iv_V_eq (I := (((32, 1), .iload_n 3, 0, 0, 0) : iv_I)) rfl
theorem e16_19 : iv_V call mc_16 rt 19 L st w = iv_p1 st fun x st' => if x = 0 then iv_V call mc_16 rt 22 L (st') w else iv_V call mc_16 rt 20 L (st') w := (iv_V_eq (I := (((33, 3), .ifCond .eq 7, 22, 0, 0) : iv_I)) rfl).trans (by simp only [iv_go, iv_cnd, decide_eq_true_eq])
theorem e16_20 : iv_V call mc_16 rt 20 L st w = iv_V call mc_16 rt 21 L (.int (-1) :: st) w := (iv_V_eq (I := (((36, 1), .iconst (-1), 0, 0, 0) : iv_I)) rfl).trans (congrArg (fun c => iv_V call mc_16 rt 21 L (.int c :: st) w) li_om1)
theorem e16_21 : iv_V call mc_16 rt 21 L st w = iv_V call mc_16 rt 23 L (st) w := iv_V_eq (I := (((37, 3), .goto 4, 23, 0, 0) : iv_I)) rfl
theorem e16_22 : iv_V call mc_16 rt 22 L st w = iv_V call mc_16 rt 23 L (.int 0 :: st) w := (iv_V_eq (I := (((40, 1), .iconst 0, 0, 0, 0) : iv_I)) rfl).trans (congrArg (fun c => iv_V call mc_16 rt 23 L (.int c :: st) w) li_o0)
theorem e16_23 : iv_V call mc_16 rt 23 L st w = iv_ast w st iv_isI fun st' w' => iv_V call mc_16 rt 24 L (st') w' := iv_V_eq (I := (((41, 1), .iastore, 0, 0, 0) : iv_I)) rfl
theorem e16_24 : iv_V call mc_16 rt 24 L st w = iv_V call mc_16 rt 25 L (.int 1 :: st) w := (iv_V_eq (I := (((42, 1), .iconst 1, 0, 0, 0) : iv_I)) rfl).trans (congrArg (fun c => iv_V call mc_16 rt 25 L (.int c :: st) w) li_o1)
theorem e16_25 : iv_V call mc_16 rt 25 L st w = iv_ret rt st w := iv_V_eq (I := (((43, 1), .ireturn, 0, 0, 0) : iv_I)) rfl
theorem e17_0 : iv_V call mc_17 rt 0 L st w = iv_lda L 0 fun x => iv_V call mc_17 rt 1 L (x :: st) w := iv_V_eq (I := (((0, 1), .aload_n 0, 0, 0, 0) : iv_I)) rfl
theorem e17_1 : iv_V call mc_17 rt 1 L st w = iv_gf w st 0 3 fun v st' => iv_V call mc_17 rt 2 L (v :: st') w := iv_V_eq (I := (((1, 3), .getfield 33, 0, 3, 279) : iv_I)) rfl
theorem e17_2 : iv_V call mc_17 rt 2 L st w = iv_ldi L 1 fun x => iv_V call mc_17 rt 3 L (.int x :: st) w := iv_V_eq (I := (((4, 1), .iload_n 1, 0, 0, 0) : iv_I)) rfl
theorem e17_3 : iv_V call mc_17 rt 3 L st w = iv_inv call 111 2 (fun as => iv_rc w as (iv_mc 111)) st w fun st' w' => iv_V call mc_17 rt 4 L (st') w' := iv_V_eq (I := (((5, 3), .invokevirtual 146, 111, 2, 450) : iv_I)) rfl
theorem e17_4 : iv_V call mc_17 rt 4 L st w = iv_p1 st fun x st' => if x = 0 then iv_V call mc_17 rt 15 L (st') w else iv_V call mc_17 rt 5 L (st') w := (iv_V_eq (I := (((8, 3), .ifCond .eq 25, 15, 0, 0) : iv_I)) rfl).trans (by simp only [iv_go, iv_cnd, decide_eq_true_eq])
theorem e17_5 : iv_V call mc_17 rt 5 L st w = iv_lda L 0 fun x => iv_V call mc_17 rt 6 L (x :: st) w := iv_V_eq (I := (((11, 1), .aload_n 0, 0, 0, 0) : iv_I)) rfl
theorem e17_6 : iv_V call mc_17 rt 6 L st w = iv_gf w st 0 2 fun v st' => iv_V call mc_17 rt 7 L (v :: st') w := iv_V_eq (I := (((12, 3), .getfield 26, 0, 2, 278) : iv_I)) rfl
theorem e17_7 : iv_V call mc_17 rt 7 L st w = iv_ldi L 2 fun x => iv_V call mc_17 rt 8 L (.int x :: st) w := iv_V_eq (I := (((15, 1), .iload_n 2, 0, 0, 0) : iv_I)) rfl
theorem e17_8 : iv_V call mc_17 rt 8 L st w = iv_inv call 82 2 (fun as => iv_rc w as (iv_mc 82)) st w fun st' w' => iv_V call mc_17 rt 9 L (st') w' := iv_V_eq (I := (((16, 3), .invokevirtual 97, 82, 2, 393) : iv_I)) rfl
theorem e17_9 : iv_V call mc_17 rt 9 L st w = iv_p1 st fun x st' => if ¬ x = 0 then iv_V call mc_17 rt 17 L (st') w else iv_V call mc_17 rt 10 L (st') w := (iv_V_eq (I := (((19, 3), .ifCond .ne 16, 17, 0, 0) : iv_I)) rfl).trans (by simp only [iv_go, iv_cnd, decide_eq_true_eq])
theorem e17_10 : iv_V call mc_17 rt 10 L st w = iv_lda L 0 fun x => iv_V call mc_17 rt 11 L (x :: st) w := iv_V_eq (I := (((22, 1), .aload_n 0, 0, 0, 0) : iv_I)) rfl
theorem e17_11 : iv_V call mc_17 rt 11 L st w = iv_gf w st 0 2 fun v st' => iv_V call mc_17 rt 12 L (v :: st') w := iv_V_eq (I := (((23, 3), .getfield 26, 0, 2, 278) : iv_I)) rfl
theorem e17_12 : iv_V call mc_17 rt 12 L st w = iv_ldi L 2 fun x => iv_V call mc_17 rt 13 L (.int x :: st) w := iv_V_eq (I := (((26, 1), .iload_n 2, 0, 0, 0) : iv_I)) rfl
theorem e17_13 : iv_V call mc_17 rt 13 L st w = iv_inv call 83 2 (fun as => iv_rc w as (iv_mc 83)) st w fun st' w' => iv_V call mc_17 rt 14 L (st') w' := iv_V_eq (I := (((27, 3), .invokevirtual 107, 83, 2, 410) : iv_I)) rfl
theorem e17_14 : iv_V call mc_17 rt 14 L st w = iv_p1 st fun x st' => if ¬ x = 0 then iv_V call mc_17 rt 17 L (st') w else iv_V call mc_17 rt 15 L (st') w := (iv_V_eq (I := (((30, 3), .ifCond .ne 5, 17, 0, 0) : iv_I)) rfl).trans (by simp only [iv_go, iv_cnd, decide_eq_true_eq])
theorem e17_15 : iv_V call mc_17 rt 15 L st w = iv_V call mc_17 rt 16 L (.int (-1) :: st) w := (iv_V_eq (I := (((33, 1), .iconst (-1), 0, 0, 0) : iv_I)) rfl).trans (congrArg (fun c => iv_V call mc_17 rt 16 L (.int c :: st) w) li_om1)
theorem e17_16 : iv_V call mc_17 rt 16 L st w = iv_ret rt st w := iv_V_eq (I := (((34, 1), .ireturn, 0, 0, 0) : iv_I)) rfl
theorem e17_17 : iv_V call mc_17 rt 17 L st w = iv_lda L 0 fun x => iv_V call mc_17 rt 18 L (x :: st) w := iv_V_eq (I := (((35, 1), .aload_n 0, 0, 0, 0) : iv_I)) rfl
theorem e17_18 : iv_V call mc_17 rt 18 L st w = iv_gf w st 0 4 fun v st' => iv_V call mc_17 rt 19 L (v :: st') w := iv_V_eq (I := (((36, 3), .getfield 40, 0, 4, 280) : iv_I)) rfl
theorem e17_19 : iv_V call mc_17 rt 19 L st w = iv_V call mc_17 rt 20 L (.int 0 :: st) w := (iv_V_eq (I := (((39, 1), .iconst 0, 0, 0, 0) : iv_I)) rfl).trans (congrArg (fun c => iv_V call mc_17 rt 20 L (.int c :: st) w) li_o0)
theorem e17_20 : iv_V call mc_17 rt 20 L st w = iv_pf w st 6 0 fun st' w' => iv_V call mc_17 rt 21 L (st') w' := iv_V_eq (I := (((40, 3), .putfield 155, 6, 0, 217) : iv_I)) rfl
theorem e17_21 : iv_V call mc_17 rt 21 L st w = iv_lda L 0 fun x => iv_V call mc_17 rt 22 L (x :: st) w := iv_V_eq (I := (((43, 1), .aload_n 0, 0, 0, 0) : iv_I)) rfl
theorem e17_22 : iv_V call mc_17 rt 22 L st w = iv_gf w st 0 5 fun v st' => iv_V call mc_17 rt 23 L (v :: st') w := iv_V_eq (I := (((44, 3), .getfield 49, 0, 5, 281) : iv_I)) rfl
theorem e17_23 : iv_V call mc_17 rt 23 L st w = iv_V call mc_17 rt 24 L (.int 0 :: st) w := (iv_V_eq (I := (((47, 1), .iconst 0, 0, 0, 0) : iv_I)) rfl).trans (congrArg (fun c => iv_V call mc_17 rt 24 L (.int c :: st) w) li_o0)
theorem e17_24 : iv_V call mc_17 rt 24 L st w = iv_pf w st 2 8 fun st' w' => iv_V call mc_17 rt 25 L (st') w' := iv_V_eq (I := (((48, 3), .putfield 159, 2, 8, 256) : iv_I)) rfl
theorem e17_25 : iv_V call mc_17 rt 25 L st w = iv_lda L 0 fun x => iv_V call mc_17 rt 26 L (x :: st) w := iv_V_eq (I := (((51, 1), .aload_n 0, 0, 0, 0) : iv_I)) rfl
theorem e17_26 : iv_V call mc_17 rt 26 L st w = iv_gf w st 0 2 fun v st' => iv_V call mc_17 rt 27 L (v :: st') w := iv_V_eq (I := (((52, 3), .getfield 26, 0, 2, 278) : iv_I)) rfl
theorem e17_27 : iv_V call mc_17 rt 27 L st w = iv_gf w st 5 2 fun v st' => iv_V call mc_17 rt 28 L (v :: st') w := iv_V_eq (I := (((55, 3), .getfield 162, 5, 2, 174) : iv_I)) rfl
theorem e17_28 : iv_V call mc_17 rt 28 L st w = iv_as st fun a st' => iv_sto L 3 (.ref a) fun L' => iv_V call mc_17 rt 29 L' (st') w := iv_V_eq (I := (((58, 1), .astore_n 3, 0, 0, 0) : iv_I)) rfl
theorem e17_29 : iv_V call mc_17 rt 29 L st w = iv_lda L 3 fun x => iv_V call mc_17 rt 30 L (x :: st) w := iv_V_eq (I := (((59, 1), .aload_n 3, 0, 0, 0) : iv_I)) rfl
theorem e17_30 : iv_V call mc_17 rt 30 L st w = iv_V call mc_17 rt 31 L (.int 0 :: st) w := (iv_V_eq (I := (((60, 1), .iconst 0, 0, 0, 0) : iv_I)) rfl).trans (congrArg (fun c => iv_V call mc_17 rt 31 L (.int c :: st) w) li_o0)
theorem e17_31 : iv_V call mc_17 rt 31 L st w = iv_pf w st 7 1 fun st' w' => iv_V call mc_17 rt 32 L (st') w' := iv_V_eq (I := (((61, 3), .putfield 166, 7, 1, 72) : iv_I)) rfl
theorem e17_32 : iv_V call mc_17 rt 32 L st w = iv_lda L 0 fun x => iv_V call mc_17 rt 33 L (x :: st) w := iv_V_eq (I := (((64, 1), .aload_n 0, 0, 0, 0) : iv_I)) rfl
theorem e17_33 : iv_V call mc_17 rt 33 L st w = iv_gf w st 0 2 fun v st' => iv_V call mc_17 rt 34 L (v :: st') w := iv_V_eq (I := (((65, 3), .getfield 26, 0, 2, 278) : iv_I)) rfl
theorem e17_34 : iv_V call mc_17 rt 34 L st w = iv_ldi L 2 fun x => iv_V call mc_17 rt 35 L (.int x :: st) w := iv_V_eq (I := (((68, 1), .iload_n 2, 0, 0, 0) : iv_I)) rfl
theorem e17_35 : iv_V call mc_17 rt 35 L st w = iv_V call mc_17 rt 36 L (.int 0 :: st) w := (iv_V_eq (I := (((69, 1), .iconst 0, 0, 0, 0) : iv_I)) rfl).trans (congrArg (fun c => iv_V call mc_17 rt 36 L (.int c :: st) w) li_o0)
theorem e17_36 : iv_V call mc_17 rt 36 L st w = iv_inv call 86 3 (fun as => iv_rc w as (iv_mc 86)) st w fun st' w' => iv_V call mc_17 rt 37 L (st') w' := iv_V_eq (I := (((70, 3), .invokevirtual 169, 86, 3, 478) : iv_I)) rfl
theorem e17_37 : iv_V call mc_17 rt 37 L st w = iv_p1 st fun x st' => if x = 0 then iv_V call mc_17 rt 40 L (st') w else iv_V call mc_17 rt 38 L (st') w := (iv_V_eq (I := (((73, 3), .ifCond .eq 7, 40, 0, 0) : iv_I)) rfl).trans (by simp only [iv_go, iv_cnd, decide_eq_true_eq])
theorem e17_38 : iv_V call mc_17 rt 38 L st w = iv_V call mc_17 rt 39 L (.int 0 :: st) w := (iv_V_eq (I := (((76, 1), .iconst 0, 0, 0, 0) : iv_I)) rfl).trans (congrArg (fun c => iv_V call mc_17 rt 39 L (.int c :: st) w) li_o0)
theorem e17_39 : iv_V call mc_17 rt 39 L st w = iv_V call mc_17 rt 41 L (st) w := iv_V_eq (I := (((77, 3), .goto 5, 41, 0, 0) : iv_I)) rfl
theorem e17_40 : iv_V call mc_17 rt 40 L st w = iv_V call mc_17 rt 41 L (.int (-2) :: st) w := (iv_V_eq (I := (((80, 2), .bipush (-2), 0, 0, 0) : iv_I)) rfl).trans (congrArg (fun c => iv_V call mc_17 rt 41 L (.int c :: st) w) li_bm2)
theorem e17_41 : iv_V call mc_17 rt 41 L st w = iv_p1 st fun x st' => iv_sto L 4 (.int x) fun L' => iv_V call mc_17 rt 42 L' (st') w := iv_V_eq (I := (((82, 2), .istore 4, 0, 0, 0) : iv_I)) rfl
theorem e17_42 : iv_V call mc_17 rt 42 L st w = iv_V call mc_17 rt 43 L (.int 0 :: st) w := (iv_V_eq (I := (((84, 1), .iconst 0, 0, 0, 0) : iv_I)) rfl).trans (congrArg (fun c => iv_V call mc_17 rt 43 L (.int c :: st) w) li_o0)
theorem e17_43 : iv_V call mc_17 rt 43 L st w = iv_p1 st fun x st' => iv_sto L 5 (.int x) fun L' => iv_V call mc_17 rt 44 L' (st') w := iv_V_eq (I := (((85, 2), .istore 5, 0, 0, 0) : iv_I)) rfl
theorem e17_44 : iv_V call mc_17 rt 44 L st w = iv_ldi L 5 fun x => iv_V call mc_17 rt 45 L (.int x :: st) w := iv_V_eq (I := (((87, 2), .iload 5, 0, 0, 0) : iv_I)) rfl
theorem e17_45 : iv_V call mc_17 rt 45 L st w = iv_lda L 3 fun x => iv_V call mc_17 rt 46 L (x :: st) w := iv_V_eq (I := (((89, 1), .aload_n 3, 0, 0, 0) : iv_I)) rfl
theorem e17_46 : iv_V call mc_17 rt 46 L st w = iv_gf w st 7 1 fun v st' => iv_V call mc_17 rt 47 L (v :: st') w := iv_V_eq (I := (((90, 3), .getfield 166, 7, 1, 72) : iv_I)) rfl
theorem e17_47 : iv_V call mc_17 rt 47 L st w = iv_p2 st fun x y st' => if y ≤ x then iv_V call mc_17 rt 65 L (st') w else iv_V call mc_17 rt 48 L (st') w := (iv_V_eq (I := (((93, 3), .if_icmp .ge 41, 65, 0, 0) : iv_I)) rfl).trans (by simp only [iv_go, iv_cnd, decide_eq_true_eq])
theorem e17_48 : iv_V call mc_17 rt 48 L st w = iv_ldi L 4 fun x => iv_V call mc_17 rt 49 L (.int x :: st) w := iv_V_eq (I := (((96, 2), .iload 4, 0, 0, 0) : iv_I)) rfl
theorem e17_49 : iv_V call mc_17 rt 49 L st w = iv_p1 st fun x st' => if ¬ x = 0 then iv_V call mc_17 rt 65 L (st') w else iv_V call mc_17 rt 50 L (st') w := (iv_V_eq (I := (((98, 3), .ifCond .ne 36, 65, 0, 0) : iv_I)) rfl).trans (by simp only [iv_go, iv_cnd, decide_eq_true_eq])
theorem e17_50 : iv_V call mc_17 rt 50 L st w = iv_lda L 0 fun x => iv_V call mc_17 rt 51 L (x :: st) w := iv_V_eq (I := (((101, 1), .aload_n 0, 0, 0, 0) : iv_I)) rfl
theorem e17_51 : iv_V call mc_17 rt 51 L st w = iv_gf w st 0 4 fun v st' => iv_V call mc_17 rt 52 L (v :: st') w := iv_V_eq (I := (((102, 3), .getfield 40, 0, 4, 280) : iv_I)) rfl
theorem e17_52 : iv_V call mc_17 rt 52 L st w = iv_gf w st 6 0 fun v st' => iv_V call mc_17 rt 53 L (v :: st') w := iv_V_eq (I := (((105, 3), .getfield 155, 6, 0, 217) : iv_I)) rfl
theorem e17_53 : iv_V call mc_17 rt 53 L st w = iv_p1 st fun x st' => if ¬ x = 0 then iv_V call mc_17 rt 65 L (st') w else iv_V call mc_17 rt 54 L (st') w := (iv_V_eq (I := (((108, 3), .ifCond .ne 26, 65, 0, 0) : iv_I)) rfl).trans (by simp only [iv_go, iv_cnd, decide_eq_true_eq])
theorem e17_54 : iv_V call mc_17 rt 54 L st w = iv_lda L 0 fun x => iv_V call mc_17 rt 55 L (x :: st) w := iv_V_eq (I := (((111, 1), .aload_n 0, 0, 0, 0) : iv_I)) rfl
theorem e17_55 : iv_V call mc_17 rt 55 L st w = iv_gf w st 0 5 fun v st' => iv_V call mc_17 rt 56 L (v :: st') w := iv_V_eq (I := (((112, 3), .getfield 49, 0, 5, 281) : iv_I)) rfl
theorem e17_56 : iv_V call mc_17 rt 56 L st w = iv_ldi L 1 fun x => iv_V call mc_17 rt 57 L (.int x :: st) w := iv_V_eq (I := (((115, 1), .iload_n 1, 0, 0, 0) : iv_I)) rfl
theorem e17_57 : iv_V call mc_17 rt 57 L st w = iv_lda L 3 fun x => iv_V call mc_17 rt 58 L (x :: st) w := iv_V_eq (I := (((116, 1), .aload_n 3, 0, 0, 0) : iv_I)) rfl
theorem e17_58 : iv_V call mc_17 rt 58 L st w = iv_gf w st 7 0 fun v st' => iv_V call mc_17 rt 59 L (v :: st') w := iv_V_eq (I := (((117, 3), .getfield 172, 7, 0, 67) : iv_I)) rfl
theorem e17_59 : iv_V call mc_17 rt 59 L st w = iv_ldi L 5 fun x => iv_V call mc_17 rt 60 L (.int x :: st) w := iv_V_eq (I := (((120, 2), .iload 5, 0, 0, 0) : iv_I)) rfl
theorem e17_60 : iv_V call mc_17 rt 60 L st w = iv_ald w st iv_isI fun v st' => iv_V call mc_17 rt 61 L (v :: st') w := iv_V_eq (I := (((122, 1), .iaload, 0, 0, 0) : iv_I)) rfl
theorem e17_61 : iv_V call mc_17 rt 61 L st w = iv_inv call 65 3 (fun as => iv_rc w as (iv_mc 65)) st w fun st' w' => iv_V call mc_17 rt 62 L (st') w' := iv_V_eq (I := (((123, 3), .invokevirtual 175, 65, 3, 484) : iv_I)) rfl
theorem e17_62 : iv_V call mc_17 rt 62 L st w = iv_p1 st fun x st' => iv_sto L 4 (.int x) fun L' => iv_V call mc_17 rt 63 L' (st') w := iv_V_eq (I := (((126, 2), .istore 4, 0, 0, 0) : iv_I)) rfl
theorem e17_63 : iv_V call mc_17 rt 63 L st w = iv_ldi L 5 fun x => iv_sto L 5 (.int (x + 1)) fun L' => iv_V call mc_17 rt 64 L' (st) w := (iv_V_eq (I := (((128, 3), .iinc 5 1, 0, 0, 0) : iv_I)) rfl).trans (congrArg (fun c => iv_ldi L 5 fun x => iv_sto L 5 (.int (x + c)) fun L' => iv_V call mc_17 rt 64 L' (st) w) li_o1)
theorem e17_64 : iv_V call mc_17 rt 64 L st w = iv_V call mc_17 rt 44 L (st) w := iv_V_eq (I := (((131, 3), .goto (-44), 44, 0, 0) : iv_I)) rfl
theorem e17_65 : iv_V call mc_17 rt 65 L st w = iv_lda L 0 fun x => iv_V call mc_17 rt 66 L (x :: st) w := iv_V_eq (I := (((134, 1), .aload_n 0, 0, 0, 0) : iv_I)) rfl
theorem e17_66 : iv_V call mc_17 rt 66 L st w = iv_gf w st 0 4 fun v st' => iv_V call mc_17 rt 67 L (v :: st') w := iv_V_eq (I := (((135, 3), .getfield 40, 0, 4, 280) : iv_I)) rfl
theorem e17_67 : iv_V call mc_17 rt 67 L st w = iv_ldi L 4 fun x => iv_V call mc_17 rt 68 L (.int x :: st) w := iv_V_eq (I := (((138, 2), .iload 4, 0, 0, 0) : iv_I)) rfl
theorem e17_68 : iv_V call mc_17 rt 68 L st w = iv_inv call 90 2 (fun as => iv_rc w as (iv_mc 90)) st w fun st' w' => iv_V call mc_17 rt 69 L (st') w' := iv_V_eq (I := (((140, 3), .invokevirtual 178, 90, 2, 552) : iv_I)) rfl
theorem e17_69 : iv_V call mc_17 rt 69 L st w = iv_ret rt st w := iv_V_eq (I := (((143, 1), .ireturn, 0, 0, 0) : iv_I)) rfl
theorem e18_0 : iv_V call mc_18 rt 0 L st w = iv_lda L 0 fun x => iv_V call mc_18 rt 1 L (x :: st) w := iv_V_eq (I := (((0, 1), .aload_n 0, 0, 0, 0) : iv_I)) rfl
theorem e18_1 : iv_V call mc_18 rt 1 L st w = iv_ldi L 1 fun x => iv_V call mc_18 rt 2 L (.int x :: st) w := iv_V_eq (I := (((1, 1), .iload_n 1, 0, 0, 0) : iv_I)) rfl
theorem e18_2 : iv_V call mc_18 rt 2 L st w = iv_ldi L 2 fun x => iv_V call mc_18 rt 3 L (.int x :: st) w := iv_V_eq (I := (((2, 1), .iload_n 2, 0, 0, 0) : iv_I)) rfl
theorem e18_3 : iv_V call mc_18 rt 3 L st w = iv_inv call 23 3 (fun as => iv_rc w as (iv_mc 23)) st w fun st' w' => iv_V call mc_18 rt 4 L (st') w' := iv_V_eq (I := (((3, 3), .invokevirtual 136, 23, 3, 446) : iv_I)) rfl
theorem e18_4 : iv_V call mc_18 rt 4 L st w = iv_p1 st fun x st' => if x = 0 then iv_V call mc_18 rt 10 L (st') w else iv_V call mc_18 rt 5 L (st') w := (iv_V_eq (I := (((6, 3), .ifCond .eq 14, 10, 0, 0) : iv_I)) rfl).trans (by simp only [iv_go, iv_cnd, decide_eq_true_eq])
theorem e18_5 : iv_V call mc_18 rt 5 L st w = iv_lda L 0 fun x => iv_V call mc_18 rt 6 L (x :: st) w := iv_V_eq (I := (((9, 1), .aload_n 0, 0, 0, 0) : iv_I)) rfl
theorem e18_6 : iv_V call mc_18 rt 6 L st w = iv_gf w st 0 2 fun v st' => iv_V call mc_18 rt 7 L (v :: st') w := iv_V_eq (I := (((10, 3), .getfield 26, 0, 2, 278) : iv_I)) rfl
theorem e18_7 : iv_V call mc_18 rt 7 L st w = iv_ldi L 3 fun x => iv_V call mc_18 rt 8 L (.int x :: st) w := iv_V_eq (I := (((13, 1), .iload_n 3, 0, 0, 0) : iv_I)) rfl
theorem e18_8 : iv_V call mc_18 rt 8 L st w = iv_inv call 82 2 (fun as => iv_rc w as (iv_mc 82)) st w fun st' w' => iv_V call mc_18 rt 9 L (st') w' := iv_V_eq (I := (((14, 3), .invokevirtual 97, 82, 2, 393) : iv_I)) rfl
theorem e18_9 : iv_V call mc_18 rt 9 L st w = iv_p1 st fun x st' => if ¬ x = 0 then iv_V call mc_18 rt 12 L (st') w else iv_V call mc_18 rt 10 L (st') w := (iv_V_eq (I := (((17, 3), .ifCond .ne 5, 12, 0, 0) : iv_I)) rfl).trans (by simp only [iv_go, iv_cnd, decide_eq_true_eq])
theorem e18_10 : iv_V call mc_18 rt 10 L st w = iv_V call mc_18 rt 11 L (.int (-1) :: st) w := (iv_V_eq (I := (((20, 1), .iconst (-1), 0, 0, 0) : iv_I)) rfl).trans (congrArg (fun c => iv_V call mc_18 rt 11 L (.int c :: st) w) li_om1)
theorem e18_11 : iv_V call mc_18 rt 11 L st w = iv_ret rt st w := iv_V_eq (I := (((21, 1), .ireturn, 0, 0, 0) : iv_I)) rfl
theorem e18_12 : iv_V call mc_18 rt 12 L st w = iv_lda L 0 fun x => iv_V call mc_18 rt 13 L (x :: st) w := iv_V_eq (I := (((22, 1), .aload_n 0, 0, 0, 0) : iv_I)) rfl
theorem e18_13 : iv_V call mc_18 rt 13 L st w = iv_gf w st 0 4 fun v st' => iv_V call mc_18 rt 14 L (v :: st') w := iv_V_eq (I := (((23, 3), .getfield 40, 0, 4, 280) : iv_I)) rfl
theorem e18_14 : iv_V call mc_18 rt 14 L st w = iv_V call mc_18 rt 15 L (.int 0 :: st) w := (iv_V_eq (I := (((26, 1), .iconst 0, 0, 0, 0) : iv_I)) rfl).trans (congrArg (fun c => iv_V call mc_18 rt 15 L (.int c :: st) w) li_o0)
theorem e18_15 : iv_V call mc_18 rt 15 L st w = iv_pf w st 6 0 fun st' w' => iv_V call mc_18 rt 16 L (st') w' := iv_V_eq (I := (((27, 3), .putfield 155, 6, 0, 217) : iv_I)) rfl
theorem e18_16 : iv_V call mc_18 rt 16 L st w = iv_lda L 0 fun x => iv_V call mc_18 rt 17 L (x :: st) w := iv_V_eq (I := (((30, 1), .aload_n 0, 0, 0, 0) : iv_I)) rfl
theorem e18_17 : iv_V call mc_18 rt 17 L st w = iv_gf w st 0 4 fun v st' => iv_V call mc_18 rt 18 L (v :: st') w := iv_V_eq (I := (((31, 3), .getfield 40, 0, 4, 280) : iv_I)) rfl
theorem e18_18 : iv_V call mc_18 rt 18 L st w = iv_lda L 0 fun x => iv_V call mc_18 rt 19 L (x :: st) w := iv_V_eq (I := (((34, 1), .aload_n 0, 0, 0, 0) : iv_I)) rfl
theorem e18_19 : iv_V call mc_18 rt 19 L st w = iv_gf w st 0 5 fun v st' => iv_V call mc_18 rt 20 L (v :: st') w := iv_V_eq (I := (((35, 3), .getfield 49, 0, 5, 281) : iv_I)) rfl
theorem e18_20 : iv_V call mc_18 rt 20 L st w = iv_ldi L 1 fun x => iv_V call mc_18 rt 21 L (.int x :: st) w := iv_V_eq (I := (((38, 1), .iload_n 1, 0, 0, 0) : iv_I)) rfl
theorem e18_21 : iv_V call mc_18 rt 21 L st w = iv_V call mc_18 rt 22 L (.int 1 :: st) w := (iv_V_eq (I := (((39, 1), .iconst 1, 0, 0, 0) : iv_I)) rfl).trans (congrArg (fun c => iv_V call mc_18 rt 22 L (.int c :: st) w) li_o1)
theorem e18_22 : iv_V call mc_18 rt 22 L st w = iv_ldi L 2 fun x => iv_V call mc_18 rt 23 L (.int x :: st) w := iv_V_eq (I := (((40, 1), .iload_n 2, 0, 0, 0) : iv_I)) rfl
theorem e18_23 : iv_V call mc_18 rt 23 L st w = iv_p2 st fun x y st' => iv_V call mc_18 rt 24 L (.int (x <<< (y &&& 31)) :: st') w := iv_V_eq (I := (((41, 1), .ishl, 0, 0, 0) : iv_I)) rfl
theorem e18_24 : iv_V call mc_18 rt 24 L st w = iv_ldi L 3 fun x => iv_V call mc_18 rt 25 L (.int x :: st) w := iv_V_eq (I := (((42, 1), .iload_n 3, 0, 0, 0) : iv_I)) rfl
theorem e18_25 : iv_V call mc_18 rt 25 L st w = iv_inv call 72 4 (fun as => iv_rc w as (iv_mc 72)) st w fun st' w' => iv_V call mc_18 rt 26 L (st') w' := iv_V_eq (I := (((43, 3), .invokevirtual 181, 72, 4, 560) : iv_I)) rfl
theorem e18_26 : iv_V call mc_18 rt 26 L st w = iv_inv call 90 2 (fun as => iv_rc w as (iv_mc 90)) st w fun st' w' => iv_V call mc_18 rt 27 L (st') w' := iv_V_eq (I := (((46, 3), .invokevirtual 178, 90, 2, 552) : iv_I)) rfl
theorem e18_27 : iv_V call mc_18 rt 27 L st w = iv_ret rt st w := iv_V_eq (I := (((49, 1), .ireturn, 0, 0, 0) : iv_I)) rfl
theorem e19_0 : iv_V call mc_19 rt 0 L st w = iv_lda L 0 fun x => iv_V call mc_19 rt 1 L (x :: st) w := iv_V_eq (I := (((0, 1), .aload_n 0, 0, 0, 0) : iv_I)) rfl
theorem e19_1 : iv_V call mc_19 rt 1 L st w = iv_gf w st 0 4 fun v st' => iv_V call mc_19 rt 2 L (v :: st') w := iv_V_eq (I := (((1, 3), .getfield 40, 0, 4, 280) : iv_I)) rfl
theorem e19_2 : iv_V call mc_19 rt 2 L st w = iv_gf w st 6 0 fun v st' => iv_V call mc_19 rt 3 L (v :: st') w := iv_V_eq (I := (((4, 3), .getfield 155, 6, 0, 217) : iv_I)) rfl
theorem e19_3 : iv_V call mc_19 rt 3 L st w = iv_ret rt st w := iv_V_eq (I := (((7, 1), .ireturn, 0, 0, 0) : iv_I)) rfl
theorem e20_0 : iv_V call mc_20 rt 0 L st w = iv_lda L 0 fun x => iv_V call mc_20 rt 1 L (x :: st) w := iv_V_eq (I := (((0, 1), .aload_n 0, 0, 0, 0) : iv_I)) rfl
theorem e20_1 : iv_V call mc_20 rt 1 L st w = iv_gf w st 0 5 fun v st' => iv_V call mc_20 rt 2 L (v :: st') w := iv_V_eq (I := (((1, 3), .getfield 49, 0, 5, 281) : iv_I)) rfl
theorem e20_2 : iv_V call mc_20 rt 2 L st w = iv_gf w st 2 8 fun v st' => iv_V call mc_20 rt 3 L (v :: st') w := iv_V_eq (I := (((4, 3), .getfield 159, 2, 8, 256) : iv_I)) rfl
theorem e20_3 : iv_V call mc_20 rt 3 L st w = iv_ret rt st w := iv_V_eq (I := (((7, 1), .ireturn, 0, 0, 0) : iv_I)) rfl
theorem e21_0 : iv_V call mc_21 rt 0 L st w = iv_lda L 0 fun x => iv_V call mc_21 rt 1 L (x :: st) w := iv_V_eq (I := (((0, 1), .aload_n 0, 0, 0, 0) : iv_I)) rfl
theorem e21_1 : iv_V call mc_21 rt 1 L st w = iv_gf w st 0 4 fun v st' => iv_V call mc_21 rt 2 L (v :: st') w := iv_V_eq (I := (((1, 3), .getfield 40, 0, 4, 280) : iv_I)) rfl
theorem e21_2 : iv_V call mc_21 rt 2 L st w = iv_ldi L 1 fun x => iv_V call mc_21 rt 3 L (.int x :: st) w := iv_V_eq (I := (((4, 1), .iload_n 1, 0, 0, 0) : iv_I)) rfl
theorem e21_3 : iv_V call mc_21 rt 3 L st w = iv_inv call 88 2 (fun as => iv_rc w as (iv_mc 88)) st w fun st' w' => iv_V call mc_21 rt 4 L (st') w' := iv_V_eq (I := (((5, 3), .invokevirtual 185, 88, 2, 573) : iv_I)) rfl
theorem e21_4 : iv_V call mc_21 rt 4 L st w = iv_p1 st fun x st' => if x = 0 then iv_V call mc_21 rt 10 L (st') w else iv_V call mc_21 rt 5 L (st') w := (iv_V_eq (I := (((8, 3), .ifCond .eq 13, 10, 0, 0) : iv_I)) rfl).trans (by simp only [iv_go, iv_cnd, decide_eq_true_eq])
theorem e21_5 : iv_V call mc_21 rt 5 L st w = iv_ldi L 2 fun x => iv_V call mc_21 rt 6 L (.int x :: st) w := iv_V_eq (I := (((11, 1), .iload_n 2, 0, 0, 0) : iv_I)) rfl
theorem e21_6 : iv_V call mc_21 rt 6 L st w = iv_p1 st fun x st' => if x < 0 then iv_V call mc_21 rt 10 L (st') w else iv_V call mc_21 rt 7 L (st') w := (iv_V_eq (I := (((12, 3), .ifCond .lt 9, 10, 0, 0) : iv_I)) rfl).trans (by simp only [iv_go, iv_cnd, decide_eq_true_eq])
theorem e21_7 : iv_V call mc_21 rt 7 L st w = iv_ldi L 2 fun x => iv_V call mc_21 rt 8 L (.int x :: st) w := iv_V_eq (I := (((15, 1), .iload_n 2, 0, 0, 0) : iv_I)) rfl
theorem e21_8 : iv_V call mc_21 rt 8 L st w = iv_V call mc_21 rt 9 L (.int 6 :: st) w := (iv_V_eq (I := (((16, 2), .bipush 6, 0, 0, 0) : iv_I)) rfl).trans (congrArg (fun c => iv_V call mc_21 rt 9 L (.int c :: st) w) li_b6)
theorem e21_9 : iv_V call mc_21 rt 9 L st w = iv_p2 st fun x y st' => if x < y then iv_V call mc_21 rt 12 L (st') w else iv_V call mc_21 rt 10 L (st') w := (iv_V_eq (I := (((18, 3), .if_icmp .lt 5, 12, 0, 0) : iv_I)) rfl).trans (by simp only [iv_go, iv_cnd, decide_eq_true_eq])
theorem e21_10 : iv_V call mc_21 rt 10 L st w = iv_V call mc_21 rt 11 L (.int (-1) :: st) w := (iv_V_eq (I := (((21, 1), .iconst (-1), 0, 0, 0) : iv_I)) rfl).trans (congrArg (fun c => iv_V call mc_21 rt 11 L (.int c :: st) w) li_om1)
theorem e21_11 : iv_V call mc_21 rt 11 L st w = iv_ret rt st w := iv_V_eq (I := (((22, 1), .ireturn, 0, 0, 0) : iv_I)) rfl
theorem e21_12 : iv_V call mc_21 rt 12 L st w = iv_lda L 0 fun x => iv_V call mc_21 rt 13 L (x :: st) w := iv_V_eq (I := (((23, 1), .aload_n 0, 0, 0, 0) : iv_I)) rfl
theorem e21_13 : iv_V call mc_21 rt 13 L st w = iv_gf w st 0 4 fun v st' => iv_V call mc_21 rt 14 L (v :: st') w := iv_V_eq (I := (((24, 3), .getfield 40, 0, 4, 280) : iv_I)) rfl
theorem e21_14 : iv_V call mc_21 rt 14 L st w = iv_gf w st 6 1 fun v st' => iv_V call mc_21 rt 15 L (v :: st') w := iv_V_eq (I := (((27, 3), .getfield 188, 6, 1, 219) : iv_I)) rfl
theorem e21_15 : iv_V call mc_21 rt 15 L st w = iv_ldi L 1 fun x => iv_V call mc_21 rt 16 L (.int x :: st) w := iv_V_eq (I := (((30, 1), .iload_n 1, 0, 0, 0) : iv_I)) rfl
theorem e21_16 : iv_V call mc_21 rt 16 L st w = iv_ald w st iv_isA fun v st' => iv_V call mc_21 rt 17 L (v :: st') w := iv_V_eq (I := (((31, 1), .aaload, 0, 0, 0) : iv_I)) rfl
theorem e21_17 : iv_V call mc_21 rt 17 L st w = iv_ldi L 2 fun x => iv_V call mc_21 rt 18 L (.int x :: st) w := iv_V_eq (I := (((32, 1), .iload_n 2, 0, 0, 0) : iv_I)) rfl
theorem e21_18 : iv_V call mc_21 rt 18 L st w = iv_ald w st iv_isI fun v st' => iv_V call mc_21 rt 19 L (v :: st') w := iv_V_eq (I := (((33, 1), .iaload, 0, 0, 0) : iv_I)) rfl
theorem e21_19 : iv_V call mc_21 rt 19 L st w = iv_ret rt st w := iv_V_eq (I := (((34, 1), .ireturn, 0, 0, 0) : iv_I)) rfl
theorem e22_0 : iv_V call mc_22 rt 0 L st w = iv_lda L 0 fun x => iv_V call mc_22 rt 1 L (x :: st) w := iv_V_eq (I := (((0, 1), .aload_n 0, 0, 0, 0) : iv_I)) rfl
theorem e22_1 : iv_V call mc_22 rt 1 L st w = iv_gf w st 0 4 fun v st' => iv_V call mc_22 rt 2 L (v :: st') w := iv_V_eq (I := (((1, 3), .getfield 40, 0, 4, 280) : iv_I)) rfl
theorem e22_2 : iv_V call mc_22 rt 2 L st w = iv_ldi L 1 fun x => iv_V call mc_22 rt 3 L (.int x :: st) w := iv_V_eq (I := (((4, 1), .iload_n 1, 0, 0, 0) : iv_I)) rfl
theorem e22_3 : iv_V call mc_22 rt 3 L st w = iv_inv call 88 2 (fun as => iv_rc w as (iv_mc 88)) st w fun st' w' => iv_V call mc_22 rt 4 L (st') w' := iv_V_eq (I := (((5, 3), .invokevirtual 185, 88, 2, 573) : iv_I)) rfl
theorem e22_4 : iv_V call mc_22 rt 4 L st w = iv_p1 st fun x st' => if ¬ x = 0 then iv_V call mc_22 rt 7 L (st') w else iv_V call mc_22 rt 5 L (st') w := (iv_V_eq (I := (((8, 3), .ifCond .ne 5, 7, 0, 0) : iv_I)) rfl).trans (by simp only [iv_go, iv_cnd, decide_eq_true_eq])
theorem e22_5 : iv_V call mc_22 rt 5 L st w = iv_V call mc_22 rt 6 L (.int (-1) :: st) w := (iv_V_eq (I := (((11, 1), .iconst (-1), 0, 0, 0) : iv_I)) rfl).trans (congrArg (fun c => iv_V call mc_22 rt 6 L (.int c :: st) w) li_om1)
theorem e22_6 : iv_V call mc_22 rt 6 L st w = iv_ret rt st w := iv_V_eq (I := (((12, 1), .ireturn, 0, 0, 0) : iv_I)) rfl
theorem e22_7 : iv_V call mc_22 rt 7 L st w = iv_lda L 0 fun x => iv_V call mc_22 rt 8 L (x :: st) w := iv_V_eq (I := (((13, 1), .aload_n 0, 0, 0, 0) : iv_I)) rfl
theorem e22_8 : iv_V call mc_22 rt 8 L st w = iv_gf w st 0 4 fun v st' => iv_V call mc_22 rt 9 L (v :: st') w := iv_V_eq (I := (((14, 3), .getfield 40, 0, 4, 280) : iv_I)) rfl
theorem e22_9 : iv_V call mc_22 rt 9 L st w = iv_ldi L 1 fun x => iv_V call mc_22 rt 10 L (.int x :: st) w := iv_V_eq (I := (((17, 1), .iload_n 1, 0, 0, 0) : iv_I)) rfl
theorem e22_10 : iv_V call mc_22 rt 10 L st w = iv_inv call 91 2 (fun as => iv_rc w as (iv_mc 91)) st w fun st' w' => iv_V call mc_22 rt 11 L (st') w' := iv_V_eq (I := (((18, 3), .invokevirtual 191, 91, 2, 581) : iv_I)) rfl
theorem e22_11 : iv_V call mc_22 rt 11 L st w = iv_ldi L 2 fun x => iv_V call mc_22 rt 12 L (.int x :: st) w := iv_V_eq (I := (((21, 1), .iload_n 2, 0, 0, 0) : iv_I)) rfl
theorem e22_12 : iv_V call mc_22 rt 12 L st w = iv_V call mc_22 rt 13 L (.int (-1) :: st) w := (iv_V_eq (I := (((22, 1), .iconst (-1), 0, 0, 0) : iv_I)) rfl).trans (congrArg (fun c => iv_V call mc_22 rt 13 L (.int c :: st) w) li_om1)
theorem e22_13 : iv_V call mc_22 rt 13 L st w = iv_p2 st fun x y st' => if ¬ x = y then iv_V call mc_22 rt 18 L (st') w else iv_V call mc_22 rt 14 L (st') w := (iv_V_eq (I := (((23, 3), .if_icmp .ne 11, 18, 0, 0) : iv_I)) rfl).trans (by simp only [iv_go, iv_cnd, decide_eq_true_eq])
theorem e22_14 : iv_V call mc_22 rt 14 L st w = iv_lda L 0 fun x => iv_V call mc_22 rt 15 L (x :: st) w := iv_V_eq (I := (((26, 1), .aload_n 0, 0, 0, 0) : iv_I)) rfl
theorem e22_15 : iv_V call mc_22 rt 15 L st w = iv_gf w st 0 4 fun v st' => iv_V call mc_22 rt 16 L (v :: st') w := iv_V_eq (I := (((27, 3), .getfield 40, 0, 4, 280) : iv_I)) rfl
theorem e22_16 : iv_V call mc_22 rt 16 L st w = iv_gf w st 6 5 fun v st' => iv_V call mc_22 rt 17 L (v :: st') w := iv_V_eq (I := (((30, 3), .getfield 195, 6, 5, 226) : iv_I)) rfl
theorem e22_17 : iv_V call mc_22 rt 17 L st w = iv_ret rt st w := iv_V_eq (I := (((33, 1), .ireturn, 0, 0, 0) : iv_I)) rfl
theorem e22_18 : iv_V call mc_22 rt 18 L st w = iv_ldi L 2 fun x => iv_V call mc_22 rt 19 L (.int x :: st) w := iv_V_eq (I := (((34, 1), .iload_n 2, 0, 0, 0) : iv_I)) rfl
theorem e22_19 : iv_V call mc_22 rt 19 L st w = iv_p1 st fun x st' => if x < 0 then iv_V call mc_22 rt 25 L (st') w else iv_V call mc_22 rt 20 L (st') w := (iv_V_eq (I := (((35, 3), .ifCond .lt 14, 25, 0, 0) : iv_I)) rfl).trans (by simp only [iv_go, iv_cnd, decide_eq_true_eq])
theorem e22_20 : iv_V call mc_22 rt 20 L st w = iv_ldi L 2 fun x => iv_V call mc_22 rt 21 L (.int x :: st) w := iv_V_eq (I := (((38, 1), .iload_n 2, 0, 0, 0) : iv_I)) rfl
theorem e22_21 : iv_V call mc_22 rt 21 L st w = iv_lda L 0 fun x => iv_V call mc_22 rt 22 L (x :: st) w := iv_V_eq (I := (((39, 1), .aload_n 0, 0, 0, 0) : iv_I)) rfl
theorem e22_22 : iv_V call mc_22 rt 22 L st w = iv_gf w st 0 4 fun v st' => iv_V call mc_22 rt 23 L (v :: st') w := iv_V_eq (I := (((40, 3), .getfield 40, 0, 4, 280) : iv_I)) rfl
theorem e22_23 : iv_V call mc_22 rt 23 L st w = iv_gf w st 6 5 fun v st' => iv_V call mc_22 rt 24 L (v :: st') w := iv_V_eq (I := (((43, 3), .getfield 195, 6, 5, 226) : iv_I)) rfl
theorem e22_24 : iv_V call mc_22 rt 24 L st w = iv_p2 st fun x y st' => if x < y then iv_V call mc_22 rt 27 L (st') w else iv_V call mc_22 rt 25 L (st') w := (iv_V_eq (I := (((46, 3), .if_icmp .lt 5, 27, 0, 0) : iv_I)) rfl).trans (by simp only [iv_go, iv_cnd, decide_eq_true_eq])
theorem e22_25 : iv_V call mc_22 rt 25 L st w = iv_V call mc_22 rt 26 L (.int (-1) :: st) w := (iv_V_eq (I := (((49, 1), .iconst (-1), 0, 0, 0) : iv_I)) rfl).trans (congrArg (fun c => iv_V call mc_22 rt 26 L (.int c :: st) w) li_om1)
theorem e22_26 : iv_V call mc_22 rt 26 L st w = iv_ret rt st w := iv_V_eq (I := (((50, 1), .ireturn, 0, 0, 0) : iv_I)) rfl
theorem e22_27 : iv_V call mc_22 rt 27 L st w = iv_lda L 0 fun x => iv_V call mc_22 rt 28 L (x :: st) w := iv_V_eq (I := (((51, 1), .aload_n 0, 0, 0, 0) : iv_I)) rfl
theorem e22_28 : iv_V call mc_22 rt 28 L st w = iv_gf w st 0 4 fun v st' => iv_V call mc_22 rt 29 L (v :: st') w := iv_V_eq (I := (((52, 3), .getfield 40, 0, 4, 280) : iv_I)) rfl
theorem e22_29 : iv_V call mc_22 rt 29 L st w = iv_gf w st 6 4 fun v st' => iv_V call mc_22 rt 30 L (v :: st') w := iv_V_eq (I := (((55, 3), .getfield 198, 6, 4, 224) : iv_I)) rfl
theorem e22_30 : iv_V call mc_22 rt 30 L st w = iv_ldi L 2 fun x => iv_V call mc_22 rt 31 L (.int x :: st) w := iv_V_eq (I := (((58, 1), .iload_n 2, 0, 0, 0) : iv_I)) rfl
theorem e22_31 : iv_V call mc_22 rt 31 L st w = iv_ald w st iv_isC fun v st' => iv_V call mc_22 rt 32 L (v :: st') w := iv_V_eq (I := (((59, 1), .caload, 0, 0, 0) : iv_I)) rfl
theorem e22_32 : iv_V call mc_22 rt 32 L st w = iv_ret rt st w := iv_V_eq (I := (((60, 1), .ireturn, 0, 0, 0) : iv_I)) rfl
theorem e23_0 : iv_V call mc_23 rt 0 L st w = iv_lda L 0 fun x => iv_V call mc_23 rt 1 L (x :: st) w := iv_V_eq (I := (((0, 1), .aload_n 0, 0, 0, 0) : iv_I)) rfl
theorem e23_1 : iv_V call mc_23 rt 1 L st w = iv_gf w st 0 3 fun v st' => iv_V call mc_23 rt 2 L (v :: st') w := iv_V_eq (I := (((1, 3), .getfield 33, 0, 3, 279) : iv_I)) rfl
theorem e23_2 : iv_V call mc_23 rt 2 L st w = iv_ldi L 1 fun x => iv_V call mc_23 rt 3 L (.int x :: st) w := iv_V_eq (I := (((4, 1), .iload_n 1, 0, 0, 0) : iv_I)) rfl
theorem e23_3 : iv_V call mc_23 rt 3 L st w = iv_inv call 111 2 (fun as => iv_rc w as (iv_mc 111)) st w fun st' w' => iv_V call mc_23 rt 4 L (st') w' := iv_V_eq (I := (((5, 3), .invokevirtual 146, 111, 2, 450) : iv_I)) rfl
theorem e23_4 : iv_V call mc_23 rt 4 L st w = iv_p1 st fun x st' => if x = 0 then iv_V call mc_23 rt 22 L (st') w else iv_V call mc_23 rt 5 L (st') w := (iv_V_eq (I := (((8, 3), .ifCond .eq 38, 22, 0, 0) : iv_I)) rfl).trans (by simp only [iv_go, iv_cnd, decide_eq_true_eq])
theorem e23_5 : iv_V call mc_23 rt 5 L st w = iv_lda L 0 fun x => iv_V call mc_23 rt 6 L (x :: st) w := iv_V_eq (I := (((11, 1), .aload_n 0, 0, 0, 0) : iv_I)) rfl
theorem e23_6 : iv_V call mc_23 rt 6 L st w = iv_gf w st 0 0 fun v st' => iv_V call mc_23 rt 7 L (v :: st') w := iv_V_eq (I := (((12, 3), .getfield 12, 0, 0, 276) : iv_I)) rfl
theorem e23_7 : iv_V call mc_23 rt 7 L st w = iv_ldi L 2 fun x => iv_V call mc_23 rt 8 L (.int x :: st) w := iv_V_eq (I := (((15, 1), .iload_n 2, 0, 0, 0) : iv_I)) rfl
theorem e23_8 : iv_V call mc_23 rt 8 L st w = iv_inv call 103 2 (fun as => iv_rc w as (iv_mc 103)) st w fun st' w' => iv_V call mc_23 rt 9 L (st') w' := iv_V_eq (I := (((16, 3), .invokevirtual 69, 103, 2, 323) : iv_I)) rfl
theorem e23_9 : iv_V call mc_23 rt 9 L st w = iv_p1 st fun x st' => if x = 0 then iv_V call mc_23 rt 22 L (st') w else iv_V call mc_23 rt 10 L (st') w := (iv_V_eq (I := (((19, 3), .ifCond .eq 27, 22, 0, 0) : iv_I)) rfl).trans (by simp only [iv_go, iv_cnd, decide_eq_true_eq])
theorem e23_10 : iv_V call mc_23 rt 10 L st w = iv_lda L 0 fun x => iv_V call mc_23 rt 11 L (x :: st) w := iv_V_eq (I := (((22, 1), .aload_n 0, 0, 0, 0) : iv_I)) rfl
theorem e23_11 : iv_V call mc_23 rt 11 L st w = iv_gf w st 0 0 fun v st' => iv_V call mc_23 rt 12 L (v :: st') w := iv_V_eq (I := (((23, 3), .getfield 12, 0, 0, 276) : iv_I)) rfl
theorem e23_12 : iv_V call mc_23 rt 12 L st w = iv_lda L 0 fun x => iv_V call mc_23 rt 13 L (x :: st) w := iv_V_eq (I := (((26, 1), .aload_n 0, 0, 0, 0) : iv_I)) rfl
theorem e23_13 : iv_V call mc_23 rt 13 L st w = iv_gf w st 0 3 fun v st' => iv_V call mc_23 rt 14 L (v :: st') w := iv_V_eq (I := (((27, 3), .getfield 33, 0, 3, 279) : iv_I)) rfl
theorem e23_14 : iv_V call mc_23 rt 14 L st w = iv_gf w st 11 1 fun v st' => iv_V call mc_23 rt 15 L (v :: st') w := iv_V_eq (I := (((30, 3), .getfield 202, 11, 1, 192) : iv_I)) rfl
theorem e23_15 : iv_V call mc_23 rt 15 L st w = iv_ldi L 1 fun x => iv_V call mc_23 rt 16 L (.int x :: st) w := iv_V_eq (I := (((33, 1), .iload_n 1, 0, 0, 0) : iv_I)) rfl
theorem e23_16 : iv_V call mc_23 rt 16 L st w = iv_ald w st iv_isI fun v st' => iv_V call mc_23 rt 17 L (v :: st') w := iv_V_eq (I := (((34, 1), .iaload, 0, 0, 0) : iv_I)) rfl
theorem e23_17 : iv_V call mc_23 rt 17 L st w = iv_ldi L 2 fun x => iv_V call mc_23 rt 18 L (.int x :: st) w := iv_V_eq (I := (((35, 1), .iload_n 2, 0, 0, 0) : iv_I)) rfl
theorem e23_18 : iv_V call mc_23 rt 18 L st w = iv_inv call 106 3 (fun as => iv_rc w as (iv_mc 106)) st w fun st' w' => iv_V call mc_23 rt 19 L (st') w' := iv_V_eq (I := (((36, 3), .invokevirtual 205, 106, 3, 454) : iv_I)) rfl
theorem e23_19 : iv_V call mc_23 rt 19 L st w = iv_p1 st fun x st' => if x = 0 then iv_V call mc_23 rt 22 L (st') w else iv_V call mc_23 rt 20 L (st') w := (iv_V_eq (I := (((39, 3), .ifCond .eq 7, 22, 0, 0) : iv_I)) rfl).trans (by simp only [iv_go, iv_cnd, decide_eq_true_eq])
theorem e23_20 : iv_V call mc_23 rt 20 L st w = iv_V call mc_23 rt 21 L (.int 1 :: st) w := (iv_V_eq (I := (((42, 1), .iconst 1, 0, 0, 0) : iv_I)) rfl).trans (congrArg (fun c => iv_V call mc_23 rt 21 L (.int c :: st) w) li_o1)
theorem e23_21 : iv_V call mc_23 rt 21 L st w = iv_V call mc_23 rt 23 L (st) w := iv_V_eq (I := (((43, 3), .goto 4, 23, 0, 0) : iv_I)) rfl
theorem e23_22 : iv_V call mc_23 rt 22 L st w = iv_V call mc_23 rt 23 L (.int 0 :: st) w := (iv_V_eq (I := (((46, 1), .iconst 0, 0, 0, 0) : iv_I)) rfl).trans (congrArg (fun c => iv_V call mc_23 rt 23 L (.int c :: st) w) li_o0)
theorem e23_23 : iv_V call mc_23 rt 23 L st w = iv_ret rt st w := iv_V_eq (I := (((47, 1), .ireturn, 0, 0, 0) : iv_I)) rfl
theorem e24_0 : iv_V call mc_24 rt 0 L st w = iv_lda L 0 fun x => iv_V call mc_24 rt 1 L (x :: st) w := iv_V_eq (I := (((0, 1), .aload_n 0, 0, 0, 0) : iv_I)) rfl
theorem e24_1 : iv_V call mc_24 rt 1 L st w = iv_oi st fun st' => iv_V call mc_24 rt 2 L (st') w := iv_V_eq (I := (((1, 3), .invokespecial 1, 0, 1, 598) : iv_I)) rfl
theorem e24_2 : iv_V call mc_24 rt 2 L st w = iv_lda L 0 fun x => iv_V call mc_24 rt 3 L (x :: st) w := iv_V_eq (I := (((4, 1), .aload_n 0, 0, 0, 0) : iv_I)) rfl
theorem e24_3 : iv_V call mc_24 rt 3 L st w = iv_V call mc_24 rt 4 L (.int 6 :: st) w := (iv_V_eq (I := (((5, 2), .bipush 6, 0, 0, 0) : iv_I)) rfl).trans (congrArg (fun c => iv_V call mc_24 rt 4 L (.int c :: st) w) li_b6)
theorem e24_4 : iv_V call mc_24 rt 4 L st w = iv_p1 st fun n st' => iv_na w 100 (.int 0) n fun v w' => iv_V call mc_24 rt 5 L (v :: st') w' := iv_V_eq (I := (((7, 2), .newarray .int, 100, 0, 78) : iv_I)) rfl
theorem e24_5 : iv_V call mc_24 rt 5 L st w = iv_pf w st 1 1 fun st' w' => iv_V call mc_24 rt 6 L (st') w' := iv_V_eq (I := (((9, 3), .putfield 7, 1, 1, 600) : iv_I)) rfl
theorem e24_6 : iv_V call mc_24 rt 6 L st w = iv_lda L 0 fun x => iv_V call mc_24 rt 7 L (x :: st) w := iv_V_eq (I := (((12, 1), .aload_n 0, 0, 0, 0) : iv_I)) rfl
theorem e24_7 : iv_V call mc_24 rt 7 L st w = iv_V call mc_24 rt 8 L (.int 14 :: st) w := (iv_V_eq (I := (((13, 2), .bipush 14, 0, 0, 0) : iv_I)) rfl).trans (congrArg (fun c => iv_V call mc_24 rt 8 L (.int c :: st) w) li_b14)
theorem e24_8 : iv_V call mc_24 rt 8 L st w = iv_p1 st fun n st' => iv_na w 100 (.int 0) n fun v w' => iv_V call mc_24 rt 9 L (v :: st') w' := iv_V_eq (I := (((15, 2), .newarray .int, 100, 0, 78) : iv_I)) rfl
theorem e24_9 : iv_V call mc_24 rt 9 L st w = iv_pf w st 1 3 fun st' w' => iv_V call mc_24 rt 10 L (st') w' := iv_V_eq (I := (((17, 3), .putfield 13, 1, 3, 602) : iv_I)) rfl
theorem e24_10 : iv_V call mc_24 rt 10 L st w = iv_lda L 0 fun x => iv_V call mc_24 rt 11 L (x :: st) w := iv_V_eq (I := (((20, 1), .aload_n 0, 0, 0, 0) : iv_I)) rfl
theorem e24_11 : iv_V call mc_24 rt 11 L st w = iv_V call mc_24 rt 12 L (.int 14 :: st) w := (iv_V_eq (I := (((21, 2), .bipush 14, 0, 0, 0) : iv_I)) rfl).trans (congrArg (fun c => iv_V call mc_24 rt 12 L (.int c :: st) w) li_b14)
theorem e24_12 : iv_V call mc_24 rt 12 L st w = iv_p1 st fun n st' => iv_na w 100 (.int 0) n fun v w' => iv_V call mc_24 rt 13 L (v :: st') w' := iv_V_eq (I := (((23, 2), .newarray .int, 100, 0, 78) : iv_I)) rfl
theorem e24_13 : iv_V call mc_24 rt 13 L st w = iv_pf w st 1 4 fun st' w' => iv_V call mc_24 rt 14 L (st') w' := iv_V_eq (I := (((25, 3), .putfield 16, 1, 4, 603) : iv_I)) rfl
theorem e24_14 : iv_V call mc_24 rt 14 L st w = iv_lda L 0 fun x => iv_V call mc_24 rt 15 L (x :: st) w := iv_V_eq (I := (((28, 1), .aload_n 0, 0, 0, 0) : iv_I)) rfl
theorem e24_15 : iv_V call mc_24 rt 15 L st w = iv_V call mc_24 rt 16 L (.int 14 :: st) w := (iv_V_eq (I := (((29, 2), .bipush 14, 0, 0, 0) : iv_I)) rfl).trans (congrArg (fun c => iv_V call mc_24 rt 16 L (.int c :: st) w) li_b14)
theorem e24_16 : iv_V call mc_24 rt 16 L st w = iv_p1 st fun n st' => iv_na w 101 (.int 0) n fun v w' => iv_V call mc_24 rt 17 L (v :: st') w' := iv_V_eq (I := (((31, 2), .newarray .boolean, 101, 0, 115) : iv_I)) rfl
theorem e24_17 : iv_V call mc_24 rt 17 L st w = iv_pf w st 1 5 fun st' w' => iv_V call mc_24 rt 18 L (st') w' := iv_V_eq (I := (((33, 3), .putfield 19, 1, 5, 604) : iv_I)) rfl
theorem e24_18 : iv_V call mc_24 rt 18 L st w = iv_lda L 0 fun x => iv_V call mc_24 rt 19 L (x :: st) w := iv_V_eq (I := (((36, 1), .aload_n 0, 0, 0, 0) : iv_I)) rfl
theorem e24_19 : iv_V call mc_24 rt 19 L st w = iv_V call mc_24 rt 20 L (.int 84 :: st) w := (iv_V_eq (I := (((37, 2), .bipush 84, 0, 0, 0) : iv_I)) rfl).trans (congrArg (fun c => iv_V call mc_24 rt 20 L (.int c :: st) w) li_b84)
theorem e24_20 : iv_V call mc_24 rt 20 L st w = iv_p1 st fun n st' => iv_na w 100 (.int 0) n fun v w' => iv_V call mc_24 rt 21 L (v :: st') w' := iv_V_eq (I := (((39, 2), .newarray .int, 100, 0, 78) : iv_I)) rfl
theorem e24_21 : iv_V call mc_24 rt 21 L st w = iv_pf w st 1 6 fun st' w' => iv_V call mc_24 rt 22 L (st') w' := iv_V_eq (I := (((41, 3), .putfield 23, 1, 6, 605) : iv_I)) rfl
theorem e24_22 : iv_V call mc_24 rt 22 L st w = iv_lda L 0 fun x => iv_V call mc_24 rt 23 L (x :: st) w := iv_V_eq (I := (((44, 1), .aload_n 0, 0, 0, 0) : iv_I)) rfl
theorem e24_23 : iv_V call mc_24 rt 23 L st w = iv_V call mc_24 rt 24 L (.int 24 :: st) w := (iv_V_eq (I := (((45, 2), .bipush 24, 0, 0, 0) : iv_I)) rfl).trans (congrArg (fun c => iv_V call mc_24 rt 24 L (.int c :: st) w) li_b24)
theorem e24_24 : iv_V call mc_24 rt 24 L st w = iv_p1 st fun n st' => iv_na w 100 (.int 0) n fun v w' => iv_V call mc_24 rt 25 L (v :: st') w' := iv_V_eq (I := (((47, 2), .newarray .int, 100, 0, 78) : iv_I)) rfl
theorem e24_25 : iv_V call mc_24 rt 25 L st w = iv_pf w st 1 8 fun st' w' => iv_V call mc_24 rt 26 L (st') w' := iv_V_eq (I := (((49, 3), .putfield 26, 1, 8, 607) : iv_I)) rfl
theorem e24_26 : iv_V call mc_24 rt 26 L st w = iv_lda L 0 fun x => iv_V call mc_24 rt 27 L (x :: st) w := iv_V_eq (I := (((52, 1), .aload_n 0, 0, 0, 0) : iv_I)) rfl
theorem e24_27 : iv_V call mc_24 rt 27 L st w = iv_V call mc_24 rt 28 L (.int 24 :: st) w := (iv_V_eq (I := (((53, 2), .bipush 24, 0, 0, 0) : iv_I)) rfl).trans (congrArg (fun c => iv_V call mc_24 rt 28 L (.int c :: st) w) li_b24)
theorem e24_28 : iv_V call mc_24 rt 28 L st w = iv_p1 st fun n st' => iv_na w 101 (.int 0) n fun v w' => iv_V call mc_24 rt 29 L (v :: st') w' := iv_V_eq (I := (((55, 2), .newarray .boolean, 101, 0, 115) : iv_I)) rfl
theorem e24_29 : iv_V call mc_24 rt 29 L st w = iv_pf w st 1 9 fun st' w' => iv_V call mc_24 rt 30 L (st') w' := iv_V_eq (I := (((57, 3), .putfield 29, 1, 9, 608) : iv_I)) rfl
theorem e24_30 : iv_V call mc_24 rt 30 L st w = iv_lda L 0 fun x => iv_V call mc_24 rt 31 L (x :: st) w := iv_V_eq (I := (((60, 1), .aload_n 0, 0, 0, 0) : iv_I)) rfl
theorem e24_31 : iv_V call mc_24 rt 31 L st w = iv_V call mc_24 rt 32 L (.int 24 :: st) w := (iv_V_eq (I := (((61, 2), .bipush 24, 0, 0, 0) : iv_I)) rfl).trans (congrArg (fun c => iv_V call mc_24 rt 32 L (.int c :: st) w) li_b24)
theorem e24_32 : iv_V call mc_24 rt 32 L st w = iv_p1 st fun n st' => iv_na w 100 (.int 0) n fun v w' => iv_V call mc_24 rt 33 L (v :: st') w' := iv_V_eq (I := (((63, 2), .newarray .int, 100, 0, 78) : iv_I)) rfl
theorem e24_33 : iv_V call mc_24 rt 33 L st w = iv_pf w st 1 10 fun st' w' => iv_V call mc_24 rt 34 L (st') w' := iv_V_eq (I := (((65, 3), .putfield 32, 1, 10, 609) : iv_I)) rfl
theorem e24_34 : iv_V call mc_24 rt 34 L st w = iv_lda L 0 fun x => iv_V call mc_24 rt 35 L (x :: st) w := iv_V_eq (I := (((68, 1), .aload_n 0, 0, 0, 0) : iv_I)) rfl
theorem e24_35 : iv_V call mc_24 rt 35 L st w = iv_V call mc_24 rt 36 L (.int 24 :: st) w := (iv_V_eq (I := (((69, 2), .bipush 24, 0, 0, 0) : iv_I)) rfl).trans (congrArg (fun c => iv_V call mc_24 rt 36 L (.int c :: st) w) li_b24)
theorem e24_36 : iv_V call mc_24 rt 36 L st w = iv_p1 st fun n st' => iv_na w 100 (.int 0) n fun v w' => iv_V call mc_24 rt 37 L (v :: st') w' := iv_V_eq (I := (((71, 2), .newarray .int, 100, 0, 78) : iv_I)) rfl
theorem e24_37 : iv_V call mc_24 rt 37 L st w = iv_pf w st 1 11 fun st' w' => iv_V call mc_24 rt 38 L (st') w' := iv_V_eq (I := (((73, 3), .putfield 35, 1, 11, 610) : iv_I)) rfl
theorem e24_38 : iv_V call mc_24 rt 38 L st w = iv_lda L 0 fun x => iv_V call mc_24 rt 39 L (x :: st) w := iv_V_eq (I := (((76, 1), .aload_n 0, 0, 0, 0) : iv_I)) rfl
theorem e24_39 : iv_V call mc_24 rt 39 L st w = iv_V call mc_24 rt 40 L (.int 24 :: st) w := (iv_V_eq (I := (((77, 2), .bipush 24, 0, 0, 0) : iv_I)) rfl).trans (congrArg (fun c => iv_V call mc_24 rt 40 L (.int c :: st) w) li_b24)
theorem e24_40 : iv_V call mc_24 rt 40 L st w = iv_p1 st fun n st' => iv_na w 100 (.int 0) n fun v w' => iv_V call mc_24 rt 41 L (v :: st') w' := iv_V_eq (I := (((79, 2), .newarray .int, 100, 0, 78) : iv_I)) rfl
theorem e24_41 : iv_V call mc_24 rt 41 L st w = iv_pf w st 1 12 fun st' w' => iv_V call mc_24 rt 42 L (st') w' := iv_V_eq (I := (((81, 3), .putfield 38, 1, 12, 611) : iv_I)) rfl
theorem e24_42 : iv_V call mc_24 rt 42 L st w = iv_lda L 0 fun x => iv_V call mc_24 rt 43 L (x :: st) w := iv_V_eq (I := (((84, 1), .aload_n 0, 0, 0, 0) : iv_I)) rfl
theorem e24_43 : iv_V call mc_24 rt 43 L st w = iv_V call mc_24 rt 44 L (.int 24 :: st) w := (iv_V_eq (I := (((85, 2), .bipush 24, 0, 0, 0) : iv_I)) rfl).trans (congrArg (fun c => iv_V call mc_24 rt 44 L (.int c :: st) w) li_b24)
theorem e24_44 : iv_V call mc_24 rt 44 L st w = iv_p1 st fun n st' => iv_na w 100 (.int 0) n fun v w' => iv_V call mc_24 rt 45 L (v :: st') w' := iv_V_eq (I := (((87, 2), .newarray .int, 100, 0, 78) : iv_I)) rfl
theorem e24_45 : iv_V call mc_24 rt 45 L st w = iv_pf w st 1 13 fun st' w' => iv_V call mc_24 rt 46 L (st') w' := iv_V_eq (I := (((89, 3), .putfield 41, 1, 13, 612) : iv_I)) rfl
theorem e24_46 : iv_V call mc_24 rt 46 L st w = iv_lda L 0 fun x => iv_V call mc_24 rt 47 L (x :: st) w := iv_V_eq (I := (((92, 1), .aload_n 0, 0, 0, 0) : iv_I)) rfl
theorem e24_47 : iv_V call mc_24 rt 47 L st w = iv_V call mc_24 rt 48 L (.int 3 :: st) w := (iv_V_eq (I := (((93, 1), .iconst 3, 0, 0, 0) : iv_I)) rfl).trans (congrArg (fun c => iv_V call mc_24 rt 48 L (.int c :: st) w) li_o3)
theorem e24_48 : iv_V call mc_24 rt 48 L st w = iv_p1 st fun n st' => iv_na w 100 (.int 0) n fun v w' => iv_V call mc_24 rt 49 L (v :: st') w' := iv_V_eq (I := (((94, 2), .newarray .int, 100, 0, 78) : iv_I)) rfl
theorem e24_49 : iv_V call mc_24 rt 49 L st w = iv_pf w st 1 14 fun st' w' => iv_V call mc_24 rt 50 L (st') w' := iv_V_eq (I := (((96, 3), .putfield 44, 1, 14, 613) : iv_I)) rfl
theorem e24_50 : iv_V call mc_24 rt 50 L st w = iv_lda L 0 fun x => iv_V call mc_24 rt 51 L (x :: st) w := iv_V_eq (I := (((99, 1), .aload_n 0, 0, 0, 0) : iv_I)) rfl
theorem e24_51 : iv_V call mc_24 rt 51 L st w = iv_V call mc_24 rt 52 L (.int 9 :: st) w := (iv_V_eq (I := (((100, 2), .bipush 9, 0, 0, 0) : iv_I)) rfl).trans (congrArg (fun c => iv_V call mc_24 rt 52 L (.int c :: st) w) li_b9)
theorem e24_52 : iv_V call mc_24 rt 52 L st w = iv_p1 st fun n st' => iv_na w 100 (.int 0) n fun v w' => iv_V call mc_24 rt 53 L (v :: st') w' := iv_V_eq (I := (((102, 2), .newarray .int, 100, 0, 78) : iv_I)) rfl
theorem e24_53 : iv_V call mc_24 rt 53 L st w = iv_pf w st 1 15 fun st' w' => iv_V call mc_24 rt 54 L (st') w' := iv_V_eq (I := (((104, 3), .putfield 47, 1, 15, 614) : iv_I)) rfl
theorem e24_54 : iv_V call mc_24 rt 54 L st w = iv_lda L 0 fun x => iv_V call mc_24 rt 55 L (x :: st) w := iv_V_eq (I := (((107, 1), .aload_n 0, 0, 0, 0) : iv_I)) rfl
theorem e24_55 : iv_V call mc_24 rt 55 L st w = iv_V call mc_24 rt 56 L (.int 9 :: st) w := (iv_V_eq (I := (((108, 2), .bipush 9, 0, 0, 0) : iv_I)) rfl).trans (congrArg (fun c => iv_V call mc_24 rt 56 L (.int c :: st) w) li_b9)
theorem e24_56 : iv_V call mc_24 rt 56 L st w = iv_p1 st fun n st' => iv_na w 100 (.int 0) n fun v w' => iv_V call mc_24 rt 57 L (v :: st') w' := iv_V_eq (I := (((110, 2), .newarray .int, 100, 0, 78) : iv_I)) rfl
theorem e24_57 : iv_V call mc_24 rt 57 L st w = iv_pf w st 1 16 fun st' w' => iv_V call mc_24 rt 58 L (st') w' := iv_V_eq (I := (((112, 3), .putfield 50, 1, 16, 615) : iv_I)) rfl
theorem e24_58 : iv_V call mc_24 rt 58 L st w = iv_lda L 0 fun x => iv_V call mc_24 rt 59 L (x :: st) w := iv_V_eq (I := (((115, 1), .aload_n 0, 0, 0, 0) : iv_I)) rfl
theorem e24_59 : iv_V call mc_24 rt 59 L st w = iv_V call mc_24 rt 60 L (.int 9 :: st) w := (iv_V_eq (I := (((116, 2), .bipush 9, 0, 0, 0) : iv_I)) rfl).trans (congrArg (fun c => iv_V call mc_24 rt 60 L (.int c :: st) w) li_b9)
theorem e24_60 : iv_V call mc_24 rt 60 L st w = iv_p1 st fun n st' => iv_na w 100 (.int 0) n fun v w' => iv_V call mc_24 rt 61 L (v :: st') w' := iv_V_eq (I := (((118, 2), .newarray .int, 100, 0, 78) : iv_I)) rfl
theorem e24_61 : iv_V call mc_24 rt 61 L st w = iv_pf w st 1 17 fun st' w' => iv_V call mc_24 rt 62 L (st') w' := iv_V_eq (I := (((120, 3), .putfield 53, 1, 17, 616) : iv_I)) rfl
theorem e24_62 : iv_V call mc_24 rt 62 L st w = iv_lda L 0 fun x => iv_V call mc_24 rt 63 L (x :: st) w := iv_V_eq (I := (((123, 1), .aload_n 0, 0, 0, 0) : iv_I)) rfl
theorem e24_63 : iv_V call mc_24 rt 63 L st w = iv_V call mc_24 rt 64 L (.int 3 :: st) w := (iv_V_eq (I := (((124, 1), .iconst 3, 0, 0, 0) : iv_I)) rfl).trans (congrArg (fun c => iv_V call mc_24 rt 64 L (.int c :: st) w) li_o3)
theorem e24_64 : iv_V call mc_24 rt 64 L st w = iv_p1 st fun n st' => iv_na w 101 (.int 0) n fun v w' => iv_V call mc_24 rt 65 L (v :: st') w' := iv_V_eq (I := (((125, 2), .newarray .boolean, 101, 0, 115) : iv_I)) rfl
theorem e24_65 : iv_V call mc_24 rt 65 L st w = iv_pf w st 1 18 fun st' w' => iv_V call mc_24 rt 66 L (st') w' := iv_V_eq (I := (((127, 3), .putfield 56, 1, 18, 617) : iv_I)) rfl
theorem e24_66 : iv_V call mc_24 rt 66 L st w = iv_lda L 0 fun x => iv_V call mc_24 rt 67 L (x :: st) w := iv_V_eq (I := (((130, 1), .aload_n 0, 0, 0, 0) : iv_I)) rfl
theorem e24_67 : iv_V call mc_24 rt 67 L st w = iv_V call mc_24 rt 68 L (.int 6 :: st) w := (iv_V_eq (I := (((131, 2), .bipush 6, 0, 0, 0) : iv_I)) rfl).trans (congrArg (fun c => iv_V call mc_24 rt 68 L (.int c :: st) w) li_b6)
theorem e24_68 : iv_V call mc_24 rt 68 L st w = iv_p1 st fun n st' => iv_na w 100 (.int 0) n fun v w' => iv_V call mc_24 rt 69 L (v :: st') w' := iv_V_eq (I := (((133, 2), .newarray .int, 100, 0, 78) : iv_I)) rfl
theorem e24_69 : iv_V call mc_24 rt 69 L st w = iv_pf w st 1 19 fun st' w' => iv_V call mc_24 rt 70 L (st') w' := iv_V_eq (I := (((135, 3), .putfield 59, 1, 19, 618) : iv_I)) rfl
theorem e24_70 : iv_V call mc_24 rt 70 L st w = iv_lda L 0 fun x => iv_V call mc_24 rt 71 L (x :: st) w := iv_V_eq (I := (((138, 1), .aload_n 0, 0, 0, 0) : iv_I)) rfl
theorem e24_71 : iv_V call mc_24 rt 71 L st w = iv_V call mc_24 rt 72 L (.int 2 :: st) w := (iv_V_eq (I := (((139, 1), .iconst 2, 0, 0, 0) : iv_I)) rfl).trans (congrArg (fun c => iv_V call mc_24 rt 72 L (.int c :: st) w) li_o2)
theorem e24_72 : iv_V call mc_24 rt 72 L st w = iv_p1 st fun n st' => iv_na w 100 (.int 0) n fun v w' => iv_V call mc_24 rt 73 L (v :: st') w' := iv_V_eq (I := (((140, 2), .newarray .int, 100, 0, 78) : iv_I)) rfl
theorem e24_73 : iv_V call mc_24 rt 73 L st w = iv_pf w st 1 20 fun st' w' => iv_V call mc_24 rt 74 L (st') w' := iv_V_eq (I := (((142, 3), .putfield 62, 1, 20, 619) : iv_I)) rfl
theorem e24_74 : iv_V call mc_24 rt 74 L st w = iv_lda L 0 fun x => iv_V call mc_24 rt 75 L (x :: st) w := iv_V_eq (I := (((145, 1), .aload_n 0, 0, 0, 0) : iv_I)) rfl
theorem e24_75 : iv_V call mc_24 rt 75 L st w = iv_V call mc_24 rt 76 L (.int 8 :: st) w := (iv_V_eq (I := (((146, 2), .bipush 8, 0, 0, 0) : iv_I)) rfl).trans (congrArg (fun c => iv_V call mc_24 rt 76 L (.int c :: st) w) li_b8)
theorem e24_76 : iv_V call mc_24 rt 76 L st w = iv_p1 st fun n st' => iv_na w 100 (.int 0) n fun v w' => iv_V call mc_24 rt 77 L (v :: st') w' := iv_V_eq (I := (((148, 2), .newarray .int, 100, 0, 78) : iv_I)) rfl
theorem e24_77 : iv_V call mc_24 rt 77 L st w = iv_pf w st 1 21 fun st' w' => iv_V call mc_24 rt 78 L (st') w' := iv_V_eq (I := (((150, 3), .putfield 65, 1, 21, 620) : iv_I)) rfl
theorem e24_78 : iv_V call mc_24 rt 78 L st w = iv_lda L 0 fun x => iv_V call mc_24 rt 79 L (x :: st) w := iv_V_eq (I := (((153, 1), .aload_n 0, 0, 0, 0) : iv_I)) rfl
theorem e24_79 : iv_V call mc_24 rt 79 L st w = iv_V call mc_24 rt 80 L (.int 6 :: st) w := (iv_V_eq (I := (((154, 2), .bipush 6, 0, 0, 0) : iv_I)) rfl).trans (congrArg (fun c => iv_V call mc_24 rt 80 L (.int c :: st) w) li_b6)
theorem e24_80 : iv_V call mc_24 rt 80 L st w = iv_p1 st fun n st' => iv_na w 100 (.int 0) n fun v w' => iv_V call mc_24 rt 81 L (v :: st') w' := iv_V_eq (I := (((156, 2), .newarray .int, 100, 0, 78) : iv_I)) rfl
theorem e24_81 : iv_V call mc_24 rt 81 L st w = iv_pf w st 1 22 fun st' w' => iv_V call mc_24 rt 82 L (st') w' := iv_V_eq (I := (((158, 3), .putfield 68, 1, 22, 621) : iv_I)) rfl
theorem e24_82 : iv_V call mc_24 rt 82 L st w = iv_lda L 0 fun x => iv_V call mc_24 rt 83 L (x :: st) w := iv_V_eq (I := (((161, 1), .aload_n 0, 0, 0, 0) : iv_I)) rfl
theorem e24_83 : iv_V call mc_24 rt 83 L st w = iv_V call mc_24 rt 84 L (.int 24 :: st) w := (iv_V_eq (I := (((162, 2), .bipush 24, 0, 0, 0) : iv_I)) rfl).trans (congrArg (fun c => iv_V call mc_24 rt 84 L (.int c :: st) w) li_b24)
theorem e24_84 : iv_V call mc_24 rt 84 L st w = iv_p1 st fun n st' => iv_na w 100 (.int 0) n fun v w' => iv_V call mc_24 rt 85 L (v :: st') w' := iv_V_eq (I := (((164, 2), .newarray .int, 100, 0, 78) : iv_I)) rfl
theorem e24_85 : iv_V call mc_24 rt 85 L st w = iv_pf w st 1 23 fun st' w' => iv_V call mc_24 rt 86 L (st') w' := iv_V_eq (I := (((166, 3), .putfield 71, 1, 23, 622) : iv_I)) rfl
theorem e24_86 : iv_V call mc_24 rt 86 L st w = iv_lda L 0 fun x => iv_V call mc_24 rt 87 L (x :: st) w := iv_V_eq (I := (((169, 1), .aload_n 0, 0, 0, 0) : iv_I)) rfl
theorem e24_87 : iv_V call mc_24 rt 87 L st w = iv_V call mc_24 rt 88 L (.int 10 :: st) w := (iv_V_eq (I := (((170, 2), .bipush 10, 0, 0, 0) : iv_I)) rfl).trans (congrArg (fun c => iv_V call mc_24 rt 88 L (.int c :: st) w) li_b10)
theorem e24_88 : iv_V call mc_24 rt 88 L st w = iv_p1 st fun n st' => iv_na w 100 (.int 0) n fun v w' => iv_V call mc_24 rt 89 L (v :: st') w' := iv_V_eq (I := (((172, 2), .newarray .int, 100, 0, 78) : iv_I)) rfl
theorem e24_89 : iv_V call mc_24 rt 89 L st w = iv_pf w st 1 25 fun st' w' => iv_V call mc_24 rt 90 L (st') w' := iv_V_eq (I := (((174, 3), .putfield 74, 1, 25, 624) : iv_I)) rfl
theorem e24_90 : iv_V call mc_24 rt 90 L st w = iv_lda L 0 fun x => iv_V call mc_24 rt 91 L (x :: st) w := iv_V_eq (I := (((177, 1), .aload_n 0, 0, 0, 0) : iv_I)) rfl
theorem e24_91 : iv_V call mc_24 rt 91 L st w = iv_V call mc_24 rt 92 L (.int 140 :: st) w := (iv_V_eq (I := (((178, 3), .sipush 140, 0, 0, 0) : iv_I)) rfl).trans (congrArg (fun c => iv_V call mc_24 rt 92 L (.int c :: st) w) li_s140)
theorem e24_92 : iv_V call mc_24 rt 92 L st w = iv_p1 st fun n st' => iv_na w 100 (.int 0) n fun v w' => iv_V call mc_24 rt 93 L (v :: st') w' := iv_V_eq (I := (((181, 2), .newarray .int, 100, 0, 78) : iv_I)) rfl
theorem e24_93 : iv_V call mc_24 rt 93 L st w = iv_pf w st 1 26 fun st' w' => iv_V call mc_24 rt 94 L (st') w' := iv_V_eq (I := (((183, 3), .putfield 77, 1, 26, 625) : iv_I)) rfl
theorem e24_94 : iv_V call mc_24 rt 94 L st w = iv_lda L 0 fun x => iv_V call mc_24 rt 95 L (x :: st) w := iv_V_eq (I := (((186, 1), .aload_n 0, 0, 0, 0) : iv_I)) rfl
theorem e24_95 : iv_V call mc_24 rt 95 L st w = iv_V call mc_24 rt 96 L (.int 420 :: st) w := (iv_V_eq (I := (((187, 3), .sipush 420, 0, 0, 0) : iv_I)) rfl).trans (congrArg (fun c => iv_V call mc_24 rt 96 L (.int c :: st) w) li_s420)
theorem e24_96 : iv_V call mc_24 rt 96 L st w = iv_p1 st fun n st' => iv_na w 100 (.int 0) n fun v w' => iv_V call mc_24 rt 97 L (v :: st') w' := iv_V_eq (I := (((190, 2), .newarray .int, 100, 0, 78) : iv_I)) rfl
theorem e24_97 : iv_V call mc_24 rt 97 L st w = iv_pf w st 1 27 fun st' w' => iv_V call mc_24 rt 98 L (st') w' := iv_V_eq (I := (((192, 3), .putfield 80, 1, 27, 626) : iv_I)) rfl
theorem e24_98 : iv_V call mc_24 rt 98 L st w = iv_lda L 0 fun x => iv_V call mc_24 rt 99 L (x :: st) w := iv_V_eq (I := (((195, 1), .aload_n 0, 0, 0, 0) : iv_I)) rfl
theorem e24_99 : iv_V call mc_24 rt 99 L st w = iv_V call mc_24 rt 100 L (.int 16 :: st) w := (iv_V_eq (I := (((196, 2), .bipush 16, 0, 0, 0) : iv_I)) rfl).trans (congrArg (fun c => iv_V call mc_24 rt 100 L (.int c :: st) w) li_b16)
theorem e24_100 : iv_V call mc_24 rt 100 L st w = iv_p1 st fun n st' => iv_na w 100 (.int 0) n fun v w' => iv_V call mc_24 rt 101 L (v :: st') w' := iv_V_eq (I := (((198, 2), .newarray .int, 100, 0, 78) : iv_I)) rfl
theorem e24_101 : iv_V call mc_24 rt 101 L st w = iv_pf w st 1 29 fun st' w' => iv_V call mc_24 rt 102 L (st') w' := iv_V_eq (I := (((200, 3), .putfield 83, 1, 29, 628) : iv_I)) rfl
theorem e24_102 : iv_V call mc_24 rt 102 L st w = iv_lda L 0 fun x => iv_V call mc_24 rt 103 L (x :: st) w := iv_V_eq (I := (((203, 1), .aload_n 0, 0, 0, 0) : iv_I)) rfl
theorem e24_103 : iv_V call mc_24 rt 103 L st w = iv_V call mc_24 rt 104 L (.int 16 :: st) w := (iv_V_eq (I := (((204, 2), .bipush 16, 0, 0, 0) : iv_I)) rfl).trans (congrArg (fun c => iv_V call mc_24 rt 104 L (.int c :: st) w) li_b16)
theorem e24_104 : iv_V call mc_24 rt 104 L st w = iv_p1 st fun n st' => iv_na w 100 (.int 0) n fun v w' => iv_V call mc_24 rt 105 L (v :: st') w' := iv_V_eq (I := (((206, 2), .newarray .int, 100, 0, 78) : iv_I)) rfl
theorem e24_105 : iv_V call mc_24 rt 105 L st w = iv_pf w st 1 30 fun st' w' => iv_V call mc_24 rt 106 L (st') w' := iv_V_eq (I := (((208, 3), .putfield 86, 1, 30, 629) : iv_I)) rfl
theorem e24_106 : iv_V call mc_24 rt 106 L st w = iv_lda L 0 fun x => iv_V call mc_24 rt 107 L (x :: st) w := iv_V_eq (I := (((211, 1), .aload_n 0, 0, 0, 0) : iv_I)) rfl
theorem e24_107 : iv_V call mc_24 rt 107 L st w = iv_V call mc_24 rt 108 L (.int 16 :: st) w := (iv_V_eq (I := (((212, 2), .bipush 16, 0, 0, 0) : iv_I)) rfl).trans (congrArg (fun c => iv_V call mc_24 rt 108 L (.int c :: st) w) li_b16)
theorem e24_108 : iv_V call mc_24 rt 108 L st w = iv_p1 st fun n st' => iv_na w 100 (.int 0) n fun v w' => iv_V call mc_24 rt 109 L (v :: st') w' := iv_V_eq (I := (((214, 2), .newarray .int, 100, 0, 78) : iv_I)) rfl
theorem e24_109 : iv_V call mc_24 rt 109 L st w = iv_pf w st 1 31 fun st' w' => iv_V call mc_24 rt 110 L (st') w' := iv_V_eq (I := (((216, 3), .putfield 89, 1, 31, 630) : iv_I)) rfl
theorem e24_110 : iv_V call mc_24 rt 110 L st w = iv_lda L 0 fun x => iv_V call mc_24 rt 111 L (x :: st) w := iv_V_eq (I := (((219, 1), .aload_n 0, 0, 0, 0) : iv_I)) rfl
theorem e24_111 : iv_V call mc_24 rt 111 L st w = iv_V call mc_24 rt 112 L (.int 16 :: st) w := (iv_V_eq (I := (((220, 2), .bipush 16, 0, 0, 0) : iv_I)) rfl).trans (congrArg (fun c => iv_V call mc_24 rt 112 L (.int c :: st) w) li_b16)
theorem e24_112 : iv_V call mc_24 rt 112 L st w = iv_p1 st fun n st' => iv_na w 100 (.int 0) n fun v w' => iv_V call mc_24 rt 113 L (v :: st') w' := iv_V_eq (I := (((222, 2), .newarray .int, 100, 0, 78) : iv_I)) rfl
theorem e24_113 : iv_V call mc_24 rt 113 L st w = iv_pf w st 1 32 fun st' w' => iv_V call mc_24 rt 114 L (st') w' := iv_V_eq (I := (((224, 3), .putfield 92, 1, 32, 631) : iv_I)) rfl
theorem e24_114 : iv_V call mc_24 rt 114 L st w = iv_lda L 0 fun x => iv_V call mc_24 rt 115 L (x :: st) w := iv_V_eq (I := (((227, 1), .aload_n 0, 0, 0, 0) : iv_I)) rfl
theorem e24_115 : iv_V call mc_24 rt 115 L st w = iv_V call mc_24 rt 116 L (.int 16 :: st) w := (iv_V_eq (I := (((228, 2), .bipush 16, 0, 0, 0) : iv_I)) rfl).trans (congrArg (fun c => iv_V call mc_24 rt 116 L (.int c :: st) w) li_b16)
theorem e24_116 : iv_V call mc_24 rt 116 L st w = iv_p1 st fun n st' => iv_na w 101 (.int 0) n fun v w' => iv_V call mc_24 rt 117 L (v :: st') w' := iv_V_eq (I := (((230, 2), .newarray .boolean, 101, 0, 115) : iv_I)) rfl
theorem e24_117 : iv_V call mc_24 rt 117 L st w = iv_pf w st 1 33 fun st' w' => iv_V call mc_24 rt 118 L (st') w' := iv_V_eq (I := (((232, 3), .putfield 95, 1, 33, 632) : iv_I)) rfl
theorem e24_118 : iv_V call mc_24 rt 118 L st w = iv_lda L 0 fun x => iv_V call mc_24 rt 119 L (x :: st) w := iv_V_eq (I := (((235, 1), .aload_n 0, 0, 0, 0) : iv_I)) rfl
theorem e24_119 : iv_V call mc_24 rt 119 L st w = iv_V call mc_24 rt 120 L (.int 16 :: st) w := (iv_V_eq (I := (((236, 2), .bipush 16, 0, 0, 0) : iv_I)) rfl).trans (congrArg (fun c => iv_V call mc_24 rt 120 L (.int c :: st) w) li_b16)
theorem e24_120 : iv_V call mc_24 rt 120 L st w = iv_p1 st fun n st' => iv_na w 100 (.int 0) n fun v w' => iv_V call mc_24 rt 121 L (v :: st') w' := iv_V_eq (I := (((238, 2), .newarray .int, 100, 0, 78) : iv_I)) rfl
theorem e24_121 : iv_V call mc_24 rt 121 L st w = iv_pf w st 1 34 fun st' w' => iv_V call mc_24 rt 122 L (st') w' := iv_V_eq (I := (((240, 3), .putfield 98, 1, 34, 633) : iv_I)) rfl
theorem e24_122 : iv_V call mc_24 rt 122 L st w = iv_lda L 0 fun x => iv_V call mc_24 rt 123 L (x :: st) w := iv_V_eq (I := (((243, 1), .aload_n 0, 0, 0, 0) : iv_I)) rfl
theorem e24_123 : iv_V call mc_24 rt 123 L st w = iv_V call mc_24 rt 124 L (.int 16 :: st) w := (iv_V_eq (I := (((244, 2), .bipush 16, 0, 0, 0) : iv_I)) rfl).trans (congrArg (fun c => iv_V call mc_24 rt 124 L (.int c :: st) w) li_b16)
theorem e24_124 : iv_V call mc_24 rt 124 L st w = iv_p1 st fun n st' => iv_na w 100 (.int 0) n fun v w' => iv_V call mc_24 rt 125 L (v :: st') w' := iv_V_eq (I := (((246, 2), .newarray .int, 100, 0, 78) : iv_I)) rfl
theorem e24_125 : iv_V call mc_24 rt 125 L st w = iv_pf w st 1 35 fun st' w' => iv_V call mc_24 rt 126 L (st') w' := iv_V_eq (I := (((248, 3), .putfield 101, 1, 35, 634) : iv_I)) rfl
theorem e24_126 : iv_V call mc_24 rt 126 L st w = iv_lda L 0 fun x => iv_V call mc_24 rt 127 L (x :: st) w := iv_V_eq (I := (((251, 1), .aload_n 0, 0, 0, 0) : iv_I)) rfl
theorem e24_127 : iv_V call mc_24 rt 127 L st w = iv_V call mc_24 rt 128 L (.int 16 :: st) w := (iv_V_eq (I := (((252, 2), .bipush 16, 0, 0, 0) : iv_I)) rfl).trans (congrArg (fun c => iv_V call mc_24 rt 128 L (.int c :: st) w) li_b16)
theorem e24_128 : iv_V call mc_24 rt 128 L st w = iv_p1 st fun n st' => iv_na w 100 (.int 0) n fun v w' => iv_V call mc_24 rt 129 L (v :: st') w' := iv_V_eq (I := (((254, 2), .newarray .int, 100, 0, 78) : iv_I)) rfl
theorem e24_129 : iv_V call mc_24 rt 129 L st w = iv_pf w st 1 36 fun st' w' => iv_V call mc_24 rt 130 L (st') w' := iv_V_eq (I := (((256, 3), .putfield 104, 1, 36, 635) : iv_I)) rfl
theorem e24_130 : iv_V call mc_24 rt 130 L st w = iv_lda L 0 fun x => iv_V call mc_24 rt 131 L (x :: st) w := iv_V_eq (I := (((259, 1), .aload_n 0, 0, 0, 0) : iv_I)) rfl
theorem e24_131 : iv_V call mc_24 rt 131 L st w = iv_V call mc_24 rt 132 L (.int 17 :: st) w := (iv_V_eq (I := (((260, 2), .bipush 17, 0, 0, 0) : iv_I)) rfl).trans (congrArg (fun c => iv_V call mc_24 rt 132 L (.int c :: st) w) li_b17)
theorem e24_132 : iv_V call mc_24 rt 132 L st w = iv_p1 st fun n st' => iv_na w 100 (.int 0) n fun v w' => iv_V call mc_24 rt 133 L (v :: st') w' := iv_V_eq (I := (((262, 2), .newarray .int, 100, 0, 78) : iv_I)) rfl
theorem e24_133 : iv_V call mc_24 rt 133 L st w = iv_pf w st 1 37 fun st' w' => iv_V call mc_24 rt 134 L (st') w' := iv_V_eq (I := (((264, 3), .putfield 107, 1, 37, 636) : iv_I)) rfl
theorem e24_134 : iv_V call mc_24 rt 134 L st w = iv_lda L 0 fun x => iv_V call mc_24 rt 135 L (x :: st) w := iv_V_eq (I := (((267, 1), .aload_n 0, 0, 0, 0) : iv_I)) rfl
theorem e24_135 : iv_V call mc_24 rt 135 L st w = iv_V call mc_24 rt 136 L (.int 17 :: st) w := (iv_V_eq (I := (((268, 2), .bipush 17, 0, 0, 0) : iv_I)) rfl).trans (congrArg (fun c => iv_V call mc_24 rt 136 L (.int c :: st) w) li_b17)
theorem e24_136 : iv_V call mc_24 rt 136 L st w = iv_p1 st fun n st' => iv_na w 100 (.int 0) n fun v w' => iv_V call mc_24 rt 137 L (v :: st') w' := iv_V_eq (I := (((270, 2), .newarray .int, 100, 0, 78) : iv_I)) rfl
theorem e24_137 : iv_V call mc_24 rt 137 L st w = iv_pf w st 1 38 fun st' w' => iv_V call mc_24 rt 138 L (st') w' := iv_V_eq (I := (((272, 3), .putfield 110, 1, 38, 637) : iv_I)) rfl
theorem e24_138 : iv_V call mc_24 rt 138 L st w = iv_lda L 0 fun x => iv_V call mc_24 rt 139 L (x :: st) w := iv_V_eq (I := (((275, 1), .aload_n 0, 0, 0, 0) : iv_I)) rfl
theorem e24_139 : iv_V call mc_24 rt 139 L st w = iv_V call mc_24 rt 140 L (.int 16 :: st) w := (iv_V_eq (I := (((276, 2), .bipush 16, 0, 0, 0) : iv_I)) rfl).trans (congrArg (fun c => iv_V call mc_24 rt 140 L (.int c :: st) w) li_b16)
theorem e24_140 : iv_V call mc_24 rt 140 L st w = iv_p1 st fun n st' => iv_na w 100 (.int 0) n fun v w' => iv_V call mc_24 rt 141 L (v :: st') w' := iv_V_eq (I := (((278, 2), .newarray .int, 100, 0, 78) : iv_I)) rfl
theorem e24_141 : iv_V call mc_24 rt 141 L st w = iv_pf w st 1 40 fun st' w' => iv_V call mc_24 rt 142 L (st') w' := iv_V_eq (I := (((280, 3), .putfield 113, 1, 40, 639) : iv_I)) rfl
theorem e24_142 : iv_V call mc_24 rt 142 L st w = iv_lda L 0 fun x => iv_V call mc_24 rt 143 L (x :: st) w := iv_V_eq (I := (((283, 1), .aload_n 0, 0, 0, 0) : iv_I)) rfl
theorem e24_143 : iv_V call mc_24 rt 143 L st w = iv_V call mc_24 rt 144 L (.int 144 :: st) w := (iv_V_eq (I := (((284, 3), .sipush 144, 0, 0, 0) : iv_I)) rfl).trans (congrArg (fun c => iv_V call mc_24 rt 144 L (.int c :: st) w) li_s144)
theorem e24_144 : iv_V call mc_24 rt 144 L st w = iv_p1 st fun n st' => iv_na w 100 (.int 0) n fun v w' => iv_V call mc_24 rt 145 L (v :: st') w' := iv_V_eq (I := (((287, 2), .newarray .int, 100, 0, 78) : iv_I)) rfl
theorem e24_145 : iv_V call mc_24 rt 145 L st w = iv_pf w st 1 42 fun st' w' => iv_V call mc_24 rt 146 L (st') w' := iv_V_eq (I := (((289, 3), .putfield 116, 1, 42, 641) : iv_I)) rfl
theorem e24_146 : iv_V call mc_24 rt 146 L st w = iv_lda L 0 fun x => iv_V call mc_24 rt 147 L (x :: st) w := iv_V_eq (I := (((292, 1), .aload_n 0, 0, 0, 0) : iv_I)) rfl
theorem e24_147 : iv_V call mc_24 rt 147 L st w = iv_V call mc_24 rt 148 L (.int 24 :: st) w := (iv_V_eq (I := (((293, 2), .bipush 24, 0, 0, 0) : iv_I)) rfl).trans (congrArg (fun c => iv_V call mc_24 rt 148 L (.int c :: st) w) li_b24)
theorem e24_148 : iv_V call mc_24 rt 148 L st w = iv_p1 st fun n st' => iv_na w 100 (.int 0) n fun v w' => iv_V call mc_24 rt 149 L (v :: st') w' := iv_V_eq (I := (((295, 2), .newarray .int, 100, 0, 78) : iv_I)) rfl
theorem e24_149 : iv_V call mc_24 rt 149 L st w = iv_pf w st 1 43 fun st' w' => iv_V call mc_24 rt 150 L (st') w' := iv_V_eq (I := (((297, 3), .putfield 119, 1, 43, 642) : iv_I)) rfl
theorem e24_150 : iv_V call mc_24 rt 150 L st w = iv_lda L 0 fun x => iv_V call mc_24 rt 151 L (x :: st) w := iv_V_eq (I := (((300, 1), .aload_n 0, 0, 0, 0) : iv_I)) rfl
theorem e24_151 : iv_V call mc_24 rt 151 L st w = iv_V call mc_24 rt 152 L (.int 384 :: st) w := (iv_V_eq (I := (((301, 3), .sipush 384, 0, 0, 0) : iv_I)) rfl).trans (congrArg (fun c => iv_V call mc_24 rt 152 L (.int c :: st) w) li_s384)
theorem e24_152 : iv_V call mc_24 rt 152 L st w = iv_p1 st fun n st' => iv_na w 100 (.int 0) n fun v w' => iv_V call mc_24 rt 153 L (v :: st') w' := iv_V_eq (I := (((304, 2), .newarray .int, 100, 0, 78) : iv_I)) rfl
theorem e24_153 : iv_V call mc_24 rt 153 L st w = iv_pf w st 1 44 fun st' w' => iv_V call mc_24 rt 154 L (st') w' := iv_V_eq (I := (((306, 3), .putfield 122, 1, 44, 643) : iv_I)) rfl
theorem e24_154 : iv_V call mc_24 rt 154 L st w = iv_lda L 0 fun x => iv_V call mc_24 rt 155 L (x :: st) w := iv_V_eq (I := (((309, 1), .aload_n 0, 0, 0, 0) : iv_I)) rfl
theorem e24_155 : iv_V call mc_24 rt 155 L st w = iv_V call mc_24 rt 156 L (.int 384 :: st) w := (iv_V_eq (I := (((310, 3), .sipush 384, 0, 0, 0) : iv_I)) rfl).trans (congrArg (fun c => iv_V call mc_24 rt 156 L (.int c :: st) w) li_s384)
theorem e24_156 : iv_V call mc_24 rt 156 L st w = iv_p1 st fun n st' => iv_na w 100 (.int 0) n fun v w' => iv_V call mc_24 rt 157 L (v :: st') w' := iv_V_eq (I := (((313, 2), .newarray .int, 100, 0, 78) : iv_I)) rfl
theorem e24_157 : iv_V call mc_24 rt 157 L st w = iv_pf w st 1 45 fun st' w' => iv_V call mc_24 rt 158 L (st') w' := iv_V_eq (I := (((315, 3), .putfield 125, 1, 45, 644) : iv_I)) rfl
theorem e24_158 : iv_V call mc_24 rt 158 L st w = iv_lda L 0 fun x => iv_V call mc_24 rt 159 L (x :: st) w := iv_V_eq (I := (((318, 1), .aload_n 0, 0, 0, 0) : iv_I)) rfl
theorem e24_159 : iv_V call mc_24 rt 159 L st w = iv_V call mc_24 rt 160 L (.int 128 :: st) w := (iv_V_eq (I := (((319, 3), .sipush 128, 0, 0, 0) : iv_I)) rfl).trans (congrArg (fun c => iv_V call mc_24 rt 160 L (.int c :: st) w) li_s128)
theorem e24_160 : iv_V call mc_24 rt 160 L st w = iv_p1 st fun n st' => iv_na w 100 (.int 0) n fun v w' => iv_V call mc_24 rt 161 L (v :: st') w' := iv_V_eq (I := (((322, 2), .newarray .int, 100, 0, 78) : iv_I)) rfl
theorem e24_161 : iv_V call mc_24 rt 161 L st w = iv_pf w st 1 46 fun st' w' => iv_V call mc_24 rt 162 L (st') w' := iv_V_eq (I := (((324, 3), .putfield 128, 1, 46, 645) : iv_I)) rfl
theorem e24_162 : iv_V call mc_24 rt 162 L st w = iv_rev rt st w := iv_V_eq (I := (((327, 1), .return_, 0, 0, 0) : iv_I)) rfl
theorem e25_0 : iv_V call mc_25 rt 0 L st w = iv_ldi L 0 fun x => iv_V call mc_25 rt 1 L (.int x :: st) w := iv_V_eq (I := (((0, 1), .iload_n 0, 0, 0, 0) : iv_I)) rfl
theorem e25_1 : iv_V call mc_25 rt 1 L st w = iv_ldi L 1 fun x => iv_V call mc_25 rt 2 L (.int x :: st) w := iv_V_eq (I := (((1, 1), .iload_n 1, 0, 0, 0) : iv_I)) rfl
theorem e25_2 : iv_V call mc_25 rt 2 L st w = iv_p2 st fun x y st' => if x < y then iv_V call mc_25 rt 8 L (st') w else iv_V call mc_25 rt 3 L (st') w := (iv_V_eq (I := (((2, 3), .if_icmp .lt 12, 8, 0, 0) : iv_I)) rfl).trans (by simp only [iv_go, iv_cnd, decide_eq_true_eq])
theorem e25_3 : iv_V call mc_25 rt 3 L st w = iv_ldi L 0 fun x => iv_V call mc_25 rt 4 L (.int x :: st) w := iv_V_eq (I := (((5, 1), .iload_n 0, 0, 0, 0) : iv_I)) rfl
theorem e25_4 : iv_V call mc_25 rt 4 L st w = iv_ldi L 2 fun x => iv_V call mc_25 rt 5 L (.int x :: st) w := iv_V_eq (I := (((6, 1), .iload_n 2, 0, 0, 0) : iv_I)) rfl
theorem e25_5 : iv_V call mc_25 rt 5 L st w = iv_p2 st fun x y st' => if y < x then iv_V call mc_25 rt 8 L (st') w else iv_V call mc_25 rt 6 L (st') w := (iv_V_eq (I := (((7, 3), .if_icmp .gt 7, 8, 0, 0) : iv_I)) rfl).trans (by simp only [iv_go, iv_cnd, decide_eq_true_eq])
theorem e25_6 : iv_V call mc_25 rt 6 L st w = iv_V call mc_25 rt 7 L (.int 1 :: st) w := (iv_V_eq (I := (((10, 1), .iconst 1, 0, 0, 0) : iv_I)) rfl).trans (congrArg (fun c => iv_V call mc_25 rt 7 L (.int c :: st) w) li_o1)
theorem e25_7 : iv_V call mc_25 rt 7 L st w = iv_V call mc_25 rt 9 L (st) w := iv_V_eq (I := (((11, 3), .goto 4, 9, 0, 0) : iv_I)) rfl
theorem e25_8 : iv_V call mc_25 rt 8 L st w = iv_V call mc_25 rt 9 L (.int 0 :: st) w := (iv_V_eq (I := (((14, 1), .iconst 0, 0, 0, 0) : iv_I)) rfl).trans (congrArg (fun c => iv_V call mc_25 rt 9 L (.int c :: st) w) li_o0)
theorem e25_9 : iv_V call mc_25 rt 9 L st w = iv_ret rt st w := iv_V_eq (I := (((15, 1), .ireturn, 0, 0, 0) : iv_I)) rfl
theorem e26_0 : iv_V call mc_26 rt 0 L st w = iv_lda L 0 fun x => iv_V call mc_26 rt 1 L (x :: st) w := iv_V_eq (I := (((0, 1), .aload_n 0, 0, 0, 0) : iv_I)) rfl
theorem e26_1 : iv_V call mc_26 rt 1 L st w = iv_gf w st 1 0 fun v st' => iv_V call mc_26 rt 2 L (v :: st') w := iv_V_eq (I := (((1, 3), .getfield 131, 1, 0, 599) : iv_I)) rfl
theorem e26_2 : iv_V call mc_26 rt 2 L st w = iv_V call mc_26 rt 3 L (.int 6 :: st) w := (iv_V_eq (I := (((4, 2), .bipush 6, 0, 0, 0) : iv_I)) rfl).trans (congrArg (fun c => iv_V call mc_26 rt 3 L (.int c :: st) w) li_b6)
theorem e26_3 : iv_V call mc_26 rt 3 L st w = iv_p2 st fun x y st' => if x = y then iv_V call mc_26 rt 12 L (st') w else iv_V call mc_26 rt 4 L (st') w := (iv_V_eq (I := (((6, 3), .if_icmp .eq 17, 12, 0, 0) : iv_I)) rfl).trans (by simp only [iv_go, iv_cnd, decide_eq_true_eq])
theorem e26_4 : iv_V call mc_26 rt 4 L st w = iv_ldi L 1 fun x => iv_V call mc_26 rt 5 L (.int x :: st) w := iv_V_eq (I := (((9, 1), .iload_n 1, 0, 0, 0) : iv_I)) rfl
theorem e26_5 : iv_V call mc_26 rt 5 L st w = iv_V call mc_26 rt 6 L (.int (-1) :: st) w := (iv_V_eq (I := (((10, 1), .iconst (-1), 0, 0, 0) : iv_I)) rfl).trans (congrArg (fun c => iv_V call mc_26 rt 6 L (.int c :: st) w) li_om1)
theorem e26_6 : iv_V call mc_26 rt 6 L st w = iv_lda L 0 fun x => iv_V call mc_26 rt 7 L (x :: st) w := iv_V_eq (I := (((11, 1), .aload_n 0, 0, 0, 0) : iv_I)) rfl
theorem e26_7 : iv_V call mc_26 rt 7 L st w = iv_gf w st 1 0 fun v st' => iv_V call mc_26 rt 8 L (v :: st') w := iv_V_eq (I := (((12, 3), .getfield 131, 1, 0, 599) : iv_I)) rfl
theorem e26_8 : iv_V call mc_26 rt 8 L st w = iv_V call mc_26 rt 9 L (.int 1 :: st) w := (iv_V_eq (I := (((15, 1), .iconst 1, 0, 0, 0) : iv_I)) rfl).trans (congrArg (fun c => iv_V call mc_26 rt 9 L (.int c :: st) w) li_o1)
theorem e26_9 : iv_V call mc_26 rt 9 L st w = iv_p2 st fun x y st' => iv_V call mc_26 rt 10 L (.int (x - y) :: st') w := iv_V_eq (I := (((16, 1), .isub, 0, 0, 0) : iv_I)) rfl
theorem e26_10 : iv_V call mc_26 rt 10 L st w = iv_inv call 25 3 (fun _ => true) st w fun st' w' => iv_V call mc_26 rt 11 L (st') w' := iv_V_eq (I := (((17, 3), .invokestatic 135, 25, 3, 748) : iv_I)) rfl
theorem e26_11 : iv_V call mc_26 rt 11 L st w = iv_p1 st fun x st' => if ¬ x = 0 then iv_V call mc_26 rt 14 L (st') w else iv_V call mc_26 rt 12 L (st') w := (iv_V_eq (I := (((20, 3), .ifCond .ne 5, 14, 0, 0) : iv_I)) rfl).trans (by simp only [iv_go, iv_cnd, decide_eq_true_eq])
theorem e26_12 : iv_V call mc_26 rt 12 L st w = iv_V call mc_26 rt 13 L (.int (-1) :: st) w := (iv_V_eq (I := (((23, 1), .iconst (-1), 0, 0, 0) : iv_I)) rfl).trans (congrArg (fun c => iv_V call mc_26 rt 13 L (.int c :: st) w) li_om1)
theorem e26_13 : iv_V call mc_26 rt 13 L st w = iv_ret rt st w := iv_V_eq (I := (((24, 1), .ireturn, 0, 0, 0) : iv_I)) rfl
theorem e26_14 : iv_V call mc_26 rt 14 L st w = iv_lda L 0 fun x => iv_V call mc_26 rt 15 L (x :: st) w := iv_V_eq (I := (((25, 1), .aload_n 0, 0, 0, 0) : iv_I)) rfl
theorem e26_15 : iv_V call mc_26 rt 15 L st w = iv_gf w st 1 1 fun v st' => iv_V call mc_26 rt 16 L (v :: st') w := iv_V_eq (I := (((26, 3), .getfield 7, 1, 1, 600) : iv_I)) rfl
theorem e26_16 : iv_V call mc_26 rt 16 L st w = iv_lda L 0 fun x => iv_V call mc_26 rt 17 L (x :: st) w := iv_V_eq (I := (((29, 1), .aload_n 0, 0, 0, 0) : iv_I)) rfl
theorem e26_17 : iv_V call mc_26 rt 17 L st w = iv_gf w st 1 0 fun v st' => iv_V call mc_26 rt 18 L (v :: st') w := iv_V_eq (I := (((30, 3), .getfield 131, 1, 0, 599) : iv_I)) rfl
theorem e26_18 : iv_V call mc_26 rt 18 L st w = iv_ldi L 1 fun x => iv_V call mc_26 rt 19 L (.int x :: st) w := iv_V_eq (I := (((33, 1), .iload_n 1, 0, 0, 0) : iv_I)) rfl
theorem e26_19 : iv_V call mc_26 rt 19 L st w = iv_ast w st iv_isI fun st' w' => iv_V call mc_26 rt 20 L (st') w' := iv_V_eq (I := (((34, 1), .iastore, 0, 0, 0) : iv_I)) rfl
theorem e26_20 : iv_V call mc_26 rt 20 L st w = iv_lda L 0 fun x => iv_V call mc_26 rt 21 L (x :: st) w := iv_V_eq (I := (((35, 1), .aload_n 0, 0, 0, 0) : iv_I)) rfl
theorem e26_21 : iv_V call mc_26 rt 21 L st w = iv_d1 st fun a st' => iv_V call mc_26 rt 22 L (a :: a :: st') w := iv_V_eq (I := (((36, 1), .dup, 0, 0, 0) : iv_I)) rfl
theorem e26_22 : iv_V call mc_26 rt 22 L st w = iv_gf w st 1 0 fun v st' => iv_V call mc_26 rt 23 L (v :: st') w := iv_V_eq (I := (((37, 3), .getfield 131, 1, 0, 599) : iv_I)) rfl
theorem e26_23 : iv_V call mc_26 rt 23 L st w = iv_V call mc_26 rt 24 L (.int 1 :: st) w := (iv_V_eq (I := (((40, 1), .iconst 1, 0, 0, 0) : iv_I)) rfl).trans (congrArg (fun c => iv_V call mc_26 rt 24 L (.int c :: st) w) li_o1)
theorem e26_24 : iv_V call mc_26 rt 24 L st w = iv_p2 st fun x y st' => iv_V call mc_26 rt 25 L (.int (x + y) :: st') w := iv_V_eq (I := (((41, 1), .iadd, 0, 0, 0) : iv_I)) rfl
theorem e26_25 : iv_V call mc_26 rt 25 L st w = iv_pf w st 1 0 fun st' w' => iv_V call mc_26 rt 26 L (st') w' := iv_V_eq (I := (((42, 3), .putfield 131, 1, 0, 599) : iv_I)) rfl
theorem e26_26 : iv_V call mc_26 rt 26 L st w = iv_lda L 0 fun x => iv_V call mc_26 rt 27 L (x :: st) w := iv_V_eq (I := (((45, 1), .aload_n 0, 0, 0, 0) : iv_I)) rfl
theorem e26_27 : iv_V call mc_26 rt 27 L st w = iv_gf w st 1 0 fun v st' => iv_V call mc_26 rt 28 L (v :: st') w := iv_V_eq (I := (((46, 3), .getfield 131, 1, 0, 599) : iv_I)) rfl
theorem e26_28 : iv_V call mc_26 rt 28 L st w = iv_V call mc_26 rt 29 L (.int 1 :: st) w := (iv_V_eq (I := (((49, 1), .iconst 1, 0, 0, 0) : iv_I)) rfl).trans (congrArg (fun c => iv_V call mc_26 rt 29 L (.int c :: st) w) li_o1)
theorem e26_29 : iv_V call mc_26 rt 29 L st w = iv_p2 st fun x y st' => iv_V call mc_26 rt 30 L (.int (x - y) :: st') w := iv_V_eq (I := (((50, 1), .isub, 0, 0, 0) : iv_I)) rfl
theorem e26_30 : iv_V call mc_26 rt 30 L st w = iv_ret rt st w := iv_V_eq (I := (((51, 1), .ireturn, 0, 0, 0) : iv_I)) rfl
theorem e27_0 : iv_V call mc_27 rt 0 L st w = iv_lda L 0 fun x => iv_V call mc_27 rt 1 L (x :: st) w := iv_V_eq (I := (((0, 1), .aload_n 0, 0, 0, 0) : iv_I)) rfl
theorem e27_1 : iv_V call mc_27 rt 1 L st w = iv_gf w st 1 2 fun v st' => iv_V call mc_27 rt 2 L (v :: st') w := iv_V_eq (I := (((1, 3), .getfield 139, 1, 2, 601) : iv_I)) rfl
theorem e27_2 : iv_V call mc_27 rt 2 L st w = iv_V call mc_27 rt 3 L (.int 14 :: st) w := (iv_V_eq (I := (((4, 2), .bipush 14, 0, 0, 0) : iv_I)) rfl).trans (congrArg (fun c => iv_V call mc_27 rt 3 L (.int c :: st) w) li_b14)
theorem e27_3 : iv_V call mc_27 rt 3 L st w = iv_p2 st fun x y st' => if x = y then iv_V call mc_27 rt 17 L (st') w else iv_V call mc_27 rt 4 L (st') w := (iv_V_eq (I := (((6, 3), .if_icmp .eq 26, 17, 0, 0) : iv_I)) rfl).trans (by simp only [iv_go, iv_cnd, decide_eq_true_eq])
theorem e27_4 : iv_V call mc_27 rt 4 L st w = iv_ldi L 1 fun x => iv_V call mc_27 rt 5 L (.int x :: st) w := iv_V_eq (I := (((9, 1), .iload_n 1, 0, 0, 0) : iv_I)) rfl
theorem e27_5 : iv_V call mc_27 rt 5 L st w = iv_V call mc_27 rt 6 L (.int 0 :: st) w := (iv_V_eq (I := (((10, 1), .iconst 0, 0, 0, 0) : iv_I)) rfl).trans (congrArg (fun c => iv_V call mc_27 rt 6 L (.int c :: st) w) li_o0)
theorem e27_6 : iv_V call mc_27 rt 6 L st w = iv_lda L 0 fun x => iv_V call mc_27 rt 7 L (x :: st) w := iv_V_eq (I := (((11, 1), .aload_n 0, 0, 0, 0) : iv_I)) rfl
theorem e27_7 : iv_V call mc_27 rt 7 L st w = iv_gf w st 1 0 fun v st' => iv_V call mc_27 rt 8 L (v :: st') w := iv_V_eq (I := (((12, 3), .getfield 131, 1, 0, 599) : iv_I)) rfl
theorem e27_8 : iv_V call mc_27 rt 8 L st w = iv_V call mc_27 rt 9 L (.int 1 :: st) w := (iv_V_eq (I := (((15, 1), .iconst 1, 0, 0, 0) : iv_I)) rfl).trans (congrArg (fun c => iv_V call mc_27 rt 9 L (.int c :: st) w) li_o1)
theorem e27_9 : iv_V call mc_27 rt 9 L st w = iv_p2 st fun x y st' => iv_V call mc_27 rt 10 L (.int (x - y) :: st') w := iv_V_eq (I := (((16, 1), .isub, 0, 0, 0) : iv_I)) rfl
theorem e27_10 : iv_V call mc_27 rt 10 L st w = iv_inv call 25 3 (fun _ => true) st w fun st' w' => iv_V call mc_27 rt 11 L (st') w' := iv_V_eq (I := (((17, 3), .invokestatic 135, 25, 3, 748) : iv_I)) rfl
theorem e27_11 : iv_V call mc_27 rt 11 L st w = iv_p1 st fun x st' => if x = 0 then iv_V call mc_27 rt 17 L (st') w else iv_V call mc_27 rt 12 L (st') w := (iv_V_eq (I := (((20, 3), .ifCond .eq 12, 17, 0, 0) : iv_I)) rfl).trans (by simp only [iv_go, iv_cnd, decide_eq_true_eq])
theorem e27_12 : iv_V call mc_27 rt 12 L st w = iv_ldi L 2 fun x => iv_V call mc_27 rt 13 L (.int x :: st) w := iv_V_eq (I := (((23, 1), .iload_n 2, 0, 0, 0) : iv_I)) rfl
theorem e27_13 : iv_V call mc_27 rt 13 L st w = iv_V call mc_27 rt 14 L (.int 0 :: st) w := (iv_V_eq (I := (((24, 1), .iconst 0, 0, 0, 0) : iv_I)) rfl).trans (congrArg (fun c => iv_V call mc_27 rt 14 L (.int c :: st) w) li_o0)
theorem e27_14 : iv_V call mc_27 rt 14 L st w = iv_V call mc_27 rt 15 L (.int 3 :: st) w := (iv_V_eq (I := (((25, 1), .iconst 3, 0, 0, 0) : iv_I)) rfl).trans (congrArg (fun c => iv_V call mc_27 rt 15 L (.int c :: st) w) li_o3)
theorem e27_15 : iv_V call mc_27 rt 15 L st w = iv_inv call 25 3 (fun _ => true) st w fun st' w' => iv_V call mc_27 rt 16 L (st') w' := iv_V_eq (I := (((26, 3), .invokestatic 135, 25, 3, 748) : iv_I)) rfl
theorem e27_16 : iv_V call mc_27 rt 16 L st w = iv_p1 st fun x st' => if ¬ x = 0 then iv_V call mc_27 rt 19 L (st') w else iv_V call mc_27 rt 17 L (st') w := (iv_V_eq (I := (((29, 3), .ifCond .ne 5, 19, 0, 0) : iv_I)) rfl).trans (by simp only [iv_go, iv_cnd, decide_eq_true_eq])
theorem e27_17 : iv_V call mc_27 rt 17 L st w = iv_V call mc_27 rt 18 L (.int (-1) :: st) w := (iv_V_eq (I := (((32, 1), .iconst (-1), 0, 0, 0) : iv_I)) rfl).trans (congrArg (fun c => iv_V call mc_27 rt 18 L (.int c :: st) w) li_om1)
theorem e27_18 : iv_V call mc_27 rt 18 L st w = iv_ret rt st w := iv_V_eq (I := (((33, 1), .ireturn, 0, 0, 0) : iv_I)) rfl
theorem e27_19 : iv_V call mc_27 rt 19 L st w = iv_lda L 0 fun x => iv_V call mc_27 rt 20 L (x :: st) w := iv_V_eq (I := (((34, 1), .aload_n 0, 0, 0, 0) : iv_I)) rfl
theorem e27_20 : iv_V call mc_27 rt 20 L st w = iv_gf w st 1 3 fun v st' => iv_V call mc_27 rt 21 L (v :: st') w := iv_V_eq (I := (((35, 3), .getfield 13, 1, 3, 602) : iv_I)) rfl
theorem e27_21 : iv_V call mc_27 rt 21 L st w = iv_lda L 0 fun x => iv_V call mc_27 rt 22 L (x :: st) w := iv_V_eq (I := (((38, 1), .aload_n 0, 0, 0, 0) : iv_I)) rfl
theorem e27_22 : iv_V call mc_27 rt 22 L st w = iv_gf w st 1 2 fun v st' => iv_V call mc_27 rt 23 L (v :: st') w := iv_V_eq (I := (((39, 3), .getfield 139, 1, 2, 601) : iv_I)) rfl
theorem e27_23 : iv_V call mc_27 rt 23 L st w = iv_ldi L 1 fun x => iv_V call mc_27 rt 24 L (.int x :: st) w := iv_V_eq (I := (((42, 1), .iload_n 1, 0, 0, 0) : iv_I)) rfl
theorem e27_24 : iv_V call mc_27 rt 24 L st w = iv_ast w st iv_isI fun st' w' => iv_V call mc_27 rt 25 L (st') w' := iv_V_eq (I := (((43, 1), .iastore, 0, 0, 0) : iv_I)) rfl
theorem e27_25 : iv_V call mc_27 rt 25 L st w = iv_lda L 0 fun x => iv_V call mc_27 rt 26 L (x :: st) w := iv_V_eq (I := (((44, 1), .aload_n 0, 0, 0, 0) : iv_I)) rfl
theorem e27_26 : iv_V call mc_27 rt 26 L st w = iv_gf w st 1 4 fun v st' => iv_V call mc_27 rt 27 L (v :: st') w := iv_V_eq (I := (((45, 3), .getfield 16, 1, 4, 603) : iv_I)) rfl
theorem e27_27 : iv_V call mc_27 rt 27 L st w = iv_lda L 0 fun x => iv_V call mc_27 rt 28 L (x :: st) w := iv_V_eq (I := (((48, 1), .aload_n 0, 0, 0, 0) : iv_I)) rfl
theorem e27_28 : iv_V call mc_27 rt 28 L st w = iv_gf w st 1 2 fun v st' => iv_V call mc_27 rt 29 L (v :: st') w := iv_V_eq (I := (((49, 3), .getfield 139, 1, 2, 601) : iv_I)) rfl
theorem e27_29 : iv_V call mc_27 rt 29 L st w = iv_ldi L 2 fun x => iv_V call mc_27 rt 30 L (.int x :: st) w := iv_V_eq (I := (((52, 1), .iload_n 2, 0, 0, 0) : iv_I)) rfl
theorem e27_30 : iv_V call mc_27 rt 30 L st w = iv_ast w st iv_isI fun st' w' => iv_V call mc_27 rt 31 L (st') w' := iv_V_eq (I := (((53, 1), .iastore, 0, 0, 0) : iv_I)) rfl
theorem e27_31 : iv_V call mc_27 rt 31 L st w = iv_lda L 0 fun x => iv_V call mc_27 rt 32 L (x :: st) w := iv_V_eq (I := (((54, 1), .aload_n 0, 0, 0, 0) : iv_I)) rfl
theorem e27_32 : iv_V call mc_27 rt 32 L st w = iv_d1 st fun a st' => iv_V call mc_27 rt 33 L (a :: a :: st') w := iv_V_eq (I := (((55, 1), .dup, 0, 0, 0) : iv_I)) rfl
theorem e27_33 : iv_V call mc_27 rt 33 L st w = iv_gf w st 1 2 fun v st' => iv_V call mc_27 rt 34 L (v :: st') w := iv_V_eq (I := (((56, 3), .getfield 139, 1, 2, 601) : iv_I)) rfl
theorem e27_34 : iv_V call mc_27 rt 34 L st w = iv_V call mc_27 rt 35 L (.int 1 :: st) w := (iv_V_eq (I := (((59, 1), .iconst 1, 0, 0, 0) : iv_I)) rfl).trans (congrArg (fun c => iv_V call mc_27 rt 35 L (.int c :: st) w) li_o1)
theorem e27_35 : iv_V call mc_27 rt 35 L st w = iv_p2 st fun x y st' => iv_V call mc_27 rt 36 L (.int (x + y) :: st') w := iv_V_eq (I := (((60, 1), .iadd, 0, 0, 0) : iv_I)) rfl
theorem e27_36 : iv_V call mc_27 rt 36 L st w = iv_pf w st 1 2 fun st' w' => iv_V call mc_27 rt 37 L (st') w' := iv_V_eq (I := (((61, 3), .putfield 139, 1, 2, 601) : iv_I)) rfl
theorem e27_37 : iv_V call mc_27 rt 37 L st w = iv_lda L 0 fun x => iv_V call mc_27 rt 38 L (x :: st) w := iv_V_eq (I := (((64, 1), .aload_n 0, 0, 0, 0) : iv_I)) rfl
theorem e27_38 : iv_V call mc_27 rt 38 L st w = iv_gf w st 1 2 fun v st' => iv_V call mc_27 rt 39 L (v :: st') w := iv_V_eq (I := (((65, 3), .getfield 139, 1, 2, 601) : iv_I)) rfl
theorem e27_39 : iv_V call mc_27 rt 39 L st w = iv_V call mc_27 rt 40 L (.int 1 :: st) w := (iv_V_eq (I := (((68, 1), .iconst 1, 0, 0, 0) : iv_I)) rfl).trans (congrArg (fun c => iv_V call mc_27 rt 40 L (.int c :: st) w) li_o1)
theorem e27_40 : iv_V call mc_27 rt 40 L st w = iv_p2 st fun x y st' => iv_V call mc_27 rt 41 L (.int (x - y) :: st') w := iv_V_eq (I := (((69, 1), .isub, 0, 0, 0) : iv_I)) rfl
theorem e27_41 : iv_V call mc_27 rt 41 L st w = iv_ret rt st w := iv_V_eq (I := (((70, 1), .ireturn, 0, 0, 0) : iv_I)) rfl
end IVS1
