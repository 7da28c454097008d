/-! what each row does -/
section IVS5
variable {call : Nat → List Value → iv_S → iv_R} {rt : Option FieldType} {L st : List Value} {w : iv_S}
theorem e75_0 : iv_V call mc_75 rt 0 L st w = iv_lda L 0 fun x => iv_V call mc_75 rt 1 L (x :: st) w := iv_V_eq (I := (((0, 1), .aload_n 0, 0, 0, 0) : iv_I)) rfl
theorem e75_1 : iv_V call mc_75 rt 1 L st w = iv_oi st fun st' => iv_V call mc_75 rt 2 L (st') w := iv_V_eq (I := (((1, 3), .invokespecial 1, 0, 1, 130) : iv_I)) rfl
theorem e75_2 : iv_V call mc_75 rt 2 L st w = iv_lda L 0 fun x => iv_V call mc_75 rt 3 L (x :: st) w := iv_V_eq (I := (((4, 1), .aload_n 0, 0, 0, 0) : iv_I)) rfl
theorem e75_3 : iv_V call mc_75 rt 3 L st w = iv_ldi L 1 fun x => iv_V call mc_75 rt 4 L (.int x :: st) w := iv_V_eq (I := (((5, 1), .iload_n 1, 0, 0, 0) : iv_I)) rfl
theorem e75_4 : iv_V call mc_75 rt 4 L st w = iv_p1 st fun n st' => iv_na w 105 .null n fun v w' => iv_V call mc_75 rt 5 L (v :: st') w' := iv_V_eq (I := (((6, 3), .anewarray 7, 105, 0, 131) : iv_I)) rfl
theorem e75_5 : iv_V call mc_75 rt 5 L st w = iv_pf w st 3 0 fun st' w' => iv_V call mc_75 rt 6 L (st') w' := iv_V_eq (I := (((9, 3), .putfield 9, 3, 0, 133) : iv_I)) rfl
theorem e75_6 : iv_V call mc_75 rt 6 L st w = iv_lda L 0 fun x => iv_V call mc_75 rt 7 L (x :: st) w := iv_V_eq (I := (((12, 1), .aload_n 0, 0, 0, 0) : iv_I)) rfl
theorem e75_7 : iv_V call mc_75 rt 7 L st w = iv_V call mc_75 rt 8 L (.int 0 :: st) w := (iv_V_eq (I := (((13, 1), .iconst 0, 0, 0, 0) : iv_I)) rfl).trans (congrArg (fun c => iv_V call mc_75 rt 8 L (.int c :: st) w) li_o0)
theorem e75_8 : iv_V call mc_75 rt 8 L st w = iv_pf w st 3 1 fun st' w' => iv_V call mc_75 rt 9 L (st') w' := iv_V_eq (I := (((14, 3), .putfield 15, 3, 1, 135) : iv_I)) rfl
theorem e75_9 : iv_V call mc_75 rt 9 L st w = iv_lda L 0 fun x => iv_V call mc_75 rt 10 L (x :: st) w := iv_V_eq (I := (((17, 1), .aload_n 0, 0, 0, 0) : iv_I)) rfl
theorem e75_10 : iv_V call mc_75 rt 10 L st w = iv_V call mc_75 rt 11 L (.int 0 :: st) w := (iv_V_eq (I := (((18, 1), .iconst 0, 0, 0, 0) : iv_I)) rfl).trans (congrArg (fun c => iv_V call mc_75 rt 11 L (.int c :: st) w) li_o0)
theorem e75_11 : iv_V call mc_75 rt 11 L st w = iv_pf w st 3 2 fun st' w' => iv_V call mc_75 rt 12 L (st') w' := iv_V_eq (I := (((19, 3), .putfield 19, 3, 2, 137) : iv_I)) rfl
theorem e75_12 : iv_V call mc_75 rt 12 L st w = iv_rev rt st w := iv_V_eq (I := (((22, 1), .return_, 0, 0, 0) : iv_I)) rfl
theorem e76_0 : iv_V call mc_76 rt 0 L st w = iv_lda L 0 fun x => iv_V call mc_76 rt 1 L (x :: st) w := iv_V_eq (I := (((0, 1), .aload_n 0, 0, 0, 0) : iv_I)) rfl
theorem e76_1 : iv_V call mc_76 rt 1 L st w = iv_gf w st 3 1 fun v st' => iv_V call mc_76 rt 2 L (v :: st') w := iv_V_eq (I := (((1, 3), .getfield 15, 3, 1, 135) : iv_I)) rfl
theorem e76_2 : iv_V call mc_76 rt 2 L st w = iv_lda L 0 fun x => iv_V call mc_76 rt 3 L (x :: st) w := iv_V_eq (I := (((4, 1), .aload_n 0, 0, 0, 0) : iv_I)) rfl
theorem e76_3 : iv_V call mc_76 rt 3 L st w = iv_gf w st 3 0 fun v st' => iv_V call mc_76 rt 4 L (v :: st') w := iv_V_eq (I := (((5, 3), .getfield 9, 3, 0, 133) : iv_I)) rfl
theorem e76_4 : iv_V call mc_76 rt 4 L st w = iv_len w st fun x st' => iv_V call mc_76 rt 5 L (.int x :: st') w := iv_V_eq (I := (((8, 1), .arraylength, 0, 0, 0) : iv_I)) rfl
theorem e76_5 : iv_V call mc_76 rt 5 L st w = iv_p2 st fun x y st' => if x < y then iv_V call mc_76 rt 8 L (st') w else iv_V call mc_76 rt 6 L (st') w := (iv_V_eq (I := (((9, 3), .if_icmp .lt 5, 8, 0, 0) : iv_I)) rfl).trans (by simp only [iv_go, iv_cnd, decide_eq_true_eq])
theorem e76_6 : iv_V call mc_76 rt 6 L st w = iv_V call mc_76 rt 7 L (.int 0 :: st) w := (iv_V_eq (I := (((12, 1), .iconst 0, 0, 0, 0) : iv_I)) rfl).trans (congrArg (fun c => iv_V call mc_76 rt 7 L (.int c :: st) w) li_o0)
theorem e76_7 : iv_V call mc_76 rt 7 L st w = iv_ret rt st w := iv_V_eq (I := (((13, 1), .ireturn, 0, 0, 0) : iv_I)) rfl
theorem e76_8 : iv_V call mc_76 rt 8 L st w = iv_lda L 0 fun x => iv_V call mc_76 rt 9 L (x :: st) w := iv_V_eq (I := (((14, 1), .aload_n 0, 0, 0, 0) : iv_I)) rfl
theorem e76_9 : iv_V call mc_76 rt 9 L st w = iv_gf w st 3 0 fun v st' => iv_V call mc_76 rt 10 L (v :: st') w := iv_V_eq (I := (((15, 3), .getfield 9, 3, 0, 133) : iv_I)) rfl
theorem e76_10 : iv_V call mc_76 rt 10 L st w = iv_lda L 0 fun x => iv_V call mc_76 rt 11 L (x :: st) w := iv_V_eq (I := (((18, 1), .aload_n 0, 0, 0, 0) : iv_I)) rfl
theorem e76_11 : iv_V call mc_76 rt 11 L st w = iv_gf w st 3 1 fun v st' => iv_V call mc_76 rt 12 L (v :: st') w := iv_V_eq (I := (((19, 3), .getfield 15, 3, 1, 135) : iv_I)) rfl
theorem e76_12 : iv_V call mc_76 rt 12 L st w = iv_nw w 4 fun v w' => iv_V call mc_76 rt 13 L (v :: st) w' := iv_V_eq (I := (((22, 3), .new 7, 4, 0, 131) : iv_I)) rfl
theorem e76_13 : iv_V call mc_76 rt 13 L st w = iv_d1 st fun a st' => iv_V call mc_76 rt 14 L (a :: a :: st') w := iv_V_eq (I := (((25, 1), .dup, 0, 0, 0) : iv_I)) rfl
theorem e76_14 : iv_V call mc_76 rt 14 L st w = iv_ldi L 1 fun x => iv_V call mc_76 rt 15 L (.int x :: st) w := iv_V_eq (I := (((26, 1), .iload_n 1, 0, 0, 0) : iv_I)) rfl
theorem e76_15 : iv_V call mc_76 rt 15 L st w = iv_ldi L 2 fun x => iv_V call mc_76 rt 16 L (.int x :: st) w := iv_V_eq (I := (((27, 1), .iload_n 2, 0, 0, 0) : iv_I)) rfl
theorem e76_16 : iv_V call mc_76 rt 16 L st w = iv_ldi L 3 fun x => iv_V call mc_76 rt 17 L (.int x :: st) w := iv_V_eq (I := (((28, 1), .iload_n 3, 0, 0, 0) : iv_I)) rfl
theorem e76_17 : iv_V call mc_76 rt 17 L st w = iv_inv call 78 4 iv_isr st w fun st' w' => iv_V call mc_76 rt 18 L (st') w' := iv_V_eq (I := (((29, 3), .invokespecial 23, 78, 4, 340) : iv_I)) rfl
theorem e76_18 : iv_V call mc_76 rt 18 L st w = iv_ust w st fun st' w' => iv_V call mc_76 rt 19 L (st') w' := iv_V_eq (I := (((32, 1), .aastore, 0, 0, 0) : iv_I)) rfl
theorem e76_19 : iv_V call mc_76 rt 19 L st w = iv_lda L 0 fun x => iv_V call mc_76 rt 20 L (x :: st) w := iv_V_eq (I := (((33, 1), .aload_n 0, 0, 0, 0) : iv_I)) rfl
theorem e76_20 : iv_V call mc_76 rt 20 L st w = iv_d1 st fun a st' => iv_V call mc_76 rt 21 L (a :: a :: st') w := iv_V_eq (I := (((34, 1), .dup, 0, 0, 0) : iv_I)) rfl
theorem e76_21 : iv_V call mc_76 rt 21 L st w = iv_gf w st 3 1 fun v st' => iv_V call mc_76 rt 22 L (v :: st') w := iv_V_eq (I := (((35, 3), .getfield 15, 3, 1, 135) : iv_I)) rfl
theorem e76_22 : iv_V call mc_76 rt 22 L st w = iv_V call mc_76 rt 23 L (.int 1 :: st) w := (iv_V_eq (I := (((38, 1), .iconst 1, 0, 0, 0) : iv_I)) rfl).trans (congrArg (fun c => iv_V call mc_76 rt 23 L (.int c :: st) w) li_o1)
theorem e76_23 : iv_V call mc_76 rt 23 L st w = iv_p2 st fun x y st' => iv_V call mc_76 rt 24 L (.int (x + y) :: st') w := iv_V_eq (I := (((39, 1), .iadd, 0, 0, 0) : iv_I)) rfl
theorem e76_24 : iv_V call mc_76 rt 24 L st w = iv_pf w st 3 1 fun st' w' => iv_V call mc_76 rt 25 L (st') w' := iv_V_eq (I := (((40, 3), .putfield 15, 3, 1, 135) : iv_I)) rfl
theorem e76_25 : iv_V call mc_76 rt 25 L st w = iv_V call mc_76 rt 26 L (.int 1 :: st) w := (iv_V_eq (I := (((43, 1), .iconst 1, 0, 0, 0) : iv_I)) rfl).trans (congrArg (fun c => iv_V call mc_76 rt 26 L (.int c :: st) w) li_o1)
theorem e76_26 : iv_V call mc_76 rt 26 L st w = iv_ret rt st w := iv_V_eq (I := (((44, 1), .ireturn, 0, 0, 0) : iv_I)) rfl
theorem e77_0 : iv_V call mc_77 rt 0 L st w = iv_V call mc_77 rt 1 L (.int 0 :: st) w := (iv_V_eq (I := (((0, 1), .iconst 0, 0, 0, 0) : iv_I)) rfl).trans (congrArg (fun c => iv_V call mc_77 rt 1 L (.int c :: st) w) li_o0)
theorem e77_1 : iv_V call mc_77 rt 1 L st w = iv_p1 st fun x st' => iv_sto L 3 (.int x) fun L' => iv_V call mc_77 rt 2 L' (st') w := iv_V_eq (I := (((1, 1), .istore_n 3, 0, 0, 0) : iv_I)) rfl
theorem e77_2 : iv_V call mc_77 rt 2 L st w = iv_ldi L 3 fun x => iv_V call mc_77 rt 3 L (.int x :: st) w := iv_V_eq (I := (((2, 1), .iload_n 3, 0, 0, 0) : iv_I)) rfl
theorem e77_3 : iv_V call mc_77 rt 3 L st w = iv_lda L 0 fun x => iv_V call mc_77 rt 4 L (x :: st) w := iv_V_eq (I := (((3, 1), .aload_n 0, 0, 0, 0) : iv_I)) rfl
theorem e77_4 : iv_V call mc_77 rt 4 L st w = iv_gf w st 3 1 fun v st' => iv_V call mc_77 rt 5 L (v :: st') w := iv_V_eq (I := (((4, 3), .getfield 15, 3, 1, 135) : iv_I)) rfl
theorem e77_5 : iv_V call mc_77 rt 5 L st w = iv_p2 st fun x y st' => if y ≤ x then iv_V call mc_77 rt 18 L (st') w else iv_V call mc_77 rt 6 L (st') w := (iv_V_eq (I := (((7, 3), .if_icmp .ge 25, 18, 0, 0) : iv_I)) rfl).trans (by simp only [iv_go, iv_cnd, decide_eq_true_eq])
theorem e77_6 : iv_V call mc_77 rt 6 L st w = iv_lda L 0 fun x => iv_V call mc_77 rt 7 L (x :: st) w := iv_V_eq (I := (((10, 1), .aload_n 0, 0, 0, 0) : iv_I)) rfl
theorem e77_7 : iv_V call mc_77 rt 7 L st w = iv_gf w st 3 0 fun v st' => iv_V call mc_77 rt 8 L (v :: st') w := iv_V_eq (I := (((11, 3), .getfield 9, 3, 0, 133) : iv_I)) rfl
theorem e77_8 : iv_V call mc_77 rt 8 L st w = iv_ldi L 3 fun x => iv_V call mc_77 rt 9 L (.int x :: st) w := iv_V_eq (I := (((14, 1), .iload_n 3, 0, 0, 0) : iv_I)) rfl
theorem e77_9 : iv_V call mc_77 rt 9 L st w = iv_ald w st iv_isA fun v st' => iv_V call mc_77 rt 10 L (v :: st') w := iv_V_eq (I := (((15, 1), .aaload, 0, 0, 0) : iv_I)) rfl
theorem e77_10 : iv_V call mc_77 rt 10 L st w = iv_ldi L 1 fun x => iv_V call mc_77 rt 11 L (.int x :: st) w := iv_V_eq (I := (((16, 1), .iload_n 1, 0, 0, 0) : iv_I)) rfl
theorem e77_11 : iv_V call mc_77 rt 11 L st w = iv_ldi L 2 fun x => iv_V call mc_77 rt 12 L (.int x :: st) w := iv_V_eq (I := (((17, 1), .iload_n 2, 0, 0, 0) : iv_I)) rfl
theorem e77_12 : iv_V call mc_77 rt 12 L st w = iv_inv call 79 3 (fun as => iv_rc w as (iv_mc 79)) st w fun st' w' => iv_V call mc_77 rt 13 L (st') w' := iv_V_eq (I := (((18, 3), .invokevirtual 26, 79, 3, 517) : iv_I)) rfl
theorem e77_13 : iv_V call mc_77 rt 13 L st w = iv_p1 st fun x st' => if ¬ x = 0 then iv_V call mc_77 rt 16 L (st') w else iv_V call mc_77 rt 14 L (st') w := (iv_V_eq (I := (((21, 3), .ifCond .ne 5, 16, 0, 0) : iv_I)) rfl).trans (by simp only [iv_go, iv_cnd, decide_eq_true_eq])
theorem e77_14 : iv_V call mc_77 rt 14 L st w = iv_V call mc_77 rt 15 L (.int 0 :: st) w := (iv_V_eq (I := (((24, 1), .iconst 0, 0, 0, 0) : iv_I)) rfl).trans (congrArg (fun c => iv_V call mc_77 rt 15 L (.int c :: st) w) li_o0)
theorem e77_15 : iv_V call mc_77 rt 15 L st w = iv_ret rt st w := iv_V_eq (I := (((25, 1), .ireturn, 0, 0, 0) : iv_I)) rfl
theorem e77_16 : iv_V call mc_77 rt 16 L st w = iv_ldi L 3 fun x => iv_sto L 3 (.int (x + 1)) fun L' => iv_V call mc_77 rt 17 L' (st) w := (iv_V_eq (I := (((26, 3), .iinc 3 1, 0, 0, 0) : iv_I)) rfl).trans (congrArg (fun c => iv_ldi L 3 fun x => iv_sto L 3 (.int (x + c)) fun L' => iv_V call mc_77 rt 17 L' (st) w) li_o1)
theorem e77_17 : iv_V call mc_77 rt 17 L st w = iv_V call mc_77 rt 2 L (st) w := iv_V_eq (I := (((29, 3), .goto (-27), 2, 0, 0) : iv_I)) rfl
theorem e77_18 : iv_V call mc_77 rt 18 L st w = iv_V call mc_77 rt 19 L (.int 1 :: st) w := (iv_V_eq (I := (((32, 1), .iconst 1, 0, 0, 0) : iv_I)) rfl).trans (congrArg (fun c => iv_V call mc_77 rt 19 L (.int c :: st) w) li_o1)
theorem e77_19 : iv_V call mc_77 rt 19 L st w = iv_ret rt st w := iv_V_eq (I := (((33, 1), .ireturn, 0, 0, 0) : iv_I)) rfl
theorem e78_0 : iv_V call mc_78 rt 0 L st w = iv_lda L 0 fun x => iv_V call mc_78 rt 1 L (x :: st) w := iv_V_eq (I := (((0, 1), .aload_n 0, 0, 0, 0) : iv_I)) rfl
theorem e78_1 : iv_V call mc_78 rt 1 L st w = iv_oi st fun st' => iv_V call mc_78 rt 2 L (st') w := iv_V_eq (I := (((1, 3), .invokespecial 3, 0, 1, 343) : iv_I)) rfl
theorem e78_2 : iv_V call mc_78 rt 2 L st w = iv_lda L 0 fun x => iv_V call mc_78 rt 3 L (x :: st) w := iv_V_eq (I := (((4, 1), .aload_n 0, 0, 0, 0) : iv_I)) rfl
theorem e78_3 : iv_V call mc_78 rt 3 L st w = iv_ldi L 1 fun x => iv_V call mc_78 rt 4 L (.int x :: st) w := iv_V_eq (I := (((5, 1), .iload_n 1, 0, 0, 0) : iv_I)) rfl
theorem e78_4 : iv_V call mc_78 rt 4 L st w = iv_pf w st 4 0 fun st' w' => iv_V call mc_78 rt 5 L (st') w' := iv_V_eq (I := (((6, 3), .putfield 9, 4, 0, 344) : iv_I)) rfl
theorem e78_5 : iv_V call mc_78 rt 5 L st w = iv_lda L 0 fun x => iv_V call mc_78 rt 6 L (x :: st) w := iv_V_eq (I := (((9, 1), .aload_n 0, 0, 0, 0) : iv_I)) rfl
theorem e78_6 : iv_V call mc_78 rt 6 L st w = iv_ldi L 2 fun x => iv_V call mc_78 rt 7 L (.int x :: st) w := iv_V_eq (I := (((10, 1), .iload_n 2, 0, 0, 0) : iv_I)) rfl
theorem e78_7 : iv_V call mc_78 rt 7 L st w = iv_pf w st 4 1 fun st' w' => iv_V call mc_78 rt 8 L (st') w' := iv_V_eq (I := (((11, 3), .putfield 15, 4, 1, 345) : iv_I)) rfl
theorem e78_8 : iv_V call mc_78 rt 8 L st w = iv_lda L 0 fun x => iv_V call mc_78 rt 9 L (x :: st) w := iv_V_eq (I := (((14, 1), .aload_n 0, 0, 0, 0) : iv_I)) rfl
theorem e78_9 : iv_V call mc_78 rt 9 L st w = iv_ldi L 3 fun x => iv_V call mc_78 rt 10 L (.int x :: st) w := iv_V_eq (I := (((15, 1), .iload_n 3, 0, 0, 0) : iv_I)) rfl
theorem e78_10 : iv_V call mc_78 rt 10 L st w = iv_pf w st 4 2 fun st' w' => iv_V call mc_78 rt 11 L (st') w' := iv_V_eq (I := (((16, 3), .putfield 18, 4, 2, 346) : iv_I)) rfl
theorem e78_11 : iv_V call mc_78 rt 11 L st w = iv_rev rt st w := iv_V_eq (I := (((19, 1), .return_, 0, 0, 0) : iv_I)) rfl
theorem e79_0 : iv_V call mc_79 rt 0 L st w = iv_lda L 0 fun x => iv_V call mc_79 rt 1 L (x :: st) w := iv_V_eq (I := (((0, 1), .aload_n 0, 0, 0, 0) : iv_I)) rfl
theorem e79_1 : iv_V call mc_79 rt 1 L st w = iv_gf w st 4 0 fun v st' => iv_V call mc_79 rt 2 L (v :: st') w := iv_V_eq (I := (((1, 3), .getfield 9, 4, 0, 344) : iv_I)) rfl
theorem sw79_2_28 {q : Nat → iv_R} : iv_sw mc_79 ((4 : Nat) + (28 : Int)) q = q 3 := by
  unfold iv_sw
  rw [show mc_79.findIdx? (fun J => decide ((J.1.1 : Int) = ((4 : Nat) : Int) + (28 : Int))) = some 3 by decide +kernel]
theorem sw79_2_55 {q : Nat → iv_R} : iv_sw mc_79 ((4 : Nat) + (55 : Int)) q = q 18 := by
  unfold iv_sw
  rw [show mc_79.findIdx? (fun J => decide ((J.1.1 : Int) = ((4 : Nat) : Int) + (55 : Int))) = some 18 by decide +kernel]
theorem sw79_2_74 {q : Nat → iv_R} : iv_sw mc_79 ((4 : Nat) + (74 : Int)) q = q 29 := by
  unfold iv_sw
  rw [show mc_79.findIdx? (fun J => decide ((J.1.1 : Int) = ((4 : Nat) : Int) + (74 : Int))) = some 29 by decide +kernel]
theorem e79_2 : iv_V call mc_79 rt 2 L st w = iv_p1 st fun x st' => if x = 0 then iv_V call mc_79 rt 3 L (st') w else if x = 1 then iv_V call mc_79 rt 18 L (st') w else if x = 2 then iv_V call mc_79 rt 18 L (st') w else iv_V call mc_79 rt 29 L (st') w := by
  refine (iv_V_eq (I := (((4, 28), .tableswitch 74 0 2 #[28, 55, 55], 0, 0, 0) : iv_I)) rfl).trans ?_
  refine congrArg (iv_p1 st) (funext fun x => funext fun st' => ?_)
  dsimp only
  by_cases h0 : x = 0
  · subst h0
    rw [if_neg (by decide)]
    rw [if_pos rfl]
    exact sw79_2_28
  by_cases h1 : x = 1
  · subst h1
    rw [if_neg (by decide)]
    rw [if_neg (by decide : ¬ (1 : Int32) = 0)]
    rw [if_pos rfl]
    exact sw79_2_55
  by_cases h2 : x = 2
  · subst h2
    rw [if_neg (by decide)]
    rw [if_neg (by decide : ¬ (2 : Int32) = 0)]
    rw [if_neg (by decide : ¬ (2 : Int32) = 1)]
    rw [if_pos rfl]
    exact sw79_2_55
  rw [if_pos (by
    have g0 := lv_neT h0 (show (0 : Int32).toInt = 0 by decide)
    have g1 := lv_neT h1 (show (1 : Int32).toInt = 1 by decide)
    have g2 := lv_neT h2 (show (2 : Int32).toInt = 2 by decide)
    omega)]
  rw [if_neg h0, if_neg h1, if_neg h2]
  exact sw79_2_74
theorem e79_3 : iv_V call mc_79 rt 3 L st w = iv_ldi L 2 fun x => iv_V call mc_79 rt 4 L (.int x :: st) w := iv_V_eq (I := (((32, 1), .iload_n 2, 0, 0, 0) : iv_I)) rfl
theorem e79_4 : iv_V call mc_79 rt 4 L st w = iv_p1 st fun x st' => if x = 0 then iv_V call mc_79 rt 12 L (st') w else iv_V call mc_79 rt 5 L (st') w := (iv_V_eq (I := (((33, 3), .ifCond .eq 16, 12, 0, 0) : iv_I)) rfl).trans (by simp only [iv_go, iv_cnd, decide_eq_true_eq])
theorem e79_5 : iv_V call mc_79 rt 5 L st w = iv_ldi L 1 fun x => iv_V call mc_79 rt 6 L (.int x :: st) w := iv_V_eq (I := (((36, 1), .iload_n 1, 0, 0, 0) : iv_I)) rfl
theorem e79_6 : iv_V call mc_79 rt 6 L st w = iv_V call mc_79 rt 7 L (.int 3 :: st) w := (iv_V_eq (I := (((37, 1), .iconst 3, 0, 0, 0) : iv_I)) rfl).trans (congrArg (fun c => iv_V call mc_79 rt 7 L (.int c :: st) w) li_o3)
theorem e79_7 : iv_V call mc_79 rt 7 L st w = iv_p2 st fun x y st' => if ¬ x = y then iv_V call mc_79 rt 10 L (st') w else iv_V call mc_79 rt 8 L (st') w := (iv_V_eq (I := (((38, 3), .if_icmp .ne 7, 10, 0, 0) : iv_I)) rfl).trans (by simp only [iv_go, iv_cnd, decide_eq_true_eq])
theorem e79_8 : iv_V call mc_79 rt 8 L st w = iv_V call mc_79 rt 9 L (.int 1 :: st) w := (iv_V_eq (I := (((41, 1), .iconst 1, 0, 0, 0) : iv_I)) rfl).trans (congrArg (fun c => iv_V call mc_79 rt 9 L (.int c :: st) w) li_o1)
theorem e79_9 : iv_V call mc_79 rt 9 L st w = iv_V call mc_79 rt 17 L (st) w := iv_V_eq (I := (((42, 3), .goto 16, 17, 0, 0) : iv_I)) rfl
theorem e79_10 : iv_V call mc_79 rt 10 L st w = iv_V call mc_79 rt 11 L (.int 0 :: st) w := (iv_V_eq (I := (((45, 1), .iconst 0, 0, 0, 0) : iv_I)) rfl).trans (congrArg (fun c => iv_V call mc_79 rt 11 L (.int c :: st) w) li_o0)
theorem e79_11 : iv_V call mc_79 rt 11 L st w = iv_V call mc_79 rt 17 L (st) w := iv_V_eq (I := (((46, 3), .goto 12, 17, 0, 0) : iv_I)) rfl
theorem e79_12 : iv_V call mc_79 rt 12 L st w = iv_ldi L 1 fun x => iv_V call mc_79 rt 13 L (.int x :: st) w := iv_V_eq (I := (((49, 1), .iload_n 1, 0, 0, 0) : iv_I)) rfl
theorem e79_13 : iv_V call mc_79 rt 13 L st w = iv_p1 st fun x st' => if x = 0 then iv_V call mc_79 rt 16 L (st') w else iv_V call mc_79 rt 14 L (st') w := (iv_V_eq (I := (((50, 3), .ifCond .eq 7, 16, 0, 0) : iv_I)) rfl).trans (by simp only [iv_go, iv_cnd, decide_eq_true_eq])
theorem e79_14 : iv_V call mc_79 rt 14 L st w = iv_V call mc_79 rt 15 L (.int 1 :: st) w := (iv_V_eq (I := (((53, 1), .iconst 1, 0, 0, 0) : iv_I)) rfl).trans (congrArg (fun c => iv_V call mc_79 rt 15 L (.int c :: st) w) li_o1)
theorem e79_15 : iv_V call mc_79 rt 15 L st w = iv_V call mc_79 rt 17 L (st) w := iv_V_eq (I := (((54, 3), .goto 4, 17, 0, 0) : iv_I)) rfl
theorem e79_16 : iv_V call mc_79 rt 16 L st w = iv_V call mc_79 rt 17 L (.int 0 :: st) w := (iv_V_eq (I := (((57, 1), .iconst 0, 0, 0, 0) : iv_I)) rfl).trans (congrArg (fun c => iv_V call mc_79 rt 17 L (.int c :: st) w) li_o0)
theorem e79_17 : iv_V call mc_79 rt 17 L st w = iv_ret rt st w := iv_V_eq (I := (((58, 1), .ireturn, 0, 0, 0) : iv_I)) rfl
theorem e79_18 : iv_V call mc_79 rt 18 L st w = iv_ldi L 1 fun x => iv_V call mc_79 rt 19 L (.int x :: st) w := iv_V_eq (I := (((59, 1), .iload_n 1, 0, 0, 0) : iv_I)) rfl
theorem e79_19 : iv_V call mc_79 rt 19 L st w = iv_ldi L 2 fun x => iv_V call mc_79 rt 20 L (.int x :: st) w := iv_V_eq (I := (((60, 1), .iload_n 2, 0, 0, 0) : iv_I)) rfl
theorem e79_20 : iv_V call mc_79 rt 20 L st w = iv_p1 st fun x st' => if x = 0 then iv_V call mc_79 rt 23 L (st') w else iv_V call mc_79 rt 21 L (st') w := (iv_V_eq (I := (((61, 3), .ifCond .eq 7, 23, 0, 0) : iv_I)) rfl).trans (by simp only [iv_go, iv_cnd, decide_eq_true_eq])
theorem e79_21 : iv_V call mc_79 rt 21 L st w = iv_V call mc_79 rt 22 L (.int 2 :: st) w := (iv_V_eq (I := (((64, 1), .iconst 2, 0, 0, 0) : iv_I)) rfl).trans (congrArg (fun c => iv_V call mc_79 rt 22 L (.int c :: st) w) li_o2)
theorem e79_22 : iv_V call mc_79 rt 22 L st w = iv_V call mc_79 rt 24 L (st) w := iv_V_eq (I := (((65, 3), .goto 4, 24, 0, 0) : iv_I)) rfl
theorem e79_23 : iv_V call mc_79 rt 23 L st w = iv_V call mc_79 rt 24 L (.int 0 :: st) w := (iv_V_eq (I := (((68, 1), .iconst 0, 0, 0, 0) : iv_I)) rfl).trans (congrArg (fun c => iv_V call mc_79 rt 24 L (.int c :: st) w) li_o0)
theorem e79_24 : iv_V call mc_79 rt 24 L st w = iv_p2 st fun x y st' => if ¬ x = y then iv_V call mc_79 rt 27 L (st') w else iv_V call mc_79 rt 25 L (st') w := (iv_V_eq (I := (((69, 3), .if_icmp .ne 7, 27, 0, 0) : iv_I)) rfl).trans (by simp only [iv_go, iv_cnd, decide_eq_true_eq])
theorem e79_25 : iv_V call mc_79 rt 25 L st w = iv_V call mc_79 rt 26 L (.int 1 :: st) w := (iv_V_eq (I := (((72, 1), .iconst 1, 0, 0, 0) : iv_I)) rfl).trans (congrArg (fun c => iv_V call mc_79 rt 26 L (.int c :: st) w) li_o1)
theorem e79_26 : iv_V call mc_79 rt 26 L st w = iv_V call mc_79 rt 28 L (st) w := iv_V_eq (I := (((73, 3), .goto 4, 28, 0, 0) : iv_I)) rfl
theorem e79_27 : iv_V call mc_79 rt 27 L st w = iv_V call mc_79 rt 28 L (.int 0 :: st) w := (iv_V_eq (I := (((76, 1), .iconst 0, 0, 0, 0) : iv_I)) rfl).trans (congrArg (fun c => iv_V call mc_79 rt 28 L (.int c :: st) w) li_o0)
theorem e79_28 : iv_V call mc_79 rt 28 L st w = iv_ret rt st w := iv_V_eq (I := (((77, 1), .ireturn, 0, 0, 0) : iv_I)) rfl
theorem e79_29 : iv_V call mc_79 rt 29 L st w = iv_ldi L 2 fun x => iv_V call mc_79 rt 30 L (.int x :: st) w := iv_V_eq (I := (((78, 1), .iload_n 2, 0, 0, 0) : iv_I)) rfl
theorem e79_30 : iv_V call mc_79 rt 30 L st w = iv_p1 st fun x st' => if ¬ x = 0 then iv_V call mc_79 rt 39 L (st') w else iv_V call mc_79 rt 31 L (st') w := (iv_V_eq (I := (((79, 3), .ifCond .ne 17, 39, 0, 0) : iv_I)) rfl).trans (by simp only [iv_go, iv_cnd, decide_eq_true_eq])
theorem e79_31 : iv_V call mc_79 rt 31 L st w = iv_ldi L 1 fun x => iv_V call mc_79 rt 32 L (.int x :: st) w := iv_V_eq (I := (((82, 1), .iload_n 1, 0, 0, 0) : iv_I)) rfl
theorem e79_32 : iv_V call mc_79 rt 32 L st w = iv_V call mc_79 rt 33 L (.int 2 :: st) w := (iv_V_eq (I := (((83, 1), .iconst 2, 0, 0, 0) : iv_I)) rfl).trans (congrArg (fun c => iv_V call mc_79 rt 33 L (.int c :: st) w) li_o2)
theorem e79_33 : iv_V call mc_79 rt 33 L st w = iv_p2 st fun x y st' => if x = y then iv_V call mc_79 rt 37 L (st') w else iv_V call mc_79 rt 34 L (st') w := (iv_V_eq (I := (((84, 3), .if_icmp .eq 8, 37, 0, 0) : iv_I)) rfl).trans (by simp only [iv_go, iv_cnd, decide_eq_true_eq])
theorem e79_34 : iv_V call mc_79 rt 34 L st w = iv_ldi L 1 fun x => iv_V call mc_79 rt 35 L (.int x :: st) w := iv_V_eq (I := (((87, 1), .iload_n 1, 0, 0, 0) : iv_I)) rfl
theorem e79_35 : iv_V call mc_79 rt 35 L st w = iv_V call mc_79 rt 36 L (.int 3 :: st) w := (iv_V_eq (I := (((88, 1), .iconst 3, 0, 0, 0) : iv_I)) rfl).trans (congrArg (fun c => iv_V call mc_79 rt 36 L (.int c :: st) w) li_o3)
theorem e79_36 : iv_V call mc_79 rt 36 L st w = iv_p2 st fun x y st' => if ¬ x = y then iv_V call mc_79 rt 39 L (st') w else iv_V call mc_79 rt 37 L (st') w := (iv_V_eq (I := (((89, 3), .if_icmp .ne 7, 39, 0, 0) : iv_I)) rfl).trans (by simp only [iv_go, iv_cnd, decide_eq_true_eq])
theorem e79_37 : iv_V call mc_79 rt 37 L st w = iv_V call mc_79 rt 38 L (.int 1 :: st) w := (iv_V_eq (I := (((92, 1), .iconst 1, 0, 0, 0) : iv_I)) rfl).trans (congrArg (fun c => iv_V call mc_79 rt 38 L (.int c :: st) w) li_o1)
theorem e79_38 : iv_V call mc_79 rt 38 L st w = iv_V call mc_79 rt 40 L (st) w := iv_V_eq (I := (((93, 3), .goto 4, 40, 0, 0) : iv_I)) rfl
theorem e79_39 : iv_V call mc_79 rt 39 L st w = iv_V call mc_79 rt 40 L (.int 0 :: st) w := (iv_V_eq (I := (((96, 1), .iconst 0, 0, 0, 0) : iv_I)) rfl).trans (congrArg (fun c => iv_V call mc_79 rt 40 L (.int c :: st) w) li_o0)
theorem e79_40 : iv_V call mc_79 rt 40 L st w = iv_ret rt st w := iv_V_eq (I := (((97, 1), .ireturn, 0, 0, 0) : iv_I)) rfl
theorem e80_0 : iv_V call mc_80 rt 0 L st w = iv_lda L 0 fun x => iv_V call mc_80 rt 1 L (x :: st) w := iv_V_eq (I := (((0, 1), .aload_n 0, 0, 0, 0) : iv_I)) rfl
theorem e80_1 : iv_V call mc_80 rt 1 L st w = iv_gf w st 4 0 fun v st' => iv_V call mc_80 rt 2 L (v :: st') w := iv_V_eq (I := (((1, 3), .getfield 9, 4, 0, 344) : iv_I)) rfl
theorem sw80_2_28 {q : Nat → iv_R} : iv_sw mc_80 ((4 : Nat) + (28 : Int)) q = q 3 := by
  unfold iv_sw
  rw [show mc_80.findIdx? (fun J => decide ((J.1.1 : Int) = ((4 : Nat) : Int) + (28 : Int))) = some 3 by decide +kernel]
theorem sw80_2_39 {q : Nat → iv_R} : iv_sw mc_80 ((4 : Nat) + (39 : Int)) q = q 10 := by
  unfold iv_sw
  rw [show mc_80.findIdx? (fun J => decide ((J.1.1 : Int) = ((4 : Nat) : Int) + (39 : Int))) = some 10 by decide +kernel]
theorem sw80_2_53 {q : Nat → iv_R} : iv_sw mc_80 ((4 : Nat) + (53 : Int)) q = q 18 := by
  unfold iv_sw
  rw [show mc_80.findIdx? (fun J => decide ((J.1.1 : Int) = ((4 : Nat) : Int) + (53 : Int))) = some 18 by decide +kernel]
theorem sw80_2_67 {q : Nat → iv_R} : iv_sw mc_80 ((4 : Nat) + (67 : Int)) q = q 26 := by
  unfold iv_sw
  rw [show mc_80.findIdx? (fun J => decide ((J.1.1 : Int) = ((4 : Nat) : Int) + (67 : Int))) = some 26 by decide +kernel]
theorem e80_2 : iv_V call mc_80 rt 2 L st w = iv_p1 st fun x st' => if x = 0 then iv_V call mc_80 rt 3 L (st') w else if x = 1 then iv_V call mc_80 rt 10 L (st') w else if x = 2 then iv_V call mc_80 rt 18 L (st') w else iv_V call mc_80 rt 26 L (st') w := by
  refine (iv_V_eq (I := (((4, 28), .tableswitch 67 0 2 #[28, 39, 53], 0, 0, 0) : iv_I)) rfl).trans ?_
  refine congrArg (iv_p1 st) (funext fun x => funext fun st' => ?_)
  dsimp only
  by_cases h0 : x = 0
  · subst h0
    rw [if_neg (by decide)]
    rw [if_pos rfl]
    exact sw80_2_28
  by_cases h1 : x = 1
  · subst h1
    rw [if_neg (by decide)]
    rw [if_neg (by decide : ¬ (1 : Int32) = 0)]
    rw [if_pos rfl]
    exact sw80_2_39
  by_cases h2 : x = 2
  · subst h2
    rw [if_neg (by decide)]
    rw [if_neg (by decide : ¬ (2 : Int32) = 0)]
    rw [if_neg (by decide : ¬ (2 : Int32) = 1)]
    rw [if_pos rfl]
    exact sw80_2_53
  rw [if_pos (by
    have g0 := lv_neT h0 (show (0 : Int32).toInt = 0 by decide)
    have g1 := lv_neT h1 (show (1 : Int32).toInt = 1 by decide)
    have g2 := lv_neT h2 (show (2 : Int32).toInt = 2 by decide)
    omega)]
  rw [if_neg h0, if_neg h1, if_neg h2]
  exact sw80_2_67
theorem e80_3 : iv_V call mc_80 rt 3 L st w = iv_ldi L 1 fun x => iv_V call mc_80 rt 4 L (.int x :: st) w := iv_V_eq (I := (((32, 1), .iload_n 1, 0, 0, 0) : iv_I)) rfl
theorem e80_4 : iv_V call mc_80 rt 4 L st w = iv_V call mc_80 rt 5 L (.int (-1) :: st) w := (iv_V_eq (I := (((33, 1), .iconst (-1), 0, 0, 0) : iv_I)) rfl).trans (congrArg (fun c => iv_V call mc_80 rt 5 L (.int c :: st) w) li_om1)
theorem e80_5 : iv_V call mc_80 rt 5 L st w = iv_p2 st fun x y st' => if ¬ x = y then iv_V call mc_80 rt 8 L (st') w else iv_V call mc_80 rt 6 L (st') w := (iv_V_eq (I := (((34, 3), .if_icmp .ne 7, 8, 0, 0) : iv_I)) rfl).trans (by simp only [iv_go, iv_cnd, decide_eq_true_eq])
theorem e80_6 : iv_V call mc_80 rt 6 L st w = iv_V call mc_80 rt 7 L (.int 1 :: st) w := (iv_V_eq (I := (((37, 1), .iconst 1, 0, 0, 0) : iv_I)) rfl).trans (congrArg (fun c => iv_V call mc_80 rt 7 L (.int c :: st) w) li_o1)
theorem e80_7 : iv_V call mc_80 rt 7 L st w = iv_V call mc_80 rt 9 L (st) w := iv_V_eq (I := (((38, 3), .goto 4, 9, 0, 0) : iv_I)) rfl
theorem e80_8 : iv_V call mc_80 rt 8 L st w = iv_V call mc_80 rt 9 L (.int 0 :: st) w := (iv_V_eq (I := (((41, 1), .iconst 0, 0, 0, 0) : iv_I)) rfl).trans (congrArg (fun c => iv_V call mc_80 rt 9 L (.int c :: st) w) li_o0)
theorem e80_9 : iv_V call mc_80 rt 9 L st w = iv_ret rt st w := iv_V_eq (I := (((42, 1), .ireturn, 0, 0, 0) : iv_I)) rfl
theorem e80_10 : iv_V call mc_80 rt 10 L st w = iv_ldi L 1 fun x => iv_V call mc_80 rt 11 L (.int x :: st) w := iv_V_eq (I := (((43, 1), .iload_n 1, 0, 0, 0) : iv_I)) rfl
theorem e80_11 : iv_V call mc_80 rt 11 L st w = iv_lda L 0 fun x => iv_V call mc_80 rt 12 L (x :: st) w := iv_V_eq (I := (((44, 1), .aload_n 0, 0, 0, 0) : iv_I)) rfl
theorem e80_12 : iv_V call mc_80 rt 12 L st w = iv_gf w st 4 1 fun v st' => iv_V call mc_80 rt 13 L (v :: st') w := iv_V_eq (I := (((45, 3), .getfield 15, 4, 1, 345) : iv_I)) rfl
theorem e80_13 : iv_V call mc_80 rt 13 L st w = iv_p2 st fun x y st' => if y ≤ x then iv_V call mc_80 rt 16 L (st') w else iv_V call mc_80 rt 14 L (st') w := (iv_V_eq (I := (((48, 3), .if_icmp .ge 7, 16, 0, 0) : iv_I)) rfl).trans (by simp only [iv_go, iv_cnd, decide_eq_true_eq])
theorem e80_14 : iv_V call mc_80 rt 14 L st w = iv_V call mc_80 rt 15 L (.int 1 :: st) w := (iv_V_eq (I := (((51, 1), .iconst 1, 0, 0, 0) : iv_I)) rfl).trans (congrArg (fun c => iv_V call mc_80 rt 15 L (.int c :: st) w) li_o1)
theorem e80_15 : iv_V call mc_80 rt 15 L st w = iv_V call mc_80 rt 17 L (st) w := iv_V_eq (I := (((52, 3), .goto 4, 17, 0, 0) : iv_I)) rfl
theorem e80_16 : iv_V call mc_80 rt 16 L st w = iv_V call mc_80 rt 17 L (.int 0 :: st) w := (iv_V_eq (I := (((55, 1), .iconst 0, 0, 0, 0) : iv_I)) rfl).trans (congrArg (fun c => iv_V call mc_80 rt 17 L (.int c :: st) w) li_o0)
theorem e80_17 : iv_V call mc_80 rt 17 L st w = iv_ret rt st w := iv_V_eq (I := (((56, 1), .ireturn, 0, 0, 0) : iv_I)) rfl
theorem e80_18 : iv_V call mc_80 rt 18 L st w = iv_ldi L 1 fun x => iv_V call mc_80 rt 19 L (.int x :: st) w := iv_V_eq (I := (((57, 1), .iload_n 1, 0, 0, 0) : iv_I)) rfl
theorem e80_19 : iv_V call mc_80 rt 19 L st w = iv_lda L 0 fun x => iv_V call mc_80 rt 20 L (x :: st) w := iv_V_eq (I := (((58, 1), .aload_n 0, 0, 0, 0) : iv_I)) rfl
theorem e80_20 : iv_V call mc_80 rt 20 L st w = iv_gf w st 4 1 fun v st' => iv_V call mc_80 rt 21 L (v :: st') w := iv_V_eq (I := (((59, 3), .getfield 15, 4, 1, 345) : iv_I)) rfl
theorem e80_21 : iv_V call mc_80 rt 21 L st w = iv_p2 st fun x y st' => if x ≤ y then iv_V call mc_80 rt 24 L (st') w else iv_V call mc_80 rt 22 L (st') w := (iv_V_eq (I := (((62, 3), .if_icmp .le 7, 24, 0, 0) : iv_I)) rfl).trans (by simp only [iv_go, iv_cnd, decide_eq_true_eq])
theorem e80_22 : iv_V call mc_80 rt 22 L st w = iv_V call mc_80 rt 23 L (.int 1 :: st) w := (iv_V_eq (I := (((65, 1), .iconst 1, 0, 0, 0) : iv_I)) rfl).trans (congrArg (fun c => iv_V call mc_80 rt 23 L (.int c :: st) w) li_o1)
theorem e80_23 : iv_V call mc_80 rt 23 L st w = iv_V call mc_80 rt 25 L (st) w := iv_V_eq (I := (((66, 3), .goto 4, 25, 0, 0) : iv_I)) rfl
theorem e80_24 : iv_V call mc_80 rt 24 L st w = iv_V call mc_80 rt 25 L (.int 0 :: st) w := (iv_V_eq (I := (((69, 1), .iconst 0, 0, 0, 0) : iv_I)) rfl).trans (congrArg (fun c => iv_V call mc_80 rt 25 L (.int c :: st) w) li_o0)
theorem e80_25 : iv_V call mc_80 rt 25 L st w = iv_ret rt st w := iv_V_eq (I := (((70, 1), .ireturn, 0, 0, 0) : iv_I)) rfl
theorem e80_26 : iv_V call mc_80 rt 26 L st w = iv_ldi L 1 fun x => iv_V call mc_80 rt 27 L (.int x :: st) w := iv_V_eq (I := (((71, 1), .iload_n 1, 0, 0, 0) : iv_I)) rfl
theorem e80_27 : iv_V call mc_80 rt 27 L st w = iv_V call mc_80 rt 28 L (.int (-1) :: st) w := (iv_V_eq (I := (((72, 1), .iconst (-1), 0, 0, 0) : iv_I)) rfl).trans (congrArg (fun c => iv_V call mc_80 rt 28 L (.int c :: st) w) li_om1)
theorem e80_28 : iv_V call mc_80 rt 28 L st w = iv_p2 st fun x y st' => if x = y then iv_V call mc_80 rt 39 L (st') w else iv_V call mc_80 rt 29 L (st') w := (iv_V_eq (I := (((73, 3), .if_icmp .eq 23, 39, 0, 0) : iv_I)) rfl).trans (by simp only [iv_go, iv_cnd, decide_eq_true_eq])
theorem e80_29 : iv_V call mc_80 rt 29 L st w = iv_ldi L 1 fun x => iv_V call mc_80 rt 30 L (.int x :: st) w := iv_V_eq (I := (((76, 1), .iload_n 1, 0, 0, 0) : iv_I)) rfl
theorem e80_30 : iv_V call mc_80 rt 30 L st w = iv_lda L 0 fun x => iv_V call mc_80 rt 31 L (x :: st) w := iv_V_eq (I := (((77, 1), .aload_n 0, 0, 0, 0) : iv_I)) rfl
theorem e80_31 : iv_V call mc_80 rt 31 L st w = iv_gf w st 4 1 fun v st' => iv_V call mc_80 rt 32 L (v :: st') w := iv_V_eq (I := (((78, 3), .getfield 15, 4, 1, 345) : iv_I)) rfl
theorem e80_32 : iv_V call mc_80 rt 32 L st w = iv_p2 st fun x y st' => if x < y then iv_V call mc_80 rt 37 L (st') w else iv_V call mc_80 rt 33 L (st') w := (iv_V_eq (I := (((81, 3), .if_icmp .lt 11, 37, 0, 0) : iv_I)) rfl).trans (by simp only [iv_go, iv_cnd, decide_eq_true_eq])
theorem e80_33 : iv_V call mc_80 rt 33 L st w = iv_ldi L 1 fun x => iv_V call mc_80 rt 34 L (.int x :: st) w := iv_V_eq (I := (((84, 1), .iload_n 1, 0, 0, 0) : iv_I)) rfl
theorem e80_34 : iv_V call mc_80 rt 34 L st w = iv_lda L 0 fun x => iv_V call mc_80 rt 35 L (x :: st) w := iv_V_eq (I := (((85, 1), .aload_n 0, 0, 0, 0) : iv_I)) rfl
theorem e80_35 : iv_V call mc_80 rt 35 L st w = iv_gf w st 4 2 fun v st' => iv_V call mc_80 rt 36 L (v :: st') w := iv_V_eq (I := (((86, 3), .getfield 18, 4, 2, 346) : iv_I)) rfl
theorem e80_36 : iv_V call mc_80 rt 36 L st w = iv_p2 st fun x y st' => if x ≤ y then iv_V call mc_80 rt 39 L (st') w else iv_V call mc_80 rt 37 L (st') w := (iv_V_eq (I := (((89, 3), .if_icmp .le 7, 39, 0, 0) : iv_I)) rfl).trans (by simp only [iv_go, iv_cnd, decide_eq_true_eq])
theorem e80_37 : iv_V call mc_80 rt 37 L st w = iv_V call mc_80 rt 38 L (.int 1 :: st) w := (iv_V_eq (I := (((92, 1), .iconst 1, 0, 0, 0) : iv_I)) rfl).trans (congrArg (fun c => iv_V call mc_80 rt 38 L (.int c :: st) w) li_o1)
theorem e80_38 : iv_V call mc_80 rt 38 L st w = iv_V call mc_80 rt 40 L (st) w := iv_V_eq (I := (((93, 3), .goto 4, 40, 0, 0) : iv_I)) rfl
theorem e80_39 : iv_V call mc_80 rt 39 L st w = iv_V call mc_80 rt 40 L (.int 0 :: st) w := (iv_V_eq (I := (((96, 1), .iconst 0, 0, 0, 0) : iv_I)) rfl).trans (congrArg (fun c => iv_V call mc_80 rt 40 L (.int c :: st) w) li_o0)
theorem e80_40 : iv_V call mc_80 rt 40 L st w = iv_ret rt st w := iv_V_eq (I := (((97, 1), .ireturn, 0, 0, 0) : iv_I)) rfl
theorem e81_0 : iv_V call mc_81 rt 0 L st w = iv_lda L 0 fun x => iv_V call mc_81 rt 1 L (x :: st) w := iv_V_eq (I := (((0, 1), .aload_n 0, 0, 0, 0) : iv_I)) rfl
theorem e81_1 : iv_V call mc_81 rt 1 L st w = iv_oi st fun st' => iv_V call mc_81 rt 2 L (st') w := iv_V_eq (I := (((1, 3), .invokespecial 3, 0, 1, 166) : iv_I)) rfl
theorem e81_2 : iv_V call mc_81 rt 2 L st w = iv_lda L 0 fun x => iv_V call mc_81 rt 3 L (x :: st) w := iv_V_eq (I := (((4, 1), .aload_n 0, 0, 0, 0) : iv_I)) rfl
theorem e81_3 : iv_V call mc_81 rt 3 L st w = iv_V call mc_81 rt 4 L (.int 6 :: st) w := (iv_V_eq (I := (((5, 2), .bipush 6, 0, 0, 0) : iv_I)) rfl).trans (congrArg (fun c => iv_V call mc_81 rt 4 L (.int c :: st) w) li_b6)
theorem e81_4 : iv_V call mc_81 rt 4 L st w = iv_p1 st fun n st' => iv_na w 100 (.int 0) n fun v w' => iv_V call mc_81 rt 5 L (v :: st') w' := iv_V_eq (I := (((7, 2), .newarray .int, 100, 0, 78) : iv_I)) rfl
theorem e81_5 : iv_V call mc_81 rt 5 L st w = iv_pf w st 5 0 fun st' w' => iv_V call mc_81 rt 6 L (st') w' := iv_V_eq (I := (((9, 3), .putfield 9, 5, 0, 169) : iv_I)) rfl
theorem e81_6 : iv_V call mc_81 rt 6 L st w = iv_V call mc_81 rt 7 L (.int 0 :: st) w := (iv_V_eq (I := (((12, 1), .iconst 0, 0, 0, 0) : iv_I)) rfl).trans (congrArg (fun c => iv_V call mc_81 rt 7 L (.int c :: st) w) li_o0)
theorem e81_7 : iv_V call mc_81 rt 7 L st w = iv_p1 st fun x st' => iv_sto L 1 (.int x) fun L' => iv_V call mc_81 rt 8 L' (st') w := iv_V_eq (I := (((13, 1), .istore_n 1, 0, 0, 0) : iv_I)) rfl
theorem e81_8 : iv_V call mc_81 rt 8 L st w = iv_ldi L 1 fun x => iv_V call mc_81 rt 9 L (.int x :: st) w := iv_V_eq (I := (((14, 1), .iload_n 1, 0, 0, 0) : iv_I)) rfl
theorem e81_9 : iv_V call mc_81 rt 9 L st w = iv_V call mc_81 rt 10 L (.int 6 :: st) w := (iv_V_eq (I := (((15, 2), .bipush 6, 0, 0, 0) : iv_I)) rfl).trans (congrArg (fun c => iv_V call mc_81 rt 10 L (.int c :: st) w) li_b6)
theorem e81_10 : iv_V call mc_81 rt 10 L st w = iv_p2 st fun x y st' => if y ≤ x then iv_V call mc_81 rt 20 L (st') w else iv_V call mc_81 rt 11 L (st') w := (iv_V_eq (I := (((17, 3), .if_icmp .ge 18, 20, 0, 0) : iv_I)) rfl).trans (by simp only [iv_go, iv_cnd, decide_eq_true_eq])
theorem e81_11 : iv_V call mc_81 rt 11 L st w = iv_lda L 0 fun x => iv_V call mc_81 rt 12 L (x :: st) w := iv_V_eq (I := (((20, 1), .aload_n 0, 0, 0, 0) : iv_I)) rfl
theorem e81_12 : iv_V call mc_81 rt 12 L st w = iv_gf w st 5 0 fun v st' => iv_V call mc_81 rt 13 L (v :: st') w := iv_V_eq (I := (((21, 3), .getfield 9, 5, 0, 169) : iv_I)) rfl
theorem e81_13 : iv_V call mc_81 rt 13 L st w = iv_ldi L 1 fun x => iv_V call mc_81 rt 14 L (.int x :: st) w := iv_V_eq (I := (((24, 1), .iload_n 1, 0, 0, 0) : iv_I)) rfl
theorem e81_14 : iv_V call mc_81 rt 14 L st w = iv_V call mc_81 rt 15 L (.int 1 :: st) w := (iv_V_eq (I := (((25, 1), .iconst 1, 0, 0, 0) : iv_I)) rfl).trans (congrArg (fun c => iv_V call mc_81 rt 15 L (.int c :: st) w) li_o1)
theorem e81_15 : iv_V call mc_81 rt 15 L st w = iv_ldi L 1 fun x => iv_V call mc_81 rt 16 L (.int x :: st) w := iv_V_eq (I := (((26, 1), .iload_n 1, 0, 0, 0) : iv_I)) rfl
theorem e81_16 : iv_V call mc_81 rt 16 L st w = iv_p2 st fun x y st' => iv_V call mc_81 rt 17 L (.int (x <<< (y &&& 31)) :: st') w := iv_V_eq (I := (((27, 1), .ishl, 0, 0, 0) : iv_I)) rfl
theorem e81_17 : iv_V call mc_81 rt 17 L st w = iv_ast w st iv_isI fun st' w' => iv_V call mc_81 rt 18 L (st') w' := iv_V_eq (I := (((28, 1), .iastore, 0, 0, 0) : iv_I)) rfl
theorem e81_18 : iv_V call mc_81 rt 18 L st w = iv_ldi L 1 fun x => iv_sto L 1 (.int (x + 1)) fun L' => iv_V call mc_81 rt 19 L' (st) w := (iv_V_eq (I := (((29, 3), .iinc 1 1, 0, 0, 0) : iv_I)) rfl).trans (congrArg (fun c => iv_ldi L 1 fun x => iv_sto L 1 (.int (x + c)) fun L' => iv_V call mc_81 rt 19 L' (st) w) li_o1)
theorem e81_19 : iv_V call mc_81 rt 19 L st w = iv_V call mc_81 rt 8 L (st) w := iv_V_eq (I := (((32, 3), .goto (-18), 8, 0, 0) : iv_I)) rfl
theorem e81_20 : iv_V call mc_81 rt 20 L st w = iv_lda L 0 fun x => iv_V call mc_81 rt 21 L (x :: st) w := iv_V_eq (I := (((35, 1), .aload_n 0, 0, 0, 0) : iv_I)) rfl
theorem e81_21 : iv_V call mc_81 rt 21 L st w = iv_V call mc_81 rt 22 L (.int 2 :: st) w := (iv_V_eq (I := (((36, 1), .iconst 2, 0, 0, 0) : iv_I)) rfl).trans (congrArg (fun c => iv_V call mc_81 rt 22 L (.int c :: st) w) li_o2)
theorem e81_22 : iv_V call mc_81 rt 22 L st w = iv_p1 st fun n st' => iv_na w 106 .null n fun v w' => iv_V call mc_81 rt 23 L (v :: st') w' := iv_V_eq (I := (((37, 3), .anewarray 15, 106, 0, 167) : iv_I)) rfl
theorem e81_23 : iv_V call mc_81 rt 23 L st w = iv_pf w st 5 1 fun st' w' => iv_V call mc_81 rt 24 L (st') w' := iv_V_eq (I := (((40, 3), .putfield 17, 5, 1, 171) : iv_I)) rfl
theorem e81_24 : iv_V call mc_81 rt 24 L st w = iv_V call mc_81 rt 25 L (.int 0 :: st) w := (iv_V_eq (I := (((43, 1), .iconst 0, 0, 0, 0) : iv_I)) rfl).trans (congrArg (fun c => iv_V call mc_81 rt 25 L (.int c :: st) w) li_o0)
theorem e81_25 : iv_V call mc_81 rt 25 L st w = iv_p1 st fun x st' => iv_sto L 1 (.int x) fun L' => iv_V call mc_81 rt 26 L' (st') w := iv_V_eq (I := (((44, 1), .istore_n 1, 0, 0, 0) : iv_I)) rfl
theorem e81_26 : iv_V call mc_81 rt 26 L st w = iv_ldi L 1 fun x => iv_V call mc_81 rt 27 L (.int x :: st) w := iv_V_eq (I := (((45, 1), .iload_n 1, 0, 0, 0) : iv_I)) rfl
theorem e81_27 : iv_V call mc_81 rt 27 L st w = iv_V call mc_81 rt 28 L (.int 2 :: st) w := (iv_V_eq (I := (((46, 1), .iconst 2, 0, 0, 0) : iv_I)) rfl).trans (congrArg (fun c => iv_V call mc_81 rt 28 L (.int c :: st) w) li_o2)
theorem e81_28 : iv_V call mc_81 rt 28 L st w = iv_p2 st fun x y st' => if y ≤ x then iv_V call mc_81 rt 39 L (st') w else iv_V call mc_81 rt 29 L (st') w := (iv_V_eq (I := (((47, 3), .if_icmp .ge 23, 39, 0, 0) : iv_I)) rfl).trans (by simp only [iv_go, iv_cnd, decide_eq_true_eq])
theorem e81_29 : iv_V call mc_81 rt 29 L st w = iv_lda L 0 fun x => iv_V call mc_81 rt 30 L (x :: st) w := iv_V_eq (I := (((50, 1), .aload_n 0, 0, 0, 0) : iv_I)) rfl
theorem e81_30 : iv_V call mc_81 rt 30 L st w = iv_gf w st 5 1 fun v st' => iv_V call mc_81 rt 31 L (v :: st') w := iv_V_eq (I := (((51, 3), .getfield 17, 5, 1, 171) : iv_I)) rfl
theorem e81_31 : iv_V call mc_81 rt 31 L st w = iv_ldi L 1 fun x => iv_V call mc_81 rt 32 L (.int x :: st) w := iv_V_eq (I := (((54, 1), .iload_n 1, 0, 0, 0) : iv_I)) rfl
theorem e81_32 : iv_V call mc_81 rt 32 L st w = iv_nw w 7 fun v w' => iv_V call mc_81 rt 33 L (v :: st) w' := iv_V_eq (I := (((55, 3), .new 15, 7, 0, 167) : iv_I)) rfl
theorem e81_33 : iv_V call mc_81 rt 33 L st w = iv_d1 st fun a st' => iv_V call mc_81 rt 34 L (a :: a :: st') w := iv_V_eq (I := (((58, 1), .dup, 0, 0, 0) : iv_I)) rfl
theorem e81_34 : iv_V call mc_81 rt 34 L st w = iv_V call mc_81 rt 35 L (.int 4 :: st) w := (iv_V_eq (I := (((59, 1), .iconst 4, 0, 0, 0) : iv_I)) rfl).trans (congrArg (fun c => iv_V call mc_81 rt 35 L (.int c :: st) w) li_o4)
theorem e81_35 : iv_V call mc_81 rt 35 L st w = iv_inv call 94 2 iv_isr st w fun st' w' => iv_V call mc_81 rt 36 L (st') w' := iv_V_eq (I := (((60, 3), .invokespecial 21, 94, 2, 168) : iv_I)) rfl
theorem e81_36 : iv_V call mc_81 rt 36 L st w = iv_ust w st fun st' w' => iv_V call mc_81 rt 37 L (st') w' := iv_V_eq (I := (((63, 1), .aastore, 0, 0, 0) : iv_I)) rfl
theorem e81_37 : iv_V call mc_81 rt 37 L st w = iv_ldi L 1 fun x => iv_sto L 1 (.int (x + 1)) fun L' => iv_V call mc_81 rt 38 L' (st) w := (iv_V_eq (I := (((64, 3), .iinc 1 1, 0, 0, 0) : iv_I)) rfl).trans (congrArg (fun c => iv_ldi L 1 fun x => iv_sto L 1 (.int (x + c)) fun L' => iv_V call mc_81 rt 38 L' (st) w) li_o1)
theorem e81_38 : iv_V call mc_81 rt 38 L st w = iv_V call mc_81 rt 26 L (st) w := iv_V_eq (I := (((67, 3), .goto (-22), 26, 0, 0) : iv_I)) rfl
theorem e81_39 : iv_V call mc_81 rt 39 L st w = iv_lda L 0 fun x => iv_V call mc_81 rt 40 L (x :: st) w := iv_V_eq (I := (((70, 1), .aload_n 0, 0, 0, 0) : iv_I)) rfl
theorem e81_40 : iv_V call mc_81 rt 40 L st w = iv_nw w 7 fun v w' => iv_V call mc_81 rt 41 L (v :: st) w' := iv_V_eq (I := (((71, 3), .new 15, 7, 0, 167) : iv_I)) rfl
theorem e81_41 : iv_V call mc_81 rt 41 L st w = iv_d1 st fun a st' => iv_V call mc_81 rt 42 L (a :: a :: st') w := iv_V_eq (I := (((74, 1), .dup, 0, 0, 0) : iv_I)) rfl
theorem e81_42 : iv_V call mc_81 rt 42 L st w = iv_V call mc_81 rt 43 L (.int 16 :: st) w := (iv_V_eq (I := (((75, 2), .bipush 16, 0, 0, 0) : iv_I)) rfl).trans (congrArg (fun c => iv_V call mc_81 rt 43 L (.int c :: st) w) li_b16)
theorem e81_43 : iv_V call mc_81 rt 43 L st w = iv_inv call 94 2 iv_isr st w fun st' w' => iv_V call mc_81 rt 44 L (st') w' := iv_V_eq (I := (((77, 3), .invokespecial 21, 94, 2, 168) : iv_I)) rfl
theorem e81_44 : iv_V call mc_81 rt 44 L st w = iv_pf w st 5 2 fun st' w' => iv_V call mc_81 rt 45 L (st') w' := iv_V_eq (I := (((80, 3), .putfield 24, 5, 2, 173) : iv_I)) rfl
theorem e81_45 : iv_V call mc_81 rt 45 L st w = iv_rev rt st w := iv_V_eq (I := (((83, 1), .return_, 0, 0, 0) : iv_I)) rfl
theorem e82_0 : iv_V call mc_82 rt 0 L st w = iv_ldi L 1 fun x => iv_V call mc_82 rt 1 L (.int x :: st) w := iv_V_eq (I := (((0, 1), .iload_n 1, 0, 0, 0) : iv_I)) rfl
theorem e82_1 : iv_V call mc_82 rt 1 L st w = iv_p1 st fun x st' => if x < 0 then iv_V call mc_82 rt 7 L (st') w else iv_V call mc_82 rt 2 L (st') w := (iv_V_eq (I := (((1, 3), .ifCond .lt 13, 7, 0, 0) : iv_I)) rfl).trans (by simp only [iv_go, iv_cnd, decide_eq_true_eq])
theorem e82_2 : iv_V call mc_82 rt 2 L st w = iv_ldi L 1 fun x => iv_V call mc_82 rt 3 L (.int x :: st) w := iv_V_eq (I := (((4, 1), .iload_n 1, 0, 0, 0) : iv_I)) rfl
theorem e82_3 : iv_V call mc_82 rt 3 L st w = iv_V call mc_82 rt 4 L (.int 6 :: st) w := (iv_V_eq (I := (((5, 2), .bipush 6, 0, 0, 0) : iv_I)) rfl).trans (congrArg (fun c => iv_V call mc_82 rt 4 L (.int c :: st) w) li_b6)
theorem e82_4 : iv_V call mc_82 rt 4 L st w = iv_p2 st fun x y st' => if y ≤ x then iv_V call mc_82 rt 7 L (st') w else iv_V call mc_82 rt 5 L (st') w := (iv_V_eq (I := (((7, 3), .if_icmp .ge 7, 7, 0, 0) : iv_I)) rfl).trans (by simp only [iv_go, iv_cnd, decide_eq_true_eq])
theorem e82_5 : iv_V call mc_82 rt 5 L st w = iv_V call mc_82 rt 6 L (.int 1 :: st) w := (iv_V_eq (I := (((10, 1), .iconst 1, 0, 0, 0) : iv_I)) rfl).trans (congrArg (fun c => iv_V call mc_82 rt 6 L (.int c :: st) w) li_o1)
theorem e82_6 : iv_V call mc_82 rt 6 L st w = iv_V call mc_82 rt 8 L (st) w := iv_V_eq (I := (((11, 3), .goto 4, 8, 0, 0) : iv_I)) rfl
theorem e82_7 : iv_V call mc_82 rt 7 L st w = iv_V call mc_82 rt 8 L (.int 0 :: st) w := (iv_V_eq (I := (((14, 1), .iconst 0, 0, 0, 0) : iv_I)) rfl).trans (congrArg (fun c => iv_V call mc_82 rt 8 L (.int c :: st) w) li_o0)
theorem e82_8 : iv_V call mc_82 rt 8 L st w = iv_ret rt st w := iv_V_eq (I := (((15, 1), .ireturn, 0, 0, 0) : iv_I)) rfl
theorem e83_0 : iv_V call mc_83 rt 0 L st w = iv_ldi L 1 fun x => iv_V call mc_83 rt 1 L (.int x :: st) w := iv_V_eq (I := (((0, 1), .iload_n 1, 0, 0, 0) : iv_I)) rfl
theorem e83_1 : iv_V call mc_83 rt 1 L st w = iv_V call mc_83 rt 2 L (.int 6 :: st) w := (iv_V_eq (I := (((1, 2), .bipush 6, 0, 0, 0) : iv_I)) rfl).trans (congrArg (fun c => iv_V call mc_83 rt 2 L (.int c :: st) w) li_b6)
theorem e83_2 : iv_V call mc_83 rt 2 L st w = iv_p2 st fun x y st' => if x < y then iv_V call mc_83 rt 8 L (st') w else iv_V call mc_83 rt 3 L (st') w := (iv_V_eq (I := (((3, 3), .if_icmp .lt 13, 8, 0, 0) : iv_I)) rfl).trans (by simp only [iv_go, iv_cnd, decide_eq_true_eq])
theorem e83_3 : iv_V call mc_83 rt 3 L st w = iv_ldi L 1 fun x => iv_V call mc_83 rt 4 L (.int x :: st) w := iv_V_eq (I := (((6, 1), .iload_n 1, 0, 0, 0) : iv_I)) rfl
theorem e83_4 : iv_V call mc_83 rt 4 L st w = iv_V call mc_83 rt 5 L (.int 8 :: st) w := (iv_V_eq (I := (((7, 2), .bipush 8, 0, 0, 0) : iv_I)) rfl).trans (congrArg (fun c => iv_V call mc_83 rt 5 L (.int c :: st) w) li_b8)
theorem e83_5 : iv_V call mc_83 rt 5 L st w = iv_p2 st fun x y st' => if y ≤ x then iv_V call mc_83 rt 8 L (st') w else iv_V call mc_83 rt 6 L (st') w := (iv_V_eq (I := (((9, 3), .if_icmp .ge 7, 8, 0, 0) : iv_I)) rfl).trans (by simp only [iv_go, iv_cnd, decide_eq_true_eq])
theorem e83_6 : iv_V call mc_83 rt 6 L st w = iv_V call mc_83 rt 7 L (.int 1 :: st) w := (iv_V_eq (I := (((12, 1), .iconst 1, 0, 0, 0) : iv_I)) rfl).trans (congrArg (fun c => iv_V call mc_83 rt 7 L (.int c :: st) w) li_o1)
theorem e83_7 : iv_V call mc_83 rt 7 L st w = iv_V call mc_83 rt 9 L (st) w := iv_V_eq (I := (((13, 3), .goto 4, 9, 0, 0) : iv_I)) rfl
theorem e83_8 : iv_V call mc_83 rt 8 L st w = iv_V call mc_83 rt 9 L (.int 0 :: st) w := (iv_V_eq (I := (((16, 1), .iconst 0, 0, 0, 0) : iv_I)) rfl).trans (congrArg (fun c => iv_V call mc_83 rt 9 L (.int c :: st) w) li_o0)
theorem e83_9 : iv_V call mc_83 rt 9 L st w = iv_ret rt st w := iv_V_eq (I := (((17, 1), .ireturn, 0, 0, 0) : iv_I)) rfl
theorem e84_0 : iv_V call mc_84 rt 0 L st w = iv_lda L 0 fun x => iv_V call mc_84 rt 1 L (x :: st) w := iv_V_eq (I := (((0, 1), .aload_n 0, 0, 0, 0) : iv_I)) rfl
theorem e84_1 : iv_V call mc_84 rt 1 L st w = iv_gf w st 5 0 fun v st' => iv_V call mc_84 rt 2 L (v :: st') w := iv_V_eq (I := (((1, 3), .getfield 9, 5, 0, 169) : iv_I)) rfl
theorem e84_2 : iv_V call mc_84 rt 2 L st w = iv_ldi L 1 fun x => iv_V call mc_84 rt 3 L (.int x :: st) w := iv_V_eq (I := (((4, 1), .iload_n 1, 0, 0, 0) : iv_I)) rfl
theorem e84_3 : iv_V call mc_84 rt 3 L st w = iv_ald w st iv_isI fun v st' => iv_V call mc_84 rt 4 L (v :: st') w := iv_V_eq (I := (((5, 1), .iaload, 0, 0, 0) : iv_I)) rfl
theorem e84_4 : iv_V call mc_84 rt 4 L st w = iv_ldi L 2 fun x => iv_V call mc_84 rt 5 L (.int x :: st) w := iv_V_eq (I := (((6, 1), .iload_n 2, 0, 0, 0) : iv_I)) rfl
theorem e84_5 : iv_V call mc_84 rt 5 L st w = iv_p2 st fun x y st' => iv_V call mc_84 rt 6 L (.int (x >>> (y &&& 31)) :: st') w := iv_V_eq (I := (((7, 1), .ishr, 0, 0, 0) : iv_I)) rfl
theorem e84_6 : iv_V call mc_84 rt 6 L st w = iv_V call mc_84 rt 7 L (.int 1 :: st) w := (iv_V_eq (I := (((8, 1), .iconst 1, 0, 0, 0) : iv_I)) rfl).trans (congrArg (fun c => iv_V call mc_84 rt 7 L (.int c :: st) w) li_o1)
theorem e84_7 : iv_V call mc_84 rt 7 L st w = iv_p2 st fun x y st' => iv_V call mc_84 rt 8 L (.int (x &&& y) :: st') w := iv_V_eq (I := (((9, 1), .iand, 0, 0, 0) : iv_I)) rfl
theorem e84_8 : iv_V call mc_84 rt 8 L st w = iv_p1 st fun x st' => if x = 0 then iv_V call mc_84 rt 11 L (st') w else iv_V call mc_84 rt 9 L (st') w := (iv_V_eq (I := (((10, 3), .ifCond .eq 7, 11, 0, 0) : iv_I)) rfl).trans (by simp only [iv_go, iv_cnd, decide_eq_true_eq])
theorem e84_9 : iv_V call mc_84 rt 9 L st w = iv_V call mc_84 rt 10 L (.int 1 :: st) w := (iv_V_eq (I := (((13, 1), .iconst 1, 0, 0, 0) : iv_I)) rfl).trans (congrArg (fun c => iv_V call mc_84 rt 10 L (.int c :: st) w) li_o1)
theorem e84_10 : iv_V call mc_84 rt 10 L st w = iv_V call mc_84 rt 12 L (st) w := iv_V_eq (I := (((14, 3), .goto 4, 12, 0, 0) : iv_I)) rfl
theorem e84_11 : iv_V call mc_84 rt 11 L st w = iv_V call mc_84 rt 12 L (.int 0 :: st) w := (iv_V_eq (I := (((17, 1), .iconst 0, 0, 0, 0) : iv_I)) rfl).trans (congrArg (fun c => iv_V call mc_84 rt 12 L (.int c :: st) w) li_o0)
theorem e84_12 : iv_V call mc_84 rt 12 L st w = iv_ret rt st w := iv_V_eq (I := (((18, 1), .ireturn, 0, 0, 0) : iv_I)) rfl
theorem e85_0 : iv_V call mc_85 rt 0 L st w = iv_V call mc_85 rt 1 L (.int 0 :: st) w := (iv_V_eq (I := (((0, 1), .iconst 0, 0, 0, 0) : iv_I)) rfl).trans (congrArg (fun c => iv_V call mc_85 rt 1 L (.int c :: st) w) li_o0)
theorem e85_1 : iv_V call mc_85 rt 1 L st w = iv_p1 st fun x st' => iv_sto L 3 (.int x) fun L' => iv_V call mc_85 rt 2 L' (st') w := iv_V_eq (I := (((1, 1), .istore_n 3, 0, 0, 0) : iv_I)) rfl
theorem e85_2 : iv_V call mc_85 rt 2 L st w = iv_ldi L 3 fun x => iv_V call mc_85 rt 3 L (.int x :: st) w := iv_V_eq (I := (((2, 1), .iload_n 3, 0, 0, 0) : iv_I)) rfl
theorem e85_3 : iv_V call mc_85 rt 3 L st w = iv_V call mc_85 rt 4 L (.int 6 :: st) w := (iv_V_eq (I := (((3, 2), .bipush 6, 0, 0, 0) : iv_I)) rfl).trans (congrArg (fun c => iv_V call mc_85 rt 4 L (.int c :: st) w) li_b6)
theorem e85_4 : iv_V call mc_85 rt 4 L st w = iv_p2 st fun x y st' => if y ≤ x then iv_V call mc_85 rt 23 L (st') w else iv_V call mc_85 rt 5 L (st') w := (iv_V_eq (I := (((5, 3), .if_icmp .ge 33, 23, 0, 0) : iv_I)) rfl).trans (by simp only [iv_go, iv_cnd, decide_eq_true_eq])
theorem e85_5 : iv_V call mc_85 rt 5 L st w = iv_lda L 0 fun x => iv_V call mc_85 rt 6 L (x :: st) w := iv_V_eq (I := (((8, 1), .aload_n 0, 0, 0, 0) : iv_I)) rfl
theorem e85_6 : iv_V call mc_85 rt 6 L st w = iv_ldi L 3 fun x => iv_V call mc_85 rt 7 L (.int x :: st) w := iv_V_eq (I := (((9, 1), .iload_n 3, 0, 0, 0) : iv_I)) rfl
theorem e85_7 : iv_V call mc_85 rt 7 L st w = iv_ldi L 1 fun x => iv_V call mc_85 rt 8 L (.int x :: st) w := iv_V_eq (I := (((10, 1), .iload_n 1, 0, 0, 0) : iv_I)) rfl
theorem e85_8 : iv_V call mc_85 rt 8 L st w = iv_inv call 84 3 (fun as => iv_rc w as (iv_mc 84)) st w fun st' w' => iv_V call mc_85 rt 9 L (st') w' := iv_V_eq (I := (((11, 3), .invokevirtual 28, 84, 3, 405) : iv_I)) rfl
theorem e85_9 : iv_V call mc_85 rt 9 L st w = iv_p1 st fun x st' => if x = 0 then iv_V call mc_85 rt 21 L (st') w else iv_V call mc_85 rt 10 L (st') w := (iv_V_eq (I := (((14, 3), .ifCond .eq 18, 21, 0, 0) : iv_I)) rfl).trans (by simp only [iv_go, iv_cnd, decide_eq_true_eq])
theorem e85_10 : iv_V call mc_85 rt 10 L st w = iv_lda L 0 fun x => iv_V call mc_85 rt 11 L (x :: st) w := iv_V_eq (I := (((17, 1), .aload_n 0, 0, 0, 0) : iv_I)) rfl
theorem e85_11 : iv_V call mc_85 rt 11 L st w = iv_gf w st 5 0 fun v st' => iv_V call mc_85 rt 12 L (v :: st') w := iv_V_eq (I := (((18, 3), .getfield 9, 5, 0, 169) : iv_I)) rfl
theorem e85_12 : iv_V call mc_85 rt 12 L st w = iv_ldi L 3 fun x => iv_V call mc_85 rt 13 L (.int x :: st) w := iv_V_eq (I := (((21, 1), .iload_n 3, 0, 0, 0) : iv_I)) rfl
theorem e85_13 : iv_V call mc_85 rt 13 L st w = iv_d2 st fun a b st' => iv_V call mc_85 rt 14 L (a :: b :: a :: b :: st') w := iv_V_eq (I := (((22, 1), .dup2, 0, 0, 0) : iv_I)) rfl
theorem e85_14 : iv_V call mc_85 rt 14 L st w = iv_ald w st iv_isI fun v st' => iv_V call mc_85 rt 15 L (v :: st') w := iv_V_eq (I := (((23, 1), .iaload, 0, 0, 0) : iv_I)) rfl
theorem e85_15 : iv_V call mc_85 rt 15 L st w = iv_lda L 0 fun x => iv_V call mc_85 rt 16 L (x :: st) w := iv_V_eq (I := (((24, 1), .aload_n 0, 0, 0, 0) : iv_I)) rfl
theorem e85_16 : iv_V call mc_85 rt 16 L st w = iv_gf w st 5 0 fun v st' => iv_V call mc_85 rt 17 L (v :: st') w := iv_V_eq (I := (((25, 3), .getfield 9, 5, 0, 169) : iv_I)) rfl
theorem e85_17 : iv_V call mc_85 rt 17 L st w = iv_ldi L 2 fun x => iv_V call mc_85 rt 18 L (.int x :: st) w := iv_V_eq (I := (((28, 1), .iload_n 2, 0, 0, 0) : iv_I)) rfl
theorem e85_18 : iv_V call mc_85 rt 18 L st w = iv_ald w st iv_isI fun v st' => iv_V call mc_85 rt 19 L (v :: st') w := iv_V_eq (I := (((29, 1), .iaload, 0, 0, 0) : iv_I)) rfl
theorem e85_19 : iv_V call mc_85 rt 19 L st w = iv_p2 st fun x y st' => iv_V call mc_85 rt 20 L (.int (x ||| y) :: st') w := iv_V_eq (I := (((30, 1), .ior, 0, 0, 0) : iv_I)) rfl
theorem e85_20 : iv_V call mc_85 rt 20 L st w = iv_ast w st iv_isI fun st' w' => iv_V call mc_85 rt 21 L (st') w' := iv_V_eq (I := (((31, 1), .iastore, 0, 0, 0) : iv_I)) rfl
theorem e85_21 : iv_V call mc_85 rt 21 L st w = iv_ldi L 3 fun x => iv_sto L 3 (.int (x + 1)) fun L' => iv_V call mc_85 rt 22 L' (st) w := (iv_V_eq (I := (((32, 3), .iinc 3 1, 0, 0, 0) : iv_I)) rfl).trans (congrArg (fun c => iv_ldi L 3 fun x => iv_sto L 3 (.int (x + c)) fun L' => iv_V call mc_85 rt 22 L' (st) w) li_o1)
theorem e85_22 : iv_V call mc_85 rt 22 L st w = iv_V call mc_85 rt 2 L (st) w := iv_V_eq (I := (((35, 3), .goto (-33), 2, 0, 0) : iv_I)) rfl
theorem e85_23 : iv_V call mc_85 rt 23 L st w = iv_rev rt st w := iv_V_eq (I := (((38, 1), .return_, 0, 0, 0) : iv_I)) rfl
theorem e86_0 : iv_V call mc_86 rt 0 L st w = iv_ldi L 1 fun x => iv_V call mc_86 rt 1 L (.int x :: st) w := iv_V_eq (I := (((0, 1), .iload_n 1, 0, 0, 0) : iv_I)) rfl
theorem e86_1 : iv_V call mc_86 rt 1 L st w = iv_V call mc_86 rt 2 L (.int 6 :: st) w := (iv_V_eq (I := (((1, 2), .bipush 6, 0, 0, 0) : iv_I)) rfl).trans (congrArg (fun c => iv_V call mc_86 rt 2 L (.int c :: st) w) li_b6)
theorem e86_2 : iv_V call mc_86 rt 2 L st w = iv_p2 st fun x y st' => if y ≤ x then iv_V call mc_86 rt 8 L (st') w else iv_V call mc_86 rt 3 L (st') w := (iv_V_eq (I := (((3, 3), .if_icmp .ge 12, 8, 0, 0) : iv_I)) rfl).trans (by simp only [iv_go, iv_cnd, decide_eq_true_eq])
theorem e86_3 : iv_V call mc_86 rt 3 L st w = iv_lda L 0 fun x => iv_V call mc_86 rt 4 L (x :: st) w := iv_V_eq (I := (((6, 1), .aload_n 0, 0, 0, 0) : iv_I)) rfl
theorem e86_4 : iv_V call mc_86 rt 4 L st w = iv_gf w st 5 2 fun v st' => iv_V call mc_86 rt 5 L (v :: st') w := iv_V_eq (I := (((7, 3), .getfield 24, 5, 2, 173) : iv_I)) rfl
theorem e86_5 : iv_V call mc_86 rt 5 L st w = iv_ldi L 1 fun x => iv_V call mc_86 rt 6 L (.int x :: st) w := iv_V_eq (I := (((10, 1), .iload_n 1, 0, 0, 0) : iv_I)) rfl
theorem e86_6 : iv_V call mc_86 rt 6 L st w = iv_inv call 95 2 (fun as => iv_rc w as (iv_mc 95)) st w fun st' w' => iv_V call mc_86 rt 7 L (st') w' := iv_V_eq (I := (((11, 3), .invokevirtual 32, 95, 2, 482) : iv_I)) rfl
theorem e86_7 : iv_V call mc_86 rt 7 L st w = iv_ret rt st w := iv_V_eq (I := (((14, 1), .ireturn, 0, 0, 0) : iv_I)) rfl
theorem e86_8 : iv_V call mc_86 rt 8 L st w = iv_ldi L 2 fun x => iv_V call mc_86 rt 9 L (.int x :: st) w := iv_V_eq (I := (((15, 1), .iload_n 2, 0, 0, 0) : iv_I)) rfl
theorem e86_9 : iv_V call mc_86 rt 9 L st w = iv_V call mc_86 rt 10 L (.int 2 :: st) w := (iv_V_eq (I := (((16, 1), .iconst 2, 0, 0, 0) : iv_I)) rfl).trans (congrArg (fun c => iv_V call mc_86 rt 10 L (.int c :: st) w) li_o2)
theorem e86_10 : iv_V call mc_86 rt 10 L st w = iv_p2 st fun x y st' => if x < y then iv_V call mc_86 rt 13 L (st') w else iv_V call mc_86 rt 11 L (st') w := (iv_V_eq (I := (((17, 3), .if_icmp .lt 5, 13, 0, 0) : iv_I)) rfl).trans (by simp only [iv_go, iv_cnd, decide_eq_true_eq])
theorem e86_11 : iv_V call mc_86 rt 11 L st w = iv_V call mc_86 rt 12 L (.int 0 :: st) w := (iv_V_eq (I := (((20, 1), .iconst 0, 0, 0, 0) : iv_I)) rfl).trans (congrArg (fun c => iv_V call mc_86 rt 12 L (.int c :: st) w) li_o0)
theorem e86_12 : iv_V call mc_86 rt 12 L st w = iv_ret rt st w := iv_V_eq (I := (((21, 1), .ireturn, 0, 0, 0) : iv_I)) rfl
theorem e86_13 : iv_V call mc_86 rt 13 L st w = iv_lda L 0 fun x => iv_V call mc_86 rt 14 L (x :: st) w := iv_V_eq (I := (((22, 1), .aload_n 0, 0, 0, 0) : iv_I)) rfl
theorem e86_14 : iv_V call mc_86 rt 14 L st w = iv_gf w st 5 1 fun v st' => iv_V call mc_86 rt 15 L (v :: st') w := iv_V_eq (I := (((23, 3), .getfield 17, 5, 1, 171) : iv_I)) rfl
theorem e86_15 : iv_V call mc_86 rt 15 L st w = iv_ldi L 1 fun x => iv_V call mc_86 rt 16 L (.int x :: st) w := iv_V_eq (I := (((26, 1), .iload_n 1, 0, 0, 0) : iv_I)) rfl
theorem e86_16 : iv_V call mc_86 rt 16 L st w = iv_V call mc_86 rt 17 L (.int 6 :: st) w := (iv_V_eq (I := (((27, 2), .bipush 6, 0, 0, 0) : iv_I)) rfl).trans (congrArg (fun c => iv_V call mc_86 rt 17 L (.int c :: st) w) li_b6)
theorem e86_17 : iv_V call mc_86 rt 17 L st w = iv_p2 st fun x y st' => iv_V call mc_86 rt 18 L (.int (x - y) :: st') w := iv_V_eq (I := (((29, 1), .isub, 0, 0, 0) : iv_I)) rfl
theorem e86_18 : iv_V call mc_86 rt 18 L st w = iv_ald w st iv_isA fun v st' => iv_V call mc_86 rt 19 L (v :: st') w := iv_V_eq (I := (((30, 1), .aaload, 0, 0, 0) : iv_I)) rfl
theorem e86_19 : iv_V call mc_86 rt 19 L st w = iv_as st fun a st' => iv_sto L 3 (.ref a) fun L' => iv_V call mc_86 rt 20 L' (st') w := iv_V_eq (I := (((31, 1), .astore_n 3, 0, 0, 0) : iv_I)) rfl
theorem e86_20 : iv_V call mc_86 rt 20 L st w = iv_V call mc_86 rt 21 L (.int 0 :: st) w := (iv_V_eq (I := (((32, 1), .iconst 0, 0, 0, 0) : iv_I)) rfl).trans (congrArg (fun c => iv_V call mc_86 rt 21 L (.int c :: st) w) li_o0)
theorem e86_21 : iv_V call mc_86 rt 21 L st w = iv_p1 st fun x st' => iv_sto L 4 (.int x) fun L' => iv_V call mc_86 rt 22 L' (st') w := iv_V_eq (I := (((33, 2), .istore 4, 0, 0, 0) : iv_I)) rfl
theorem e86_22 : iv_V call mc_86 rt 22 L st w = iv_ldi L 4 fun x => iv_V call mc_86 rt 23 L (.int x :: st) w := iv_V_eq (I := (((35, 2), .iload 4, 0, 0, 0) : iv_I)) rfl
theorem e86_23 : iv_V call mc_86 rt 23 L st w = iv_lda L 3 fun x => iv_V call mc_86 rt 24 L (x :: st) w := iv_V_eq (I := (((37, 1), .aload_n 3, 0, 0, 0) : iv_I)) rfl
theorem e86_24 : iv_V call mc_86 rt 24 L st w = iv_gf w st 7 1 fun v st' => iv_V call mc_86 rt 25 L (v :: st') w := iv_V_eq (I := (((38, 3), .getfield 36, 7, 1, 71) : iv_I)) rfl
theorem e86_25 : iv_V call mc_86 rt 25 L st w = iv_p2 st fun x y st' => if y ≤ x then iv_V call mc_86 rt 40 L (st') w else iv_V call mc_86 rt 26 L (st') w := (iv_V_eq (I := (((41, 3), .if_icmp .ge 28, 40, 0, 0) : iv_I)) rfl).trans (by simp only [iv_go, iv_cnd, decide_eq_true_eq])
theorem e86_26 : iv_V call mc_86 rt 26 L st w = iv_lda L 0 fun x => iv_V call mc_86 rt 27 L (x :: st) w := iv_V_eq (I := (((44, 1), .aload_n 0, 0, 0, 0) : iv_I)) rfl
theorem e86_27 : iv_V call mc_86 rt 27 L st w = iv_lda L 3 fun x => iv_V call mc_86 rt 28 L (x :: st) w := iv_V_eq (I := (((45, 1), .aload_n 3, 0, 0, 0) : iv_I)) rfl
theorem e86_28 : iv_V call mc_86 rt 28 L st w = iv_gf w st 7 0 fun v st' => iv_V call mc_86 rt 29 L (v :: st') w := iv_V_eq (I := (((46, 3), .getfield 40, 7, 0, 66) : iv_I)) rfl
theorem e86_29 : iv_V call mc_86 rt 29 L st w = iv_ldi L 4 fun x => iv_V call mc_86 rt 30 L (.int x :: st) w := iv_V_eq (I := (((49, 2), .iload 4, 0, 0, 0) : iv_I)) rfl
theorem e86_30 : iv_V call mc_86 rt 30 L st w = iv_ald w st iv_isI fun v st' => iv_V call mc_86 rt 31 L (v :: st') w := iv_V_eq (I := (((51, 1), .iaload, 0, 0, 0) : iv_I)) rfl
theorem e86_31 : iv_V call mc_86 rt 31 L st w = iv_ldi L 2 fun x => iv_V call mc_86 rt 32 L (.int x :: st) w := iv_V_eq (I := (((52, 1), .iload_n 2, 0, 0, 0) : iv_I)) rfl
theorem e86_32 : iv_V call mc_86 rt 32 L st w = iv_V call mc_86 rt 33 L (.int 1 :: st) w := (iv_V_eq (I := (((53, 1), .iconst 1, 0, 0, 0) : iv_I)) rfl).trans (congrArg (fun c => iv_V call mc_86 rt 33 L (.int c :: st) w) li_o1)
theorem e86_33 : iv_V call mc_86 rt 33 L st w = iv_p2 st fun x y st' => iv_V call mc_86 rt 34 L (.int (x + y) :: st') w := iv_V_eq (I := (((54, 1), .iadd, 0, 0, 0) : iv_I)) rfl
theorem e86_34 : iv_V call mc_86 rt 34 L st w = iv_inv call 86 3 (fun as => iv_rc w as (iv_mc 86)) st w fun st' w' => iv_V call mc_86 rt 35 L (st') w' := iv_V_eq (I := (((55, 3), .invokevirtual 43, 86, 3, 483) : iv_I)) rfl
theorem e86_35 : iv_V call mc_86 rt 35 L st w = iv_p1 st fun x st' => if ¬ x = 0 then iv_V call mc_86 rt 38 L (st') w else iv_V call mc_86 rt 36 L (st') w := (iv_V_eq (I := (((58, 3), .ifCond .ne 5, 38, 0, 0) : iv_I)) rfl).trans (by simp only [iv_go, iv_cnd, decide_eq_true_eq])
theorem e86_36 : iv_V call mc_86 rt 36 L st w = iv_V call mc_86 rt 37 L (.int 0 :: st) w := (iv_V_eq (I := (((61, 1), .iconst 0, 0, 0, 0) : iv_I)) rfl).trans (congrArg (fun c => iv_V call mc_86 rt 37 L (.int c :: st) w) li_o0)
theorem e86_37 : iv_V call mc_86 rt 37 L st w = iv_ret rt st w := iv_V_eq (I := (((62, 1), .ireturn, 0, 0, 0) : iv_I)) rfl
theorem e86_38 : iv_V call mc_86 rt 38 L st w = iv_ldi L 4 fun x => iv_sto L 4 (.int (x + 1)) fun L' => iv_V call mc_86 rt 39 L' (st) w := (iv_V_eq (I := (((63, 3), .iinc 4 1, 0, 0, 0) : iv_I)) rfl).trans (congrArg (fun c => iv_ldi L 4 fun x => iv_sto L 4 (.int (x + c)) fun L' => iv_V call mc_86 rt 39 L' (st) w) li_o1)
theorem e86_39 : iv_V call mc_86 rt 39 L st w = iv_V call mc_86 rt 22 L (st) w := iv_V_eq (I := (((66, 3), .goto (-31), 22, 0, 0) : iv_I)) rfl
theorem e86_40 : iv_V call mc_86 rt 40 L st w = iv_V call mc_86 rt 41 L (.int 1 :: st) w := (iv_V_eq (I := (((69, 1), .iconst 1, 0, 0, 0) : iv_I)) rfl).trans (congrArg (fun c => iv_V call mc_86 rt 41 L (.int c :: st) w) li_o1)
theorem e86_41 : iv_V call mc_86 rt 41 L st w = iv_ret rt st w := iv_V_eq (I := (((70, 1), .ireturn, 0, 0, 0) : iv_I)) rfl
theorem e87_0 : iv_V call mc_87 rt 0 L st w = iv_lda L 0 fun x => iv_V call mc_87 rt 1 L (x :: st) w := iv_V_eq (I := (((0, 1), .aload_n 0, 0, 0, 0) : iv_I)) rfl
theorem e87_1 : iv_V call mc_87 rt 1 L st w = iv_oi st fun st' => iv_V call mc_87 rt 2 L (st') w := iv_V_eq (I := (((1, 3), .invokespecial 3, 0, 1, 211) : iv_I)) rfl
theorem e87_2 : iv_V call mc_87 rt 2 L st w = iv_lda L 0 fun x => iv_V call mc_87 rt 3 L (x :: st) w := iv_V_eq (I := (((4, 1), .aload_n 0, 0, 0, 0) : iv_I)) rfl
theorem e87_3 : iv_V call mc_87 rt 3 L st w = iv_V call mc_87 rt 4 L (.int 0 :: st) w := (iv_V_eq (I := (((5, 1), .iconst 0, 0, 0, 0) : iv_I)) rfl).trans (congrArg (fun c => iv_V call mc_87 rt 4 L (.int c :: st) w) li_o0)
theorem e87_4 : iv_V call mc_87 rt 4 L st w = iv_pf w st 6 0 fun st' w' => iv_V call mc_87 rt 5 L (st') w' := iv_V_eq (I := (((6, 3), .putfield 9, 6, 0, 215) : iv_I)) rfl
theorem e87_5 : iv_V call mc_87 rt 5 L st w = iv_lda L 0 fun x => iv_V call mc_87 rt 6 L (x :: st) w := iv_V_eq (I := (((9, 1), .aload_n 0, 0, 0, 0) : iv_I)) rfl
theorem e87_6 : iv_V call mc_87 rt 6 L st w = iv_V call mc_87 rt 7 L (.int 24 :: st) w := (iv_V_eq (I := (((10, 2), .bipush 24, 0, 0, 0) : iv_I)) rfl).trans (congrArg (fun c => iv_V call mc_87 rt 7 L (.int c :: st) w) li_b24)
theorem e87_7 : iv_V call mc_87 rt 7 L st w = iv_V call mc_87 rt 8 L (.int 6 :: st) w := (iv_V_eq (I := (((12, 2), .bipush 6, 0, 0, 0) : iv_I)) rfl).trans (congrArg (fun c => iv_V call mc_87 rt 8 L (.int c :: st) w) li_b6)
theorem e87_8 : iv_V call mc_87 rt 8 L st w = iv_p2 st fun n m st' => iv_nm w 103 100 (.int 0) n m fun v w' => iv_V call mc_87 rt 9 L (v :: st') w' := iv_V_eq (I := (((14, 4), .multianewarray 15 2, 103, 100, 212) : iv_I)) rfl
theorem e87_9 : iv_V call mc_87 rt 9 L st w = iv_pf w st 6 1 fun st' w' => iv_V call mc_87 rt 10 L (st') w' := iv_V_eq (I := (((18, 3), .putfield 17, 6, 1, 218) : iv_I)) rfl
theorem e87_10 : iv_V call mc_87 rt 10 L st w = iv_lda L 0 fun x => iv_V call mc_87 rt 11 L (x :: st) w := iv_V_eq (I := (((21, 1), .aload_n 0, 0, 0, 0) : iv_I)) rfl
theorem e87_11 : iv_V call mc_87 rt 11 L st w = iv_V call mc_87 rt 12 L (.int 24 :: st) w := (iv_V_eq (I := (((22, 2), .bipush 24, 0, 0, 0) : iv_I)) rfl).trans (congrArg (fun c => iv_V call mc_87 rt 12 L (.int c :: st) w) li_b24)
theorem e87_12 : iv_V call mc_87 rt 12 L st w = iv_p1 st fun n st' => iv_na w 106 .null n fun v w' => iv_V call mc_87 rt 13 L (v :: st') w' := iv_V_eq (I := (((24, 3), .anewarray 20, 106, 0, 213) : iv_I)) rfl
theorem e87_13 : iv_V call mc_87 rt 13 L st w = iv_pf w st 6 2 fun st' w' => iv_V call mc_87 rt 14 L (st') w' := iv_V_eq (I := (((27, 3), .putfield 22, 6, 2, 220) : iv_I)) rfl
theorem e87_14 : iv_V call mc_87 rt 14 L st w = iv_V call mc_87 rt 15 L (.int 0 :: st) w := (iv_V_eq (I := (((30, 1), .iconst 0, 0, 0, 0) : iv_I)) rfl).trans (congrArg (fun c => iv_V call mc_87 rt 15 L (.int c :: st) w) li_o0)
theorem e87_15 : iv_V call mc_87 rt 15 L st w = iv_p1 st fun x st' => iv_sto L 1 (.int x) fun L' => iv_V call mc_87 rt 16 L' (st') w := iv_V_eq (I := (((31, 1), .istore_n 1, 0, 0, 0) : iv_I)) rfl
theorem e87_16 : iv_V call mc_87 rt 16 L st w = iv_ldi L 1 fun x => iv_V call mc_87 rt 17 L (.int x :: st) w := iv_V_eq (I := (((32, 1), .iload_n 1, 0, 0, 0) : iv_I)) rfl
theorem e87_17 : iv_V call mc_87 rt 17 L st w = iv_V call mc_87 rt 18 L (.int 24 :: st) w := (iv_V_eq (I := (((33, 2), .bipush 24, 0, 0, 0) : iv_I)) rfl).trans (congrArg (fun c => iv_V call mc_87 rt 18 L (.int c :: st) w) li_b24)
theorem e87_18 : iv_V call mc_87 rt 18 L st w = iv_p2 st fun x y st' => if y ≤ x then iv_V call mc_87 rt 29 L (st') w else iv_V call mc_87 rt 19 L (st') w := (iv_V_eq (I := (((35, 3), .if_icmp .ge 24, 29, 0, 0) : iv_I)) rfl).trans (by simp only [iv_go, iv_cnd, decide_eq_true_eq])
theorem e87_19 : iv_V call mc_87 rt 19 L st w = iv_lda L 0 fun x => iv_V call mc_87 rt 20 L (x :: st) w := iv_V_eq (I := (((38, 1), .aload_n 0, 0, 0, 0) : iv_I)) rfl
theorem e87_20 : iv_V call mc_87 rt 20 L st w = iv_gf w st 6 2 fun v st' => iv_V call mc_87 rt 21 L (v :: st') w := iv_V_eq (I := (((39, 3), .getfield 22, 6, 2, 220) : iv_I)) rfl
theorem e87_21 : iv_V call mc_87 rt 21 L st w = iv_ldi L 1 fun x => iv_V call mc_87 rt 22 L (.int x :: st) w := iv_V_eq (I := (((42, 1), .iload_n 1, 0, 0, 0) : iv_I)) rfl
theorem e87_22 : iv_V call mc_87 rt 22 L st w = iv_nw w 7 fun v w' => iv_V call mc_87 rt 23 L (v :: st) w' := iv_V_eq (I := (((43, 3), .new 20, 7, 0, 213) : iv_I)) rfl
theorem e87_23 : iv_V call mc_87 rt 23 L st w = iv_d1 st fun a st' => iv_V call mc_87 rt 24 L (a :: a :: st') w := iv_V_eq (I := (((46, 1), .dup, 0, 0, 0) : iv_I)) rfl
theorem e87_24 : iv_V call mc_87 rt 24 L st w = iv_V call mc_87 rt 25 L (.int 16 :: st) w := (iv_V_eq (I := (((47, 2), .bipush 16, 0, 0, 0) : iv_I)) rfl).trans (congrArg (fun c => iv_V call mc_87 rt 25 L (.int c :: st) w) li_b16)
theorem e87_25 : iv_V call mc_87 rt 25 L st w = iv_inv call 94 2 iv_isr st w fun st' w' => iv_V call mc_87 rt 26 L (st') w' := iv_V_eq (I := (((49, 3), .invokespecial 26, 94, 2, 214) : iv_I)) rfl
theorem e87_26 : iv_V call mc_87 rt 26 L st w = iv_ust w st fun st' w' => iv_V call mc_87 rt 27 L (st') w' := iv_V_eq (I := (((52, 1), .aastore, 0, 0, 0) : iv_I)) rfl
theorem e87_27 : iv_V call mc_87 rt 27 L st w = iv_ldi L 1 fun x => iv_sto L 1 (.int (x + 1)) fun L' => iv_V call mc_87 rt 28 L' (st) w := (iv_V_eq (I := (((53, 3), .iinc 1 1, 0, 0, 0) : iv_I)) rfl).trans (congrArg (fun c => iv_ldi L 1 fun x => iv_sto L 1 (.int (x + c)) fun L' => iv_V call mc_87 rt 28 L' (st) w) li_o1)
theorem e87_28 : iv_V call mc_87 rt 28 L st w = iv_V call mc_87 rt 16 L (st) w := iv_V_eq (I := (((56, 3), .goto (-24), 16, 0, 0) : iv_I)) rfl
theorem e87_29 : iv_V call mc_87 rt 29 L st w = iv_lda L 0 fun x => iv_V call mc_87 rt 30 L (x :: st) w := iv_V_eq (I := (((59, 1), .aload_n 0, 0, 0, 0) : iv_I)) rfl
theorem e87_30 : iv_V call mc_87 rt 30 L st w = iv_nw w 7 fun v w' => iv_V call mc_87 rt 31 L (v :: st) w' := iv_V_eq (I := (((60, 3), .new 20, 7, 0, 213) : iv_I)) rfl
theorem e87_31 : iv_V call mc_87 rt 31 L st w = iv_d1 st fun a st' => iv_V call mc_87 rt 32 L (a :: a :: st') w := iv_V_eq (I := (((63, 1), .dup, 0, 0, 0) : iv_I)) rfl
theorem e87_32 : iv_V call mc_87 rt 32 L st w = iv_V call mc_87 rt 33 L (.int 16 :: st) w := (iv_V_eq (I := (((64, 2), .bipush 16, 0, 0, 0) : iv_I)) rfl).trans (congrArg (fun c => iv_V call mc_87 rt 33 L (.int c :: st) w) li_b16)
theorem e87_33 : iv_V call mc_87 rt 33 L st w = iv_inv call 94 2 iv_isr st w fun st' w' => iv_V call mc_87 rt 34 L (st') w' := iv_V_eq (I := (((66, 3), .invokespecial 26, 94, 2, 214) : iv_I)) rfl
theorem e87_34 : iv_V call mc_87 rt 34 L st w = iv_pf w st 6 3 fun st' w' => iv_V call mc_87 rt 35 L (st') w' := iv_V_eq (I := (((69, 3), .putfield 29, 6, 3, 221) : iv_I)) rfl
theorem e87_35 : iv_V call mc_87 rt 35 L st w = iv_lda L 0 fun x => iv_V call mc_87 rt 36 L (x :: st) w := iv_V_eq (I := (((72, 1), .aload_n 0, 0, 0, 0) : iv_I)) rfl
theorem e87_36 : iv_V call mc_87 rt 36 L st w = iv_V call mc_87 rt 37 L (.int 112 :: st) w := (iv_V_eq (I := (((73, 2), .bipush 112, 0, 0, 0) : iv_I)) rfl).trans (congrArg (fun c => iv_V call mc_87 rt 37 L (.int c :: st) w) li_b112)
theorem e87_37 : iv_V call mc_87 rt 37 L st w = iv_p1 st fun n st' => iv_na w 102 (.int 0) n fun v w' => iv_V call mc_87 rt 38 L (v :: st') w' := iv_V_eq (I := (((75, 2), .newarray .char, 102, 0, 240) : iv_I)) rfl
theorem e87_38 : iv_V call mc_87 rt 38 L st w = iv_pf w st 6 4 fun st' w' => iv_V call mc_87 rt 39 L (st') w' := iv_V_eq (I := (((77, 3), .putfield 33, 6, 4, 223) : iv_I)) rfl
theorem e87_39 : iv_V call mc_87 rt 39 L st w = iv_lda L 0 fun x => iv_V call mc_87 rt 40 L (x :: st) w := iv_V_eq (I := (((80, 1), .aload_n 0, 0, 0, 0) : iv_I)) rfl
theorem e87_40 : iv_V call mc_87 rt 40 L st w = iv_V call mc_87 rt 41 L (.int 0 :: st) w := (iv_V_eq (I := (((81, 1), .iconst 0, 0, 0, 0) : iv_I)) rfl).trans (congrArg (fun c => iv_V call mc_87 rt 41 L (.int c :: st) w) li_o0)
theorem e87_41 : iv_V call mc_87 rt 41 L st w = iv_pf w st 6 5 fun st' w' => iv_V call mc_87 rt 42 L (st') w' := iv_V_eq (I := (((82, 3), .putfield 37, 6, 5, 225) : iv_I)) rfl
theorem e87_42 : iv_V call mc_87 rt 42 L st w = iv_rev rt st w := iv_V_eq (I := (((85, 1), .return_, 0, 0, 0) : iv_I)) rfl
theorem e88_0 : iv_V call mc_88 rt 0 L st w = iv_ldi L 1 fun x => iv_V call mc_88 rt 1 L (.int x :: st) w := iv_V_eq (I := (((0, 1), .iload_n 1, 0, 0, 0) : iv_I)) rfl
theorem e88_1 : iv_V call mc_88 rt 1 L st w = iv_p1 st fun x st' => if x < 0 then iv_V call mc_88 rt 8 L (st') w else iv_V call mc_88 rt 2 L (st') w := (iv_V_eq (I := (((1, 3), .ifCond .lt 15, 8, 0, 0) : iv_I)) rfl).trans (by simp only [iv_go, iv_cnd, decide_eq_true_eq])
theorem e88_2 : iv_V call mc_88 rt 2 L st w = iv_ldi L 1 fun x => iv_V call mc_88 rt 3 L (.int x :: st) w := iv_V_eq (I := (((4, 1), .iload_n 1, 0, 0, 0) : iv_I)) rfl
theorem e88_3 : iv_V call mc_88 rt 3 L st w = iv_lda L 0 fun x => iv_V call mc_88 rt 4 L (x :: st) w := iv_V_eq (I := (((5, 1), .aload_n 0, 0, 0, 0) : iv_I)) rfl
theorem e88_4 : iv_V call mc_88 rt 4 L st w = iv_gf w st 6 0 fun v st' => iv_V call mc_88 rt 5 L (v :: st') w := iv_V_eq (I := (((6, 3), .getfield 9, 6, 0, 215) : iv_I)) rfl
theorem e88_5 : iv_V call mc_88 rt 5 L st w = iv_p2 st fun x y st' => if y ≤ x then iv_V call mc_88 rt 8 L (st') w else iv_V call mc_88 rt 6 L (st') w := (iv_V_eq (I := (((9, 3), .if_icmp .ge 7, 8, 0, 0) : iv_I)) rfl).trans (by simp only [iv_go, iv_cnd, decide_eq_true_eq])
theorem e88_6 : iv_V call mc_88 rt 6 L st w = iv_V call mc_88 rt 7 L (.int 1 :: st) w := (iv_V_eq (I := (((12, 1), .iconst 1, 0, 0, 0) : iv_I)) rfl).trans (congrArg (fun c => iv_V call mc_88 rt 7 L (.int c :: st) w) li_o1)
theorem e88_7 : iv_V call mc_88 rt 7 L st w = iv_V call mc_88 rt 9 L (st) w := iv_V_eq (I := (((13, 3), .goto 4, 9, 0, 0) : iv_I)) rfl
theorem e88_8 : iv_V call mc_88 rt 8 L st w = iv_V call mc_88 rt 9 L (.int 0 :: st) w := (iv_V_eq (I := (((16, 1), .iconst 0, 0, 0, 0) : iv_I)) rfl).trans (congrArg (fun c => iv_V call mc_88 rt 9 L (.int c :: st) w) li_o0)
theorem e88_9 : iv_V call mc_88 rt 9 L st w = iv_ret rt st w := iv_V_eq (I := (((17, 1), .ireturn, 0, 0, 0) : iv_I)) rfl
theorem e89_0 : iv_V call mc_89 rt 0 L st w = iv_lda L 0 fun x => iv_V call mc_89 rt 1 L (x :: st) w := iv_V_eq (I := (((0, 1), .aload_n 0, 0, 0, 0) : iv_I)) rfl
theorem e89_1 : iv_V call mc_89 rt 1 L st w = iv_gf w st 6 0 fun v st' => iv_V call mc_89 rt 2 L (v :: st') w := iv_V_eq (I := (((1, 3), .getfield 9, 6, 0, 215) : iv_I)) rfl
theorem e89_2 : iv_V call mc_89 rt 2 L st w = iv_V call mc_89 rt 3 L (.int 24 :: st) w := (iv_V_eq (I := (((4, 2), .bipush 24, 0, 0, 0) : iv_I)) rfl).trans (congrArg (fun c => iv_V call mc_89 rt 3 L (.int c :: st) w) li_b24)
theorem e89_3 : iv_V call mc_89 rt 3 L st w = iv_p2 st fun x y st' => if x < y then iv_V call mc_89 rt 6 L (st') w else iv_V call mc_89 rt 4 L (st') w := (iv_V_eq (I := (((6, 3), .if_icmp .lt 5, 6, 0, 0) : iv_I)) rfl).trans (by simp only [iv_go, iv_cnd, decide_eq_true_eq])
theorem e89_4 : iv_V call mc_89 rt 4 L st w = iv_V call mc_89 rt 5 L (.int 0 :: st) w := (iv_V_eq (I := (((9, 1), .iconst 0, 0, 0, 0) : iv_I)) rfl).trans (congrArg (fun c => iv_V call mc_89 rt 5 L (.int c :: st) w) li_o0)
theorem e89_5 : iv_V call mc_89 rt 5 L st w = iv_ret rt st w := iv_V_eq (I := (((10, 1), .ireturn, 0, 0, 0) : iv_I)) rfl
theorem e89_6 : iv_V call mc_89 rt 6 L st w = iv_lda L 0 fun x => iv_V call mc_89 rt 7 L (x :: st) w := iv_V_eq (I := (((11, 1), .aload_n 0, 0, 0, 0) : iv_I)) rfl
theorem e89_7 : iv_V call mc_89 rt 7 L st w = iv_gf w st 6 1 fun v st' => iv_V call mc_89 rt 8 L (v :: st') w := iv_V_eq (I := (((12, 3), .getfield 17, 6, 1, 218) : iv_I)) rfl
theorem e89_8 : iv_V call mc_89 rt 8 L st w = iv_lda L 0 fun x => iv_V call mc_89 rt 9 L (x :: st) w := iv_V_eq (I := (((15, 1), .aload_n 0, 0, 0, 0) : iv_I)) rfl
theorem e89_9 : iv_V call mc_89 rt 9 L st w = iv_gf w st 6 0 fun v st' => iv_V call mc_89 rt 10 L (v :: st') w := iv_V_eq (I := (((16, 3), .getfield 9, 6, 0, 215) : iv_I)) rfl
theorem e89_10 : iv_V call mc_89 rt 10 L st w = iv_ald w st iv_isA fun v st' => iv_V call mc_89 rt 11 L (v :: st') w := iv_V_eq (I := (((19, 1), .aaload, 0, 0, 0) : iv_I)) rfl
theorem e89_11 : iv_V call mc_89 rt 11 L st w = iv_as st fun a st' => iv_sto L 7 (.ref a) fun L' => iv_V call mc_89 rt 12 L' (st') w := iv_V_eq (I := (((20, 2), .astore 7, 0, 0, 0) : iv_I)) rfl
theorem e89_12 : iv_V call mc_89 rt 12 L st w = iv_lda L 7 fun x => iv_V call mc_89 rt 13 L (x :: st) w := iv_V_eq (I := (((22, 2), .aload 7, 0, 0, 0) : iv_I)) rfl
theorem e89_13 : iv_V call mc_89 rt 13 L st w = iv_V call mc_89 rt 14 L (.int 0 :: st) w := (iv_V_eq (I := (((24, 1), .iconst 0, 0, 0, 0) : iv_I)) rfl).trans (congrArg (fun c => iv_V call mc_89 rt 14 L (.int c :: st) w) li_o0)
theorem e89_14 : iv_V call mc_89 rt 14 L st w = iv_ldi L 1 fun x => iv_V call mc_89 rt 15 L (.int x :: st) w := iv_V_eq (I := (((25, 1), .iload_n 1, 0, 0, 0) : iv_I)) rfl
theorem e89_15 : iv_V call mc_89 rt 15 L st w = iv_ast w st iv_isI fun st' w' => iv_V call mc_89 rt 16 L (st') w' := iv_V_eq (I := (((26, 1), .iastore, 0, 0, 0) : iv_I)) rfl
theorem e89_16 : iv_V call mc_89 rt 16 L st w = iv_lda L 7 fun x => iv_V call mc_89 rt 17 L (x :: st) w := iv_V_eq (I := (((27, 2), .aload 7, 0, 0, 0) : iv_I)) rfl
theorem e89_17 : iv_V call mc_89 rt 17 L st w = iv_V call mc_89 rt 18 L (.int 1 :: st) w := (iv_V_eq (I := (((29, 1), .iconst 1, 0, 0, 0) : iv_I)) rfl).trans (congrArg (fun c => iv_V call mc_89 rt 18 L (.int c :: st) w) li_o1)
theorem e89_18 : iv_V call mc_89 rt 18 L st w = iv_ldi L 2 fun x => iv_V call mc_89 rt 19 L (.int x :: st) w := iv_V_eq (I := (((30, 1), .iload_n 2, 0, 0, 0) : iv_I)) rfl
theorem e89_19 : iv_V call mc_89 rt 19 L st w = iv_ast w st iv_isI fun st' w' => iv_V call mc_89 rt 20 L (st') w' := iv_V_eq (I := (((31, 1), .iastore, 0, 0, 0) : iv_I)) rfl
theorem e89_20 : iv_V call mc_89 rt 20 L st w = iv_lda L 7 fun x => iv_V call mc_89 rt 21 L (x :: st) w := iv_V_eq (I := (((32, 2), .aload 7, 0, 0, 0) : iv_I)) rfl
theorem e89_21 : iv_V call mc_89 rt 21 L st w = iv_V call mc_89 rt 22 L (.int 2 :: st) w := (iv_V_eq (I := (((34, 1), .iconst 2, 0, 0, 0) : iv_I)) rfl).trans (congrArg (fun c => iv_V call mc_89 rt 22 L (.int c :: st) w) li_o2)
theorem e89_22 : iv_V call mc_89 rt 22 L st w = iv_ldi L 3 fun x => iv_V call mc_89 rt 23 L (.int x :: st) w := iv_V_eq (I := (((35, 1), .iload_n 3, 0, 0, 0) : iv_I)) rfl
theorem e89_23 : iv_V call mc_89 rt 23 L st w = iv_ast w st iv_isI fun st' w' => iv_V call mc_89 rt 24 L (st') w' := iv_V_eq (I := (((36, 1), .iastore, 0, 0, 0) : iv_I)) rfl
theorem e89_24 : iv_V call mc_89 rt 24 L st w = iv_lda L 7 fun x => iv_V call mc_89 rt 25 L (x :: st) w := iv_V_eq (I := (((37, 2), .aload 7, 0, 0, 0) : iv_I)) rfl
theorem e89_25 : iv_V call mc_89 rt 25 L st w = iv_V call mc_89 rt 26 L (.int 3 :: st) w := (iv_V_eq (I := (((39, 1), .iconst 3, 0, 0, 0) : iv_I)) rfl).trans (congrArg (fun c => iv_V call mc_89 rt 26 L (.int c :: st) w) li_o3)
theorem e89_26 : iv_V call mc_89 rt 26 L st w = iv_ldi L 4 fun x => iv_V call mc_89 rt 27 L (.int x :: st) w := iv_V_eq (I := (((40, 2), .iload 4, 0, 0, 0) : iv_I)) rfl
theorem e89_27 : iv_V call mc_89 rt 27 L st w = iv_ast w st iv_isI fun st' w' => iv_V call mc_89 rt 28 L (st') w' := iv_V_eq (I := (((42, 1), .iastore, 0, 0, 0) : iv_I)) rfl
theorem e89_28 : iv_V call mc_89 rt 28 L st w = iv_lda L 7 fun x => iv_V call mc_89 rt 29 L (x :: st) w := iv_V_eq (I := (((43, 2), .aload 7, 0, 0, 0) : iv_I)) rfl
theorem e89_29 : iv_V call mc_89 rt 29 L st w = iv_V call mc_89 rt 30 L (.int 4 :: st) w := (iv_V_eq (I := (((45, 1), .iconst 4, 0, 0, 0) : iv_I)) rfl).trans (congrArg (fun c => iv_V call mc_89 rt 30 L (.int c :: st) w) li_o4)
theorem e89_30 : iv_V call mc_89 rt 30 L st w = iv_ldi L 5 fun x => iv_V call mc_89 rt 31 L (.int x :: st) w := iv_V_eq (I := (((46, 2), .iload 5, 0, 0, 0) : iv_I)) rfl
theorem e89_31 : iv_V call mc_89 rt 31 L st w = iv_ast w st iv_isI fun st' w' => iv_V call mc_89 rt 32 L (st') w' := iv_V_eq (I := (((48, 1), .iastore, 0, 0, 0) : iv_I)) rfl
theorem e89_32 : iv_V call mc_89 rt 32 L st w = iv_lda L 7 fun x => iv_V call mc_89 rt 33 L (x :: st) w := iv_V_eq (I := (((49, 2), .aload 7, 0, 0, 0) : iv_I)) rfl
theorem e89_33 : iv_V call mc_89 rt 33 L st w = iv_V call mc_89 rt 34 L (.int 5 :: st) w := (iv_V_eq (I := (((51, 1), .iconst 5, 0, 0, 0) : iv_I)) rfl).trans (congrArg (fun c => iv_V call mc_89 rt 34 L (.int c :: st) w) li_o5)
theorem e89_34 : iv_V call mc_89 rt 34 L st w = iv_ldi L 6 fun x => iv_V call mc_89 rt 35 L (.int x :: st) w := iv_V_eq (I := (((52, 2), .iload 6, 0, 0, 0) : iv_I)) rfl
theorem e89_35 : iv_V call mc_89 rt 35 L st w = iv_ast w st iv_isI fun st' w' => iv_V call mc_89 rt 36 L (st') w' := iv_V_eq (I := (((54, 1), .iastore, 0, 0, 0) : iv_I)) rfl
theorem e89_36 : iv_V call mc_89 rt 36 L st w = iv_lda L 0 fun x => iv_V call mc_89 rt 37 L (x :: st) w := iv_V_eq (I := (((55, 1), .aload_n 0, 0, 0, 0) : iv_I)) rfl
theorem e89_37 : iv_V call mc_89 rt 37 L st w = iv_gf w st 6 2 fun v st' => iv_V call mc_89 rt 38 L (v :: st') w := iv_V_eq (I := (((56, 3), .getfield 22, 6, 2, 220) : iv_I)) rfl
theorem e89_38 : iv_V call mc_89 rt 38 L st w = iv_lda L 0 fun x => iv_V call mc_89 rt 39 L (x :: st) w := iv_V_eq (I := (((59, 1), .aload_n 0, 0, 0, 0) : iv_I)) rfl
theorem e89_39 : iv_V call mc_89 rt 39 L st w = iv_gf w st 6 0 fun v st' => iv_V call mc_89 rt 40 L (v :: st') w := iv_V_eq (I := (((60, 3), .getfield 9, 6, 0, 215) : iv_I)) rfl
theorem e89_40 : iv_V call mc_89 rt 40 L st w = iv_ald w st iv_isA fun v st' => iv_V call mc_89 rt 41 L (v :: st') w := iv_V_eq (I := (((63, 1), .aaload, 0, 0, 0) : iv_I)) rfl
theorem e89_41 : iv_V call mc_89 rt 41 L st w = iv_as st fun a st' => iv_sto L 8 (.ref a) fun L' => iv_V call mc_89 rt 42 L' (st') w := iv_V_eq (I := (((64, 2), .astore 8, 0, 0, 0) : iv_I)) rfl
theorem e89_42 : iv_V call mc_89 rt 42 L st w = iv_V call mc_89 rt 43 L (.int 0 :: st) w := (iv_V_eq (I := (((66, 1), .iconst 0, 0, 0, 0) : iv_I)) rfl).trans (congrArg (fun c => iv_V call mc_89 rt 43 L (.int c :: st) w) li_o0)
theorem e89_43 : iv_V call mc_89 rt 43 L st w = iv_p1 st fun x st' => iv_sto L 9 (.int x) fun L' => iv_V call mc_89 rt 44 L' (st') w := iv_V_eq (I := (((67, 2), .istore 9, 0, 0, 0) : iv_I)) rfl
theorem e89_44 : iv_V call mc_89 rt 44 L st w = iv_ldi L 9 fun x => iv_V call mc_89 rt 45 L (.int x :: st) w := iv_V_eq (I := (((69, 2), .iload 9, 0, 0, 0) : iv_I)) rfl
theorem e89_45 : iv_V call mc_89 rt 45 L st w = iv_lda L 0 fun x => iv_V call mc_89 rt 46 L (x :: st) w := iv_V_eq (I := (((71, 1), .aload_n 0, 0, 0, 0) : iv_I)) rfl
theorem e89_46 : iv_V call mc_89 rt 46 L st w = iv_gf w st 6 3 fun v st' => iv_V call mc_89 rt 47 L (v :: st') w := iv_V_eq (I := (((72, 3), .getfield 29, 6, 3, 221) : iv_I)) rfl
theorem e89_47 : iv_V call mc_89 rt 47 L st w = iv_gf w st 7 1 fun v st' => iv_V call mc_89 rt 48 L (v :: st') w := iv_V_eq (I := (((75, 3), .getfield 40, 7, 1, 69) : iv_I)) rfl
theorem e89_48 : iv_V call mc_89 rt 48 L st w = iv_p2 st fun x y st' => if y ≤ x then iv_V call mc_89 rt 60 L (st') w else iv_V call mc_89 rt 49 L (st') w := (iv_V_eq (I := (((78, 3), .if_icmp .ge 27, 60, 0, 0) : iv_I)) rfl).trans (by simp only [iv_go, iv_cnd, decide_eq_true_eq])
theorem e89_49 : iv_V call mc_89 rt 49 L st w = iv_lda L 8 fun x => iv_V call mc_89 rt 50 L (x :: st) w := iv_V_eq (I := (((81, 2), .aload 8, 0, 0, 0) : iv_I)) rfl
theorem e89_50 : iv_V call mc_89 rt 50 L st w = iv_gf w st 7 0 fun v st' => iv_V call mc_89 rt 51 L (v :: st') w := iv_V_eq (I := (((83, 3), .getfield 43, 7, 0, 64) : iv_I)) rfl
theorem e89_51 : iv_V call mc_89 rt 51 L st w = iv_ldi L 9 fun x => iv_V call mc_89 rt 52 L (.int x :: st) w := iv_V_eq (I := (((86, 2), .iload 9, 0, 0, 0) : iv_I)) rfl
theorem e89_52 : iv_V call mc_89 rt 52 L st w = iv_lda L 0 fun x => iv_V call mc_89 rt 53 L (x :: st) w := iv_V_eq (I := (((88, 1), .aload_n 0, 0, 0, 0) : iv_I)) rfl
theorem e89_53 : iv_V call mc_89 rt 53 L st w = iv_gf w st 6 3 fun v st' => iv_V call mc_89 rt 54 L (v :: st') w := iv_V_eq (I := (((89, 3), .getfield 29, 6, 3, 221) : iv_I)) rfl
theorem e89_54 : iv_V call mc_89 rt 54 L st w = iv_gf w st 7 0 fun v st' => iv_V call mc_89 rt 55 L (v :: st') w := iv_V_eq (I := (((92, 3), .getfield 43, 7, 0, 64) : iv_I)) rfl
theorem e89_55 : iv_V call mc_89 rt 55 L st w = iv_ldi L 9 fun x => iv_V call mc_89 rt 56 L (.int x :: st) w := iv_V_eq (I := (((95, 2), .iload 9, 0, 0, 0) : iv_I)) rfl
theorem e89_56 : iv_V call mc_89 rt 56 L st w = iv_ald w st iv_isI fun v st' => iv_V call mc_89 rt 57 L (v :: st') w := iv_V_eq (I := (((97, 1), .iaload, 0, 0, 0) : iv_I)) rfl
theorem e89_57 : iv_V call mc_89 rt 57 L st w = iv_ast w st iv_isI fun st' w' => iv_V call mc_89 rt 58 L (st') w' := iv_V_eq (I := (((98, 1), .iastore, 0, 0, 0) : iv_I)) rfl
theorem e89_58 : iv_V call mc_89 rt 58 L st w = iv_ldi L 9 fun x => iv_sto L 9 (.int (x + 1)) fun L' => iv_V call mc_89 rt 59 L' (st) w := (iv_V_eq (I := (((99, 3), .iinc 9 1, 0, 0, 0) : iv_I)) rfl).trans (congrArg (fun c => iv_ldi L 9 fun x => iv_sto L 9 (.int (x + c)) fun L' => iv_V call mc_89 rt 59 L' (st) w) li_o1)
theorem e89_59 : iv_V call mc_89 rt 59 L st w = iv_V call mc_89 rt 44 L (st) w := iv_V_eq (I := (((102, 3), .goto (-33), 44, 0, 0) : iv_I)) rfl
theorem e89_60 : iv_V call mc_89 rt 60 L st w = iv_lda L 8 fun x => iv_V call mc_89 rt 61 L (x :: st) w := iv_V_eq (I := (((105, 2), .aload 8, 0, 0, 0) : iv_I)) rfl
theorem e89_61 : iv_V call mc_89 rt 61 L st w = iv_lda L 0 fun x => iv_V call mc_89 rt 62 L (x :: st) w := iv_V_eq (I := (((107, 1), .aload_n 0, 0, 0, 0) : iv_I)) rfl
theorem e89_62 : iv_V call mc_89 rt 62 L st w = iv_gf w st 6 3 fun v st' => iv_V call mc_89 rt 63 L (v :: st') w := iv_V_eq (I := (((108, 3), .getfield 29, 6, 3, 221) : iv_I)) rfl
theorem e89_63 : iv_V call mc_89 rt 63 L st w = iv_gf w st 7 1 fun v st' => iv_V call mc_89 rt 64 L (v :: st') w := iv_V_eq (I := (((111, 3), .getfield 40, 7, 1, 69) : iv_I)) rfl
theorem e89_64 : iv_V call mc_89 rt 64 L st w = iv_pf w st 7 1 fun st' w' => iv_V call mc_89 rt 65 L (st') w' := iv_V_eq (I := (((114, 3), .putfield 40, 7, 1, 69) : iv_I)) rfl
theorem e89_65 : iv_V call mc_89 rt 65 L st w = iv_lda L 0 fun x => iv_V call mc_89 rt 66 L (x :: st) w := iv_V_eq (I := (((117, 1), .aload_n 0, 0, 0, 0) : iv_I)) rfl
theorem e89_66 : iv_V call mc_89 rt 66 L st w = iv_d1 st fun a st' => iv_V call mc_89 rt 67 L (a :: a :: st') w := iv_V_eq (I := (((118, 1), .dup, 0, 0, 0) : iv_I)) rfl
theorem e89_67 : iv_V call mc_89 rt 67 L st w = iv_gf w st 6 0 fun v st' => iv_V call mc_89 rt 68 L (v :: st') w := iv_V_eq (I := (((119, 3), .getfield 9, 6, 0, 215) : iv_I)) rfl
theorem e89_68 : iv_V call mc_89 rt 68 L st w = iv_V call mc_89 rt 69 L (.int 1 :: st) w := (iv_V_eq (I := (((122, 1), .iconst 1, 0, 0, 0) : iv_I)) rfl).trans (congrArg (fun c => iv_V call mc_89 rt 69 L (.int c :: st) w) li_o1)
theorem e89_69 : iv_V call mc_89 rt 69 L st w = iv_p2 st fun x y st' => iv_V call mc_89 rt 70 L (.int (x + y) :: st') w := iv_V_eq (I := (((123, 1), .iadd, 0, 0, 0) : iv_I)) rfl
theorem e89_70 : iv_V call mc_89 rt 70 L st w = iv_pf w st 6 0 fun st' w' => iv_V call mc_89 rt 71 L (st') w' := iv_V_eq (I := (((124, 3), .putfield 9, 6, 0, 215) : iv_I)) rfl
theorem e89_71 : iv_V call mc_89 rt 71 L st w = iv_V call mc_89 rt 72 L (.int 1 :: st) w := (iv_V_eq (I := (((127, 1), .iconst 1, 0, 0, 0) : iv_I)) rfl).trans (congrArg (fun c => iv_V call mc_89 rt 72 L (.int c :: st) w) li_o1)
theorem e89_72 : iv_V call mc_89 rt 72 L st w = iv_ret rt st w := iv_V_eq (I := (((128, 1), .ireturn, 0, 0, 0) : iv_I)) rfl
theorem e90_0 : iv_V call mc_90 rt 0 L st w = iv_ldi L 1 fun x => iv_V call mc_90 rt 1 L (.int x :: st) w := iv_V_eq (I := (((0, 1), .iload_n 1, 0, 0, 0) : iv_I)) rfl
theorem e90_1 : iv_V call mc_90 rt 1 L st w = iv_p1 st fun x st' => if x = 0 then iv_V call mc_90 rt 7 L (st') w else iv_V call mc_90 rt 2 L (st') w := (iv_V_eq (I := (((1, 3), .ifCond .eq 10, 7, 0, 0) : iv_I)) rfl).trans (by simp only [iv_go, iv_cnd, decide_eq_true_eq])
theorem e90_2 : iv_V call mc_90 rt 2 L st w = iv_lda L 0 fun x => iv_V call mc_90 rt 3 L (x :: st) w := iv_V_eq (I := (((4, 1), .aload_n 0, 0, 0, 0) : iv_I)) rfl
theorem e90_3 : iv_V call mc_90 rt 3 L st w = iv_V call mc_90 rt 4 L (.int 0 :: st) w := (iv_V_eq (I := (((5, 1), .iconst 0, 0, 0, 0) : iv_I)) rfl).trans (congrArg (fun c => iv_V call mc_90 rt 4 L (.int c :: st) w) li_o0)
theorem e90_4 : iv_V call mc_90 rt 4 L st w = iv_pf w st 6 0 fun st' w' => iv_V call mc_90 rt 5 L (st') w' := iv_V_eq (I := (((6, 3), .putfield 9, 6, 0, 215) : iv_I)) rfl
theorem e90_5 : iv_V call mc_90 rt 5 L st w = iv_ldi L 1 fun x => iv_V call mc_90 rt 6 L (.int x :: st) w := iv_V_eq (I := (((9, 1), .iload_n 1, 0, 0, 0) : iv_I)) rfl
theorem e90_6 : iv_V call mc_90 rt 6 L st w = iv_ret rt st w := iv_V_eq (I := (((10, 1), .ireturn, 0, 0, 0) : iv_I)) rfl
theorem e90_7 : iv_V call mc_90 rt 7 L st w = iv_lda L 0 fun x => iv_V call mc_90 rt 8 L (x :: st) w := iv_V_eq (I := (((11, 1), .aload_n 0, 0, 0, 0) : iv_I)) rfl
theorem e90_8 : iv_V call mc_90 rt 8 L st w = iv_gf w st 6 0 fun v st' => iv_V call mc_90 rt 9 L (v :: st') w := iv_V_eq (I := (((12, 3), .getfield 9, 6, 0, 215) : iv_I)) rfl
theorem e90_9 : iv_V call mc_90 rt 9 L st w = iv_ret rt st w := iv_V_eq (I := (((15, 1), .ireturn, 0, 0, 0) : iv_I)) rfl
theorem e91_0 : iv_V call mc_91 rt 0 L st w = iv_lda L 0 fun x => iv_V call mc_91 rt 1 L (x :: st) w := iv_V_eq (I := (((0, 1), .aload_n 0, 0, 0, 0) : iv_I)) rfl
theorem e91_1 : iv_V call mc_91 rt 1 L st w = iv_V call mc_91 rt 2 L (.int 0 :: st) w := (iv_V_eq (I := (((1, 1), .iconst 0, 0, 0, 0) : iv_I)) rfl).trans (congrArg (fun c => iv_V call mc_91 rt 2 L (.int c :: st) w) li_o0)
theorem e91_2 : iv_V call mc_91 rt 2 L st w = iv_pf w st 6 5 fun st' w' => iv_V call mc_91 rt 3 L (st') w' := iv_V_eq (I := (((2, 3), .putfield 37, 6, 5, 225) : iv_I)) rfl
theorem e91_3 : iv_V call mc_91 rt 3 L st w = iv_lda L 0 fun x => iv_V call mc_91 rt 4 L (x :: st) w := iv_V_eq (I := (((5, 1), .aload_n 0, 0, 0, 0) : iv_I)) rfl
theorem e91_4 : iv_V call mc_91 rt 4 L st w = iv_gf w st 6 2 fun v st' => iv_V call mc_91 rt 5 L (v :: st') w := iv_V_eq (I := (((6, 3), .getfield 22, 6, 2, 220) : iv_I)) rfl
theorem e91_5 : iv_V call mc_91 rt 5 L st w = iv_ldi L 1 fun x => iv_V call mc_91 rt 6 L (.int x :: st) w := iv_V_eq (I := (((9, 1), .iload_n 1, 0, 0, 0) : iv_I)) rfl
theorem e91_6 : iv_V call mc_91 rt 6 L st w = iv_ald w st iv_isA fun v st' => iv_V call mc_91 rt 7 L (v :: st') w := iv_V_eq (I := (((10, 1), .aaload, 0, 0, 0) : iv_I)) rfl
theorem e91_7 : iv_V call mc_91 rt 7 L st w = iv_as st fun a st' => iv_sto L 2 (.ref a) fun L' => iv_V call mc_91 rt 8 L' (st') w := iv_V_eq (I := (((11, 1), .astore_n 2, 0, 0, 0) : iv_I)) rfl
theorem e91_8 : iv_V call mc_91 rt 8 L st w = iv_V call mc_91 rt 9 L (.int 0 :: st) w := (iv_V_eq (I := (((12, 1), .iconst 0, 0, 0, 0) : iv_I)) rfl).trans (congrArg (fun c => iv_V call mc_91 rt 9 L (.int c :: st) w) li_o0)
theorem e91_9 : iv_V call mc_91 rt 9 L st w = iv_p1 st fun x st' => iv_sto L 3 (.int x) fun L' => iv_V call mc_91 rt 10 L' (st') w := iv_V_eq (I := (((13, 1), .istore_n 3, 0, 0, 0) : iv_I)) rfl
theorem e91_10 : iv_V call mc_91 rt 10 L st w = iv_ldi L 3 fun x => iv_V call mc_91 rt 11 L (.int x :: st) w := iv_V_eq (I := (((14, 1), .iload_n 3, 0, 0, 0) : iv_I)) rfl
theorem e91_11 : iv_V call mc_91 rt 11 L st w = iv_lda L 2 fun x => iv_V call mc_91 rt 12 L (x :: st) w := iv_V_eq (I := (((15, 1), .aload_n 2, 0, 0, 0) : iv_I)) rfl
theorem e91_12 : iv_V call mc_91 rt 12 L st w = iv_gf w st 7 1 fun v st' => iv_V call mc_91 rt 13 L (v :: st') w := iv_V_eq (I := (((16, 3), .getfield 40, 7, 1, 69) : iv_I)) rfl
theorem e91_13 : iv_V call mc_91 rt 13 L st w = iv_p2 st fun x y st' => if y ≤ x then iv_V call mc_91 rt 35 L (st') w else iv_V call mc_91 rt 14 L (st') w := (iv_V_eq (I := (((19, 3), .if_icmp .ge 37, 35, 0, 0) : iv_I)) rfl).trans (by simp only [iv_go, iv_cnd, decide_eq_true_eq])
theorem e91_14 : iv_V call mc_91 rt 14 L st w = iv_lda L 0 fun x => iv_V call mc_91 rt 15 L (x :: st) w := iv_V_eq (I := (((22, 1), .aload_n 0, 0, 0, 0) : iv_I)) rfl
theorem e91_15 : iv_V call mc_91 rt 15 L st w = iv_lda L 2 fun x => iv_V call mc_91 rt 16 L (x :: st) w := iv_V_eq (I := (((23, 1), .aload_n 2, 0, 0, 0) : iv_I)) rfl
theorem e91_16 : iv_V call mc_91 rt 16 L st w = iv_gf w st 7 0 fun v st' => iv_V call mc_91 rt 17 L (v :: st') w := iv_V_eq (I := (((24, 3), .getfield 43, 7, 0, 64) : iv_I)) rfl
theorem e91_17 : iv_V call mc_91 rt 17 L st w = iv_ldi L 3 fun x => iv_V call mc_91 rt 18 L (.int x :: st) w := iv_V_eq (I := (((27, 1), .iload_n 3, 0, 0, 0) : iv_I)) rfl
theorem e91_18 : iv_V call mc_91 rt 18 L st w = iv_ald w st iv_isI fun v st' => iv_V call mc_91 rt 19 L (v :: st') w := iv_V_eq (I := (((28, 1), .iaload, 0, 0, 0) : iv_I)) rfl
theorem e91_19 : iv_V call mc_91 rt 19 L st w = iv_V call mc_91 rt 20 L (.int 4 :: st) w := (iv_V_eq (I := (((29, 1), .iconst 4, 0, 0, 0) : iv_I)) rfl).trans (congrArg (fun c => iv_V call mc_91 rt 20 L (.int c :: st) w) li_o4)
theorem e91_20 : iv_V call mc_91 rt 20 L st w = iv_p2 st fun x y st' => if y = 0 then none else iv_V call mc_91 rt 21 L (.int (x / y) :: st') w := iv_V_eq (I := (((30, 1), .idiv, 0, 0, 0) : iv_I)) rfl
theorem e91_21 : iv_V call mc_91 rt 21 L st w = iv_lda L 2 fun x => iv_V call mc_91 rt 22 L (x :: st) w := iv_V_eq (I := (((31, 1), .aload_n 2, 0, 0, 0) : iv_I)) rfl
theorem e91_22 : iv_V call mc_91 rt 22 L st w = iv_gf w st 7 0 fun v st' => iv_V call mc_91 rt 23 L (v :: st') w := iv_V_eq (I := (((32, 3), .getfield 43, 7, 0, 64) : iv_I)) rfl
theorem e91_23 : iv_V call mc_91 rt 23 L st w = iv_ldi L 3 fun x => iv_V call mc_91 rt 24 L (.int x :: st) w := iv_V_eq (I := (((35, 1), .iload_n 3, 0, 0, 0) : iv_I)) rfl
theorem e91_24 : iv_V call mc_91 rt 24 L st w = iv_ald w st iv_isI fun v st' => iv_V call mc_91 rt 25 L (v :: st') w := iv_V_eq (I := (((36, 1), .iaload, 0, 0, 0) : iv_I)) rfl
theorem e91_25 : iv_V call mc_91 rt 25 L st w = iv_V call mc_91 rt 26 L (.int 4 :: st) w := (iv_V_eq (I := (((37, 1), .iconst 4, 0, 0, 0) : iv_I)) rfl).trans (congrArg (fun c => iv_V call mc_91 rt 26 L (.int c :: st) w) li_o4)
theorem e91_26 : iv_V call mc_91 rt 26 L st w = iv_p2 st fun x y st' => if y = 0 then none else iv_V call mc_91 rt 27 L (.int (x - x / y * y) :: st') w := iv_V_eq (I := (((38, 1), .irem, 0, 0, 0) : iv_I)) rfl
theorem e91_27 : iv_V call mc_91 rt 27 L st w = iv_V call mc_91 rt 28 L (.int 1 :: st) w := (iv_V_eq (I := (((39, 1), .iconst 1, 0, 0, 0) : iv_I)) rfl).trans (congrArg (fun c => iv_V call mc_91 rt 28 L (.int c :: st) w) li_o1)
theorem e91_28 : iv_V call mc_91 rt 28 L st w = iv_p2 st fun x y st' => iv_V call mc_91 rt 29 L (.int (x - y) :: st') w := iv_V_eq (I := (((40, 1), .isub, 0, 0, 0) : iv_I)) rfl
theorem e91_29 : iv_V call mc_91 rt 29 L st w = iv_inv call 92 3 (fun as => iv_rc w as (iv_mc 92)) st w fun st' w' => iv_V call mc_91 rt 30 L (st') w' := iv_V_eq (I := (((41, 3), .invokevirtual 47, 92, 3, 585) : iv_I)) rfl
theorem e91_30 : iv_V call mc_91 rt 30 L st w = iv_lda L 0 fun x => iv_V call mc_91 rt 31 L (x :: st) w := iv_V_eq (I := (((44, 1), .aload_n 0, 0, 0, 0) : iv_I)) rfl
theorem e91_31 : iv_V call mc_91 rt 31 L st w = iv_V call mc_91 rt 32 L (.int 46 :: st) w := (iv_V_eq (I := (((45, 2), .bipush 46, 0, 0, 0) : iv_I)) rfl).trans (congrArg (fun c => iv_V call mc_91 rt 32 L (.int c :: st) w) li_b46)
theorem e91_32 : iv_V call mc_91 rt 32 L st w = iv_inv call 93 2 (fun as => iv_rc w as (iv_mc 93)) st w fun st' w' => iv_V call mc_91 rt 33 L (st') w' := iv_V_eq (I := (((47, 3), .invokevirtual 51, 93, 2, 589) : iv_I)) rfl
theorem e91_33 : iv_V call mc_91 rt 33 L st w = iv_ldi L 3 fun x => iv_sto L 3 (.int (x + 1)) fun L' => iv_V call mc_91 rt 34 L' (st) w := (iv_V_eq (I := (((50, 3), .iinc 3 1, 0, 0, 0) : iv_I)) rfl).trans (congrArg (fun c => iv_ldi L 3 fun x => iv_sto L 3 (.int (x + c)) fun L' => iv_V call mc_91 rt 34 L' (st) w) li_o1)
theorem e91_34 : iv_V call mc_91 rt 34 L st w = iv_V call mc_91 rt 10 L (st) w := iv_V_eq (I := (((53, 3), .goto (-39), 10, 0, 0) : iv_I)) rfl
theorem e91_35 : iv_V call mc_91 rt 35 L st w = iv_lda L 0 fun x => iv_V call mc_91 rt 36 L (x :: st) w := iv_V_eq (I := (((56, 1), .aload_n 0, 0, 0, 0) : iv_I)) rfl
theorem e91_36 : iv_V call mc_91 rt 36 L st w = iv_lda L 0 fun x => iv_V call mc_91 rt 37 L (x :: st) w := iv_V_eq (I := (((57, 1), .aload_n 0, 0, 0, 0) : iv_I)) rfl
theorem e91_37 : iv_V call mc_91 rt 37 L st w = iv_gf w st 6 1 fun v st' => iv_V call mc_91 rt 38 L (v :: st') w := iv_V_eq (I := (((58, 3), .getfield 17, 6, 1, 218) : iv_I)) rfl
theorem e91_38 : iv_V call mc_91 rt 38 L st w = iv_ldi L 1 fun x => iv_V call mc_91 rt 39 L (.int x :: st) w := iv_V_eq (I := (((61, 1), .iload_n 1, 0, 0, 0) : iv_I)) rfl
theorem e91_39 : iv_V call mc_91 rt 39 L st w = iv_ald w st iv_isA fun v st' => iv_V call mc_91 rt 40 L (v :: st') w := iv_V_eq (I := (((62, 1), .aaload, 0, 0, 0) : iv_I)) rfl
theorem e91_40 : iv_V call mc_91 rt 40 L st w = iv_V call mc_91 rt 41 L (.int 1 :: st) w := (iv_V_eq (I := (((63, 1), .iconst 1, 0, 0, 0) : iv_I)) rfl).trans (congrArg (fun c => iv_V call mc_91 rt 41 L (.int c :: st) w) li_o1)
theorem e91_41 : iv_V call mc_91 rt 41 L st w = iv_ald w st iv_isI fun v st' => iv_V call mc_91 rt 42 L (v :: st') w := iv_V_eq (I := (((64, 1), .iaload, 0, 0, 0) : iv_I)) rfl
theorem e91_42 : iv_V call mc_91 rt 42 L st w = iv_lda L 0 fun x => iv_V call mc_91 rt 43 L (x :: st) w := iv_V_eq (I := (((65, 1), .aload_n 0, 0, 0, 0) : iv_I)) rfl
theorem e91_43 : iv_V call mc_91 rt 43 L st w = iv_gf w st 6 1 fun v st' => iv_V call mc_91 rt 44 L (v :: st') w := iv_V_eq (I := (((66, 3), .getfield 17, 6, 1, 218) : iv_I)) rfl
theorem e91_44 : iv_V call mc_91 rt 44 L st w = iv_ldi L 1 fun x => iv_V call mc_91 rt 45 L (.int x :: st) w := iv_V_eq (I := (((69, 1), .iload_n 1, 0, 0, 0) : iv_I)) rfl
theorem e91_45 : iv_V call mc_91 rt 45 L st w = iv_ald w st iv_isA fun v st' => iv_V call mc_91 rt 46 L (v :: st') w := iv_V_eq (I := (((70, 1), .aaload, 0, 0, 0) : iv_I)) rfl
theorem e91_46 : iv_V call mc_91 rt 46 L st w = iv_V call mc_91 rt 47 L (.int 2 :: st) w := (iv_V_eq (I := (((71, 1), .iconst 2, 0, 0, 0) : iv_I)) rfl).trans (congrArg (fun c => iv_V call mc_91 rt 47 L (.int c :: st) w) li_o2)
theorem e91_47 : iv_V call mc_91 rt 47 L st w = iv_ald w st iv_isI fun v st' => iv_V call mc_91 rt 48 L (v :: st') w := iv_V_eq (I := (((72, 1), .iaload, 0, 0, 0) : iv_I)) rfl
theorem e91_48 : iv_V call mc_91 rt 48 L st w = iv_inv call 92 3 (fun as => iv_rc w as (iv_mc 92)) st w fun st' w' => iv_V call mc_91 rt 49 L (st') w' := iv_V_eq (I := (((73, 3), .invokevirtual 47, 92, 3, 585) : iv_I)) rfl
theorem e91_49 : iv_V call mc_91 rt 49 L st w = iv_rev rt st w := iv_V_eq (I := (((76, 1), .return_, 0, 0, 0) : iv_I)) rfl
theorem e92_0 : iv_V call mc_92 rt 0 L st w = iv_lda L 0 fun x => iv_V call mc_92 rt 1 L (x :: st) w := iv_V_eq (I := (((0, 1), .aload_n 0, 0, 0, 0) : iv_I)) rfl
theorem e92_1 : iv_V call mc_92 rt 1 L st w = iv_V call mc_92 rt 2 L (.int 102 :: st) w := (iv_V_eq (I := (((1, 2), .bipush 102, 0, 0, 0) : iv_I)) rfl).trans (congrArg (fun c => iv_V call mc_92 rt 2 L (.int c :: st) w) li_b102)
theorem e92_2 : iv_V call mc_92 rt 2 L st w = iv_inv call 93 2 (fun as => iv_rc w as (iv_mc 93)) st w fun st' w' => iv_V call mc_92 rt 3 L (st') w' := iv_V_eq (I := (((3, 3), .invokevirtual 51, 93, 2, 589) : iv_I)) rfl
theorem e92_3 : iv_V call mc_92 rt 3 L st w = iv_ldi L 1 fun x => iv_V call mc_92 rt 4 L (.int x :: st) w := iv_V_eq (I := (((6, 1), .iload_n 1, 0, 0, 0) : iv_I)) rfl
theorem e92_4 : iv_V call mc_92 rt 4 L st w = iv_V call mc_92 rt 5 L (.int 10 :: st) w := (iv_V_eq (I := (((7, 2), .bipush 10, 0, 0, 0) : iv_I)) rfl).trans (congrArg (fun c => iv_V call mc_92 rt 5 L (.int c :: st) w) li_b10)
theorem e92_5 : iv_V call mc_92 rt 5 L st w = iv_p2 st fun x y st' => if x < y then iv_V call mc_92 rt 14 L (st') w else iv_V call mc_92 rt 6 L (st') w := (iv_V_eq (I := (((9, 3), .if_icmp .lt 15, 14, 0, 0) : iv_I)) rfl).trans (by simp only [iv_go, iv_cnd, decide_eq_true_eq])
theorem e92_6 : iv_V call mc_92 rt 6 L st w = iv_lda L 0 fun x => iv_V call mc_92 rt 7 L (x :: st) w := iv_V_eq (I := (((12, 1), .aload_n 0, 0, 0, 0) : iv_I)) rfl
theorem e92_7 : iv_V call mc_92 rt 7 L st w = iv_V call mc_92 rt 8 L (.int 48 :: st) w := (iv_V_eq (I := (((13, 2), .bipush 48, 0, 0, 0) : iv_I)) rfl).trans (congrArg (fun c => iv_V call mc_92 rt 8 L (.int c :: st) w) li_b48)
theorem e92_8 : iv_V call mc_92 rt 8 L st w = iv_ldi L 1 fun x => iv_V call mc_92 rt 9 L (.int x :: st) w := iv_V_eq (I := (((15, 1), .iload_n 1, 0, 0, 0) : iv_I)) rfl
theorem e92_9 : iv_V call mc_92 rt 9 L st w = iv_V call mc_92 rt 10 L (.int 10 :: st) w := (iv_V_eq (I := (((16, 2), .bipush 10, 0, 0, 0) : iv_I)) rfl).trans (congrArg (fun c => iv_V call mc_92 rt 10 L (.int c :: st) w) li_b10)
theorem e92_10 : iv_V call mc_92 rt 10 L st w = iv_p2 st fun x y st' => if y = 0 then none else iv_V call mc_92 rt 11 L (.int (x / y) :: st') w := iv_V_eq (I := (((18, 1), .idiv, 0, 0, 0) : iv_I)) rfl
theorem e92_11 : iv_V call mc_92 rt 11 L st w = iv_p2 st fun x y st' => iv_V call mc_92 rt 12 L (.int (x + y) :: st') w := iv_V_eq (I := (((19, 1), .iadd, 0, 0, 0) : iv_I)) rfl
theorem e92_12 : iv_V call mc_92 rt 12 L st w = iv_p1 st fun x st' => iv_V call mc_92 rt 13 L (.int (x.toUInt32 % 65536).toInt32 :: st') w := iv_V_eq (I := (((20, 1), .i2c, 0, 0, 0) : iv_I)) rfl
theorem e92_13 : iv_V call mc_92 rt 13 L st w = iv_inv call 93 2 (fun as => iv_rc w as (iv_mc 93)) st w fun st' w' => iv_V call mc_92 rt 14 L (st') w' := iv_V_eq (I := (((21, 3), .invokevirtual 51, 93, 2, 589) : iv_I)) rfl
theorem e92_14 : iv_V call mc_92 rt 14 L st w = iv_lda L 0 fun x => iv_V call mc_92 rt 15 L (x :: st) w := iv_V_eq (I := (((24, 1), .aload_n 0, 0, 0, 0) : iv_I)) rfl
theorem e92_15 : iv_V call mc_92 rt 15 L st w = iv_V call mc_92 rt 16 L (.int 48 :: st) w := (iv_V_eq (I := (((25, 2), .bipush 48, 0, 0, 0) : iv_I)) rfl).trans (congrArg (fun c => iv_V call mc_92 rt 16 L (.int c :: st) w) li_b48)
theorem e92_16 : iv_V call mc_92 rt 16 L st w = iv_ldi L 1 fun x => iv_V call mc_92 rt 17 L (.int x :: st) w := iv_V_eq (I := (((27, 1), .iload_n 1, 0, 0, 0) : iv_I)) rfl
theorem e92_17 : iv_V call mc_92 rt 17 L st w = iv_V call mc_92 rt 18 L (.int 10 :: st) w := (iv_V_eq (I := (((28, 2), .bipush 10, 0, 0, 0) : iv_I)) rfl).trans (congrArg (fun c => iv_V call mc_92 rt 18 L (.int c :: st) w) li_b10)
theorem e92_18 : iv_V call mc_92 rt 18 L st w = iv_p2 st fun x y st' => if y = 0 then none else iv_V call mc_92 rt 19 L (.int (x - x / y * y) :: st') w := iv_V_eq (I := (((30, 1), .irem, 0, 0, 0) : iv_I)) rfl
theorem e92_19 : iv_V call mc_92 rt 19 L st w = iv_p2 st fun x y st' => iv_V call mc_92 rt 20 L (.int (x + y) :: st') w := iv_V_eq (I := (((31, 1), .iadd, 0, 0, 0) : iv_I)) rfl
theorem e92_20 : iv_V call mc_92 rt 20 L st w = iv_p1 st fun x st' => iv_V call mc_92 rt 21 L (.int (x.toUInt32 % 65536).toInt32 :: st') w := iv_V_eq (I := (((32, 1), .i2c, 0, 0, 0) : iv_I)) rfl
theorem e92_21 : iv_V call mc_92 rt 21 L st w = iv_inv call 93 2 (fun as => iv_rc w as (iv_mc 93)) st w fun st' w' => iv_V call mc_92 rt 22 L (st') w' := iv_V_eq (I := (((33, 3), .invokevirtual 51, 93, 2, 589) : iv_I)) rfl
theorem e92_22 : iv_V call mc_92 rt 22 L st w = iv_ldi L 2 fun x => iv_V call mc_92 rt 23 L (.int x :: st) w := iv_V_eq (I := (((36, 1), .iload_n 2, 0, 0, 0) : iv_I)) rfl
theorem e92_23 : iv_V call mc_92 rt 23 L st w = iv_V call mc_92 rt 24 L (.int (-1) :: st) w := (iv_V_eq (I := (((37, 1), .iconst (-1), 0, 0, 0) : iv_I)) rfl).trans (congrArg (fun c => iv_V call mc_92 rt 24 L (.int c :: st) w) li_om1)
theorem e92_24 : iv_V call mc_92 rt 24 L st w = iv_p2 st fun x y st' => if x = y then iv_V call mc_92 rt 37 L (st') w else iv_V call mc_92 rt 25 L (st') w := (iv_V_eq (I := (((38, 3), .if_icmp .eq 24, 37, 0, 0) : iv_I)) rfl).trans (by simp only [iv_go, iv_cnd, decide_eq_true_eq])
theorem e92_25 : iv_V call mc_92 rt 25 L st w = iv_lda L 0 fun x => iv_V call mc_92 rt 26 L (x :: st) w := iv_V_eq (I := (((41, 1), .aload_n 0, 0, 0, 0) : iv_I)) rfl
theorem e92_26 : iv_V call mc_92 rt 26 L st w = iv_V call mc_92 rt 27 L (.int 91 :: st) w := (iv_V_eq (I := (((42, 2), .bipush 91, 0, 0, 0) : iv_I)) rfl).trans (congrArg (fun c => iv_V call mc_92 rt 27 L (.int c :: st) w) li_b91)
theorem e92_27 : iv_V call mc_92 rt 27 L st w = iv_inv call 93 2 (fun as => iv_rc w as (iv_mc 93)) st w fun st' w' => iv_V call mc_92 rt 28 L (st') w' := iv_V_eq (I := (((44, 3), .invokevirtual 51, 93, 2, 589) : iv_I)) rfl
theorem e92_28 : iv_V call mc_92 rt 28 L st w = iv_lda L 0 fun x => iv_V call mc_92 rt 29 L (x :: st) w := iv_V_eq (I := (((47, 1), .aload_n 0, 0, 0, 0) : iv_I)) rfl
theorem e92_29 : iv_V call mc_92 rt 29 L st w = iv_V call mc_92 rt 30 L (.int 48 :: st) w := (iv_V_eq (I := (((48, 2), .bipush 48, 0, 0, 0) : iv_I)) rfl).trans (congrArg (fun c => iv_V call mc_92 rt 30 L (.int c :: st) w) li_b48)
theorem e92_30 : iv_V call mc_92 rt 30 L st w = iv_ldi L 2 fun x => iv_V call mc_92 rt 31 L (.int x :: st) w := iv_V_eq (I := (((50, 1), .iload_n 2, 0, 0, 0) : iv_I)) rfl
theorem e92_31 : iv_V call mc_92 rt 31 L st w = iv_p2 st fun x y st' => iv_V call mc_92 rt 32 L (.int (x + y) :: st') w := iv_V_eq (I := (((51, 1), .iadd, 0, 0, 0) : iv_I)) rfl
theorem e92_32 : iv_V call mc_92 rt 32 L st w = iv_p1 st fun x st' => iv_V call mc_92 rt 33 L (.int (x.toUInt32 % 65536).toInt32 :: st') w := iv_V_eq (I := (((52, 1), .i2c, 0, 0, 0) : iv_I)) rfl
theorem e92_33 : iv_V call mc_92 rt 33 L st w = iv_inv call 93 2 (fun as => iv_rc w as (iv_mc 93)) st w fun st' w' => iv_V call mc_92 rt 34 L (st') w' := iv_V_eq (I := (((53, 3), .invokevirtual 51, 93, 2, 589) : iv_I)) rfl
theorem e92_34 : iv_V call mc_92 rt 34 L st w = iv_lda L 0 fun x => iv_V call mc_92 rt 35 L (x :: st) w := iv_V_eq (I := (((56, 1), .aload_n 0, 0, 0, 0) : iv_I)) rfl
theorem e92_35 : iv_V call mc_92 rt 35 L st w = iv_V call mc_92 rt 36 L (.int 93 :: st) w := (iv_V_eq (I := (((57, 2), .bipush 93, 0, 0, 0) : iv_I)) rfl).trans (congrArg (fun c => iv_V call mc_92 rt 36 L (.int c :: st) w) li_b93)
theorem e92_36 : iv_V call mc_92 rt 36 L st w = iv_inv call 93 2 (fun as => iv_rc w as (iv_mc 93)) st w fun st' w' => iv_V call mc_92 rt 37 L (st') w' := iv_V_eq (I := (((59, 3), .invokevirtual 51, 93, 2, 589) : iv_I)) rfl
theorem e92_37 : iv_V call mc_92 rt 37 L st w = iv_rev rt st w := iv_V_eq (I := (((62, 1), .return_, 0, 0, 0) : iv_I)) rfl
theorem e93_0 : iv_V call mc_93 rt 0 L st w = iv_lda L 0 fun x => iv_V call mc_93 rt 1 L (x :: st) w := iv_V_eq (I := (((0, 1), .aload_n 0, 0, 0, 0) : iv_I)) rfl
theorem e93_1 : iv_V call mc_93 rt 1 L st w = iv_gf w st 6 5 fun v st' => iv_V call mc_93 rt 2 L (v :: st') w := iv_V_eq (I := (((1, 3), .getfield 37, 6, 5, 225) : iv_I)) rfl
theorem e93_2 : iv_V call mc_93 rt 2 L st w = iv_lda L 0 fun x => iv_V call mc_93 rt 3 L (x :: st) w := iv_V_eq (I := (((4, 1), .aload_n 0, 0, 0, 0) : iv_I)) rfl
theorem e93_3 : iv_V call mc_93 rt 3 L st w = iv_gf w st 6 4 fun v st' => iv_V call mc_93 rt 4 L (v :: st') w := iv_V_eq (I := (((5, 3), .getfield 33, 6, 4, 223) : iv_I)) rfl
theorem e93_4 : iv_V call mc_93 rt 4 L st w = iv_len w st fun x st' => iv_V call mc_93 rt 5 L (.int x :: st') w := iv_V_eq (I := (((8, 1), .arraylength, 0, 0, 0) : iv_I)) rfl
theorem e93_5 : iv_V call mc_93 rt 5 L st w = iv_p2 st fun x y st' => if y ≤ x then iv_V call mc_93 rt 18 L (st') w else iv_V call mc_93 rt 6 L (st') w := (iv_V_eq (I := (((9, 3), .if_icmp .ge 23, 18, 0, 0) : iv_I)) rfl).trans (by simp only [iv_go, iv_cnd, decide_eq_true_eq])
theorem e93_6 : iv_V call mc_93 rt 6 L st w = iv_lda L 0 fun x => iv_V call mc_93 rt 7 L (x :: st) w := iv_V_eq (I := (((12, 1), .aload_n 0, 0, 0, 0) : iv_I)) rfl
theorem e93_7 : iv_V call mc_93 rt 7 L st w = iv_gf w st 6 4 fun v st' => iv_V call mc_93 rt 8 L (v :: st') w := iv_V_eq (I := (((13, 3), .getfield 33, 6, 4, 223) : iv_I)) rfl
theorem e93_8 : iv_V call mc_93 rt 8 L st w = iv_lda L 0 fun x => iv_V call mc_93 rt 9 L (x :: st) w := iv_V_eq (I := (((16, 1), .aload_n 0, 0, 0, 0) : iv_I)) rfl
theorem e93_9 : iv_V call mc_93 rt 9 L st w = iv_gf w st 6 5 fun v st' => iv_V call mc_93 rt 10 L (v :: st') w := iv_V_eq (I := (((17, 3), .getfield 37, 6, 5, 225) : iv_I)) rfl
theorem e93_10 : iv_V call mc_93 rt 10 L st w = iv_ldi L 1 fun x => iv_V call mc_93 rt 11 L (.int x :: st) w := iv_V_eq (I := (((20, 1), .iload_n 1, 0, 0, 0) : iv_I)) rfl
theorem e93_11 : iv_V call mc_93 rt 11 L st w = iv_ast w st iv_isC fun st' w' => iv_V call mc_93 rt 12 L (st') w' := iv_V_eq (I := (((21, 1), .castore, 0, 0, 0) : iv_I)) rfl
theorem e93_12 : iv_V call mc_93 rt 12 L st w = iv_lda L 0 fun x => iv_V call mc_93 rt 13 L (x :: st) w := iv_V_eq (I := (((22, 1), .aload_n 0, 0, 0, 0) : iv_I)) rfl
theorem e93_13 : iv_V call mc_93 rt 13 L st w = iv_d1 st fun a st' => iv_V call mc_93 rt 14 L (a :: a :: st') w := iv_V_eq (I := (((23, 1), .dup, 0, 0, 0) : iv_I)) rfl
theorem e93_14 : iv_V call mc_93 rt 14 L st w = iv_gf w st 6 5 fun v st' => iv_V call mc_93 rt 15 L (v :: st') w := iv_V_eq (I := (((24, 3), .getfield 37, 6, 5, 225) : iv_I)) rfl
theorem e93_15 : iv_V call mc_93 rt 15 L st w = iv_V call mc_93 rt 16 L (.int 1 :: st) w := (iv_V_eq (I := (((27, 1), .iconst 1, 0, 0, 0) : iv_I)) rfl).trans (congrArg (fun c => iv_V call mc_93 rt 16 L (.int c :: st) w) li_o1)
theorem e93_16 : iv_V call mc_93 rt 16 L st w = iv_p2 st fun x y st' => iv_V call mc_93 rt 17 L (.int (x + y) :: st') w := iv_V_eq (I := (((28, 1), .iadd, 0, 0, 0) : iv_I)) rfl
theorem e93_17 : iv_V call mc_93 rt 17 L st w = iv_pf w st 6 5 fun st' w' => iv_V call mc_93 rt 18 L (st') w' := iv_V_eq (I := (((29, 3), .putfield 37, 6, 5, 225) : iv_I)) rfl
theorem e93_18 : iv_V call mc_93 rt 18 L st w = iv_rev rt st w := iv_V_eq (I := (((32, 1), .return_, 0, 0, 0) : iv_I)) rfl
theorem e94_0 : iv_V call mc_94 rt 0 L st w = iv_lda L 0 fun x => iv_V call mc_94 rt 1 L (x :: st) w := iv_V_eq (I := (((0, 1), .aload_n 0, 0, 0, 0) : iv_I)) rfl
theorem e94_1 : iv_V call mc_94 rt 1 L st w = iv_oi st fun st' => iv_V call mc_94 rt 2 L (st') w := iv_V_eq (I := (((1, 3), .invokespecial 1, 0, 1, 62) : iv_I)) rfl
theorem e94_2 : iv_V call mc_94 rt 2 L st w = iv_lda L 0 fun x => iv_V call mc_94 rt 3 L (x :: st) w := iv_V_eq (I := (((4, 1), .aload_n 0, 0, 0, 0) : iv_I)) rfl
theorem e94_3 : iv_V call mc_94 rt 3 L st w = iv_ldi L 1 fun x => iv_V call mc_94 rt 4 L (.int x :: st) w := iv_V_eq (I := (((5, 1), .iload_n 1, 0, 0, 0) : iv_I)) rfl
theorem e94_4 : iv_V call mc_94 rt 4 L st w = iv_p1 st fun n st' => iv_na w 100 (.int 0) n fun v w' => iv_V call mc_94 rt 5 L (v :: st') w' := iv_V_eq (I := (((6, 2), .newarray .int, 100, 0, 78) : iv_I)) rfl
theorem e94_5 : iv_V call mc_94 rt 5 L st w = iv_pf w st 7 0 fun st' w' => iv_V call mc_94 rt 6 L (st') w' := iv_V_eq (I := (((8, 3), .putfield 7, 7, 0, 63) : iv_I)) rfl
theorem e94_6 : iv_V call mc_94 rt 6 L st w = iv_lda L 0 fun x => iv_V call mc_94 rt 7 L (x :: st) w := iv_V_eq (I := (((11, 1), .aload_n 0, 0, 0, 0) : iv_I)) rfl
theorem e94_7 : iv_V call mc_94 rt 7 L st w = iv_V call mc_94 rt 8 L (.int 0 :: st) w := (iv_V_eq (I := (((12, 1), .iconst 0, 0, 0, 0) : iv_I)) rfl).trans (congrArg (fun c => iv_V call mc_94 rt 8 L (.int c :: st) w) li_o0)
theorem e94_8 : iv_V call mc_94 rt 8 L st w = iv_pf w st 7 1 fun st' w' => iv_V call mc_94 rt 9 L (st') w' := iv_V_eq (I := (((13, 3), .putfield 13, 7, 1, 68) : iv_I)) rfl
theorem e94_9 : iv_V call mc_94 rt 9 L st w = iv_rev rt st w := iv_V_eq (I := (((16, 1), .return_, 0, 0, 0) : iv_I)) rfl
theorem e95_0 : iv_V call mc_95 rt 0 L st w = iv_lda L 0 fun x => iv_V call mc_95 rt 1 L (x :: st) w := iv_V_eq (I := (((0, 1), .aload_n 0, 0, 0, 0) : iv_I)) rfl
theorem e95_1 : iv_V call mc_95 rt 1 L st w = iv_gf w st 7 1 fun v st' => iv_V call mc_95 rt 2 L (v :: st') w := iv_V_eq (I := (((1, 3), .getfield 13, 7, 1, 68) : iv_I)) rfl
theorem e95_2 : iv_V call mc_95 rt 2 L st w = iv_lda L 0 fun x => iv_V call mc_95 rt 3 L (x :: st) w := iv_V_eq (I := (((4, 1), .aload_n 0, 0, 0, 0) : iv_I)) rfl
theorem e95_3 : iv_V call mc_95 rt 3 L st w = iv_gf w st 7 0 fun v st' => iv_V call mc_95 rt 4 L (v :: st') w := iv_V_eq (I := (((5, 3), .getfield 7, 7, 0, 63) : iv_I)) rfl
theorem e95_4 : iv_V call mc_95 rt 4 L st w = iv_len w st fun x st' => iv_V call mc_95 rt 5 L (.int x :: st') w := iv_V_eq (I := (((8, 1), .arraylength, 0, 0, 0) : iv_I)) rfl
theorem e95_5 : iv_V call mc_95 rt 5 L st w = iv_p2 st fun x y st' => if x < y then iv_V call mc_95 rt 8 L (st') w else iv_V call mc_95 rt 6 L (st') w := (iv_V_eq (I := (((9, 3), .if_icmp .lt 5, 8, 0, 0) : iv_I)) rfl).trans (by simp only [iv_go, iv_cnd, decide_eq_true_eq])
theorem e95_6 : iv_V call mc_95 rt 6 L st w = iv_V call mc_95 rt 7 L (.int 0 :: st) w := (iv_V_eq (I := (((12, 1), .iconst 0, 0, 0, 0) : iv_I)) rfl).trans (congrArg (fun c => iv_V call mc_95 rt 7 L (.int c :: st) w) li_o0)
theorem e95_7 : iv_V call mc_95 rt 7 L st w = iv_ret rt st w := iv_V_eq (I := (((13, 1), .ireturn, 0, 0, 0) : iv_I)) rfl
theorem e95_8 : iv_V call mc_95 rt 8 L st w = iv_lda L 0 fun x => iv_V call mc_95 rt 9 L (x :: st) w := iv_V_eq (I := (((14, 1), .aload_n 0, 0, 0, 0) : iv_I)) rfl
theorem e95_9 : iv_V call mc_95 rt 9 L st w = iv_gf w st 7 0 fun v st' => iv_V call mc_95 rt 10 L (v :: st') w := iv_V_eq (I := (((15, 3), .getfield 7, 7, 0, 63) : iv_I)) rfl
theorem e95_10 : iv_V call mc_95 rt 10 L st w = iv_lda L 0 fun x => iv_V call mc_95 rt 11 L (x :: st) w := iv_V_eq (I := (((18, 1), .aload_n 0, 0, 0, 0) : iv_I)) rfl
theorem e95_11 : iv_V call mc_95 rt 11 L st w = iv_gf w st 7 1 fun v st' => iv_V call mc_95 rt 12 L (v :: st') w := iv_V_eq (I := (((19, 3), .getfield 13, 7, 1, 68) : iv_I)) rfl
theorem e95_12 : iv_V call mc_95 rt 12 L st w = iv_ldi L 1 fun x => iv_V call mc_95 rt 13 L (.int x :: st) w := iv_V_eq (I := (((22, 1), .iload_n 1, 0, 0, 0) : iv_I)) rfl
theorem e95_13 : iv_V call mc_95 rt 13 L st w = iv_ast w st iv_isI fun st' w' => iv_V call mc_95 rt 14 L (st') w' := iv_V_eq (I := (((23, 1), .iastore, 0, 0, 0) : iv_I)) rfl
theorem e95_14 : iv_V call mc_95 rt 14 L st w = iv_lda L 0 fun x => iv_V call mc_95 rt 15 L (x :: st) w := iv_V_eq (I := (((24, 1), .aload_n 0, 0, 0, 0) : iv_I)) rfl
theorem e95_15 : iv_V call mc_95 rt 15 L st w = iv_d1 st fun a st' => iv_V call mc_95 rt 16 L (a :: a :: st') w := iv_V_eq (I := (((25, 1), .dup, 0, 0, 0) : iv_I)) rfl
theorem e95_16 : iv_V call mc_95 rt 16 L st w = iv_gf w st 7 1 fun v st' => iv_V call mc_95 rt 17 L (v :: st') w := iv_V_eq (I := (((26, 3), .getfield 13, 7, 1, 68) : iv_I)) rfl
theorem e95_17 : iv_V call mc_95 rt 17 L st w = iv_V call mc_95 rt 18 L (.int 1 :: st) w := (iv_V_eq (I := (((29, 1), .iconst 1, 0, 0, 0) : iv_I)) rfl).trans (congrArg (fun c => iv_V call mc_95 rt 18 L (.int c :: st) w) li_o1)
theorem e95_18 : iv_V call mc_95 rt 18 L st w = iv_p2 st fun x y st' => iv_V call mc_95 rt 19 L (.int (x + y) :: st') w := iv_V_eq (I := (((30, 1), .iadd, 0, 0, 0) : iv_I)) rfl
theorem e95_19 : iv_V call mc_95 rt 19 L st w = iv_pf w st 7 1 fun st' w' => iv_V call mc_95 rt 20 L (st') w' := iv_V_eq (I := (((31, 3), .putfield 13, 7, 1, 68) : iv_I)) rfl
theorem e95_20 : iv_V call mc_95 rt 20 L st w = iv_V call mc_95 rt 21 L (.int 1 :: st) w := (iv_V_eq (I := (((34, 1), .iconst 1, 0, 0, 0) : iv_I)) rfl).trans (congrArg (fun c => iv_V call mc_95 rt 21 L (.int c :: st) w) li_o1)
theorem e95_21 : iv_V call mc_95 rt 21 L st w = iv_ret rt st w := iv_V_eq (I := (((35, 1), .ireturn, 0, 0, 0) : iv_I)) rfl
theorem e96_0 : iv_V call mc_96 rt 0 L st w = iv_lda L 0 fun x => iv_V call mc_96 rt 1 L (x :: st) w := iv_V_eq (I := (((0, 1), .aload_n 0, 0, 0, 0) : iv_I)) rfl
theorem e96_1 : iv_V call mc_96 rt 1 L st w = iv_oi st fun st' => iv_V call mc_96 rt 2 L (st') w := iv_V_eq (I := (((1, 3), .invokespecial 1, 0, 1, 362) : iv_I)) rfl
theorem e96_2 : iv_V call mc_96 rt 2 L st w = iv_lda L 0 fun x => iv_V call mc_96 rt 3 L (x :: st) w := iv_V_eq (I := (((4, 1), .aload_n 0, 0, 0, 0) : iv_I)) rfl
theorem e96_3 : iv_V call mc_96 rt 3 L st w = iv_ldi L 1 fun x => iv_V call mc_96 rt 4 L (.int x :: st) w := iv_V_eq (I := (((5, 1), .iload_n 1, 0, 0, 0) : iv_I)) rfl
theorem e96_4 : iv_V call mc_96 rt 4 L st w = iv_pf w st 8 0 fun st' w' => iv_V call mc_96 rt 5 L (st') w' := iv_V_eq (I := (((6, 3), .putfield 7, 8, 0, 363) : iv_I)) rfl
theorem e96_5 : iv_V call mc_96 rt 5 L st w = iv_lda L 0 fun x => iv_V call mc_96 rt 6 L (x :: st) w := iv_V_eq (I := (((9, 1), .aload_n 0, 0, 0, 0) : iv_I)) rfl
theorem e96_6 : iv_V call mc_96 rt 6 L st w = iv_ldi L 2 fun x => iv_V call mc_96 rt 7 L (.int x :: st) w := iv_V_eq (I := (((10, 1), .iload_n 2, 0, 0, 0) : iv_I)) rfl
theorem e96_7 : iv_V call mc_96 rt 7 L st w = iv_pf w st 8 1 fun st' w' => iv_V call mc_96 rt 8 L (st') w' := iv_V_eq (I := (((11, 3), .putfield 13, 8, 1, 365) : iv_I)) rfl
theorem e96_8 : iv_V call mc_96 rt 8 L st w = iv_lda L 0 fun x => iv_V call mc_96 rt 9 L (x :: st) w := iv_V_eq (I := (((14, 1), .aload_n 0, 0, 0, 0) : iv_I)) rfl
theorem e96_9 : iv_V call mc_96 rt 9 L st w = iv_lda L 3 fun x => iv_V call mc_96 rt 10 L (x :: st) w := iv_V_eq (I := (((15, 1), .aload_n 3, 0, 0, 0) : iv_I)) rfl
theorem e96_10 : iv_V call mc_96 rt 10 L st w = iv_pf w st 8 2 fun st' w' => iv_V call mc_96 rt 11 L (st') w' := iv_V_eq (I := (((16, 3), .putfield 17, 8, 2, 367) : iv_I)) rfl
theorem e96_11 : iv_V call mc_96 rt 11 L st w = iv_lda L 0 fun x => iv_V call mc_96 rt 12 L (x :: st) w := iv_V_eq (I := (((19, 1), .aload_n 0, 0, 0, 0) : iv_I)) rfl
theorem e96_12 : iv_V call mc_96 rt 12 L st w = iv_ldi L 4 fun x => iv_V call mc_96 rt 13 L (.int x :: st) w := iv_V_eq (I := (((20, 2), .iload 4, 0, 0, 0) : iv_I)) rfl
theorem e96_13 : iv_V call mc_96 rt 13 L st w = iv_pf w st 8 3 fun st' w' => iv_V call mc_96 rt 14 L (st') w' := iv_V_eq (I := (((22, 3), .putfield 21, 8, 3, 369) : iv_I)) rfl
theorem e96_14 : iv_V call mc_96 rt 14 L st w = iv_rev rt st w := iv_V_eq (I := (((25, 1), .return_, 0, 0, 0) : iv_I)) rfl
theorem e97_0 : iv_V call mc_97 rt 0 L st w = iv_lda L 0 fun x => iv_V call mc_97 rt 1 L (x :: st) w := iv_V_eq (I := (((0, 1), .aload_n 0, 0, 0, 0) : iv_I)) rfl
theorem e97_1 : iv_V call mc_97 rt 1 L st w = iv_oi st fun st' => iv_V call mc_97 rt 2 L (st') w := iv_V_eq (I := (((1, 3), .invokespecial 3, 0, 1, 121) : iv_I)) rfl
theorem e97_2 : iv_V call mc_97 rt 2 L st w = iv_lda L 0 fun x => iv_V call mc_97 rt 3 L (x :: st) w := iv_V_eq (I := (((4, 1), .aload_n 0, 0, 0, 0) : iv_I)) rfl
theorem e97_3 : iv_V call mc_97 rt 3 L st w = iv_V call mc_97 rt 4 L (.int 24 :: st) w := (iv_V_eq (I := (((5, 2), .bipush 24, 0, 0, 0) : iv_I)) rfl).trans (congrArg (fun c => iv_V call mc_97 rt 4 L (.int c :: st) w) li_b24)
theorem e97_4 : iv_V call mc_97 rt 4 L st w = iv_p1 st fun n st' => iv_na w 107 .null n fun v w' => iv_V call mc_97 rt 5 L (v :: st') w' := iv_V_eq (I := (((7, 3), .anewarray 9, 107, 0, 122) : iv_I)) rfl
theorem e97_5 : iv_V call mc_97 rt 5 L st w = iv_pf w st 9 0 fun st' w' => iv_V call mc_97 rt 6 L (st') w' := iv_V_eq (I := (((10, 3), .putfield 11, 9, 0, 148) : iv_I)) rfl
theorem e97_6 : iv_V call mc_97 rt 6 L st w = iv_lda L 0 fun x => iv_V call mc_97 rt 7 L (x :: st) w := iv_V_eq (I := (((13, 1), .aload_n 0, 0, 0, 0) : iv_I)) rfl
theorem e97_7 : iv_V call mc_97 rt 7 L st w = iv_V call mc_97 rt 8 L (.int 0 :: st) w := (iv_V_eq (I := (((14, 1), .iconst 0, 0, 0, 0) : iv_I)) rfl).trans (congrArg (fun c => iv_V call mc_97 rt 8 L (.int c :: st) w) li_o0)
theorem e97_8 : iv_V call mc_97 rt 8 L st w = iv_pf w st 9 1 fun st' w' => iv_V call mc_97 rt 9 L (st') w' := iv_V_eq (I := (((15, 3), .putfield 17, 9, 1, 150) : iv_I)) rfl
theorem e97_9 : iv_V call mc_97 rt 9 L st w = iv_lda L 0 fun x => iv_V call mc_97 rt 10 L (x :: st) w := iv_V_eq (I := (((18, 1), .aload_n 0, 0, 0, 0) : iv_I)) rfl
theorem e97_10 : iv_V call mc_97 rt 10 L st w = iv_V call mc_97 rt 11 L (.int 3 :: st) w := (iv_V_eq (I := (((19, 1), .iconst 3, 0, 0, 0) : iv_I)) rfl).trans (congrArg (fun c => iv_V call mc_97 rt 11 L (.int c :: st) w) li_o3)
theorem e97_11 : iv_V call mc_97 rt 11 L st w = iv_p1 st fun n st' => iv_na w 104 .null n fun v w' => iv_V call mc_97 rt 12 L (v :: st') w' := iv_V_eq (I := (((20, 3), .anewarray 21, 104, 0, 124) : iv_I)) rfl
theorem e97_12 : iv_V call mc_97 rt 12 L st w = iv_pf w st 9 2 fun st' w' => iv_V call mc_97 rt 13 L (st') w' := iv_V_eq (I := (((23, 3), .putfield 23, 9, 2, 152) : iv_I)) rfl
theorem e97_13 : iv_V call mc_97 rt 13 L st w = iv_V call mc_97 rt 14 L (.int 0 :: st) w := (iv_V_eq (I := (((26, 1), .iconst 0, 0, 0, 0) : iv_I)) rfl).trans (congrArg (fun c => iv_V call mc_97 rt 14 L (.int c :: st) w) li_o0)
theorem e97_14 : iv_V call mc_97 rt 14 L st w = iv_p1 st fun x st' => iv_sto L 1 (.int x) fun L' => iv_V call mc_97 rt 15 L' (st') w := iv_V_eq (I := (((27, 1), .istore_n 1, 0, 0, 0) : iv_I)) rfl
theorem e97_15 : iv_V call mc_97 rt 15 L st w = iv_ldi L 1 fun x => iv_V call mc_97 rt 16 L (.int x :: st) w := iv_V_eq (I := (((28, 1), .iload_n 1, 0, 0, 0) : iv_I)) rfl
theorem e97_16 : iv_V call mc_97 rt 16 L st w = iv_V call mc_97 rt 17 L (.int 3 :: st) w := (iv_V_eq (I := (((29, 1), .iconst 3, 0, 0, 0) : iv_I)) rfl).trans (congrArg (fun c => iv_V call mc_97 rt 17 L (.int c :: st) w) li_o3)
theorem e97_17 : iv_V call mc_97 rt 17 L st w = iv_p2 st fun x y st' => if y ≤ x then iv_V call mc_97 rt 28 L (st') w else iv_V call mc_97 rt 18 L (st') w := (iv_V_eq (I := (((30, 3), .if_icmp .ge 23, 28, 0, 0) : iv_I)) rfl).trans (by simp only [iv_go, iv_cnd, decide_eq_true_eq])
theorem e97_18 : iv_V call mc_97 rt 18 L st w = iv_lda L 0 fun x => iv_V call mc_97 rt 19 L (x :: st) w := iv_V_eq (I := (((33, 1), .aload_n 0, 0, 0, 0) : iv_I)) rfl
theorem e97_19 : iv_V call mc_97 rt 19 L st w = iv_gf w st 9 2 fun v st' => iv_V call mc_97 rt 20 L (v :: st') w := iv_V_eq (I := (((34, 3), .getfield 23, 9, 2, 152) : iv_I)) rfl
theorem e97_20 : iv_V call mc_97 rt 20 L st w = iv_ldi L 1 fun x => iv_V call mc_97 rt 21 L (.int x :: st) w := iv_V_eq (I := (((37, 1), .iload_n 1, 0, 0, 0) : iv_I)) rfl
theorem e97_21 : iv_V call mc_97 rt 21 L st w = iv_nw w 3 fun v w' => iv_V call mc_97 rt 22 L (v :: st) w' := iv_V_eq (I := (((38, 3), .new 21, 3, 0, 124) : iv_I)) rfl
theorem e97_22 : iv_V call mc_97 rt 22 L st w = iv_d1 st fun a st' => iv_V call mc_97 rt 23 L (a :: a :: st') w := iv_V_eq (I := (((41, 1), .dup, 0, 0, 0) : iv_I)) rfl
theorem e97_23 : iv_V call mc_97 rt 23 L st w = iv_V call mc_97 rt 24 L (.int 3 :: st) w := (iv_V_eq (I := (((42, 1), .iconst 3, 0, 0, 0) : iv_I)) rfl).trans (congrArg (fun c => iv_V call mc_97 rt 24 L (.int c :: st) w) li_o3)
theorem e97_24 : iv_V call mc_97 rt 24 L st w = iv_inv call 75 2 iv_isr st w fun st' w' => iv_V call mc_97 rt 25 L (st') w' := iv_V_eq (I := (((43, 3), .invokespecial 27, 75, 2, 127) : iv_I)) rfl
theorem e97_25 : iv_V call mc_97 rt 25 L st w = iv_ust w st fun st' w' => iv_V call mc_97 rt 26 L (st') w' := iv_V_eq (I := (((46, 1), .aastore, 0, 0, 0) : iv_I)) rfl
theorem e97_26 : iv_V call mc_97 rt 26 L st w = iv_ldi L 1 fun x => iv_sto L 1 (.int (x + 1)) fun L' => iv_V call mc_97 rt 27 L' (st) w := (iv_V_eq (I := (((47, 3), .iinc 1 1, 0, 0, 0) : iv_I)) rfl).trans (congrArg (fun c => iv_ldi L 1 fun x => iv_sto L 1 (.int (x + c)) fun L' => iv_V call mc_97 rt 27 L' (st) w) li_o1)
theorem e97_27 : iv_V call mc_97 rt 27 L st w = iv_V call mc_97 rt 15 L (st) w := iv_V_eq (I := (((50, 3), .goto (-22), 15, 0, 0) : iv_I)) rfl
theorem e97_28 : iv_V call mc_97 rt 28 L st w = iv_rev rt st w := iv_V_eq (I := (((53, 1), .return_, 0, 0, 0) : iv_I)) rfl
theorem e98_0 : iv_V call mc_98 rt 0 L st w = iv_ldi L 1 fun x => iv_V call mc_98 rt 1 L (.int x :: st) w := iv_V_eq (I := (((0, 1), .iload_n 1, 0, 0, 0) : iv_I)) rfl
theorem e98_1 : iv_V call mc_98 rt 1 L st w = iv_p1 st fun x st' => if x < 0 then iv_V call mc_98 rt 7 L (st') w else iv_V call mc_98 rt 2 L (st') w := (iv_V_eq (I := (((1, 3), .ifCond .lt 12, 7, 0, 0) : iv_I)) rfl).trans (by simp only [iv_go, iv_cnd, decide_eq_true_eq])
theorem e98_2 : iv_V call mc_98 rt 2 L st w = iv_ldi L 1 fun x => iv_V call mc_98 rt 3 L (.int x :: st) w := iv_V_eq (I := (((4, 1), .iload_n 1, 0, 0, 0) : iv_I)) rfl
theorem e98_3 : iv_V call mc_98 rt 3 L st w = iv_V call mc_98 rt 4 L (.int 3 :: st) w := (iv_V_eq (I := (((5, 1), .iconst 3, 0, 0, 0) : iv_I)) rfl).trans (congrArg (fun c => iv_V call mc_98 rt 4 L (.int c :: st) w) li_o3)
theorem e98_4 : iv_V call mc_98 rt 4 L st w = iv_p2 st fun x y st' => if y ≤ x then iv_V call mc_98 rt 7 L (st') w else iv_V call mc_98 rt 5 L (st') w := (iv_V_eq (I := (((6, 3), .if_icmp .ge 7, 7, 0, 0) : iv_I)) rfl).trans (by simp only [iv_go, iv_cnd, decide_eq_true_eq])
theorem e98_5 : iv_V call mc_98 rt 5 L st w = iv_V call mc_98 rt 6 L (.int 1 :: st) w := (iv_V_eq (I := (((9, 1), .iconst 1, 0, 0, 0) : iv_I)) rfl).trans (congrArg (fun c => iv_V call mc_98 rt 6 L (.int c :: st) w) li_o1)
theorem e98_6 : iv_V call mc_98 rt 6 L st w = iv_V call mc_98 rt 8 L (st) w := iv_V_eq (I := (((10, 3), .goto 4, 8, 0, 0) : iv_I)) rfl
theorem e98_7 : iv_V call mc_98 rt 7 L st w = iv_V call mc_98 rt 8 L (.int 0 :: st) w := (iv_V_eq (I := (((13, 1), .iconst 0, 0, 0, 0) : iv_I)) rfl).trans (congrArg (fun c => iv_V call mc_98 rt 8 L (.int c :: st) w) li_o0)
theorem e98_8 : iv_V call mc_98 rt 8 L st w = iv_ret rt st w := iv_V_eq (I := (((14, 1), .ireturn, 0, 0, 0) : iv_I)) rfl
theorem e99_0 : iv_V call mc_99 rt 0 L st w = iv_nw w 3 fun v w' => iv_V call mc_99 rt 1 L (v :: st) w' := iv_V_eq (I := (((0, 3), .new 21, 3, 0, 124) : iv_I)) rfl
theorem e99_1 : iv_V call mc_99 rt 1 L st w = iv_d1 st fun a st' => iv_V call mc_99 rt 2 L (a :: a :: st') w := iv_V_eq (I := (((3, 1), .dup, 0, 0, 0) : iv_I)) rfl
theorem e99_2 : iv_V call mc_99 rt 2 L st w = iv_V call mc_99 rt 3 L (.int 1 :: st) w := (iv_V_eq (I := (((4, 1), .iconst 1, 0, 0, 0) : iv_I)) rfl).trans (congrArg (fun c => iv_V call mc_99 rt 3 L (.int c :: st) w) li_o1)
theorem e99_3 : iv_V call mc_99 rt 3 L st w = iv_inv call 75 2 iv_isr st w fun st' w' => iv_V call mc_99 rt 4 L (st') w' := iv_V_eq (I := (((5, 3), .invokespecial 27, 75, 2, 127) : iv_I)) rfl
theorem e99_4 : iv_V call mc_99 rt 4 L st w = iv_as st fun a st' => iv_sto L 4 (.ref a) fun L' => iv_V call mc_99 rt 5 L' (st') w := iv_V_eq (I := (((8, 2), .astore 4, 0, 0, 0) : iv_I)) rfl
theorem e99_5 : iv_V call mc_99 rt 5 L st w = iv_lda L 4 fun x => iv_V call mc_99 rt 6 L (x :: st) w := iv_V_eq (I := (((10, 2), .aload 4, 0, 0, 0) : iv_I)) rfl
theorem e99_6 : iv_V call mc_99 rt 6 L st w = iv_ldi L 1 fun x => iv_V call mc_99 rt 7 L (.int x :: st) w := iv_V_eq (I := (((12, 1), .iload_n 1, 0, 0, 0) : iv_I)) rfl
theorem e99_7 : iv_V call mc_99 rt 7 L st w = iv_ldi L 2 fun x => iv_V call mc_99 rt 8 L (.int x :: st) w := iv_V_eq (I := (((13, 1), .iload_n 2, 0, 0, 0) : iv_I)) rfl
theorem e99_8 : iv_V call mc_99 rt 8 L st w = iv_ldi L 3 fun x => iv_V call mc_99 rt 9 L (.int x :: st) w := iv_V_eq (I := (((14, 1), .iload_n 3, 0, 0, 0) : iv_I)) rfl
theorem e99_9 : iv_V call mc_99 rt 9 L st w = iv_inv call 76 4 (fun as => iv_rc w as (iv_mc 76)) st w fun st' w' => iv_V call mc_99 rt 10 L (st') w' := iv_V_eq (I := (((15, 3), .invokevirtual 30, 76, 4, 335) : iv_I)) rfl
theorem e99_10 : iv_V call mc_99 rt 10 L st w = iv_d1 st fun a st' => iv_V call mc_99 rt 11 L (st') w := iv_V_eq (I := (((18, 1), .pop, 0, 0, 0) : iv_I)) rfl
theorem e99_11 : iv_V call mc_99 rt 11 L st w = iv_lda L 4 fun x => iv_V call mc_99 rt 12 L (x :: st) w := iv_V_eq (I := (((19, 2), .aload 4, 0, 0, 0) : iv_I)) rfl
theorem e99_12 : iv_V call mc_99 rt 12 L st w = iv_V call mc_99 rt 13 L (.int 1 :: st) w := (iv_V_eq (I := (((21, 1), .iconst 1, 0, 0, 0) : iv_I)) rfl).trans (congrArg (fun c => iv_V call mc_99 rt 13 L (.int c :: st) w) li_o1)
theorem e99_13 : iv_V call mc_99 rt 13 L st w = iv_pf w st 3 2 fun st' w' => iv_V call mc_99 rt 14 L (st') w' := iv_V_eq (I := (((22, 3), .putfield 34, 3, 2, 138) : iv_I)) rfl
theorem e99_14 : iv_V call mc_99 rt 14 L st w = iv_lda L 4 fun x => iv_V call mc_99 rt 15 L (x :: st) w := iv_V_eq (I := (((25, 2), .aload 4, 0, 0, 0) : iv_I)) rfl
theorem e99_15 : iv_V call mc_99 rt 15 L st w = iv_rea rt st w := iv_V_eq (I := (((27, 1), .areturn, 0, 0, 0) : iv_I)) rfl
theorem e100_0 : iv_V call mc_100 rt 0 L st w = iv_lda L 0 fun x => iv_V call mc_100 rt 1 L (x :: st) w := iv_V_eq (I := (((0, 1), .aload_n 0, 0, 0, 0) : iv_I)) rfl
theorem e100_1 : iv_V call mc_100 rt 1 L st w = iv_gf w st 9 1 fun v st' => iv_V call mc_100 rt 2 L (v :: st') w := iv_V_eq (I := (((1, 3), .getfield 17, 9, 1, 150) : iv_I)) rfl
theorem e100_2 : iv_V call mc_100 rt 2 L st w = iv_V call mc_100 rt 3 L (.int 24 :: st) w := (iv_V_eq (I := (((4, 2), .bipush 24, 0, 0, 0) : iv_I)) rfl).trans (congrArg (fun c => iv_V call mc_100 rt 3 L (.int c :: st) w) li_b24)
theorem e100_3 : iv_V call mc_100 rt 3 L st w = iv_p2 st fun x y st' => if x < y then iv_V call mc_100 rt 6 L (st') w else iv_V call mc_100 rt 4 L (st') w := (iv_V_eq (I := (((6, 3), .if_icmp .lt 5, 6, 0, 0) : iv_I)) rfl).trans (by simp only [iv_go, iv_cnd, decide_eq_true_eq])
theorem e100_4 : iv_V call mc_100 rt 4 L st w = iv_V call mc_100 rt 5 L (.int (-1) :: st) w := (iv_V_eq (I := (((9, 1), .iconst (-1), 0, 0, 0) : iv_I)) rfl).trans (congrArg (fun c => iv_V call mc_100 rt 5 L (.int c :: st) w) li_om1)
theorem e100_5 : iv_V call mc_100 rt 5 L st w = iv_ret rt st w := iv_V_eq (I := (((10, 1), .ireturn, 0, 0, 0) : iv_I)) rfl
theorem e100_6 : iv_V call mc_100 rt 6 L st w = iv_lda L 0 fun x => iv_V call mc_100 rt 7 L (x :: st) w := iv_V_eq (I := (((11, 1), .aload_n 0, 0, 0, 0) : iv_I)) rfl
theorem e100_7 : iv_V call mc_100 rt 7 L st w = iv_gf w st 9 0 fun v st' => iv_V call mc_100 rt 8 L (v :: st') w := iv_V_eq (I := (((12, 3), .getfield 11, 9, 0, 148) : iv_I)) rfl
theorem e100_8 : iv_V call mc_100 rt 8 L st w = iv_lda L 0 fun x => iv_V call mc_100 rt 9 L (x :: st) w := iv_V_eq (I := (((15, 1), .aload_n 0, 0, 0, 0) : iv_I)) rfl
theorem e100_9 : iv_V call mc_100 rt 9 L st w = iv_gf w st 9 1 fun v st' => iv_V call mc_100 rt 10 L (v :: st') w := iv_V_eq (I := (((16, 3), .getfield 17, 9, 1, 150) : iv_I)) rfl
theorem e100_10 : iv_V call mc_100 rt 10 L st w = iv_nw w 8 fun v w' => iv_V call mc_100 rt 11 L (v :: st) w' := iv_V_eq (I := (((19, 3), .new 9, 8, 0, 122) : iv_I)) rfl
theorem e100_11 : iv_V call mc_100 rt 11 L st w = iv_d1 st fun a st' => iv_V call mc_100 rt 12 L (a :: a :: st') w := iv_V_eq (I := (((22, 1), .dup, 0, 0, 0) : iv_I)) rfl
theorem e100_12 : iv_V call mc_100 rt 12 L st w = iv_ldi L 1 fun x => iv_V call mc_100 rt 13 L (.int x :: st) w := iv_V_eq (I := (((23, 1), .iload_n 1, 0, 0, 0) : iv_I)) rfl
theorem e100_13 : iv_V call mc_100 rt 13 L st w = iv_ldi L 2 fun x => iv_V call mc_100 rt 14 L (.int x :: st) w := iv_V_eq (I := (((24, 1), .iload_n 2, 0, 0, 0) : iv_I)) rfl
theorem e100_14 : iv_V call mc_100 rt 14 L st w = iv_lda L 3 fun x => iv_V call mc_100 rt 15 L (x :: st) w := iv_V_eq (I := (((25, 1), .aload_n 3, 0, 0, 0) : iv_I)) rfl
theorem e100_15 : iv_V call mc_100 rt 15 L st w = iv_ldi L 4 fun x => iv_V call mc_100 rt 16 L (.int x :: st) w := iv_V_eq (I := (((26, 2), .iload 4, 0, 0, 0) : iv_I)) rfl
theorem e100_16 : iv_V call mc_100 rt 16 L st w = iv_inv call 96 5 iv_isr st w fun st' w' => iv_V call mc_100 rt 17 L (st') w' := iv_V_eq (I := (((28, 3), .invokespecial 38, 96, 5, 359) : iv_I)) rfl
theorem e100_17 : iv_V call mc_100 rt 17 L st w = iv_ust w st fun st' w' => iv_V call mc_100 rt 18 L (st') w' := iv_V_eq (I := (((31, 1), .aastore, 0, 0, 0) : iv_I)) rfl
theorem e100_18 : iv_V call mc_100 rt 18 L st w = iv_lda L 0 fun x => iv_V call mc_100 rt 19 L (x :: st) w := iv_V_eq (I := (((32, 1), .aload_n 0, 0, 0, 0) : iv_I)) rfl
theorem e100_19 : iv_V call mc_100 rt 19 L st w = iv_d1 st fun a st' => iv_V call mc_100 rt 20 L (a :: a :: st') w := iv_V_eq (I := (((33, 1), .dup, 0, 0, 0) : iv_I)) rfl
theorem e100_20 : iv_V call mc_100 rt 20 L st w = iv_gf w st 9 1 fun v st' => iv_V call mc_100 rt 21 L (v :: st') w := iv_V_eq (I := (((34, 3), .getfield 17, 9, 1, 150) : iv_I)) rfl
theorem e100_21 : iv_V call mc_100 rt 21 L st w = iv_V call mc_100 rt 22 L (.int 1 :: st) w := (iv_V_eq (I := (((37, 1), .iconst 1, 0, 0, 0) : iv_I)) rfl).trans (congrArg (fun c => iv_V call mc_100 rt 22 L (.int c :: st) w) li_o1)
theorem e100_22 : iv_V call mc_100 rt 22 L st w = iv_p2 st fun x y st' => iv_V call mc_100 rt 23 L (.int (x + y) :: st') w := iv_V_eq (I := (((38, 1), .iadd, 0, 0, 0) : iv_I)) rfl
theorem e100_23 : iv_V call mc_100 rt 23 L st w = iv_pf w st 9 1 fun st' w' => iv_V call mc_100 rt 24 L (st') w' := iv_V_eq (I := (((39, 3), .putfield 17, 9, 1, 150) : iv_I)) rfl
theorem e100_24 : iv_V call mc_100 rt 24 L st w = iv_lda L 0 fun x => iv_V call mc_100 rt 25 L (x :: st) w := iv_V_eq (I := (((42, 1), .aload_n 0, 0, 0, 0) : iv_I)) rfl
theorem e100_25 : iv_V call mc_100 rt 25 L st w = iv_gf w st 9 1 fun v st' => iv_V call mc_100 rt 26 L (v :: st') w := iv_V_eq (I := (((43, 3), .getfield 17, 9, 1, 150) : iv_I)) rfl
theorem e100_26 : iv_V call mc_100 rt 26 L st w = iv_V call mc_100 rt 27 L (.int 1 :: st) w := (iv_V_eq (I := (((46, 1), .iconst 1, 0, 0, 0) : iv_I)) rfl).trans (congrArg (fun c => iv_V call mc_100 rt 27 L (.int c :: st) w) li_o1)
theorem e100_27 : iv_V call mc_100 rt 27 L st w = iv_p2 st fun x y st' => iv_V call mc_100 rt 28 L (.int (x - y) :: st') w := iv_V_eq (I := (((47, 1), .isub, 0, 0, 0) : iv_I)) rfl
theorem e100_28 : iv_V call mc_100 rt 28 L st w = iv_ret rt st w := iv_V_eq (I := (((48, 1), .ireturn, 0, 0, 0) : iv_I)) rfl
theorem e101_0 : iv_V call mc_101 rt 0 L st w = iv_lda L 0 fun x => iv_V call mc_101 rt 1 L (x :: st) w := iv_V_eq (I := (((0, 1), .aload_n 0, 0, 0, 0) : iv_I)) rfl
theorem e101_1 : iv_V call mc_101 rt 1 L st w = iv_oi st fun st' => iv_V call mc_101 rt 2 L (st') w := iv_V_eq (I := (((1, 3), .invokespecial 3, 0, 1, 55) : iv_I)) rfl
theorem e101_2 : iv_V call mc_101 rt 2 L st w = iv_lda L 0 fun x => iv_V call mc_101 rt 3 L (x :: st) w := iv_V_eq (I := (((4, 1), .aload_n 0, 0, 0, 0) : iv_I)) rfl
theorem e101_3 : iv_V call mc_101 rt 3 L st w = iv_V call mc_101 rt 4 L (.int 0 :: st) w := (iv_V_eq (I := (((5, 1), .iconst 0, 0, 0, 0) : iv_I)) rfl).trans (congrArg (fun c => iv_V call mc_101 rt 4 L (.int c :: st) w) li_o0)
theorem e101_4 : iv_V call mc_101 rt 4 L st w = iv_pf w st 10 0 fun st' w' => iv_V call mc_101 rt 5 L (st') w' := iv_V_eq (I := (((6, 3), .putfield 9, 10, 0, 81) : iv_I)) rfl
theorem e101_5 : iv_V call mc_101 rt 5 L st w = iv_lda L 0 fun x => iv_V call mc_101 rt 6 L (x :: st) w := iv_V_eq (I := (((9, 1), .aload_n 0, 0, 0, 0) : iv_I)) rfl
theorem e101_6 : iv_V call mc_101 rt 6 L st w = iv_V call mc_101 rt 7 L (.int 6 :: st) w := (iv_V_eq (I := (((10, 2), .bipush 6, 0, 0, 0) : iv_I)) rfl).trans (congrArg (fun c => iv_V call mc_101 rt 7 L (.int c :: st) w) li_b6)
theorem e101_7 : iv_V call mc_101 rt 7 L st w = iv_p1 st fun n st' => iv_na w 100 (.int 0) n fun v w' => iv_V call mc_101 rt 8 L (v :: st') w' := iv_V_eq (I := (((12, 2), .newarray .int, 100, 0, 78) : iv_I)) rfl
theorem e101_8 : iv_V call mc_101 rt 8 L st w = iv_pf w st 10 1 fun st' w' => iv_V call mc_101 rt 9 L (st') w' := iv_V_eq (I := (((14, 3), .putfield 15, 10, 1, 82) : iv_I)) rfl
theorem e101_9 : iv_V call mc_101 rt 9 L st w = iv_lda L 0 fun x => iv_V call mc_101 rt 10 L (x :: st) w := iv_V_eq (I := (((17, 1), .aload_n 0, 0, 0, 0) : iv_I)) rfl
theorem e101_10 : iv_V call mc_101 rt 10 L st w = iv_V call mc_101 rt 11 L (.int 6 :: st) w := (iv_V_eq (I := (((18, 2), .bipush 6, 0, 0, 0) : iv_I)) rfl).trans (congrArg (fun c => iv_V call mc_101 rt 11 L (.int c :: st) w) li_b6)
theorem e101_11 : iv_V call mc_101 rt 11 L st w = iv_p1 st fun n st' => iv_na w 106 .null n fun v w' => iv_V call mc_101 rt 12 L (v :: st') w' := iv_V_eq (I := (((20, 3), .anewarray 19, 106, 0, 56) : iv_I)) rfl
theorem e101_12 : iv_V call mc_101 rt 12 L st w = iv_pf w st 10 2 fun st' w' => iv_V call mc_101 rt 13 L (st') w' := iv_V_eq (I := (((23, 3), .putfield 21, 10, 2, 83) : iv_I)) rfl
theorem e101_13 : iv_V call mc_101 rt 13 L st w = iv_V call mc_101 rt 14 L (.int 0 :: st) w := (iv_V_eq (I := (((26, 1), .iconst 0, 0, 0, 0) : iv_I)) rfl).trans (congrArg (fun c => iv_V call mc_101 rt 14 L (.int c :: st) w) li_o0)
theorem e101_14 : iv_V call mc_101 rt 14 L st w = iv_p1 st fun x st' => iv_sto L 1 (.int x) fun L' => iv_V call mc_101 rt 15 L' (st') w := iv_V_eq (I := (((27, 1), .istore_n 1, 0, 0, 0) : iv_I)) rfl
theorem e101_15 : iv_V call mc_101 rt 15 L st w = iv_ldi L 1 fun x => iv_V call mc_101 rt 16 L (.int x :: st) w := iv_V_eq (I := (((28, 1), .iload_n 1, 0, 0, 0) : iv_I)) rfl
theorem e101_16 : iv_V call mc_101 rt 16 L st w = iv_V call mc_101 rt 17 L (.int 6 :: st) w := (iv_V_eq (I := (((29, 2), .bipush 6, 0, 0, 0) : iv_I)) rfl).trans (congrArg (fun c => iv_V call mc_101 rt 17 L (.int c :: st) w) li_b6)
theorem e101_17 : iv_V call mc_101 rt 17 L st w = iv_p2 st fun x y st' => if y ≤ x then iv_V call mc_101 rt 28 L (st') w else iv_V call mc_101 rt 18 L (st') w := (iv_V_eq (I := (((31, 3), .if_icmp .ge 23, 28, 0, 0) : iv_I)) rfl).trans (by simp only [iv_go, iv_cnd, decide_eq_true_eq])
theorem e101_18 : iv_V call mc_101 rt 18 L st w = iv_lda L 0 fun x => iv_V call mc_101 rt 19 L (x :: st) w := iv_V_eq (I := (((34, 1), .aload_n 0, 0, 0, 0) : iv_I)) rfl
theorem e101_19 : iv_V call mc_101 rt 19 L st w = iv_gf w st 10 2 fun v st' => iv_V call mc_101 rt 20 L (v :: st') w := iv_V_eq (I := (((35, 3), .getfield 21, 10, 2, 83) : iv_I)) rfl
theorem e101_20 : iv_V call mc_101 rt 20 L st w = iv_ldi L 1 fun x => iv_V call mc_101 rt 21 L (.int x :: st) w := iv_V_eq (I := (((38, 1), .iload_n 1, 0, 0, 0) : iv_I)) rfl
theorem e101_21 : iv_V call mc_101 rt 21 L st w = iv_nw w 7 fun v w' => iv_V call mc_101 rt 22 L (v :: st) w' := iv_V_eq (I := (((39, 3), .new 19, 7, 0, 56) : iv_I)) rfl
theorem e101_22 : iv_V call mc_101 rt 22 L st w = iv_d1 st fun a st' => iv_V call mc_101 rt 23 L (a :: a :: st') w := iv_V_eq (I := (((42, 1), .dup, 0, 0, 0) : iv_I)) rfl
theorem e101_23 : iv_V call mc_101 rt 23 L st w = iv_V call mc_101 rt 24 L (.int 4 :: st) w := (iv_V_eq (I := (((43, 1), .iconst 4, 0, 0, 0) : iv_I)) rfl).trans (congrArg (fun c => iv_V call mc_101 rt 24 L (.int c :: st) w) li_o4)
theorem e101_24 : iv_V call mc_101 rt 24 L st w = iv_inv call 94 2 iv_isr st w fun st' w' => iv_V call mc_101 rt 25 L (st') w' := iv_V_eq (I := (((44, 3), .invokespecial 25, 94, 2, 59) : iv_I)) rfl
theorem e101_25 : iv_V call mc_101 rt 25 L st w = iv_ust w st fun st' w' => iv_V call mc_101 rt 26 L (st') w' := iv_V_eq (I := (((47, 1), .aastore, 0, 0, 0) : iv_I)) rfl
theorem e101_26 : iv_V call mc_101 rt 26 L st w = iv_ldi L 1 fun x => iv_sto L 1 (.int (x + 1)) fun L' => iv_V call mc_101 rt 27 L' (st) w := (iv_V_eq (I := (((48, 3), .iinc 1 1, 0, 0, 0) : iv_I)) rfl).trans (congrArg (fun c => iv_ldi L 1 fun x => iv_sto L 1 (.int (x + c)) fun L' => iv_V call mc_101 rt 27 L' (st) w) li_o1)
theorem e101_27 : iv_V call mc_101 rt 27 L st w = iv_V call mc_101 rt 15 L (st) w := iv_V_eq (I := (((51, 3), .goto (-23), 15, 0, 0) : iv_I)) rfl
theorem e101_28 : iv_V call mc_101 rt 28 L st w = iv_lda L 0 fun x => iv_V call mc_101 rt 29 L (x :: st) w := iv_V_eq (I := (((54, 1), .aload_n 0, 0, 0, 0) : iv_I)) rfl
theorem e101_29 : iv_V call mc_101 rt 29 L st w = iv_V call mc_101 rt 30 L (.int 0 :: st) w := (iv_V_eq (I := (((55, 1), .iconst 0, 0, 0, 0) : iv_I)) rfl).trans (congrArg (fun c => iv_V call mc_101 rt 30 L (.int c :: st) w) li_o0)
theorem e101_30 : iv_V call mc_101 rt 30 L st w = iv_pf w st 10 3 fun st' w' => iv_V call mc_101 rt 31 L (st') w' := iv_V_eq (I := (((56, 3), .putfield 28, 10, 3, 86) : iv_I)) rfl
theorem e101_31 : iv_V call mc_101 rt 31 L st w = iv_lda L 0 fun x => iv_V call mc_101 rt 32 L (x :: st) w := iv_V_eq (I := (((59, 1), .aload_n 0, 0, 0, 0) : iv_I)) rfl
theorem e101_32 : iv_V call mc_101 rt 32 L st w = iv_V call mc_101 rt 33 L (.int 14 :: st) w := (iv_V_eq (I := (((60, 2), .bipush 14, 0, 0, 0) : iv_I)) rfl).trans (congrArg (fun c => iv_V call mc_101 rt 33 L (.int c :: st) w) li_b14)
theorem e101_33 : iv_V call mc_101 rt 33 L st w = iv_p1 st fun n st' => iv_na w 100 (.int 0) n fun v w' => iv_V call mc_101 rt 34 L (v :: st') w' := iv_V_eq (I := (((62, 2), .newarray .int, 100, 0, 78) : iv_I)) rfl
theorem e101_34 : iv_V call mc_101 rt 34 L st w = iv_pf w st 10 4 fun st' w' => iv_V call mc_101 rt 35 L (st') w' := iv_V_eq (I := (((64, 3), .putfield 31, 10, 4, 88) : iv_I)) rfl
theorem e101_35 : iv_V call mc_101 rt 35 L st w = iv_lda L 0 fun x => iv_V call mc_101 rt 36 L (x :: st) w := iv_V_eq (I := (((67, 1), .aload_n 0, 0, 0, 0) : iv_I)) rfl
theorem e101_36 : iv_V call mc_101 rt 36 L st w = iv_V call mc_101 rt 37 L (.int 14 :: st) w := (iv_V_eq (I := (((68, 2), .bipush 14, 0, 0, 0) : iv_I)) rfl).trans (congrArg (fun c => iv_V call mc_101 rt 37 L (.int c :: st) w) li_b14)
theorem e101_37 : iv_V call mc_101 rt 37 L st w = iv_p1 st fun n st' => iv_na w 100 (.int 0) n fun v w' => iv_V call mc_101 rt 38 L (v :: st') w' := iv_V_eq (I := (((70, 2), .newarray .int, 100, 0, 78) : iv_I)) rfl
theorem e101_38 : iv_V call mc_101 rt 38 L st w = iv_pf w st 10 5 fun st' w' => iv_V call mc_101 rt 39 L (st') w' := iv_V_eq (I := (((72, 3), .putfield 34, 10, 5, 89) : iv_I)) rfl
theorem e101_39 : iv_V call mc_101 rt 39 L st w = iv_lda L 0 fun x => iv_V call mc_101 rt 40 L (x :: st) w := iv_V_eq (I := (((75, 1), .aload_n 0, 0, 0, 0) : iv_I)) rfl
theorem e101_40 : iv_V call mc_101 rt 40 L st w = iv_V call mc_101 rt 41 L (.int 14 :: st) w := (iv_V_eq (I := (((76, 2), .bipush 14, 0, 0, 0) : iv_I)) rfl).trans (congrArg (fun c => iv_V call mc_101 rt 41 L (.int c :: st) w) li_b14)
theorem e101_41 : iv_V call mc_101 rt 41 L st w = iv_p1 st fun n st' => iv_na w 101 (.int 0) n fun v w' => iv_V call mc_101 rt 42 L (v :: st') w' := iv_V_eq (I := (((78, 2), .newarray .boolean, 101, 0, 115) : iv_I)) rfl
theorem e101_42 : iv_V call mc_101 rt 42 L st w = iv_pf w st 10 6 fun st' w' => iv_V call mc_101 rt 43 L (st') w' := iv_V_eq (I := (((80, 3), .putfield 37, 10, 6, 92) : iv_I)) rfl
theorem e101_43 : iv_V call mc_101 rt 43 L st w = iv_lda L 0 fun x => iv_V call mc_101 rt 44 L (x :: st) w := iv_V_eq (I := (((83, 1), .aload_n 0, 0, 0, 0) : iv_I)) rfl
theorem e101_44 : iv_V call mc_101 rt 44 L st w = iv_V call mc_101 rt 45 L (.int 14 :: st) w := (iv_V_eq (I := (((84, 2), .bipush 14, 0, 0, 0) : iv_I)) rfl).trans (congrArg (fun c => iv_V call mc_101 rt 45 L (.int c :: st) w) li_b14)
theorem e101_45 : iv_V call mc_101 rt 45 L st w = iv_V call mc_101 rt 46 L (.int 6 :: st) w := (iv_V_eq (I := (((86, 2), .bipush 6, 0, 0, 0) : iv_I)) rfl).trans (congrArg (fun c => iv_V call mc_101 rt 46 L (.int c :: st) w) li_b6)
theorem e101_46 : iv_V call mc_101 rt 46 L st w = iv_p2 st fun n m st' => iv_nm w 103 100 (.int 0) n m fun v w' => iv_V call mc_101 rt 47 L (v :: st') w' := iv_V_eq (I := (((88, 4), .multianewarray 41 2, 103, 100, 79) : iv_I)) rfl
theorem e101_47 : iv_V call mc_101 rt 47 L st w = iv_pf w st 10 7 fun st' w' => iv_V call mc_101 rt 48 L (st') w' := iv_V_eq (I := (((92, 3), .putfield 43, 10, 7, 95) : iv_I)) rfl
theorem e101_48 : iv_V call mc_101 rt 48 L st w = iv_rev rt st w := iv_V_eq (I := (((95, 1), .return_, 0, 0, 0) : iv_I)) rfl
theorem e102_0 : iv_V call mc_102 rt 0 L st w = iv_ldi L 1 fun x => iv_V call mc_102 rt 1 L (.int x :: st) w := iv_V_eq (I := (((0, 1), .iload_n 1, 0, 0, 0) : iv_I)) rfl
theorem e102_1 : iv_V call mc_102 rt 1 L st w = iv_p1 st fun x st' => if x < 0 then iv_V call mc_102 rt 8 L (st') w else iv_V call mc_102 rt 2 L (st') w := (iv_V_eq (I := (((1, 3), .ifCond .lt 15, 8, 0, 0) : iv_I)) rfl).trans (by simp only [iv_go, iv_cnd, decide_eq_true_eq])
theorem e102_2 : iv_V call mc_102 rt 2 L st w = iv_ldi L 1 fun x => iv_V call mc_102 rt 3 L (.int x :: st) w := iv_V_eq (I := (((4, 1), .iload_n 1, 0, 0, 0) : iv_I)) rfl
theorem e102_3 : iv_V call mc_102 rt 3 L st w = iv_lda L 0 fun x => iv_V call mc_102 rt 4 L (x :: st) w := iv_V_eq (I := (((5, 1), .aload_n 0, 0, 0, 0) : iv_I)) rfl
theorem e102_4 : iv_V call mc_102 rt 4 L st w = iv_gf w st 10 0 fun v st' => iv_V call mc_102 rt 5 L (v :: st') w := iv_V_eq (I := (((6, 3), .getfield 9, 10, 0, 81) : iv_I)) rfl
theorem e102_5 : iv_V call mc_102 rt 5 L st w = iv_p2 st fun x y st' => if y ≤ x then iv_V call mc_102 rt 8 L (st') w else iv_V call mc_102 rt 6 L (st') w := (iv_V_eq (I := (((9, 3), .if_icmp .ge 7, 8, 0, 0) : iv_I)) rfl).trans (by simp only [iv_go, iv_cnd, decide_eq_true_eq])
theorem e102_6 : iv_V call mc_102 rt 6 L st w = iv_V call mc_102 rt 7 L (.int 1 :: st) w := (iv_V_eq (I := (((12, 1), .iconst 1, 0, 0, 0) : iv_I)) rfl).trans (congrArg (fun c => iv_V call mc_102 rt 7 L (.int c :: st) w) li_o1)
theorem e102_7 : iv_V call mc_102 rt 7 L st w = iv_V call mc_102 rt 9 L (st) w := iv_V_eq (I := (((13, 3), .goto 4, 9, 0, 0) : iv_I)) rfl
theorem e102_8 : iv_V call mc_102 rt 8 L st w = iv_V call mc_102 rt 9 L (.int 0 :: st) w := (iv_V_eq (I := (((16, 1), .iconst 0, 0, 0, 0) : iv_I)) rfl).trans (congrArg (fun c => iv_V call mc_102 rt 9 L (.int c :: st) w) li_o0)
theorem e102_9 : iv_V call mc_102 rt 9 L st w = iv_ret rt st w := iv_V_eq (I := (((17, 1), .ireturn, 0, 0, 0) : iv_I)) rfl
theorem e103_0 : iv_V call mc_103 rt 0 L st w = iv_ldi L 1 fun x => iv_V call mc_103 rt 1 L (.int x :: st) w := iv_V_eq (I := (((0, 1), .iload_n 1, 0, 0, 0) : iv_I)) rfl
theorem e103_1 : iv_V call mc_103 rt 1 L st w = iv_p1 st fun x st' => if x < 0 then iv_V call mc_103 rt 8 L (st') w else iv_V call mc_103 rt 2 L (st') w := (iv_V_eq (I := (((1, 3), .ifCond .lt 15, 8, 0, 0) : iv_I)) rfl).trans (by simp only [iv_go, iv_cnd, decide_eq_true_eq])
theorem e103_2 : iv_V call mc_103 rt 2 L st w = iv_ldi L 1 fun x => iv_V call mc_103 rt 3 L (.int x :: st) w := iv_V_eq (I := (((4, 1), .iload_n 1, 0, 0, 0) : iv_I)) rfl
theorem e103_3 : iv_V call mc_103 rt 3 L st w = iv_lda L 0 fun x => iv_V call mc_103 rt 4 L (x :: st) w := iv_V_eq (I := (((5, 1), .aload_n 0, 0, 0, 0) : iv_I)) rfl
theorem e103_4 : iv_V call mc_103 rt 4 L st w = iv_gf w st 10 3 fun v st' => iv_V call mc_103 rt 5 L (v :: st') w := iv_V_eq (I := (((6, 3), .getfield 28, 10, 3, 86) : iv_I)) rfl
theorem e103_5 : iv_V call mc_103 rt 5 L st w = iv_p2 st fun x y st' => if y ≤ x then iv_V call mc_103 rt 8 L (st') w else iv_V call mc_103 rt 6 L (st') w := (iv_V_eq (I := (((9, 3), .if_icmp .ge 7, 8, 0, 0) : iv_I)) rfl).trans (by simp only [iv_go, iv_cnd, decide_eq_true_eq])
theorem e103_6 : iv_V call mc_103 rt 6 L st w = iv_V call mc_103 rt 7 L (.int 1 :: st) w := (iv_V_eq (I := (((12, 1), .iconst 1, 0, 0, 0) : iv_I)) rfl).trans (congrArg (fun c => iv_V call mc_103 rt 7 L (.int c :: st) w) li_o1)
theorem e103_7 : iv_V call mc_103 rt 7 L st w = iv_V call mc_103 rt 9 L (st) w := iv_V_eq (I := (((13, 3), .goto 4, 9, 0, 0) : iv_I)) rfl
theorem e103_8 : iv_V call mc_103 rt 8 L st w = iv_V call mc_103 rt 9 L (.int 0 :: st) w := (iv_V_eq (I := (((16, 1), .iconst 0, 0, 0, 0) : iv_I)) rfl).trans (congrArg (fun c => iv_V call mc_103 rt 9 L (.int c :: st) w) li_o0)
theorem e103_9 : iv_V call mc_103 rt 9 L st w = iv_ret rt st w := iv_V_eq (I := (((17, 1), .ireturn, 0, 0, 0) : iv_I)) rfl
theorem e104_0 : iv_V call mc_104 rt 0 L st w = iv_lda L 0 fun x => iv_V call mc_104 rt 1 L (x :: st) w := iv_V_eq (I := (((0, 1), .aload_n 0, 0, 0, 0) : iv_I)) rfl
theorem e104_1 : iv_V call mc_104 rt 1 L st w = iv_gf w st 10 5 fun v st' => iv_V call mc_104 rt 2 L (v :: st') w := iv_V_eq (I := (((1, 3), .getfield 34, 10, 5, 89) : iv_I)) rfl
theorem e104_2 : iv_V call mc_104 rt 2 L st w = iv_ldi L 1 fun x => iv_V call mc_104 rt 3 L (.int x :: st) w := iv_V_eq (I := (((4, 1), .iload_n 1, 0, 0, 0) : iv_I)) rfl
theorem e104_3 : iv_V call mc_104 rt 3 L st w = iv_ald w st iv_isI fun v st' => iv_V call mc_104 rt 4 L (v :: st') w := iv_V_eq (I := (((5, 1), .iaload, 0, 0, 0) : iv_I)) rfl
theorem e104_4 : iv_V call mc_104 rt 4 L st w = iv_V call mc_104 rt 5 L (.int 2 :: st) w := (iv_V_eq (I := (((6, 1), .iconst 2, 0, 0, 0) : iv_I)) rfl).trans (congrArg (fun c => iv_V call mc_104 rt 5 L (.int c :: st) w) li_o2)
theorem e104_5 : iv_V call mc_104 rt 5 L st w = iv_p2 st fun x y st' => if x = y then iv_V call mc_104 rt 12 L (st') w else iv_V call mc_104 rt 6 L (st') w := (iv_V_eq (I := (((7, 3), .if_icmp .eq 13, 12, 0, 0) : iv_I)) rfl).trans (by simp only [iv_go, iv_cnd, decide_eq_true_eq])
theorem e104_6 : iv_V call mc_104 rt 6 L st w = iv_lda L 0 fun x => iv_V call mc_104 rt 7 L (x :: st) w := iv_V_eq (I := (((10, 1), .aload_n 0, 0, 0, 0) : iv_I)) rfl
theorem e104_7 : iv_V call mc_104 rt 7 L st w = iv_gf w st 10 5 fun v st' => iv_V call mc_104 rt 8 L (v :: st') w := iv_V_eq (I := (((11, 3), .getfield 34, 10, 5, 89) : iv_I)) rfl
theorem e104_8 : iv_V call mc_104 rt 8 L st w = iv_ldi L 1 fun x => iv_V call mc_104 rt 9 L (.int x :: st) w := iv_V_eq (I := (((14, 1), .iload_n 1, 0, 0, 0) : iv_I)) rfl
theorem e104_9 : iv_V call mc_104 rt 9 L st w = iv_ald w st iv_isI fun v st' => iv_V call mc_104 rt 10 L (v :: st') w := iv_V_eq (I := (((15, 1), .iaload, 0, 0, 0) : iv_I)) rfl
theorem e104_10 : iv_V call mc_104 rt 10 L st w = iv_V call mc_104 rt 11 L (.int 3 :: st) w := (iv_V_eq (I := (((16, 1), .iconst 3, 0, 0, 0) : iv_I)) rfl).trans (congrArg (fun c => iv_V call mc_104 rt 11 L (.int c :: st) w) li_o3)
theorem e104_11 : iv_V call mc_104 rt 11 L st w = iv_p2 st fun x y st' => if ¬ x = y then iv_V call mc_104 rt 14 L (st') w else iv_V call mc_104 rt 12 L (st') w := (iv_V_eq (I := (((17, 3), .if_icmp .ne 7, 14, 0, 0) : iv_I)) rfl).trans (by simp only [iv_go, iv_cnd, decide_eq_true_eq])
theorem e104_12 : iv_V call mc_104 rt 12 L st w = iv_V call mc_104 rt 13 L (.int 1 :: st) w := (iv_V_eq (I := (((20, 1), .iconst 1, 0, 0, 0) : iv_I)) rfl).trans (congrArg (fun c => iv_V call mc_104 rt 13 L (.int c :: st) w) li_o1)
theorem e104_13 : iv_V call mc_104 rt 13 L st w = iv_V call mc_104 rt 15 L (st) w := iv_V_eq (I := (((21, 3), .goto 4, 15, 0, 0) : iv_I)) rfl
theorem e104_14 : iv_V call mc_104 rt 14 L st w = iv_V call mc_104 rt 15 L (.int 0 :: st) w := (iv_V_eq (I := (((24, 1), .iconst 0, 0, 0, 0) : iv_I)) rfl).trans (congrArg (fun c => iv_V call mc_104 rt 15 L (.int c :: st) w) li_o0)
theorem e104_15 : iv_V call mc_104 rt 15 L st w = iv_ret rt st w := iv_V_eq (I := (((25, 1), .ireturn, 0, 0, 0) : iv_I)) rfl
theorem e105_0 : iv_V call mc_105 rt 0 L st w = iv_lda L 0 fun x => iv_V call mc_105 rt 1 L (x :: st) w := iv_V_eq (I := (((0, 1), .aload_n 0, 0, 0, 0) : iv_I)) rfl
theorem e105_1 : iv_V call mc_105 rt 1 L st w = iv_gf w st 10 5 fun v st' => iv_V call mc_105 rt 2 L (v :: st') w := iv_V_eq (I := (((1, 3), .getfield 34, 10, 5, 89) : iv_I)) rfl
theorem e105_2 : iv_V call mc_105 rt 2 L st w = iv_ldi L 1 fun x => iv_V call mc_105 rt 3 L (.int x :: st) w := iv_V_eq (I := (((4, 1), .iload_n 1, 0, 0, 0) : iv_I)) rfl
theorem e105_3 : iv_V call mc_105 rt 3 L st w = iv_ald w st iv_isI fun v st' => iv_V call mc_105 rt 4 L (v :: st') w := iv_V_eq (I := (((5, 1), .iaload, 0, 0, 0) : iv_I)) rfl
theorem e105_4 : iv_V call mc_105 rt 4 L st w = iv_V call mc_105 rt 5 L (.int 1 :: st) w := (iv_V_eq (I := (((6, 1), .iconst 1, 0, 0, 0) : iv_I)) rfl).trans (congrArg (fun c => iv_V call mc_105 rt 5 L (.int c :: st) w) li_o1)
theorem e105_5 : iv_V call mc_105 rt 5 L st w = iv_p2 st fun x y st' => if x = y then iv_V call mc_105 rt 12 L (st') w else iv_V call mc_105 rt 6 L (st') w := (iv_V_eq (I := (((7, 3), .if_icmp .eq 13, 12, 0, 0) : iv_I)) rfl).trans (by simp only [iv_go, iv_cnd, decide_eq_true_eq])
theorem e105_6 : iv_V call mc_105 rt 6 L st w = iv_lda L 0 fun x => iv_V call mc_105 rt 7 L (x :: st) w := iv_V_eq (I := (((10, 1), .aload_n 0, 0, 0, 0) : iv_I)) rfl
theorem e105_7 : iv_V call mc_105 rt 7 L st w = iv_gf w st 10 5 fun v st' => iv_V call mc_105 rt 8 L (v :: st') w := iv_V_eq (I := (((11, 3), .getfield 34, 10, 5, 89) : iv_I)) rfl
theorem e105_8 : iv_V call mc_105 rt 8 L st w = iv_ldi L 1 fun x => iv_V call mc_105 rt 9 L (.int x :: st) w := iv_V_eq (I := (((14, 1), .iload_n 1, 0, 0, 0) : iv_I)) rfl
theorem e105_9 : iv_V call mc_105 rt 9 L st w = iv_ald w st iv_isI fun v st' => iv_V call mc_105 rt 10 L (v :: st') w := iv_V_eq (I := (((15, 1), .iaload, 0, 0, 0) : iv_I)) rfl
theorem e105_10 : iv_V call mc_105 rt 10 L st w = iv_V call mc_105 rt 11 L (.int 3 :: st) w := (iv_V_eq (I := (((16, 1), .iconst 3, 0, 0, 0) : iv_I)) rfl).trans (congrArg (fun c => iv_V call mc_105 rt 11 L (.int c :: st) w) li_o3)
theorem e105_11 : iv_V call mc_105 rt 11 L st w = iv_p2 st fun x y st' => if ¬ x = y then iv_V call mc_105 rt 14 L (st') w else iv_V call mc_105 rt 12 L (st') w := (iv_V_eq (I := (((17, 3), .if_icmp .ne 7, 14, 0, 0) : iv_I)) rfl).trans (by simp only [iv_go, iv_cnd, decide_eq_true_eq])
theorem e105_12 : iv_V call mc_105 rt 12 L st w = iv_V call mc_105 rt 13 L (.int 1 :: st) w := (iv_V_eq (I := (((20, 1), .iconst 1, 0, 0, 0) : iv_I)) rfl).trans (congrArg (fun c => iv_V call mc_105 rt 13 L (.int c :: st) w) li_o1)
theorem e105_13 : iv_V call mc_105 rt 13 L st w = iv_V call mc_105 rt 15 L (st) w := iv_V_eq (I := (((21, 3), .goto 4, 15, 0, 0) : iv_I)) rfl
theorem e105_14 : iv_V call mc_105 rt 14 L st w = iv_V call mc_105 rt 15 L (.int 0 :: st) w := (iv_V_eq (I := (((24, 1), .iconst 0, 0, 0, 0) : iv_I)) rfl).trans (congrArg (fun c => iv_V call mc_105 rt 15 L (.int c :: st) w) li_o0)
theorem e105_15 : iv_V call mc_105 rt 15 L st w = iv_ret rt st w := iv_V_eq (I := (((25, 1), .ireturn, 0, 0, 0) : iv_I)) rfl
theorem e106_0 : iv_V call mc_106 rt 0 L st w = iv_lda L 0 fun x => iv_V call mc_106 rt 1 L (x :: st) w := iv_V_eq (I := (((0, 1), .aload_n 0, 0, 0, 0) : iv_I)) rfl
theorem e106_1 : iv_V call mc_106 rt 1 L st w = iv_gf w st 10 1 fun v st' => iv_V call mc_106 rt 2 L (v :: st') w := iv_V_eq (I := (((1, 3), .getfield 15, 10, 1, 82) : iv_I)) rfl
theorem e106_2 : iv_V call mc_106 rt 2 L st w = iv_ldi L 1 fun x => iv_V call mc_106 rt 3 L (.int x :: st) w := iv_V_eq (I := (((4, 1), .iload_n 1, 0, 0, 0) : iv_I)) rfl
theorem e106_3 : iv_V call mc_106 rt 3 L st w = iv_ald w st iv_isI fun v st' => iv_V call mc_106 rt 4 L (v :: st') w := iv_V_eq (I := (((5, 1), .iaload, 0, 0, 0) : iv_I)) rfl
theorem e106_4 : iv_V call mc_106 rt 4 L st w = iv_lda L 0 fun x => iv_V call mc_106 rt 5 L (x :: st) w := iv_V_eq (I := (((6, 1), .aload_n 0, 0, 0, 0) : iv_I)) rfl
theorem e106_5 : iv_V call mc_106 rt 5 L st w = iv_gf w st 10 4 fun v st' => iv_V call mc_106 rt 6 L (v :: st') w := iv_V_eq (I := (((7, 3), .getfield 31, 10, 4, 88) : iv_I)) rfl
theorem e106_6 : iv_V call mc_106 rt 6 L st w = iv_ldi L 2 fun x => iv_V call mc_106 rt 7 L (.int x :: st) w := iv_V_eq (I := (((10, 1), .iload_n 2, 0, 0, 0) : iv_I)) rfl
theorem e106_7 : iv_V call mc_106 rt 7 L st w = iv_ald w st iv_isI fun v st' => iv_V call mc_106 rt 8 L (v :: st') w := iv_V_eq (I := (((11, 1), .iaload, 0, 0, 0) : iv_I)) rfl
theorem e106_8 : iv_V call mc_106 rt 8 L st w = iv_p2 st fun x y st' => iv_V call mc_106 rt 9 L (.int (x >>> (y &&& 31)) :: st') w := iv_V_eq (I := (((12, 1), .ishr, 0, 0, 0) : iv_I)) rfl
theorem e106_9 : iv_V call mc_106 rt 9 L st w = iv_V call mc_106 rt 10 L (.int 1 :: st) w := (iv_V_eq (I := (((13, 1), .iconst 1, 0, 0, 0) : iv_I)) rfl).trans (congrArg (fun c => iv_V call mc_106 rt 10 L (.int c :: st) w) li_o1)
theorem e106_10 : iv_V call mc_106 rt 10 L st w = iv_p2 st fun x y st' => iv_V call mc_106 rt 11 L (.int (x &&& y) :: st') w := iv_V_eq (I := (((14, 1), .iand, 0, 0, 0) : iv_I)) rfl
theorem e106_11 : iv_V call mc_106 rt 11 L st w = iv_p1 st fun x st' => if x = 0 then iv_V call mc_106 rt 14 L (st') w else iv_V call mc_106 rt 12 L (st') w := (iv_V_eq (I := (((15, 3), .ifCond .eq 7, 14, 0, 0) : iv_I)) rfl).trans (by simp only [iv_go, iv_cnd, decide_eq_true_eq])
theorem e106_12 : iv_V call mc_106 rt 12 L st w = iv_V call mc_106 rt 13 L (.int 1 :: st) w := (iv_V_eq (I := (((18, 1), .iconst 1, 0, 0, 0) : iv_I)) rfl).trans (congrArg (fun c => iv_V call mc_106 rt 13 L (.int c :: st) w) li_o1)
theorem e106_13 : iv_V call mc_106 rt 13 L st w = iv_V call mc_106 rt 15 L (st) w := iv_V_eq (I := (((19, 3), .goto 4, 15, 0, 0) : iv_I)) rfl
theorem e106_14 : iv_V call mc_106 rt 14 L st w = iv_V call mc_106 rt 15 L (.int 0 :: st) w := (iv_V_eq (I := (((22, 1), .iconst 0, 0, 0, 0) : iv_I)) rfl).trans (congrArg (fun c => iv_V call mc_106 rt 15 L (.int c :: st) w) li_o0)
theorem e106_15 : iv_V call mc_106 rt 15 L st w = iv_ret rt st w := iv_V_eq (I := (((23, 1), .ireturn, 0, 0, 0) : iv_I)) rfl
theorem e107_0 : iv_V call mc_107 rt 0 L st w = iv_V call mc_107 rt 1 L (.int 0 :: st) w := (iv_V_eq (I := (((0, 1), .iconst 0, 0, 0, 0) : iv_I)) rfl).trans (congrArg (fun c => iv_V call mc_107 rt 1 L (.int c :: st) w) li_o0)
theorem e107_1 : iv_V call mc_107 rt 1 L st w = iv_p1 st fun x st' => iv_sto L 2 (.int x) fun L' => iv_V call mc_107 rt 2 L' (st') w := iv_V_eq (I := (((1, 1), .istore_n 2, 0, 0, 0) : iv_I)) rfl
theorem e107_2 : iv_V call mc_107 rt 2 L st w = iv_V call mc_107 rt 3 L (.int 0 :: st) w := (iv_V_eq (I := (((2, 1), .iconst 0, 0, 0, 0) : iv_I)) rfl).trans (congrArg (fun c => iv_V call mc_107 rt 3 L (.int c :: st) w) li_o0)
theorem e107_3 : iv_V call mc_107 rt 3 L st w = iv_p1 st fun x st' => iv_sto L 3 (.int x) fun L' => iv_V call mc_107 rt 4 L' (st') w := iv_V_eq (I := (((3, 1), .istore_n 3, 0, 0, 0) : iv_I)) rfl
theorem e107_4 : iv_V call mc_107 rt 4 L st w = iv_ldi L 3 fun x => iv_V call mc_107 rt 5 L (.int x :: st) w := iv_V_eq (I := (((4, 1), .iload_n 3, 0, 0, 0) : iv_I)) rfl
theorem e107_5 : iv_V call mc_107 rt 5 L st w = iv_lda L 0 fun x => iv_V call mc_107 rt 6 L (x :: st) w := iv_V_eq (I := (((5, 1), .aload_n 0, 0, 0, 0) : iv_I)) rfl
theorem e107_6 : iv_V call mc_107 rt 6 L st w = iv_gf w st 10 3 fun v st' => iv_V call mc_107 rt 7 L (v :: st') w := iv_V_eq (I := (((6, 3), .getfield 28, 10, 3, 86) : iv_I)) rfl
theorem e107_7 : iv_V call mc_107 rt 7 L st w = iv_p2 st fun x y st' => if y ≤ x then iv_V call mc_107 rt 21 L (st') w else iv_V call mc_107 rt 8 L (st') w := (iv_V_eq (I := (((9, 3), .if_icmp .ge 24, 21, 0, 0) : iv_I)) rfl).trans (by simp only [iv_go, iv_cnd, decide_eq_true_eq])
theorem e107_8 : iv_V call mc_107 rt 8 L st w = iv_lda L 0 fun x => iv_V call mc_107 rt 9 L (x :: st) w := iv_V_eq (I := (((12, 1), .aload_n 0, 0, 0, 0) : iv_I)) rfl
theorem e107_9 : iv_V call mc_107 rt 9 L st w = iv_ldi L 1 fun x => iv_V call mc_107 rt 10 L (.int x :: st) w := iv_V_eq (I := (((13, 1), .iload_n 1, 0, 0, 0) : iv_I)) rfl
theorem e107_10 : iv_V call mc_107 rt 10 L st w = iv_ldi L 3 fun x => iv_V call mc_107 rt 11 L (.int x :: st) w := iv_V_eq (I := (((14, 1), .iload_n 3, 0, 0, 0) : iv_I)) rfl
theorem e107_11 : iv_V call mc_107 rt 11 L st w = iv_inv call 106 3 (fun as => iv_rc w as (iv_mc 106)) st w fun st' w' => iv_V call mc_107 rt 12 L (st') w' := iv_V_eq (I := (((15, 3), .invokevirtual 46, 106, 3, 504) : iv_I)) rfl
theorem e107_12 : iv_V call mc_107 rt 12 L st w = iv_p1 st fun x st' => if x = 0 then iv_V call mc_107 rt 19 L (st') w else iv_V call mc_107 rt 13 L (st') w := (iv_V_eq (I := (((18, 3), .ifCond .eq 9, 19, 0, 0) : iv_I)) rfl).trans (by simp only [iv_go, iv_cnd, decide_eq_true_eq])
theorem e107_13 : iv_V call mc_107 rt 13 L st w = iv_ldi L 2 fun x => iv_V call mc_107 rt 14 L (.int x :: st) w := iv_V_eq (I := (((21, 1), .iload_n 2, 0, 0, 0) : iv_I)) rfl
theorem e107_14 : iv_V call mc_107 rt 14 L st w = iv_V call mc_107 rt 15 L (.int 1 :: st) w := (iv_V_eq (I := (((22, 1), .iconst 1, 0, 0, 0) : iv_I)) rfl).trans (congrArg (fun c => iv_V call mc_107 rt 15 L (.int c :: st) w) li_o1)
theorem e107_15 : iv_V call mc_107 rt 15 L st w = iv_ldi L 3 fun x => iv_V call mc_107 rt 16 L (.int x :: st) w := iv_V_eq (I := (((23, 1), .iload_n 3, 0, 0, 0) : iv_I)) rfl
theorem e107_16 : iv_V call mc_107 rt 16 L st w = iv_p2 st fun x y st' => iv_V call mc_107 rt 17 L (.int (x <<< (y &&& 31)) :: st') w := iv_V_eq (I := (((24, 1), .ishl, 0, 0, 0) : iv_I)) rfl
theorem e107_17 : iv_V call mc_107 rt 17 L st w = iv_p2 st fun x y st' => iv_V call mc_107 rt 18 L (.int (x ||| y) :: st') w := iv_V_eq (I := (((25, 1), .ior, 0, 0, 0) : iv_I)) rfl
theorem e107_18 : iv_V call mc_107 rt 18 L st w = iv_p1 st fun x st' => iv_sto L 2 (.int x) fun L' => iv_V call mc_107 rt 19 L' (st') w := iv_V_eq (I := (((26, 1), .istore_n 2, 0, 0, 0) : iv_I)) rfl
theorem e107_19 : iv_V call mc_107 rt 19 L st w = iv_ldi L 3 fun x => iv_sto L 3 (.int (x + 1)) fun L' => iv_V call mc_107 rt 20 L' (st) w := (iv_V_eq (I := (((27, 3), .iinc 3 1, 0, 0, 0) : iv_I)) rfl).trans (congrArg (fun c => iv_ldi L 3 fun x => iv_sto L 3 (.int (x + c)) fun L' => iv_V call mc_107 rt 20 L' (st) w) li_o1)
theorem e107_20 : iv_V call mc_107 rt 20 L st w = iv_V call mc_107 rt 4 L (st) w := iv_V_eq (I := (((30, 3), .goto (-26), 4, 0, 0) : iv_I)) rfl
theorem e107_21 : iv_V call mc_107 rt 21 L st w = iv_ldi L 2 fun x => iv_V call mc_107 rt 22 L (.int x :: st) w := iv_V_eq (I := (((33, 1), .iload_n 2, 0, 0, 0) : iv_I)) rfl
theorem e107_22 : iv_V call mc_107 rt 22 L st w = iv_ret rt st w := iv_V_eq (I := (((34, 1), .ireturn, 0, 0, 0) : iv_I)) rfl
theorem e108_0 : iv_V call mc_108 rt 0 L st w = iv_lda L 0 fun x => iv_V call mc_108 rt 1 L (x :: st) w := iv_V_eq (I := (((0, 1), .aload_n 0, 0, 0, 0) : iv_I)) rfl
theorem e108_1 : iv_V call mc_108 rt 1 L st w = iv_gf w st 10 0 fun v st' => iv_V call mc_108 rt 2 L (v :: st') w := iv_V_eq (I := (((1, 3), .getfield 9, 10, 0, 81) : iv_I)) rfl
theorem e108_2 : iv_V call mc_108 rt 2 L st w = iv_V call mc_108 rt 3 L (.int 6 :: st) w := (iv_V_eq (I := (((4, 2), .bipush 6, 0, 0, 0) : iv_I)) rfl).trans (congrArg (fun c => iv_V call mc_108 rt 3 L (.int c :: st) w) li_b6)
theorem e108_3 : iv_V call mc_108 rt 3 L st w = iv_p2 st fun x y st' => if x < y then iv_V call mc_108 rt 6 L (st') w else iv_V call mc_108 rt 4 L (st') w := (iv_V_eq (I := (((6, 3), .if_icmp .lt 5, 6, 0, 0) : iv_I)) rfl).trans (by simp only [iv_go, iv_cnd, decide_eq_true_eq])
theorem e108_4 : iv_V call mc_108 rt 4 L st w = iv_V call mc_108 rt 5 L (.int (-1) :: st) w := (iv_V_eq (I := (((9, 1), .iconst (-1), 0, 0, 0) : iv_I)) rfl).trans (congrArg (fun c => iv_V call mc_108 rt 5 L (.int c :: st) w) li_om1)
theorem e108_5 : iv_V call mc_108 rt 5 L st w = iv_ret rt st w := iv_V_eq (I := (((10, 1), .ireturn, 0, 0, 0) : iv_I)) rfl
theorem e108_6 : iv_V call mc_108 rt 6 L st w = iv_lda L 0 fun x => iv_V call mc_108 rt 7 L (x :: st) w := iv_V_eq (I := (((11, 1), .aload_n 0, 0, 0, 0) : iv_I)) rfl
theorem e108_7 : iv_V call mc_108 rt 7 L st w = iv_gf w st 10 0 fun v st' => iv_V call mc_108 rt 8 L (v :: st') w := iv_V_eq (I := (((12, 3), .getfield 9, 10, 0, 81) : iv_I)) rfl
theorem e108_8 : iv_V call mc_108 rt 8 L st w = iv_p1 st fun x st' => iv_sto L 2 (.int x) fun L' => iv_V call mc_108 rt 9 L' (st') w := iv_V_eq (I := (((15, 1), .istore_n 2, 0, 0, 0) : iv_I)) rfl
theorem e108_9 : iv_V call mc_108 rt 9 L st w = iv_lda L 0 fun x => iv_V call mc_108 rt 10 L (x :: st) w := iv_V_eq (I := (((16, 1), .aload_n 0, 0, 0, 0) : iv_I)) rfl
theorem e108_10 : iv_V call mc_108 rt 10 L st w = iv_gf w st 10 1 fun v st' => iv_V call mc_108 rt 11 L (v :: st') w := iv_V_eq (I := (((17, 3), .getfield 15, 10, 1, 82) : iv_I)) rfl
theorem e108_11 : iv_V call mc_108 rt 11 L st w = iv_ldi L 2 fun x => iv_V call mc_108 rt 12 L (.int x :: st) w := iv_V_eq (I := (((20, 1), .iload_n 2, 0, 0, 0) : iv_I)) rfl
theorem e108_12 : iv_V call mc_108 rt 12 L st w = iv_V call mc_108 rt 13 L (.int 1 :: st) w := (iv_V_eq (I := (((21, 1), .iconst 1, 0, 0, 0) : iv_I)) rfl).trans (congrArg (fun c => iv_V call mc_108 rt 13 L (.int c :: st) w) li_o1)
theorem e108_13 : iv_V call mc_108 rt 13 L st w = iv_ldi L 2 fun x => iv_V call mc_108 rt 14 L (.int x :: st) w := iv_V_eq (I := (((22, 1), .iload_n 2, 0, 0, 0) : iv_I)) rfl
theorem e108_14 : iv_V call mc_108 rt 14 L st w = iv_p2 st fun x y st' => iv_V call mc_108 rt 15 L (.int (x <<< (y &&& 31)) :: st') w := iv_V_eq (I := (((23, 1), .ishl, 0, 0, 0) : iv_I)) rfl
theorem e108_15 : iv_V call mc_108 rt 15 L st w = iv_ldi L 1 fun x => iv_V call mc_108 rt 16 L (.int x :: st) w := iv_V_eq (I := (((24, 1), .iload_n 1, 0, 0, 0) : iv_I)) rfl
theorem e108_16 : iv_V call mc_108 rt 16 L st w = iv_V call mc_108 rt 17 L (.int (-1) :: st) w := (iv_V_eq (I := (((25, 1), .iconst (-1), 0, 0, 0) : iv_I)) rfl).trans (congrArg (fun c => iv_V call mc_108 rt 17 L (.int c :: st) w) li_om1)
theorem e108_17 : iv_V call mc_108 rt 17 L st w = iv_p2 st fun x y st' => if ¬ x = y then iv_V call mc_108 rt 20 L (st') w else iv_V call mc_108 rt 18 L (st') w := (iv_V_eq (I := (((26, 3), .if_icmp .ne 7, 20, 0, 0) : iv_I)) rfl).trans (by simp only [iv_go, iv_cnd, decide_eq_true_eq])
theorem e108_18 : iv_V call mc_108 rt 18 L st w = iv_V call mc_108 rt 19 L (.int 0 :: st) w := (iv_V_eq (I := (((29, 1), .iconst 0, 0, 0, 0) : iv_I)) rfl).trans (congrArg (fun c => iv_V call mc_108 rt 19 L (.int c :: st) w) li_o0)
theorem e108_19 : iv_V call mc_108 rt 19 L st w = iv_V call mc_108 rt 24 L (st) w := iv_V_eq (I := (((30, 3), .goto 9, 24, 0, 0) : iv_I)) rfl
theorem e108_20 : iv_V call mc_108 rt 20 L st w = iv_lda L 0 fun x => iv_V call mc_108 rt 21 L (x :: st) w := iv_V_eq (I := (((33, 1), .aload_n 0, 0, 0, 0) : iv_I)) rfl
theorem e108_21 : iv_V call mc_108 rt 21 L st w = iv_gf w st 10 1 fun v st' => iv_V call mc_108 rt 22 L (v :: st') w := iv_V_eq (I := (((34, 3), .getfield 15, 10, 1, 82) : iv_I)) rfl
theorem e108_22 : iv_V call mc_108 rt 22 L st w = iv_ldi L 1 fun x => iv_V call mc_108 rt 23 L (.int x :: st) w := iv_V_eq (I := (((37, 1), .iload_n 1, 0, 0, 0) : iv_I)) rfl
theorem e108_23 : iv_V call mc_108 rt 23 L st w = iv_ald w st iv_isI fun v st' => iv_V call mc_108 rt 24 L (v :: st') w := iv_V_eq (I := (((38, 1), .iaload, 0, 0, 0) : iv_I)) rfl
theorem e108_24 : iv_V call mc_108 rt 24 L st w = iv_p2 st fun x y st' => iv_V call mc_108 rt 25 L (.int (x ||| y) :: st') w := iv_V_eq (I := (((39, 1), .ior, 0, 0, 0) : iv_I)) rfl
theorem e108_25 : iv_V call mc_108 rt 25 L st w = iv_ast w st iv_isI fun st' w' => iv_V call mc_108 rt 26 L (st') w' := iv_V_eq (I := (((40, 1), .iastore, 0, 0, 0) : iv_I)) rfl
theorem e108_26 : iv_V call mc_108 rt 26 L st w = iv_lda L 0 fun x => iv_V call mc_108 rt 27 L (x :: st) w := iv_V_eq (I := (((41, 1), .aload_n 0, 0, 0, 0) : iv_I)) rfl
theorem e108_27 : iv_V call mc_108 rt 27 L st w = iv_d1 st fun a st' => iv_V call mc_108 rt 28 L (a :: a :: st') w := iv_V_eq (I := (((42, 1), .dup, 0, 0, 0) : iv_I)) rfl
theorem e108_28 : iv_V call mc_108 rt 28 L st w = iv_gf w st 10 0 fun v st' => iv_V call mc_108 rt 29 L (v :: st') w := iv_V_eq (I := (((43, 3), .getfield 9, 10, 0, 81) : iv_I)) rfl
theorem e108_29 : iv_V call mc_108 rt 29 L st w = iv_V call mc_108 rt 30 L (.int 1 :: st) w := (iv_V_eq (I := (((46, 1), .iconst 1, 0, 0, 0) : iv_I)) rfl).trans (congrArg (fun c => iv_V call mc_108 rt 30 L (.int c :: st) w) li_o1)
theorem e108_30 : iv_V call mc_108 rt 30 L st w = iv_p2 st fun x y st' => iv_V call mc_108 rt 31 L (.int (x + y) :: st') w := iv_V_eq (I := (((47, 1), .iadd, 0, 0, 0) : iv_I)) rfl
theorem e108_31 : iv_V call mc_108 rt 31 L st w = iv_pf w st 10 0 fun st' w' => iv_V call mc_108 rt 32 L (st') w' := iv_V_eq (I := (((48, 3), .putfield 9, 10, 0, 81) : iv_I)) rfl
theorem e108_32 : iv_V call mc_108 rt 32 L st w = iv_ldi L 2 fun x => iv_V call mc_108 rt 33 L (.int x :: st) w := iv_V_eq (I := (((51, 1), .iload_n 2, 0, 0, 0) : iv_I)) rfl
theorem e108_33 : iv_V call mc_108 rt 33 L st w = iv_ret rt st w := iv_V_eq (I := (((52, 1), .ireturn, 0, 0, 0) : iv_I)) rfl
theorem e109_0 : iv_V call mc_109 rt 0 L st w = iv_lda L 0 fun x => iv_V call mc_109 rt 1 L (x :: st) w := iv_V_eq (I := (((0, 1), .aload_n 0, 0, 0, 0) : iv_I)) rfl
theorem e109_1 : iv_V call mc_109 rt 1 L st w = iv_gf w st 10 3 fun v st' => iv_V call mc_109 rt 2 L (v :: st') w := iv_V_eq (I := (((1, 3), .getfield 28, 10, 3, 86) : iv_I)) rfl
theorem e109_2 : iv_V call mc_109 rt 2 L st w = iv_V call mc_109 rt 3 L (.int 14 :: st) w := (iv_V_eq (I := (((4, 2), .bipush 14, 0, 0, 0) : iv_I)) rfl).trans (congrArg (fun c => iv_V call mc_109 rt 3 L (.int c :: st) w) li_b14)
theorem e109_3 : iv_V call mc_109 rt 3 L st w = iv_p2 st fun x y st' => if x < y then iv_V call mc_109 rt 6 L (st') w else iv_V call mc_109 rt 4 L (st') w := (iv_V_eq (I := (((6, 3), .if_icmp .lt 5, 6, 0, 0) : iv_I)) rfl).trans (by simp only [iv_go, iv_cnd, decide_eq_true_eq])
theorem e109_4 : iv_V call mc_109 rt 4 L st w = iv_V call mc_109 rt 5 L (.int (-1) :: st) w := (iv_V_eq (I := (((9, 1), .iconst (-1), 0, 0, 0) : iv_I)) rfl).trans (congrArg (fun c => iv_V call mc_109 rt 5 L (.int c :: st) w) li_om1)
theorem e109_5 : iv_V call mc_109 rt 5 L st w = iv_ret rt st w := iv_V_eq (I := (((10, 1), .ireturn, 0, 0, 0) : iv_I)) rfl
theorem e109_6 : iv_V call mc_109 rt 6 L st w = iv_lda L 0 fun x => iv_V call mc_109 rt 7 L (x :: st) w := iv_V_eq (I := (((11, 1), .aload_n 0, 0, 0, 0) : iv_I)) rfl
theorem e109_7 : iv_V call mc_109 rt 7 L st w = iv_gf w st 10 3 fun v st' => iv_V call mc_109 rt 8 L (v :: st') w := iv_V_eq (I := (((12, 3), .getfield 28, 10, 3, 86) : iv_I)) rfl
theorem e109_8 : iv_V call mc_109 rt 8 L st w = iv_p1 st fun x st' => iv_sto L 3 (.int x) fun L' => iv_V call mc_109 rt 9 L' (st') w := iv_V_eq (I := (((15, 1), .istore_n 3, 0, 0, 0) : iv_I)) rfl
theorem e109_9 : iv_V call mc_109 rt 9 L st w = iv_lda L 0 fun x => iv_V call mc_109 rt 10 L (x :: st) w := iv_V_eq (I := (((16, 1), .aload_n 0, 0, 0, 0) : iv_I)) rfl
theorem e109_10 : iv_V call mc_109 rt 10 L st w = iv_gf w st 10 4 fun v st' => iv_V call mc_109 rt 11 L (v :: st') w := iv_V_eq (I := (((17, 3), .getfield 31, 10, 4, 88) : iv_I)) rfl
theorem e109_11 : iv_V call mc_109 rt 11 L st w = iv_ldi L 3 fun x => iv_V call mc_109 rt 12 L (.int x :: st) w := iv_V_eq (I := (((20, 1), .iload_n 3, 0, 0, 0) : iv_I)) rfl
theorem e109_12 : iv_V call mc_109 rt 12 L st w = iv_ldi L 1 fun x => iv_V call mc_109 rt 13 L (.int x :: st) w := iv_V_eq (I := (((21, 1), .iload_n 1, 0, 0, 0) : iv_I)) rfl
theorem e109_13 : iv_V call mc_109 rt 13 L st w = iv_ast w st iv_isI fun st' w' => iv_V call mc_109 rt 14 L (st') w' := iv_V_eq (I := (((22, 1), .iastore, 0, 0, 0) : iv_I)) rfl
theorem e109_14 : iv_V call mc_109 rt 14 L st w = iv_lda L 0 fun x => iv_V call mc_109 rt 15 L (x :: st) w := iv_V_eq (I := (((23, 1), .aload_n 0, 0, 0, 0) : iv_I)) rfl
theorem e109_15 : iv_V call mc_109 rt 15 L st w = iv_gf w st 10 5 fun v st' => iv_V call mc_109 rt 16 L (v :: st') w := iv_V_eq (I := (((24, 3), .getfield 34, 10, 5, 89) : iv_I)) rfl
theorem e109_16 : iv_V call mc_109 rt 16 L st w = iv_ldi L 3 fun x => iv_V call mc_109 rt 17 L (.int x :: st) w := iv_V_eq (I := (((27, 1), .iload_n 3, 0, 0, 0) : iv_I)) rfl
theorem e109_17 : iv_V call mc_109 rt 17 L st w = iv_ldi L 2 fun x => iv_V call mc_109 rt 18 L (.int x :: st) w := iv_V_eq (I := (((28, 1), .iload_n 2, 0, 0, 0) : iv_I)) rfl
theorem e109_18 : iv_V call mc_109 rt 18 L st w = iv_ast w st iv_isI fun st' w' => iv_V call mc_109 rt 19 L (st') w' := iv_V_eq (I := (((29, 1), .iastore, 0, 0, 0) : iv_I)) rfl
theorem e109_19 : iv_V call mc_109 rt 19 L st w = iv_V call mc_109 rt 20 L (.int 0 :: st) w := (iv_V_eq (I := (((30, 1), .iconst 0, 0, 0, 0) : iv_I)) rfl).trans (congrArg (fun c => iv_V call mc_109 rt 20 L (.int c :: st) w) li_o0)
theorem e109_20 : iv_V call mc_109 rt 20 L st w = iv_p1 st fun x st' => iv_sto L 4 (.int x) fun L' => iv_V call mc_109 rt 21 L' (st') w := iv_V_eq (I := (((31, 2), .istore 4, 0, 0, 0) : iv_I)) rfl
theorem e109_21 : iv_V call mc_109 rt 21 L st w = iv_ldi L 4 fun x => iv_V call mc_109 rt 22 L (.int x :: st) w := iv_V_eq (I := (((33, 2), .iload 4, 0, 0, 0) : iv_I)) rfl
theorem e109_22 : iv_V call mc_109 rt 22 L st w = iv_V call mc_109 rt 23 L (.int 6 :: st) w := (iv_V_eq (I := (((35, 2), .bipush 6, 0, 0, 0) : iv_I)) rfl).trans (congrArg (fun c => iv_V call mc_109 rt 23 L (.int c :: st) w) li_b6)
theorem e109_23 : iv_V call mc_109 rt 23 L st w = iv_p2 st fun x y st' => if y ≤ x then iv_V call mc_109 rt 33 L (st') w else iv_V call mc_109 rt 24 L (st') w := (iv_V_eq (I := (((37, 3), .if_icmp .ge 20, 33, 0, 0) : iv_I)) rfl).trans (by simp only [iv_go, iv_cnd, decide_eq_true_eq])
theorem e109_24 : iv_V call mc_109 rt 24 L st w = iv_lda L 0 fun x => iv_V call mc_109 rt 25 L (x :: st) w := iv_V_eq (I := (((40, 1), .aload_n 0, 0, 0, 0) : iv_I)) rfl
theorem e109_25 : iv_V call mc_109 rt 25 L st w = iv_gf w st 10 7 fun v st' => iv_V call mc_109 rt 26 L (v :: st') w := iv_V_eq (I := (((41, 3), .getfield 43, 10, 7, 95) : iv_I)) rfl
theorem e109_26 : iv_V call mc_109 rt 26 L st w = iv_ldi L 3 fun x => iv_V call mc_109 rt 27 L (.int x :: st) w := iv_V_eq (I := (((44, 1), .iload_n 3, 0, 0, 0) : iv_I)) rfl
theorem e109_27 : iv_V call mc_109 rt 27 L st w = iv_ald w st iv_isA fun v st' => iv_V call mc_109 rt 28 L (v :: st') w := iv_V_eq (I := (((45, 1), .aaload, 0, 0, 0) : iv_I)) rfl
theorem e109_28 : iv_V call mc_109 rt 28 L st w = iv_ldi L 4 fun x => iv_V call mc_109 rt 29 L (.int x :: st) w := iv_V_eq (I := (((46, 2), .iload 4, 0, 0, 0) : iv_I)) rfl
theorem e109_29 : iv_V call mc_109 rt 29 L st w = iv_ldi L 4 fun x => iv_V call mc_109 rt 30 L (.int x :: st) w := iv_V_eq (I := (((48, 2), .iload 4, 0, 0, 0) : iv_I)) rfl
theorem e109_30 : iv_V call mc_109 rt 30 L st w = iv_ast w st iv_isI fun st' w' => iv_V call mc_109 rt 31 L (st') w' := iv_V_eq (I := (((50, 1), .iastore, 0, 0, 0) : iv_I)) rfl
theorem e109_31 : iv_V call mc_109 rt 31 L st w = iv_ldi L 4 fun x => iv_sto L 4 (.int (x + 1)) fun L' => iv_V call mc_109 rt 32 L' (st) w := (iv_V_eq (I := (((51, 3), .iinc 4 1, 0, 0, 0) : iv_I)) rfl).trans (congrArg (fun c => iv_ldi L 4 fun x => iv_sto L 4 (.int (x + c)) fun L' => iv_V call mc_109 rt 32 L' (st) w) li_o1)
theorem e109_32 : iv_V call mc_109 rt 32 L st w = iv_V call mc_109 rt 21 L (st) w := iv_V_eq (I := (((54, 3), .goto (-21), 21, 0, 0) : iv_I)) rfl
theorem e109_33 : iv_V call mc_109 rt 33 L st w = iv_lda L 0 fun x => iv_V call mc_109 rt 34 L (x :: st) w := iv_V_eq (I := (((57, 1), .aload_n 0, 0, 0, 0) : iv_I)) rfl
theorem e109_34 : iv_V call mc_109 rt 34 L st w = iv_d1 st fun a st' => iv_V call mc_109 rt 35 L (a :: a :: st') w := iv_V_eq (I := (((58, 1), .dup, 0, 0, 0) : iv_I)) rfl
theorem e109_35 : iv_V call mc_109 rt 35 L st w = iv_gf w st 10 3 fun v st' => iv_V call mc_109 rt 36 L (v :: st') w := iv_V_eq (I := (((59, 3), .getfield 28, 10, 3, 86) : iv_I)) rfl
theorem e109_36 : iv_V call mc_109 rt 36 L st w = iv_V call mc_109 rt 37 L (.int 1 :: st) w := (iv_V_eq (I := (((62, 1), .iconst 1, 0, 0, 0) : iv_I)) rfl).trans (congrArg (fun c => iv_V call mc_109 rt 37 L (.int c :: st) w) li_o1)
theorem e109_37 : iv_V call mc_109 rt 37 L st w = iv_p2 st fun x y st' => iv_V call mc_109 rt 38 L (.int (x + y) :: st') w := iv_V_eq (I := (((63, 1), .iadd, 0, 0, 0) : iv_I)) rfl
theorem e109_38 : iv_V call mc_109 rt 38 L st w = iv_pf w st 10 3 fun st' w' => iv_V call mc_109 rt 39 L (st') w' := iv_V_eq (I := (((64, 3), .putfield 28, 10, 3, 86) : iv_I)) rfl
theorem e109_39 : iv_V call mc_109 rt 39 L st w = iv_ldi L 3 fun x => iv_V call mc_109 rt 40 L (.int x :: st) w := iv_V_eq (I := (((67, 1), .iload_n 3, 0, 0, 0) : iv_I)) rfl
theorem e109_40 : iv_V call mc_109 rt 40 L st w = iv_ret rt st w := iv_V_eq (I := (((68, 1), .ireturn, 0, 0, 0) : iv_I)) rfl
end IVS5
