/-! what each row does -/
section IVS2
variable {call : Nat → List Value → iv_S → iv_R} {rt : Option FieldType} {L st : List Value} {w : iv_S}
theorem e28_0 : iv_V call mc_28 rt 0 L st w = iv_lda L 0 fun x => iv_V call mc_28 rt 1 L (x :: st) w := iv_V_eq (I := (((0, 1), .aload_n 0, 0, 0, 0) : iv_I)) rfl
theorem e28_1 : iv_V call mc_28 rt 1 L st w = iv_gf w st 1 7 fun v st' => iv_V call mc_28 rt 2 L (v :: st') w := iv_V_eq (I := (((1, 3), .getfield 142, 1, 7, 606) : iv_I)) rfl
theorem e28_2 : iv_V call mc_28 rt 2 L st w = iv_V call mc_28 rt 3 L (.int 24 :: st) w := (iv_V_eq (I := (((4, 2), .bipush 24, 0, 0, 0) : iv_I)) rfl).trans (congrArg (fun c => iv_V call mc_28 rt 3 L (.int c :: st) w) li_b24)
theorem e28_3 : iv_V call mc_28 rt 3 L st w = iv_p2 st fun x y st' => if x = y then iv_V call mc_28 rt 30 L (st') w else iv_V call mc_28 rt 4 L (st') w := (iv_V_eq (I := (((6, 3), .if_icmp .eq 52, 30, 0, 0) : iv_I)) rfl).trans (by simp only [iv_go, iv_cnd, decide_eq_true_eq])
theorem e28_4 : iv_V call mc_28 rt 4 L st w = iv_ldi L 1 fun x => iv_V call mc_28 rt 5 L (.int x :: st) w := iv_V_eq (I := (((9, 1), .iload_n 1, 0, 0, 0) : iv_I)) rfl
theorem e28_5 : iv_V call mc_28 rt 5 L st w = iv_V call mc_28 rt 6 L (.int 0 :: st) w := (iv_V_eq (I := (((10, 1), .iconst 0, 0, 0, 0) : iv_I)) rfl).trans (congrArg (fun c => iv_V call mc_28 rt 6 L (.int c :: st) w) li_o0)
theorem e28_6 : iv_V call mc_28 rt 6 L st w = iv_lda L 0 fun x => iv_V call mc_28 rt 7 L (x :: st) w := iv_V_eq (I := (((11, 1), .aload_n 0, 0, 0, 0) : iv_I)) rfl
theorem e28_7 : iv_V call mc_28 rt 7 L st w = iv_gf w st 1 2 fun v st' => iv_V call mc_28 rt 8 L (v :: st') w := iv_V_eq (I := (((12, 3), .getfield 139, 1, 2, 601) : iv_I)) rfl
theorem e28_8 : iv_V call mc_28 rt 8 L st w = iv_V call mc_28 rt 9 L (.int 1 :: st) w := (iv_V_eq (I := (((15, 1), .iconst 1, 0, 0, 0) : iv_I)) rfl).trans (congrArg (fun c => iv_V call mc_28 rt 9 L (.int c :: st) w) li_o1)
theorem e28_9 : iv_V call mc_28 rt 9 L st w = iv_p2 st fun x y st' => iv_V call mc_28 rt 10 L (.int (x - y) :: st') w := iv_V_eq (I := (((16, 1), .isub, 0, 0, 0) : iv_I)) rfl
theorem e28_10 : iv_V call mc_28 rt 10 L st w = iv_inv call 25 3 (fun _ => true) st w fun st' w' => iv_V call mc_28 rt 11 L (st') w' := iv_V_eq (I := (((17, 3), .invokestatic 135, 25, 3, 748) : iv_I)) rfl
theorem e28_11 : iv_V call mc_28 rt 11 L st w = iv_p1 st fun x st' => if x = 0 then iv_V call mc_28 rt 30 L (st') w else iv_V call mc_28 rt 12 L (st') w := (iv_V_eq (I := (((20, 3), .ifCond .eq 38, 30, 0, 0) : iv_I)) rfl).trans (by simp only [iv_go, iv_cnd, decide_eq_true_eq])
theorem e28_12 : iv_V call mc_28 rt 12 L st w = iv_ldi L 3 fun x => iv_V call mc_28 rt 13 L (.int x :: st) w := iv_V_eq (I := (((23, 1), .iload_n 3, 0, 0, 0) : iv_I)) rfl
theorem e28_13 : iv_V call mc_28 rt 13 L st w = iv_V call mc_28 rt 14 L (.int 0 :: st) w := (iv_V_eq (I := (((24, 1), .iconst 0, 0, 0, 0) : iv_I)) rfl).trans (congrArg (fun c => iv_V call mc_28 rt 14 L (.int c :: st) w) li_o0)
theorem e28_14 : iv_V call mc_28 rt 14 L st w = iv_V call mc_28 rt 15 L (.int 4 :: st) w := (iv_V_eq (I := (((25, 1), .iconst 4, 0, 0, 0) : iv_I)) rfl).trans (congrArg (fun c => iv_V call mc_28 rt 15 L (.int c :: st) w) li_o4)
theorem e28_15 : iv_V call mc_28 rt 15 L st w = iv_inv call 25 3 (fun _ => true) st w fun st' w' => iv_V call mc_28 rt 16 L (st') w' := iv_V_eq (I := (((26, 3), .invokestatic 135, 25, 3, 748) : iv_I)) rfl
theorem e28_16 : iv_V call mc_28 rt 16 L st w = iv_p1 st fun x st' => if x = 0 then iv_V call mc_28 rt 30 L (st') w else iv_V call mc_28 rt 17 L (st') w := (iv_V_eq (I := (((29, 3), .ifCond .eq 29, 30, 0, 0) : iv_I)) rfl).trans (by simp only [iv_go, iv_cnd, decide_eq_true_eq])
theorem e28_17 : iv_V call mc_28 rt 17 L st w = iv_ldi L 3 fun x => iv_V call mc_28 rt 18 L (.int x :: st) w := iv_V_eq (I := (((32, 1), .iload_n 3, 0, 0, 0) : iv_I)) rfl
theorem e28_18 : iv_V call mc_28 rt 18 L st w = iv_V call mc_28 rt 19 L (.int 4 :: st) w := (iv_V_eq (I := (((33, 1), .iconst 4, 0, 0, 0) : iv_I)) rfl).trans (congrArg (fun c => iv_V call mc_28 rt 19 L (.int c :: st) w) li_o4)
theorem e28_19 : iv_V call mc_28 rt 19 L st w = iv_p2 st fun x y st' => if ¬ x = y then iv_V call mc_28 rt 25 L (st') w else iv_V call mc_28 rt 20 L (st') w := (iv_V_eq (I := (((34, 3), .if_icmp .ne 13, 25, 0, 0) : iv_I)) rfl).trans (by simp only [iv_go, iv_cnd, decide_eq_true_eq])
theorem e28_20 : iv_V call mc_28 rt 20 L st w = iv_ldi L 4 fun x => iv_V call mc_28 rt 21 L (.int x :: st) w := iv_V_eq (I := (((37, 2), .iload 4, 0, 0, 0) : iv_I)) rfl
theorem e28_21 : iv_V call mc_28 rt 21 L st w = iv_V call mc_28 rt 22 L (.int 0 :: st) w := (iv_V_eq (I := (((39, 1), .iconst 0, 0, 0, 0) : iv_I)) rfl).trans (congrArg (fun c => iv_V call mc_28 rt 22 L (.int c :: st) w) li_o0)
theorem e28_22 : iv_V call mc_28 rt 22 L st w = iv_V call mc_28 rt 23 L (.int 2 :: st) w := (iv_V_eq (I := (((40, 1), .iconst 2, 0, 0, 0) : iv_I)) rfl).trans (congrArg (fun c => iv_V call mc_28 rt 23 L (.int c :: st) w) li_o2)
theorem e28_23 : iv_V call mc_28 rt 23 L st w = iv_inv call 25 3 (fun _ => true) st w fun st' w' => iv_V call mc_28 rt 24 L (st') w' := iv_V_eq (I := (((41, 3), .invokestatic 135, 25, 3, 748) : iv_I)) rfl
theorem e28_24 : iv_V call mc_28 rt 24 L st w = iv_p1 st fun x st' => if x = 0 then iv_V call mc_28 rt 30 L (st') w else iv_V call mc_28 rt 25 L (st') w := (iv_V_eq (I := (((44, 3), .ifCond .eq 14, 30, 0, 0) : iv_I)) rfl).trans (by simp only [iv_go, iv_cnd, decide_eq_true_eq])
theorem e28_25 : iv_V call mc_28 rt 25 L st w = iv_ldi L 6 fun x => iv_V call mc_28 rt 26 L (.int x :: st) w := iv_V_eq (I := (((47, 2), .iload 6, 0, 0, 0) : iv_I)) rfl
theorem e28_26 : iv_V call mc_28 rt 26 L st w = iv_V call mc_28 rt 27 L (.int 1 :: st) w := (iv_V_eq (I := (((49, 1), .iconst 1, 0, 0, 0) : iv_I)) rfl).trans (congrArg (fun c => iv_V call mc_28 rt 27 L (.int c :: st) w) li_o1)
theorem e28_27 : iv_V call mc_28 rt 27 L st w = iv_V call mc_28 rt 28 L (.int 63 :: st) w := (iv_V_eq (I := (((50, 2), .bipush 63, 0, 0, 0) : iv_I)) rfl).trans (congrArg (fun c => iv_V call mc_28 rt 28 L (.int c :: st) w) li_b63)
theorem e28_28 : iv_V call mc_28 rt 28 L st w = iv_inv call 25 3 (fun _ => true) st w fun st' w' => iv_V call mc_28 rt 29 L (st') w' := iv_V_eq (I := (((52, 3), .invokestatic 135, 25, 3, 748) : iv_I)) rfl
theorem e28_29 : iv_V call mc_28 rt 29 L st w = iv_p1 st fun x st' => if ¬ x = 0 then iv_V call mc_28 rt 32 L (st') w else iv_V call mc_28 rt 30 L (st') w := (iv_V_eq (I := (((55, 3), .ifCond .ne 5, 32, 0, 0) : iv_I)) rfl).trans (by simp only [iv_go, iv_cnd, decide_eq_true_eq])
theorem e28_30 : iv_V call mc_28 rt 30 L st w = iv_V call mc_28 rt 31 L (.int (-1) :: st) w := (iv_V_eq (I := (((58, 1), .iconst (-1), 0, 0, 0) : iv_I)) rfl).trans (congrArg (fun c => iv_V call mc_28 rt 31 L (.int c :: st) w) li_om1)
theorem e28_31 : iv_V call mc_28 rt 31 L st w = iv_ret rt st w := iv_V_eq (I := (((59, 1), .ireturn, 0, 0, 0) : iv_I)) rfl
theorem e28_32 : iv_V call mc_28 rt 32 L st w = iv_lda L 0 fun x => iv_V call mc_28 rt 33 L (x :: st) w := iv_V_eq (I := (((60, 1), .aload_n 0, 0, 0, 0) : iv_I)) rfl
theorem e28_33 : iv_V call mc_28 rt 33 L st w = iv_gf w st 1 8 fun v st' => iv_V call mc_28 rt 34 L (v :: st') w := iv_V_eq (I := (((61, 3), .getfield 26, 1, 8, 607) : iv_I)) rfl
theorem e28_34 : iv_V call mc_28 rt 34 L st w = iv_lda L 0 fun x => iv_V call mc_28 rt 35 L (x :: st) w := iv_V_eq (I := (((64, 1), .aload_n 0, 0, 0, 0) : iv_I)) rfl
theorem e28_35 : iv_V call mc_28 rt 35 L st w = iv_gf w st 1 7 fun v st' => iv_V call mc_28 rt 36 L (v :: st') w := iv_V_eq (I := (((65, 3), .getfield 142, 1, 7, 606) : iv_I)) rfl
theorem e28_36 : iv_V call mc_28 rt 36 L st w = iv_ldi L 1 fun x => iv_V call mc_28 rt 37 L (.int x :: st) w := iv_V_eq (I := (((68, 1), .iload_n 1, 0, 0, 0) : iv_I)) rfl
theorem e28_37 : iv_V call mc_28 rt 37 L st w = iv_ast w st iv_isI fun st' w' => iv_V call mc_28 rt 38 L (st') w' := iv_V_eq (I := (((69, 1), .iastore, 0, 0, 0) : iv_I)) rfl
theorem e28_38 : iv_V call mc_28 rt 38 L st w = iv_lda L 0 fun x => iv_V call mc_28 rt 39 L (x :: st) w := iv_V_eq (I := (((70, 1), .aload_n 0, 0, 0, 0) : iv_I)) rfl
theorem e28_39 : iv_V call mc_28 rt 39 L st w = iv_gf w st 1 9 fun v st' => iv_V call mc_28 rt 40 L (v :: st') w := iv_V_eq (I := (((71, 3), .getfield 29, 1, 9, 608) : iv_I)) rfl
theorem e28_40 : iv_V call mc_28 rt 40 L st w = iv_lda L 0 fun x => iv_V call mc_28 rt 41 L (x :: st) w := iv_V_eq (I := (((74, 1), .aload_n 0, 0, 0, 0) : iv_I)) rfl
theorem e28_41 : iv_V call mc_28 rt 41 L st w = iv_gf w st 1 7 fun v st' => iv_V call mc_28 rt 42 L (v :: st') w := iv_V_eq (I := (((75, 3), .getfield 142, 1, 7, 606) : iv_I)) rfl
theorem e28_42 : iv_V call mc_28 rt 42 L st w = iv_ldi L 2 fun x => iv_V call mc_28 rt 43 L (.int x :: st) w := iv_V_eq (I := (((78, 1), .iload_n 2, 0, 0, 0) : iv_I)) rfl
theorem e28_43 : iv_V call mc_28 rt 43 L st w = iv_ast w st iv_isZ fun st' w' => iv_V call mc_28 rt 44 L (st') w' := iv_V_eq (I := (((79, 1), .bastore, 0, 0, 0) : iv_I)) rfl
theorem e28_44 : iv_V call mc_28 rt 44 L st w = iv_lda L 0 fun x => iv_V call mc_28 rt 45 L (x :: st) w := iv_V_eq (I := (((80, 1), .aload_n 0, 0, 0, 0) : iv_I)) rfl
theorem e28_45 : iv_V call mc_28 rt 45 L st w = iv_gf w st 1 10 fun v st' => iv_V call mc_28 rt 46 L (v :: st') w := iv_V_eq (I := (((81, 3), .getfield 32, 1, 10, 609) : iv_I)) rfl
theorem e28_46 : iv_V call mc_28 rt 46 L st w = iv_lda L 0 fun x => iv_V call mc_28 rt 47 L (x :: st) w := iv_V_eq (I := (((84, 1), .aload_n 0, 0, 0, 0) : iv_I)) rfl
theorem e28_47 : iv_V call mc_28 rt 47 L st w = iv_gf w st 1 7 fun v st' => iv_V call mc_28 rt 48 L (v :: st') w := iv_V_eq (I := (((85, 3), .getfield 142, 1, 7, 606) : iv_I)) rfl
theorem e28_48 : iv_V call mc_28 rt 48 L st w = iv_ldi L 3 fun x => iv_V call mc_28 rt 49 L (.int x :: st) w := iv_V_eq (I := (((88, 1), .iload_n 3, 0, 0, 0) : iv_I)) rfl
theorem e28_49 : iv_V call mc_28 rt 49 L st w = iv_ast w st iv_isI fun st' w' => iv_V call mc_28 rt 50 L (st') w' := iv_V_eq (I := (((89, 1), .iastore, 0, 0, 0) : iv_I)) rfl
theorem e28_50 : iv_V call mc_28 rt 50 L st w = iv_lda L 0 fun x => iv_V call mc_28 rt 51 L (x :: st) w := iv_V_eq (I := (((90, 1), .aload_n 0, 0, 0, 0) : iv_I)) rfl
theorem e28_51 : iv_V call mc_28 rt 51 L st w = iv_gf w st 1 11 fun v st' => iv_V call mc_28 rt 52 L (v :: st') w := iv_V_eq (I := (((91, 3), .getfield 35, 1, 11, 610) : iv_I)) rfl
theorem e28_52 : iv_V call mc_28 rt 52 L st w = iv_lda L 0 fun x => iv_V call mc_28 rt 53 L (x :: st) w := iv_V_eq (I := (((94, 1), .aload_n 0, 0, 0, 0) : iv_I)) rfl
theorem e28_53 : iv_V call mc_28 rt 53 L st w = iv_gf w st 1 7 fun v st' => iv_V call mc_28 rt 54 L (v :: st') w := iv_V_eq (I := (((95, 3), .getfield 142, 1, 7, 606) : iv_I)) rfl
theorem e28_54 : iv_V call mc_28 rt 54 L st w = iv_ldi L 4 fun x => iv_V call mc_28 rt 55 L (.int x :: st) w := iv_V_eq (I := (((98, 2), .iload 4, 0, 0, 0) : iv_I)) rfl
theorem e28_55 : iv_V call mc_28 rt 55 L st w = iv_ast w st iv_isI fun st' w' => iv_V call mc_28 rt 56 L (st') w' := iv_V_eq (I := (((100, 1), .iastore, 0, 0, 0) : iv_I)) rfl
theorem e28_56 : iv_V call mc_28 rt 56 L st w = iv_lda L 0 fun x => iv_V call mc_28 rt 57 L (x :: st) w := iv_V_eq (I := (((101, 1), .aload_n 0, 0, 0, 0) : iv_I)) rfl
theorem e28_57 : iv_V call mc_28 rt 57 L st w = iv_gf w st 1 12 fun v st' => iv_V call mc_28 rt 58 L (v :: st') w := iv_V_eq (I := (((102, 3), .getfield 38, 1, 12, 611) : iv_I)) rfl
theorem e28_58 : iv_V call mc_28 rt 58 L st w = iv_lda L 0 fun x => iv_V call mc_28 rt 59 L (x :: st) w := iv_V_eq (I := (((105, 1), .aload_n 0, 0, 0, 0) : iv_I)) rfl
theorem e28_59 : iv_V call mc_28 rt 59 L st w = iv_gf w st 1 7 fun v st' => iv_V call mc_28 rt 60 L (v :: st') w := iv_V_eq (I := (((106, 3), .getfield 142, 1, 7, 606) : iv_I)) rfl
theorem e28_60 : iv_V call mc_28 rt 60 L st w = iv_ldi L 5 fun x => iv_V call mc_28 rt 61 L (.int x :: st) w := iv_V_eq (I := (((109, 2), .iload 5, 0, 0, 0) : iv_I)) rfl
theorem e28_61 : iv_V call mc_28 rt 61 L st w = iv_ast w st iv_isI fun st' w' => iv_V call mc_28 rt 62 L (st') w' := iv_V_eq (I := (((111, 1), .iastore, 0, 0, 0) : iv_I)) rfl
theorem e28_62 : iv_V call mc_28 rt 62 L st w = iv_lda L 0 fun x => iv_V call mc_28 rt 63 L (x :: st) w := iv_V_eq (I := (((112, 1), .aload_n 0, 0, 0, 0) : iv_I)) rfl
theorem e28_63 : iv_V call mc_28 rt 63 L st w = iv_gf w st 1 13 fun v st' => iv_V call mc_28 rt 64 L (v :: st') w := iv_V_eq (I := (((113, 3), .getfield 41, 1, 13, 612) : iv_I)) rfl
theorem e28_64 : iv_V call mc_28 rt 64 L st w = iv_lda L 0 fun x => iv_V call mc_28 rt 65 L (x :: st) w := iv_V_eq (I := (((116, 1), .aload_n 0, 0, 0, 0) : iv_I)) rfl
theorem e28_65 : iv_V call mc_28 rt 65 L st w = iv_gf w st 1 7 fun v st' => iv_V call mc_28 rt 66 L (v :: st') w := iv_V_eq (I := (((117, 3), .getfield 142, 1, 7, 606) : iv_I)) rfl
theorem e28_66 : iv_V call mc_28 rt 66 L st w = iv_ldi L 6 fun x => iv_V call mc_28 rt 67 L (.int x :: st) w := iv_V_eq (I := (((120, 2), .iload 6, 0, 0, 0) : iv_I)) rfl
theorem e28_67 : iv_V call mc_28 rt 67 L st w = iv_ast w st iv_isI fun st' w' => iv_V call mc_28 rt 68 L (st') w' := iv_V_eq (I := (((122, 1), .iastore, 0, 0, 0) : iv_I)) rfl
theorem e28_68 : iv_V call mc_28 rt 68 L st w = iv_lda L 0 fun x => iv_V call mc_28 rt 69 L (x :: st) w := iv_V_eq (I := (((123, 1), .aload_n 0, 0, 0, 0) : iv_I)) rfl
theorem e28_69 : iv_V call mc_28 rt 69 L st w = iv_d1 st fun a st' => iv_V call mc_28 rt 70 L (a :: a :: st') w := iv_V_eq (I := (((124, 1), .dup, 0, 0, 0) : iv_I)) rfl
theorem e28_70 : iv_V call mc_28 rt 70 L st w = iv_gf w st 1 7 fun v st' => iv_V call mc_28 rt 71 L (v :: st') w := iv_V_eq (I := (((125, 3), .getfield 142, 1, 7, 606) : iv_I)) rfl
theorem e28_71 : iv_V call mc_28 rt 71 L st w = iv_V call mc_28 rt 72 L (.int 1 :: st) w := (iv_V_eq (I := (((128, 1), .iconst 1, 0, 0, 0) : iv_I)) rfl).trans (congrArg (fun c => iv_V call mc_28 rt 72 L (.int c :: st) w) li_o1)
theorem e28_72 : iv_V call mc_28 rt 72 L st w = iv_p2 st fun x y st' => iv_V call mc_28 rt 73 L (.int (x + y) :: st') w := iv_V_eq (I := (((129, 1), .iadd, 0, 0, 0) : iv_I)) rfl
theorem e28_73 : iv_V call mc_28 rt 73 L st w = iv_pf w st 1 7 fun st' w' => iv_V call mc_28 rt 74 L (st') w' := iv_V_eq (I := (((130, 3), .putfield 142, 1, 7, 606) : iv_I)) rfl
theorem e28_74 : iv_V call mc_28 rt 74 L st w = iv_lda L 0 fun x => iv_V call mc_28 rt 75 L (x :: st) w := iv_V_eq (I := (((133, 1), .aload_n 0, 0, 0, 0) : iv_I)) rfl
theorem e28_75 : iv_V call mc_28 rt 75 L st w = iv_gf w st 1 7 fun v st' => iv_V call mc_28 rt 76 L (v :: st') w := iv_V_eq (I := (((134, 3), .getfield 142, 1, 7, 606) : iv_I)) rfl
theorem e28_76 : iv_V call mc_28 rt 76 L st w = iv_V call mc_28 rt 77 L (.int 1 :: st) w := (iv_V_eq (I := (((137, 1), .iconst 1, 0, 0, 0) : iv_I)) rfl).trans (congrArg (fun c => iv_V call mc_28 rt 77 L (.int c :: st) w) li_o1)
theorem e28_77 : iv_V call mc_28 rt 77 L st w = iv_p2 st fun x y st' => iv_V call mc_28 rt 78 L (.int (x - y) :: st') w := iv_V_eq (I := (((138, 1), .isub, 0, 0, 0) : iv_I)) rfl
theorem e28_78 : iv_V call mc_28 rt 78 L st w = iv_ret rt st w := iv_V_eq (I := (((139, 1), .ireturn, 0, 0, 0) : iv_I)) rfl
theorem e29_0 : iv_V call mc_29 rt 0 L st w = iv_ldi L 1 fun x => iv_V call mc_29 rt 1 L (.int x :: st) w := iv_V_eq (I := (((0, 1), .iload_n 1, 0, 0, 0) : iv_I)) rfl
theorem e29_1 : iv_V call mc_29 rt 1 L st w = iv_V call mc_29 rt 2 L (.int 0 :: st) w := (iv_V_eq (I := (((1, 1), .iconst 0, 0, 0, 0) : iv_I)) rfl).trans (congrArg (fun c => iv_V call mc_29 rt 2 L (.int c :: st) w) li_o0)
theorem e29_2 : iv_V call mc_29 rt 2 L st w = iv_V call mc_29 rt 3 L (.int 2 :: st) w := (iv_V_eq (I := (((2, 1), .iconst 2, 0, 0, 0) : iv_I)) rfl).trans (congrArg (fun c => iv_V call mc_29 rt 3 L (.int c :: st) w) li_o2)
theorem e29_3 : iv_V call mc_29 rt 3 L st w = iv_inv call 25 3 (fun _ => true) st w fun st' w' => iv_V call mc_29 rt 4 L (st') w' := iv_V_eq (I := (((3, 3), .invokestatic 135, 25, 3, 748) : iv_I)) rfl
theorem e29_4 : iv_V call mc_29 rt 4 L st w = iv_p1 st fun x st' => if x = 0 then iv_V call mc_29 rt 16 L (st') w else iv_V call mc_29 rt 5 L (st') w := (iv_V_eq (I := (((6, 3), .ifCond .eq 22, 16, 0, 0) : iv_I)) rfl).trans (by simp only [iv_go, iv_cnd, decide_eq_true_eq])
theorem e29_5 : iv_V call mc_29 rt 5 L st w = iv_ldi L 2 fun x => iv_V call mc_29 rt 6 L (.int x :: st) w := iv_V_eq (I := (((9, 1), .iload_n 2, 0, 0, 0) : iv_I)) rfl
theorem e29_6 : iv_V call mc_29 rt 6 L st w = iv_V call mc_29 rt 7 L (.int 0 :: st) w := (iv_V_eq (I := (((10, 1), .iconst 0, 0, 0, 0) : iv_I)) rfl).trans (congrArg (fun c => iv_V call mc_29 rt 7 L (.int c :: st) w) li_o0)
theorem e29_7 : iv_V call mc_29 rt 7 L st w = iv_V call mc_29 rt 8 L (.int 3 :: st) w := (iv_V_eq (I := (((11, 1), .iconst 3, 0, 0, 0) : iv_I)) rfl).trans (congrArg (fun c => iv_V call mc_29 rt 8 L (.int c :: st) w) li_o3)
theorem e29_8 : iv_V call mc_29 rt 8 L st w = iv_inv call 25 3 (fun _ => true) st w fun st' w' => iv_V call mc_29 rt 9 L (st') w' := iv_V_eq (I := (((12, 3), .invokestatic 135, 25, 3, 748) : iv_I)) rfl
theorem e29_9 : iv_V call mc_29 rt 9 L st w = iv_p1 st fun x st' => if x = 0 then iv_V call mc_29 rt 16 L (st') w else iv_V call mc_29 rt 10 L (st') w := (iv_V_eq (I := (((15, 3), .ifCond .eq 13, 16, 0, 0) : iv_I)) rfl).trans (by simp only [iv_go, iv_cnd, decide_eq_true_eq])
theorem e29_10 : iv_V call mc_29 rt 10 L st w = iv_lda L 0 fun x => iv_V call mc_29 rt 11 L (x :: st) w := iv_V_eq (I := (((18, 1), .aload_n 0, 0, 0, 0) : iv_I)) rfl
theorem e29_11 : iv_V call mc_29 rt 11 L st w = iv_gf w st 1 14 fun v st' => iv_V call mc_29 rt 12 L (v :: st') w := iv_V_eq (I := (((19, 3), .getfield 44, 1, 14, 613) : iv_I)) rfl
theorem e29_12 : iv_V call mc_29 rt 12 L st w = iv_ldi L 1 fun x => iv_V call mc_29 rt 13 L (.int x :: st) w := iv_V_eq (I := (((22, 1), .iload_n 1, 0, 0, 0) : iv_I)) rfl
theorem e29_13 : iv_V call mc_29 rt 13 L st w = iv_ald w st iv_isI fun v st' => iv_V call mc_29 rt 14 L (v :: st') w := iv_V_eq (I := (((23, 1), .iaload, 0, 0, 0) : iv_I)) rfl
theorem e29_14 : iv_V call mc_29 rt 14 L st w = iv_V call mc_29 rt 15 L (.int 3 :: st) w := (iv_V_eq (I := (((24, 1), .iconst 3, 0, 0, 0) : iv_I)) rfl).trans (congrArg (fun c => iv_V call mc_29 rt 15 L (.int c :: st) w) li_o3)
theorem e29_15 : iv_V call mc_29 rt 15 L st w = iv_p2 st fun x y st' => if ¬ x = y then iv_V call mc_29 rt 18 L (st') w else iv_V call mc_29 rt 16 L (st') w := (iv_V_eq (I := (((25, 3), .if_icmp .ne 5, 18, 0, 0) : iv_I)) rfl).trans (by simp only [iv_go, iv_cnd, decide_eq_true_eq])
theorem e29_16 : iv_V call mc_29 rt 16 L st w = iv_V call mc_29 rt 17 L (.int 0 :: st) w := (iv_V_eq (I := (((28, 1), .iconst 0, 0, 0, 0) : iv_I)) rfl).trans (congrArg (fun c => iv_V call mc_29 rt 17 L (.int c :: st) w) li_o0)
theorem e29_17 : iv_V call mc_29 rt 17 L st w = iv_ret rt st w := iv_V_eq (I := (((29, 1), .ireturn, 0, 0, 0) : iv_I)) rfl
theorem e29_18 : iv_V call mc_29 rt 18 L st w = iv_V call mc_29 rt 19 L (.int 3 :: st) w := (iv_V_eq (I := (((30, 1), .iconst 3, 0, 0, 0) : iv_I)) rfl).trans (congrArg (fun c => iv_V call mc_29 rt 19 L (.int c :: st) w) li_o3)
theorem e29_19 : iv_V call mc_29 rt 19 L st w = iv_ldi L 1 fun x => iv_V call mc_29 rt 20 L (.int x :: st) w := iv_V_eq (I := (((31, 1), .iload_n 1, 0, 0, 0) : iv_I)) rfl
theorem e29_20 : iv_V call mc_29 rt 20 L st w = iv_p2 st fun x y st' => iv_V call mc_29 rt 21 L (.int (x * y) :: st') w := iv_V_eq (I := (((32, 1), .imul, 0, 0, 0) : iv_I)) rfl
theorem e29_21 : iv_V call mc_29 rt 21 L st w = iv_lda L 0 fun x => iv_V call mc_29 rt 22 L (x :: st) w := iv_V_eq (I := (((33, 1), .aload_n 0, 0, 0, 0) : iv_I)) rfl
theorem e29_22 : iv_V call mc_29 rt 22 L st w = iv_gf w st 1 14 fun v st' => iv_V call mc_29 rt 23 L (v :: st') w := iv_V_eq (I := (((34, 3), .getfield 44, 1, 14, 613) : iv_I)) rfl
theorem e29_23 : iv_V call mc_29 rt 23 L st w = iv_ldi L 1 fun x => iv_V call mc_29 rt 24 L (.int x :: st) w := iv_V_eq (I := (((37, 1), .iload_n 1, 0, 0, 0) : iv_I)) rfl
theorem e29_24 : iv_V call mc_29 rt 24 L st w = iv_ald w st iv_isI fun v st' => iv_V call mc_29 rt 25 L (v :: st') w := iv_V_eq (I := (((38, 1), .iaload, 0, 0, 0) : iv_I)) rfl
theorem e29_25 : iv_V call mc_29 rt 25 L st w = iv_p2 st fun x y st' => iv_V call mc_29 rt 26 L (.int (x + y) :: st') w := iv_V_eq (I := (((39, 1), .iadd, 0, 0, 0) : iv_I)) rfl
theorem e29_26 : iv_V call mc_29 rt 26 L st w = iv_p1 st fun x st' => iv_sto L 5 (.int x) fun L' => iv_V call mc_29 rt 27 L' (st') w := iv_V_eq (I := (((40, 2), .istore 5, 0, 0, 0) : iv_I)) rfl
theorem e29_27 : iv_V call mc_29 rt 27 L st w = iv_lda L 0 fun x => iv_V call mc_29 rt 28 L (x :: st) w := iv_V_eq (I := (((42, 1), .aload_n 0, 0, 0, 0) : iv_I)) rfl
theorem e29_28 : iv_V call mc_29 rt 28 L st w = iv_gf w st 1 15 fun v st' => iv_V call mc_29 rt 29 L (v :: st') w := iv_V_eq (I := (((43, 3), .getfield 47, 1, 15, 614) : iv_I)) rfl
theorem e29_29 : iv_V call mc_29 rt 29 L st w = iv_ldi L 5 fun x => iv_V call mc_29 rt 30 L (.int x :: st) w := iv_V_eq (I := (((46, 2), .iload 5, 0, 0, 0) : iv_I)) rfl
theorem e29_30 : iv_V call mc_29 rt 30 L st w = iv_ldi L 2 fun x => iv_V call mc_29 rt 31 L (.int x :: st) w := iv_V_eq (I := (((48, 1), .iload_n 2, 0, 0, 0) : iv_I)) rfl
theorem e29_31 : iv_V call mc_29 rt 31 L st w = iv_ast w st iv_isI fun st' w' => iv_V call mc_29 rt 32 L (st') w' := iv_V_eq (I := (((49, 1), .iastore, 0, 0, 0) : iv_I)) rfl
theorem e29_32 : iv_V call mc_29 rt 32 L st w = iv_lda L 0 fun x => iv_V call mc_29 rt 33 L (x :: st) w := iv_V_eq (I := (((50, 1), .aload_n 0, 0, 0, 0) : iv_I)) rfl
theorem e29_33 : iv_V call mc_29 rt 33 L st w = iv_gf w st 1 16 fun v st' => iv_V call mc_29 rt 34 L (v :: st') w := iv_V_eq (I := (((51, 3), .getfield 50, 1, 16, 615) : iv_I)) rfl
theorem e29_34 : iv_V call mc_29 rt 34 L st w = iv_ldi L 5 fun x => iv_V call mc_29 rt 35 L (.int x :: st) w := iv_V_eq (I := (((54, 2), .iload 5, 0, 0, 0) : iv_I)) rfl
theorem e29_35 : iv_V call mc_29 rt 35 L st w = iv_ldi L 3 fun x => iv_V call mc_29 rt 36 L (.int x :: st) w := iv_V_eq (I := (((56, 1), .iload_n 3, 0, 0, 0) : iv_I)) rfl
theorem e29_36 : iv_V call mc_29 rt 36 L st w = iv_ast w st iv_isI fun st' w' => iv_V call mc_29 rt 37 L (st') w' := iv_V_eq (I := (((57, 1), .iastore, 0, 0, 0) : iv_I)) rfl
theorem e29_37 : iv_V call mc_29 rt 37 L st w = iv_lda L 0 fun x => iv_V call mc_29 rt 38 L (x :: st) w := iv_V_eq (I := (((58, 1), .aload_n 0, 0, 0, 0) : iv_I)) rfl
theorem e29_38 : iv_V call mc_29 rt 38 L st w = iv_gf w st 1 17 fun v st' => iv_V call mc_29 rt 39 L (v :: st') w := iv_V_eq (I := (((59, 3), .getfield 53, 1, 17, 616) : iv_I)) rfl
theorem e29_39 : iv_V call mc_29 rt 39 L st w = iv_ldi L 5 fun x => iv_V call mc_29 rt 40 L (.int x :: st) w := iv_V_eq (I := (((62, 2), .iload 5, 0, 0, 0) : iv_I)) rfl
theorem e29_40 : iv_V call mc_29 rt 40 L st w = iv_ldi L 4 fun x => iv_V call mc_29 rt 41 L (.int x :: st) w := iv_V_eq (I := (((64, 2), .iload 4, 0, 0, 0) : iv_I)) rfl
theorem e29_41 : iv_V call mc_29 rt 41 L st w = iv_ast w st iv_isI fun st' w' => iv_V call mc_29 rt 42 L (st') w' := iv_V_eq (I := (((66, 1), .iastore, 0, 0, 0) : iv_I)) rfl
theorem e29_42 : iv_V call mc_29 rt 42 L st w = iv_lda L 0 fun x => iv_V call mc_29 rt 43 L (x :: st) w := iv_V_eq (I := (((67, 1), .aload_n 0, 0, 0, 0) : iv_I)) rfl
theorem e29_43 : iv_V call mc_29 rt 43 L st w = iv_gf w st 1 14 fun v st' => iv_V call mc_29 rt 44 L (v :: st') w := iv_V_eq (I := (((68, 3), .getfield 44, 1, 14, 613) : iv_I)) rfl
theorem e29_44 : iv_V call mc_29 rt 44 L st w = iv_ldi L 1 fun x => iv_V call mc_29 rt 45 L (.int x :: st) w := iv_V_eq (I := (((71, 1), .iload_n 1, 0, 0, 0) : iv_I)) rfl
theorem e29_45 : iv_V call mc_29 rt 45 L st w = iv_d2 st fun a b st' => iv_V call mc_29 rt 46 L (a :: b :: a :: b :: st') w := iv_V_eq (I := (((72, 1), .dup2, 0, 0, 0) : iv_I)) rfl
theorem e29_46 : iv_V call mc_29 rt 46 L st w = iv_ald w st iv_isI fun v st' => iv_V call mc_29 rt 47 L (v :: st') w := iv_V_eq (I := (((73, 1), .iaload, 0, 0, 0) : iv_I)) rfl
theorem e29_47 : iv_V call mc_29 rt 47 L st w = iv_V call mc_29 rt 48 L (.int 1 :: st) w := (iv_V_eq (I := (((74, 1), .iconst 1, 0, 0, 0) : iv_I)) rfl).trans (congrArg (fun c => iv_V call mc_29 rt 48 L (.int c :: st) w) li_o1)
theorem e29_48 : iv_V call mc_29 rt 48 L st w = iv_p2 st fun x y st' => iv_V call mc_29 rt 49 L (.int (x + y) :: st') w := iv_V_eq (I := (((75, 1), .iadd, 0, 0, 0) : iv_I)) rfl
theorem e29_49 : iv_V call mc_29 rt 49 L st w = iv_ast w st iv_isI fun st' w' => iv_V call mc_29 rt 50 L (st') w' := iv_V_eq (I := (((76, 1), .iastore, 0, 0, 0) : iv_I)) rfl
theorem e29_50 : iv_V call mc_29 rt 50 L st w = iv_V call mc_29 rt 51 L (.int 1 :: st) w := (iv_V_eq (I := (((77, 1), .iconst 1, 0, 0, 0) : iv_I)) rfl).trans (congrArg (fun c => iv_V call mc_29 rt 51 L (.int c :: st) w) li_o1)
theorem e29_51 : iv_V call mc_29 rt 51 L st w = iv_ret rt st w := iv_V_eq (I := (((78, 1), .ireturn, 0, 0, 0) : iv_I)) rfl
theorem e30_0 : iv_V call mc_30 rt 0 L st w = iv_ldi L 1 fun x => iv_V call mc_30 rt 1 L (.int x :: st) w := iv_V_eq (I := (((0, 1), .iload_n 1, 0, 0, 0) : iv_I)) rfl
theorem e30_1 : iv_V call mc_30 rt 1 L st w = iv_V call mc_30 rt 2 L (.int 0 :: st) w := (iv_V_eq (I := (((1, 1), .iconst 0, 0, 0, 0) : iv_I)) rfl).trans (congrArg (fun c => iv_V call mc_30 rt 2 L (.int c :: st) w) li_o0)
theorem e30_2 : iv_V call mc_30 rt 2 L st w = iv_V call mc_30 rt 3 L (.int 2 :: st) w := (iv_V_eq (I := (((2, 1), .iconst 2, 0, 0, 0) : iv_I)) rfl).trans (congrArg (fun c => iv_V call mc_30 rt 3 L (.int c :: st) w) li_o2)
theorem e30_3 : iv_V call mc_30 rt 3 L st w = iv_inv call 25 3 (fun _ => true) st w fun st' w' => iv_V call mc_30 rt 4 L (st') w' := iv_V_eq (I := (((3, 3), .invokestatic 135, 25, 3, 748) : iv_I)) rfl
theorem e30_4 : iv_V call mc_30 rt 4 L st w = iv_p1 st fun x st' => if ¬ x = 0 then iv_V call mc_30 rt 7 L (st') w else iv_V call mc_30 rt 5 L (st') w := (iv_V_eq (I := (((6, 3), .ifCond .ne 5, 7, 0, 0) : iv_I)) rfl).trans (by simp only [iv_go, iv_cnd, decide_eq_true_eq])
theorem e30_5 : iv_V call mc_30 rt 5 L st w = iv_V call mc_30 rt 6 L (.int 0 :: st) w := (iv_V_eq (I := (((9, 1), .iconst 0, 0, 0, 0) : iv_I)) rfl).trans (congrArg (fun c => iv_V call mc_30 rt 6 L (.int c :: st) w) li_o0)
theorem e30_6 : iv_V call mc_30 rt 6 L st w = iv_ret rt st w := iv_V_eq (I := (((10, 1), .ireturn, 0, 0, 0) : iv_I)) rfl
theorem e30_7 : iv_V call mc_30 rt 7 L st w = iv_lda L 0 fun x => iv_V call mc_30 rt 8 L (x :: st) w := iv_V_eq (I := (((11, 1), .aload_n 0, 0, 0, 0) : iv_I)) rfl
theorem e30_8 : iv_V call mc_30 rt 8 L st w = iv_gf w st 1 18 fun v st' => iv_V call mc_30 rt 9 L (v :: st') w := iv_V_eq (I := (((12, 3), .getfield 56, 1, 18, 617) : iv_I)) rfl
theorem e30_9 : iv_V call mc_30 rt 9 L st w = iv_ldi L 1 fun x => iv_V call mc_30 rt 10 L (.int x :: st) w := iv_V_eq (I := (((15, 1), .iload_n 1, 0, 0, 0) : iv_I)) rfl
theorem e30_10 : iv_V call mc_30 rt 10 L st w = iv_ldi L 2 fun x => iv_V call mc_30 rt 11 L (.int x :: st) w := iv_V_eq (I := (((16, 1), .iload_n 2, 0, 0, 0) : iv_I)) rfl
theorem e30_11 : iv_V call mc_30 rt 11 L st w = iv_ast w st iv_isZ fun st' w' => iv_V call mc_30 rt 12 L (st') w' := iv_V_eq (I := (((17, 1), .bastore, 0, 0, 0) : iv_I)) rfl
theorem e30_12 : iv_V call mc_30 rt 12 L st w = iv_V call mc_30 rt 13 L (.int 1 :: st) w := (iv_V_eq (I := (((18, 1), .iconst 1, 0, 0, 0) : iv_I)) rfl).trans (congrArg (fun c => iv_V call mc_30 rt 13 L (.int c :: st) w) li_o1)
theorem e30_13 : iv_V call mc_30 rt 13 L st w = iv_ret rt st w := iv_V_eq (I := (((19, 1), .ireturn, 0, 0, 0) : iv_I)) rfl
theorem e31_0 : iv_V call mc_31 rt 0 L st w = iv_V call mc_31 rt 1 L (.int 1 :: st) w := (iv_V_eq (I := (((0, 1), .iconst 1, 0, 0, 0) : iv_I)) rfl).trans (congrArg (fun c => iv_V call mc_31 rt 1 L (.int c :: st) w) li_o1)
theorem e31_1 : iv_V call mc_31 rt 1 L st w = iv_ldi L 1 fun x => iv_V call mc_31 rt 2 L (.int x :: st) w := iv_V_eq (I := (((1, 1), .iload_n 1, 0, 0, 0) : iv_I)) rfl
theorem e31_2 : iv_V call mc_31 rt 2 L st w = iv_p2 st fun x y st' => iv_V call mc_31 rt 3 L (.int (x <<< (y &&& 31)) :: st') w := iv_V_eq (I := (((2, 1), .ishl, 0, 0, 0) : iv_I)) rfl
theorem e31_3 : iv_V call mc_31 rt 3 L st w = iv_p1 st fun x st' => iv_sto L 2 (.int x) fun L' => iv_V call mc_31 rt 4 L' (st') w := iv_V_eq (I := (((3, 1), .istore_n 2, 0, 0, 0) : iv_I)) rfl
theorem e31_4 : iv_V call mc_31 rt 4 L st w = iv_V call mc_31 rt 5 L (.int 0 :: st) w := (iv_V_eq (I := (((4, 1), .iconst 0, 0, 0, 0) : iv_I)) rfl).trans (congrArg (fun c => iv_V call mc_31 rt 5 L (.int c :: st) w) li_o0)
theorem e31_5 : iv_V call mc_31 rt 5 L st w = iv_p1 st fun x st' => iv_sto L 3 (.int x) fun L' => iv_V call mc_31 rt 6 L' (st') w := iv_V_eq (I := (((5, 1), .istore_n 3, 0, 0, 0) : iv_I)) rfl
theorem e31_6 : iv_V call mc_31 rt 6 L st w = iv_ldi L 3 fun x => iv_V call mc_31 rt 7 L (.int x :: st) w := iv_V_eq (I := (((6, 1), .iload_n 3, 0, 0, 0) : iv_I)) rfl
theorem e31_7 : iv_V call mc_31 rt 7 L st w = iv_V call mc_31 rt 8 L (.int 6 :: st) w := (iv_V_eq (I := (((7, 2), .bipush 6, 0, 0, 0) : iv_I)) rfl).trans (congrArg (fun c => iv_V call mc_31 rt 8 L (.int c :: st) w) li_b6)
theorem e31_8 : iv_V call mc_31 rt 8 L st w = iv_p2 st fun x y st' => if y ≤ x then iv_V call mc_31 rt 34 L (st') w else iv_V call mc_31 rt 9 L (st') w := (iv_V_eq (I := (((9, 3), .if_icmp .ge 49, 34, 0, 0) : iv_I)) rfl).trans (by simp only [iv_go, iv_cnd, decide_eq_true_eq])
theorem e31_9 : iv_V call mc_31 rt 9 L st w = iv_V call mc_31 rt 10 L (.int 0 :: st) w := (iv_V_eq (I := (((12, 1), .iconst 0, 0, 0, 0) : iv_I)) rfl).trans (congrArg (fun c => iv_V call mc_31 rt 10 L (.int c :: st) w) li_o0)
theorem e31_10 : iv_V call mc_31 rt 10 L st w = iv_p1 st fun x st' => iv_sto L 4 (.int x) fun L' => iv_V call mc_31 rt 11 L' (st') w := iv_V_eq (I := (((13, 2), .istore 4, 0, 0, 0) : iv_I)) rfl
theorem e31_11 : iv_V call mc_31 rt 11 L st w = iv_ldi L 4 fun x => iv_V call mc_31 rt 12 L (.int x :: st) w := iv_V_eq (I := (((15, 2), .iload 4, 0, 0, 0) : iv_I)) rfl
theorem e31_12 : iv_V call mc_31 rt 12 L st w = iv_V call mc_31 rt 13 L (.int 6 :: st) w := (iv_V_eq (I := (((17, 2), .bipush 6, 0, 0, 0) : iv_I)) rfl).trans (congrArg (fun c => iv_V call mc_31 rt 13 L (.int c :: st) w) li_b6)
theorem e31_13 : iv_V call mc_31 rt 13 L st w = iv_p2 st fun x y st' => if y ≤ x then iv_V call mc_31 rt 32 L (st') w else iv_V call mc_31 rt 14 L (st') w := (iv_V_eq (I := (((19, 3), .if_icmp .ge 33, 32, 0, 0) : iv_I)) rfl).trans (by simp only [iv_go, iv_cnd, decide_eq_true_eq])
theorem e31_14 : iv_V call mc_31 rt 14 L st w = iv_ldi L 2 fun x => iv_V call mc_31 rt 15 L (.int x :: st) w := iv_V_eq (I := (((22, 1), .iload_n 2, 0, 0, 0) : iv_I)) rfl
theorem e31_15 : iv_V call mc_31 rt 15 L st w = iv_ldi L 4 fun x => iv_V call mc_31 rt 16 L (.int x :: st) w := iv_V_eq (I := (((23, 2), .iload 4, 0, 0, 0) : iv_I)) rfl
theorem e31_16 : iv_V call mc_31 rt 16 L st w = iv_p2 st fun x y st' => iv_V call mc_31 rt 17 L (.int (x >>> (y &&& 31)) :: st') w := iv_V_eq (I := (((25, 1), .ishr, 0, 0, 0) : iv_I)) rfl
theorem e31_17 : iv_V call mc_31 rt 17 L st w = iv_V call mc_31 rt 18 L (.int 1 :: st) w := (iv_V_eq (I := (((26, 1), .iconst 1, 0, 0, 0) : iv_I)) rfl).trans (congrArg (fun c => iv_V call mc_31 rt 18 L (.int c :: st) w) li_o1)
theorem e31_18 : iv_V call mc_31 rt 18 L st w = iv_p2 st fun x y st' => iv_V call mc_31 rt 19 L (.int (x &&& y) :: st') w := iv_V_eq (I := (((27, 1), .iand, 0, 0, 0) : iv_I)) rfl
theorem e31_19 : iv_V call mc_31 rt 19 L st w = iv_V call mc_31 rt 20 L (.int 1 :: st) w := (iv_V_eq (I := (((28, 1), .iconst 1, 0, 0, 0) : iv_I)) rfl).trans (congrArg (fun c => iv_V call mc_31 rt 20 L (.int c :: st) w) li_o1)
theorem e31_20 : iv_V call mc_31 rt 20 L st w = iv_p2 st fun x y st' => if ¬ x = y then iv_V call mc_31 rt 28 L (st') w else iv_V call mc_31 rt 21 L (st') w := (iv_V_eq (I := (((29, 3), .if_icmp .ne 15, 28, 0, 0) : iv_I)) rfl).trans (by simp only [iv_go, iv_cnd, decide_eq_true_eq])
theorem e31_21 : iv_V call mc_31 rt 21 L st w = iv_ldi L 2 fun x => iv_V call mc_31 rt 22 L (.int x :: st) w := iv_V_eq (I := (((32, 1), .iload_n 2, 0, 0, 0) : iv_I)) rfl
theorem e31_22 : iv_V call mc_31 rt 22 L st w = iv_lda L 0 fun x => iv_V call mc_31 rt 23 L (x :: st) w := iv_V_eq (I := (((33, 1), .aload_n 0, 0, 0, 0) : iv_I)) rfl
theorem e31_23 : iv_V call mc_31 rt 23 L st w = iv_gf w st 1 19 fun v st' => iv_V call mc_31 rt 24 L (v :: st') w := iv_V_eq (I := (((34, 3), .getfield 59, 1, 19, 618) : iv_I)) rfl
theorem e31_24 : iv_V call mc_31 rt 24 L st w = iv_ldi L 4 fun x => iv_V call mc_31 rt 25 L (.int x :: st) w := iv_V_eq (I := (((37, 2), .iload 4, 0, 0, 0) : iv_I)) rfl
theorem e31_25 : iv_V call mc_31 rt 25 L st w = iv_ald w st iv_isI fun v st' => iv_V call mc_31 rt 26 L (v :: st') w := iv_V_eq (I := (((39, 1), .iaload, 0, 0, 0) : iv_I)) rfl
theorem e31_26 : iv_V call mc_31 rt 26 L st w = iv_p2 st fun x y st' => iv_V call mc_31 rt 27 L (.int (x ||| y) :: st') w := iv_V_eq (I := (((40, 1), .ior, 0, 0, 0) : iv_I)) rfl
theorem e31_27 : iv_V call mc_31 rt 27 L st w = iv_V call mc_31 rt 29 L (st) w := iv_V_eq (I := (((41, 3), .goto 4, 29, 0, 0) : iv_I)) rfl
theorem e31_28 : iv_V call mc_31 rt 28 L st w = iv_ldi L 2 fun x => iv_V call mc_31 rt 29 L (.int x :: st) w := iv_V_eq (I := (((44, 1), .iload_n 2, 0, 0, 0) : iv_I)) rfl
theorem e31_29 : iv_V call mc_31 rt 29 L st w = iv_p1 st fun x st' => iv_sto L 2 (.int x) fun L' => iv_V call mc_31 rt 30 L' (st') w := iv_V_eq (I := (((45, 1), .istore_n 2, 0, 0, 0) : iv_I)) rfl
theorem e31_30 : iv_V call mc_31 rt 30 L st w = iv_ldi L 4 fun x => iv_sto L 4 (.int (x + 1)) fun L' => iv_V call mc_31 rt 31 L' (st) w := (iv_V_eq (I := (((46, 3), .iinc 4 1, 0, 0, 0) : iv_I)) rfl).trans (congrArg (fun c => iv_ldi L 4 fun x => iv_sto L 4 (.int (x + c)) fun L' => iv_V call mc_31 rt 31 L' (st) w) li_o1)
theorem e31_31 : iv_V call mc_31 rt 31 L st w = iv_V call mc_31 rt 11 L (st) w := iv_V_eq (I := (((49, 3), .goto (-34), 11, 0, 0) : iv_I)) rfl
theorem e31_32 : iv_V call mc_31 rt 32 L st w = iv_ldi L 3 fun x => iv_sto L 3 (.int (x + 1)) fun L' => iv_V call mc_31 rt 33 L' (st) w := (iv_V_eq (I := (((52, 3), .iinc 3 1, 0, 0, 0) : iv_I)) rfl).trans (congrArg (fun c => iv_ldi L 3 fun x => iv_sto L 3 (.int (x + c)) fun L' => iv_V call mc_31 rt 33 L' (st) w) li_o1)
theorem e31_33 : iv_V call mc_31 rt 33 L st w = iv_V call mc_31 rt 6 L (st) w := iv_V_eq (I := (((55, 3), .goto (-49), 6, 0, 0) : iv_I)) rfl
theorem e31_34 : iv_V call mc_31 rt 34 L st w = iv_ldi L 2 fun x => iv_V call mc_31 rt 35 L (.int x :: st) w := iv_V_eq (I := (((58, 1), .iload_n 2, 0, 0, 0) : iv_I)) rfl
theorem e31_35 : iv_V call mc_31 rt 35 L st w = iv_ret rt st w := iv_V_eq (I := (((59, 1), .ireturn, 0, 0, 0) : iv_I)) rfl
theorem e32_0 : iv_V call mc_32 rt 0 L st w = iv_ldi L 1 fun x => iv_V call mc_32 rt 1 L (.int x :: st) w := iv_V_eq (I := (((0, 1), .iload_n 1, 0, 0, 0) : iv_I)) rfl
theorem e32_1 : iv_V call mc_32 rt 1 L st w = iv_V call mc_32 rt 2 L (.int 0 :: st) w := (iv_V_eq (I := (((1, 1), .iconst 0, 0, 0, 0) : iv_I)) rfl).trans (congrArg (fun c => iv_V call mc_32 rt 2 L (.int c :: st) w) li_o0)
theorem e32_2 : iv_V call mc_32 rt 2 L st w = iv_V call mc_32 rt 3 L (.int 5 :: st) w := (iv_V_eq (I := (((2, 1), .iconst 5, 0, 0, 0) : iv_I)) rfl).trans (congrArg (fun c => iv_V call mc_32 rt 3 L (.int c :: st) w) li_o5)
theorem e32_3 : iv_V call mc_32 rt 3 L st w = iv_inv call 25 3 (fun _ => true) st w fun st' w' => iv_V call mc_32 rt 4 L (st') w' := iv_V_eq (I := (((3, 3), .invokestatic 135, 25, 3, 748) : iv_I)) rfl
theorem e32_4 : iv_V call mc_32 rt 4 L st w = iv_p1 st fun x st' => if x = 0 then iv_V call mc_32 rt 19 L (st') w else iv_V call mc_32 rt 5 L (st') w := (iv_V_eq (I := (((6, 3), .ifCond .eq 25, 19, 0, 0) : iv_I)) rfl).trans (by simp only [iv_go, iv_cnd, decide_eq_true_eq])
theorem e32_5 : iv_V call mc_32 rt 5 L st w = iv_ldi L 2 fun x => iv_V call mc_32 rt 6 L (.int x :: st) w := iv_V_eq (I := (((9, 1), .iload_n 2, 0, 0, 0) : iv_I)) rfl
theorem e32_6 : iv_V call mc_32 rt 6 L st w = iv_V call mc_32 rt 7 L (.int 0 :: st) w := (iv_V_eq (I := (((10, 1), .iconst 0, 0, 0, 0) : iv_I)) rfl).trans (congrArg (fun c => iv_V call mc_32 rt 7 L (.int c :: st) w) li_o0)
theorem e32_7 : iv_V call mc_32 rt 7 L st w = iv_V call mc_32 rt 8 L (.int 5 :: st) w := (iv_V_eq (I := (((11, 1), .iconst 5, 0, 0, 0) : iv_I)) rfl).trans (congrArg (fun c => iv_V call mc_32 rt 8 L (.int c :: st) w) li_o5)
theorem e32_8 : iv_V call mc_32 rt 8 L st w = iv_inv call 25 3 (fun _ => true) st w fun st' w' => iv_V call mc_32 rt 9 L (st') w' := iv_V_eq (I := (((12, 3), .invokestatic 135, 25, 3, 748) : iv_I)) rfl
theorem e32_9 : iv_V call mc_32 rt 9 L st w = iv_p1 st fun x st' => if x = 0 then iv_V call mc_32 rt 19 L (st') w else iv_V call mc_32 rt 10 L (st') w := (iv_V_eq (I := (((15, 3), .ifCond .eq 16, 19, 0, 0) : iv_I)) rfl).trans (by simp only [iv_go, iv_cnd, decide_eq_true_eq])
theorem e32_10 : iv_V call mc_32 rt 10 L st w = iv_lda L 0 fun x => iv_V call mc_32 rt 11 L (x :: st) w := iv_V_eq (I := (((18, 1), .aload_n 0, 0, 0, 0) : iv_I)) rfl
theorem e32_11 : iv_V call mc_32 rt 11 L st w = iv_ldi L 2 fun x => iv_V call mc_32 rt 12 L (.int x :: st) w := iv_V_eq (I := (((19, 1), .iload_n 2, 0, 0, 0) : iv_I)) rfl
theorem e32_12 : iv_V call mc_32 rt 12 L st w = iv_inv call 31 2 (fun as => iv_rc w as (iv_mc 31)) st w fun st' w' => iv_V call mc_32 rt 13 L (st') w' := iv_V_eq (I := (((20, 3), .invokevirtual 145, 31, 2, 771) : iv_I)) rfl
theorem e32_13 : iv_V call mc_32 rt 13 L st w = iv_ldi L 1 fun x => iv_V call mc_32 rt 14 L (.int x :: st) w := iv_V_eq (I := (((23, 1), .iload_n 1, 0, 0, 0) : iv_I)) rfl
theorem e32_14 : iv_V call mc_32 rt 14 L st w = iv_p2 st fun x y st' => iv_V call mc_32 rt 15 L (.int (x >>> (y &&& 31)) :: st') w := iv_V_eq (I := (((24, 1), .ishr, 0, 0, 0) : iv_I)) rfl
theorem e32_15 : iv_V call mc_32 rt 15 L st w = iv_V call mc_32 rt 16 L (.int 1 :: st) w := (iv_V_eq (I := (((25, 1), .iconst 1, 0, 0, 0) : iv_I)) rfl).trans (congrArg (fun c => iv_V call mc_32 rt 16 L (.int c :: st) w) li_o1)
theorem e32_16 : iv_V call mc_32 rt 16 L st w = iv_p2 st fun x y st' => iv_V call mc_32 rt 17 L (.int (x &&& y) :: st') w := iv_V_eq (I := (((26, 1), .iand, 0, 0, 0) : iv_I)) rfl
theorem e32_17 : iv_V call mc_32 rt 17 L st w = iv_V call mc_32 rt 18 L (.int 1 :: st) w := (iv_V_eq (I := (((27, 1), .iconst 1, 0, 0, 0) : iv_I)) rfl).trans (congrArg (fun c => iv_V call mc_32 rt 18 L (.int c :: st) w) li_o1)
theorem e32_18 : iv_V call mc_32 rt 18 L st w = iv_p2 st fun x y st' => if ¬ x = y then iv_V call mc_32 rt 21 L (st') w else iv_V call mc_32 rt 19 L (st') w := (iv_V_eq (I := (((28, 3), .if_icmp .ne 5, 21, 0, 0) : iv_I)) rfl).trans (by simp only [iv_go, iv_cnd, decide_eq_true_eq])
theorem e32_19 : iv_V call mc_32 rt 19 L st w = iv_V call mc_32 rt 20 L (.int 0 :: st) w := (iv_V_eq (I := (((31, 1), .iconst 0, 0, 0, 0) : iv_I)) rfl).trans (congrArg (fun c => iv_V call mc_32 rt 20 L (.int c :: st) w) li_o0)
theorem e32_20 : iv_V call mc_32 rt 20 L st w = iv_ret rt st w := iv_V_eq (I := (((32, 1), .ireturn, 0, 0, 0) : iv_I)) rfl
theorem e32_21 : iv_V call mc_32 rt 21 L st w = iv_lda L 0 fun x => iv_V call mc_32 rt 22 L (x :: st) w := iv_V_eq (I := (((33, 1), .aload_n 0, 0, 0, 0) : iv_I)) rfl
theorem e32_22 : iv_V call mc_32 rt 22 L st w = iv_gf w st 1 19 fun v st' => iv_V call mc_32 rt 23 L (v :: st') w := iv_V_eq (I := (((34, 3), .getfield 59, 1, 19, 618) : iv_I)) rfl
theorem e32_23 : iv_V call mc_32 rt 23 L st w = iv_ldi L 1 fun x => iv_V call mc_32 rt 24 L (.int x :: st) w := iv_V_eq (I := (((37, 1), .iload_n 1, 0, 0, 0) : iv_I)) rfl
theorem e32_24 : iv_V call mc_32 rt 24 L st w = iv_lda L 0 fun x => iv_V call mc_32 rt 25 L (x :: st) w := iv_V_eq (I := (((38, 1), .aload_n 0, 0, 0, 0) : iv_I)) rfl
theorem e32_25 : iv_V call mc_32 rt 25 L st w = iv_gf w st 1 19 fun v st' => iv_V call mc_32 rt 26 L (v :: st') w := iv_V_eq (I := (((39, 3), .getfield 59, 1, 19, 618) : iv_I)) rfl
theorem e32_26 : iv_V call mc_32 rt 26 L st w = iv_ldi L 1 fun x => iv_V call mc_32 rt 27 L (.int x :: st) w := iv_V_eq (I := (((42, 1), .iload_n 1, 0, 0, 0) : iv_I)) rfl
theorem e32_27 : iv_V call mc_32 rt 27 L st w = iv_ald w st iv_isI fun v st' => iv_V call mc_32 rt 28 L (v :: st') w := iv_V_eq (I := (((43, 1), .iaload, 0, 0, 0) : iv_I)) rfl
theorem e32_28 : iv_V call mc_32 rt 28 L st w = iv_V call mc_32 rt 29 L (.int 1 :: st) w := (iv_V_eq (I := (((44, 1), .iconst 1, 0, 0, 0) : iv_I)) rfl).trans (congrArg (fun c => iv_V call mc_32 rt 29 L (.int c :: st) w) li_o1)
theorem e32_29 : iv_V call mc_32 rt 29 L st w = iv_ldi L 2 fun x => iv_V call mc_32 rt 30 L (.int x :: st) w := iv_V_eq (I := (((45, 1), .iload_n 2, 0, 0, 0) : iv_I)) rfl
theorem e32_30 : iv_V call mc_32 rt 30 L st w = iv_p2 st fun x y st' => iv_V call mc_32 rt 31 L (.int (x <<< (y &&& 31)) :: st') w := iv_V_eq (I := (((46, 1), .ishl, 0, 0, 0) : iv_I)) rfl
theorem e32_31 : iv_V call mc_32 rt 31 L st w = iv_p2 st fun x y st' => iv_V call mc_32 rt 32 L (.int (x ||| y) :: st') w := iv_V_eq (I := (((47, 1), .ior, 0, 0, 0) : iv_I)) rfl
theorem e32_32 : iv_V call mc_32 rt 32 L st w = iv_ast w st iv_isI fun st' w' => iv_V call mc_32 rt 33 L (st') w' := iv_V_eq (I := (((48, 1), .iastore, 0, 0, 0) : iv_I)) rfl
theorem e32_33 : iv_V call mc_32 rt 33 L st w = iv_V call mc_32 rt 34 L (.int 1 :: st) w := (iv_V_eq (I := (((49, 1), .iconst 1, 0, 0, 0) : iv_I)) rfl).trans (congrArg (fun c => iv_V call mc_32 rt 34 L (.int c :: st) w) li_o1)
theorem e32_34 : iv_V call mc_32 rt 34 L st w = iv_ret rt st w := iv_V_eq (I := (((50, 1), .ireturn, 0, 0, 0) : iv_I)) rfl
theorem e33_0 : iv_V call mc_33 rt 0 L st w = iv_ldi L 1 fun x => iv_V call mc_33 rt 1 L (.int x :: st) w := iv_V_eq (I := (((0, 1), .iload_n 1, 0, 0, 0) : iv_I)) rfl
theorem e33_1 : iv_V call mc_33 rt 1 L st w = iv_V call mc_33 rt 2 L (.int 6 :: st) w := (iv_V_eq (I := (((1, 2), .bipush 6, 0, 0, 0) : iv_I)) rfl).trans (congrArg (fun c => iv_V call mc_33 rt 2 L (.int c :: st) w) li_b6)
theorem e33_2 : iv_V call mc_33 rt 2 L st w = iv_V call mc_33 rt 3 L (.int 7 :: st) w := (iv_V_eq (I := (((3, 2), .bipush 7, 0, 0, 0) : iv_I)) rfl).trans (congrArg (fun c => iv_V call mc_33 rt 3 L (.int c :: st) w) li_b7)
theorem e33_3 : iv_V call mc_33 rt 3 L st w = iv_inv call 25 3 (fun _ => true) st w fun st' w' => iv_V call mc_33 rt 4 L (st') w' := iv_V_eq (I := (((5, 3), .invokestatic 135, 25, 3, 748) : iv_I)) rfl
theorem e33_4 : iv_V call mc_33 rt 4 L st w = iv_p1 st fun x st' => if x = 0 then iv_V call mc_33 rt 18 L (st') w else iv_V call mc_33 rt 5 L (st') w := (iv_V_eq (I := (((8, 3), .ifCond .eq 26, 18, 0, 0) : iv_I)) rfl).trans (by simp only [iv_go, iv_cnd, decide_eq_true_eq])
theorem e33_5 : iv_V call mc_33 rt 5 L st w = iv_ldi L 2 fun x => iv_V call mc_33 rt 6 L (.int x :: st) w := iv_V_eq (I := (((11, 1), .iload_n 2, 0, 0, 0) : iv_I)) rfl
theorem e33_6 : iv_V call mc_33 rt 6 L st w = iv_V call mc_33 rt 7 L (.int 0 :: st) w := (iv_V_eq (I := (((12, 1), .iconst 0, 0, 0, 0) : iv_I)) rfl).trans (congrArg (fun c => iv_V call mc_33 rt 7 L (.int c :: st) w) li_o0)
theorem e33_7 : iv_V call mc_33 rt 7 L st w = iv_V call mc_33 rt 8 L (.int 7 :: st) w := (iv_V_eq (I := (((13, 2), .bipush 7, 0, 0, 0) : iv_I)) rfl).trans (congrArg (fun c => iv_V call mc_33 rt 8 L (.int c :: st) w) li_b7)
theorem e33_8 : iv_V call mc_33 rt 8 L st w = iv_inv call 25 3 (fun _ => true) st w fun st' w' => iv_V call mc_33 rt 9 L (st') w' := iv_V_eq (I := (((15, 3), .invokestatic 135, 25, 3, 748) : iv_I)) rfl
theorem e33_9 : iv_V call mc_33 rt 9 L st w = iv_p1 st fun x st' => if x = 0 then iv_V call mc_33 rt 18 L (st') w else iv_V call mc_33 rt 10 L (st') w := (iv_V_eq (I := (((18, 3), .ifCond .eq 16, 18, 0, 0) : iv_I)) rfl).trans (by simp only [iv_go, iv_cnd, decide_eq_true_eq])
theorem e33_10 : iv_V call mc_33 rt 10 L st w = iv_lda L 0 fun x => iv_V call mc_33 rt 11 L (x :: st) w := iv_V_eq (I := (((21, 1), .aload_n 0, 0, 0, 0) : iv_I)) rfl
theorem e33_11 : iv_V call mc_33 rt 11 L st w = iv_gf w st 1 20 fun v st' => iv_V call mc_33 rt 12 L (v :: st') w := iv_V_eq (I := (((22, 3), .getfield 62, 1, 20, 619) : iv_I)) rfl
theorem e33_12 : iv_V call mc_33 rt 12 L st w = iv_ldi L 1 fun x => iv_V call mc_33 rt 13 L (.int x :: st) w := iv_V_eq (I := (((25, 1), .iload_n 1, 0, 0, 0) : iv_I)) rfl
theorem e33_13 : iv_V call mc_33 rt 13 L st w = iv_V call mc_33 rt 14 L (.int 6 :: st) w := (iv_V_eq (I := (((26, 2), .bipush 6, 0, 0, 0) : iv_I)) rfl).trans (congrArg (fun c => iv_V call mc_33 rt 14 L (.int c :: st) w) li_b6)
theorem e33_14 : iv_V call mc_33 rt 14 L st w = iv_p2 st fun x y st' => iv_V call mc_33 rt 15 L (.int (x - y) :: st') w := iv_V_eq (I := (((28, 1), .isub, 0, 0, 0) : iv_I)) rfl
theorem e33_15 : iv_V call mc_33 rt 15 L st w = iv_ald w st iv_isI fun v st' => iv_V call mc_33 rt 16 L (v :: st') w := iv_V_eq (I := (((29, 1), .iaload, 0, 0, 0) : iv_I)) rfl
theorem e33_16 : iv_V call mc_33 rt 16 L st w = iv_V call mc_33 rt 17 L (.int 4 :: st) w := (iv_V_eq (I := (((30, 1), .iconst 4, 0, 0, 0) : iv_I)) rfl).trans (congrArg (fun c => iv_V call mc_33 rt 17 L (.int c :: st) w) li_o4)
theorem e33_17 : iv_V call mc_33 rt 17 L st w = iv_p2 st fun x y st' => if ¬ x = y then iv_V call mc_33 rt 20 L (st') w else iv_V call mc_33 rt 18 L (st') w := (iv_V_eq (I := (((31, 3), .if_icmp .ne 5, 20, 0, 0) : iv_I)) rfl).trans (by simp only [iv_go, iv_cnd, decide_eq_true_eq])
theorem e33_18 : iv_V call mc_33 rt 18 L st w = iv_V call mc_33 rt 19 L (.int 0 :: st) w := (iv_V_eq (I := (((34, 1), .iconst 0, 0, 0, 0) : iv_I)) rfl).trans (congrArg (fun c => iv_V call mc_33 rt 19 L (.int c :: st) w) li_o0)
theorem e33_19 : iv_V call mc_33 rt 19 L st w = iv_ret rt st w := iv_V_eq (I := (((35, 1), .ireturn, 0, 0, 0) : iv_I)) rfl
theorem e33_20 : iv_V call mc_33 rt 20 L st w = iv_lda L 0 fun x => iv_V call mc_33 rt 21 L (x :: st) w := iv_V_eq (I := (((36, 1), .aload_n 0, 0, 0, 0) : iv_I)) rfl
theorem e33_21 : iv_V call mc_33 rt 21 L st w = iv_gf w st 1 21 fun v st' => iv_V call mc_33 rt 22 L (v :: st') w := iv_V_eq (I := (((37, 3), .getfield 65, 1, 21, 620) : iv_I)) rfl
theorem e33_22 : iv_V call mc_33 rt 22 L st w = iv_V call mc_33 rt 23 L (.int 4 :: st) w := (iv_V_eq (I := (((40, 1), .iconst 4, 0, 0, 0) : iv_I)) rfl).trans (congrArg (fun c => iv_V call mc_33 rt 23 L (.int c :: st) w) li_o4)
theorem e33_23 : iv_V call mc_33 rt 23 L st w = iv_ldi L 1 fun x => iv_V call mc_33 rt 24 L (.int x :: st) w := iv_V_eq (I := (((41, 1), .iload_n 1, 0, 0, 0) : iv_I)) rfl
theorem e33_24 : iv_V call mc_33 rt 24 L st w = iv_V call mc_33 rt 25 L (.int 6 :: st) w := (iv_V_eq (I := (((42, 2), .bipush 6, 0, 0, 0) : iv_I)) rfl).trans (congrArg (fun c => iv_V call mc_33 rt 25 L (.int c :: st) w) li_b6)
theorem e33_25 : iv_V call mc_33 rt 25 L st w = iv_p2 st fun x y st' => iv_V call mc_33 rt 26 L (.int (x - y) :: st') w := iv_V_eq (I := (((44, 1), .isub, 0, 0, 0) : iv_I)) rfl
theorem e33_26 : iv_V call mc_33 rt 26 L st w = iv_p2 st fun x y st' => iv_V call mc_33 rt 27 L (.int (x * y) :: st') w := iv_V_eq (I := (((45, 1), .imul, 0, 0, 0) : iv_I)) rfl
theorem e33_27 : iv_V call mc_33 rt 27 L st w = iv_lda L 0 fun x => iv_V call mc_33 rt 28 L (x :: st) w := iv_V_eq (I := (((46, 1), .aload_n 0, 0, 0, 0) : iv_I)) rfl
theorem e33_28 : iv_V call mc_33 rt 28 L st w = iv_gf w st 1 20 fun v st' => iv_V call mc_33 rt 29 L (v :: st') w := iv_V_eq (I := (((47, 3), .getfield 62, 1, 20, 619) : iv_I)) rfl
theorem e33_29 : iv_V call mc_33 rt 29 L st w = iv_ldi L 1 fun x => iv_V call mc_33 rt 30 L (.int x :: st) w := iv_V_eq (I := (((50, 1), .iload_n 1, 0, 0, 0) : iv_I)) rfl
theorem e33_30 : iv_V call mc_33 rt 30 L st w = iv_V call mc_33 rt 31 L (.int 6 :: st) w := (iv_V_eq (I := (((51, 2), .bipush 6, 0, 0, 0) : iv_I)) rfl).trans (congrArg (fun c => iv_V call mc_33 rt 31 L (.int c :: st) w) li_b6)
theorem e33_31 : iv_V call mc_33 rt 31 L st w = iv_p2 st fun x y st' => iv_V call mc_33 rt 32 L (.int (x - y) :: st') w := iv_V_eq (I := (((53, 1), .isub, 0, 0, 0) : iv_I)) rfl
theorem e33_32 : iv_V call mc_33 rt 32 L st w = iv_ald w st iv_isI fun v st' => iv_V call mc_33 rt 33 L (v :: st') w := iv_V_eq (I := (((54, 1), .iaload, 0, 0, 0) : iv_I)) rfl
theorem e33_33 : iv_V call mc_33 rt 33 L st w = iv_p2 st fun x y st' => iv_V call mc_33 rt 34 L (.int (x + y) :: st') w := iv_V_eq (I := (((55, 1), .iadd, 0, 0, 0) : iv_I)) rfl
theorem e33_34 : iv_V call mc_33 rt 34 L st w = iv_ldi L 2 fun x => iv_V call mc_33 rt 35 L (.int x :: st) w := iv_V_eq (I := (((56, 1), .iload_n 2, 0, 0, 0) : iv_I)) rfl
theorem e33_35 : iv_V call mc_33 rt 35 L st w = iv_ast w st iv_isI fun st' w' => iv_V call mc_33 rt 36 L (st') w' := iv_V_eq (I := (((57, 1), .iastore, 0, 0, 0) : iv_I)) rfl
theorem e33_36 : iv_V call mc_33 rt 36 L st w = iv_lda L 0 fun x => iv_V call mc_33 rt 37 L (x :: st) w := iv_V_eq (I := (((58, 1), .aload_n 0, 0, 0, 0) : iv_I)) rfl
theorem e33_37 : iv_V call mc_33 rt 37 L st w = iv_gf w st 1 20 fun v st' => iv_V call mc_33 rt 38 L (v :: st') w := iv_V_eq (I := (((59, 3), .getfield 62, 1, 20, 619) : iv_I)) rfl
theorem e33_38 : iv_V call mc_33 rt 38 L st w = iv_ldi L 1 fun x => iv_V call mc_33 rt 39 L (.int x :: st) w := iv_V_eq (I := (((62, 1), .iload_n 1, 0, 0, 0) : iv_I)) rfl
theorem e33_39 : iv_V call mc_33 rt 39 L st w = iv_V call mc_33 rt 40 L (.int 6 :: st) w := (iv_V_eq (I := (((63, 2), .bipush 6, 0, 0, 0) : iv_I)) rfl).trans (congrArg (fun c => iv_V call mc_33 rt 40 L (.int c :: st) w) li_b6)
theorem e33_40 : iv_V call mc_33 rt 40 L st w = iv_p2 st fun x y st' => iv_V call mc_33 rt 41 L (.int (x - y) :: st') w := iv_V_eq (I := (((65, 1), .isub, 0, 0, 0) : iv_I)) rfl
theorem e33_41 : iv_V call mc_33 rt 41 L st w = iv_d2 st fun a b st' => iv_V call mc_33 rt 42 L (a :: b :: a :: b :: st') w := iv_V_eq (I := (((66, 1), .dup2, 0, 0, 0) : iv_I)) rfl
theorem e33_42 : iv_V call mc_33 rt 42 L st w = iv_ald w st iv_isI fun v st' => iv_V call mc_33 rt 43 L (v :: st') w := iv_V_eq (I := (((67, 1), .iaload, 0, 0, 0) : iv_I)) rfl
theorem e33_43 : iv_V call mc_33 rt 43 L st w = iv_V call mc_33 rt 44 L (.int 1 :: st) w := (iv_V_eq (I := (((68, 1), .iconst 1, 0, 0, 0) : iv_I)) rfl).trans (congrArg (fun c => iv_V call mc_33 rt 44 L (.int c :: st) w) li_o1)
theorem e33_44 : iv_V call mc_33 rt 44 L st w = iv_p2 st fun x y st' => iv_V call mc_33 rt 45 L (.int (x + y) :: st') w := iv_V_eq (I := (((69, 1), .iadd, 0, 0, 0) : iv_I)) rfl
theorem e33_45 : iv_V call mc_33 rt 45 L st w = iv_ast w st iv_isI fun st' w' => iv_V call mc_33 rt 46 L (st') w' := iv_V_eq (I := (((70, 1), .iastore, 0, 0, 0) : iv_I)) rfl
theorem e33_46 : iv_V call mc_33 rt 46 L st w = iv_V call mc_33 rt 47 L (.int 1 :: st) w := (iv_V_eq (I := (((71, 1), .iconst 1, 0, 0, 0) : iv_I)) rfl).trans (congrArg (fun c => iv_V call mc_33 rt 47 L (.int c :: st) w) li_o1)
theorem e33_47 : iv_V call mc_33 rt 47 L st w = iv_ret rt st w := iv_V_eq (I := (((72, 1), .ireturn, 0, 0, 0) : iv_I)) rfl
theorem e34_0 : iv_V call mc_34 rt 0 L st w = iv_ldi L 1 fun x => iv_V call mc_34 rt 1 L (.int x :: st) w := iv_V_eq (I := (((0, 1), .iload_n 1, 0, 0, 0) : iv_I)) rfl
theorem e34_1 : iv_V call mc_34 rt 1 L st w = iv_V call mc_34 rt 2 L (.int 0 :: st) w := (iv_V_eq (I := (((1, 1), .iconst 0, 0, 0, 0) : iv_I)) rfl).trans (congrArg (fun c => iv_V call mc_34 rt 2 L (.int c :: st) w) li_o0)
theorem e34_2 : iv_V call mc_34 rt 2 L st w = iv_lda L 0 fun x => iv_V call mc_34 rt 3 L (x :: st) w := iv_V_eq (I := (((2, 1), .aload_n 0, 0, 0, 0) : iv_I)) rfl
theorem e34_3 : iv_V call mc_34 rt 3 L st w = iv_gf w st 1 0 fun v st' => iv_V call mc_34 rt 4 L (v :: st') w := iv_V_eq (I := (((3, 3), .getfield 131, 1, 0, 599) : iv_I)) rfl
theorem e34_4 : iv_V call mc_34 rt 4 L st w = iv_V call mc_34 rt 5 L (.int 1 :: st) w := (iv_V_eq (I := (((6, 1), .iconst 1, 0, 0, 0) : iv_I)) rfl).trans (congrArg (fun c => iv_V call mc_34 rt 5 L (.int c :: st) w) li_o1)
theorem e34_5 : iv_V call mc_34 rt 5 L st w = iv_p2 st fun x y st' => iv_V call mc_34 rt 6 L (.int (x - y) :: st') w := iv_V_eq (I := (((7, 1), .isub, 0, 0, 0) : iv_I)) rfl
theorem e34_6 : iv_V call mc_34 rt 6 L st w = iv_inv call 25 3 (fun _ => true) st w fun st' w' => iv_V call mc_34 rt 7 L (st') w' := iv_V_eq (I := (((8, 3), .invokestatic 135, 25, 3, 748) : iv_I)) rfl
theorem e34_7 : iv_V call mc_34 rt 7 L st w = iv_p1 st fun x st' => if x = 0 then iv_V call mc_34 rt 19 L (st') w else iv_V call mc_34 rt 8 L (st') w := (iv_V_eq (I := (((11, 3), .ifCond .eq 22, 19, 0, 0) : iv_I)) rfl).trans (by simp only [iv_go, iv_cnd, decide_eq_true_eq])
theorem e34_8 : iv_V call mc_34 rt 8 L st w = iv_ldi L 2 fun x => iv_V call mc_34 rt 9 L (.int x :: st) w := iv_V_eq (I := (((14, 1), .iload_n 2, 0, 0, 0) : iv_I)) rfl
theorem e34_9 : iv_V call mc_34 rt 9 L st w = iv_V call mc_34 rt 10 L (.int (-1) :: st) w := (iv_V_eq (I := (((15, 1), .iconst (-1), 0, 0, 0) : iv_I)) rfl).trans (congrArg (fun c => iv_V call mc_34 rt 10 L (.int c :: st) w) li_om1)
theorem e34_10 : iv_V call mc_34 rt 10 L st w = iv_V call mc_34 rt 11 L (.int 5 :: st) w := (iv_V_eq (I := (((16, 1), .iconst 5, 0, 0, 0) : iv_I)) rfl).trans (congrArg (fun c => iv_V call mc_34 rt 11 L (.int c :: st) w) li_o5)
theorem e34_11 : iv_V call mc_34 rt 11 L st w = iv_inv call 25 3 (fun _ => true) st w fun st' w' => iv_V call mc_34 rt 12 L (st') w' := iv_V_eq (I := (((17, 3), .invokestatic 135, 25, 3, 748) : iv_I)) rfl
theorem e34_12 : iv_V call mc_34 rt 12 L st w = iv_p1 st fun x st' => if x = 0 then iv_V call mc_34 rt 19 L (st') w else iv_V call mc_34 rt 13 L (st') w := (iv_V_eq (I := (((20, 3), .ifCond .eq 13, 19, 0, 0) : iv_I)) rfl).trans (by simp only [iv_go, iv_cnd, decide_eq_true_eq])
theorem e34_13 : iv_V call mc_34 rt 13 L st w = iv_lda L 0 fun x => iv_V call mc_34 rt 14 L (x :: st) w := iv_V_eq (I := (((23, 1), .aload_n 0, 0, 0, 0) : iv_I)) rfl
theorem e34_14 : iv_V call mc_34 rt 14 L st w = iv_gf w st 1 22 fun v st' => iv_V call mc_34 rt 15 L (v :: st') w := iv_V_eq (I := (((24, 3), .getfield 68, 1, 22, 621) : iv_I)) rfl
theorem e34_15 : iv_V call mc_34 rt 15 L st w = iv_ldi L 1 fun x => iv_V call mc_34 rt 16 L (.int x :: st) w := iv_V_eq (I := (((27, 1), .iload_n 1, 0, 0, 0) : iv_I)) rfl
theorem e34_16 : iv_V call mc_34 rt 16 L st w = iv_ald w st iv_isI fun v st' => iv_V call mc_34 rt 17 L (v :: st') w := iv_V_eq (I := (((28, 1), .iaload, 0, 0, 0) : iv_I)) rfl
theorem e34_17 : iv_V call mc_34 rt 17 L st w = iv_V call mc_34 rt 18 L (.int 4 :: st) w := (iv_V_eq (I := (((29, 1), .iconst 4, 0, 0, 0) : iv_I)) rfl).trans (congrArg (fun c => iv_V call mc_34 rt 18 L (.int c :: st) w) li_o4)
theorem e34_18 : iv_V call mc_34 rt 18 L st w = iv_p2 st fun x y st' => if ¬ x = y then iv_V call mc_34 rt 21 L (st') w else iv_V call mc_34 rt 19 L (st') w := (iv_V_eq (I := (((30, 3), .if_icmp .ne 5, 21, 0, 0) : iv_I)) rfl).trans (by simp only [iv_go, iv_cnd, decide_eq_true_eq])
theorem e34_19 : iv_V call mc_34 rt 19 L st w = iv_V call mc_34 rt 20 L (.int 0 :: st) w := (iv_V_eq (I := (((33, 1), .iconst 0, 0, 0, 0) : iv_I)) rfl).trans (congrArg (fun c => iv_V call mc_34 rt 20 L (.int c :: st) w) li_o0)
theorem e34_20 : iv_V call mc_34 rt 20 L st w = iv_ret rt st w := iv_V_eq (I := (((34, 1), .ireturn, 0, 0, 0) : iv_I)) rfl
theorem e34_21 : iv_V call mc_34 rt 21 L st w = iv_lda L 0 fun x => iv_V call mc_34 rt 22 L (x :: st) w := iv_V_eq (I := (((35, 1), .aload_n 0, 0, 0, 0) : iv_I)) rfl
theorem e34_22 : iv_V call mc_34 rt 22 L st w = iv_gf w st 1 23 fun v st' => iv_V call mc_34 rt 23 L (v :: st') w := iv_V_eq (I := (((36, 3), .getfield 71, 1, 23, 622) : iv_I)) rfl
theorem e34_23 : iv_V call mc_34 rt 23 L st w = iv_V call mc_34 rt 24 L (.int 4 :: st) w := (iv_V_eq (I := (((39, 1), .iconst 4, 0, 0, 0) : iv_I)) rfl).trans (congrArg (fun c => iv_V call mc_34 rt 24 L (.int c :: st) w) li_o4)
theorem e34_24 : iv_V call mc_34 rt 24 L st w = iv_ldi L 1 fun x => iv_V call mc_34 rt 25 L (.int x :: st) w := iv_V_eq (I := (((40, 1), .iload_n 1, 0, 0, 0) : iv_I)) rfl
theorem e34_25 : iv_V call mc_34 rt 25 L st w = iv_p2 st fun x y st' => iv_V call mc_34 rt 26 L (.int (x * y) :: st') w := iv_V_eq (I := (((41, 1), .imul, 0, 0, 0) : iv_I)) rfl
theorem e34_26 : iv_V call mc_34 rt 26 L st w = iv_lda L 0 fun x => iv_V call mc_34 rt 27 L (x :: st) w := iv_V_eq (I := (((42, 1), .aload_n 0, 0, 0, 0) : iv_I)) rfl
theorem e34_27 : iv_V call mc_34 rt 27 L st w = iv_gf w st 1 22 fun v st' => iv_V call mc_34 rt 28 L (v :: st') w := iv_V_eq (I := (((43, 3), .getfield 68, 1, 22, 621) : iv_I)) rfl
theorem e34_28 : iv_V call mc_34 rt 28 L st w = iv_ldi L 1 fun x => iv_V call mc_34 rt 29 L (.int x :: st) w := iv_V_eq (I := (((46, 1), .iload_n 1, 0, 0, 0) : iv_I)) rfl
theorem e34_29 : iv_V call mc_34 rt 29 L st w = iv_ald w st iv_isI fun v st' => iv_V call mc_34 rt 30 L (v :: st') w := iv_V_eq (I := (((47, 1), .iaload, 0, 0, 0) : iv_I)) rfl
theorem e34_30 : iv_V call mc_34 rt 30 L st w = iv_p2 st fun x y st' => iv_V call mc_34 rt 31 L (.int (x + y) :: st') w := iv_V_eq (I := (((48, 1), .iadd, 0, 0, 0) : iv_I)) rfl
theorem e34_31 : iv_V call mc_34 rt 31 L st w = iv_ldi L 2 fun x => iv_V call mc_34 rt 32 L (.int x :: st) w := iv_V_eq (I := (((49, 1), .iload_n 2, 0, 0, 0) : iv_I)) rfl
theorem e34_32 : iv_V call mc_34 rt 32 L st w = iv_ast w st iv_isI fun st' w' => iv_V call mc_34 rt 33 L (st') w' := iv_V_eq (I := (((50, 1), .iastore, 0, 0, 0) : iv_I)) rfl
theorem e34_33 : iv_V call mc_34 rt 33 L st w = iv_lda L 0 fun x => iv_V call mc_34 rt 34 L (x :: st) w := iv_V_eq (I := (((51, 1), .aload_n 0, 0, 0, 0) : iv_I)) rfl
theorem e34_34 : iv_V call mc_34 rt 34 L st w = iv_gf w st 1 22 fun v st' => iv_V call mc_34 rt 35 L (v :: st') w := iv_V_eq (I := (((52, 3), .getfield 68, 1, 22, 621) : iv_I)) rfl
theorem e34_35 : iv_V call mc_34 rt 35 L st w = iv_ldi L 1 fun x => iv_V call mc_34 rt 36 L (.int x :: st) w := iv_V_eq (I := (((55, 1), .iload_n 1, 0, 0, 0) : iv_I)) rfl
theorem e34_36 : iv_V call mc_34 rt 36 L st w = iv_d2 st fun a b st' => iv_V call mc_34 rt 37 L (a :: b :: a :: b :: st') w := iv_V_eq (I := (((56, 1), .dup2, 0, 0, 0) : iv_I)) rfl
theorem e34_37 : iv_V call mc_34 rt 37 L st w = iv_ald w st iv_isI fun v st' => iv_V call mc_34 rt 38 L (v :: st') w := iv_V_eq (I := (((57, 1), .iaload, 0, 0, 0) : iv_I)) rfl
theorem e34_38 : iv_V call mc_34 rt 38 L st w = iv_V call mc_34 rt 39 L (.int 1 :: st) w := (iv_V_eq (I := (((58, 1), .iconst 1, 0, 0, 0) : iv_I)) rfl).trans (congrArg (fun c => iv_V call mc_34 rt 39 L (.int c :: st) w) li_o1)
theorem e34_39 : iv_V call mc_34 rt 39 L st w = iv_p2 st fun x y st' => iv_V call mc_34 rt 40 L (.int (x + y) :: st') w := iv_V_eq (I := (((59, 1), .iadd, 0, 0, 0) : iv_I)) rfl
theorem e34_40 : iv_V call mc_34 rt 40 L st w = iv_ast w st iv_isI fun st' w' => iv_V call mc_34 rt 41 L (st') w' := iv_V_eq (I := (((60, 1), .iastore, 0, 0, 0) : iv_I)) rfl
theorem e34_41 : iv_V call mc_34 rt 41 L st w = iv_V call mc_34 rt 42 L (.int 1 :: st) w := (iv_V_eq (I := (((61, 1), .iconst 1, 0, 0, 0) : iv_I)) rfl).trans (congrArg (fun c => iv_V call mc_34 rt 42 L (.int c :: st) w) li_o1)
theorem e34_42 : iv_V call mc_34 rt 42 L st w = iv_ret rt st w := iv_V_eq (I := (((62, 1), .ireturn, 0, 0, 0) : iv_I)) rfl
theorem e35_0 : iv_V call mc_35 rt 0 L st w = iv_ldi L 1 fun x => iv_V call mc_35 rt 1 L (.int x :: st) w := iv_V_eq (I := (((0, 1), .iload_n 1, 0, 0, 0) : iv_I)) rfl
theorem e35_1 : iv_V call mc_35 rt 1 L st w = iv_V call mc_35 rt 2 L (.int 0 :: st) w := (iv_V_eq (I := (((1, 1), .iconst 0, 0, 0, 0) : iv_I)) rfl).trans (congrArg (fun c => iv_V call mc_35 rt 2 L (.int c :: st) w) li_o0)
theorem e35_2 : iv_V call mc_35 rt 2 L st w = iv_lda L 0 fun x => iv_V call mc_35 rt 3 L (x :: st) w := iv_V_eq (I := (((2, 1), .aload_n 0, 0, 0, 0) : iv_I)) rfl
theorem e35_3 : iv_V call mc_35 rt 3 L st w = iv_gf w st 1 2 fun v st' => iv_V call mc_35 rt 4 L (v :: st') w := iv_V_eq (I := (((3, 3), .getfield 139, 1, 2, 601) : iv_I)) rfl
theorem e35_4 : iv_V call mc_35 rt 4 L st w = iv_V call mc_35 rt 5 L (.int 1 :: st) w := (iv_V_eq (I := (((6, 1), .iconst 1, 0, 0, 0) : iv_I)) rfl).trans (congrArg (fun c => iv_V call mc_35 rt 5 L (.int c :: st) w) li_o1)
theorem e35_5 : iv_V call mc_35 rt 5 L st w = iv_p2 st fun x y st' => iv_V call mc_35 rt 6 L (.int (x - y) :: st') w := iv_V_eq (I := (((7, 1), .isub, 0, 0, 0) : iv_I)) rfl
theorem e35_6 : iv_V call mc_35 rt 6 L st w = iv_inv call 25 3 (fun _ => true) st w fun st' w' => iv_V call mc_35 rt 7 L (st') w' := iv_V_eq (I := (((8, 3), .invokestatic 135, 25, 3, 748) : iv_I)) rfl
theorem e35_7 : iv_V call mc_35 rt 7 L st w = iv_p1 st fun x st' => if x = 0 then iv_V call mc_35 rt 19 L (st') w else iv_V call mc_35 rt 8 L (st') w := (iv_V_eq (I := (((11, 3), .ifCond .eq 22, 19, 0, 0) : iv_I)) rfl).trans (by simp only [iv_go, iv_cnd, decide_eq_true_eq])
theorem e35_8 : iv_V call mc_35 rt 8 L st w = iv_lda L 0 fun x => iv_V call mc_35 rt 9 L (x :: st) w := iv_V_eq (I := (((14, 1), .aload_n 0, 0, 0, 0) : iv_I)) rfl
theorem e35_9 : iv_V call mc_35 rt 9 L st w = iv_gf w st 1 4 fun v st' => iv_V call mc_35 rt 10 L (v :: st') w := iv_V_eq (I := (((15, 3), .getfield 16, 1, 4, 603) : iv_I)) rfl
theorem e35_10 : iv_V call mc_35 rt 10 L st w = iv_ldi L 1 fun x => iv_V call mc_35 rt 11 L (.int x :: st) w := iv_V_eq (I := (((18, 1), .iload_n 1, 0, 0, 0) : iv_I)) rfl
theorem e35_11 : iv_V call mc_35 rt 11 L st w = iv_ald w st iv_isI fun v st' => iv_V call mc_35 rt 12 L (v :: st') w := iv_V_eq (I := (((19, 1), .iaload, 0, 0, 0) : iv_I)) rfl
theorem e35_12 : iv_V call mc_35 rt 12 L st w = iv_p1 st fun x st' => if x = 0 then iv_V call mc_35 rt 19 L (st') w else iv_V call mc_35 rt 13 L (st') w := (iv_V_eq (I := (((20, 3), .ifCond .eq 13, 19, 0, 0) : iv_I)) rfl).trans (by simp only [iv_go, iv_cnd, decide_eq_true_eq])
theorem e35_13 : iv_V call mc_35 rt 13 L st w = iv_lda L 0 fun x => iv_V call mc_35 rt 14 L (x :: st) w := iv_V_eq (I := (((23, 1), .aload_n 0, 0, 0, 0) : iv_I)) rfl
theorem e35_14 : iv_V call mc_35 rt 14 L st w = iv_gf w st 1 4 fun v st' => iv_V call mc_35 rt 15 L (v :: st') w := iv_V_eq (I := (((24, 3), .getfield 16, 1, 4, 603) : iv_I)) rfl
theorem e35_15 : iv_V call mc_35 rt 15 L st w = iv_ldi L 1 fun x => iv_V call mc_35 rt 16 L (.int x :: st) w := iv_V_eq (I := (((27, 1), .iload_n 1, 0, 0, 0) : iv_I)) rfl
theorem e35_16 : iv_V call mc_35 rt 16 L st w = iv_ald w st iv_isI fun v st' => iv_V call mc_35 rt 17 L (v :: st') w := iv_V_eq (I := (((28, 1), .iaload, 0, 0, 0) : iv_I)) rfl
theorem e35_17 : iv_V call mc_35 rt 17 L st w = iv_V call mc_35 rt 18 L (.int 2 :: st) w := (iv_V_eq (I := (((29, 1), .iconst 2, 0, 0, 0) : iv_I)) rfl).trans (congrArg (fun c => iv_V call mc_35 rt 18 L (.int c :: st) w) li_o2)
theorem e35_18 : iv_V call mc_35 rt 18 L st w = iv_p2 st fun x y st' => if ¬ x = y then iv_V call mc_35 rt 21 L (st') w else iv_V call mc_35 rt 19 L (st') w := (iv_V_eq (I := (((30, 3), .if_icmp .ne 5, 21, 0, 0) : iv_I)) rfl).trans (by simp only [iv_go, iv_cnd, decide_eq_true_eq])
theorem e35_19 : iv_V call mc_35 rt 19 L st w = iv_V call mc_35 rt 20 L (.int 0 :: st) w := (iv_V_eq (I := (((33, 1), .iconst 0, 0, 0, 0) : iv_I)) rfl).trans (congrArg (fun c => iv_V call mc_35 rt 20 L (.int c :: st) w) li_o0)
theorem e35_20 : iv_V call mc_35 rt 20 L st w = iv_ret rt st w := iv_V_eq (I := (((34, 1), .ireturn, 0, 0, 0) : iv_I)) rfl
theorem e35_21 : iv_V call mc_35 rt 21 L st w = iv_lda L 0 fun x => iv_V call mc_35 rt 22 L (x :: st) w := iv_V_eq (I := (((35, 1), .aload_n 0, 0, 0, 0) : iv_I)) rfl
theorem e35_22 : iv_V call mc_35 rt 22 L st w = iv_gf w st 1 5 fun v st' => iv_V call mc_35 rt 23 L (v :: st') w := iv_V_eq (I := (((36, 3), .getfield 19, 1, 5, 604) : iv_I)) rfl
theorem e35_23 : iv_V call mc_35 rt 23 L st w = iv_ldi L 1 fun x => iv_V call mc_35 rt 24 L (.int x :: st) w := iv_V_eq (I := (((39, 1), .iload_n 1, 0, 0, 0) : iv_I)) rfl
theorem e35_24 : iv_V call mc_35 rt 24 L st w = iv_V call mc_35 rt 25 L (.int 1 :: st) w := (iv_V_eq (I := (((40, 1), .iconst 1, 0, 0, 0) : iv_I)) rfl).trans (congrArg (fun c => iv_V call mc_35 rt 25 L (.int c :: st) w) li_o1)
theorem e35_25 : iv_V call mc_35 rt 25 L st w = iv_ast w st iv_isZ fun st' w' => iv_V call mc_35 rt 26 L (st') w' := iv_V_eq (I := (((41, 1), .bastore, 0, 0, 0) : iv_I)) rfl
theorem e35_26 : iv_V call mc_35 rt 26 L st w = iv_V call mc_35 rt 27 L (.int 1 :: st) w := (iv_V_eq (I := (((42, 1), .iconst 1, 0, 0, 0) : iv_I)) rfl).trans (congrArg (fun c => iv_V call mc_35 rt 27 L (.int c :: st) w) li_o1)
theorem e35_27 : iv_V call mc_35 rt 27 L st w = iv_ret rt st w := iv_V_eq (I := (((43, 1), .ireturn, 0, 0, 0) : iv_I)) rfl
theorem e36_0 : iv_V call mc_36 rt 0 L st w = iv_ldi L 1 fun x => iv_V call mc_36 rt 1 L (.int x :: st) w := iv_V_eq (I := (((0, 1), .iload_n 1, 0, 0, 0) : iv_I)) rfl
theorem e36_1 : iv_V call mc_36 rt 1 L st w = iv_V call mc_36 rt 2 L (.int 0 :: st) w := (iv_V_eq (I := (((1, 1), .iconst 0, 0, 0, 0) : iv_I)) rfl).trans (congrArg (fun c => iv_V call mc_36 rt 2 L (.int c :: st) w) li_o0)
theorem e36_2 : iv_V call mc_36 rt 2 L st w = iv_lda L 0 fun x => iv_V call mc_36 rt 3 L (x :: st) w := iv_V_eq (I := (((2, 1), .aload_n 0, 0, 0, 0) : iv_I)) rfl
theorem e36_3 : iv_V call mc_36 rt 3 L st w = iv_gf w st 1 2 fun v st' => iv_V call mc_36 rt 4 L (v :: st') w := iv_V_eq (I := (((3, 3), .getfield 139, 1, 2, 601) : iv_I)) rfl
theorem e36_4 : iv_V call mc_36 rt 4 L st w = iv_V call mc_36 rt 5 L (.int 1 :: st) w := (iv_V_eq (I := (((6, 1), .iconst 1, 0, 0, 0) : iv_I)) rfl).trans (congrArg (fun c => iv_V call mc_36 rt 5 L (.int c :: st) w) li_o1)
theorem e36_5 : iv_V call mc_36 rt 5 L st w = iv_p2 st fun x y st' => iv_V call mc_36 rt 6 L (.int (x - y) :: st') w := iv_V_eq (I := (((7, 1), .isub, 0, 0, 0) : iv_I)) rfl
theorem e36_6 : iv_V call mc_36 rt 6 L st w = iv_inv call 25 3 (fun _ => true) st w fun st' w' => iv_V call mc_36 rt 7 L (st') w' := iv_V_eq (I := (((8, 3), .invokestatic 135, 25, 3, 748) : iv_I)) rfl
theorem e36_7 : iv_V call mc_36 rt 7 L st w = iv_p1 st fun x st' => if x = 0 then iv_V call mc_36 rt 18 L (st') w else iv_V call mc_36 rt 8 L (st') w := (iv_V_eq (I := (((11, 3), .ifCond .eq 21, 18, 0, 0) : iv_I)) rfl).trans (by simp only [iv_go, iv_cnd, decide_eq_true_eq])
theorem e36_8 : iv_V call mc_36 rt 8 L st w = iv_ldi L 2 fun x => iv_V call mc_36 rt 9 L (.int x :: st) w := iv_V_eq (I := (((14, 1), .iload_n 2, 0, 0, 0) : iv_I)) rfl
theorem e36_9 : iv_V call mc_36 rt 9 L st w = iv_V call mc_36 rt 10 L (.int 0 :: st) w := (iv_V_eq (I := (((15, 1), .iconst 0, 0, 0, 0) : iv_I)) rfl).trans (congrArg (fun c => iv_V call mc_36 rt 10 L (.int c :: st) w) li_o0)
theorem e36_10 : iv_V call mc_36 rt 10 L st w = iv_V call mc_36 rt 11 L (.int 5 :: st) w := (iv_V_eq (I := (((16, 1), .iconst 5, 0, 0, 0) : iv_I)) rfl).trans (congrArg (fun c => iv_V call mc_36 rt 11 L (.int c :: st) w) li_o5)
theorem e36_11 : iv_V call mc_36 rt 11 L st w = iv_inv call 25 3 (fun _ => true) st w fun st' w' => iv_V call mc_36 rt 12 L (st') w' := iv_V_eq (I := (((17, 3), .invokestatic 135, 25, 3, 748) : iv_I)) rfl
theorem e36_12 : iv_V call mc_36 rt 12 L st w = iv_p1 st fun x st' => if x = 0 then iv_V call mc_36 rt 18 L (st') w else iv_V call mc_36 rt 13 L (st') w := (iv_V_eq (I := (((20, 3), .ifCond .eq 12, 18, 0, 0) : iv_I)) rfl).trans (by simp only [iv_go, iv_cnd, decide_eq_true_eq])
theorem e36_13 : iv_V call mc_36 rt 13 L st w = iv_ldi L 3 fun x => iv_V call mc_36 rt 14 L (.int x :: st) w := iv_V_eq (I := (((23, 1), .iload_n 3, 0, 0, 0) : iv_I)) rfl
theorem e36_14 : iv_V call mc_36 rt 14 L st w = iv_V call mc_36 rt 15 L (.int 0 :: st) w := (iv_V_eq (I := (((24, 1), .iconst 0, 0, 0, 0) : iv_I)) rfl).trans (congrArg (fun c => iv_V call mc_36 rt 15 L (.int c :: st) w) li_o0)
theorem e36_15 : iv_V call mc_36 rt 15 L st w = iv_V call mc_36 rt 16 L (.int 5 :: st) w := (iv_V_eq (I := (((25, 1), .iconst 5, 0, 0, 0) : iv_I)) rfl).trans (congrArg (fun c => iv_V call mc_36 rt 16 L (.int c :: st) w) li_o5)
theorem e36_16 : iv_V call mc_36 rt 16 L st w = iv_inv call 25 3 (fun _ => true) st w fun st' w' => iv_V call mc_36 rt 17 L (st') w' := iv_V_eq (I := (((26, 3), .invokestatic 135, 25, 3, 748) : iv_I)) rfl
theorem e36_17 : iv_V call mc_36 rt 17 L st w = iv_p1 st fun x st' => if ¬ x = 0 then iv_V call mc_36 rt 20 L (st') w else iv_V call mc_36 rt 18 L (st') w := (iv_V_eq (I := (((29, 3), .ifCond .ne 5, 20, 0, 0) : iv_I)) rfl).trans (by simp only [iv_go, iv_cnd, decide_eq_true_eq])
theorem e36_18 : iv_V call mc_36 rt 18 L st w = iv_V call mc_36 rt 19 L (.int 0 :: st) w := (iv_V_eq (I := (((32, 1), .iconst 0, 0, 0, 0) : iv_I)) rfl).trans (congrArg (fun c => iv_V call mc_36 rt 19 L (.int c :: st) w) li_o0)
theorem e36_19 : iv_V call mc_36 rt 19 L st w = iv_ret rt st w := iv_V_eq (I := (((33, 1), .ireturn, 0, 0, 0) : iv_I)) rfl
theorem e36_20 : iv_V call mc_36 rt 20 L st w = iv_lda L 0 fun x => iv_V call mc_36 rt 21 L (x :: st) w := iv_V_eq (I := (((34, 1), .aload_n 0, 0, 0, 0) : iv_I)) rfl
theorem e36_21 : iv_V call mc_36 rt 21 L st w = iv_gf w st 1 6 fun v st' => iv_V call mc_36 rt 22 L (v :: st') w := iv_V_eq (I := (((35, 3), .getfield 23, 1, 6, 605) : iv_I)) rfl
theorem e36_22 : iv_V call mc_36 rt 22 L st w = iv_V call mc_36 rt 23 L (.int 6 :: st) w := (iv_V_eq (I := (((38, 2), .bipush 6, 0, 0, 0) : iv_I)) rfl).trans (congrArg (fun c => iv_V call mc_36 rt 23 L (.int c :: st) w) li_b6)
theorem e36_23 : iv_V call mc_36 rt 23 L st w = iv_ldi L 1 fun x => iv_V call mc_36 rt 24 L (.int x :: st) w := iv_V_eq (I := (((40, 1), .iload_n 1, 0, 0, 0) : iv_I)) rfl
theorem e36_24 : iv_V call mc_36 rt 24 L st w = iv_p2 st fun x y st' => iv_V call mc_36 rt 25 L (.int (x * y) :: st') w := iv_V_eq (I := (((41, 1), .imul, 0, 0, 0) : iv_I)) rfl
theorem e36_25 : iv_V call mc_36 rt 25 L st w = iv_ldi L 2 fun x => iv_V call mc_36 rt 26 L (.int x :: st) w := iv_V_eq (I := (((42, 1), .iload_n 2, 0, 0, 0) : iv_I)) rfl
theorem e36_26 : iv_V call mc_36 rt 26 L st w = iv_p2 st fun x y st' => iv_V call mc_36 rt 27 L (.int (x + y) :: st') w := iv_V_eq (I := (((43, 1), .iadd, 0, 0, 0) : iv_I)) rfl
theorem e36_27 : iv_V call mc_36 rt 27 L st w = iv_ldi L 3 fun x => iv_V call mc_36 rt 28 L (.int x :: st) w := iv_V_eq (I := (((44, 1), .iload_n 3, 0, 0, 0) : iv_I)) rfl
theorem e36_28 : iv_V call mc_36 rt 28 L st w = iv_V call mc_36 rt 29 L (.int 1 :: st) w := (iv_V_eq (I := (((45, 1), .iconst 1, 0, 0, 0) : iv_I)) rfl).trans (congrArg (fun c => iv_V call mc_36 rt 29 L (.int c :: st) w) li_o1)
theorem e36_29 : iv_V call mc_36 rt 29 L st w = iv_p2 st fun x y st' => iv_V call mc_36 rt 30 L (.int (x + y) :: st') w := iv_V_eq (I := (((46, 1), .iadd, 0, 0, 0) : iv_I)) rfl
theorem e36_30 : iv_V call mc_36 rt 30 L st w = iv_ast w st iv_isI fun st' w' => iv_V call mc_36 rt 31 L (st') w' := iv_V_eq (I := (((47, 1), .iastore, 0, 0, 0) : iv_I)) rfl
theorem e36_31 : iv_V call mc_36 rt 31 L st w = iv_V call mc_36 rt 32 L (.int 1 :: st) w := (iv_V_eq (I := (((48, 1), .iconst 1, 0, 0, 0) : iv_I)) rfl).trans (congrArg (fun c => iv_V call mc_36 rt 32 L (.int c :: st) w) li_o1)
theorem e36_32 : iv_V call mc_36 rt 32 L st w = iv_ret rt st w := iv_V_eq (I := (((49, 1), .ireturn, 0, 0, 0) : iv_I)) rfl
theorem e37_0 : iv_V call mc_37 rt 0 L st w = iv_lda L 0 fun x => iv_V call mc_37 rt 1 L (x :: st) w := iv_V_eq (I := (((0, 1), .aload_n 0, 0, 0, 0) : iv_I)) rfl
theorem e37_1 : iv_V call mc_37 rt 1 L st w = iv_gf w st 1 24 fun v st' => iv_V call mc_37 rt 2 L (v :: st') w := iv_V_eq (I := (((1, 3), .getfield 149, 1, 24, 623) : iv_I)) rfl
theorem e37_2 : iv_V call mc_37 rt 2 L st w = iv_V call mc_37 rt 3 L (.int 10 :: st) w := (iv_V_eq (I := (((4, 2), .bipush 10, 0, 0, 0) : iv_I)) rfl).trans (congrArg (fun c => iv_V call mc_37 rt 3 L (.int c :: st) w) li_b10)
theorem e37_3 : iv_V call mc_37 rt 3 L st w = iv_p2 st fun x y st' => if x = y then iv_V call mc_37 rt 12 L (st') w else iv_V call mc_37 rt 4 L (st') w := (iv_V_eq (I := (((6, 3), .if_icmp .eq 17, 12, 0, 0) : iv_I)) rfl).trans (by simp only [iv_go, iv_cnd, decide_eq_true_eq])
theorem e37_4 : iv_V call mc_37 rt 4 L st w = iv_ldi L 1 fun x => iv_V call mc_37 rt 5 L (.int x :: st) w := iv_V_eq (I := (((9, 1), .iload_n 1, 0, 0, 0) : iv_I)) rfl
theorem e37_5 : iv_V call mc_37 rt 5 L st w = iv_V call mc_37 rt 6 L (.int 0 :: st) w := (iv_V_eq (I := (((10, 1), .iconst 0, 0, 0, 0) : iv_I)) rfl).trans (congrArg (fun c => iv_V call mc_37 rt 6 L (.int c :: st) w) li_o0)
theorem e37_6 : iv_V call mc_37 rt 6 L st w = iv_lda L 0 fun x => iv_V call mc_37 rt 7 L (x :: st) w := iv_V_eq (I := (((11, 1), .aload_n 0, 0, 0, 0) : iv_I)) rfl
theorem e37_7 : iv_V call mc_37 rt 7 L st w = iv_gf w st 1 0 fun v st' => iv_V call mc_37 rt 8 L (v :: st') w := iv_V_eq (I := (((12, 3), .getfield 131, 1, 0, 599) : iv_I)) rfl
theorem e37_8 : iv_V call mc_37 rt 8 L st w = iv_V call mc_37 rt 9 L (.int 1 :: st) w := (iv_V_eq (I := (((15, 1), .iconst 1, 0, 0, 0) : iv_I)) rfl).trans (congrArg (fun c => iv_V call mc_37 rt 9 L (.int c :: st) w) li_o1)
theorem e37_9 : iv_V call mc_37 rt 9 L st w = iv_p2 st fun x y st' => iv_V call mc_37 rt 10 L (.int (x - y) :: st') w := iv_V_eq (I := (((16, 1), .isub, 0, 0, 0) : iv_I)) rfl
theorem e37_10 : iv_V call mc_37 rt 10 L st w = iv_inv call 25 3 (fun _ => true) st w fun st' w' => iv_V call mc_37 rt 11 L (st') w' := iv_V_eq (I := (((17, 3), .invokestatic 135, 25, 3, 748) : iv_I)) rfl
theorem e37_11 : iv_V call mc_37 rt 11 L st w = iv_p1 st fun x st' => if ¬ x = 0 then iv_V call mc_37 rt 14 L (st') w else iv_V call mc_37 rt 12 L (st') w := (iv_V_eq (I := (((20, 3), .ifCond .ne 5, 14, 0, 0) : iv_I)) rfl).trans (by simp only [iv_go, iv_cnd, decide_eq_true_eq])
theorem e37_12 : iv_V call mc_37 rt 12 L st w = iv_V call mc_37 rt 13 L (.int (-1) :: st) w := (iv_V_eq (I := (((23, 1), .iconst (-1), 0, 0, 0) : iv_I)) rfl).trans (congrArg (fun c => iv_V call mc_37 rt 13 L (.int c :: st) w) li_om1)
theorem e37_13 : iv_V call mc_37 rt 13 L st w = iv_ret rt st w := iv_V_eq (I := (((24, 1), .ireturn, 0, 0, 0) : iv_I)) rfl
theorem e37_14 : iv_V call mc_37 rt 14 L st w = iv_lda L 0 fun x => iv_V call mc_37 rt 15 L (x :: st) w := iv_V_eq (I := (((25, 1), .aload_n 0, 0, 0, 0) : iv_I)) rfl
theorem e37_15 : iv_V call mc_37 rt 15 L st w = iv_gf w st 1 25 fun v st' => iv_V call mc_37 rt 16 L (v :: st') w := iv_V_eq (I := (((26, 3), .getfield 74, 1, 25, 624) : iv_I)) rfl
theorem e37_16 : iv_V call mc_37 rt 16 L st w = iv_lda L 0 fun x => iv_V call mc_37 rt 17 L (x :: st) w := iv_V_eq (I := (((29, 1), .aload_n 0, 0, 0, 0) : iv_I)) rfl
theorem e37_17 : iv_V call mc_37 rt 17 L st w = iv_gf w st 1 24 fun v st' => iv_V call mc_37 rt 18 L (v :: st') w := iv_V_eq (I := (((30, 3), .getfield 149, 1, 24, 623) : iv_I)) rfl
theorem e37_18 : iv_V call mc_37 rt 18 L st w = iv_ldi L 1 fun x => iv_V call mc_37 rt 19 L (.int x :: st) w := iv_V_eq (I := (((33, 1), .iload_n 1, 0, 0, 0) : iv_I)) rfl
theorem e37_19 : iv_V call mc_37 rt 19 L st w = iv_ast w st iv_isI fun st' w' => iv_V call mc_37 rt 20 L (st') w' := iv_V_eq (I := (((34, 1), .iastore, 0, 0, 0) : iv_I)) rfl
theorem e37_20 : iv_V call mc_37 rt 20 L st w = iv_lda L 0 fun x => iv_V call mc_37 rt 21 L (x :: st) w := iv_V_eq (I := (((35, 1), .aload_n 0, 0, 0, 0) : iv_I)) rfl
theorem e37_21 : iv_V call mc_37 rt 21 L st w = iv_d1 st fun a st' => iv_V call mc_37 rt 22 L (a :: a :: st') w := iv_V_eq (I := (((36, 1), .dup, 0, 0, 0) : iv_I)) rfl
theorem e37_22 : iv_V call mc_37 rt 22 L st w = iv_gf w st 1 24 fun v st' => iv_V call mc_37 rt 23 L (v :: st') w := iv_V_eq (I := (((37, 3), .getfield 149, 1, 24, 623) : iv_I)) rfl
theorem e37_23 : iv_V call mc_37 rt 23 L st w = iv_V call mc_37 rt 24 L (.int 1 :: st) w := (iv_V_eq (I := (((40, 1), .iconst 1, 0, 0, 0) : iv_I)) rfl).trans (congrArg (fun c => iv_V call mc_37 rt 24 L (.int c :: st) w) li_o1)
theorem e37_24 : iv_V call mc_37 rt 24 L st w = iv_p2 st fun x y st' => iv_V call mc_37 rt 25 L (.int (x + y) :: st') w := iv_V_eq (I := (((41, 1), .iadd, 0, 0, 0) : iv_I)) rfl
theorem e37_25 : iv_V call mc_37 rt 25 L st w = iv_pf w st 1 24 fun st' w' => iv_V call mc_37 rt 26 L (st') w' := iv_V_eq (I := (((42, 3), .putfield 149, 1, 24, 623) : iv_I)) rfl
theorem e37_26 : iv_V call mc_37 rt 26 L st w = iv_lda L 0 fun x => iv_V call mc_37 rt 27 L (x :: st) w := iv_V_eq (I := (((45, 1), .aload_n 0, 0, 0, 0) : iv_I)) rfl
theorem e37_27 : iv_V call mc_37 rt 27 L st w = iv_gf w st 1 24 fun v st' => iv_V call mc_37 rt 28 L (v :: st') w := iv_V_eq (I := (((46, 3), .getfield 149, 1, 24, 623) : iv_I)) rfl
theorem e37_28 : iv_V call mc_37 rt 28 L st w = iv_V call mc_37 rt 29 L (.int 1 :: st) w := (iv_V_eq (I := (((49, 1), .iconst 1, 0, 0, 0) : iv_I)) rfl).trans (congrArg (fun c => iv_V call mc_37 rt 29 L (.int c :: st) w) li_o1)
theorem e37_29 : iv_V call mc_37 rt 29 L st w = iv_p2 st fun x y st' => iv_V call mc_37 rt 30 L (.int (x - y) :: st') w := iv_V_eq (I := (((50, 1), .isub, 0, 0, 0) : iv_I)) rfl
theorem e37_30 : iv_V call mc_37 rt 30 L st w = iv_ret rt st w := iv_V_eq (I := (((51, 1), .ireturn, 0, 0, 0) : iv_I)) rfl
theorem e38_0 : iv_V call mc_38 rt 0 L st w = iv_ldi L 1 fun x => iv_V call mc_38 rt 1 L (.int x :: st) w := iv_V_eq (I := (((0, 1), .iload_n 1, 0, 0, 0) : iv_I)) rfl
theorem e38_1 : iv_V call mc_38 rt 1 L st w = iv_V call mc_38 rt 2 L (.int 0 :: st) w := (iv_V_eq (I := (((1, 1), .iconst 0, 0, 0, 0) : iv_I)) rfl).trans (congrArg (fun c => iv_V call mc_38 rt 2 L (.int c :: st) w) li_o0)
theorem e38_2 : iv_V call mc_38 rt 2 L st w = iv_lda L 0 fun x => iv_V call mc_38 rt 3 L (x :: st) w := iv_V_eq (I := (((2, 1), .aload_n 0, 0, 0, 0) : iv_I)) rfl
theorem e38_3 : iv_V call mc_38 rt 3 L st w = iv_gf w st 1 24 fun v st' => iv_V call mc_38 rt 4 L (v :: st') w := iv_V_eq (I := (((3, 3), .getfield 149, 1, 24, 623) : iv_I)) rfl
theorem e38_4 : iv_V call mc_38 rt 4 L st w = iv_V call mc_38 rt 5 L (.int 1 :: st) w := (iv_V_eq (I := (((6, 1), .iconst 1, 0, 0, 0) : iv_I)) rfl).trans (congrArg (fun c => iv_V call mc_38 rt 5 L (.int c :: st) w) li_o1)
theorem e38_5 : iv_V call mc_38 rt 5 L st w = iv_p2 st fun x y st' => iv_V call mc_38 rt 6 L (.int (x - y) :: st') w := iv_V_eq (I := (((7, 1), .isub, 0, 0, 0) : iv_I)) rfl
theorem e38_6 : iv_V call mc_38 rt 6 L st w = iv_inv call 25 3 (fun _ => true) st w fun st' w' => iv_V call mc_38 rt 7 L (st') w' := iv_V_eq (I := (((8, 3), .invokestatic 135, 25, 3, 748) : iv_I)) rfl
theorem e38_7 : iv_V call mc_38 rt 7 L st w = iv_p1 st fun x st' => if x = 0 then iv_V call mc_38 rt 16 L (st') w else iv_V call mc_38 rt 8 L (st') w := (iv_V_eq (I := (((11, 3), .ifCond .eq 17, 16, 0, 0) : iv_I)) rfl).trans (by simp only [iv_go, iv_cnd, decide_eq_true_eq])
theorem e38_8 : iv_V call mc_38 rt 8 L st w = iv_ldi L 2 fun x => iv_V call mc_38 rt 9 L (.int x :: st) w := iv_V_eq (I := (((14, 1), .iload_n 2, 0, 0, 0) : iv_I)) rfl
theorem e38_9 : iv_V call mc_38 rt 9 L st w = iv_V call mc_38 rt 10 L (.int 0 :: st) w := (iv_V_eq (I := (((15, 1), .iconst 0, 0, 0, 0) : iv_I)) rfl).trans (congrArg (fun c => iv_V call mc_38 rt 10 L (.int c :: st) w) li_o0)
theorem e38_10 : iv_V call mc_38 rt 10 L st w = iv_lda L 0 fun x => iv_V call mc_38 rt 11 L (x :: st) w := iv_V_eq (I := (((16, 1), .aload_n 0, 0, 0, 0) : iv_I)) rfl
theorem e38_11 : iv_V call mc_38 rt 11 L st w = iv_gf w st 1 2 fun v st' => iv_V call mc_38 rt 12 L (v :: st') w := iv_V_eq (I := (((17, 3), .getfield 139, 1, 2, 601) : iv_I)) rfl
theorem e38_12 : iv_V call mc_38 rt 12 L st w = iv_V call mc_38 rt 13 L (.int 1 :: st) w := (iv_V_eq (I := (((20, 1), .iconst 1, 0, 0, 0) : iv_I)) rfl).trans (congrArg (fun c => iv_V call mc_38 rt 13 L (.int c :: st) w) li_o1)
theorem e38_13 : iv_V call mc_38 rt 13 L st w = iv_p2 st fun x y st' => iv_V call mc_38 rt 14 L (.int (x - y) :: st') w := iv_V_eq (I := (((21, 1), .isub, 0, 0, 0) : iv_I)) rfl
theorem e38_14 : iv_V call mc_38 rt 14 L st w = iv_inv call 25 3 (fun _ => true) st w fun st' w' => iv_V call mc_38 rt 15 L (st') w' := iv_V_eq (I := (((22, 3), .invokestatic 135, 25, 3, 748) : iv_I)) rfl
theorem e38_15 : iv_V call mc_38 rt 15 L st w = iv_p1 st fun x st' => if ¬ x = 0 then iv_V call mc_38 rt 18 L (st') w else iv_V call mc_38 rt 16 L (st') w := (iv_V_eq (I := (((25, 3), .ifCond .ne 5, 18, 0, 0) : iv_I)) rfl).trans (by simp only [iv_go, iv_cnd, decide_eq_true_eq])
theorem e38_16 : iv_V call mc_38 rt 16 L st w = iv_V call mc_38 rt 17 L (.int 0 :: st) w := (iv_V_eq (I := (((28, 1), .iconst 0, 0, 0, 0) : iv_I)) rfl).trans (congrArg (fun c => iv_V call mc_38 rt 17 L (.int c :: st) w) li_o0)
theorem e38_17 : iv_V call mc_38 rt 17 L st w = iv_ret rt st w := iv_V_eq (I := (((29, 1), .ireturn, 0, 0, 0) : iv_I)) rfl
theorem e38_18 : iv_V call mc_38 rt 18 L st w = iv_V call mc_38 rt 19 L (.int 0 :: st) w := (iv_V_eq (I := (((30, 1), .iconst 0, 0, 0, 0) : iv_I)) rfl).trans (congrArg (fun c => iv_V call mc_38 rt 19 L (.int c :: st) w) li_o0)
theorem e38_19 : iv_V call mc_38 rt 19 L st w = iv_p1 st fun x st' => iv_sto L 3 (.int x) fun L' => iv_V call mc_38 rt 20 L' (st') w := iv_V_eq (I := (((31, 1), .istore_n 3, 0, 0, 0) : iv_I)) rfl
theorem e38_20 : iv_V call mc_38 rt 20 L st w = iv_lda L 0 fun x => iv_V call mc_38 rt 21 L (x :: st) w := iv_V_eq (I := (((32, 1), .aload_n 0, 0, 0, 0) : iv_I)) rfl
theorem e38_21 : iv_V call mc_38 rt 21 L st w = iv_gf w st 1 25 fun v st' => iv_V call mc_38 rt 22 L (v :: st') w := iv_V_eq (I := (((33, 3), .getfield 74, 1, 25, 624) : iv_I)) rfl
theorem e38_22 : iv_V call mc_38 rt 22 L st w = iv_ldi L 1 fun x => iv_V call mc_38 rt 23 L (.int x :: st) w := iv_V_eq (I := (((36, 1), .iload_n 1, 0, 0, 0) : iv_I)) rfl
theorem e38_23 : iv_V call mc_38 rt 23 L st w = iv_ald w st iv_isI fun v st' => iv_V call mc_38 rt 24 L (v :: st') w := iv_V_eq (I := (((37, 1), .iaload, 0, 0, 0) : iv_I)) rfl
theorem e38_24 : iv_V call mc_38 rt 24 L st w = iv_p1 st fun x st' => iv_sto L 4 (.int x) fun L' => iv_V call mc_38 rt 25 L' (st') w := iv_V_eq (I := (((38, 2), .istore 4, 0, 0, 0) : iv_I)) rfl
theorem e38_25 : iv_V call mc_38 rt 25 L st w = iv_ldi L 4 fun x => iv_V call mc_38 rt 26 L (.int x :: st) w := iv_V_eq (I := (((40, 2), .iload 4, 0, 0, 0) : iv_I)) rfl
theorem e38_26 : iv_V call mc_38 rt 26 L st w = iv_p1 st fun x st' => if x < 0 then iv_V call mc_38 rt 45 L (st') w else iv_V call mc_38 rt 27 L (st') w := (iv_V_eq (I := (((42, 3), .ifCond .lt 36, 45, 0, 0) : iv_I)) rfl).trans (by simp only [iv_go, iv_cnd, decide_eq_true_eq])
theorem e38_27 : iv_V call mc_38 rt 27 L st w = iv_ldi L 3 fun x => iv_V call mc_38 rt 28 L (.int x :: st) w := iv_V_eq (I := (((45, 1), .iload_n 3, 0, 0, 0) : iv_I)) rfl
theorem e38_28 : iv_V call mc_38 rt 28 L st w = iv_p1 st fun x st' => if ¬ x = 0 then iv_V call mc_38 rt 35 L (st') w else iv_V call mc_38 rt 29 L (st') w := (iv_V_eq (I := (((46, 3), .ifCond .ne 14, 35, 0, 0) : iv_I)) rfl).trans (by simp only [iv_go, iv_cnd, decide_eq_true_eq])
theorem e38_29 : iv_V call mc_38 rt 29 L st w = iv_ldi L 4 fun x => iv_V call mc_38 rt 30 L (.int x :: st) w := iv_V_eq (I := (((49, 2), .iload 4, 0, 0, 0) : iv_I)) rfl
theorem e38_30 : iv_V call mc_38 rt 30 L st w = iv_lda L 0 fun x => iv_V call mc_38 rt 31 L (x :: st) w := iv_V_eq (I := (((51, 1), .aload_n 0, 0, 0, 0) : iv_I)) rfl
theorem e38_31 : iv_V call mc_38 rt 31 L st w = iv_gf w st 1 3 fun v st' => iv_V call mc_38 rt 32 L (v :: st') w := iv_V_eq (I := (((52, 3), .getfield 13, 1, 3, 602) : iv_I)) rfl
theorem e38_32 : iv_V call mc_38 rt 32 L st w = iv_ldi L 2 fun x => iv_V call mc_38 rt 33 L (.int x :: st) w := iv_V_eq (I := (((55, 1), .iload_n 2, 0, 0, 0) : iv_I)) rfl
theorem e38_33 : iv_V call mc_38 rt 33 L st w = iv_ald w st iv_isI fun v st' => iv_V call mc_38 rt 34 L (v :: st') w := iv_V_eq (I := (((56, 1), .iaload, 0, 0, 0) : iv_I)) rfl
theorem e38_34 : iv_V call mc_38 rt 34 L st w = iv_p2 st fun x y st' => if ¬ x = y then iv_V call mc_38 rt 37 L (st') w else iv_V call mc_38 rt 35 L (st') w := (iv_V_eq (I := (((57, 3), .if_icmp .ne 7, 37, 0, 0) : iv_I)) rfl).trans (by simp only [iv_go, iv_cnd, decide_eq_true_eq])
theorem e38_35 : iv_V call mc_38 rt 35 L st w = iv_V call mc_38 rt 36 L (.int 1 :: st) w := (iv_V_eq (I := (((60, 1), .iconst 1, 0, 0, 0) : iv_I)) rfl).trans (congrArg (fun c => iv_V call mc_38 rt 36 L (.int c :: st) w) li_o1)
theorem e38_36 : iv_V call mc_38 rt 36 L st w = iv_V call mc_38 rt 38 L (st) w := iv_V_eq (I := (((61, 3), .goto 4, 38, 0, 0) : iv_I)) rfl
theorem e38_37 : iv_V call mc_38 rt 37 L st w = iv_V call mc_38 rt 38 L (.int 0 :: st) w := (iv_V_eq (I := (((64, 1), .iconst 0, 0, 0, 0) : iv_I)) rfl).trans (congrArg (fun c => iv_V call mc_38 rt 38 L (.int c :: st) w) li_o0)
theorem e38_38 : iv_V call mc_38 rt 38 L st w = iv_p1 st fun x st' => iv_sto L 3 (.int x) fun L' => iv_V call mc_38 rt 39 L' (st') w := iv_V_eq (I := (((65, 1), .istore_n 3, 0, 0, 0) : iv_I)) rfl
theorem e38_39 : iv_V call mc_38 rt 39 L st w = iv_lda L 0 fun x => iv_V call mc_38 rt 40 L (x :: st) w := iv_V_eq (I := (((66, 1), .aload_n 0, 0, 0, 0) : iv_I)) rfl
theorem e38_40 : iv_V call mc_38 rt 40 L st w = iv_gf w st 1 1 fun v st' => iv_V call mc_38 rt 41 L (v :: st') w := iv_V_eq (I := (((67, 3), .getfield 7, 1, 1, 600) : iv_I)) rfl
theorem e38_41 : iv_V call mc_38 rt 41 L st w = iv_ldi L 4 fun x => iv_V call mc_38 rt 42 L (.int x :: st) w := iv_V_eq (I := (((70, 2), .iload 4, 0, 0, 0) : iv_I)) rfl
theorem e38_42 : iv_V call mc_38 rt 42 L st w = iv_ald w st iv_isI fun v st' => iv_V call mc_38 rt 43 L (v :: st') w := iv_V_eq (I := (((72, 1), .iaload, 0, 0, 0) : iv_I)) rfl
theorem e38_43 : iv_V call mc_38 rt 43 L st w = iv_p1 st fun x st' => iv_sto L 4 (.int x) fun L' => iv_V call mc_38 rt 44 L' (st') w := iv_V_eq (I := (((73, 2), .istore 4, 0, 0, 0) : iv_I)) rfl
theorem e38_44 : iv_V call mc_38 rt 44 L st w = iv_V call mc_38 rt 25 L (st) w := iv_V_eq (I := (((75, 3), .goto (-35), 25, 0, 0) : iv_I)) rfl
theorem e38_45 : iv_V call mc_38 rt 45 L st w = iv_ldi L 3 fun x => iv_V call mc_38 rt 46 L (.int x :: st) w := iv_V_eq (I := (((78, 1), .iload_n 3, 0, 0, 0) : iv_I)) rfl
theorem e38_46 : iv_V call mc_38 rt 46 L st w = iv_ret rt st w := iv_V_eq (I := (((79, 1), .ireturn, 0, 0, 0) : iv_I)) rfl
theorem e39_0 : iv_V call mc_39 rt 0 L st w = iv_lda L 0 fun x => iv_V call mc_39 rt 1 L (x :: st) w := iv_V_eq (I := (((0, 1), .aload_n 0, 0, 0, 0) : iv_I)) rfl
theorem e39_1 : iv_V call mc_39 rt 1 L st w = iv_ldi L 1 fun x => iv_V call mc_39 rt 2 L (.int x :: st) w := iv_V_eq (I := (((1, 1), .iload_n 1, 0, 0, 0) : iv_I)) rfl
theorem e39_2 : iv_V call mc_39 rt 2 L st w = iv_ldi L 2 fun x => iv_V call mc_39 rt 3 L (.int x :: st) w := iv_V_eq (I := (((2, 1), .iload_n 2, 0, 0, 0) : iv_I)) rfl
theorem e39_3 : iv_V call mc_39 rt 3 L st w = iv_inv call 38 3 (fun as => iv_rc w as (iv_mc 38)) st w fun st' w' => iv_V call mc_39 rt 4 L (st') w' := iv_V_eq (I := (((3, 3), .invokevirtual 152, 38, 3, 799) : iv_I)) rfl
theorem e39_4 : iv_V call mc_39 rt 4 L st w = iv_p1 st fun x st' => if x = 0 then iv_V call mc_39 rt 25 L (st') w else iv_V call mc_39 rt 5 L (st') w := (iv_V_eq (I := (((6, 3), .ifCond .eq 37, 25, 0, 0) : iv_I)) rfl).trans (by simp only [iv_go, iv_cnd, decide_eq_true_eq])
theorem e39_5 : iv_V call mc_39 rt 5 L st w = iv_lda L 0 fun x => iv_V call mc_39 rt 6 L (x :: st) w := iv_V_eq (I := (((9, 1), .aload_n 0, 0, 0, 0) : iv_I)) rfl
theorem e39_6 : iv_V call mc_39 rt 6 L st w = iv_gf w st 1 4 fun v st' => iv_V call mc_39 rt 7 L (v :: st') w := iv_V_eq (I := (((10, 3), .getfield 16, 1, 4, 603) : iv_I)) rfl
theorem e39_7 : iv_V call mc_39 rt 7 L st w = iv_ldi L 2 fun x => iv_V call mc_39 rt 8 L (.int x :: st) w := iv_V_eq (I := (((13, 1), .iload_n 2, 0, 0, 0) : iv_I)) rfl
theorem e39_8 : iv_V call mc_39 rt 8 L st w = iv_ald w st iv_isI fun v st' => iv_V call mc_39 rt 9 L (v :: st') w := iv_V_eq (I := (((14, 1), .iaload, 0, 0, 0) : iv_I)) rfl
theorem e39_9 : iv_V call mc_39 rt 9 L st w = iv_V call mc_39 rt 10 L (.int 1 :: st) w := (iv_V_eq (I := (((15, 1), .iconst 1, 0, 0, 0) : iv_I)) rfl).trans (congrArg (fun c => iv_V call mc_39 rt 10 L (.int c :: st) w) li_o1)
theorem e39_10 : iv_V call mc_39 rt 10 L st w = iv_p2 st fun x y st' => if y < x then iv_V call mc_39 rt 25 L (st') w else iv_V call mc_39 rt 11 L (st') w := (iv_V_eq (I := (((16, 3), .if_icmp .gt 27, 25, 0, 0) : iv_I)) rfl).trans (by simp only [iv_go, iv_cnd, decide_eq_true_eq])
theorem e39_11 : iv_V call mc_39 rt 11 L st w = iv_lda L 0 fun x => iv_V call mc_39 rt 12 L (x :: st) w := iv_V_eq (I := (((19, 1), .aload_n 0, 0, 0, 0) : iv_I)) rfl
theorem e39_12 : iv_V call mc_39 rt 12 L st w = iv_gf w st 1 4 fun v st' => iv_V call mc_39 rt 13 L (v :: st') w := iv_V_eq (I := (((20, 3), .getfield 16, 1, 4, 603) : iv_I)) rfl
theorem e39_13 : iv_V call mc_39 rt 13 L st w = iv_ldi L 2 fun x => iv_V call mc_39 rt 14 L (.int x :: st) w := iv_V_eq (I := (((23, 1), .iload_n 2, 0, 0, 0) : iv_I)) rfl
theorem e39_14 : iv_V call mc_39 rt 14 L st w = iv_ald w st iv_isI fun v st' => iv_V call mc_39 rt 15 L (v :: st') w := iv_V_eq (I := (((24, 1), .iaload, 0, 0, 0) : iv_I)) rfl
theorem e39_15 : iv_V call mc_39 rt 15 L st w = iv_V call mc_39 rt 16 L (.int 1 :: st) w := (iv_V_eq (I := (((25, 1), .iconst 1, 0, 0, 0) : iv_I)) rfl).trans (congrArg (fun c => iv_V call mc_39 rt 16 L (.int c :: st) w) li_o1)
theorem e39_16 : iv_V call mc_39 rt 16 L st w = iv_p2 st fun x y st' => if ¬ x = y then iv_V call mc_39 rt 27 L (st') w else iv_V call mc_39 rt 17 L (st') w := (iv_V_eq (I := (((26, 3), .if_icmp .ne 19, 27, 0, 0) : iv_I)) rfl).trans (by simp only [iv_go, iv_cnd, decide_eq_true_eq])
theorem e39_17 : iv_V call mc_39 rt 17 L st w = iv_ldi L 3 fun x => iv_V call mc_39 rt 18 L (.int x :: st) w := iv_V_eq (I := (((29, 1), .iload_n 3, 0, 0, 0) : iv_I)) rfl
theorem e39_18 : iv_V call mc_39 rt 18 L st w = iv_V call mc_39 rt 19 L (.int (-1) :: st) w := (iv_V_eq (I := (((30, 1), .iconst (-1), 0, 0, 0) : iv_I)) rfl).trans (congrArg (fun c => iv_V call mc_39 rt 19 L (.int c :: st) w) li_om1)
theorem e39_19 : iv_V call mc_39 rt 19 L st w = iv_lda L 0 fun x => iv_V call mc_39 rt 20 L (x :: st) w := iv_V_eq (I := (((31, 1), .aload_n 0, 0, 0, 0) : iv_I)) rfl
theorem e39_20 : iv_V call mc_39 rt 20 L st w = iv_gf w st 1 24 fun v st' => iv_V call mc_39 rt 21 L (v :: st') w := iv_V_eq (I := (((32, 3), .getfield 149, 1, 24, 623) : iv_I)) rfl
theorem e39_21 : iv_V call mc_39 rt 21 L st w = iv_V call mc_39 rt 22 L (.int 1 :: st) w := (iv_V_eq (I := (((35, 1), .iconst 1, 0, 0, 0) : iv_I)) rfl).trans (congrArg (fun c => iv_V call mc_39 rt 22 L (.int c :: st) w) li_o1)
theorem e39_22 : iv_V call mc_39 rt 22 L st w = iv_p2 st fun x y st' => iv_V call mc_39 rt 23 L (.int (x - y) :: st') w := iv_V_eq (I := (((36, 1), .isub, 0, 0, 0) : iv_I)) rfl
theorem e39_23 : iv_V call mc_39 rt 23 L st w = iv_inv call 25 3 (fun _ => true) st w fun st' w' => iv_V call mc_39 rt 24 L (st') w' := iv_V_eq (I := (((37, 3), .invokestatic 135, 25, 3, 748) : iv_I)) rfl
theorem e39_24 : iv_V call mc_39 rt 24 L st w = iv_p1 st fun x st' => if ¬ x = 0 then iv_V call mc_39 rt 27 L (st') w else iv_V call mc_39 rt 25 L (st') w := (iv_V_eq (I := (((40, 3), .ifCond .ne 5, 27, 0, 0) : iv_I)) rfl).trans (by simp only [iv_go, iv_cnd, decide_eq_true_eq])
theorem e39_25 : iv_V call mc_39 rt 25 L st w = iv_V call mc_39 rt 26 L (.int 0 :: st) w := (iv_V_eq (I := (((43, 1), .iconst 0, 0, 0, 0) : iv_I)) rfl).trans (congrArg (fun c => iv_V call mc_39 rt 26 L (.int c :: st) w) li_o0)
theorem e39_26 : iv_V call mc_39 rt 26 L st w = iv_ret rt st w := iv_V_eq (I := (((44, 1), .ireturn, 0, 0, 0) : iv_I)) rfl
theorem e39_27 : iv_V call mc_39 rt 27 L st w = iv_lda L 0 fun x => iv_V call mc_39 rt 28 L (x :: st) w := iv_V_eq (I := (((45, 1), .aload_n 0, 0, 0, 0) : iv_I)) rfl
theorem e39_28 : iv_V call mc_39 rt 28 L st w = iv_gf w st 1 26 fun v st' => iv_V call mc_39 rt 29 L (v :: st') w := iv_V_eq (I := (((46, 3), .getfield 77, 1, 26, 625) : iv_I)) rfl
theorem e39_29 : iv_V call mc_39 rt 29 L st w = iv_V call mc_39 rt 30 L (.int 14 :: st) w := (iv_V_eq (I := (((49, 2), .bipush 14, 0, 0, 0) : iv_I)) rfl).trans (congrArg (fun c => iv_V call mc_39 rt 30 L (.int c :: st) w) li_b14)
theorem e39_30 : iv_V call mc_39 rt 30 L st w = iv_ldi L 1 fun x => iv_V call mc_39 rt 31 L (.int x :: st) w := iv_V_eq (I := (((51, 1), .iload_n 1, 0, 0, 0) : iv_I)) rfl
theorem e39_31 : iv_V call mc_39 rt 31 L st w = iv_p2 st fun x y st' => iv_V call mc_39 rt 32 L (.int (x * y) :: st') w := iv_V_eq (I := (((52, 1), .imul, 0, 0, 0) : iv_I)) rfl
theorem e39_32 : iv_V call mc_39 rt 32 L st w = iv_ldi L 2 fun x => iv_V call mc_39 rt 33 L (.int x :: st) w := iv_V_eq (I := (((53, 1), .iload_n 2, 0, 0, 0) : iv_I)) rfl
theorem e39_33 : iv_V call mc_39 rt 33 L st w = iv_p2 st fun x y st' => iv_V call mc_39 rt 34 L (.int (x + y) :: st') w := iv_V_eq (I := (((54, 1), .iadd, 0, 0, 0) : iv_I)) rfl
theorem e39_34 : iv_V call mc_39 rt 34 L st w = iv_lda L 0 fun x => iv_V call mc_39 rt 35 L (x :: st) w := iv_V_eq (I := (((55, 1), .aload_n 0, 0, 0, 0) : iv_I)) rfl
theorem e39_35 : iv_V call mc_39 rt 35 L st w = iv_gf w st 1 4 fun v st' => iv_V call mc_39 rt 36 L (v :: st') w := iv_V_eq (I := (((56, 3), .getfield 16, 1, 4, 603) : iv_I)) rfl
theorem e39_36 : iv_V call mc_39 rt 36 L st w = iv_ldi L 2 fun x => iv_V call mc_39 rt 37 L (.int x :: st) w := iv_V_eq (I := (((59, 1), .iload_n 2, 0, 0, 0) : iv_I)) rfl
theorem e39_37 : iv_V call mc_39 rt 37 L st w = iv_ald w st iv_isI fun v st' => iv_V call mc_39 rt 38 L (v :: st') w := iv_V_eq (I := (((60, 1), .iaload, 0, 0, 0) : iv_I)) rfl
theorem e39_38 : iv_V call mc_39 rt 38 L st w = iv_V call mc_39 rt 39 L (.int 1 :: st) w := (iv_V_eq (I := (((61, 1), .iconst 1, 0, 0, 0) : iv_I)) rfl).trans (congrArg (fun c => iv_V call mc_39 rt 39 L (.int c :: st) w) li_o1)
theorem e39_39 : iv_V call mc_39 rt 39 L st w = iv_p2 st fun x y st' => if ¬ x = y then iv_V call mc_39 rt 44 L (st') w else iv_V call mc_39 rt 40 L (st') w := (iv_V_eq (I := (((62, 3), .if_icmp .ne 9, 44, 0, 0) : iv_I)) rfl).trans (by simp only [iv_go, iv_cnd, decide_eq_true_eq])
theorem e39_40 : iv_V call mc_39 rt 40 L st w = iv_ldi L 3 fun x => iv_V call mc_39 rt 41 L (.int x :: st) w := iv_V_eq (I := (((65, 1), .iload_n 3, 0, 0, 0) : iv_I)) rfl
theorem e39_41 : iv_V call mc_39 rt 41 L st w = iv_V call mc_39 rt 42 L (.int 1 :: st) w := (iv_V_eq (I := (((66, 1), .iconst 1, 0, 0, 0) : iv_I)) rfl).trans (congrArg (fun c => iv_V call mc_39 rt 42 L (.int c :: st) w) li_o1)
theorem e39_42 : iv_V call mc_39 rt 42 L st w = iv_p2 st fun x y st' => iv_V call mc_39 rt 43 L (.int (x + y) :: st') w := iv_V_eq (I := (((67, 1), .iadd, 0, 0, 0) : iv_I)) rfl
theorem e39_43 : iv_V call mc_39 rt 43 L st w = iv_V call mc_39 rt 45 L (st) w := iv_V_eq (I := (((68, 3), .goto 4, 45, 0, 0) : iv_I)) rfl
theorem e39_44 : iv_V call mc_39 rt 44 L st w = iv_ldi L 3 fun x => iv_V call mc_39 rt 45 L (.int x :: st) w := iv_V_eq (I := (((71, 1), .iload_n 3, 0, 0, 0) : iv_I)) rfl
theorem e39_45 : iv_V call mc_39 rt 45 L st w = iv_ast w st iv_isI fun st' w' => iv_V call mc_39 rt 46 L (st') w' := iv_V_eq (I := (((72, 1), .iastore, 0, 0, 0) : iv_I)) rfl
theorem e39_46 : iv_V call mc_39 rt 46 L st w = iv_V call mc_39 rt 47 L (.int 1 :: st) w := (iv_V_eq (I := (((73, 1), .iconst 1, 0, 0, 0) : iv_I)) rfl).trans (congrArg (fun c => iv_V call mc_39 rt 47 L (.int c :: st) w) li_o1)
theorem e39_47 : iv_V call mc_39 rt 47 L st w = iv_ret rt st w := iv_V_eq (I := (((74, 1), .ireturn, 0, 0, 0) : iv_I)) rfl
theorem e40_0 : iv_V call mc_40 rt 0 L st w = iv_lda L 0 fun x => iv_V call mc_40 rt 1 L (x :: st) w := iv_V_eq (I := (((0, 1), .aload_n 0, 0, 0, 0) : iv_I)) rfl
theorem e40_1 : iv_V call mc_40 rt 1 L st w = iv_ldi L 1 fun x => iv_V call mc_40 rt 2 L (.int x :: st) w := iv_V_eq (I := (((1, 1), .iload_n 1, 0, 0, 0) : iv_I)) rfl
theorem e40_2 : iv_V call mc_40 rt 2 L st w = iv_ldi L 2 fun x => iv_V call mc_40 rt 3 L (.int x :: st) w := iv_V_eq (I := (((2, 1), .iload_n 2, 0, 0, 0) : iv_I)) rfl
theorem e40_3 : iv_V call mc_40 rt 3 L st w = iv_inv call 38 3 (fun as => iv_rc w as (iv_mc 38)) st w fun st' w' => iv_V call mc_40 rt 4 L (st') w' := iv_V_eq (I := (((3, 3), .invokevirtual 152, 38, 3, 799) : iv_I)) rfl
theorem e40_4 : iv_V call mc_40 rt 4 L st w = iv_p1 st fun x st' => if x = 0 then iv_V call mc_40 rt 25 L (st') w else iv_V call mc_40 rt 5 L (st') w := (iv_V_eq (I := (((6, 3), .ifCond .eq 37, 25, 0, 0) : iv_I)) rfl).trans (by simp only [iv_go, iv_cnd, decide_eq_true_eq])
theorem e40_5 : iv_V call mc_40 rt 5 L st w = iv_lda L 0 fun x => iv_V call mc_40 rt 6 L (x :: st) w := iv_V_eq (I := (((9, 1), .aload_n 0, 0, 0, 0) : iv_I)) rfl
theorem e40_6 : iv_V call mc_40 rt 6 L st w = iv_gf w st 1 4 fun v st' => iv_V call mc_40 rt 7 L (v :: st') w := iv_V_eq (I := (((10, 3), .getfield 16, 1, 4, 603) : iv_I)) rfl
theorem e40_7 : iv_V call mc_40 rt 7 L st w = iv_ldi L 2 fun x => iv_V call mc_40 rt 8 L (.int x :: st) w := iv_V_eq (I := (((13, 1), .iload_n 2, 0, 0, 0) : iv_I)) rfl
theorem e40_8 : iv_V call mc_40 rt 8 L st w = iv_ald w st iv_isI fun v st' => iv_V call mc_40 rt 9 L (v :: st') w := iv_V_eq (I := (((14, 1), .iaload, 0, 0, 0) : iv_I)) rfl
theorem e40_9 : iv_V call mc_40 rt 9 L st w = iv_V call mc_40 rt 10 L (.int 2 :: st) w := (iv_V_eq (I := (((15, 1), .iconst 2, 0, 0, 0) : iv_I)) rfl).trans (congrArg (fun c => iv_V call mc_40 rt 10 L (.int c :: st) w) li_o2)
theorem e40_10 : iv_V call mc_40 rt 10 L st w = iv_p2 st fun x y st' => if x < y then iv_V call mc_40 rt 25 L (st') w else iv_V call mc_40 rt 11 L (st') w := (iv_V_eq (I := (((16, 3), .if_icmp .lt 27, 25, 0, 0) : iv_I)) rfl).trans (by simp only [iv_go, iv_cnd, decide_eq_true_eq])
theorem e40_11 : iv_V call mc_40 rt 11 L st w = iv_lda L 0 fun x => iv_V call mc_40 rt 12 L (x :: st) w := iv_V_eq (I := (((19, 1), .aload_n 0, 0, 0, 0) : iv_I)) rfl
theorem e40_12 : iv_V call mc_40 rt 12 L st w = iv_gf w st 1 4 fun v st' => iv_V call mc_40 rt 13 L (v :: st') w := iv_V_eq (I := (((20, 3), .getfield 16, 1, 4, 603) : iv_I)) rfl
theorem e40_13 : iv_V call mc_40 rt 13 L st w = iv_ldi L 2 fun x => iv_V call mc_40 rt 14 L (.int x :: st) w := iv_V_eq (I := (((23, 1), .iload_n 2, 0, 0, 0) : iv_I)) rfl
theorem e40_14 : iv_V call mc_40 rt 14 L st w = iv_ald w st iv_isI fun v st' => iv_V call mc_40 rt 15 L (v :: st') w := iv_V_eq (I := (((24, 1), .iaload, 0, 0, 0) : iv_I)) rfl
theorem e40_15 : iv_V call mc_40 rt 15 L st w = iv_V call mc_40 rt 16 L (.int 3 :: st) w := (iv_V_eq (I := (((25, 1), .iconst 3, 0, 0, 0) : iv_I)) rfl).trans (congrArg (fun c => iv_V call mc_40 rt 16 L (.int c :: st) w) li_o3)
theorem e40_16 : iv_V call mc_40 rt 16 L st w = iv_p2 st fun x y st' => if ¬ x = y then iv_V call mc_40 rt 27 L (st') w else iv_V call mc_40 rt 17 L (st') w := (iv_V_eq (I := (((26, 3), .if_icmp .ne 19, 27, 0, 0) : iv_I)) rfl).trans (by simp only [iv_go, iv_cnd, decide_eq_true_eq])
theorem e40_17 : iv_V call mc_40 rt 17 L st w = iv_ldi L 3 fun x => iv_V call mc_40 rt 18 L (.int x :: st) w := iv_V_eq (I := (((29, 1), .iload_n 3, 0, 0, 0) : iv_I)) rfl
theorem e40_18 : iv_V call mc_40 rt 18 L st w = iv_V call mc_40 rt 19 L (.int 0 :: st) w := (iv_V_eq (I := (((30, 1), .iconst 0, 0, 0, 0) : iv_I)) rfl).trans (congrArg (fun c => iv_V call mc_40 rt 19 L (.int c :: st) w) li_o0)
theorem e40_19 : iv_V call mc_40 rt 19 L st w = iv_lda L 0 fun x => iv_V call mc_40 rt 20 L (x :: st) w := iv_V_eq (I := (((31, 1), .aload_n 0, 0, 0, 0) : iv_I)) rfl
theorem e40_20 : iv_V call mc_40 rt 20 L st w = iv_gf w st 1 24 fun v st' => iv_V call mc_40 rt 21 L (v :: st') w := iv_V_eq (I := (((32, 3), .getfield 149, 1, 24, 623) : iv_I)) rfl
theorem e40_21 : iv_V call mc_40 rt 21 L st w = iv_V call mc_40 rt 22 L (.int 1 :: st) w := (iv_V_eq (I := (((35, 1), .iconst 1, 0, 0, 0) : iv_I)) rfl).trans (congrArg (fun c => iv_V call mc_40 rt 22 L (.int c :: st) w) li_o1)
theorem e40_22 : iv_V call mc_40 rt 22 L st w = iv_p2 st fun x y st' => iv_V call mc_40 rt 23 L (.int (x - y) :: st') w := iv_V_eq (I := (((36, 1), .isub, 0, 0, 0) : iv_I)) rfl
theorem e40_23 : iv_V call mc_40 rt 23 L st w = iv_inv call 25 3 (fun _ => true) st w fun st' w' => iv_V call mc_40 rt 24 L (st') w' := iv_V_eq (I := (((37, 3), .invokestatic 135, 25, 3, 748) : iv_I)) rfl
theorem e40_24 : iv_V call mc_40 rt 24 L st w = iv_p1 st fun x st' => if ¬ x = 0 then iv_V call mc_40 rt 27 L (st') w else iv_V call mc_40 rt 25 L (st') w := (iv_V_eq (I := (((40, 3), .ifCond .ne 5, 27, 0, 0) : iv_I)) rfl).trans (by simp only [iv_go, iv_cnd, decide_eq_true_eq])
theorem e40_25 : iv_V call mc_40 rt 25 L st w = iv_V call mc_40 rt 26 L (.int 0 :: st) w := (iv_V_eq (I := (((43, 1), .iconst 0, 0, 0, 0) : iv_I)) rfl).trans (congrArg (fun c => iv_V call mc_40 rt 26 L (.int c :: st) w) li_o0)
theorem e40_26 : iv_V call mc_40 rt 26 L st w = iv_ret rt st w := iv_V_eq (I := (((44, 1), .ireturn, 0, 0, 0) : iv_I)) rfl
theorem e40_27 : iv_V call mc_40 rt 27 L st w = iv_V call mc_40 rt 28 L (.int 14 :: st) w := (iv_V_eq (I := (((45, 2), .bipush 14, 0, 0, 0) : iv_I)) rfl).trans (congrArg (fun c => iv_V call mc_40 rt 28 L (.int c :: st) w) li_b14)
theorem e40_28 : iv_V call mc_40 rt 28 L st w = iv_ldi L 1 fun x => iv_V call mc_40 rt 29 L (.int x :: st) w := iv_V_eq (I := (((47, 1), .iload_n 1, 0, 0, 0) : iv_I)) rfl
theorem e40_29 : iv_V call mc_40 rt 29 L st w = iv_p2 st fun x y st' => iv_V call mc_40 rt 30 L (.int (x * y) :: st') w := iv_V_eq (I := (((48, 1), .imul, 0, 0, 0) : iv_I)) rfl
theorem e40_30 : iv_V call mc_40 rt 30 L st w = iv_ldi L 2 fun x => iv_V call mc_40 rt 31 L (.int x :: st) w := iv_V_eq (I := (((49, 1), .iload_n 2, 0, 0, 0) : iv_I)) rfl
theorem e40_31 : iv_V call mc_40 rt 31 L st w = iv_p2 st fun x y st' => iv_V call mc_40 rt 32 L (.int (x + y) :: st') w := iv_V_eq (I := (((50, 1), .iadd, 0, 0, 0) : iv_I)) rfl
theorem e40_32 : iv_V call mc_40 rt 32 L st w = iv_p1 st fun x st' => iv_sto L 4 (.int x) fun L' => iv_V call mc_40 rt 33 L' (st') w := iv_V_eq (I := (((51, 2), .istore 4, 0, 0, 0) : iv_I)) rfl
theorem e40_33 : iv_V call mc_40 rt 33 L st w = iv_lda L 0 fun x => iv_V call mc_40 rt 34 L (x :: st) w := iv_V_eq (I := (((53, 1), .aload_n 0, 0, 0, 0) : iv_I)) rfl
theorem e40_34 : iv_V call mc_40 rt 34 L st w = iv_gf w st 1 26 fun v st' => iv_V call mc_40 rt 35 L (v :: st') w := iv_V_eq (I := (((54, 3), .getfield 77, 1, 26, 625) : iv_I)) rfl
theorem e40_35 : iv_V call mc_40 rt 35 L st w = iv_ldi L 4 fun x => iv_V call mc_40 rt 36 L (.int x :: st) w := iv_V_eq (I := (((57, 2), .iload 4, 0, 0, 0) : iv_I)) rfl
theorem e40_36 : iv_V call mc_40 rt 36 L st w = iv_ald w st iv_isI fun v st' => iv_V call mc_40 rt 37 L (v :: st') w := iv_V_eq (I := (((59, 1), .iaload, 0, 0, 0) : iv_I)) rfl
theorem e40_37 : iv_V call mc_40 rt 37 L st w = iv_p1 st fun x st' => if ¬ x = 0 then iv_V call mc_40 rt 40 L (st') w else iv_V call mc_40 rt 38 L (st') w := (iv_V_eq (I := (((60, 3), .ifCond .ne 7, 40, 0, 0) : iv_I)) rfl).trans (by simp only [iv_go, iv_cnd, decide_eq_true_eq])
theorem e40_38 : iv_V call mc_40 rt 38 L st w = iv_V call mc_40 rt 39 L (.int 0 :: st) w := (iv_V_eq (I := (((63, 1), .iconst 0, 0, 0, 0) : iv_I)) rfl).trans (congrArg (fun c => iv_V call mc_40 rt 39 L (.int c :: st) w) li_o0)
theorem e40_39 : iv_V call mc_40 rt 39 L st w = iv_V call mc_40 rt 46 L (st) w := iv_V_eq (I := (((64, 3), .goto 12, 46, 0, 0) : iv_I)) rfl
theorem e40_40 : iv_V call mc_40 rt 40 L st w = iv_lda L 0 fun x => iv_V call mc_40 rt 41 L (x :: st) w := iv_V_eq (I := (((67, 1), .aload_n 0, 0, 0, 0) : iv_I)) rfl
theorem e40_41 : iv_V call mc_40 rt 41 L st w = iv_gf w st 1 26 fun v st' => iv_V call mc_40 rt 42 L (v :: st') w := iv_V_eq (I := (((68, 3), .getfield 77, 1, 26, 625) : iv_I)) rfl
theorem e40_42 : iv_V call mc_40 rt 42 L st w = iv_ldi L 4 fun x => iv_V call mc_40 rt 43 L (.int x :: st) w := iv_V_eq (I := (((71, 2), .iload 4, 0, 0, 0) : iv_I)) rfl
theorem e40_43 : iv_V call mc_40 rt 43 L st w = iv_ald w st iv_isI fun v st' => iv_V call mc_40 rt 44 L (v :: st') w := iv_V_eq (I := (((73, 1), .iaload, 0, 0, 0) : iv_I)) rfl
theorem e40_44 : iv_V call mc_40 rt 44 L st w = iv_V call mc_40 rt 45 L (.int 1 :: st) w := (iv_V_eq (I := (((74, 1), .iconst 1, 0, 0, 0) : iv_I)) rfl).trans (congrArg (fun c => iv_V call mc_40 rt 45 L (.int c :: st) w) li_o1)
theorem e40_45 : iv_V call mc_40 rt 45 L st w = iv_p2 st fun x y st' => iv_V call mc_40 rt 46 L (.int (x - y) :: st') w := iv_V_eq (I := (((75, 1), .isub, 0, 0, 0) : iv_I)) rfl
theorem e40_46 : iv_V call mc_40 rt 46 L st w = iv_p1 st fun x st' => iv_sto L 5 (.int x) fun L' => iv_V call mc_40 rt 47 L' (st') w := iv_V_eq (I := (((76, 2), .istore 5, 0, 0, 0) : iv_I)) rfl
theorem e40_47 : iv_V call mc_40 rt 47 L st w = iv_ldi L 5 fun x => iv_V call mc_40 rt 48 L (.int x :: st) w := iv_V_eq (I := (((78, 2), .iload 5, 0, 0, 0) : iv_I)) rfl
theorem e40_48 : iv_V call mc_40 rt 48 L st w = iv_V call mc_40 rt 49 L (.int 3 :: st) w := (iv_V_eq (I := (((80, 1), .iconst 3, 0, 0, 0) : iv_I)) rfl).trans (congrArg (fun c => iv_V call mc_40 rt 49 L (.int c :: st) w) li_o3)
theorem e40_49 : iv_V call mc_40 rt 49 L st w = iv_p2 st fun x y st' => if ¬ x = y then iv_V call mc_40 rt 52 L (st') w else iv_V call mc_40 rt 50 L (st') w := (iv_V_eq (I := (((81, 3), .if_icmp .ne 5, 52, 0, 0) : iv_I)) rfl).trans (by simp only [iv_go, iv_cnd, decide_eq_true_eq])
theorem e40_50 : iv_V call mc_40 rt 50 L st w = iv_V call mc_40 rt 51 L (.int 0 :: st) w := (iv_V_eq (I := (((84, 1), .iconst 0, 0, 0, 0) : iv_I)) rfl).trans (congrArg (fun c => iv_V call mc_40 rt 51 L (.int c :: st) w) li_o0)
theorem e40_51 : iv_V call mc_40 rt 51 L st w = iv_ret rt st w := iv_V_eq (I := (((85, 1), .ireturn, 0, 0, 0) : iv_I)) rfl
theorem e40_52 : iv_V call mc_40 rt 52 L st w = iv_lda L 0 fun x => iv_V call mc_40 rt 53 L (x :: st) w := iv_V_eq (I := (((86, 1), .aload_n 0, 0, 0, 0) : iv_I)) rfl
theorem e40_53 : iv_V call mc_40 rt 53 L st w = iv_gf w st 1 27 fun v st' => iv_V call mc_40 rt 54 L (v :: st') w := iv_V_eq (I := (((87, 3), .getfield 80, 1, 27, 626) : iv_I)) rfl
theorem e40_54 : iv_V call mc_40 rt 54 L st w = iv_V call mc_40 rt 55 L (.int 3 :: st) w := (iv_V_eq (I := (((90, 1), .iconst 3, 0, 0, 0) : iv_I)) rfl).trans (congrArg (fun c => iv_V call mc_40 rt 55 L (.int c :: st) w) li_o3)
theorem e40_55 : iv_V call mc_40 rt 55 L st w = iv_ldi L 4 fun x => iv_V call mc_40 rt 56 L (.int x :: st) w := iv_V_eq (I := (((91, 2), .iload 4, 0, 0, 0) : iv_I)) rfl
theorem e40_56 : iv_V call mc_40 rt 56 L st w = iv_p2 st fun x y st' => iv_V call mc_40 rt 57 L (.int (x * y) :: st') w := iv_V_eq (I := (((93, 1), .imul, 0, 0, 0) : iv_I)) rfl
theorem e40_57 : iv_V call mc_40 rt 57 L st w = iv_ldi L 5 fun x => iv_V call mc_40 rt 58 L (.int x :: st) w := iv_V_eq (I := (((94, 2), .iload 5, 0, 0, 0) : iv_I)) rfl
theorem e40_58 : iv_V call mc_40 rt 58 L st w = iv_p2 st fun x y st' => iv_V call mc_40 rt 59 L (.int (x + y) :: st') w := iv_V_eq (I := (((96, 1), .iadd, 0, 0, 0) : iv_I)) rfl
theorem e40_59 : iv_V call mc_40 rt 59 L st w = iv_ldi L 3 fun x => iv_V call mc_40 rt 60 L (.int x :: st) w := iv_V_eq (I := (((97, 1), .iload_n 3, 0, 0, 0) : iv_I)) rfl
theorem e40_60 : iv_V call mc_40 rt 60 L st w = iv_ast w st iv_isI fun st' w' => iv_V call mc_40 rt 61 L (st') w' := iv_V_eq (I := (((98, 1), .iastore, 0, 0, 0) : iv_I)) rfl
theorem e40_61 : iv_V call mc_40 rt 61 L st w = iv_lda L 0 fun x => iv_V call mc_40 rt 62 L (x :: st) w := iv_V_eq (I := (((99, 1), .aload_n 0, 0, 0, 0) : iv_I)) rfl
theorem e40_62 : iv_V call mc_40 rt 62 L st w = iv_gf w st 1 26 fun v st' => iv_V call mc_40 rt 63 L (v :: st') w := iv_V_eq (I := (((100, 3), .getfield 77, 1, 26, 625) : iv_I)) rfl
theorem e40_63 : iv_V call mc_40 rt 63 L st w = iv_ldi L 4 fun x => iv_V call mc_40 rt 64 L (.int x :: st) w := iv_V_eq (I := (((103, 2), .iload 4, 0, 0, 0) : iv_I)) rfl
theorem e40_64 : iv_V call mc_40 rt 64 L st w = iv_ldi L 5 fun x => iv_V call mc_40 rt 65 L (.int x :: st) w := iv_V_eq (I := (((105, 2), .iload 5, 0, 0, 0) : iv_I)) rfl
theorem e40_65 : iv_V call mc_40 rt 65 L st w = iv_V call mc_40 rt 66 L (.int 2 :: st) w := (iv_V_eq (I := (((107, 1), .iconst 2, 0, 0, 0) : iv_I)) rfl).trans (congrArg (fun c => iv_V call mc_40 rt 66 L (.int c :: st) w) li_o2)
theorem e40_66 : iv_V call mc_40 rt 66 L st w = iv_p2 st fun x y st' => iv_V call mc_40 rt 67 L (.int (x + y) :: st') w := iv_V_eq (I := (((108, 1), .iadd, 0, 0, 0) : iv_I)) rfl
theorem e40_67 : iv_V call mc_40 rt 67 L st w = iv_ast w st iv_isI fun st' w' => iv_V call mc_40 rt 68 L (st') w' := iv_V_eq (I := (((109, 1), .iastore, 0, 0, 0) : iv_I)) rfl
theorem e40_68 : iv_V call mc_40 rt 68 L st w = iv_V call mc_40 rt 69 L (.int 1 :: st) w := (iv_V_eq (I := (((110, 1), .iconst 1, 0, 0, 0) : iv_I)) rfl).trans (congrArg (fun c => iv_V call mc_40 rt 69 L (.int c :: st) w) li_o1)
theorem e40_69 : iv_V call mc_40 rt 69 L st w = iv_ret rt st w := iv_V_eq (I := (((111, 1), .ireturn, 0, 0, 0) : iv_I)) rfl
theorem e41_0 : iv_V call mc_41 rt 0 L st w = iv_lda L 0 fun x => iv_V call mc_41 rt 1 L (x :: st) w := iv_V_eq (I := (((0, 1), .aload_n 0, 0, 0, 0) : iv_I)) rfl
theorem e41_1 : iv_V call mc_41 rt 1 L st w = iv_ldi L 1 fun x => iv_V call mc_41 rt 2 L (.int x :: st) w := iv_V_eq (I := (((1, 1), .iload_n 1, 0, 0, 0) : iv_I)) rfl
theorem e41_2 : iv_V call mc_41 rt 2 L st w = iv_ldi L 2 fun x => iv_V call mc_41 rt 3 L (.int x :: st) w := iv_V_eq (I := (((2, 1), .iload_n 2, 0, 0, 0) : iv_I)) rfl
theorem e41_3 : iv_V call mc_41 rt 3 L st w = iv_inv call 38 3 (fun as => iv_rc w as (iv_mc 38)) st w fun st' w' => iv_V call mc_41 rt 4 L (st') w' := iv_V_eq (I := (((3, 3), .invokevirtual 152, 38, 3, 799) : iv_I)) rfl
theorem e41_4 : iv_V call mc_41 rt 4 L st w = iv_p1 st fun x st' => if x = 0 then iv_V call mc_41 rt 11 L (st') w else iv_V call mc_41 rt 5 L (st') w := (iv_V_eq (I := (((6, 3), .ifCond .eq 13, 11, 0, 0) : iv_I)) rfl).trans (by simp only [iv_go, iv_cnd, decide_eq_true_eq])
theorem e41_5 : iv_V call mc_41 rt 5 L st w = iv_lda L 0 fun x => iv_V call mc_41 rt 6 L (x :: st) w := iv_V_eq (I := (((9, 1), .aload_n 0, 0, 0, 0) : iv_I)) rfl
theorem e41_6 : iv_V call mc_41 rt 6 L st w = iv_gf w st 1 4 fun v st' => iv_V call mc_41 rt 7 L (v :: st') w := iv_V_eq (I := (((10, 3), .getfield 16, 1, 4, 603) : iv_I)) rfl
theorem e41_7 : iv_V call mc_41 rt 7 L st w = iv_ldi L 2 fun x => iv_V call mc_41 rt 8 L (.int x :: st) w := iv_V_eq (I := (((13, 1), .iload_n 2, 0, 0, 0) : iv_I)) rfl
theorem e41_8 : iv_V call mc_41 rt 8 L st w = iv_ald w st iv_isI fun v st' => iv_V call mc_41 rt 9 L (v :: st') w := iv_V_eq (I := (((14, 1), .iaload, 0, 0, 0) : iv_I)) rfl
theorem e41_9 : iv_V call mc_41 rt 9 L st w = iv_V call mc_41 rt 10 L (.int 2 :: st) w := (iv_V_eq (I := (((15, 1), .iconst 2, 0, 0, 0) : iv_I)) rfl).trans (congrArg (fun c => iv_V call mc_41 rt 10 L (.int c :: st) w) li_o2)
theorem e41_10 : iv_V call mc_41 rt 10 L st w = iv_p2 st fun x y st' => if y ≤ x then iv_V call mc_41 rt 13 L (st') w else iv_V call mc_41 rt 11 L (st') w := (iv_V_eq (I := (((16, 3), .if_icmp .ge 5, 13, 0, 0) : iv_I)) rfl).trans (by simp only [iv_go, iv_cnd, decide_eq_true_eq])
theorem e41_11 : iv_V call mc_41 rt 11 L st w = iv_V call mc_41 rt 12 L (.int 0 :: st) w := (iv_V_eq (I := (((19, 1), .iconst 0, 0, 0, 0) : iv_I)) rfl).trans (congrArg (fun c => iv_V call mc_41 rt 12 L (.int c :: st) w) li_o0)
theorem e41_12 : iv_V call mc_41 rt 12 L st w = iv_ret rt st w := iv_V_eq (I := (((20, 1), .ireturn, 0, 0, 0) : iv_I)) rfl
theorem e41_13 : iv_V call mc_41 rt 13 L st w = iv_lda L 0 fun x => iv_V call mc_41 rt 14 L (x :: st) w := iv_V_eq (I := (((21, 1), .aload_n 0, 0, 0, 0) : iv_I)) rfl
theorem e41_14 : iv_V call mc_41 rt 14 L st w = iv_gf w st 1 26 fun v st' => iv_V call mc_41 rt 15 L (v :: st') w := iv_V_eq (I := (((22, 3), .getfield 77, 1, 26, 625) : iv_I)) rfl
theorem e41_15 : iv_V call mc_41 rt 15 L st w = iv_V call mc_41 rt 16 L (.int 14 :: st) w := (iv_V_eq (I := (((25, 2), .bipush 14, 0, 0, 0) : iv_I)) rfl).trans (congrArg (fun c => iv_V call mc_41 rt 16 L (.int c :: st) w) li_b14)
theorem e41_16 : iv_V call mc_41 rt 16 L st w = iv_ldi L 1 fun x => iv_V call mc_41 rt 17 L (.int x :: st) w := iv_V_eq (I := (((27, 1), .iload_n 1, 0, 0, 0) : iv_I)) rfl
theorem e41_17 : iv_V call mc_41 rt 17 L st w = iv_p2 st fun x y st' => iv_V call mc_41 rt 18 L (.int (x * y) :: st') w := iv_V_eq (I := (((28, 1), .imul, 0, 0, 0) : iv_I)) rfl
theorem e41_18 : iv_V call mc_41 rt 18 L st w = iv_ldi L 2 fun x => iv_V call mc_41 rt 19 L (.int x :: st) w := iv_V_eq (I := (((29, 1), .iload_n 2, 0, 0, 0) : iv_I)) rfl
theorem e41_19 : iv_V call mc_41 rt 19 L st w = iv_p2 st fun x y st' => iv_V call mc_41 rt 20 L (.int (x + y) :: st') w := iv_V_eq (I := (((30, 1), .iadd, 0, 0, 0) : iv_I)) rfl
theorem e41_20 : iv_V call mc_41 rt 20 L st w = iv_ldi L 3 fun x => iv_V call mc_41 rt 21 L (.int x :: st) w := iv_V_eq (I := (((31, 1), .iload_n 3, 0, 0, 0) : iv_I)) rfl
theorem e41_21 : iv_V call mc_41 rt 21 L st w = iv_p1 st fun x st' => if x = 0 then iv_V call mc_41 rt 24 L (st') w else iv_V call mc_41 rt 22 L (st') w := (iv_V_eq (I := (((32, 3), .ifCond .eq 7, 24, 0, 0) : iv_I)) rfl).trans (by simp only [iv_go, iv_cnd, decide_eq_true_eq])
theorem e41_22 : iv_V call mc_41 rt 22 L st w = iv_V call mc_41 rt 23 L (.int 0 :: st) w := (iv_V_eq (I := (((35, 1), .iconst 0, 0, 0, 0) : iv_I)) rfl).trans (congrArg (fun c => iv_V call mc_41 rt 23 L (.int c :: st) w) li_o0)
theorem e41_23 : iv_V call mc_41 rt 23 L st w = iv_V call mc_41 rt 25 L (st) w := iv_V_eq (I := (((36, 3), .goto 4, 25, 0, 0) : iv_I)) rfl
theorem e41_24 : iv_V call mc_41 rt 24 L st w = iv_V call mc_41 rt 25 L (.int 1 :: st) w := (iv_V_eq (I := (((39, 1), .iconst 1, 0, 0, 0) : iv_I)) rfl).trans (congrArg (fun c => iv_V call mc_41 rt 25 L (.int c :: st) w) li_o1)
theorem e41_25 : iv_V call mc_41 rt 25 L st w = iv_ast w st iv_isI fun st' w' => iv_V call mc_41 rt 26 L (st') w' := iv_V_eq (I := (((40, 1), .iastore, 0, 0, 0) : iv_I)) rfl
theorem e41_26 : iv_V call mc_41 rt 26 L st w = iv_V call mc_41 rt 27 L (.int 1 :: st) w := (iv_V_eq (I := (((41, 1), .iconst 1, 0, 0, 0) : iv_I)) rfl).trans (congrArg (fun c => iv_V call mc_41 rt 27 L (.int c :: st) w) li_o1)
theorem e41_27 : iv_V call mc_41 rt 27 L st w = iv_ret rt st w := iv_V_eq (I := (((42, 1), .ireturn, 0, 0, 0) : iv_I)) rfl
theorem e42_0 : iv_V call mc_42 rt 0 L st w = iv_ldi L 0 fun x => iv_V call mc_42 rt 1 L (.int x :: st) w := iv_V_eq (I := (((0, 1), .iload_n 0, 0, 0, 0) : iv_I)) rfl
theorem e42_1 : iv_V call mc_42 rt 1 L st w = iv_p1 st fun x st' => if ¬ x = 0 then iv_V call mc_42 rt 17 L (st') w else iv_V call mc_42 rt 2 L (st') w := (iv_V_eq (I := (((1, 3), .ifCond .ne 30, 17, 0, 0) : iv_I)) rfl).trans (by simp only [iv_go, iv_cnd, decide_eq_true_eq])
theorem e42_2 : iv_V call mc_42 rt 2 L st w = iv_ldi L 2 fun x => iv_V call mc_42 rt 3 L (.int x :: st) w := iv_V_eq (I := (((4, 1), .iload_n 2, 0, 0, 0) : iv_I)) rfl
theorem e42_3 : iv_V call mc_42 rt 3 L st w = iv_p1 st fun x st' => if x = 0 then iv_V call mc_42 rt 11 L (st') w else iv_V call mc_42 rt 4 L (st') w := (iv_V_eq (I := (((5, 3), .ifCond .eq 16, 11, 0, 0) : iv_I)) rfl).trans (by simp only [iv_go, iv_cnd, decide_eq_true_eq])
theorem e42_4 : iv_V call mc_42 rt 4 L st w = iv_ldi L 1 fun x => iv_V call mc_42 rt 5 L (.int x :: st) w := iv_V_eq (I := (((8, 1), .iload_n 1, 0, 0, 0) : iv_I)) rfl
theorem e42_5 : iv_V call mc_42 rt 5 L st w = iv_V call mc_42 rt 6 L (.int 3 :: st) w := (iv_V_eq (I := (((9, 1), .iconst 3, 0, 0, 0) : iv_I)) rfl).trans (congrArg (fun c => iv_V call mc_42 rt 6 L (.int c :: st) w) li_o3)
theorem e42_6 : iv_V call mc_42 rt 6 L st w = iv_p2 st fun x y st' => if ¬ x = y then iv_V call mc_42 rt 9 L (st') w else iv_V call mc_42 rt 7 L (st') w := (iv_V_eq (I := (((10, 3), .if_icmp .ne 7, 9, 0, 0) : iv_I)) rfl).trans (by simp only [iv_go, iv_cnd, decide_eq_true_eq])
theorem e42_7 : iv_V call mc_42 rt 7 L st w = iv_V call mc_42 rt 8 L (.int 1 :: st) w := (iv_V_eq (I := (((13, 1), .iconst 1, 0, 0, 0) : iv_I)) rfl).trans (congrArg (fun c => iv_V call mc_42 rt 8 L (.int c :: st) w) li_o1)
theorem e42_8 : iv_V call mc_42 rt 8 L st w = iv_V call mc_42 rt 16 L (st) w := iv_V_eq (I := (((14, 3), .goto 16, 16, 0, 0) : iv_I)) rfl
theorem e42_9 : iv_V call mc_42 rt 9 L st w = iv_V call mc_42 rt 10 L (.int 0 :: st) w := (iv_V_eq (I := (((17, 1), .iconst 0, 0, 0, 0) : iv_I)) rfl).trans (congrArg (fun c => iv_V call mc_42 rt 10 L (.int c :: st) w) li_o0)
theorem e42_10 : iv_V call mc_42 rt 10 L st w = iv_V call mc_42 rt 16 L (st) w := iv_V_eq (I := (((18, 3), .goto 12, 16, 0, 0) : iv_I)) rfl
theorem e42_11 : iv_V call mc_42 rt 11 L st w = iv_ldi L 1 fun x => iv_V call mc_42 rt 12 L (.int x :: st) w := iv_V_eq (I := (((21, 1), .iload_n 1, 0, 0, 0) : iv_I)) rfl
theorem e42_12 : iv_V call mc_42 rt 12 L st w = iv_p1 st fun x st' => if x = 0 then iv_V call mc_42 rt 15 L (st') w else iv_V call mc_42 rt 13 L (st') w := (iv_V_eq (I := (((22, 3), .ifCond .eq 7, 15, 0, 0) : iv_I)) rfl).trans (by simp only [iv_go, iv_cnd, decide_eq_true_eq])
theorem e42_13 : iv_V call mc_42 rt 13 L st w = iv_V call mc_42 rt 14 L (.int 1 :: st) w := (iv_V_eq (I := (((25, 1), .iconst 1, 0, 0, 0) : iv_I)) rfl).trans (congrArg (fun c => iv_V call mc_42 rt 14 L (.int c :: st) w) li_o1)
theorem e42_14 : iv_V call mc_42 rt 14 L st w = iv_V call mc_42 rt 16 L (st) w := iv_V_eq (I := (((26, 3), .goto 4, 16, 0, 0) : iv_I)) rfl
theorem e42_15 : iv_V call mc_42 rt 15 L st w = iv_V call mc_42 rt 16 L (.int 0 :: st) w := (iv_V_eq (I := (((29, 1), .iconst 0, 0, 0, 0) : iv_I)) rfl).trans (congrArg (fun c => iv_V call mc_42 rt 16 L (.int c :: st) w) li_o0)
theorem e42_16 : iv_V call mc_42 rt 16 L st w = iv_ret rt st w := iv_V_eq (I := (((30, 1), .ireturn, 0, 0, 0) : iv_I)) rfl
theorem e42_17 : iv_V call mc_42 rt 17 L st w = iv_ldi L 0 fun x => iv_V call mc_42 rt 18 L (.int x :: st) w := iv_V_eq (I := (((31, 1), .iload_n 0, 0, 0, 0) : iv_I)) rfl
theorem e42_18 : iv_V call mc_42 rt 18 L st w = iv_V call mc_42 rt 19 L (.int 3 :: st) w := (iv_V_eq (I := (((32, 1), .iconst 3, 0, 0, 0) : iv_I)) rfl).trans (congrArg (fun c => iv_V call mc_42 rt 19 L (.int c :: st) w) li_o3)
theorem e42_19 : iv_V call mc_42 rt 19 L st w = iv_p2 st fun x y st' => if ¬ x = y then iv_V call mc_42 rt 29 L (st') w else iv_V call mc_42 rt 20 L (st') w := (iv_V_eq (I := (((33, 3), .if_icmp .ne 18, 29, 0, 0) : iv_I)) rfl).trans (by simp only [iv_go, iv_cnd, decide_eq_true_eq])
theorem e42_20 : iv_V call mc_42 rt 20 L st w = iv_ldi L 2 fun x => iv_V call mc_42 rt 21 L (.int x :: st) w := iv_V_eq (I := (((36, 1), .iload_n 2, 0, 0, 0) : iv_I)) rfl
theorem e42_21 : iv_V call mc_42 rt 21 L st w = iv_p1 st fun x st' => if ¬ x = 0 then iv_V call mc_42 rt 27 L (st') w else iv_V call mc_42 rt 22 L (st') w := (iv_V_eq (I := (((37, 3), .ifCond .ne 12, 27, 0, 0) : iv_I)) rfl).trans (by simp only [iv_go, iv_cnd, decide_eq_true_eq])
theorem e42_22 : iv_V call mc_42 rt 22 L st w = iv_ldi L 1 fun x => iv_V call mc_42 rt 23 L (.int x :: st) w := iv_V_eq (I := (((40, 1), .iload_n 1, 0, 0, 0) : iv_I)) rfl
theorem e42_23 : iv_V call mc_42 rt 23 L st w = iv_V call mc_42 rt 24 L (.int 2 :: st) w := (iv_V_eq (I := (((41, 1), .iconst 2, 0, 0, 0) : iv_I)) rfl).trans (congrArg (fun c => iv_V call mc_42 rt 24 L (.int c :: st) w) li_o2)
theorem e42_24 : iv_V call mc_42 rt 24 L st w = iv_p2 st fun x y st' => if x < y then iv_V call mc_42 rt 27 L (st') w else iv_V call mc_42 rt 25 L (st') w := (iv_V_eq (I := (((42, 3), .if_icmp .lt 7, 27, 0, 0) : iv_I)) rfl).trans (by simp only [iv_go, iv_cnd, decide_eq_true_eq])
theorem e42_25 : iv_V call mc_42 rt 25 L st w = iv_V call mc_42 rt 26 L (.int 1 :: st) w := (iv_V_eq (I := (((45, 1), .iconst 1, 0, 0, 0) : iv_I)) rfl).trans (congrArg (fun c => iv_V call mc_42 rt 26 L (.int c :: st) w) li_o1)
theorem e42_26 : iv_V call mc_42 rt 26 L st w = iv_V call mc_42 rt 28 L (st) w := iv_V_eq (I := (((46, 3), .goto 4, 28, 0, 0) : iv_I)) rfl
theorem e42_27 : iv_V call mc_42 rt 27 L st w = iv_V call mc_42 rt 28 L (.int 0 :: st) w := (iv_V_eq (I := (((49, 1), .iconst 0, 0, 0, 0) : iv_I)) rfl).trans (congrArg (fun c => iv_V call mc_42 rt 28 L (.int c :: st) w) li_o0)
theorem e42_28 : iv_V call mc_42 rt 28 L st w = iv_ret rt st w := iv_V_eq (I := (((50, 1), .ireturn, 0, 0, 0) : iv_I)) rfl
theorem e42_29 : iv_V call mc_42 rt 29 L st w = iv_ldi L 2 fun x => iv_V call mc_42 rt 30 L (.int x :: st) w := iv_V_eq (I := (((51, 1), .iload_n 2, 0, 0, 0) : iv_I)) rfl
theorem e42_30 : iv_V call mc_42 rt 30 L st w = iv_p1 st fun x st' => if x = 0 then iv_V call mc_42 rt 38 L (st') w else iv_V call mc_42 rt 31 L (st') w := (iv_V_eq (I := (((52, 3), .ifCond .eq 16, 38, 0, 0) : iv_I)) rfl).trans (by simp only [iv_go, iv_cnd, decide_eq_true_eq])
theorem e42_31 : iv_V call mc_42 rt 31 L st w = iv_ldi L 1 fun x => iv_V call mc_42 rt 32 L (.int x :: st) w := iv_V_eq (I := (((55, 1), .iload_n 1, 0, 0, 0) : iv_I)) rfl
theorem e42_32 : iv_V call mc_42 rt 32 L st w = iv_V call mc_42 rt 33 L (.int 2 :: st) w := (iv_V_eq (I := (((56, 1), .iconst 2, 0, 0, 0) : iv_I)) rfl).trans (congrArg (fun c => iv_V call mc_42 rt 33 L (.int c :: st) w) li_o2)
theorem e42_33 : iv_V call mc_42 rt 33 L st w = iv_p2 st fun x y st' => if ¬ x = y then iv_V call mc_42 rt 36 L (st') w else iv_V call mc_42 rt 34 L (st') w := (iv_V_eq (I := (((57, 3), .if_icmp .ne 7, 36, 0, 0) : iv_I)) rfl).trans (by simp only [iv_go, iv_cnd, decide_eq_true_eq])
theorem e42_34 : iv_V call mc_42 rt 34 L st w = iv_V call mc_42 rt 35 L (.int 1 :: st) w := (iv_V_eq (I := (((60, 1), .iconst 1, 0, 0, 0) : iv_I)) rfl).trans (congrArg (fun c => iv_V call mc_42 rt 35 L (.int c :: st) w) li_o1)
theorem e42_35 : iv_V call mc_42 rt 35 L st w = iv_V call mc_42 rt 43 L (st) w := iv_V_eq (I := (((61, 3), .goto 16, 43, 0, 0) : iv_I)) rfl
theorem e42_36 : iv_V call mc_42 rt 36 L st w = iv_V call mc_42 rt 37 L (.int 0 :: st) w := (iv_V_eq (I := (((64, 1), .iconst 0, 0, 0, 0) : iv_I)) rfl).trans (congrArg (fun c => iv_V call mc_42 rt 37 L (.int c :: st) w) li_o0)
theorem e42_37 : iv_V call mc_42 rt 37 L st w = iv_V call mc_42 rt 43 L (st) w := iv_V_eq (I := (((65, 3), .goto 12, 43, 0, 0) : iv_I)) rfl
theorem e42_38 : iv_V call mc_42 rt 38 L st w = iv_ldi L 1 fun x => iv_V call mc_42 rt 39 L (.int x :: st) w := iv_V_eq (I := (((68, 1), .iload_n 1, 0, 0, 0) : iv_I)) rfl
theorem e42_39 : iv_V call mc_42 rt 39 L st w = iv_p1 st fun x st' => if ¬ x = 0 then iv_V call mc_42 rt 42 L (st') w else iv_V call mc_42 rt 40 L (st') w := (iv_V_eq (I := (((69, 3), .ifCond .ne 7, 42, 0, 0) : iv_I)) rfl).trans (by simp only [iv_go, iv_cnd, decide_eq_true_eq])
theorem e42_40 : iv_V call mc_42 rt 40 L st w = iv_V call mc_42 rt 41 L (.int 1 :: st) w := (iv_V_eq (I := (((72, 1), .iconst 1, 0, 0, 0) : iv_I)) rfl).trans (congrArg (fun c => iv_V call mc_42 rt 41 L (.int c :: st) w) li_o1)
theorem e42_41 : iv_V call mc_42 rt 41 L st w = iv_V call mc_42 rt 43 L (st) w := iv_V_eq (I := (((73, 3), .goto 4, 43, 0, 0) : iv_I)) rfl
theorem e42_42 : iv_V call mc_42 rt 42 L st w = iv_V call mc_42 rt 43 L (.int 0 :: st) w := (iv_V_eq (I := (((76, 1), .iconst 0, 0, 0, 0) : iv_I)) rfl).trans (congrArg (fun c => iv_V call mc_42 rt 43 L (.int c :: st) w) li_o0)
theorem e42_43 : iv_V call mc_42 rt 43 L st w = iv_ret rt st w := iv_V_eq (I := (((77, 1), .ireturn, 0, 0, 0) : iv_I)) rfl
theorem e43_0 : iv_V call mc_43 rt 0 L st w = iv_lda L 0 fun x => iv_V call mc_43 rt 1 L (x :: st) w := iv_V_eq (I := (((0, 1), .aload_n 0, 0, 0, 0) : iv_I)) rfl
theorem e43_1 : iv_V call mc_43 rt 1 L st w = iv_gf w st 1 4 fun v st' => iv_V call mc_43 rt 2 L (v :: st') w := iv_V_eq (I := (((1, 3), .getfield 16, 1, 4, 603) : iv_I)) rfl
theorem e43_2 : iv_V call mc_43 rt 2 L st w = iv_lda L 0 fun x => iv_V call mc_43 rt 3 L (x :: st) w := iv_V_eq (I := (((4, 1), .aload_n 0, 0, 0, 0) : iv_I)) rfl
theorem e43_3 : iv_V call mc_43 rt 3 L st w = iv_gf w st 1 8 fun v st' => iv_V call mc_43 rt 4 L (v :: st') w := iv_V_eq (I := (((5, 3), .getfield 26, 1, 8, 607) : iv_I)) rfl
theorem e43_4 : iv_V call mc_43 rt 4 L st w = iv_ldi L 1 fun x => iv_V call mc_43 rt 5 L (.int x :: st) w := iv_V_eq (I := (((8, 1), .iload_n 1, 0, 0, 0) : iv_I)) rfl
theorem e43_5 : iv_V call mc_43 rt 5 L st w = iv_ald w st iv_isI fun v st' => iv_V call mc_43 rt 6 L (v :: st') w := iv_V_eq (I := (((9, 1), .iaload, 0, 0, 0) : iv_I)) rfl
theorem e43_6 : iv_V call mc_43 rt 6 L st w = iv_ald w st iv_isI fun v st' => iv_V call mc_43 rt 7 L (v :: st') w := iv_V_eq (I := (((10, 1), .iaload, 0, 0, 0) : iv_I)) rfl
theorem e43_7 : iv_V call mc_43 rt 7 L st w = iv_p1 st fun x st' => iv_sto L 2 (.int x) fun L' => iv_V call mc_43 rt 8 L' (st') w := iv_V_eq (I := (((11, 1), .istore_n 2, 0, 0, 0) : iv_I)) rfl
theorem e43_8 : iv_V call mc_43 rt 8 L st w = iv_lda L 0 fun x => iv_V call mc_43 rt 9 L (x :: st) w := iv_V_eq (I := (((12, 1), .aload_n 0, 0, 0, 0) : iv_I)) rfl
theorem e43_9 : iv_V call mc_43 rt 9 L st w = iv_gf w st 1 10 fun v st' => iv_V call mc_43 rt 10 L (v :: st') w := iv_V_eq (I := (((13, 3), .getfield 32, 1, 10, 609) : iv_I)) rfl
theorem e43_10 : iv_V call mc_43 rt 10 L st w = iv_ldi L 1 fun x => iv_V call mc_43 rt 11 L (.int x :: st) w := iv_V_eq (I := (((16, 1), .iload_n 1, 0, 0, 0) : iv_I)) rfl
theorem e43_11 : iv_V call mc_43 rt 11 L st w = iv_ald w st iv_isI fun v st' => iv_V call mc_43 rt 12 L (v :: st') w := iv_V_eq (I := (((17, 1), .iaload, 0, 0, 0) : iv_I)) rfl
theorem e43_12 : iv_V call mc_43 rt 12 L st w = iv_V call mc_43 rt 13 L (.int 4 :: st) w := (iv_V_eq (I := (((18, 1), .iconst 4, 0, 0, 0) : iv_I)) rfl).trans (congrArg (fun c => iv_V call mc_43 rt 13 L (.int c :: st) w) li_o4)
theorem e43_13 : iv_V call mc_43 rt 13 L st w = iv_p2 st fun x y st' => if x = y then iv_V call mc_43 rt 25 L (st') w else iv_V call mc_43 rt 14 L (st') w := (iv_V_eq (I := (((19, 3), .if_icmp .eq 20, 25, 0, 0) : iv_I)) rfl).trans (by simp only [iv_go, iv_cnd, decide_eq_true_eq])
theorem e43_14 : iv_V call mc_43 rt 14 L st w = iv_lda L 0 fun x => iv_V call mc_43 rt 15 L (x :: st) w := iv_V_eq (I := (((22, 1), .aload_n 0, 0, 0, 0) : iv_I)) rfl
theorem e43_15 : iv_V call mc_43 rt 15 L st w = iv_gf w st 1 10 fun v st' => iv_V call mc_43 rt 16 L (v :: st') w := iv_V_eq (I := (((23, 3), .getfield 32, 1, 10, 609) : iv_I)) rfl
theorem e43_16 : iv_V call mc_43 rt 16 L st w = iv_ldi L 1 fun x => iv_V call mc_43 rt 17 L (.int x :: st) w := iv_V_eq (I := (((26, 1), .iload_n 1, 0, 0, 0) : iv_I)) rfl
theorem e43_17 : iv_V call mc_43 rt 17 L st w = iv_ald w st iv_isI fun v st' => iv_V call mc_43 rt 18 L (v :: st') w := iv_V_eq (I := (((27, 1), .iaload, 0, 0, 0) : iv_I)) rfl
theorem e43_18 : iv_V call mc_43 rt 18 L st w = iv_ldi L 2 fun x => iv_V call mc_43 rt 19 L (.int x :: st) w := iv_V_eq (I := (((28, 1), .iload_n 2, 0, 0, 0) : iv_I)) rfl
theorem e43_19 : iv_V call mc_43 rt 19 L st w = iv_lda L 0 fun x => iv_V call mc_43 rt 20 L (x :: st) w := iv_V_eq (I := (((29, 1), .aload_n 0, 0, 0, 0) : iv_I)) rfl
theorem e43_20 : iv_V call mc_43 rt 20 L st w = iv_gf w st 1 9 fun v st' => iv_V call mc_43 rt 21 L (v :: st') w := iv_V_eq (I := (((30, 3), .getfield 29, 1, 9, 608) : iv_I)) rfl
theorem e43_21 : iv_V call mc_43 rt 21 L st w = iv_ldi L 1 fun x => iv_V call mc_43 rt 22 L (.int x :: st) w := iv_V_eq (I := (((33, 1), .iload_n 1, 0, 0, 0) : iv_I)) rfl
theorem e43_22 : iv_V call mc_43 rt 22 L st w = iv_ald w st iv_isZ fun v st' => iv_V call mc_43 rt 23 L (v :: st') w := iv_V_eq (I := (((34, 1), .baload, 0, 0, 0) : iv_I)) rfl
theorem e43_23 : iv_V call mc_43 rt 23 L st w = iv_inv call 42 3 (fun _ => true) st w fun st' w' => iv_V call mc_43 rt 24 L (st') w' := iv_V_eq (I := (((35, 3), .invokestatic 156, 42, 3, 856) : iv_I)) rfl
theorem e43_24 : iv_V call mc_43 rt 24 L st w = iv_ret rt st w := iv_V_eq (I := (((38, 1), .ireturn, 0, 0, 0) : iv_I)) rfl
theorem e43_25 : iv_V call mc_43 rt 25 L st w = iv_V call mc_43 rt 26 L (.int 1 :: st) w := (iv_V_eq (I := (((39, 1), .iconst 1, 0, 0, 0) : iv_I)) rfl).trans (congrArg (fun c => iv_V call mc_43 rt 26 L (.int c :: st) w) li_o1)
theorem e43_26 : iv_V call mc_43 rt 26 L st w = iv_p1 st fun x st' => iv_sto L 3 (.int x) fun L' => iv_V call mc_43 rt 27 L' (st') w := iv_V_eq (I := (((40, 1), .istore_n 3, 0, 0, 0) : iv_I)) rfl
theorem e43_27 : iv_V call mc_43 rt 27 L st w = iv_V call mc_43 rt 28 L (.int 0 :: st) w := (iv_V_eq (I := (((41, 1), .iconst 0, 0, 0, 0) : iv_I)) rfl).trans (congrArg (fun c => iv_V call mc_43 rt 28 L (.int c :: st) w) li_o0)
theorem e43_28 : iv_V call mc_43 rt 28 L st w = iv_p1 st fun x st' => iv_sto L 4 (.int x) fun L' => iv_V call mc_43 rt 29 L' (st') w := iv_V_eq (I := (((42, 2), .istore 4, 0, 0, 0) : iv_I)) rfl
theorem e43_29 : iv_V call mc_43 rt 29 L st w = iv_ldi L 4 fun x => iv_V call mc_43 rt 30 L (.int x :: st) w := iv_V_eq (I := (((44, 2), .iload 4, 0, 0, 0) : iv_I)) rfl
theorem e43_30 : iv_V call mc_43 rt 30 L st w = iv_lda L 0 fun x => iv_V call mc_43 rt 31 L (x :: st) w := iv_V_eq (I := (((46, 1), .aload_n 0, 0, 0, 0) : iv_I)) rfl
theorem e43_31 : iv_V call mc_43 rt 31 L st w = iv_gf w st 1 14 fun v st' => iv_V call mc_43 rt 32 L (v :: st') w := iv_V_eq (I := (((47, 3), .getfield 44, 1, 14, 613) : iv_I)) rfl
theorem e43_32 : iv_V call mc_43 rt 32 L st w = iv_lda L 0 fun x => iv_V call mc_43 rt 33 L (x :: st) w := iv_V_eq (I := (((50, 1), .aload_n 0, 0, 0, 0) : iv_I)) rfl
theorem e43_33 : iv_V call mc_43 rt 33 L st w = iv_gf w st 1 11 fun v st' => iv_V call mc_43 rt 34 L (v :: st') w := iv_V_eq (I := (((51, 3), .getfield 35, 1, 11, 610) : iv_I)) rfl
theorem e43_34 : iv_V call mc_43 rt 34 L st w = iv_ldi L 1 fun x => iv_V call mc_43 rt 35 L (.int x :: st) w := iv_V_eq (I := (((54, 1), .iload_n 1, 0, 0, 0) : iv_I)) rfl
theorem e43_35 : iv_V call mc_43 rt 35 L st w = iv_ald w st iv_isI fun v st' => iv_V call mc_43 rt 36 L (v :: st') w := iv_V_eq (I := (((55, 1), .iaload, 0, 0, 0) : iv_I)) rfl
theorem e43_36 : iv_V call mc_43 rt 36 L st w = iv_ald w st iv_isI fun v st' => iv_V call mc_43 rt 37 L (v :: st') w := iv_V_eq (I := (((56, 1), .iaload, 0, 0, 0) : iv_I)) rfl
theorem e43_37 : iv_V call mc_43 rt 37 L st w = iv_p2 st fun x y st' => if y ≤ x then iv_V call mc_43 rt 64 L (st') w else iv_V call mc_43 rt 38 L (st') w := (iv_V_eq (I := (((57, 3), .if_icmp .ge 48, 64, 0, 0) : iv_I)) rfl).trans (by simp only [iv_go, iv_cnd, decide_eq_true_eq])
theorem e43_38 : iv_V call mc_43 rt 38 L st w = iv_ldi L 3 fun x => iv_V call mc_43 rt 39 L (.int x :: st) w := iv_V_eq (I := (((60, 1), .iload_n 3, 0, 0, 0) : iv_I)) rfl
theorem e43_39 : iv_V call mc_43 rt 39 L st w = iv_p1 st fun x st' => if x = 0 then iv_V call mc_43 rt 60 L (st') w else iv_V call mc_43 rt 40 L (st') w := (iv_V_eq (I := (((61, 3), .ifCond .eq 36, 60, 0, 0) : iv_I)) rfl).trans (by simp only [iv_go, iv_cnd, decide_eq_true_eq])
theorem e43_40 : iv_V call mc_43 rt 40 L st w = iv_lda L 0 fun x => iv_V call mc_43 rt 41 L (x :: st) w := iv_V_eq (I := (((64, 1), .aload_n 0, 0, 0, 0) : iv_I)) rfl
theorem e43_41 : iv_V call mc_43 rt 41 L st w = iv_gf w st 1 15 fun v st' => iv_V call mc_43 rt 42 L (v :: st') w := iv_V_eq (I := (((65, 3), .getfield 47, 1, 15, 614) : iv_I)) rfl
theorem e43_42 : iv_V call mc_43 rt 42 L st w = iv_V call mc_43 rt 43 L (.int 3 :: st) w := (iv_V_eq (I := (((68, 1), .iconst 3, 0, 0, 0) : iv_I)) rfl).trans (congrArg (fun c => iv_V call mc_43 rt 43 L (.int c :: st) w) li_o3)
theorem e43_43 : iv_V call mc_43 rt 43 L st w = iv_lda L 0 fun x => iv_V call mc_43 rt 44 L (x :: st) w := iv_V_eq (I := (((69, 1), .aload_n 0, 0, 0, 0) : iv_I)) rfl
theorem e43_44 : iv_V call mc_43 rt 44 L st w = iv_gf w st 1 11 fun v st' => iv_V call mc_43 rt 45 L (v :: st') w := iv_V_eq (I := (((70, 3), .getfield 35, 1, 11, 610) : iv_I)) rfl
theorem e43_45 : iv_V call mc_43 rt 45 L st w = iv_ldi L 1 fun x => iv_V call mc_43 rt 46 L (.int x :: st) w := iv_V_eq (I := (((73, 1), .iload_n 1, 0, 0, 0) : iv_I)) rfl
theorem e43_46 : iv_V call mc_43 rt 46 L st w = iv_ald w st iv_isI fun v st' => iv_V call mc_43 rt 47 L (v :: st') w := iv_V_eq (I := (((74, 1), .iaload, 0, 0, 0) : iv_I)) rfl
theorem e43_47 : iv_V call mc_43 rt 47 L st w = iv_p2 st fun x y st' => iv_V call mc_43 rt 48 L (.int (x * y) :: st') w := iv_V_eq (I := (((75, 1), .imul, 0, 0, 0) : iv_I)) rfl
theorem e43_48 : iv_V call mc_43 rt 48 L st w = iv_ldi L 4 fun x => iv_V call mc_43 rt 49 L (.int x :: st) w := iv_V_eq (I := (((76, 2), .iload 4, 0, 0, 0) : iv_I)) rfl
theorem e43_49 : iv_V call mc_43 rt 49 L st w = iv_p2 st fun x y st' => iv_V call mc_43 rt 50 L (.int (x + y) :: st') w := iv_V_eq (I := (((78, 1), .iadd, 0, 0, 0) : iv_I)) rfl
theorem e43_50 : iv_V call mc_43 rt 50 L st w = iv_ald w st iv_isI fun v st' => iv_V call mc_43 rt 51 L (v :: st') w := iv_V_eq (I := (((79, 1), .iaload, 0, 0, 0) : iv_I)) rfl
theorem e43_51 : iv_V call mc_43 rt 51 L st w = iv_ldi L 2 fun x => iv_V call mc_43 rt 52 L (.int x :: st) w := iv_V_eq (I := (((80, 1), .iload_n 2, 0, 0, 0) : iv_I)) rfl
theorem e43_52 : iv_V call mc_43 rt 52 L st w = iv_lda L 0 fun x => iv_V call mc_43 rt 53 L (x :: st) w := iv_V_eq (I := (((81, 1), .aload_n 0, 0, 0, 0) : iv_I)) rfl
theorem e43_53 : iv_V call mc_43 rt 53 L st w = iv_gf w st 1 9 fun v st' => iv_V call mc_43 rt 54 L (v :: st') w := iv_V_eq (I := (((82, 3), .getfield 29, 1, 9, 608) : iv_I)) rfl
theorem e43_54 : iv_V call mc_43 rt 54 L st w = iv_ldi L 1 fun x => iv_V call mc_43 rt 55 L (.int x :: st) w := iv_V_eq (I := (((85, 1), .iload_n 1, 0, 0, 0) : iv_I)) rfl
theorem e43_55 : iv_V call mc_43 rt 55 L st w = iv_ald w st iv_isZ fun v st' => iv_V call mc_43 rt 56 L (v :: st') w := iv_V_eq (I := (((86, 1), .baload, 0, 0, 0) : iv_I)) rfl
theorem e43_56 : iv_V call mc_43 rt 56 L st w = iv_inv call 42 3 (fun _ => true) st w fun st' w' => iv_V call mc_43 rt 57 L (st') w' := iv_V_eq (I := (((87, 3), .invokestatic 156, 42, 3, 856) : iv_I)) rfl
theorem e43_57 : iv_V call mc_43 rt 57 L st w = iv_p1 st fun x st' => if x = 0 then iv_V call mc_43 rt 60 L (st') w else iv_V call mc_43 rt 58 L (st') w := (iv_V_eq (I := (((90, 3), .ifCond .eq 7, 60, 0, 0) : iv_I)) rfl).trans (by simp only [iv_go, iv_cnd, decide_eq_true_eq])
theorem e43_58 : iv_V call mc_43 rt 58 L st w = iv_V call mc_43 rt 59 L (.int 1 :: st) w := (iv_V_eq (I := (((93, 1), .iconst 1, 0, 0, 0) : iv_I)) rfl).trans (congrArg (fun c => iv_V call mc_43 rt 59 L (.int c :: st) w) li_o1)
theorem e43_59 : iv_V call mc_43 rt 59 L st w = iv_V call mc_43 rt 61 L (st) w := iv_V_eq (I := (((94, 3), .goto 4, 61, 0, 0) : iv_I)) rfl
theorem e43_60 : iv_V call mc_43 rt 60 L st w = iv_V call mc_43 rt 61 L (.int 0 :: st) w := (iv_V_eq (I := (((97, 1), .iconst 0, 0, 0, 0) : iv_I)) rfl).trans (congrArg (fun c => iv_V call mc_43 rt 61 L (.int c :: st) w) li_o0)
theorem e43_61 : iv_V call mc_43 rt 61 L st w = iv_p1 st fun x st' => iv_sto L 3 (.int x) fun L' => iv_V call mc_43 rt 62 L' (st') w := iv_V_eq (I := (((98, 1), .istore_n 3, 0, 0, 0) : iv_I)) rfl
theorem e43_62 : iv_V call mc_43 rt 62 L st w = iv_ldi L 4 fun x => iv_sto L 4 (.int (x + 1)) fun L' => iv_V call mc_43 rt 63 L' (st) w := (iv_V_eq (I := (((99, 3), .iinc 4 1, 0, 0, 0) : iv_I)) rfl).trans (congrArg (fun c => iv_ldi L 4 fun x => iv_sto L 4 (.int (x + c)) fun L' => iv_V call mc_43 rt 63 L' (st) w) li_o1)
theorem e43_63 : iv_V call mc_43 rt 63 L st w = iv_V call mc_43 rt 29 L (st) w := iv_V_eq (I := (((102, 3), .goto (-58), 29, 0, 0) : iv_I)) rfl
theorem e43_64 : iv_V call mc_43 rt 64 L st w = iv_ldi L 3 fun x => iv_V call mc_43 rt 65 L (.int x :: st) w := iv_V_eq (I := (((105, 1), .iload_n 3, 0, 0, 0) : iv_I)) rfl
theorem e43_65 : iv_V call mc_43 rt 65 L st w = iv_ret rt st w := iv_V_eq (I := (((106, 1), .ireturn, 0, 0, 0) : iv_I)) rfl
theorem e44_0 : iv_V call mc_44 rt 0 L st w = iv_ldi L 0 fun x => iv_V call mc_44 rt 1 L (.int x :: st) w := iv_V_eq (I := (((0, 1), .iload_n 0, 0, 0, 0) : iv_I)) rfl
theorem e44_1 : iv_V call mc_44 rt 1 L st w = iv_p1 st fun x st' => if ¬ x = 0 then iv_V call mc_44 rt 10 L (st') w else iv_V call mc_44 rt 2 L (st') w := (iv_V_eq (I := (((1, 3), .ifCond .ne 18, 10, 0, 0) : iv_I)) rfl).trans (by simp only [iv_go, iv_cnd, decide_eq_true_eq])
theorem e44_2 : iv_V call mc_44 rt 2 L st w = iv_ldi L 4 fun x => iv_V call mc_44 rt 3 L (.int x :: st) w := iv_V_eq (I := (((4, 2), .iload 4, 0, 0, 0) : iv_I)) rfl
theorem e44_3 : iv_V call mc_44 rt 3 L st w = iv_p1 st fun x st' => if ¬ x = 0 then iv_V call mc_44 rt 8 L (st') w else iv_V call mc_44 rt 4 L (st') w := (iv_V_eq (I := (((6, 3), .ifCond .ne 11, 8, 0, 0) : iv_I)) rfl).trans (by simp only [iv_go, iv_cnd, decide_eq_true_eq])
theorem e44_4 : iv_V call mc_44 rt 4 L st w = iv_ldi L 3 fun x => iv_V call mc_44 rt 5 L (.int x :: st) w := iv_V_eq (I := (((9, 1), .iload_n 3, 0, 0, 0) : iv_I)) rfl
theorem e44_5 : iv_V call mc_44 rt 5 L st w = iv_p1 st fun x st' => if ¬ x = 0 then iv_V call mc_44 rt 8 L (st') w else iv_V call mc_44 rt 6 L (st') w := (iv_V_eq (I := (((10, 3), .ifCond .ne 7, 8, 0, 0) : iv_I)) rfl).trans (by simp only [iv_go, iv_cnd, decide_eq_true_eq])
theorem e44_6 : iv_V call mc_44 rt 6 L st w = iv_V call mc_44 rt 7 L (.int 1 :: st) w := (iv_V_eq (I := (((13, 1), .iconst 1, 0, 0, 0) : iv_I)) rfl).trans (congrArg (fun c => iv_V call mc_44 rt 7 L (.int c :: st) w) li_o1)
theorem e44_7 : iv_V call mc_44 rt 7 L st w = iv_V call mc_44 rt 9 L (st) w := iv_V_eq (I := (((14, 3), .goto 4, 9, 0, 0) : iv_I)) rfl
theorem e44_8 : iv_V call mc_44 rt 8 L st w = iv_V call mc_44 rt 9 L (.int 0 :: st) w := (iv_V_eq (I := (((17, 1), .iconst 0, 0, 0, 0) : iv_I)) rfl).trans (congrArg (fun c => iv_V call mc_44 rt 9 L (.int c :: st) w) li_o0)
theorem e44_9 : iv_V call mc_44 rt 9 L st w = iv_ret rt st w := iv_V_eq (I := (((18, 1), .ireturn, 0, 0, 0) : iv_I)) rfl
theorem e44_10 : iv_V call mc_44 rt 10 L st w = iv_ldi L 0 fun x => iv_V call mc_44 rt 11 L (.int x :: st) w := iv_V_eq (I := (((19, 1), .iload_n 0, 0, 0, 0) : iv_I)) rfl
theorem e44_11 : iv_V call mc_44 rt 11 L st w = iv_V call mc_44 rt 12 L (.int 3 :: st) w := (iv_V_eq (I := (((20, 1), .iconst 3, 0, 0, 0) : iv_I)) rfl).trans (congrArg (fun c => iv_V call mc_44 rt 12 L (.int c :: st) w) li_o3)
theorem e44_12 : iv_V call mc_44 rt 12 L st w = iv_p2 st fun x y st' => if ¬ x = y then iv_V call mc_44 rt 29 L (st') w else iv_V call mc_44 rt 13 L (st') w := (iv_V_eq (I := (((21, 3), .if_icmp .ne 27, 29, 0, 0) : iv_I)) rfl).trans (by simp only [iv_go, iv_cnd, decide_eq_true_eq])
theorem e44_13 : iv_V call mc_44 rt 13 L st w = iv_ldi L 3 fun x => iv_V call mc_44 rt 14 L (.int x :: st) w := iv_V_eq (I := (((24, 1), .iload_n 3, 0, 0, 0) : iv_I)) rfl
theorem e44_14 : iv_V call mc_44 rt 14 L st w = iv_p1 st fun x st' => if x ≤ 0 then iv_V call mc_44 rt 27 L (st') w else iv_V call mc_44 rt 15 L (st') w := (iv_V_eq (I := (((25, 3), .ifCond .le 21, 27, 0, 0) : iv_I)) rfl).trans (by simp only [iv_go, iv_cnd, decide_eq_true_eq])
theorem e44_15 : iv_V call mc_44 rt 15 L st w = iv_ldi L 3 fun x => iv_V call mc_44 rt 16 L (.int x :: st) w := iv_V_eq (I := (((28, 1), .iload_n 3, 0, 0, 0) : iv_I)) rfl
theorem e44_16 : iv_V call mc_44 rt 16 L st w = iv_V call mc_44 rt 17 L (.int 1 :: st) w := (iv_V_eq (I := (((29, 1), .iconst 1, 0, 0, 0) : iv_I)) rfl).trans (congrArg (fun c => iv_V call mc_44 rt 17 L (.int c :: st) w) li_o1)
theorem e44_17 : iv_V call mc_44 rt 17 L st w = iv_p2 st fun x y st' => iv_V call mc_44 rt 18 L (.int (x - y) :: st') w := iv_V_eq (I := (((30, 1), .isub, 0, 0, 0) : iv_I)) rfl
theorem e44_18 : iv_V call mc_44 rt 18 L st w = iv_ldi L 1 fun x => iv_V call mc_44 rt 19 L (.int x :: st) w := iv_V_eq (I := (((31, 1), .iload_n 1, 0, 0, 0) : iv_I)) rfl
theorem e44_19 : iv_V call mc_44 rt 19 L st w = iv_p2 st fun x y st' => if x < y then iv_V call mc_44 rt 25 L (st') w else iv_V call mc_44 rt 20 L (st') w := (iv_V_eq (I := (((32, 3), .if_icmp .lt 10, 25, 0, 0) : iv_I)) rfl).trans (by simp only [iv_go, iv_cnd, decide_eq_true_eq])
theorem e44_20 : iv_V call mc_44 rt 20 L st w = iv_ldi L 3 fun x => iv_V call mc_44 rt 21 L (.int x :: st) w := iv_V_eq (I := (((35, 1), .iload_n 3, 0, 0, 0) : iv_I)) rfl
theorem e44_21 : iv_V call mc_44 rt 21 L st w = iv_V call mc_44 rt 22 L (.int 1 :: st) w := (iv_V_eq (I := (((36, 1), .iconst 1, 0, 0, 0) : iv_I)) rfl).trans (congrArg (fun c => iv_V call mc_44 rt 22 L (.int c :: st) w) li_o1)
theorem e44_22 : iv_V call mc_44 rt 22 L st w = iv_p2 st fun x y st' => iv_V call mc_44 rt 23 L (.int (x - y) :: st') w := iv_V_eq (I := (((37, 1), .isub, 0, 0, 0) : iv_I)) rfl
theorem e44_23 : iv_V call mc_44 rt 23 L st w = iv_ldi L 2 fun x => iv_V call mc_44 rt 24 L (.int x :: st) w := iv_V_eq (I := (((38, 1), .iload_n 2, 0, 0, 0) : iv_I)) rfl
theorem e44_24 : iv_V call mc_44 rt 24 L st w = iv_p2 st fun x y st' => if x ≤ y then iv_V call mc_44 rt 27 L (st') w else iv_V call mc_44 rt 25 L (st') w := (iv_V_eq (I := (((39, 3), .if_icmp .le 7, 27, 0, 0) : iv_I)) rfl).trans (by simp only [iv_go, iv_cnd, decide_eq_true_eq])
theorem e44_25 : iv_V call mc_44 rt 25 L st w = iv_V call mc_44 rt 26 L (.int 1 :: st) w := (iv_V_eq (I := (((42, 1), .iconst 1, 0, 0, 0) : iv_I)) rfl).trans (congrArg (fun c => iv_V call mc_44 rt 26 L (.int c :: st) w) li_o1)
theorem e44_26 : iv_V call mc_44 rt 26 L st w = iv_V call mc_44 rt 28 L (st) w := iv_V_eq (I := (((43, 3), .goto 4, 28, 0, 0) : iv_I)) rfl
theorem e44_27 : iv_V call mc_44 rt 27 L st w = iv_V call mc_44 rt 28 L (.int 0 :: st) w := (iv_V_eq (I := (((46, 1), .iconst 0, 0, 0, 0) : iv_I)) rfl).trans (congrArg (fun c => iv_V call mc_44 rt 28 L (.int c :: st) w) li_o0)
theorem e44_28 : iv_V call mc_44 rt 28 L st w = iv_ret rt st w := iv_V_eq (I := (((47, 1), .ireturn, 0, 0, 0) : iv_I)) rfl
theorem e44_29 : iv_V call mc_44 rt 29 L st w = iv_ldi L 0 fun x => iv_V call mc_44 rt 30 L (.int x :: st) w := iv_V_eq (I := (((48, 1), .iload_n 0, 0, 0, 0) : iv_I)) rfl
theorem e44_30 : iv_V call mc_44 rt 30 L st w = iv_V call mc_44 rt 31 L (.int 1 :: st) w := (iv_V_eq (I := (((49, 1), .iconst 1, 0, 0, 0) : iv_I)) rfl).trans (congrArg (fun c => iv_V call mc_44 rt 31 L (.int c :: st) w) li_o1)
theorem e44_31 : iv_V call mc_44 rt 31 L st w = iv_p2 st fun x y st' => if ¬ x = y then iv_V call mc_44 rt 39 L (st') w else iv_V call mc_44 rt 32 L (st') w := (iv_V_eq (I := (((50, 3), .if_icmp .ne 16, 39, 0, 0) : iv_I)) rfl).trans (by simp only [iv_go, iv_cnd, decide_eq_true_eq])
theorem e44_32 : iv_V call mc_44 rt 32 L st w = iv_ldi L 3 fun x => iv_V call mc_44 rt 33 L (.int x :: st) w := iv_V_eq (I := (((53, 1), .iload_n 3, 0, 0, 0) : iv_I)) rfl
theorem e44_33 : iv_V call mc_44 rt 33 L st w = iv_ldi L 1 fun x => iv_V call mc_44 rt 34 L (.int x :: st) w := iv_V_eq (I := (((54, 1), .iload_n 1, 0, 0, 0) : iv_I)) rfl
theorem e44_34 : iv_V call mc_44 rt 34 L st w = iv_p2 st fun x y st' => if y ≤ x then iv_V call mc_44 rt 37 L (st') w else iv_V call mc_44 rt 35 L (st') w := (iv_V_eq (I := (((55, 3), .if_icmp .ge 7, 37, 0, 0) : iv_I)) rfl).trans (by simp only [iv_go, iv_cnd, decide_eq_true_eq])
theorem e44_35 : iv_V call mc_44 rt 35 L st w = iv_V call mc_44 rt 36 L (.int 1 :: st) w := (iv_V_eq (I := (((58, 1), .iconst 1, 0, 0, 0) : iv_I)) rfl).trans (congrArg (fun c => iv_V call mc_44 rt 36 L (.int c :: st) w) li_o1)
theorem e44_36 : iv_V call mc_44 rt 36 L st w = iv_V call mc_44 rt 45 L (st) w := iv_V_eq (I := (((59, 3), .goto 17, 45, 0, 0) : iv_I)) rfl
theorem e44_37 : iv_V call mc_44 rt 37 L st w = iv_V call mc_44 rt 38 L (.int 0 :: st) w := (iv_V_eq (I := (((62, 1), .iconst 0, 0, 0, 0) : iv_I)) rfl).trans (congrArg (fun c => iv_V call mc_44 rt 38 L (.int c :: st) w) li_o0)
theorem e44_38 : iv_V call mc_44 rt 38 L st w = iv_V call mc_44 rt 45 L (st) w := iv_V_eq (I := (((63, 3), .goto 13, 45, 0, 0) : iv_I)) rfl
theorem e44_39 : iv_V call mc_44 rt 39 L st w = iv_ldi L 3 fun x => iv_V call mc_44 rt 40 L (.int x :: st) w := iv_V_eq (I := (((66, 1), .iload_n 3, 0, 0, 0) : iv_I)) rfl
theorem e44_40 : iv_V call mc_44 rt 40 L st w = iv_ldi L 1 fun x => iv_V call mc_44 rt 41 L (.int x :: st) w := iv_V_eq (I := (((67, 1), .iload_n 1, 0, 0, 0) : iv_I)) rfl
theorem e44_41 : iv_V call mc_44 rt 41 L st w = iv_p2 st fun x y st' => if x ≤ y then iv_V call mc_44 rt 44 L (st') w else iv_V call mc_44 rt 42 L (st') w := (iv_V_eq (I := (((68, 3), .if_icmp .le 7, 44, 0, 0) : iv_I)) rfl).trans (by simp only [iv_go, iv_cnd, decide_eq_true_eq])
theorem e44_42 : iv_V call mc_44 rt 42 L st w = iv_V call mc_44 rt 43 L (.int 1 :: st) w := (iv_V_eq (I := (((71, 1), .iconst 1, 0, 0, 0) : iv_I)) rfl).trans (congrArg (fun c => iv_V call mc_44 rt 43 L (.int c :: st) w) li_o1)
theorem e44_43 : iv_V call mc_44 rt 43 L st w = iv_V call mc_44 rt 45 L (st) w := iv_V_eq (I := (((72, 3), .goto 4, 45, 0, 0) : iv_I)) rfl
theorem e44_44 : iv_V call mc_44 rt 44 L st w = iv_V call mc_44 rt 45 L (.int 0 :: st) w := (iv_V_eq (I := (((75, 1), .iconst 0, 0, 0, 0) : iv_I)) rfl).trans (congrArg (fun c => iv_V call mc_44 rt 45 L (.int c :: st) w) li_o0)
theorem e44_45 : iv_V call mc_44 rt 45 L st w = iv_ret rt st w := iv_V_eq (I := (((76, 1), .ireturn, 0, 0, 0) : iv_I)) rfl
end IVS2
