/-! what each row does -/
section IVS3
variable {call : Nat → List Value → iv_S → iv_R} {rt : Option FieldType} {L st : List Value} {w : iv_S}
theorem e45_0 : iv_V call mc_45 rt 0 L st w = iv_lda L 0 fun x => iv_V call mc_45 rt 1 L (x :: st) w := iv_V_eq (I := (((0, 1), .aload_n 0, 0, 0, 0) : iv_I)) rfl
theorem e45_1 : iv_V call mc_45 rt 1 L st w = iv_gf w st 1 41 fun v st' => iv_V call mc_45 rt 2 L (v :: st') w := iv_V_eq (I := (((1, 3), .getfield 160, 1, 41, 640) : iv_I)) rfl
theorem e45_2 : iv_V call mc_45 rt 2 L st w = iv_V call mc_45 rt 3 L (.int 24 :: st) w := (iv_V_eq (I := (((4, 2), .bipush 24, 0, 0, 0) : iv_I)) rfl).trans (congrArg (fun c => iv_V call mc_45 rt 3 L (.int c :: st) w) li_b24)
theorem e45_3 : iv_V call mc_45 rt 3 L st w = iv_p2 st fun x y st' => if ¬ x = y then iv_V call mc_45 rt 6 L (st') w else iv_V call mc_45 rt 4 L (st') w := (iv_V_eq (I := (((6, 3), .if_icmp .ne 5, 6, 0, 0) : iv_I)) rfl).trans (by simp only [iv_go, iv_cnd, decide_eq_true_eq])
theorem e45_4 : iv_V call mc_45 rt 4 L st w = iv_V call mc_45 rt 5 L (.int 0 :: st) w := (iv_V_eq (I := (((9, 1), .iconst 0, 0, 0, 0) : iv_I)) rfl).trans (congrArg (fun c => iv_V call mc_45 rt 5 L (.int c :: st) w) li_o0)
theorem e45_5 : iv_V call mc_45 rt 5 L st w = iv_ret rt st w := iv_V_eq (I := (((10, 1), .ireturn, 0, 0, 0) : iv_I)) rfl
theorem e45_6 : iv_V call mc_45 rt 6 L st w = iv_lda L 0 fun x => iv_V call mc_45 rt 7 L (x :: st) w := iv_V_eq (I := (((11, 1), .aload_n 0, 0, 0, 0) : iv_I)) rfl
theorem e45_7 : iv_V call mc_45 rt 7 L st w = iv_gf w st 1 8 fun v st' => iv_V call mc_45 rt 8 L (v :: st') w := iv_V_eq (I := (((12, 3), .getfield 26, 1, 8, 607) : iv_I)) rfl
theorem e45_8 : iv_V call mc_45 rt 8 L st w = iv_ldi L 2 fun x => iv_V call mc_45 rt 9 L (.int x :: st) w := iv_V_eq (I := (((15, 1), .iload_n 2, 0, 0, 0) : iv_I)) rfl
theorem e45_9 : iv_V call mc_45 rt 9 L st w = iv_ald w st iv_isI fun v st' => iv_V call mc_45 rt 10 L (v :: st') w := iv_V_eq (I := (((16, 1), .iaload, 0, 0, 0) : iv_I)) rfl
theorem e45_10 : iv_V call mc_45 rt 10 L st w = iv_p1 st fun x st' => iv_sto L 5 (.int x) fun L' => iv_V call mc_45 rt 11 L' (st') w := iv_V_eq (I := (((17, 2), .istore 5, 0, 0, 0) : iv_I)) rfl
theorem e45_11 : iv_V call mc_45 rt 11 L st w = iv_V call mc_45 rt 12 L (.int 14 :: st) w := (iv_V_eq (I := (((19, 2), .bipush 14, 0, 0, 0) : iv_I)) rfl).trans (congrArg (fun c => iv_V call mc_45 rt 12 L (.int c :: st) w) li_b14)
theorem e45_12 : iv_V call mc_45 rt 12 L st w = iv_ldi L 1 fun x => iv_V call mc_45 rt 13 L (.int x :: st) w := iv_V_eq (I := (((21, 1), .iload_n 1, 0, 0, 0) : iv_I)) rfl
theorem e45_13 : iv_V call mc_45 rt 13 L st w = iv_p2 st fun x y st' => iv_V call mc_45 rt 14 L (.int (x * y) :: st') w := iv_V_eq (I := (((22, 1), .imul, 0, 0, 0) : iv_I)) rfl
theorem e45_14 : iv_V call mc_45 rt 14 L st w = iv_ldi L 5 fun x => iv_V call mc_45 rt 15 L (.int x :: st) w := iv_V_eq (I := (((23, 2), .iload 5, 0, 0, 0) : iv_I)) rfl
theorem e45_15 : iv_V call mc_45 rt 15 L st w = iv_p2 st fun x y st' => iv_V call mc_45 rt 16 L (.int (x + y) :: st') w := iv_V_eq (I := (((25, 1), .iadd, 0, 0, 0) : iv_I)) rfl
theorem e45_16 : iv_V call mc_45 rt 16 L st w = iv_p1 st fun x st' => iv_sto L 6 (.int x) fun L' => iv_V call mc_45 rt 17 L' (st') w := iv_V_eq (I := (((26, 2), .istore 6, 0, 0, 0) : iv_I)) rfl
theorem e45_17 : iv_V call mc_45 rt 17 L st w = iv_lda L 0 fun x => iv_V call mc_45 rt 18 L (x :: st) w := iv_V_eq (I := (((28, 1), .aload_n 0, 0, 0, 0) : iv_I)) rfl
theorem e45_18 : iv_V call mc_45 rt 18 L st w = iv_gf w st 1 42 fun v st' => iv_V call mc_45 rt 19 L (v :: st') w := iv_V_eq (I := (((29, 3), .getfield 116, 1, 42, 641) : iv_I)) rfl
theorem e45_19 : iv_V call mc_45 rt 19 L st w = iv_V call mc_45 rt 20 L (.int 6 :: st) w := (iv_V_eq (I := (((32, 2), .bipush 6, 0, 0, 0) : iv_I)) rfl).trans (congrArg (fun c => iv_V call mc_45 rt 20 L (.int c :: st) w) li_b6)
theorem e45_20 : iv_V call mc_45 rt 20 L st w = iv_lda L 0 fun x => iv_V call mc_45 rt 21 L (x :: st) w := iv_V_eq (I := (((34, 1), .aload_n 0, 0, 0, 0) : iv_I)) rfl
theorem e45_21 : iv_V call mc_45 rt 21 L st w = iv_gf w st 1 41 fun v st' => iv_V call mc_45 rt 22 L (v :: st') w := iv_V_eq (I := (((35, 3), .getfield 160, 1, 41, 640) : iv_I)) rfl
theorem e45_22 : iv_V call mc_45 rt 22 L st w = iv_p2 st fun x y st' => iv_V call mc_45 rt 23 L (.int (x * y) :: st') w := iv_V_eq (I := (((38, 1), .imul, 0, 0, 0) : iv_I)) rfl
theorem e45_23 : iv_V call mc_45 rt 23 L st w = iv_ldi L 1 fun x => iv_V call mc_45 rt 24 L (.int x :: st) w := iv_V_eq (I := (((39, 1), .iload_n 1, 0, 0, 0) : iv_I)) rfl
theorem e45_24 : iv_V call mc_45 rt 24 L st w = iv_ast w st iv_isI fun st' w' => iv_V call mc_45 rt 25 L (st') w' := iv_V_eq (I := (((40, 1), .iastore, 0, 0, 0) : iv_I)) rfl
theorem e45_25 : iv_V call mc_45 rt 25 L st w = iv_lda L 0 fun x => iv_V call mc_45 rt 26 L (x :: st) w := iv_V_eq (I := (((41, 1), .aload_n 0, 0, 0, 0) : iv_I)) rfl
theorem e45_26 : iv_V call mc_45 rt 26 L st w = iv_gf w st 1 42 fun v st' => iv_V call mc_45 rt 27 L (v :: st') w := iv_V_eq (I := (((42, 3), .getfield 116, 1, 42, 641) : iv_I)) rfl
theorem e45_27 : iv_V call mc_45 rt 27 L st w = iv_V call mc_45 rt 28 L (.int 6 :: st) w := (iv_V_eq (I := (((45, 2), .bipush 6, 0, 0, 0) : iv_I)) rfl).trans (congrArg (fun c => iv_V call mc_45 rt 28 L (.int c :: st) w) li_b6)
theorem e45_28 : iv_V call mc_45 rt 28 L st w = iv_lda L 0 fun x => iv_V call mc_45 rt 29 L (x :: st) w := iv_V_eq (I := (((47, 1), .aload_n 0, 0, 0, 0) : iv_I)) rfl
theorem e45_29 : iv_V call mc_45 rt 29 L st w = iv_gf w st 1 41 fun v st' => iv_V call mc_45 rt 30 L (v :: st') w := iv_V_eq (I := (((48, 3), .getfield 160, 1, 41, 640) : iv_I)) rfl
theorem e45_30 : iv_V call mc_45 rt 30 L st w = iv_p2 st fun x y st' => iv_V call mc_45 rt 31 L (.int (x * y) :: st') w := iv_V_eq (I := (((51, 1), .imul, 0, 0, 0) : iv_I)) rfl
theorem e45_31 : iv_V call mc_45 rt 31 L st w = iv_V call mc_45 rt 32 L (.int 1 :: st) w := (iv_V_eq (I := (((52, 1), .iconst 1, 0, 0, 0) : iv_I)) rfl).trans (congrArg (fun c => iv_V call mc_45 rt 32 L (.int c :: st) w) li_o1)
theorem e45_32 : iv_V call mc_45 rt 32 L st w = iv_p2 st fun x y st' => iv_V call mc_45 rt 33 L (.int (x + y) :: st') w := iv_V_eq (I := (((53, 1), .iadd, 0, 0, 0) : iv_I)) rfl
theorem e45_33 : iv_V call mc_45 rt 33 L st w = iv_ldi L 5 fun x => iv_V call mc_45 rt 34 L (.int x :: st) w := iv_V_eq (I := (((54, 2), .iload 5, 0, 0, 0) : iv_I)) rfl
theorem e45_34 : iv_V call mc_45 rt 34 L st w = iv_ast w st iv_isI fun st' w' => iv_V call mc_45 rt 35 L (st') w' := iv_V_eq (I := (((56, 1), .iastore, 0, 0, 0) : iv_I)) rfl
theorem e45_35 : iv_V call mc_45 rt 35 L st w = iv_lda L 0 fun x => iv_V call mc_45 rt 36 L (x :: st) w := iv_V_eq (I := (((57, 1), .aload_n 0, 0, 0, 0) : iv_I)) rfl
theorem e45_36 : iv_V call mc_45 rt 36 L st w = iv_gf w st 1 42 fun v st' => iv_V call mc_45 rt 37 L (v :: st') w := iv_V_eq (I := (((58, 3), .getfield 116, 1, 42, 641) : iv_I)) rfl
theorem e45_37 : iv_V call mc_45 rt 37 L st w = iv_V call mc_45 rt 38 L (.int 6 :: st) w := (iv_V_eq (I := (((61, 2), .bipush 6, 0, 0, 0) : iv_I)) rfl).trans (congrArg (fun c => iv_V call mc_45 rt 38 L (.int c :: st) w) li_b6)
theorem e45_38 : iv_V call mc_45 rt 38 L st w = iv_lda L 0 fun x => iv_V call mc_45 rt 39 L (x :: st) w := iv_V_eq (I := (((63, 1), .aload_n 0, 0, 0, 0) : iv_I)) rfl
theorem e45_39 : iv_V call mc_45 rt 39 L st w = iv_gf w st 1 41 fun v st' => iv_V call mc_45 rt 40 L (v :: st') w := iv_V_eq (I := (((64, 3), .getfield 160, 1, 41, 640) : iv_I)) rfl
theorem e45_40 : iv_V call mc_45 rt 40 L st w = iv_p2 st fun x y st' => iv_V call mc_45 rt 41 L (.int (x * y) :: st') w := iv_V_eq (I := (((67, 1), .imul, 0, 0, 0) : iv_I)) rfl
theorem e45_41 : iv_V call mc_45 rt 41 L st w = iv_V call mc_45 rt 42 L (.int 2 :: st) w := (iv_V_eq (I := (((68, 1), .iconst 2, 0, 0, 0) : iv_I)) rfl).trans (congrArg (fun c => iv_V call mc_45 rt 42 L (.int c :: st) w) li_o2)
theorem e45_42 : iv_V call mc_45 rt 42 L st w = iv_p2 st fun x y st' => iv_V call mc_45 rt 43 L (.int (x + y) :: st') w := iv_V_eq (I := (((69, 1), .iadd, 0, 0, 0) : iv_I)) rfl
theorem e45_43 : iv_V call mc_45 rt 43 L st w = iv_ldi L 3 fun x => iv_V call mc_45 rt 44 L (.int x :: st) w := iv_V_eq (I := (((70, 1), .iload_n 3, 0, 0, 0) : iv_I)) rfl
theorem e45_44 : iv_V call mc_45 rt 44 L st w = iv_ast w st iv_isI fun st' w' => iv_V call mc_45 rt 45 L (st') w' := iv_V_eq (I := (((71, 1), .iastore, 0, 0, 0) : iv_I)) rfl
theorem e45_45 : iv_V call mc_45 rt 45 L st w = iv_lda L 0 fun x => iv_V call mc_45 rt 46 L (x :: st) w := iv_V_eq (I := (((72, 1), .aload_n 0, 0, 0, 0) : iv_I)) rfl
theorem e45_46 : iv_V call mc_45 rt 46 L st w = iv_gf w st 1 42 fun v st' => iv_V call mc_45 rt 47 L (v :: st') w := iv_V_eq (I := (((73, 3), .getfield 116, 1, 42, 641) : iv_I)) rfl
theorem e45_47 : iv_V call mc_45 rt 47 L st w = iv_V call mc_45 rt 48 L (.int 6 :: st) w := (iv_V_eq (I := (((76, 2), .bipush 6, 0, 0, 0) : iv_I)) rfl).trans (congrArg (fun c => iv_V call mc_45 rt 48 L (.int c :: st) w) li_b6)
theorem e45_48 : iv_V call mc_45 rt 48 L st w = iv_lda L 0 fun x => iv_V call mc_45 rt 49 L (x :: st) w := iv_V_eq (I := (((78, 1), .aload_n 0, 0, 0, 0) : iv_I)) rfl
theorem e45_49 : iv_V call mc_45 rt 49 L st w = iv_gf w st 1 41 fun v st' => iv_V call mc_45 rt 50 L (v :: st') w := iv_V_eq (I := (((79, 3), .getfield 160, 1, 41, 640) : iv_I)) rfl
theorem e45_50 : iv_V call mc_45 rt 50 L st w = iv_p2 st fun x y st' => iv_V call mc_45 rt 51 L (.int (x * y) :: st') w := iv_V_eq (I := (((82, 1), .imul, 0, 0, 0) : iv_I)) rfl
theorem e45_51 : iv_V call mc_45 rt 51 L st w = iv_V call mc_45 rt 52 L (.int 3 :: st) w := (iv_V_eq (I := (((83, 1), .iconst 3, 0, 0, 0) : iv_I)) rfl).trans (congrArg (fun c => iv_V call mc_45 rt 52 L (.int c :: st) w) li_o3)
theorem e45_52 : iv_V call mc_45 rt 52 L st w = iv_p2 st fun x y st' => iv_V call mc_45 rt 53 L (.int (x + y) :: st') w := iv_V_eq (I := (((84, 1), .iadd, 0, 0, 0) : iv_I)) rfl
theorem e45_53 : iv_V call mc_45 rt 53 L st w = iv_ldi L 2 fun x => iv_V call mc_45 rt 54 L (.int x :: st) w := iv_V_eq (I := (((85, 1), .iload_n 2, 0, 0, 0) : iv_I)) rfl
theorem e45_54 : iv_V call mc_45 rt 54 L st w = iv_ast w st iv_isI fun st' w' => iv_V call mc_45 rt 55 L (st') w' := iv_V_eq (I := (((86, 1), .iastore, 0, 0, 0) : iv_I)) rfl
theorem e45_55 : iv_V call mc_45 rt 55 L st w = iv_lda L 0 fun x => iv_V call mc_45 rt 56 L (x :: st) w := iv_V_eq (I := (((87, 1), .aload_n 0, 0, 0, 0) : iv_I)) rfl
theorem e45_56 : iv_V call mc_45 rt 56 L st w = iv_gf w st 1 42 fun v st' => iv_V call mc_45 rt 57 L (v :: st') w := iv_V_eq (I := (((88, 3), .getfield 116, 1, 42, 641) : iv_I)) rfl
theorem e45_57 : iv_V call mc_45 rt 57 L st w = iv_V call mc_45 rt 58 L (.int 6 :: st) w := (iv_V_eq (I := (((91, 2), .bipush 6, 0, 0, 0) : iv_I)) rfl).trans (congrArg (fun c => iv_V call mc_45 rt 58 L (.int c :: st) w) li_b6)
theorem e45_58 : iv_V call mc_45 rt 58 L st w = iv_lda L 0 fun x => iv_V call mc_45 rt 59 L (x :: st) w := iv_V_eq (I := (((93, 1), .aload_n 0, 0, 0, 0) : iv_I)) rfl
theorem e45_59 : iv_V call mc_45 rt 59 L st w = iv_gf w st 1 41 fun v st' => iv_V call mc_45 rt 60 L (v :: st') w := iv_V_eq (I := (((94, 3), .getfield 160, 1, 41, 640) : iv_I)) rfl
theorem e45_60 : iv_V call mc_45 rt 60 L st w = iv_p2 st fun x y st' => iv_V call mc_45 rt 61 L (.int (x * y) :: st') w := iv_V_eq (I := (((97, 1), .imul, 0, 0, 0) : iv_I)) rfl
theorem e45_61 : iv_V call mc_45 rt 61 L st w = iv_V call mc_45 rt 62 L (.int 4 :: st) w := (iv_V_eq (I := (((98, 1), .iconst 4, 0, 0, 0) : iv_I)) rfl).trans (congrArg (fun c => iv_V call mc_45 rt 62 L (.int c :: st) w) li_o4)
theorem e45_62 : iv_V call mc_45 rt 62 L st w = iv_p2 st fun x y st' => iv_V call mc_45 rt 63 L (.int (x + y) :: st') w := iv_V_eq (I := (((99, 1), .iadd, 0, 0, 0) : iv_I)) rfl
theorem e45_63 : iv_V call mc_45 rt 63 L st w = iv_ldi L 4 fun x => iv_V call mc_45 rt 64 L (.int x :: st) w := iv_V_eq (I := (((100, 2), .iload 4, 0, 0, 0) : iv_I)) rfl
theorem e45_64 : iv_V call mc_45 rt 64 L st w = iv_ast w st iv_isI fun st' w' => iv_V call mc_45 rt 65 L (st') w' := iv_V_eq (I := (((102, 1), .iastore, 0, 0, 0) : iv_I)) rfl
theorem e45_65 : iv_V call mc_45 rt 65 L st w = iv_lda L 0 fun x => iv_V call mc_45 rt 66 L (x :: st) w := iv_V_eq (I := (((103, 1), .aload_n 0, 0, 0, 0) : iv_I)) rfl
theorem e45_66 : iv_V call mc_45 rt 66 L st w = iv_gf w st 1 42 fun v st' => iv_V call mc_45 rt 67 L (v :: st') w := iv_V_eq (I := (((104, 3), .getfield 116, 1, 42, 641) : iv_I)) rfl
theorem e45_67 : iv_V call mc_45 rt 67 L st w = iv_V call mc_45 rt 68 L (.int 6 :: st) w := (iv_V_eq (I := (((107, 2), .bipush 6, 0, 0, 0) : iv_I)) rfl).trans (congrArg (fun c => iv_V call mc_45 rt 68 L (.int c :: st) w) li_b6)
theorem e45_68 : iv_V call mc_45 rt 68 L st w = iv_lda L 0 fun x => iv_V call mc_45 rt 69 L (x :: st) w := iv_V_eq (I := (((109, 1), .aload_n 0, 0, 0, 0) : iv_I)) rfl
theorem e45_69 : iv_V call mc_45 rt 69 L st w = iv_gf w st 1 41 fun v st' => iv_V call mc_45 rt 70 L (v :: st') w := iv_V_eq (I := (((110, 3), .getfield 160, 1, 41, 640) : iv_I)) rfl
theorem e45_70 : iv_V call mc_45 rt 70 L st w = iv_p2 st fun x y st' => iv_V call mc_45 rt 71 L (.int (x * y) :: st') w := iv_V_eq (I := (((113, 1), .imul, 0, 0, 0) : iv_I)) rfl
theorem e45_71 : iv_V call mc_45 rt 71 L st w = iv_V call mc_45 rt 72 L (.int 5 :: st) w := (iv_V_eq (I := (((114, 1), .iconst 5, 0, 0, 0) : iv_I)) rfl).trans (congrArg (fun c => iv_V call mc_45 rt 72 L (.int c :: st) w) li_o5)
theorem e45_72 : iv_V call mc_45 rt 72 L st w = iv_p2 st fun x y st' => iv_V call mc_45 rt 73 L (.int (x + y) :: st') w := iv_V_eq (I := (((115, 1), .iadd, 0, 0, 0) : iv_I)) rfl
theorem e45_73 : iv_V call mc_45 rt 73 L st w = iv_ldi L 3 fun x => iv_V call mc_45 rt 74 L (.int x :: st) w := iv_V_eq (I := (((116, 1), .iload_n 3, 0, 0, 0) : iv_I)) rfl
theorem e45_74 : iv_V call mc_45 rt 74 L st w = iv_p1 st fun x st' => if x < 0 then iv_V call mc_45 rt 84 L (st') w else iv_V call mc_45 rt 75 L (st') w := (iv_V_eq (I := (((117, 3), .ifCond .lt 17, 84, 0, 0) : iv_I)) rfl).trans (by simp only [iv_go, iv_cnd, decide_eq_true_eq])
theorem e45_75 : iv_V call mc_45 rt 75 L st w = iv_lda L 0 fun x => iv_V call mc_45 rt 76 L (x :: st) w := iv_V_eq (I := (((120, 1), .aload_n 0, 0, 0, 0) : iv_I)) rfl
theorem e45_76 : iv_V call mc_45 rt 76 L st w = iv_gf w st 1 27 fun v st' => iv_V call mc_45 rt 77 L (v :: st') w := iv_V_eq (I := (((121, 3), .getfield 80, 1, 27, 626) : iv_I)) rfl
theorem e45_77 : iv_V call mc_45 rt 77 L st w = iv_V call mc_45 rt 78 L (.int 3 :: st) w := (iv_V_eq (I := (((124, 1), .iconst 3, 0, 0, 0) : iv_I)) rfl).trans (congrArg (fun c => iv_V call mc_45 rt 78 L (.int c :: st) w) li_o3)
theorem e45_78 : iv_V call mc_45 rt 78 L st w = iv_ldi L 6 fun x => iv_V call mc_45 rt 79 L (.int x :: st) w := iv_V_eq (I := (((125, 2), .iload 6, 0, 0, 0) : iv_I)) rfl
theorem e45_79 : iv_V call mc_45 rt 79 L st w = iv_p2 st fun x y st' => iv_V call mc_45 rt 80 L (.int (x * y) :: st') w := iv_V_eq (I := (((127, 1), .imul, 0, 0, 0) : iv_I)) rfl
theorem e45_80 : iv_V call mc_45 rt 80 L st w = iv_ldi L 3 fun x => iv_V call mc_45 rt 81 L (.int x :: st) w := iv_V_eq (I := (((128, 1), .iload_n 3, 0, 0, 0) : iv_I)) rfl
theorem e45_81 : iv_V call mc_45 rt 81 L st w = iv_p2 st fun x y st' => iv_V call mc_45 rt 82 L (.int (x + y) :: st') w := iv_V_eq (I := (((129, 1), .iadd, 0, 0, 0) : iv_I)) rfl
theorem e45_82 : iv_V call mc_45 rt 82 L st w = iv_ald w st iv_isI fun v st' => iv_V call mc_45 rt 83 L (v :: st') w := iv_V_eq (I := (((130, 1), .iaload, 0, 0, 0) : iv_I)) rfl
theorem e45_83 : iv_V call mc_45 rt 83 L st w = iv_V call mc_45 rt 100 L (st) w := iv_V_eq (I := (((131, 3), .goto 32, 100, 0, 0) : iv_I)) rfl
theorem e45_84 : iv_V call mc_45 rt 84 L st w = iv_lda L 0 fun x => iv_V call mc_45 rt 85 L (x :: st) w := iv_V_eq (I := (((134, 1), .aload_n 0, 0, 0, 0) : iv_I)) rfl
theorem e45_85 : iv_V call mc_45 rt 85 L st w = iv_gf w st 1 4 fun v st' => iv_V call mc_45 rt 86 L (v :: st') w := iv_V_eq (I := (((135, 3), .getfield 16, 1, 4, 603) : iv_I)) rfl
theorem e45_86 : iv_V call mc_45 rt 86 L st w = iv_ldi L 5 fun x => iv_V call mc_45 rt 87 L (.int x :: st) w := iv_V_eq (I := (((138, 2), .iload 5, 0, 0, 0) : iv_I)) rfl
theorem e45_87 : iv_V call mc_45 rt 87 L st w = iv_ald w st iv_isI fun v st' => iv_V call mc_45 rt 88 L (v :: st') w := iv_V_eq (I := (((140, 1), .iaload, 0, 0, 0) : iv_I)) rfl
theorem e45_88 : iv_V call mc_45 rt 88 L st w = iv_p1 st fun x st' => if ¬ x = 0 then iv_V call mc_45 rt 94 L (st') w else iv_V call mc_45 rt 89 L (st') w := (iv_V_eq (I := (((141, 3), .ifCond .ne 13, 94, 0, 0) : iv_I)) rfl).trans (by simp only [iv_go, iv_cnd, decide_eq_true_eq])
theorem e45_89 : iv_V call mc_45 rt 89 L st w = iv_lda L 0 fun x => iv_V call mc_45 rt 90 L (x :: st) w := iv_V_eq (I := (((144, 1), .aload_n 0, 0, 0, 0) : iv_I)) rfl
theorem e45_90 : iv_V call mc_45 rt 90 L st w = iv_gf w st 1 26 fun v st' => iv_V call mc_45 rt 91 L (v :: st') w := iv_V_eq (I := (((145, 3), .getfield 77, 1, 26, 625) : iv_I)) rfl
theorem e45_91 : iv_V call mc_45 rt 91 L st w = iv_ldi L 6 fun x => iv_V call mc_45 rt 92 L (.int x :: st) w := iv_V_eq (I := (((148, 2), .iload 6, 0, 0, 0) : iv_I)) rfl
theorem e45_92 : iv_V call mc_45 rt 92 L st w = iv_ald w st iv_isI fun v st' => iv_V call mc_45 rt 93 L (v :: st') w := iv_V_eq (I := (((150, 1), .iaload, 0, 0, 0) : iv_I)) rfl
theorem e45_93 : iv_V call mc_45 rt 93 L st w = iv_V call mc_45 rt 100 L (st) w := iv_V_eq (I := (((151, 3), .goto 12, 100, 0, 0) : iv_I)) rfl
theorem e45_94 : iv_V call mc_45 rt 94 L st w = iv_lda L 0 fun x => iv_V call mc_45 rt 95 L (x :: st) w := iv_V_eq (I := (((154, 1), .aload_n 0, 0, 0, 0) : iv_I)) rfl
theorem e45_95 : iv_V call mc_45 rt 95 L st w = iv_gf w st 1 26 fun v st' => iv_V call mc_45 rt 96 L (v :: st') w := iv_V_eq (I := (((155, 3), .getfield 77, 1, 26, 625) : iv_I)) rfl
theorem e45_96 : iv_V call mc_45 rt 96 L st w = iv_ldi L 6 fun x => iv_V call mc_45 rt 97 L (.int x :: st) w := iv_V_eq (I := (((158, 2), .iload 6, 0, 0, 0) : iv_I)) rfl
theorem e45_97 : iv_V call mc_45 rt 97 L st w = iv_ald w st iv_isI fun v st' => iv_V call mc_45 rt 98 L (v :: st') w := iv_V_eq (I := (((160, 1), .iaload, 0, 0, 0) : iv_I)) rfl
theorem e45_98 : iv_V call mc_45 rt 98 L st w = iv_V call mc_45 rt 99 L (.int 1 :: st) w := (iv_V_eq (I := (((161, 1), .iconst 1, 0, 0, 0) : iv_I)) rfl).trans (congrArg (fun c => iv_V call mc_45 rt 99 L (.int c :: st) w) li_o1)
theorem e45_99 : iv_V call mc_45 rt 99 L st w = iv_p2 st fun x y st' => iv_V call mc_45 rt 100 L (.int (x - y) :: st') w := iv_V_eq (I := (((162, 1), .isub, 0, 0, 0) : iv_I)) rfl
theorem e45_100 : iv_V call mc_45 rt 100 L st w = iv_ast w st iv_isI fun st' w' => iv_V call mc_45 rt 101 L (st') w' := iv_V_eq (I := (((163, 1), .iastore, 0, 0, 0) : iv_I)) rfl
theorem e45_101 : iv_V call mc_45 rt 101 L st w = iv_lda L 0 fun x => iv_V call mc_45 rt 102 L (x :: st) w := iv_V_eq (I := (((164, 1), .aload_n 0, 0, 0, 0) : iv_I)) rfl
theorem e45_102 : iv_V call mc_45 rt 102 L st w = iv_gf w st 1 43 fun v st' => iv_V call mc_45 rt 103 L (v :: st') w := iv_V_eq (I := (((165, 3), .getfield 119, 1, 43, 642) : iv_I)) rfl
theorem e45_103 : iv_V call mc_45 rt 103 L st w = iv_lda L 0 fun x => iv_V call mc_45 rt 104 L (x :: st) w := iv_V_eq (I := (((168, 1), .aload_n 0, 0, 0, 0) : iv_I)) rfl
theorem e45_104 : iv_V call mc_45 rt 104 L st w = iv_gf w st 1 41 fun v st' => iv_V call mc_45 rt 105 L (v :: st') w := iv_V_eq (I := (((169, 3), .getfield 160, 1, 41, 640) : iv_I)) rfl
theorem e45_105 : iv_V call mc_45 rt 105 L st w = iv_lda L 0 fun x => iv_V call mc_45 rt 106 L (x :: st) w := iv_V_eq (I := (((172, 1), .aload_n 0, 0, 0, 0) : iv_I)) rfl
theorem e45_106 : iv_V call mc_45 rt 106 L st w = iv_gf w st 1 28 fun v st' => iv_V call mc_45 rt 107 L (v :: st') w := iv_V_eq (I := (((173, 3), .getfield 163, 1, 28, 627) : iv_I)) rfl
theorem e45_107 : iv_V call mc_45 rt 107 L st w = iv_p1 st fun x st' => if x ≤ 0 then iv_V call mc_45 rt 113 L (st') w else iv_V call mc_45 rt 108 L (st') w := (iv_V_eq (I := (((176, 3), .ifCond .le 12, 113, 0, 0) : iv_I)) rfl).trans (by simp only [iv_go, iv_cnd, decide_eq_true_eq])
theorem e45_108 : iv_V call mc_45 rt 108 L st w = iv_lda L 0 fun x => iv_V call mc_45 rt 109 L (x :: st) w := iv_V_eq (I := (((179, 1), .aload_n 0, 0, 0, 0) : iv_I)) rfl
theorem e45_109 : iv_V call mc_45 rt 109 L st w = iv_gf w st 1 28 fun v st' => iv_V call mc_45 rt 110 L (v :: st') w := iv_V_eq (I := (((180, 3), .getfield 163, 1, 28, 627) : iv_I)) rfl
theorem e45_110 : iv_V call mc_45 rt 110 L st w = iv_V call mc_45 rt 111 L (.int 1 :: st) w := (iv_V_eq (I := (((183, 1), .iconst 1, 0, 0, 0) : iv_I)) rfl).trans (congrArg (fun c => iv_V call mc_45 rt 111 L (.int c :: st) w) li_o1)
theorem e45_111 : iv_V call mc_45 rt 111 L st w = iv_p2 st fun x y st' => iv_V call mc_45 rt 112 L (.int (x - y) :: st') w := iv_V_eq (I := (((184, 1), .isub, 0, 0, 0) : iv_I)) rfl
theorem e45_112 : iv_V call mc_45 rt 112 L st w = iv_V call mc_45 rt 114 L (st) w := iv_V_eq (I := (((185, 3), .goto 4, 114, 0, 0) : iv_I)) rfl
theorem e45_113 : iv_V call mc_45 rt 113 L st w = iv_V call mc_45 rt 114 L (.int 0 :: st) w := (iv_V_eq (I := (((188, 1), .iconst 0, 0, 0, 0) : iv_I)) rfl).trans (congrArg (fun c => iv_V call mc_45 rt 114 L (.int c :: st) w) li_o0)
theorem e45_114 : iv_V call mc_45 rt 114 L st w = iv_ast w st iv_isI fun st' w' => iv_V call mc_45 rt 115 L (st') w' := iv_V_eq (I := (((189, 1), .iastore, 0, 0, 0) : iv_I)) rfl
theorem e45_115 : iv_V call mc_45 rt 115 L st w = iv_V call mc_45 rt 116 L (.int 1 :: st) w := (iv_V_eq (I := (((190, 1), .iconst 1, 0, 0, 0) : iv_I)) rfl).trans (congrArg (fun c => iv_V call mc_45 rt 116 L (.int c :: st) w) li_o1)
theorem e45_116 : iv_V call mc_45 rt 116 L st w = iv_p1 st fun x st' => iv_sto L 7 (.int x) fun L' => iv_V call mc_45 rt 117 L' (st') w := iv_V_eq (I := (((191, 2), .istore 7, 0, 0, 0) : iv_I)) rfl
theorem e45_117 : iv_V call mc_45 rt 117 L st w = iv_ldi L 7 fun x => iv_V call mc_45 rt 118 L (.int x :: st) w := iv_V_eq (I := (((193, 2), .iload 7, 0, 0, 0) : iv_I)) rfl
theorem e45_118 : iv_V call mc_45 rt 118 L st w = iv_lda L 0 fun x => iv_V call mc_45 rt 119 L (x :: st) w := iv_V_eq (I := (((195, 1), .aload_n 0, 0, 0, 0) : iv_I)) rfl
theorem e45_119 : iv_V call mc_45 rt 119 L st w = iv_gf w st 1 28 fun v st' => iv_V call mc_45 rt 120 L (v :: st') w := iv_V_eq (I := (((196, 3), .getfield 163, 1, 28, 627) : iv_I)) rfl
theorem e45_120 : iv_V call mc_45 rt 120 L st w = iv_p2 st fun x y st' => if y ≤ x then iv_V call mc_45 rt 153 L (st') w else iv_V call mc_45 rt 121 L (st') w := (iv_V_eq (I := (((199, 3), .if_icmp .ge 57, 153, 0, 0) : iv_I)) rfl).trans (by simp only [iv_go, iv_cnd, decide_eq_true_eq])
theorem e45_121 : iv_V call mc_45 rt 121 L st w = iv_lda L 0 fun x => iv_V call mc_45 rt 122 L (x :: st) w := iv_V_eq (I := (((202, 1), .aload_n 0, 0, 0, 0) : iv_I)) rfl
theorem e45_122 : iv_V call mc_45 rt 122 L st w = iv_gf w st 1 44 fun v st' => iv_V call mc_45 rt 123 L (v :: st') w := iv_V_eq (I := (((203, 3), .getfield 122, 1, 44, 643) : iv_I)) rfl
theorem e45_123 : iv_V call mc_45 rt 123 L st w = iv_V call mc_45 rt 124 L (.int 16 :: st) w := (iv_V_eq (I := (((206, 2), .bipush 16, 0, 0, 0) : iv_I)) rfl).trans (congrArg (fun c => iv_V call mc_45 rt 124 L (.int c :: st) w) li_b16)
theorem e45_124 : iv_V call mc_45 rt 124 L st w = iv_lda L 0 fun x => iv_V call mc_45 rt 125 L (x :: st) w := iv_V_eq (I := (((208, 1), .aload_n 0, 0, 0, 0) : iv_I)) rfl
theorem e45_125 : iv_V call mc_45 rt 125 L st w = iv_gf w st 1 41 fun v st' => iv_V call mc_45 rt 126 L (v :: st') w := iv_V_eq (I := (((209, 3), .getfield 160, 1, 41, 640) : iv_I)) rfl
theorem e45_126 : iv_V call mc_45 rt 126 L st w = iv_p2 st fun x y st' => iv_V call mc_45 rt 127 L (.int (x * y) :: st') w := iv_V_eq (I := (((212, 1), .imul, 0, 0, 0) : iv_I)) rfl
theorem e45_127 : iv_V call mc_45 rt 127 L st w = iv_ldi L 7 fun x => iv_V call mc_45 rt 128 L (.int x :: st) w := iv_V_eq (I := (((213, 2), .iload 7, 0, 0, 0) : iv_I)) rfl
theorem e45_128 : iv_V call mc_45 rt 128 L st w = iv_p2 st fun x y st' => iv_V call mc_45 rt 129 L (.int (x + y) :: st') w := iv_V_eq (I := (((215, 1), .iadd, 0, 0, 0) : iv_I)) rfl
theorem e45_129 : iv_V call mc_45 rt 129 L st w = iv_V call mc_45 rt 130 L (.int 1 :: st) w := (iv_V_eq (I := (((216, 1), .iconst 1, 0, 0, 0) : iv_I)) rfl).trans (congrArg (fun c => iv_V call mc_45 rt 130 L (.int c :: st) w) li_o1)
theorem e45_130 : iv_V call mc_45 rt 130 L st w = iv_p2 st fun x y st' => iv_V call mc_45 rt 131 L (.int (x - y) :: st') w := iv_V_eq (I := (((217, 1), .isub, 0, 0, 0) : iv_I)) rfl
theorem e45_131 : iv_V call mc_45 rt 131 L st w = iv_lda L 0 fun x => iv_V call mc_45 rt 132 L (x :: st) w := iv_V_eq (I := (((218, 1), .aload_n 0, 0, 0, 0) : iv_I)) rfl
theorem e45_132 : iv_V call mc_45 rt 132 L st w = iv_gf w st 1 37 fun v st' => iv_V call mc_45 rt 133 L (v :: st') w := iv_V_eq (I := (((219, 3), .getfield 107, 1, 37, 636) : iv_I)) rfl
theorem e45_133 : iv_V call mc_45 rt 133 L st w = iv_ldi L 7 fun x => iv_V call mc_45 rt 134 L (.int x :: st) w := iv_V_eq (I := (((222, 2), .iload 7, 0, 0, 0) : iv_I)) rfl
theorem e45_134 : iv_V call mc_45 rt 134 L st w = iv_ald w st iv_isI fun v st' => iv_V call mc_45 rt 135 L (v :: st') w := iv_V_eq (I := (((224, 1), .iaload, 0, 0, 0) : iv_I)) rfl
theorem e45_135 : iv_V call mc_45 rt 135 L st w = iv_ast w st iv_isI fun st' w' => iv_V call mc_45 rt 136 L (st') w' := iv_V_eq (I := (((225, 1), .iastore, 0, 0, 0) : iv_I)) rfl
theorem e45_136 : iv_V call mc_45 rt 136 L st w = iv_lda L 0 fun x => iv_V call mc_45 rt 137 L (x :: st) w := iv_V_eq (I := (((226, 1), .aload_n 0, 0, 0, 0) : iv_I)) rfl
theorem e45_137 : iv_V call mc_45 rt 137 L st w = iv_gf w st 1 45 fun v st' => iv_V call mc_45 rt 138 L (v :: st') w := iv_V_eq (I := (((227, 3), .getfield 125, 1, 45, 644) : iv_I)) rfl
theorem e45_138 : iv_V call mc_45 rt 138 L st w = iv_V call mc_45 rt 139 L (.int 16 :: st) w := (iv_V_eq (I := (((230, 2), .bipush 16, 0, 0, 0) : iv_I)) rfl).trans (congrArg (fun c => iv_V call mc_45 rt 139 L (.int c :: st) w) li_b16)
theorem e45_139 : iv_V call mc_45 rt 139 L st w = iv_lda L 0 fun x => iv_V call mc_45 rt 140 L (x :: st) w := iv_V_eq (I := (((232, 1), .aload_n 0, 0, 0, 0) : iv_I)) rfl
theorem e45_140 : iv_V call mc_45 rt 140 L st w = iv_gf w st 1 41 fun v st' => iv_V call mc_45 rt 141 L (v :: st') w := iv_V_eq (I := (((233, 3), .getfield 160, 1, 41, 640) : iv_I)) rfl
theorem e45_141 : iv_V call mc_45 rt 141 L st w = iv_p2 st fun x y st' => iv_V call mc_45 rt 142 L (.int (x * y) :: st') w := iv_V_eq (I := (((236, 1), .imul, 0, 0, 0) : iv_I)) rfl
theorem e45_142 : iv_V call mc_45 rt 142 L st w = iv_ldi L 7 fun x => iv_V call mc_45 rt 143 L (.int x :: st) w := iv_V_eq (I := (((237, 2), .iload 7, 0, 0, 0) : iv_I)) rfl
theorem e45_143 : iv_V call mc_45 rt 143 L st w = iv_p2 st fun x y st' => iv_V call mc_45 rt 144 L (.int (x + y) :: st') w := iv_V_eq (I := (((239, 1), .iadd, 0, 0, 0) : iv_I)) rfl
theorem e45_144 : iv_V call mc_45 rt 144 L st w = iv_V call mc_45 rt 145 L (.int 1 :: st) w := (iv_V_eq (I := (((240, 1), .iconst 1, 0, 0, 0) : iv_I)) rfl).trans (congrArg (fun c => iv_V call mc_45 rt 145 L (.int c :: st) w) li_o1)
theorem e45_145 : iv_V call mc_45 rt 145 L st w = iv_p2 st fun x y st' => iv_V call mc_45 rt 146 L (.int (x - y) :: st') w := iv_V_eq (I := (((241, 1), .isub, 0, 0, 0) : iv_I)) rfl
theorem e45_146 : iv_V call mc_45 rt 146 L st w = iv_lda L 0 fun x => iv_V call mc_45 rt 147 L (x :: st) w := iv_V_eq (I := (((242, 1), .aload_n 0, 0, 0, 0) : iv_I)) rfl
theorem e45_147 : iv_V call mc_45 rt 147 L st w = iv_gf w st 1 38 fun v st' => iv_V call mc_45 rt 148 L (v :: st') w := iv_V_eq (I := (((243, 3), .getfield 110, 1, 38, 637) : iv_I)) rfl
theorem e45_148 : iv_V call mc_45 rt 148 L st w = iv_ldi L 7 fun x => iv_V call mc_45 rt 149 L (.int x :: st) w := iv_V_eq (I := (((246, 2), .iload 7, 0, 0, 0) : iv_I)) rfl
theorem e45_149 : iv_V call mc_45 rt 149 L st w = iv_ald w st iv_isI fun v st' => iv_V call mc_45 rt 150 L (v :: st') w := iv_V_eq (I := (((248, 1), .iaload, 0, 0, 0) : iv_I)) rfl
theorem e45_150 : iv_V call mc_45 rt 150 L st w = iv_ast w st iv_isI fun st' w' => iv_V call mc_45 rt 151 L (st') w' := iv_V_eq (I := (((249, 1), .iastore, 0, 0, 0) : iv_I)) rfl
theorem e45_151 : iv_V call mc_45 rt 151 L st w = iv_ldi L 7 fun x => iv_sto L 7 (.int (x + 1)) fun L' => iv_V call mc_45 rt 152 L' (st) w := (iv_V_eq (I := (((250, 3), .iinc 7 1, 0, 0, 0) : iv_I)) rfl).trans (congrArg (fun c => iv_ldi L 7 fun x => iv_sto L 7 (.int (x + c)) fun L' => iv_V call mc_45 rt 152 L' (st) w) li_o1)
theorem e45_152 : iv_V call mc_45 rt 152 L st w = iv_V call mc_45 rt 117 L (st) w := iv_V_eq (I := (((253, 3), .goto (-60), 117, 0, 0) : iv_I)) rfl
theorem e45_153 : iv_V call mc_45 rt 153 L st w = iv_lda L 0 fun x => iv_V call mc_45 rt 154 L (x :: st) w := iv_V_eq (I := (((256, 1), .aload_n 0, 0, 0, 0) : iv_I)) rfl
theorem e45_154 : iv_V call mc_45 rt 154 L st w = iv_d1 st fun a st' => iv_V call mc_45 rt 155 L (a :: a :: st') w := iv_V_eq (I := (((257, 1), .dup, 0, 0, 0) : iv_I)) rfl
theorem e45_155 : iv_V call mc_45 rt 155 L st w = iv_gf w st 1 41 fun v st' => iv_V call mc_45 rt 156 L (v :: st') w := iv_V_eq (I := (((258, 3), .getfield 160, 1, 41, 640) : iv_I)) rfl
theorem e45_156 : iv_V call mc_45 rt 156 L st w = iv_V call mc_45 rt 157 L (.int 1 :: st) w := (iv_V_eq (I := (((261, 1), .iconst 1, 0, 0, 0) : iv_I)) rfl).trans (congrArg (fun c => iv_V call mc_45 rt 157 L (.int c :: st) w) li_o1)
theorem e45_157 : iv_V call mc_45 rt 157 L st w = iv_p2 st fun x y st' => iv_V call mc_45 rt 158 L (.int (x + y) :: st') w := iv_V_eq (I := (((262, 1), .iadd, 0, 0, 0) : iv_I)) rfl
theorem e45_158 : iv_V call mc_45 rt 158 L st w = iv_pf w st 1 41 fun st' w' => iv_V call mc_45 rt 159 L (st') w' := iv_V_eq (I := (((263, 3), .putfield 160, 1, 41, 640) : iv_I)) rfl
theorem e45_159 : iv_V call mc_45 rt 159 L st w = iv_V call mc_45 rt 160 L (.int 1 :: st) w := (iv_V_eq (I := (((266, 1), .iconst 1, 0, 0, 0) : iv_I)) rfl).trans (congrArg (fun c => iv_V call mc_45 rt 160 L (.int c :: st) w) li_o1)
theorem e45_160 : iv_V call mc_45 rt 160 L st w = iv_ret rt st w := iv_V_eq (I := (((267, 1), .ireturn, 0, 0, 0) : iv_I)) rfl
theorem e46_0 : iv_V call mc_46 rt 0 L st w = iv_V call mc_46 rt 1 L (.int 14 :: st) w := (iv_V_eq (I := (((0, 2), .bipush 14, 0, 0, 0) : iv_I)) rfl).trans (congrArg (fun c => iv_V call mc_46 rt 1 L (.int c :: st) w) li_b14)
theorem e46_1 : iv_V call mc_46 rt 1 L st w = iv_ldi L 1 fun x => iv_V call mc_46 rt 2 L (.int x :: st) w := iv_V_eq (I := (((2, 1), .iload_n 1, 0, 0, 0) : iv_I)) rfl
theorem e46_2 : iv_V call mc_46 rt 2 L st w = iv_p2 st fun x y st' => iv_V call mc_46 rt 3 L (.int (x * y) :: st') w := iv_V_eq (I := (((3, 1), .imul, 0, 0, 0) : iv_I)) rfl
theorem e46_3 : iv_V call mc_46 rt 3 L st w = iv_lda L 0 fun x => iv_V call mc_46 rt 4 L (x :: st) w := iv_V_eq (I := (((4, 1), .aload_n 0, 0, 0, 0) : iv_I)) rfl
theorem e46_4 : iv_V call mc_46 rt 4 L st w = iv_gf w st 1 8 fun v st' => iv_V call mc_46 rt 5 L (v :: st') w := iv_V_eq (I := (((5, 3), .getfield 26, 1, 8, 607) : iv_I)) rfl
theorem e46_5 : iv_V call mc_46 rt 5 L st w = iv_ldi L 2 fun x => iv_V call mc_46 rt 6 L (.int x :: st) w := iv_V_eq (I := (((8, 1), .iload_n 2, 0, 0, 0) : iv_I)) rfl
theorem e46_6 : iv_V call mc_46 rt 6 L st w = iv_ald w st iv_isI fun v st' => iv_V call mc_46 rt 7 L (v :: st') w := iv_V_eq (I := (((9, 1), .iaload, 0, 0, 0) : iv_I)) rfl
theorem e46_7 : iv_V call mc_46 rt 7 L st w = iv_p2 st fun x y st' => iv_V call mc_46 rt 8 L (.int (x + y) :: st') w := iv_V_eq (I := (((10, 1), .iadd, 0, 0, 0) : iv_I)) rfl
theorem e46_8 : iv_V call mc_46 rt 8 L st w = iv_p1 st fun x st' => iv_sto L 4 (.int x) fun L' => iv_V call mc_46 rt 9 L' (st') w := iv_V_eq (I := (((11, 2), .istore 4, 0, 0, 0) : iv_I)) rfl
theorem e46_9 : iv_V call mc_46 rt 9 L st w = iv_ldi L 3 fun x => iv_V call mc_46 rt 10 L (.int x :: st) w := iv_V_eq (I := (((13, 1), .iload_n 3, 0, 0, 0) : iv_I)) rfl
theorem e46_10 : iv_V call mc_46 rt 10 L st w = iv_p1 st fun x st' => if x < 0 then iv_V call mc_46 rt 20 L (st') w else iv_V call mc_46 rt 11 L (st') w := (iv_V_eq (I := (((14, 3), .ifCond .lt 17, 20, 0, 0) : iv_I)) rfl).trans (by simp only [iv_go, iv_cnd, decide_eq_true_eq])
theorem e46_11 : iv_V call mc_46 rt 11 L st w = iv_lda L 0 fun x => iv_V call mc_46 rt 12 L (x :: st) w := iv_V_eq (I := (((17, 1), .aload_n 0, 0, 0, 0) : iv_I)) rfl
theorem e46_12 : iv_V call mc_46 rt 12 L st w = iv_gf w st 1 27 fun v st' => iv_V call mc_46 rt 13 L (v :: st') w := iv_V_eq (I := (((18, 3), .getfield 80, 1, 27, 626) : iv_I)) rfl
theorem e46_13 : iv_V call mc_46 rt 13 L st w = iv_V call mc_46 rt 14 L (.int 3 :: st) w := (iv_V_eq (I := (((21, 1), .iconst 3, 0, 0, 0) : iv_I)) rfl).trans (congrArg (fun c => iv_V call mc_46 rt 14 L (.int c :: st) w) li_o3)
theorem e46_14 : iv_V call mc_46 rt 14 L st w = iv_ldi L 4 fun x => iv_V call mc_46 rt 15 L (.int x :: st) w := iv_V_eq (I := (((22, 2), .iload 4, 0, 0, 0) : iv_I)) rfl
theorem e46_15 : iv_V call mc_46 rt 15 L st w = iv_p2 st fun x y st' => iv_V call mc_46 rt 16 L (.int (x * y) :: st') w := iv_V_eq (I := (((24, 1), .imul, 0, 0, 0) : iv_I)) rfl
theorem e46_16 : iv_V call mc_46 rt 16 L st w = iv_ldi L 3 fun x => iv_V call mc_46 rt 17 L (.int x :: st) w := iv_V_eq (I := (((25, 1), .iload_n 3, 0, 0, 0) : iv_I)) rfl
theorem e46_17 : iv_V call mc_46 rt 17 L st w = iv_p2 st fun x y st' => iv_V call mc_46 rt 18 L (.int (x + y) :: st') w := iv_V_eq (I := (((26, 1), .iadd, 0, 0, 0) : iv_I)) rfl
theorem e46_18 : iv_V call mc_46 rt 18 L st w = iv_ald w st iv_isI fun v st' => iv_V call mc_46 rt 19 L (v :: st') w := iv_V_eq (I := (((27, 1), .iaload, 0, 0, 0) : iv_I)) rfl
theorem e46_19 : iv_V call mc_46 rt 19 L st w = iv_V call mc_46 rt 24 L (st) w := iv_V_eq (I := (((28, 3), .goto 10, 24, 0, 0) : iv_I)) rfl
theorem e46_20 : iv_V call mc_46 rt 20 L st w = iv_lda L 0 fun x => iv_V call mc_46 rt 21 L (x :: st) w := iv_V_eq (I := (((31, 1), .aload_n 0, 0, 0, 0) : iv_I)) rfl
theorem e46_21 : iv_V call mc_46 rt 21 L st w = iv_gf w st 1 26 fun v st' => iv_V call mc_46 rt 22 L (v :: st') w := iv_V_eq (I := (((32, 3), .getfield 77, 1, 26, 625) : iv_I)) rfl
theorem e46_22 : iv_V call mc_46 rt 22 L st w = iv_ldi L 4 fun x => iv_V call mc_46 rt 23 L (.int x :: st) w := iv_V_eq (I := (((35, 2), .iload 4, 0, 0, 0) : iv_I)) rfl
theorem e46_23 : iv_V call mc_46 rt 23 L st w = iv_ald w st iv_isI fun v st' => iv_V call mc_46 rt 24 L (v :: st') w := iv_V_eq (I := (((37, 1), .iaload, 0, 0, 0) : iv_I)) rfl
theorem e46_24 : iv_V call mc_46 rt 24 L st w = iv_p1 st fun x st' => iv_sto L 5 (.int x) fun L' => iv_V call mc_46 rt 25 L' (st') w := iv_V_eq (I := (((38, 2), .istore 5, 0, 0, 0) : iv_I)) rfl
theorem e46_25 : iv_V call mc_46 rt 25 L st w = iv_ldi L 3 fun x => iv_V call mc_46 rt 26 L (.int x :: st) w := iv_V_eq (I := (((40, 1), .iload_n 3, 0, 0, 0) : iv_I)) rfl
theorem e46_26 : iv_V call mc_46 rt 26 L st w = iv_p1 st fun x st' => if x < 0 then iv_V call mc_46 rt 29 L (st') w else iv_V call mc_46 rt 27 L (st') w := (iv_V_eq (I := (((41, 3), .ifCond .lt 7, 29, 0, 0) : iv_I)) rfl).trans (by simp only [iv_go, iv_cnd, decide_eq_true_eq])
theorem e46_27 : iv_V call mc_46 rt 27 L st w = iv_V call mc_46 rt 28 L (.int 1 :: st) w := (iv_V_eq (I := (((44, 1), .iconst 1, 0, 0, 0) : iv_I)) rfl).trans (congrArg (fun c => iv_V call mc_46 rt 28 L (.int c :: st) w) li_o1)
theorem e46_28 : iv_V call mc_46 rt 28 L st w = iv_V call mc_46 rt 30 L (st) w := iv_V_eq (I := (((45, 3), .goto 4, 30, 0, 0) : iv_I)) rfl
theorem e46_29 : iv_V call mc_46 rt 29 L st w = iv_V call mc_46 rt 30 L (.int 0 :: st) w := (iv_V_eq (I := (((48, 1), .iconst 0, 0, 0, 0) : iv_I)) rfl).trans (congrArg (fun c => iv_V call mc_46 rt 30 L (.int c :: st) w) li_o0)
theorem e46_30 : iv_V call mc_46 rt 30 L st w = iv_p1 st fun x st' => iv_sto L 6 (.int x) fun L' => iv_V call mc_46 rt 31 L' (st') w := iv_V_eq (I := (((49, 2), .istore 6, 0, 0, 0) : iv_I)) rfl
theorem e46_31 : iv_V call mc_46 rt 31 L st w = iv_lda L 0 fun x => iv_V call mc_46 rt 32 L (x :: st) w := iv_V_eq (I := (((51, 1), .aload_n 0, 0, 0, 0) : iv_I)) rfl
theorem e46_32 : iv_V call mc_46 rt 32 L st w = iv_gf w st 1 10 fun v st' => iv_V call mc_46 rt 33 L (v :: st') w := iv_V_eq (I := (((52, 3), .getfield 32, 1, 10, 609) : iv_I)) rfl
theorem e46_33 : iv_V call mc_46 rt 33 L st w = iv_ldi L 2 fun x => iv_V call mc_46 rt 34 L (.int x :: st) w := iv_V_eq (I := (((55, 1), .iload_n 2, 0, 0, 0) : iv_I)) rfl
theorem e46_34 : iv_V call mc_46 rt 34 L st w = iv_ald w st iv_isI fun v st' => iv_V call mc_46 rt 35 L (v :: st') w := iv_V_eq (I := (((56, 1), .iaload, 0, 0, 0) : iv_I)) rfl
theorem e46_35 : iv_V call mc_46 rt 35 L st w = iv_V call mc_46 rt 36 L (.int 4 :: st) w := (iv_V_eq (I := (((57, 1), .iconst 4, 0, 0, 0) : iv_I)) rfl).trans (congrArg (fun c => iv_V call mc_46 rt 36 L (.int c :: st) w) li_o4)
theorem e46_36 : iv_V call mc_46 rt 36 L st w = iv_p2 st fun x y st' => if x = y then iv_V call mc_46 rt 64 L (st') w else iv_V call mc_46 rt 37 L (st') w := (iv_V_eq (I := (((58, 3), .if_icmp .eq 48, 64, 0, 0) : iv_I)) rfl).trans (by simp only [iv_go, iv_cnd, decide_eq_true_eq])
theorem e46_37 : iv_V call mc_46 rt 37 L st w = iv_lda L 0 fun x => iv_V call mc_46 rt 38 L (x :: st) w := iv_V_eq (I := (((61, 1), .aload_n 0, 0, 0, 0) : iv_I)) rfl
theorem e46_38 : iv_V call mc_46 rt 38 L st w = iv_gf w st 1 10 fun v st' => iv_V call mc_46 rt 39 L (v :: st') w := iv_V_eq (I := (((62, 3), .getfield 32, 1, 10, 609) : iv_I)) rfl
theorem e46_39 : iv_V call mc_46 rt 39 L st w = iv_ldi L 2 fun x => iv_V call mc_46 rt 40 L (.int x :: st) w := iv_V_eq (I := (((65, 1), .iload_n 2, 0, 0, 0) : iv_I)) rfl
theorem e46_40 : iv_V call mc_46 rt 40 L st w = iv_ald w st iv_isI fun v st' => iv_V call mc_46 rt 41 L (v :: st') w := iv_V_eq (I := (((66, 1), .iaload, 0, 0, 0) : iv_I)) rfl
theorem e46_41 : iv_V call mc_46 rt 41 L st w = iv_lda L 0 fun x => iv_V call mc_46 rt 42 L (x :: st) w := iv_V_eq (I := (((67, 1), .aload_n 0, 0, 0, 0) : iv_I)) rfl
theorem e46_42 : iv_V call mc_46 rt 42 L st w = iv_gf w st 1 11 fun v st' => iv_V call mc_46 rt 43 L (v :: st') w := iv_V_eq (I := (((68, 3), .getfield 35, 1, 11, 610) : iv_I)) rfl
theorem e46_43 : iv_V call mc_46 rt 43 L st w = iv_ldi L 2 fun x => iv_V call mc_46 rt 44 L (.int x :: st) w := iv_V_eq (I := (((71, 1), .iload_n 2, 0, 0, 0) : iv_I)) rfl
theorem e46_44 : iv_V call mc_46 rt 44 L st w = iv_ald w st iv_isI fun v st' => iv_V call mc_46 rt 45 L (v :: st') w := iv_V_eq (I := (((72, 1), .iaload, 0, 0, 0) : iv_I)) rfl
theorem e46_45 : iv_V call mc_46 rt 45 L st w = iv_lda L 0 fun x => iv_V call mc_46 rt 46 L (x :: st) w := iv_V_eq (I := (((73, 1), .aload_n 0, 0, 0, 0) : iv_I)) rfl
theorem e46_46 : iv_V call mc_46 rt 46 L st w = iv_gf w st 1 12 fun v st' => iv_V call mc_46 rt 47 L (v :: st') w := iv_V_eq (I := (((74, 3), .getfield 38, 1, 12, 611) : iv_I)) rfl
theorem e46_47 : iv_V call mc_46 rt 47 L st w = iv_ldi L 2 fun x => iv_V call mc_46 rt 48 L (.int x :: st) w := iv_V_eq (I := (((77, 1), .iload_n 2, 0, 0, 0) : iv_I)) rfl
theorem e46_48 : iv_V call mc_46 rt 48 L st w = iv_ald w st iv_isI fun v st' => iv_V call mc_46 rt 49 L (v :: st') w := iv_V_eq (I := (((78, 1), .iaload, 0, 0, 0) : iv_I)) rfl
theorem e46_49 : iv_V call mc_46 rt 49 L st w = iv_ldi L 5 fun x => iv_V call mc_46 rt 50 L (.int x :: st) w := iv_V_eq (I := (((79, 2), .iload 5, 0, 0, 0) : iv_I)) rfl
theorem e46_50 : iv_V call mc_46 rt 50 L st w = iv_ldi L 6 fun x => iv_V call mc_46 rt 51 L (.int x :: st) w := iv_V_eq (I := (((81, 2), .iload 6, 0, 0, 0) : iv_I)) rfl
theorem e46_51 : iv_V call mc_46 rt 51 L st w = iv_inv call 44 5 (fun _ => true) st w fun st' w' => iv_V call mc_46 rt 52 L (st') w' := iv_V_eq (I := (((83, 3), .invokestatic 166, 44, 5, 863) : iv_I)) rfl
theorem e46_52 : iv_V call mc_46 rt 52 L st w = iv_p1 st fun x st' => if x = 0 then iv_V call mc_46 rt 60 L (st') w else iv_V call mc_46 rt 53 L (st') w := (iv_V_eq (I := (((86, 3), .ifCond .eq 14, 60, 0, 0) : iv_I)) rfl).trans (by simp only [iv_go, iv_cnd, decide_eq_true_eq])
theorem e46_53 : iv_V call mc_46 rt 53 L st w = iv_lda L 0 fun x => iv_V call mc_46 rt 54 L (x :: st) w := iv_V_eq (I := (((89, 1), .aload_n 0, 0, 0, 0) : iv_I)) rfl
theorem e46_54 : iv_V call mc_46 rt 54 L st w = iv_ldi L 1 fun x => iv_V call mc_46 rt 55 L (.int x :: st) w := iv_V_eq (I := (((90, 1), .iload_n 1, 0, 0, 0) : iv_I)) rfl
theorem e46_55 : iv_V call mc_46 rt 55 L st w = iv_ldi L 2 fun x => iv_V call mc_46 rt 56 L (.int x :: st) w := iv_V_eq (I := (((91, 1), .iload_n 2, 0, 0, 0) : iv_I)) rfl
theorem e46_56 : iv_V call mc_46 rt 56 L st w = iv_ldi L 3 fun x => iv_V call mc_46 rt 57 L (.int x :: st) w := iv_V_eq (I := (((92, 1), .iload_n 3, 0, 0, 0) : iv_I)) rfl
theorem e46_57 : iv_V call mc_46 rt 57 L st w = iv_V call mc_46 rt 58 L (.int (-1) :: st) w := (iv_V_eq (I := (((93, 1), .iconst (-1), 0, 0, 0) : iv_I)) rfl).trans (congrArg (fun c => iv_V call mc_46 rt 58 L (.int c :: st) w) li_om1)
theorem e46_58 : iv_V call mc_46 rt 58 L st w = iv_inv call 45 5 (fun as => iv_rc w as (iv_mc 45)) st w fun st' w' => iv_V call mc_46 rt 59 L (st') w' := iv_V_eq (I := (((94, 3), .invokevirtual 170, 45, 5, 866) : iv_I)) rfl
theorem e46_59 : iv_V call mc_46 rt 59 L st w = iv_p1 st fun x st' => if x = 0 then iv_V call mc_46 rt 62 L (st') w else iv_V call mc_46 rt 60 L (st') w := (iv_V_eq (I := (((97, 3), .ifCond .eq 7, 62, 0, 0) : iv_I)) rfl).trans (by simp only [iv_go, iv_cnd, decide_eq_true_eq])
theorem e46_60 : iv_V call mc_46 rt 60 L st w = iv_V call mc_46 rt 61 L (.int 1 :: st) w := (iv_V_eq (I := (((100, 1), .iconst 1, 0, 0, 0) : iv_I)) rfl).trans (congrArg (fun c => iv_V call mc_46 rt 61 L (.int c :: st) w) li_o1)
theorem e46_61 : iv_V call mc_46 rt 61 L st w = iv_V call mc_46 rt 63 L (st) w := iv_V_eq (I := (((101, 3), .goto 4, 63, 0, 0) : iv_I)) rfl
theorem e46_62 : iv_V call mc_46 rt 62 L st w = iv_V call mc_46 rt 63 L (.int 0 :: st) w := (iv_V_eq (I := (((104, 1), .iconst 0, 0, 0, 0) : iv_I)) rfl).trans (congrArg (fun c => iv_V call mc_46 rt 63 L (.int c :: st) w) li_o0)
theorem e46_63 : iv_V call mc_46 rt 63 L st w = iv_ret rt st w := iv_V_eq (I := (((105, 1), .ireturn, 0, 0, 0) : iv_I)) rfl
theorem e46_64 : iv_V call mc_46 rt 64 L st w = iv_lda L 0 fun x => iv_V call mc_46 rt 65 L (x :: st) w := iv_V_eq (I := (((106, 1), .aload_n 0, 0, 0, 0) : iv_I)) rfl
theorem e46_65 : iv_V call mc_46 rt 65 L st w = iv_gf w st 1 11 fun v st' => iv_V call mc_46 rt 66 L (v :: st') w := iv_V_eq (I := (((107, 3), .getfield 35, 1, 11, 610) : iv_I)) rfl
theorem e46_66 : iv_V call mc_46 rt 66 L st w = iv_ldi L 2 fun x => iv_V call mc_46 rt 67 L (.int x :: st) w := iv_V_eq (I := (((110, 1), .iload_n 2, 0, 0, 0) : iv_I)) rfl
theorem e46_67 : iv_V call mc_46 rt 67 L st w = iv_ald w st iv_isI fun v st' => iv_V call mc_46 rt 68 L (v :: st') w := iv_V_eq (I := (((111, 1), .iaload, 0, 0, 0) : iv_I)) rfl
theorem e46_68 : iv_V call mc_46 rt 68 L st w = iv_p1 st fun x st' => iv_sto L 7 (.int x) fun L' => iv_V call mc_46 rt 69 L' (st') w := iv_V_eq (I := (((112, 2), .istore 7, 0, 0, 0) : iv_I)) rfl
theorem e46_69 : iv_V call mc_46 rt 69 L st w = iv_V call mc_46 rt 70 L (.int 0 :: st) w := (iv_V_eq (I := (((114, 1), .iconst 0, 0, 0, 0) : iv_I)) rfl).trans (congrArg (fun c => iv_V call mc_46 rt 70 L (.int c :: st) w) li_o0)
theorem e46_70 : iv_V call mc_46 rt 70 L st w = iv_p1 st fun x st' => iv_sto L 8 (.int x) fun L' => iv_V call mc_46 rt 71 L' (st') w := iv_V_eq (I := (((115, 2), .istore 8, 0, 0, 0) : iv_I)) rfl
theorem e46_71 : iv_V call mc_46 rt 71 L st w = iv_V call mc_46 rt 72 L (.int 3 :: st) w := (iv_V_eq (I := (((117, 1), .iconst 3, 0, 0, 0) : iv_I)) rfl).trans (congrArg (fun c => iv_V call mc_46 rt 72 L (.int c :: st) w) li_o3)
theorem e46_72 : iv_V call mc_46 rt 72 L st w = iv_ldi L 7 fun x => iv_V call mc_46 rt 73 L (.int x :: st) w := iv_V_eq (I := (((118, 2), .iload 7, 0, 0, 0) : iv_I)) rfl
theorem e46_73 : iv_V call mc_46 rt 73 L st w = iv_p2 st fun x y st' => iv_V call mc_46 rt 74 L (.int (x * y) :: st') w := iv_V_eq (I := (((120, 1), .imul, 0, 0, 0) : iv_I)) rfl
theorem e46_74 : iv_V call mc_46 rt 74 L st w = iv_p1 st fun x st' => iv_sto L 9 (.int x) fun L' => iv_V call mc_46 rt 75 L' (st') w := iv_V_eq (I := (((121, 2), .istore 9, 0, 0, 0) : iv_I)) rfl
theorem e46_75 : iv_V call mc_46 rt 75 L st w = iv_ldi L 9 fun x => iv_V call mc_46 rt 76 L (.int x :: st) w := iv_V_eq (I := (((123, 2), .iload 9, 0, 0, 0) : iv_I)) rfl
theorem e46_76 : iv_V call mc_46 rt 76 L st w = iv_V call mc_46 rt 77 L (.int 3 :: st) w := (iv_V_eq (I := (((125, 1), .iconst 3, 0, 0, 0) : iv_I)) rfl).trans (congrArg (fun c => iv_V call mc_46 rt 77 L (.int c :: st) w) li_o3)
theorem e46_77 : iv_V call mc_46 rt 77 L st w = iv_ldi L 7 fun x => iv_V call mc_46 rt 78 L (.int x :: st) w := iv_V_eq (I := (((126, 2), .iload 7, 0, 0, 0) : iv_I)) rfl
theorem e46_78 : iv_V call mc_46 rt 78 L st w = iv_p2 st fun x y st' => iv_V call mc_46 rt 79 L (.int (x * y) :: st') w := iv_V_eq (I := (((128, 1), .imul, 0, 0, 0) : iv_I)) rfl
theorem e46_79 : iv_V call mc_46 rt 79 L st w = iv_lda L 0 fun x => iv_V call mc_46 rt 80 L (x :: st) w := iv_V_eq (I := (((129, 1), .aload_n 0, 0, 0, 0) : iv_I)) rfl
theorem e46_80 : iv_V call mc_46 rt 80 L st w = iv_gf w st 1 14 fun v st' => iv_V call mc_46 rt 81 L (v :: st') w := iv_V_eq (I := (((130, 3), .getfield 44, 1, 14, 613) : iv_I)) rfl
theorem e46_81 : iv_V call mc_46 rt 81 L st w = iv_ldi L 7 fun x => iv_V call mc_46 rt 82 L (.int x :: st) w := iv_V_eq (I := (((133, 2), .iload 7, 0, 0, 0) : iv_I)) rfl
theorem e46_82 : iv_V call mc_46 rt 82 L st w = iv_ald w st iv_isI fun v st' => iv_V call mc_46 rt 83 L (v :: st') w := iv_V_eq (I := (((135, 1), .iaload, 0, 0, 0) : iv_I)) rfl
theorem e46_83 : iv_V call mc_46 rt 83 L st w = iv_p2 st fun x y st' => iv_V call mc_46 rt 84 L (.int (x + y) :: st') w := iv_V_eq (I := (((136, 1), .iadd, 0, 0, 0) : iv_I)) rfl
theorem e46_84 : iv_V call mc_46 rt 84 L st w = iv_p2 st fun x y st' => if y ≤ x then iv_V call mc_46 rt 131 L (st') w else iv_V call mc_46 rt 85 L (st') w := (iv_V_eq (I := (((137, 3), .if_icmp .ge 90, 131, 0, 0) : iv_I)) rfl).trans (by simp only [iv_go, iv_cnd, decide_eq_true_eq])
theorem e46_85 : iv_V call mc_46 rt 85 L st w = iv_lda L 0 fun x => iv_V call mc_46 rt 86 L (x :: st) w := iv_V_eq (I := (((140, 1), .aload_n 0, 0, 0, 0) : iv_I)) rfl
theorem e46_86 : iv_V call mc_46 rt 86 L st w = iv_gf w st 1 15 fun v st' => iv_V call mc_46 rt 87 L (v :: st') w := iv_V_eq (I := (((141, 3), .getfield 47, 1, 15, 614) : iv_I)) rfl
theorem e46_87 : iv_V call mc_46 rt 87 L st w = iv_ldi L 9 fun x => iv_V call mc_46 rt 88 L (.int x :: st) w := iv_V_eq (I := (((144, 2), .iload 9, 0, 0, 0) : iv_I)) rfl
theorem e46_88 : iv_V call mc_46 rt 88 L st w = iv_ald w st iv_isI fun v st' => iv_V call mc_46 rt 89 L (v :: st') w := iv_V_eq (I := (((146, 1), .iaload, 0, 0, 0) : iv_I)) rfl
theorem e46_89 : iv_V call mc_46 rt 89 L st w = iv_lda L 0 fun x => iv_V call mc_46 rt 90 L (x :: st) w := iv_V_eq (I := (((147, 1), .aload_n 0, 0, 0, 0) : iv_I)) rfl
theorem e46_90 : iv_V call mc_46 rt 90 L st w = iv_gf w st 1 16 fun v st' => iv_V call mc_46 rt 91 L (v :: st') w := iv_V_eq (I := (((148, 3), .getfield 50, 1, 16, 615) : iv_I)) rfl
theorem e46_91 : iv_V call mc_46 rt 91 L st w = iv_ldi L 9 fun x => iv_V call mc_46 rt 92 L (.int x :: st) w := iv_V_eq (I := (((151, 2), .iload 9, 0, 0, 0) : iv_I)) rfl
theorem e46_92 : iv_V call mc_46 rt 92 L st w = iv_ald w st iv_isI fun v st' => iv_V call mc_46 rt 93 L (v :: st') w := iv_V_eq (I := (((153, 1), .iaload, 0, 0, 0) : iv_I)) rfl
theorem e46_93 : iv_V call mc_46 rt 93 L st w = iv_lda L 0 fun x => iv_V call mc_46 rt 94 L (x :: st) w := iv_V_eq (I := (((154, 1), .aload_n 0, 0, 0, 0) : iv_I)) rfl
theorem e46_94 : iv_V call mc_46 rt 94 L st w = iv_gf w st 1 17 fun v st' => iv_V call mc_46 rt 95 L (v :: st') w := iv_V_eq (I := (((155, 3), .getfield 53, 1, 17, 616) : iv_I)) rfl
theorem e46_95 : iv_V call mc_46 rt 95 L st w = iv_ldi L 9 fun x => iv_V call mc_46 rt 96 L (.int x :: st) w := iv_V_eq (I := (((158, 2), .iload 9, 0, 0, 0) : iv_I)) rfl
theorem e46_96 : iv_V call mc_46 rt 96 L st w = iv_ald w st iv_isI fun v st' => iv_V call mc_46 rt 97 L (v :: st') w := iv_V_eq (I := (((160, 1), .iaload, 0, 0, 0) : iv_I)) rfl
theorem e46_97 : iv_V call mc_46 rt 97 L st w = iv_ldi L 5 fun x => iv_V call mc_46 rt 98 L (.int x :: st) w := iv_V_eq (I := (((161, 2), .iload 5, 0, 0, 0) : iv_I)) rfl
theorem e46_98 : iv_V call mc_46 rt 98 L st w = iv_ldi L 6 fun x => iv_V call mc_46 rt 99 L (.int x :: st) w := iv_V_eq (I := (((163, 2), .iload 6, 0, 0, 0) : iv_I)) rfl
theorem e46_99 : iv_V call mc_46 rt 99 L st w = iv_inv call 44 5 (fun _ => true) st w fun st' w' => iv_V call mc_46 rt 100 L (st') w' := iv_V_eq (I := (((165, 3), .invokestatic 166, 44, 5, 863) : iv_I)) rfl
theorem e46_100 : iv_V call mc_46 rt 100 L st w = iv_p1 st fun x st' => iv_sto L 10 (.int x) fun L' => iv_V call mc_46 rt 101 L' (st') w := iv_V_eq (I := (((168, 2), .istore 10, 0, 0, 0) : iv_I)) rfl
theorem e46_101 : iv_V call mc_46 rt 101 L st w = iv_ldi L 10 fun x => iv_V call mc_46 rt 102 L (.int x :: st) w := iv_V_eq (I := (((170, 2), .iload 10, 0, 0, 0) : iv_I)) rfl
theorem e46_102 : iv_V call mc_46 rt 102 L st w = iv_p1 st fun x st' => if x = 0 then iv_V call mc_46 rt 121 L (st') w else iv_V call mc_46 rt 103 L (st') w := (iv_V_eq (I := (((172, 3), .ifCond .eq 32, 121, 0, 0) : iv_I)) rfl).trans (by simp only [iv_go, iv_cnd, decide_eq_true_eq])
theorem e46_103 : iv_V call mc_46 rt 103 L st w = iv_lda L 0 fun x => iv_V call mc_46 rt 104 L (x :: st) w := iv_V_eq (I := (((175, 1), .aload_n 0, 0, 0, 0) : iv_I)) rfl
theorem e46_104 : iv_V call mc_46 rt 104 L st w = iv_gf w st 1 18 fun v st' => iv_V call mc_46 rt 105 L (v :: st') w := iv_V_eq (I := (((176, 3), .getfield 56, 1, 18, 617) : iv_I)) rfl
theorem e46_105 : iv_V call mc_46 rt 105 L st w = iv_ldi L 7 fun x => iv_V call mc_46 rt 106 L (.int x :: st) w := iv_V_eq (I := (((179, 2), .iload 7, 0, 0, 0) : iv_I)) rfl
theorem e46_106 : iv_V call mc_46 rt 106 L st w = iv_ald w st iv_isZ fun v st' => iv_V call mc_46 rt 107 L (v :: st') w := iv_V_eq (I := (((181, 1), .baload, 0, 0, 0) : iv_I)) rfl
theorem e46_107 : iv_V call mc_46 rt 107 L st w = iv_p1 st fun x st' => if ¬ x = 0 then iv_V call mc_46 rt 121 L (st') w else iv_V call mc_46 rt 108 L (st') w := (iv_V_eq (I := (((182, 3), .ifCond .ne 22, 121, 0, 0) : iv_I)) rfl).trans (by simp only [iv_go, iv_cnd, decide_eq_true_eq])
theorem e46_108 : iv_V call mc_46 rt 108 L st w = iv_lda L 0 fun x => iv_V call mc_46 rt 109 L (x :: st) w := iv_V_eq (I := (((185, 1), .aload_n 0, 0, 0, 0) : iv_I)) rfl
theorem e46_109 : iv_V call mc_46 rt 109 L st w = iv_ldi L 1 fun x => iv_V call mc_46 rt 110 L (.int x :: st) w := iv_V_eq (I := (((186, 1), .iload_n 1, 0, 0, 0) : iv_I)) rfl
theorem e46_110 : iv_V call mc_46 rt 110 L st w = iv_ldi L 2 fun x => iv_V call mc_46 rt 111 L (.int x :: st) w := iv_V_eq (I := (((187, 1), .iload_n 2, 0, 0, 0) : iv_I)) rfl
theorem e46_111 : iv_V call mc_46 rt 111 L st w = iv_ldi L 3 fun x => iv_V call mc_46 rt 112 L (.int x :: st) w := iv_V_eq (I := (((188, 1), .iload_n 3, 0, 0, 0) : iv_I)) rfl
theorem e46_112 : iv_V call mc_46 rt 112 L st w = iv_ldi L 9 fun x => iv_V call mc_46 rt 113 L (.int x :: st) w := iv_V_eq (I := (((189, 2), .iload 9, 0, 0, 0) : iv_I)) rfl
theorem e46_113 : iv_V call mc_46 rt 113 L st w = iv_V call mc_46 rt 114 L (.int 3 :: st) w := (iv_V_eq (I := (((191, 1), .iconst 3, 0, 0, 0) : iv_I)) rfl).trans (congrArg (fun c => iv_V call mc_46 rt 114 L (.int c :: st) w) li_o3)
theorem e46_114 : iv_V call mc_46 rt 114 L st w = iv_ldi L 7 fun x => iv_V call mc_46 rt 115 L (.int x :: st) w := iv_V_eq (I := (((192, 2), .iload 7, 0, 0, 0) : iv_I)) rfl
theorem e46_115 : iv_V call mc_46 rt 115 L st w = iv_p2 st fun x y st' => iv_V call mc_46 rt 116 L (.int (x * y) :: st') w := iv_V_eq (I := (((194, 1), .imul, 0, 0, 0) : iv_I)) rfl
theorem e46_116 : iv_V call mc_46 rt 116 L st w = iv_p2 st fun x y st' => iv_V call mc_46 rt 117 L (.int (x - y) :: st') w := iv_V_eq (I := (((195, 1), .isub, 0, 0, 0) : iv_I)) rfl
theorem e46_117 : iv_V call mc_46 rt 117 L st w = iv_inv call 45 5 (fun as => iv_rc w as (iv_mc 45)) st w fun st' w' => iv_V call mc_46 rt 118 L (st') w' := iv_V_eq (I := (((196, 3), .invokevirtual 170, 45, 5, 866) : iv_I)) rfl
theorem e46_118 : iv_V call mc_46 rt 118 L st w = iv_p1 st fun x st' => if ¬ x = 0 then iv_V call mc_46 rt 121 L (st') w else iv_V call mc_46 rt 119 L (st') w := (iv_V_eq (I := (((199, 3), .ifCond .ne 5, 121, 0, 0) : iv_I)) rfl).trans (by simp only [iv_go, iv_cnd, decide_eq_true_eq])
theorem e46_119 : iv_V call mc_46 rt 119 L st w = iv_V call mc_46 rt 120 L (.int 0 :: st) w := (iv_V_eq (I := (((202, 1), .iconst 0, 0, 0, 0) : iv_I)) rfl).trans (congrArg (fun c => iv_V call mc_46 rt 120 L (.int c :: st) w) li_o0)
theorem e46_120 : iv_V call mc_46 rt 120 L st w = iv_ret rt st w := iv_V_eq (I := (((203, 1), .ireturn, 0, 0, 0) : iv_I)) rfl
theorem e46_121 : iv_V call mc_46 rt 121 L st w = iv_ldi L 8 fun x => iv_V call mc_46 rt 122 L (.int x :: st) w := iv_V_eq (I := (((204, 2), .iload 8, 0, 0, 0) : iv_I)) rfl
theorem e46_122 : iv_V call mc_46 rt 122 L st w = iv_p1 st fun x st' => if ¬ x = 0 then iv_V call mc_46 rt 125 L (st') w else iv_V call mc_46 rt 123 L (st') w := (iv_V_eq (I := (((206, 3), .ifCond .ne 8, 125, 0, 0) : iv_I)) rfl).trans (by simp only [iv_go, iv_cnd, decide_eq_true_eq])
theorem e46_123 : iv_V call mc_46 rt 123 L st w = iv_ldi L 10 fun x => iv_V call mc_46 rt 124 L (.int x :: st) w := iv_V_eq (I := (((209, 2), .iload 10, 0, 0, 0) : iv_I)) rfl
theorem e46_124 : iv_V call mc_46 rt 124 L st w = iv_p1 st fun x st' => if x = 0 then iv_V call mc_46 rt 127 L (st') w else iv_V call mc_46 rt 125 L (st') w := (iv_V_eq (I := (((211, 3), .ifCond .eq 7, 127, 0, 0) : iv_I)) rfl).trans (by simp only [iv_go, iv_cnd, decide_eq_true_eq])
theorem e46_125 : iv_V call mc_46 rt 125 L st w = iv_V call mc_46 rt 126 L (.int 1 :: st) w := (iv_V_eq (I := (((214, 1), .iconst 1, 0, 0, 0) : iv_I)) rfl).trans (congrArg (fun c => iv_V call mc_46 rt 126 L (.int c :: st) w) li_o1)
theorem e46_126 : iv_V call mc_46 rt 126 L st w = iv_V call mc_46 rt 128 L (st) w := iv_V_eq (I := (((215, 3), .goto 4, 128, 0, 0) : iv_I)) rfl
theorem e46_127 : iv_V call mc_46 rt 127 L st w = iv_V call mc_46 rt 128 L (.int 0 :: st) w := (iv_V_eq (I := (((218, 1), .iconst 0, 0, 0, 0) : iv_I)) rfl).trans (congrArg (fun c => iv_V call mc_46 rt 128 L (.int c :: st) w) li_o0)
theorem e46_128 : iv_V call mc_46 rt 128 L st w = iv_p1 st fun x st' => iv_sto L 8 (.int x) fun L' => iv_V call mc_46 rt 129 L' (st') w := iv_V_eq (I := (((219, 2), .istore 8, 0, 0, 0) : iv_I)) rfl
theorem e46_129 : iv_V call mc_46 rt 129 L st w = iv_ldi L 9 fun x => iv_sto L 9 (.int (x + 1)) fun L' => iv_V call mc_46 rt 130 L' (st) w := (iv_V_eq (I := (((221, 3), .iinc 9 1, 0, 0, 0) : iv_I)) rfl).trans (congrArg (fun c => iv_ldi L 9 fun x => iv_sto L 9 (.int (x + c)) fun L' => iv_V call mc_46 rt 130 L' (st) w) li_o1)
theorem e46_130 : iv_V call mc_46 rt 130 L st w = iv_V call mc_46 rt 75 L (st) w := iv_V_eq (I := (((224, 3), .goto (-101), 75, 0, 0) : iv_I)) rfl
theorem e46_131 : iv_V call mc_46 rt 131 L st w = iv_ldi L 8 fun x => iv_V call mc_46 rt 132 L (.int x :: st) w := iv_V_eq (I := (((227, 2), .iload 8, 0, 0, 0) : iv_I)) rfl
theorem e46_132 : iv_V call mc_46 rt 132 L st w = iv_p1 st fun x st' => if x = 0 then iv_V call mc_46 rt 145 L (st') w else iv_V call mc_46 rt 133 L (st') w := (iv_V_eq (I := (((229, 3), .ifCond .eq 24, 145, 0, 0) : iv_I)) rfl).trans (by simp only [iv_go, iv_cnd, decide_eq_true_eq])
theorem e46_133 : iv_V call mc_46 rt 133 L st w = iv_lda L 0 fun x => iv_V call mc_46 rt 134 L (x :: st) w := iv_V_eq (I := (((232, 1), .aload_n 0, 0, 0, 0) : iv_I)) rfl
theorem e46_134 : iv_V call mc_46 rt 134 L st w = iv_gf w st 1 18 fun v st' => iv_V call mc_46 rt 135 L (v :: st') w := iv_V_eq (I := (((233, 3), .getfield 56, 1, 18, 617) : iv_I)) rfl
theorem e46_135 : iv_V call mc_46 rt 135 L st w = iv_ldi L 7 fun x => iv_V call mc_46 rt 136 L (.int x :: st) w := iv_V_eq (I := (((236, 2), .iload 7, 0, 0, 0) : iv_I)) rfl
theorem e46_136 : iv_V call mc_46 rt 136 L st w = iv_ald w st iv_isZ fun v st' => iv_V call mc_46 rt 137 L (v :: st') w := iv_V_eq (I := (((238, 1), .baload, 0, 0, 0) : iv_I)) rfl
theorem e46_137 : iv_V call mc_46 rt 137 L st w = iv_p1 st fun x st' => if x = 0 then iv_V call mc_46 rt 145 L (st') w else iv_V call mc_46 rt 138 L (st') w := (iv_V_eq (I := (((239, 3), .ifCond .eq 14, 145, 0, 0) : iv_I)) rfl).trans (by simp only [iv_go, iv_cnd, decide_eq_true_eq])
theorem e46_138 : iv_V call mc_46 rt 138 L st w = iv_lda L 0 fun x => iv_V call mc_46 rt 139 L (x :: st) w := iv_V_eq (I := (((242, 1), .aload_n 0, 0, 0, 0) : iv_I)) rfl
theorem e46_139 : iv_V call mc_46 rt 139 L st w = iv_ldi L 1 fun x => iv_V call mc_46 rt 140 L (.int x :: st) w := iv_V_eq (I := (((243, 1), .iload_n 1, 0, 0, 0) : iv_I)) rfl
theorem e46_140 : iv_V call mc_46 rt 140 L st w = iv_ldi L 2 fun x => iv_V call mc_46 rt 141 L (.int x :: st) w := iv_V_eq (I := (((244, 1), .iload_n 2, 0, 0, 0) : iv_I)) rfl
theorem e46_141 : iv_V call mc_46 rt 141 L st w = iv_ldi L 3 fun x => iv_V call mc_46 rt 142 L (.int x :: st) w := iv_V_eq (I := (((245, 1), .iload_n 3, 0, 0, 0) : iv_I)) rfl
theorem e46_142 : iv_V call mc_46 rt 142 L st w = iv_V call mc_46 rt 143 L (.int (-1) :: st) w := (iv_V_eq (I := (((246, 1), .iconst (-1), 0, 0, 0) : iv_I)) rfl).trans (congrArg (fun c => iv_V call mc_46 rt 143 L (.int c :: st) w) li_om1)
theorem e46_143 : iv_V call mc_46 rt 143 L st w = iv_inv call 45 5 (fun as => iv_rc w as (iv_mc 45)) st w fun st' w' => iv_V call mc_46 rt 144 L (st') w' := iv_V_eq (I := (((247, 3), .invokevirtual 170, 45, 5, 866) : iv_I)) rfl
theorem e46_144 : iv_V call mc_46 rt 144 L st w = iv_p1 st fun x st' => if x = 0 then iv_V call mc_46 rt 147 L (st') w else iv_V call mc_46 rt 145 L (st') w := (iv_V_eq (I := (((250, 3), .ifCond .eq 7, 147, 0, 0) : iv_I)) rfl).trans (by simp only [iv_go, iv_cnd, decide_eq_true_eq])
theorem e46_145 : iv_V call mc_46 rt 145 L st w = iv_V call mc_46 rt 146 L (.int 1 :: st) w := (iv_V_eq (I := (((253, 1), .iconst 1, 0, 0, 0) : iv_I)) rfl).trans (congrArg (fun c => iv_V call mc_46 rt 146 L (.int c :: st) w) li_o1)
theorem e46_146 : iv_V call mc_46 rt 146 L st w = iv_V call mc_46 rt 148 L (st) w := iv_V_eq (I := (((254, 3), .goto 4, 148, 0, 0) : iv_I)) rfl
theorem e46_147 : iv_V call mc_46 rt 147 L st w = iv_V call mc_46 rt 148 L (.int 0 :: st) w := (iv_V_eq (I := (((257, 1), .iconst 0, 0, 0, 0) : iv_I)) rfl).trans (congrArg (fun c => iv_V call mc_46 rt 148 L (.int c :: st) w) li_o0)
theorem e46_148 : iv_V call mc_46 rt 148 L st w = iv_ret rt st w := iv_V_eq (I := (((258, 1), .ireturn, 0, 0, 0) : iv_I)) rfl
theorem e47_0 : iv_V call mc_47 rt 0 L st w = iv_lda L 0 fun x => iv_V call mc_47 rt 1 L (x :: st) w := iv_V_eq (I := (((0, 1), .aload_n 0, 0, 0, 0) : iv_I)) rfl
theorem e47_1 : iv_V call mc_47 rt 1 L st w = iv_ldi L 2 fun x => iv_V call mc_47 rt 2 L (.int x :: st) w := iv_V_eq (I := (((1, 1), .iload_n 2, 0, 0, 0) : iv_I)) rfl
theorem e47_2 : iv_V call mc_47 rt 2 L st w = iv_inv call 31 2 (fun as => iv_rc w as (iv_mc 31)) st w fun st' w' => iv_V call mc_47 rt 3 L (st') w' := iv_V_eq (I := (((2, 3), .invokevirtual 145, 31, 2, 771) : iv_I)) rfl
theorem e47_3 : iv_V call mc_47 rt 3 L st w = iv_p1 st fun x st' => iv_sto L 4 (.int x) fun L' => iv_V call mc_47 rt 4 L' (st') w := iv_V_eq (I := (((5, 2), .istore 4, 0, 0, 0) : iv_I)) rfl
theorem e47_4 : iv_V call mc_47 rt 4 L st w = iv_V call mc_47 rt 5 L (.int 0 :: st) w := (iv_V_eq (I := (((7, 1), .iconst 0, 0, 0, 0) : iv_I)) rfl).trans (congrArg (fun c => iv_V call mc_47 rt 5 L (.int c :: st) w) li_o0)
theorem e47_5 : iv_V call mc_47 rt 5 L st w = iv_p1 st fun x st' => iv_sto L 5 (.int x) fun L' => iv_V call mc_47 rt 6 L' (st') w := iv_V_eq (I := (((8, 2), .istore 5, 0, 0, 0) : iv_I)) rfl
theorem e47_6 : iv_V call mc_47 rt 6 L st w = iv_ldi L 5 fun x => iv_V call mc_47 rt 7 L (.int x :: st) w := iv_V_eq (I := (((10, 2), .iload 5, 0, 0, 0) : iv_I)) rfl
theorem e47_7 : iv_V call mc_47 rt 7 L st w = iv_lda L 0 fun x => iv_V call mc_47 rt 8 L (x :: st) w := iv_V_eq (I := (((12, 1), .aload_n 0, 0, 0, 0) : iv_I)) rfl
theorem e47_8 : iv_V call mc_47 rt 8 L st w = iv_gf w st 1 7 fun v st' => iv_V call mc_47 rt 9 L (v :: st') w := iv_V_eq (I := (((13, 3), .getfield 142, 1, 7, 606) : iv_I)) rfl
theorem e47_9 : iv_V call mc_47 rt 9 L st w = iv_p2 st fun x y st' => if y ≤ x then iv_V call mc_47 rt 107 L (st') w else iv_V call mc_47 rt 10 L (st') w := (iv_V_eq (I := (((16, 3), .if_icmp .ge 187, 107, 0, 0) : iv_I)) rfl).trans (by simp only [iv_go, iv_cnd, decide_eq_true_eq])
theorem e47_10 : iv_V call mc_47 rt 10 L st w = iv_lda L 0 fun x => iv_V call mc_47 rt 11 L (x :: st) w := iv_V_eq (I := (((19, 1), .aload_n 0, 0, 0, 0) : iv_I)) rfl
theorem e47_11 : iv_V call mc_47 rt 11 L st w = iv_gf w st 1 8 fun v st' => iv_V call mc_47 rt 12 L (v :: st') w := iv_V_eq (I := (((20, 3), .getfield 26, 1, 8, 607) : iv_I)) rfl
theorem e47_12 : iv_V call mc_47 rt 12 L st w = iv_ldi L 5 fun x => iv_V call mc_47 rt 13 L (.int x :: st) w := iv_V_eq (I := (((23, 2), .iload 5, 0, 0, 0) : iv_I)) rfl
theorem e47_13 : iv_V call mc_47 rt 13 L st w = iv_ald w st iv_isI fun v st' => iv_V call mc_47 rt 14 L (v :: st') w := iv_V_eq (I := (((25, 1), .iaload, 0, 0, 0) : iv_I)) rfl
theorem e47_14 : iv_V call mc_47 rt 14 L st w = iv_p1 st fun x st' => iv_sto L 6 (.int x) fun L' => iv_V call mc_47 rt 15 L' (st') w := iv_V_eq (I := (((26, 2), .istore 6, 0, 0, 0) : iv_I)) rfl
theorem e47_15 : iv_V call mc_47 rt 15 L st w = iv_lda L 0 fun x => iv_V call mc_47 rt 16 L (x :: st) w := iv_V_eq (I := (((28, 1), .aload_n 0, 0, 0, 0) : iv_I)) rfl
theorem e47_16 : iv_V call mc_47 rt 16 L st w = iv_ldi L 1 fun x => iv_V call mc_47 rt 17 L (.int x :: st) w := iv_V_eq (I := (((29, 1), .iload_n 1, 0, 0, 0) : iv_I)) rfl
theorem e47_17 : iv_V call mc_47 rt 17 L st w = iv_ldi L 6 fun x => iv_V call mc_47 rt 18 L (.int x :: st) w := iv_V_eq (I := (((30, 2), .iload 6, 0, 0, 0) : iv_I)) rfl
theorem e47_18 : iv_V call mc_47 rt 18 L st w = iv_inv call 38 3 (fun as => iv_rc w as (iv_mc 38)) st w fun st' w' => iv_V call mc_47 rt 19 L (st') w' := iv_V_eq (I := (((32, 3), .invokevirtual 152, 38, 3, 799) : iv_I)) rfl
theorem e47_19 : iv_V call mc_47 rt 19 L st w = iv_p1 st fun x st' => if x = 0 then iv_V call mc_47 rt 105 L (st') w else iv_V call mc_47 rt 20 L (st') w := (iv_V_eq (I := (((35, 3), .ifCond .eq 162, 105, 0, 0) : iv_I)) rfl).trans (by simp only [iv_go, iv_cnd, decide_eq_true_eq])
theorem e47_20 : iv_V call mc_47 rt 20 L st w = iv_ldi L 3 fun x => iv_V call mc_47 rt 21 L (.int x :: st) w := iv_V_eq (I := (((38, 1), .iload_n 3, 0, 0, 0) : iv_I)) rfl
theorem e47_21 : iv_V call mc_47 rt 21 L st w = iv_p1 st fun x st' => if x < 0 then iv_V call mc_47 rt 25 L (st') w else iv_V call mc_47 rt 22 L (st') w := (iv_V_eq (I := (((39, 3), .ifCond .lt 9, 25, 0, 0) : iv_I)) rfl).trans (by simp only [iv_go, iv_cnd, decide_eq_true_eq])
theorem e47_22 : iv_V call mc_47 rt 22 L st w = iv_ldi L 3 fun x => iv_V call mc_47 rt 23 L (.int x :: st) w := iv_V_eq (I := (((42, 1), .iload_n 3, 0, 0, 0) : iv_I)) rfl
theorem e47_23 : iv_V call mc_47 rt 23 L st w = iv_ldi L 6 fun x => iv_V call mc_47 rt 24 L (.int x :: st) w := iv_V_eq (I := (((43, 2), .iload 6, 0, 0, 0) : iv_I)) rfl
theorem e47_24 : iv_V call mc_47 rt 24 L st w = iv_p2 st fun x y st' => if ¬ x = y then iv_V call mc_47 rt 105 L (st') w else iv_V call mc_47 rt 25 L (st') w := (iv_V_eq (I := (((45, 3), .if_icmp .ne 152, 105, 0, 0) : iv_I)) rfl).trans (by simp only [iv_go, iv_cnd, decide_eq_true_eq])
theorem e47_25 : iv_V call mc_47 rt 25 L st w = iv_lda L 0 fun x => iv_V call mc_47 rt 26 L (x :: st) w := iv_V_eq (I := (((48, 1), .aload_n 0, 0, 0, 0) : iv_I)) rfl
theorem e47_26 : iv_V call mc_47 rt 26 L st w = iv_gf w st 1 13 fun v st' => iv_V call mc_47 rt 27 L (v :: st') w := iv_V_eq (I := (((49, 3), .getfield 41, 1, 13, 612) : iv_I)) rfl
theorem e47_27 : iv_V call mc_47 rt 27 L st w = iv_ldi L 5 fun x => iv_V call mc_47 rt 28 L (.int x :: st) w := iv_V_eq (I := (((52, 2), .iload 5, 0, 0, 0) : iv_I)) rfl
theorem e47_28 : iv_V call mc_47 rt 28 L st w = iv_ald w st iv_isI fun v st' => iv_V call mc_47 rt 29 L (v :: st') w := iv_V_eq (I := (((54, 1), .iaload, 0, 0, 0) : iv_I)) rfl
theorem e47_29 : iv_V call mc_47 rt 29 L st w = iv_ldi L 4 fun x => iv_V call mc_47 rt 30 L (.int x :: st) w := iv_V_eq (I := (((55, 2), .iload 4, 0, 0, 0) : iv_I)) rfl
theorem e47_30 : iv_V call mc_47 rt 30 L st w = iv_p2 st fun x y st' => iv_V call mc_47 rt 31 L (.int (x &&& y) :: st') w := iv_V_eq (I := (((57, 1), .iand, 0, 0, 0) : iv_I)) rfl
theorem e47_31 : iv_V call mc_47 rt 31 L st w = iv_p1 st fun x st' => if x = 0 then iv_V call mc_47 rt 105 L (st') w else iv_V call mc_47 rt 32 L (st') w := (iv_V_eq (I := (((58, 3), .ifCond .eq 139, 105, 0, 0) : iv_I)) rfl).trans (by simp only [iv_go, iv_cnd, decide_eq_true_eq])
theorem e47_32 : iv_V call mc_47 rt 32 L st w = iv_lda L 0 fun x => iv_V call mc_47 rt 33 L (x :: st) w := iv_V_eq (I := (((61, 1), .aload_n 0, 0, 0, 0) : iv_I)) rfl
theorem e47_33 : iv_V call mc_47 rt 33 L st w = iv_ldi L 5 fun x => iv_V call mc_47 rt 34 L (.int x :: st) w := iv_V_eq (I := (((62, 2), .iload 5, 0, 0, 0) : iv_I)) rfl
theorem e47_34 : iv_V call mc_47 rt 34 L st w = iv_inv call 43 2 (fun as => iv_rc w as (iv_mc 43)) st w fun st' w' => iv_V call mc_47 rt 35 L (st') w' := iv_V_eq (I := (((64, 3), .invokevirtual 174, 43, 2, 852) : iv_I)) rfl
theorem e47_35 : iv_V call mc_47 rt 35 L st w = iv_p1 st fun x st' => if ¬ x = 0 then iv_V call mc_47 rt 38 L (st') w else iv_V call mc_47 rt 36 L (st') w := (iv_V_eq (I := (((67, 3), .ifCond .ne 6, 38, 0, 0) : iv_I)) rfl).trans (by simp only [iv_go, iv_cnd, decide_eq_true_eq])
theorem e47_36 : iv_V call mc_47 rt 36 L st w = iv_V call mc_47 rt 37 L (.int (-4) :: st) w := (iv_V_eq (I := (((70, 2), .bipush (-4), 0, 0, 0) : iv_I)) rfl).trans (congrArg (fun c => iv_V call mc_47 rt 37 L (.int c :: st) w) li_bm4)
theorem e47_37 : iv_V call mc_47 rt 37 L st w = iv_ret rt st w := iv_V_eq (I := (((72, 1), .ireturn, 0, 0, 0) : iv_I)) rfl
theorem e47_38 : iv_V call mc_47 rt 38 L st w = iv_lda L 0 fun x => iv_V call mc_47 rt 39 L (x :: st) w := iv_V_eq (I := (((73, 1), .aload_n 0, 0, 0, 0) : iv_I)) rfl
theorem e47_39 : iv_V call mc_47 rt 39 L st w = iv_gf w st 1 4 fun v st' => iv_V call mc_47 rt 40 L (v :: st') w := iv_V_eq (I := (((74, 3), .getfield 16, 1, 4, 603) : iv_I)) rfl
theorem e47_40 : iv_V call mc_47 rt 40 L st w = iv_ldi L 6 fun x => iv_V call mc_47 rt 41 L (.int x :: st) w := iv_V_eq (I := (((77, 2), .iload 6, 0, 0, 0) : iv_I)) rfl
theorem e47_41 : iv_V call mc_47 rt 41 L st w = iv_ald w st iv_isI fun v st' => iv_V call mc_47 rt 42 L (v :: st') w := iv_V_eq (I := (((79, 1), .iaload, 0, 0, 0) : iv_I)) rfl
theorem e47_42 : iv_V call mc_47 rt 42 L st w = iv_V call mc_47 rt 43 L (.int 2 :: st) w := (iv_V_eq (I := (((80, 1), .iconst 2, 0, 0, 0) : iv_I)) rfl).trans (congrArg (fun c => iv_V call mc_47 rt 43 L (.int c :: st) w) li_o2)
theorem e47_43 : iv_V call mc_47 rt 43 L st w = iv_p2 st fun x y st' => if x < y then iv_V call mc_47 rt 64 L (st') w else iv_V call mc_47 rt 44 L (st') w := (iv_V_eq (I := (((81, 3), .if_icmp .lt 35, 64, 0, 0) : iv_I)) rfl).trans (by simp only [iv_go, iv_cnd, decide_eq_true_eq])
theorem e47_44 : iv_V call mc_47 rt 44 L st w = iv_lda L 0 fun x => iv_V call mc_47 rt 45 L (x :: st) w := iv_V_eq (I := (((84, 1), .aload_n 0, 0, 0, 0) : iv_I)) rfl
theorem e47_45 : iv_V call mc_47 rt 45 L st w = iv_gf w st 1 26 fun v st' => iv_V call mc_47 rt 46 L (v :: st') w := iv_V_eq (I := (((85, 3), .getfield 77, 1, 26, 625) : iv_I)) rfl
theorem e47_46 : iv_V call mc_47 rt 46 L st w = iv_V call mc_47 rt 47 L (.int 14 :: st) w := (iv_V_eq (I := (((88, 2), .bipush 14, 0, 0, 0) : iv_I)) rfl).trans (congrArg (fun c => iv_V call mc_47 rt 47 L (.int c :: st) w) li_b14)
theorem e47_47 : iv_V call mc_47 rt 47 L st w = iv_ldi L 1 fun x => iv_V call mc_47 rt 48 L (.int x :: st) w := iv_V_eq (I := (((90, 1), .iload_n 1, 0, 0, 0) : iv_I)) rfl
theorem e47_48 : iv_V call mc_47 rt 48 L st w = iv_p2 st fun x y st' => iv_V call mc_47 rt 49 L (.int (x * y) :: st') w := iv_V_eq (I := (((91, 1), .imul, 0, 0, 0) : iv_I)) rfl
theorem e47_49 : iv_V call mc_47 rt 49 L st w = iv_ldi L 6 fun x => iv_V call mc_47 rt 50 L (.int x :: st) w := iv_V_eq (I := (((92, 2), .iload 6, 0, 0, 0) : iv_I)) rfl
theorem e47_50 : iv_V call mc_47 rt 50 L st w = iv_p2 st fun x y st' => iv_V call mc_47 rt 51 L (.int (x + y) :: st') w := iv_V_eq (I := (((94, 1), .iadd, 0, 0, 0) : iv_I)) rfl
theorem e47_51 : iv_V call mc_47 rt 51 L st w = iv_ald w st iv_isI fun v st' => iv_V call mc_47 rt 52 L (v :: st') w := iv_V_eq (I := (((95, 1), .iaload, 0, 0, 0) : iv_I)) rfl
theorem e47_52 : iv_V call mc_47 rt 52 L st w = iv_p1 st fun x st' => if x ≤ 0 then iv_V call mc_47 rt 64 L (st') w else iv_V call mc_47 rt 53 L (st') w := (iv_V_eq (I := (((96, 3), .ifCond .le 20, 64, 0, 0) : iv_I)) rfl).trans (by simp only [iv_go, iv_cnd, decide_eq_true_eq])
theorem e47_53 : iv_V call mc_47 rt 53 L st w = iv_lda L 0 fun x => iv_V call mc_47 rt 54 L (x :: st) w := iv_V_eq (I := (((99, 1), .aload_n 0, 0, 0, 0) : iv_I)) rfl
theorem e47_54 : iv_V call mc_47 rt 54 L st w = iv_gf w st 1 26 fun v st' => iv_V call mc_47 rt 55 L (v :: st') w := iv_V_eq (I := (((100, 3), .getfield 77, 1, 26, 625) : iv_I)) rfl
theorem e47_55 : iv_V call mc_47 rt 55 L st w = iv_V call mc_47 rt 56 L (.int 14 :: st) w := (iv_V_eq (I := (((103, 2), .bipush 14, 0, 0, 0) : iv_I)) rfl).trans (congrArg (fun c => iv_V call mc_47 rt 56 L (.int c :: st) w) li_b14)
theorem e47_56 : iv_V call mc_47 rt 56 L st w = iv_ldi L 1 fun x => iv_V call mc_47 rt 57 L (.int x :: st) w := iv_V_eq (I := (((105, 1), .iload_n 1, 0, 0, 0) : iv_I)) rfl
theorem e47_57 : iv_V call mc_47 rt 57 L st w = iv_p2 st fun x y st' => iv_V call mc_47 rt 58 L (.int (x * y) :: st') w := iv_V_eq (I := (((106, 1), .imul, 0, 0, 0) : iv_I)) rfl
theorem e47_58 : iv_V call mc_47 rt 58 L st w = iv_ldi L 6 fun x => iv_V call mc_47 rt 59 L (.int x :: st) w := iv_V_eq (I := (((107, 2), .iload 6, 0, 0, 0) : iv_I)) rfl
theorem e47_59 : iv_V call mc_47 rt 59 L st w = iv_p2 st fun x y st' => iv_V call mc_47 rt 60 L (.int (x + y) :: st') w := iv_V_eq (I := (((109, 1), .iadd, 0, 0, 0) : iv_I)) rfl
theorem e47_60 : iv_V call mc_47 rt 60 L st w = iv_ald w st iv_isI fun v st' => iv_V call mc_47 rt 61 L (v :: st') w := iv_V_eq (I := (((110, 1), .iaload, 0, 0, 0) : iv_I)) rfl
theorem e47_61 : iv_V call mc_47 rt 61 L st w = iv_V call mc_47 rt 62 L (.int 1 :: st) w := (iv_V_eq (I := (((111, 1), .iconst 1, 0, 0, 0) : iv_I)) rfl).trans (congrArg (fun c => iv_V call mc_47 rt 62 L (.int c :: st) w) li_o1)
theorem e47_62 : iv_V call mc_47 rt 62 L st w = iv_p2 st fun x y st' => iv_V call mc_47 rt 63 L (.int (x - y) :: st') w := iv_V_eq (I := (((112, 1), .isub, 0, 0, 0) : iv_I)) rfl
theorem e47_63 : iv_V call mc_47 rt 63 L st w = iv_V call mc_47 rt 65 L (st) w := iv_V_eq (I := (((113, 3), .goto 4, 65, 0, 0) : iv_I)) rfl
theorem e47_64 : iv_V call mc_47 rt 64 L st w = iv_V call mc_47 rt 65 L (.int 0 :: st) w := (iv_V_eq (I := (((116, 1), .iconst 0, 0, 0, 0) : iv_I)) rfl).trans (congrArg (fun c => iv_V call mc_47 rt 65 L (.int c :: st) w) li_o0)
theorem e47_65 : iv_V call mc_47 rt 65 L st w = iv_p1 st fun x st' => iv_sto L 7 (.int x) fun L' => iv_V call mc_47 rt 66 L' (st') w := iv_V_eq (I := (((117, 2), .istore 7, 0, 0, 0) : iv_I)) rfl
theorem e47_66 : iv_V call mc_47 rt 66 L st w = iv_lda L 0 fun x => iv_V call mc_47 rt 67 L (x :: st) w := iv_V_eq (I := (((119, 1), .aload_n 0, 0, 0, 0) : iv_I)) rfl
theorem e47_67 : iv_V call mc_47 rt 67 L st w = iv_gf w st 1 9 fun v st' => iv_V call mc_47 rt 68 L (v :: st') w := iv_V_eq (I := (((120, 3), .getfield 29, 1, 9, 608) : iv_I)) rfl
theorem e47_68 : iv_V call mc_47 rt 68 L st w = iv_ldi L 5 fun x => iv_V call mc_47 rt 69 L (.int x :: st) w := iv_V_eq (I := (((123, 2), .iload 5, 0, 0, 0) : iv_I)) rfl
theorem e47_69 : iv_V call mc_47 rt 69 L st w = iv_ald w st iv_isZ fun v st' => iv_V call mc_47 rt 70 L (v :: st') w := iv_V_eq (I := (((125, 1), .baload, 0, 0, 0) : iv_I)) rfl
theorem e47_70 : iv_V call mc_47 rt 70 L st w = iv_p1 st fun x st' => if ¬ x = 0 then iv_V call mc_47 rt 77 L (st') w else iv_V call mc_47 rt 71 L (st') w := (iv_V_eq (I := (((126, 3), .ifCond .ne 14, 77, 0, 0) : iv_I)) rfl).trans (by simp only [iv_go, iv_cnd, decide_eq_true_eq])
theorem e47_71 : iv_V call mc_47 rt 71 L st w = iv_lda L 0 fun x => iv_V call mc_47 rt 72 L (x :: st) w := iv_V_eq (I := (((129, 1), .aload_n 0, 0, 0, 0) : iv_I)) rfl
theorem e47_72 : iv_V call mc_47 rt 72 L st w = iv_ldi L 1 fun x => iv_V call mc_47 rt 73 L (.int x :: st) w := iv_V_eq (I := (((130, 1), .iload_n 1, 0, 0, 0) : iv_I)) rfl
theorem e47_73 : iv_V call mc_47 rt 73 L st w = iv_ldi L 5 fun x => iv_V call mc_47 rt 74 L (.int x :: st) w := iv_V_eq (I := (((131, 2), .iload 5, 0, 0, 0) : iv_I)) rfl
theorem e47_74 : iv_V call mc_47 rt 74 L st w = iv_V call mc_47 rt 75 L (.int (-1) :: st) w := (iv_V_eq (I := (((133, 1), .iconst (-1), 0, 0, 0) : iv_I)) rfl).trans (congrArg (fun c => iv_V call mc_47 rt 75 L (.int c :: st) w) li_om1)
theorem e47_75 : iv_V call mc_47 rt 75 L st w = iv_inv call 46 4 (fun as => iv_rc w as (iv_mc 46)) st w fun st' w' => iv_V call mc_47 rt 76 L (st') w' := iv_V_eq (I := (((134, 3), .invokevirtual 178, 46, 4, 859) : iv_I)) rfl
theorem e47_76 : iv_V call mc_47 rt 76 L st w = iv_p1 st fun x st' => if x = 0 then iv_V call mc_47 rt 79 L (st') w else iv_V call mc_47 rt 77 L (st') w := (iv_V_eq (I := (((137, 3), .ifCond .eq 7, 79, 0, 0) : iv_I)) rfl).trans (by simp only [iv_go, iv_cnd, decide_eq_true_eq])
theorem e47_77 : iv_V call mc_47 rt 77 L st w = iv_V call mc_47 rt 78 L (.int 1 :: st) w := (iv_V_eq (I := (((140, 1), .iconst 1, 0, 0, 0) : iv_I)) rfl).trans (congrArg (fun c => iv_V call mc_47 rt 78 L (.int c :: st) w) li_o1)
theorem e47_78 : iv_V call mc_47 rt 78 L st w = iv_V call mc_47 rt 80 L (st) w := iv_V_eq (I := (((141, 3), .goto 4, 80, 0, 0) : iv_I)) rfl
theorem e47_79 : iv_V call mc_47 rt 79 L st w = iv_V call mc_47 rt 80 L (.int 0 :: st) w := (iv_V_eq (I := (((144, 1), .iconst 0, 0, 0, 0) : iv_I)) rfl).trans (congrArg (fun c => iv_V call mc_47 rt 80 L (.int c :: st) w) li_o0)
theorem e47_80 : iv_V call mc_47 rt 80 L st w = iv_p1 st fun x st' => iv_sto L 8 (.int x) fun L' => iv_V call mc_47 rt 81 L' (st') w := iv_V_eq (I := (((145, 2), .istore 8, 0, 0, 0) : iv_I)) rfl
theorem e47_81 : iv_V call mc_47 rt 81 L st w = iv_V call mc_47 rt 82 L (.int 0 :: st) w := (iv_V_eq (I := (((147, 1), .iconst 0, 0, 0, 0) : iv_I)) rfl).trans (congrArg (fun c => iv_V call mc_47 rt 82 L (.int c :: st) w) li_o0)
theorem e47_82 : iv_V call mc_47 rt 82 L st w = iv_p1 st fun x st' => iv_sto L 9 (.int x) fun L' => iv_V call mc_47 rt 83 L' (st') w := iv_V_eq (I := (((148, 2), .istore 9, 0, 0, 0) : iv_I)) rfl
theorem e47_83 : iv_V call mc_47 rt 83 L st w = iv_ldi L 9 fun x => iv_V call mc_47 rt 84 L (.int x :: st) w := iv_V_eq (I := (((150, 2), .iload 9, 0, 0, 0) : iv_I)) rfl
theorem e47_84 : iv_V call mc_47 rt 84 L st w = iv_ldi L 7 fun x => iv_V call mc_47 rt 85 L (.int x :: st) w := iv_V_eq (I := (((152, 2), .iload 7, 0, 0, 0) : iv_I)) rfl
theorem e47_85 : iv_V call mc_47 rt 85 L st w = iv_p2 st fun x y st' => if y ≤ x then iv_V call mc_47 rt 101 L (st') w else iv_V call mc_47 rt 86 L (st') w := (iv_V_eq (I := (((154, 3), .if_icmp .ge 35, 101, 0, 0) : iv_I)) rfl).trans (by simp only [iv_go, iv_cnd, decide_eq_true_eq])
theorem e47_86 : iv_V call mc_47 rt 86 L st w = iv_lda L 0 fun x => iv_V call mc_47 rt 87 L (x :: st) w := iv_V_eq (I := (((157, 1), .aload_n 0, 0, 0, 0) : iv_I)) rfl
theorem e47_87 : iv_V call mc_47 rt 87 L st w = iv_gf w st 1 9 fun v st' => iv_V call mc_47 rt 88 L (v :: st') w := iv_V_eq (I := (((158, 3), .getfield 29, 1, 9, 608) : iv_I)) rfl
theorem e47_88 : iv_V call mc_47 rt 88 L st w = iv_ldi L 5 fun x => iv_V call mc_47 rt 89 L (.int x :: st) w := iv_V_eq (I := (((161, 2), .iload 5, 0, 0, 0) : iv_I)) rfl
theorem e47_89 : iv_V call mc_47 rt 89 L st w = iv_ald w st iv_isZ fun v st' => iv_V call mc_47 rt 90 L (v :: st') w := iv_V_eq (I := (((163, 1), .baload, 0, 0, 0) : iv_I)) rfl
theorem e47_90 : iv_V call mc_47 rt 90 L st w = iv_p1 st fun x st' => if x = 0 then iv_V call mc_47 rt 101 L (st') w else iv_V call mc_47 rt 91 L (st') w := (iv_V_eq (I := (((164, 3), .ifCond .eq 25, 101, 0, 0) : iv_I)) rfl).trans (by simp only [iv_go, iv_cnd, decide_eq_true_eq])
theorem e47_91 : iv_V call mc_47 rt 91 L st w = iv_ldi L 8 fun x => iv_V call mc_47 rt 92 L (.int x :: st) w := iv_V_eq (I := (((167, 2), .iload 8, 0, 0, 0) : iv_I)) rfl
theorem e47_92 : iv_V call mc_47 rt 92 L st w = iv_p1 st fun x st' => if x = 0 then iv_V call mc_47 rt 101 L (st') w else iv_V call mc_47 rt 93 L (st') w := (iv_V_eq (I := (((169, 3), .ifCond .eq 20, 101, 0, 0) : iv_I)) rfl).trans (by simp only [iv_go, iv_cnd, decide_eq_true_eq])
theorem e47_93 : iv_V call mc_47 rt 93 L st w = iv_lda L 0 fun x => iv_V call mc_47 rt 94 L (x :: st) w := iv_V_eq (I := (((172, 1), .aload_n 0, 0, 0, 0) : iv_I)) rfl
theorem e47_94 : iv_V call mc_47 rt 94 L st w = iv_ldi L 1 fun x => iv_V call mc_47 rt 95 L (.int x :: st) w := iv_V_eq (I := (((173, 1), .iload_n 1, 0, 0, 0) : iv_I)) rfl
theorem e47_95 : iv_V call mc_47 rt 95 L st w = iv_ldi L 5 fun x => iv_V call mc_47 rt 96 L (.int x :: st) w := iv_V_eq (I := (((174, 2), .iload 5, 0, 0, 0) : iv_I)) rfl
theorem e47_96 : iv_V call mc_47 rt 96 L st w = iv_ldi L 9 fun x => iv_V call mc_47 rt 97 L (.int x :: st) w := iv_V_eq (I := (((176, 2), .iload 9, 0, 0, 0) : iv_I)) rfl
theorem e47_97 : iv_V call mc_47 rt 97 L st w = iv_inv call 46 4 (fun as => iv_rc w as (iv_mc 46)) st w fun st' w' => iv_V call mc_47 rt 98 L (st') w' := iv_V_eq (I := (((178, 3), .invokevirtual 178, 46, 4, 859) : iv_I)) rfl
theorem e47_98 : iv_V call mc_47 rt 98 L st w = iv_p1 st fun x st' => iv_sto L 8 (.int x) fun L' => iv_V call mc_47 rt 99 L' (st') w := iv_V_eq (I := (((181, 2), .istore 8, 0, 0, 0) : iv_I)) rfl
theorem e47_99 : iv_V call mc_47 rt 99 L st w = iv_ldi L 9 fun x => iv_sto L 9 (.int (x + 1)) fun L' => iv_V call mc_47 rt 100 L' (st) w := (iv_V_eq (I := (((183, 3), .iinc 9 1, 0, 0, 0) : iv_I)) rfl).trans (congrArg (fun c => iv_ldi L 9 fun x => iv_sto L 9 (.int (x + c)) fun L' => iv_V call mc_47 rt 100 L' (st) w) li_o1)
theorem e47_100 : iv_V call mc_47 rt 100 L st w = iv_V call mc_47 rt 83 L (st) w := iv_V_eq (I := (((186, 3), .goto (-36), 83, 0, 0) : iv_I)) rfl
theorem e47_101 : iv_V call mc_47 rt 101 L st w = iv_ldi L 8 fun x => iv_V call mc_47 rt 102 L (.int x :: st) w := iv_V_eq (I := (((189, 2), .iload 8, 0, 0, 0) : iv_I)) rfl
theorem e47_102 : iv_V call mc_47 rt 102 L st w = iv_p1 st fun x st' => if ¬ x = 0 then iv_V call mc_47 rt 105 L (st') w else iv_V call mc_47 rt 103 L (st') w := (iv_V_eq (I := (((191, 3), .ifCond .ne 6, 105, 0, 0) : iv_I)) rfl).trans (by simp only [iv_go, iv_cnd, decide_eq_true_eq])
theorem e47_103 : iv_V call mc_47 rt 103 L st w = iv_V call mc_47 rt 104 L (.int (-5) :: st) w := (iv_V_eq (I := (((194, 2), .bipush (-5), 0, 0, 0) : iv_I)) rfl).trans (congrArg (fun c => iv_V call mc_47 rt 104 L (.int c :: st) w) li_bm5)
theorem e47_104 : iv_V call mc_47 rt 104 L st w = iv_ret rt st w := iv_V_eq (I := (((196, 1), .ireturn, 0, 0, 0) : iv_I)) rfl
theorem e47_105 : iv_V call mc_47 rt 105 L st w = iv_ldi L 5 fun x => iv_sto L 5 (.int (x + 1)) fun L' => iv_V call mc_47 rt 106 L' (st) w := (iv_V_eq (I := (((197, 3), .iinc 5 1, 0, 0, 0) : iv_I)) rfl).trans (congrArg (fun c => iv_ldi L 5 fun x => iv_sto L 5 (.int (x + c)) fun L' => iv_V call mc_47 rt 106 L' (st) w) li_o1)
theorem e47_106 : iv_V call mc_47 rt 106 L st w = iv_V call mc_47 rt 6 L (st) w := iv_V_eq (I := (((200, 3), .goto (-190), 6, 0, 0) : iv_I)) rfl
theorem e47_107 : iv_V call mc_47 rt 107 L st w = iv_V call mc_47 rt 108 L (.int 0 :: st) w := (iv_V_eq (I := (((203, 1), .iconst 0, 0, 0, 0) : iv_I)) rfl).trans (congrArg (fun c => iv_V call mc_47 rt 108 L (.int c :: st) w) li_o0)
theorem e47_108 : iv_V call mc_47 rt 108 L st w = iv_ret rt st w := iv_V_eq (I := (((204, 1), .ireturn, 0, 0, 0) : iv_I)) rfl
theorem e48_0 : iv_V call mc_48 rt 0 L st w = iv_V call mc_48 rt 1 L (.int 0 :: st) w := (iv_V_eq (I := (((0, 1), .iconst 0, 0, 0, 0) : iv_I)) rfl).trans (congrArg (fun c => iv_V call mc_48 rt 1 L (.int c :: st) w) li_o0)
theorem e48_1 : iv_V call mc_48 rt 1 L st w = iv_p1 st fun x st' => iv_sto L 2 (.int x) fun L' => iv_V call mc_48 rt 2 L' (st') w := iv_V_eq (I := (((1, 1), .istore_n 2, 0, 0, 0) : iv_I)) rfl
theorem e48_2 : iv_V call mc_48 rt 2 L st w = iv_V call mc_48 rt 3 L (.int 0 :: st) w := (iv_V_eq (I := (((2, 1), .iconst 0, 0, 0, 0) : iv_I)) rfl).trans (congrArg (fun c => iv_V call mc_48 rt 3 L (.int c :: st) w) li_o0)
theorem e48_3 : iv_V call mc_48 rt 3 L st w = iv_p1 st fun x st' => iv_sto L 3 (.int x) fun L' => iv_V call mc_48 rt 4 L' (st') w := iv_V_eq (I := (((3, 1), .istore_n 3, 0, 0, 0) : iv_I)) rfl
theorem e48_4 : iv_V call mc_48 rt 4 L st w = iv_V call mc_48 rt 5 L (.int 0 :: st) w := (iv_V_eq (I := (((4, 1), .iconst 0, 0, 0, 0) : iv_I)) rfl).trans (congrArg (fun c => iv_V call mc_48 rt 5 L (.int c :: st) w) li_o0)
theorem e48_5 : iv_V call mc_48 rt 5 L st w = iv_p1 st fun x st' => iv_sto L 4 (.int x) fun L' => iv_V call mc_48 rt 6 L' (st') w := iv_V_eq (I := (((5, 2), .istore 4, 0, 0, 0) : iv_I)) rfl
theorem e48_6 : iv_V call mc_48 rt 6 L st w = iv_ldi L 4 fun x => iv_V call mc_48 rt 7 L (.int x :: st) w := iv_V_eq (I := (((7, 2), .iload 4, 0, 0, 0) : iv_I)) rfl
theorem e48_7 : iv_V call mc_48 rt 7 L st w = iv_lda L 0 fun x => iv_V call mc_48 rt 8 L (x :: st) w := iv_V_eq (I := (((9, 1), .aload_n 0, 0, 0, 0) : iv_I)) rfl
theorem e48_8 : iv_V call mc_48 rt 8 L st w = iv_gf w st 1 22 fun v st' => iv_V call mc_48 rt 9 L (v :: st') w := iv_V_eq (I := (((10, 3), .getfield 68, 1, 22, 621) : iv_I)) rfl
theorem e48_9 : iv_V call mc_48 rt 9 L st w = iv_ldi L 1 fun x => iv_V call mc_48 rt 10 L (.int x :: st) w := iv_V_eq (I := (((13, 1), .iload_n 1, 0, 0, 0) : iv_I)) rfl
theorem e48_10 : iv_V call mc_48 rt 10 L st w = iv_ald w st iv_isI fun v st' => iv_V call mc_48 rt 11 L (v :: st') w := iv_V_eq (I := (((14, 1), .iaload, 0, 0, 0) : iv_I)) rfl
theorem e48_11 : iv_V call mc_48 rt 11 L st w = iv_p2 st fun x y st' => if y ≤ x then iv_V call mc_48 rt 45 L (st') w else iv_V call mc_48 rt 12 L (st') w := (iv_V_eq (I := (((15, 3), .if_icmp .ge 56, 45, 0, 0) : iv_I)) rfl).trans (by simp only [iv_go, iv_cnd, decide_eq_true_eq])
theorem e48_12 : iv_V call mc_48 rt 12 L st w = iv_lda L 0 fun x => iv_V call mc_48 rt 13 L (x :: st) w := iv_V_eq (I := (((18, 1), .aload_n 0, 0, 0, 0) : iv_I)) rfl
theorem e48_13 : iv_V call mc_48 rt 13 L st w = iv_gf w st 1 23 fun v st' => iv_V call mc_48 rt 14 L (v :: st') w := iv_V_eq (I := (((19, 3), .getfield 71, 1, 23, 622) : iv_I)) rfl
theorem e48_14 : iv_V call mc_48 rt 14 L st w = iv_V call mc_48 rt 15 L (.int 4 :: st) w := (iv_V_eq (I := (((22, 1), .iconst 4, 0, 0, 0) : iv_I)) rfl).trans (congrArg (fun c => iv_V call mc_48 rt 15 L (.int c :: st) w) li_o4)
theorem e48_15 : iv_V call mc_48 rt 15 L st w = iv_ldi L 1 fun x => iv_V call mc_48 rt 16 L (.int x :: st) w := iv_V_eq (I := (((23, 1), .iload_n 1, 0, 0, 0) : iv_I)) rfl
theorem e48_16 : iv_V call mc_48 rt 16 L st w = iv_p2 st fun x y st' => iv_V call mc_48 rt 17 L (.int (x * y) :: st') w := iv_V_eq (I := (((24, 1), .imul, 0, 0, 0) : iv_I)) rfl
theorem e48_17 : iv_V call mc_48 rt 17 L st w = iv_ldi L 4 fun x => iv_V call mc_48 rt 18 L (.int x :: st) w := iv_V_eq (I := (((25, 2), .iload 4, 0, 0, 0) : iv_I)) rfl
theorem e48_18 : iv_V call mc_48 rt 18 L st w = iv_p2 st fun x y st' => iv_V call mc_48 rt 19 L (.int (x + y) :: st') w := iv_V_eq (I := (((27, 1), .iadd, 0, 0, 0) : iv_I)) rfl
theorem e48_19 : iv_V call mc_48 rt 19 L st w = iv_ald w st iv_isI fun v st' => iv_V call mc_48 rt 20 L (v :: st') w := iv_V_eq (I := (((28, 1), .iaload, 0, 0, 0) : iv_I)) rfl
theorem e48_20 : iv_V call mc_48 rt 20 L st w = iv_V call mc_48 rt 21 L (.int (-1) :: st) w := (iv_V_eq (I := (((29, 1), .iconst (-1), 0, 0, 0) : iv_I)) rfl).trans (congrArg (fun c => iv_V call mc_48 rt 21 L (.int c :: st) w) li_om1)
theorem e48_21 : iv_V call mc_48 rt 21 L st w = iv_p2 st fun x y st' => if ¬ x = y then iv_V call mc_48 rt 26 L (st') w else iv_V call mc_48 rt 22 L (st') w := (iv_V_eq (I := (((30, 3), .if_icmp .ne 9, 26, 0, 0) : iv_I)) rfl).trans (by simp only [iv_go, iv_cnd, decide_eq_true_eq])
theorem e48_22 : iv_V call mc_48 rt 22 L st w = iv_ldi L 2 fun x => iv_V call mc_48 rt 23 L (.int x :: st) w := iv_V_eq (I := (((33, 1), .iload_n 2, 0, 0, 0) : iv_I)) rfl
theorem e48_23 : iv_V call mc_48 rt 23 L st w = iv_V call mc_48 rt 24 L (.int 1 :: st) w := (iv_V_eq (I := (((34, 1), .iconst 1, 0, 0, 0) : iv_I)) rfl).trans (congrArg (fun c => iv_V call mc_48 rt 24 L (.int c :: st) w) li_o1)
theorem e48_24 : iv_V call mc_48 rt 24 L st w = iv_p2 st fun x y st' => iv_V call mc_48 rt 25 L (.int (x + y) :: st') w := iv_V_eq (I := (((35, 1), .iadd, 0, 0, 0) : iv_I)) rfl
theorem e48_25 : iv_V call mc_48 rt 25 L st w = iv_V call mc_48 rt 27 L (st) w := iv_V_eq (I := (((36, 3), .goto 4, 27, 0, 0) : iv_I)) rfl
theorem e48_26 : iv_V call mc_48 rt 26 L st w = iv_ldi L 2 fun x => iv_V call mc_48 rt 27 L (.int x :: st) w := iv_V_eq (I := (((39, 1), .iload_n 2, 0, 0, 0) : iv_I)) rfl
theorem e48_27 : iv_V call mc_48 rt 27 L st w = iv_p1 st fun x st' => iv_sto L 2 (.int x) fun L' => iv_V call mc_48 rt 28 L' (st') w := iv_V_eq (I := (((40, 1), .istore_n 2, 0, 0, 0) : iv_I)) rfl
theorem e48_28 : iv_V call mc_48 rt 28 L st w = iv_ldi L 3 fun x => iv_V call mc_48 rt 29 L (.int x :: st) w := iv_V_eq (I := (((41, 1), .iload_n 3, 0, 0, 0) : iv_I)) rfl
theorem e48_29 : iv_V call mc_48 rt 29 L st w = iv_p1 st fun x st' => if ¬ x = 0 then iv_V call mc_48 rt 39 L (st') w else iv_V call mc_48 rt 30 L (st') w := (iv_V_eq (I := (((42, 3), .ifCond .ne 17, 39, 0, 0) : iv_I)) rfl).trans (by simp only [iv_go, iv_cnd, decide_eq_true_eq])
theorem e48_30 : iv_V call mc_48 rt 30 L st w = iv_lda L 0 fun x => iv_V call mc_48 rt 31 L (x :: st) w := iv_V_eq (I := (((45, 1), .aload_n 0, 0, 0, 0) : iv_I)) rfl
theorem e48_31 : iv_V call mc_48 rt 31 L st w = iv_gf w st 1 23 fun v st' => iv_V call mc_48 rt 32 L (v :: st') w := iv_V_eq (I := (((46, 3), .getfield 71, 1, 23, 622) : iv_I)) rfl
theorem e48_32 : iv_V call mc_48 rt 32 L st w = iv_V call mc_48 rt 33 L (.int 4 :: st) w := (iv_V_eq (I := (((49, 1), .iconst 4, 0, 0, 0) : iv_I)) rfl).trans (congrArg (fun c => iv_V call mc_48 rt 33 L (.int c :: st) w) li_o4)
theorem e48_33 : iv_V call mc_48 rt 33 L st w = iv_ldi L 1 fun x => iv_V call mc_48 rt 34 L (.int x :: st) w := iv_V_eq (I := (((50, 1), .iload_n 1, 0, 0, 0) : iv_I)) rfl
theorem e48_34 : iv_V call mc_48 rt 34 L st w = iv_p2 st fun x y st' => iv_V call mc_48 rt 35 L (.int (x * y) :: st') w := iv_V_eq (I := (((51, 1), .imul, 0, 0, 0) : iv_I)) rfl
theorem e48_35 : iv_V call mc_48 rt 35 L st w = iv_ldi L 4 fun x => iv_V call mc_48 rt 36 L (.int x :: st) w := iv_V_eq (I := (((52, 2), .iload 4, 0, 0, 0) : iv_I)) rfl
theorem e48_36 : iv_V call mc_48 rt 36 L st w = iv_p2 st fun x y st' => iv_V call mc_48 rt 37 L (.int (x + y) :: st') w := iv_V_eq (I := (((54, 1), .iadd, 0, 0, 0) : iv_I)) rfl
theorem e48_37 : iv_V call mc_48 rt 37 L st w = iv_ald w st iv_isI fun v st' => iv_V call mc_48 rt 38 L (v :: st') w := iv_V_eq (I := (((55, 1), .iaload, 0, 0, 0) : iv_I)) rfl
theorem e48_38 : iv_V call mc_48 rt 38 L st w = iv_p1 st fun x st' => if ¬ x = 0 then iv_V call mc_48 rt 41 L (st') w else iv_V call mc_48 rt 39 L (st') w := (iv_V_eq (I := (((56, 3), .ifCond .ne 7, 41, 0, 0) : iv_I)) rfl).trans (by simp only [iv_go, iv_cnd, decide_eq_true_eq])
theorem e48_39 : iv_V call mc_48 rt 39 L st w = iv_V call mc_48 rt 40 L (.int 1 :: st) w := (iv_V_eq (I := (((59, 1), .iconst 1, 0, 0, 0) : iv_I)) rfl).trans (congrArg (fun c => iv_V call mc_48 rt 40 L (.int c :: st) w) li_o1)
theorem e48_40 : iv_V call mc_48 rt 40 L st w = iv_V call mc_48 rt 42 L (st) w := iv_V_eq (I := (((60, 3), .goto 4, 42, 0, 0) : iv_I)) rfl
theorem e48_41 : iv_V call mc_48 rt 41 L st w = iv_V call mc_48 rt 42 L (.int 0 :: st) w := (iv_V_eq (I := (((63, 1), .iconst 0, 0, 0, 0) : iv_I)) rfl).trans (congrArg (fun c => iv_V call mc_48 rt 42 L (.int c :: st) w) li_o0)
theorem e48_42 : iv_V call mc_48 rt 42 L st w = iv_p1 st fun x st' => iv_sto L 3 (.int x) fun L' => iv_V call mc_48 rt 43 L' (st') w := iv_V_eq (I := (((64, 1), .istore_n 3, 0, 0, 0) : iv_I)) rfl
theorem e48_43 : iv_V call mc_48 rt 43 L st w = iv_ldi L 4 fun x => iv_sto L 4 (.int (x + 1)) fun L' => iv_V call mc_48 rt 44 L' (st) w := (iv_V_eq (I := (((65, 3), .iinc 4 1, 0, 0, 0) : iv_I)) rfl).trans (congrArg (fun c => iv_ldi L 4 fun x => iv_sto L 4 (.int (x + c)) fun L' => iv_V call mc_48 rt 44 L' (st) w) li_o1)
theorem e48_44 : iv_V call mc_48 rt 44 L st w = iv_V call mc_48 rt 6 L (st) w := iv_V_eq (I := (((68, 3), .goto (-61), 6, 0, 0) : iv_I)) rfl
theorem e48_45 : iv_V call mc_48 rt 45 L st w = iv_ldi L 2 fun x => iv_V call mc_48 rt 46 L (.int x :: st) w := iv_V_eq (I := (((71, 1), .iload_n 2, 0, 0, 0) : iv_I)) rfl
theorem e48_46 : iv_V call mc_48 rt 46 L st w = iv_V call mc_48 rt 47 L (.int 1 :: st) w := (iv_V_eq (I := (((72, 1), .iconst 1, 0, 0, 0) : iv_I)) rfl).trans (congrArg (fun c => iv_V call mc_48 rt 47 L (.int c :: st) w) li_o1)
theorem e48_47 : iv_V call mc_48 rt 47 L st w = iv_p2 st fun x y st' => if ¬ x = y then iv_V call mc_48 rt 52 L (st') w else iv_V call mc_48 rt 48 L (st') w := (iv_V_eq (I := (((73, 3), .if_icmp .ne 11, 52, 0, 0) : iv_I)) rfl).trans (by simp only [iv_go, iv_cnd, decide_eq_true_eq])
theorem e48_48 : iv_V call mc_48 rt 48 L st w = iv_ldi L 3 fun x => iv_V call mc_48 rt 49 L (.int x :: st) w := iv_V_eq (I := (((76, 1), .iload_n 3, 0, 0, 0) : iv_I)) rfl
theorem e48_49 : iv_V call mc_48 rt 49 L st w = iv_p1 st fun x st' => if ¬ x = 0 then iv_V call mc_48 rt 52 L (st') w else iv_V call mc_48 rt 50 L (st') w := (iv_V_eq (I := (((77, 3), .ifCond .ne 7, 52, 0, 0) : iv_I)) rfl).trans (by simp only [iv_go, iv_cnd, decide_eq_true_eq])
theorem e48_50 : iv_V call mc_48 rt 50 L st w = iv_V call mc_48 rt 51 L (.int 1 :: st) w := (iv_V_eq (I := (((80, 1), .iconst 1, 0, 0, 0) : iv_I)) rfl).trans (congrArg (fun c => iv_V call mc_48 rt 51 L (.int c :: st) w) li_o1)
theorem e48_51 : iv_V call mc_48 rt 51 L st w = iv_V call mc_48 rt 53 L (st) w := iv_V_eq (I := (((81, 3), .goto 4, 53, 0, 0) : iv_I)) rfl
theorem e48_52 : iv_V call mc_48 rt 52 L st w = iv_V call mc_48 rt 53 L (.int 0 :: st) w := (iv_V_eq (I := (((84, 1), .iconst 0, 0, 0, 0) : iv_I)) rfl).trans (congrArg (fun c => iv_V call mc_48 rt 53 L (.int c :: st) w) li_o0)
theorem e48_53 : iv_V call mc_48 rt 53 L st w = iv_ret rt st w := iv_V_eq (I := (((85, 1), .ireturn, 0, 0, 0) : iv_I)) rfl
theorem e49_0 : iv_V call mc_49 rt 0 L st w = iv_V call mc_49 rt 1 L (.int 0 :: st) w := (iv_V_eq (I := (((0, 1), .iconst 0, 0, 0, 0) : iv_I)) rfl).trans (congrArg (fun c => iv_V call mc_49 rt 1 L (.int c :: st) w) li_o0)
theorem e49_1 : iv_V call mc_49 rt 1 L st w = iv_p1 st fun x st' => iv_sto L 3 (.int x) fun L' => iv_V call mc_49 rt 2 L' (st') w := iv_V_eq (I := (((1, 1), .istore_n 3, 0, 0, 0) : iv_I)) rfl
theorem e49_2 : iv_V call mc_49 rt 2 L st w = iv_ldi L 3 fun x => iv_V call mc_49 rt 3 L (.int x :: st) w := iv_V_eq (I := (((2, 1), .iload_n 3, 0, 0, 0) : iv_I)) rfl
theorem e49_3 : iv_V call mc_49 rt 3 L st w = iv_lda L 0 fun x => iv_V call mc_49 rt 4 L (x :: st) w := iv_V_eq (I := (((3, 1), .aload_n 0, 0, 0, 0) : iv_I)) rfl
theorem e49_4 : iv_V call mc_49 rt 4 L st w = iv_gf w st 1 28 fun v st' => iv_V call mc_49 rt 5 L (v :: st') w := iv_V_eq (I := (((4, 3), .getfield 163, 1, 28, 627) : iv_I)) rfl
theorem e49_5 : iv_V call mc_49 rt 5 L st w = iv_p2 st fun x y st' => if y ≤ x then iv_V call mc_49 rt 22 L (st') w else iv_V call mc_49 rt 6 L (st') w := (iv_V_eq (I := (((7, 3), .if_icmp .ge 31, 22, 0, 0) : iv_I)) rfl).trans (by simp only [iv_go, iv_cnd, decide_eq_true_eq])
theorem e49_6 : iv_V call mc_49 rt 6 L st w = iv_lda L 0 fun x => iv_V call mc_49 rt 7 L (x :: st) w := iv_V_eq (I := (((10, 1), .aload_n 0, 0, 0, 0) : iv_I)) rfl
theorem e49_7 : iv_V call mc_49 rt 7 L st w = iv_gf w st 1 29 fun v st' => iv_V call mc_49 rt 8 L (v :: st') w := iv_V_eq (I := (((11, 3), .getfield 83, 1, 29, 628) : iv_I)) rfl
theorem e49_8 : iv_V call mc_49 rt 8 L st w = iv_ldi L 3 fun x => iv_V call mc_49 rt 9 L (.int x :: st) w := iv_V_eq (I := (((14, 1), .iload_n 3, 0, 0, 0) : iv_I)) rfl
theorem e49_9 : iv_V call mc_49 rt 9 L st w = iv_ald w st iv_isI fun v st' => iv_V call mc_49 rt 10 L (v :: st') w := iv_V_eq (I := (((15, 1), .iaload, 0, 0, 0) : iv_I)) rfl
theorem e49_10 : iv_V call mc_49 rt 10 L st w = iv_ldi L 1 fun x => iv_V call mc_49 rt 11 L (.int x :: st) w := iv_V_eq (I := (((16, 1), .iload_n 1, 0, 0, 0) : iv_I)) rfl
theorem e49_11 : iv_V call mc_49 rt 11 L st w = iv_p2 st fun x y st' => if ¬ x = y then iv_V call mc_49 rt 20 L (st') w else iv_V call mc_49 rt 12 L (st') w := (iv_V_eq (I := (((17, 3), .if_icmp .ne 15, 20, 0, 0) : iv_I)) rfl).trans (by simp only [iv_go, iv_cnd, decide_eq_true_eq])
theorem e49_12 : iv_V call mc_49 rt 12 L st w = iv_lda L 0 fun x => iv_V call mc_49 rt 13 L (x :: st) w := iv_V_eq (I := (((20, 1), .aload_n 0, 0, 0, 0) : iv_I)) rfl
theorem e49_13 : iv_V call mc_49 rt 13 L st w = iv_gf w st 1 30 fun v st' => iv_V call mc_49 rt 14 L (v :: st') w := iv_V_eq (I := (((21, 3), .getfield 86, 1, 30, 629) : iv_I)) rfl
theorem e49_14 : iv_V call mc_49 rt 14 L st w = iv_ldi L 3 fun x => iv_V call mc_49 rt 15 L (.int x :: st) w := iv_V_eq (I := (((24, 1), .iload_n 3, 0, 0, 0) : iv_I)) rfl
theorem e49_15 : iv_V call mc_49 rt 15 L st w = iv_ald w st iv_isI fun v st' => iv_V call mc_49 rt 16 L (v :: st') w := iv_V_eq (I := (((25, 1), .iaload, 0, 0, 0) : iv_I)) rfl
theorem e49_16 : iv_V call mc_49 rt 16 L st w = iv_ldi L 2 fun x => iv_V call mc_49 rt 17 L (.int x :: st) w := iv_V_eq (I := (((26, 1), .iload_n 2, 0, 0, 0) : iv_I)) rfl
theorem e49_17 : iv_V call mc_49 rt 17 L st w = iv_p2 st fun x y st' => if ¬ x = y then iv_V call mc_49 rt 20 L (st') w else iv_V call mc_49 rt 18 L (st') w := (iv_V_eq (I := (((27, 3), .if_icmp .ne 5, 20, 0, 0) : iv_I)) rfl).trans (by simp only [iv_go, iv_cnd, decide_eq_true_eq])
theorem e49_18 : iv_V call mc_49 rt 18 L st w = iv_V call mc_49 rt 19 L (.int 0 :: st) w := (iv_V_eq (I := (((30, 1), .iconst 0, 0, 0, 0) : iv_I)) rfl).trans (congrArg (fun c => iv_V call mc_49 rt 19 L (.int c :: st) w) li_o0)
theorem e49_19 : iv_V call mc_49 rt 19 L st w = iv_ret rt st w := iv_V_eq (I := (((31, 1), .ireturn, 0, 0, 0) : iv_I)) rfl
theorem e49_20 : iv_V call mc_49 rt 20 L st w = iv_ldi L 3 fun x => iv_sto L 3 (.int (x + 1)) fun L' => iv_V call mc_49 rt 21 L' (st) w := (iv_V_eq (I := (((32, 3), .iinc 3 1, 0, 0, 0) : iv_I)) rfl).trans (congrArg (fun c => iv_ldi L 3 fun x => iv_sto L 3 (.int (x + c)) fun L' => iv_V call mc_49 rt 21 L' (st) w) li_o1)
theorem e49_21 : iv_V call mc_49 rt 21 L st w = iv_V call mc_49 rt 2 L (st) w := iv_V_eq (I := (((35, 3), .goto (-33), 2, 0, 0) : iv_I)) rfl
theorem e49_22 : iv_V call mc_49 rt 22 L st w = iv_lda L 0 fun x => iv_V call mc_49 rt 23 L (x :: st) w := iv_V_eq (I := (((38, 1), .aload_n 0, 0, 0, 0) : iv_I)) rfl
theorem e49_23 : iv_V call mc_49 rt 23 L st w = iv_gf w st 1 39 fun v st' => iv_V call mc_49 rt 24 L (v :: st') w := iv_V_eq (I := (((39, 3), .getfield 181, 1, 39, 638) : iv_I)) rfl
theorem e49_24 : iv_V call mc_49 rt 24 L st w = iv_V call mc_49 rt 25 L (.int 60 :: st) w := (iv_V_eq (I := (((42, 2), .bipush 60, 0, 0, 0) : iv_I)) rfl).trans (congrArg (fun c => iv_V call mc_49 rt 25 L (.int c :: st) w) li_b60)
theorem e49_25 : iv_V call mc_49 rt 25 L st w = iv_p2 st fun x y st' => if x = y then iv_V call mc_49 rt 30 L (st') w else iv_V call mc_49 rt 26 L (st') w := (iv_V_eq (I := (((44, 3), .if_icmp .eq 12, 30, 0, 0) : iv_I)) rfl).trans (by simp only [iv_go, iv_cnd, decide_eq_true_eq])
theorem e49_26 : iv_V call mc_49 rt 26 L st w = iv_lda L 0 fun x => iv_V call mc_49 rt 27 L (x :: st) w := iv_V_eq (I := (((47, 1), .aload_n 0, 0, 0, 0) : iv_I)) rfl
theorem e49_27 : iv_V call mc_49 rt 27 L st w = iv_gf w st 1 28 fun v st' => iv_V call mc_49 rt 28 L (v :: st') w := iv_V_eq (I := (((48, 3), .getfield 163, 1, 28, 627) : iv_I)) rfl
theorem e49_28 : iv_V call mc_49 rt 28 L st w = iv_V call mc_49 rt 29 L (.int 16 :: st) w := (iv_V_eq (I := (((51, 2), .bipush 16, 0, 0, 0) : iv_I)) rfl).trans (congrArg (fun c => iv_V call mc_49 rt 29 L (.int c :: st) w) li_b16)
theorem e49_29 : iv_V call mc_49 rt 29 L st w = iv_p2 st fun x y st' => if ¬ x = y then iv_V call mc_49 rt 32 L (st') w else iv_V call mc_49 rt 30 L (st') w := (iv_V_eq (I := (((53, 3), .if_icmp .ne 6, 32, 0, 0) : iv_I)) rfl).trans (by simp only [iv_go, iv_cnd, decide_eq_true_eq])
theorem e49_30 : iv_V call mc_49 rt 30 L st w = iv_V call mc_49 rt 31 L (.int (-5) :: st) w := (iv_V_eq (I := (((56, 2), .bipush (-5), 0, 0, 0) : iv_I)) rfl).trans (congrArg (fun c => iv_V call mc_49 rt 31 L (.int c :: st) w) li_bm5)
theorem e49_31 : iv_V call mc_49 rt 31 L st w = iv_ret rt st w := iv_V_eq (I := (((58, 1), .ireturn, 0, 0, 0) : iv_I)) rfl
theorem e49_32 : iv_V call mc_49 rt 32 L st w = iv_lda L 0 fun x => iv_V call mc_49 rt 33 L (x :: st) w := iv_V_eq (I := (((59, 1), .aload_n 0, 0, 0, 0) : iv_I)) rfl
theorem e49_33 : iv_V call mc_49 rt 33 L st w = iv_d1 st fun a st' => iv_V call mc_49 rt 34 L (a :: a :: st') w := iv_V_eq (I := (((60, 1), .dup, 0, 0, 0) : iv_I)) rfl
theorem e49_34 : iv_V call mc_49 rt 34 L st w = iv_gf w st 1 39 fun v st' => iv_V call mc_49 rt 35 L (v :: st') w := iv_V_eq (I := (((61, 3), .getfield 181, 1, 39, 638) : iv_I)) rfl
theorem e49_35 : iv_V call mc_49 rt 35 L st w = iv_V call mc_49 rt 36 L (.int 1 :: st) w := (iv_V_eq (I := (((64, 1), .iconst 1, 0, 0, 0) : iv_I)) rfl).trans (congrArg (fun c => iv_V call mc_49 rt 36 L (.int c :: st) w) li_o1)
theorem e49_36 : iv_V call mc_49 rt 36 L st w = iv_p2 st fun x y st' => iv_V call mc_49 rt 37 L (.int (x + y) :: st') w := iv_V_eq (I := (((65, 1), .iadd, 0, 0, 0) : iv_I)) rfl
theorem e49_37 : iv_V call mc_49 rt 37 L st w = iv_pf w st 1 39 fun st' w' => iv_V call mc_49 rt 38 L (st') w' := iv_V_eq (I := (((66, 3), .putfield 181, 1, 39, 638) : iv_I)) rfl
theorem e49_38 : iv_V call mc_49 rt 38 L st w = iv_ldi L 2 fun x => iv_V call mc_49 rt 39 L (.int x :: st) w := iv_V_eq (I := (((69, 1), .iload_n 2, 0, 0, 0) : iv_I)) rfl
theorem e49_39 : iv_V call mc_49 rt 39 L st w = iv_p1 st fun x st' => if ¬ x = 0 then iv_V call mc_49 rt 57 L (st') w else iv_V call mc_49 rt 40 L (st') w := (iv_V_eq (I := (((70, 3), .ifCond .ne 33, 57, 0, 0) : iv_I)) rfl).trans (by simp only [iv_go, iv_cnd, decide_eq_true_eq])
theorem e49_40 : iv_V call mc_49 rt 40 L st w = iv_lda L 0 fun x => iv_V call mc_49 rt 41 L (x :: st) w := iv_V_eq (I := (((73, 1), .aload_n 0, 0, 0, 0) : iv_I)) rfl
theorem e49_41 : iv_V call mc_49 rt 41 L st w = iv_gf w st 1 22 fun v st' => iv_V call mc_49 rt 42 L (v :: st') w := iv_V_eq (I := (((74, 3), .getfield 68, 1, 22, 621) : iv_I)) rfl
theorem e49_42 : iv_V call mc_49 rt 42 L st w = iv_lda L 0 fun x => iv_V call mc_49 rt 43 L (x :: st) w := iv_V_eq (I := (((77, 1), .aload_n 0, 0, 0, 0) : iv_I)) rfl
theorem e49_43 : iv_V call mc_49 rt 43 L st w = iv_gf w st 1 25 fun v st' => iv_V call mc_49 rt 44 L (v :: st') w := iv_V_eq (I := (((78, 3), .getfield 74, 1, 25, 624) : iv_I)) rfl
theorem e49_44 : iv_V call mc_49 rt 44 L st w = iv_ldi L 1 fun x => iv_V call mc_49 rt 45 L (.int x :: st) w := iv_V_eq (I := (((81, 1), .iload_n 1, 0, 0, 0) : iv_I)) rfl
theorem e49_45 : iv_V call mc_49 rt 45 L st w = iv_ald w st iv_isI fun v st' => iv_V call mc_49 rt 46 L (v :: st') w := iv_V_eq (I := (((82, 1), .iaload, 0, 0, 0) : iv_I)) rfl
theorem e49_46 : iv_V call mc_49 rt 46 L st w = iv_ald w st iv_isI fun v st' => iv_V call mc_49 rt 47 L (v :: st') w := iv_V_eq (I := (((83, 1), .iaload, 0, 0, 0) : iv_I)) rfl
theorem e49_47 : iv_V call mc_49 rt 47 L st w = iv_p1 st fun x st' => if x ≤ 0 then iv_V call mc_49 rt 57 L (st') w else iv_V call mc_49 rt 48 L (st') w := (iv_V_eq (I := (((84, 3), .ifCond .le 19, 57, 0, 0) : iv_I)) rfl).trans (by simp only [iv_go, iv_cnd, decide_eq_true_eq])
theorem e49_48 : iv_V call mc_49 rt 48 L st w = iv_lda L 0 fun x => iv_V call mc_49 rt 49 L (x :: st) w := iv_V_eq (I := (((87, 1), .aload_n 0, 0, 0, 0) : iv_I)) rfl
theorem e49_49 : iv_V call mc_49 rt 49 L st w = iv_lda L 0 fun x => iv_V call mc_49 rt 50 L (x :: st) w := iv_V_eq (I := (((88, 1), .aload_n 0, 0, 0, 0) : iv_I)) rfl
theorem e49_50 : iv_V call mc_49 rt 50 L st w = iv_gf w st 1 25 fun v st' => iv_V call mc_49 rt 51 L (v :: st') w := iv_V_eq (I := (((89, 3), .getfield 74, 1, 25, 624) : iv_I)) rfl
theorem e49_51 : iv_V call mc_49 rt 51 L st w = iv_ldi L 1 fun x => iv_V call mc_49 rt 52 L (.int x :: st) w := iv_V_eq (I := (((92, 1), .iload_n 1, 0, 0, 0) : iv_I)) rfl
theorem e49_52 : iv_V call mc_49 rt 52 L st w = iv_ald w st iv_isI fun v st' => iv_V call mc_49 rt 53 L (v :: st') w := iv_V_eq (I := (((93, 1), .iaload, 0, 0, 0) : iv_I)) rfl
theorem e49_53 : iv_V call mc_49 rt 53 L st w = iv_inv call 48 2 (fun as => iv_rc w as (iv_mc 48)) st w fun st' w' => iv_V call mc_49 rt 54 L (st') w' := iv_V_eq (I := (((94, 3), .invokevirtual 184, 48, 2, 835) : iv_I)) rfl
theorem e49_54 : iv_V call mc_49 rt 54 L st w = iv_p1 st fun x st' => if ¬ x = 0 then iv_V call mc_49 rt 57 L (st') w else iv_V call mc_49 rt 55 L (st') w := (iv_V_eq (I := (((97, 3), .ifCond .ne 6, 57, 0, 0) : iv_I)) rfl).trans (by simp only [iv_go, iv_cnd, decide_eq_true_eq])
theorem e49_55 : iv_V call mc_49 rt 55 L st w = iv_V call mc_49 rt 56 L (.int (-3) :: st) w := (iv_V_eq (I := (((100, 2), .bipush (-3), 0, 0, 0) : iv_I)) rfl).trans (congrArg (fun c => iv_V call mc_49 rt 56 L (.int c :: st) w) li_bm3)
theorem e49_56 : iv_V call mc_49 rt 56 L st w = iv_ret rt st w := iv_V_eq (I := (((102, 1), .ireturn, 0, 0, 0) : iv_I)) rfl
theorem e49_57 : iv_V call mc_49 rt 57 L st w = iv_lda L 0 fun x => iv_V call mc_49 rt 58 L (x :: st) w := iv_V_eq (I := (((103, 1), .aload_n 0, 0, 0, 0) : iv_I)) rfl
theorem e49_58 : iv_V call mc_49 rt 58 L st w = iv_gf w st 1 29 fun v st' => iv_V call mc_49 rt 59 L (v :: st') w := iv_V_eq (I := (((104, 3), .getfield 83, 1, 29, 628) : iv_I)) rfl
theorem e49_59 : iv_V call mc_49 rt 59 L st w = iv_lda L 0 fun x => iv_V call mc_49 rt 60 L (x :: st) w := iv_V_eq (I := (((107, 1), .aload_n 0, 0, 0, 0) : iv_I)) rfl
theorem e49_60 : iv_V call mc_49 rt 60 L st w = iv_gf w st 1 28 fun v st' => iv_V call mc_49 rt 61 L (v :: st') w := iv_V_eq (I := (((108, 3), .getfield 163, 1, 28, 627) : iv_I)) rfl
theorem e49_61 : iv_V call mc_49 rt 61 L st w = iv_ldi L 1 fun x => iv_V call mc_49 rt 62 L (.int x :: st) w := iv_V_eq (I := (((111, 1), .iload_n 1, 0, 0, 0) : iv_I)) rfl
theorem e49_62 : iv_V call mc_49 rt 62 L st w = iv_ast w st iv_isI fun st' w' => iv_V call mc_49 rt 63 L (st') w' := iv_V_eq (I := (((112, 1), .iastore, 0, 0, 0) : iv_I)) rfl
theorem e49_63 : iv_V call mc_49 rt 63 L st w = iv_lda L 0 fun x => iv_V call mc_49 rt 64 L (x :: st) w := iv_V_eq (I := (((113, 1), .aload_n 0, 0, 0, 0) : iv_I)) rfl
theorem e49_64 : iv_V call mc_49 rt 64 L st w = iv_gf w st 1 30 fun v st' => iv_V call mc_49 rt 65 L (v :: st') w := iv_V_eq (I := (((114, 3), .getfield 86, 1, 30, 629) : iv_I)) rfl
theorem e49_65 : iv_V call mc_49 rt 65 L st w = iv_lda L 0 fun x => iv_V call mc_49 rt 66 L (x :: st) w := iv_V_eq (I := (((117, 1), .aload_n 0, 0, 0, 0) : iv_I)) rfl
theorem e49_66 : iv_V call mc_49 rt 66 L st w = iv_gf w st 1 28 fun v st' => iv_V call mc_49 rt 67 L (v :: st') w := iv_V_eq (I := (((118, 3), .getfield 163, 1, 28, 627) : iv_I)) rfl
theorem e49_67 : iv_V call mc_49 rt 67 L st w = iv_ldi L 2 fun x => iv_V call mc_49 rt 68 L (.int x :: st) w := iv_V_eq (I := (((121, 1), .iload_n 2, 0, 0, 0) : iv_I)) rfl
theorem e49_68 : iv_V call mc_49 rt 68 L st w = iv_ast w st iv_isI fun st' w' => iv_V call mc_49 rt 69 L (st') w' := iv_V_eq (I := (((122, 1), .iastore, 0, 0, 0) : iv_I)) rfl
theorem e49_69 : iv_V call mc_49 rt 69 L st w = iv_lda L 0 fun x => iv_V call mc_49 rt 70 L (x :: st) w := iv_V_eq (I := (((123, 1), .aload_n 0, 0, 0, 0) : iv_I)) rfl
theorem e49_70 : iv_V call mc_49 rt 70 L st w = iv_gf w st 1 31 fun v st' => iv_V call mc_49 rt 71 L (v :: st') w := iv_V_eq (I := (((124, 3), .getfield 89, 1, 31, 630) : iv_I)) rfl
theorem e49_71 : iv_V call mc_49 rt 71 L st w = iv_lda L 0 fun x => iv_V call mc_49 rt 72 L (x :: st) w := iv_V_eq (I := (((127, 1), .aload_n 0, 0, 0, 0) : iv_I)) rfl
theorem e49_72 : iv_V call mc_49 rt 72 L st w = iv_gf w st 1 28 fun v st' => iv_V call mc_49 rt 73 L (v :: st') w := iv_V_eq (I := (((128, 3), .getfield 163, 1, 28, 627) : iv_I)) rfl
theorem e49_73 : iv_V call mc_49 rt 73 L st w = iv_V call mc_49 rt 74 L (.int 0 :: st) w := (iv_V_eq (I := (((131, 1), .iconst 0, 0, 0, 0) : iv_I)) rfl).trans (congrArg (fun c => iv_V call mc_49 rt 74 L (.int c :: st) w) li_o0)
theorem e49_74 : iv_V call mc_49 rt 74 L st w = iv_ast w st iv_isI fun st' w' => iv_V call mc_49 rt 75 L (st') w' := iv_V_eq (I := (((132, 1), .iastore, 0, 0, 0) : iv_I)) rfl
theorem e49_75 : iv_V call mc_49 rt 75 L st w = iv_lda L 0 fun x => iv_V call mc_49 rt 76 L (x :: st) w := iv_V_eq (I := (((133, 1), .aload_n 0, 0, 0, 0) : iv_I)) rfl
theorem e49_76 : iv_V call mc_49 rt 76 L st w = iv_gf w st 1 33 fun v st' => iv_V call mc_49 rt 77 L (v :: st') w := iv_V_eq (I := (((134, 3), .getfield 95, 1, 33, 632) : iv_I)) rfl
theorem e49_77 : iv_V call mc_49 rt 77 L st w = iv_lda L 0 fun x => iv_V call mc_49 rt 78 L (x :: st) w := iv_V_eq (I := (((137, 1), .aload_n 0, 0, 0, 0) : iv_I)) rfl
theorem e49_78 : iv_V call mc_49 rt 78 L st w = iv_gf w st 1 28 fun v st' => iv_V call mc_49 rt 79 L (v :: st') w := iv_V_eq (I := (((138, 3), .getfield 163, 1, 28, 627) : iv_I)) rfl
theorem e49_79 : iv_V call mc_49 rt 79 L st w = iv_V call mc_49 rt 80 L (.int 0 :: st) w := (iv_V_eq (I := (((141, 1), .iconst 0, 0, 0, 0) : iv_I)) rfl).trans (congrArg (fun c => iv_V call mc_49 rt 80 L (.int c :: st) w) li_o0)
theorem e49_80 : iv_V call mc_49 rt 80 L st w = iv_ast w st iv_isZ fun st' w' => iv_V call mc_49 rt 81 L (st') w' := iv_V_eq (I := (((142, 1), .bastore, 0, 0, 0) : iv_I)) rfl
theorem e49_81 : iv_V call mc_49 rt 81 L st w = iv_lda L 0 fun x => iv_V call mc_49 rt 82 L (x :: st) w := iv_V_eq (I := (((143, 1), .aload_n 0, 0, 0, 0) : iv_I)) rfl
theorem e49_82 : iv_V call mc_49 rt 82 L st w = iv_d1 st fun a st' => iv_V call mc_49 rt 83 L (a :: a :: st') w := iv_V_eq (I := (((144, 1), .dup, 0, 0, 0) : iv_I)) rfl
theorem e49_83 : iv_V call mc_49 rt 83 L st w = iv_gf w st 1 28 fun v st' => iv_V call mc_49 rt 84 L (v :: st') w := iv_V_eq (I := (((145, 3), .getfield 163, 1, 28, 627) : iv_I)) rfl
theorem e49_84 : iv_V call mc_49 rt 84 L st w = iv_V call mc_49 rt 85 L (.int 1 :: st) w := (iv_V_eq (I := (((148, 1), .iconst 1, 0, 0, 0) : iv_I)) rfl).trans (congrArg (fun c => iv_V call mc_49 rt 85 L (.int c :: st) w) li_o1)
theorem e49_85 : iv_V call mc_49 rt 85 L st w = iv_p2 st fun x y st' => iv_V call mc_49 rt 86 L (.int (x + y) :: st') w := iv_V_eq (I := (((149, 1), .iadd, 0, 0, 0) : iv_I)) rfl
theorem e49_86 : iv_V call mc_49 rt 86 L st w = iv_pf w st 1 28 fun st' w' => iv_V call mc_49 rt 87 L (st') w' := iv_V_eq (I := (((150, 3), .putfield 163, 1, 28, 627) : iv_I)) rfl
theorem e49_87 : iv_V call mc_49 rt 87 L st w = iv_V call mc_49 rt 88 L (.int 0 :: st) w := (iv_V_eq (I := (((153, 1), .iconst 0, 0, 0, 0) : iv_I)) rfl).trans (congrArg (fun c => iv_V call mc_49 rt 88 L (.int c :: st) w) li_o0)
theorem e49_88 : iv_V call mc_49 rt 88 L st w = iv_ret rt st w := iv_V_eq (I := (((154, 1), .ireturn, 0, 0, 0) : iv_I)) rfl
theorem e50_0 : iv_V call mc_50 rt 0 L st w = iv_lda L 0 fun x => iv_V call mc_50 rt 1 L (x :: st) w := iv_V_eq (I := (((0, 1), .aload_n 0, 0, 0, 0) : iv_I)) rfl
theorem e50_1 : iv_V call mc_50 rt 1 L st w = iv_gf w st 1 25 fun v st' => iv_V call mc_50 rt 2 L (v :: st') w := iv_V_eq (I := (((1, 3), .getfield 74, 1, 25, 624) : iv_I)) rfl
theorem e50_2 : iv_V call mc_50 rt 2 L st w = iv_lda L 0 fun x => iv_V call mc_50 rt 3 L (x :: st) w := iv_V_eq (I := (((4, 1), .aload_n 0, 0, 0, 0) : iv_I)) rfl
theorem e50_3 : iv_V call mc_50 rt 3 L st w = iv_gf w st 1 29 fun v st' => iv_V call mc_50 rt 4 L (v :: st') w := iv_V_eq (I := (((5, 3), .getfield 83, 1, 29, 628) : iv_I)) rfl
theorem e50_4 : iv_V call mc_50 rt 4 L st w = iv_ldi L 1 fun x => iv_V call mc_50 rt 5 L (.int x :: st) w := iv_V_eq (I := (((8, 1), .iload_n 1, 0, 0, 0) : iv_I)) rfl
theorem e50_5 : iv_V call mc_50 rt 5 L st w = iv_ald w st iv_isI fun v st' => iv_V call mc_50 rt 6 L (v :: st') w := iv_V_eq (I := (((9, 1), .iaload, 0, 0, 0) : iv_I)) rfl
theorem e50_6 : iv_V call mc_50 rt 6 L st w = iv_ald w st iv_isI fun v st' => iv_V call mc_50 rt 7 L (v :: st') w := iv_V_eq (I := (((10, 1), .iaload, 0, 0, 0) : iv_I)) rfl
theorem e50_7 : iv_V call mc_50 rt 7 L st w = iv_p1 st fun x st' => iv_sto L 2 (.int x) fun L' => iv_V call mc_50 rt 8 L' (st') w := iv_V_eq (I := (((11, 1), .istore_n 2, 0, 0, 0) : iv_I)) rfl
theorem e50_8 : iv_V call mc_50 rt 8 L st w = iv_lda L 0 fun x => iv_V call mc_50 rt 9 L (x :: st) w := iv_V_eq (I := (((12, 1), .aload_n 0, 0, 0, 0) : iv_I)) rfl
theorem e50_9 : iv_V call mc_50 rt 9 L st w = iv_gf w st 1 30 fun v st' => iv_V call mc_50 rt 10 L (v :: st') w := iv_V_eq (I := (((13, 3), .getfield 86, 1, 30, 629) : iv_I)) rfl
theorem e50_10 : iv_V call mc_50 rt 10 L st w = iv_ldi L 1 fun x => iv_V call mc_50 rt 11 L (.int x :: st) w := iv_V_eq (I := (((16, 1), .iload_n 1, 0, 0, 0) : iv_I)) rfl
theorem e50_11 : iv_V call mc_50 rt 11 L st w = iv_ald w st iv_isI fun v st' => iv_V call mc_50 rt 12 L (v :: st') w := iv_V_eq (I := (((17, 1), .iaload, 0, 0, 0) : iv_I)) rfl
theorem e50_12 : iv_V call mc_50 rt 12 L st w = iv_p1 st fun x st' => if ¬ x = 0 then iv_V call mc_50 rt 20 L (st') w else iv_V call mc_50 rt 13 L (st') w := (iv_V_eq (I := (((18, 3), .ifCond .ne 16, 20, 0, 0) : iv_I)) rfl).trans (by simp only [iv_go, iv_cnd, decide_eq_true_eq])
theorem e50_13 : iv_V call mc_50 rt 13 L st w = iv_lda L 0 fun x => iv_V call mc_50 rt 14 L (x :: st) w := iv_V_eq (I := (((21, 1), .aload_n 0, 0, 0, 0) : iv_I)) rfl
theorem e50_14 : iv_V call mc_50 rt 14 L st w = iv_gf w st 1 22 fun v st' => iv_V call mc_50 rt 15 L (v :: st') w := iv_V_eq (I := (((22, 3), .getfield 68, 1, 22, 621) : iv_I)) rfl
theorem e50_15 : iv_V call mc_50 rt 15 L st w = iv_ldi L 2 fun x => iv_V call mc_50 rt 16 L (.int x :: st) w := iv_V_eq (I := (((25, 1), .iload_n 2, 0, 0, 0) : iv_I)) rfl
theorem e50_16 : iv_V call mc_50 rt 16 L st w = iv_ald w st iv_isI fun v st' => iv_V call mc_50 rt 17 L (v :: st') w := iv_V_eq (I := (((26, 1), .iaload, 0, 0, 0) : iv_I)) rfl
theorem e50_17 : iv_V call mc_50 rt 17 L st w = iv_p1 st fun x st' => if x ≤ 0 then iv_V call mc_50 rt 20 L (st') w else iv_V call mc_50 rt 18 L (st') w := (iv_V_eq (I := (((27, 3), .ifCond .le 7, 20, 0, 0) : iv_I)) rfl).trans (by simp only [iv_go, iv_cnd, decide_eq_true_eq])
theorem e50_18 : iv_V call mc_50 rt 18 L st w = iv_V call mc_50 rt 19 L (.int 1 :: st) w := (iv_V_eq (I := (((30, 1), .iconst 1, 0, 0, 0) : iv_I)) rfl).trans (congrArg (fun c => iv_V call mc_50 rt 19 L (.int c :: st) w) li_o1)
theorem e50_19 : iv_V call mc_50 rt 19 L st w = iv_V call mc_50 rt 21 L (st) w := iv_V_eq (I := (((31, 3), .goto 4, 21, 0, 0) : iv_I)) rfl
theorem e50_20 : iv_V call mc_50 rt 20 L st w = iv_V call mc_50 rt 21 L (.int 0 :: st) w := (iv_V_eq (I := (((34, 1), .iconst 0, 0, 0, 0) : iv_I)) rfl).trans (congrArg (fun c => iv_V call mc_50 rt 21 L (.int c :: st) w) li_o0)
theorem e50_21 : iv_V call mc_50 rt 21 L st w = iv_p1 st fun x st' => iv_sto L 3 (.int x) fun L' => iv_V call mc_50 rt 22 L' (st') w := iv_V_eq (I := (((35, 1), .istore_n 3, 0, 0, 0) : iv_I)) rfl
theorem e50_22 : iv_V call mc_50 rt 22 L st w = iv_lda L 0 fun x => iv_V call mc_50 rt 23 L (x :: st) w := iv_V_eq (I := (((36, 1), .aload_n 0, 0, 0, 0) : iv_I)) rfl
theorem e50_23 : iv_V call mc_50 rt 23 L st w = iv_gf w st 1 31 fun v st' => iv_V call mc_50 rt 24 L (v :: st') w := iv_V_eq (I := (((37, 3), .getfield 89, 1, 31, 630) : iv_I)) rfl
theorem e50_24 : iv_V call mc_50 rt 24 L st w = iv_ldi L 1 fun x => iv_V call mc_50 rt 25 L (.int x :: st) w := iv_V_eq (I := (((40, 1), .iload_n 1, 0, 0, 0) : iv_I)) rfl
theorem e50_25 : iv_V call mc_50 rt 25 L st w = iv_ald w st iv_isI fun v st' => iv_V call mc_50 rt 26 L (v :: st') w := iv_V_eq (I := (((41, 1), .iaload, 0, 0, 0) : iv_I)) rfl
theorem e50_26 : iv_V call mc_50 rt 26 L st w = iv_ldi L 3 fun x => iv_V call mc_50 rt 27 L (.int x :: st) w := iv_V_eq (I := (((42, 1), .iload_n 3, 0, 0, 0) : iv_I)) rfl
theorem e50_27 : iv_V call mc_50 rt 27 L st w = iv_p1 st fun x st' => if x = 0 then iv_V call mc_50 rt 33 L (st') w else iv_V call mc_50 rt 28 L (st') w := (iv_V_eq (I := (((43, 3), .ifCond .eq 12, 33, 0, 0) : iv_I)) rfl).trans (by simp only [iv_go, iv_cnd, decide_eq_true_eq])
theorem e50_28 : iv_V call mc_50 rt 28 L st w = iv_lda L 0 fun x => iv_V call mc_50 rt 29 L (x :: st) w := iv_V_eq (I := (((46, 1), .aload_n 0, 0, 0, 0) : iv_I)) rfl
theorem e50_29 : iv_V call mc_50 rt 29 L st w = iv_gf w st 1 22 fun v st' => iv_V call mc_50 rt 30 L (v :: st') w := iv_V_eq (I := (((47, 3), .getfield 68, 1, 22, 621) : iv_I)) rfl
theorem e50_30 : iv_V call mc_50 rt 30 L st w = iv_ldi L 2 fun x => iv_V call mc_50 rt 31 L (.int x :: st) w := iv_V_eq (I := (((50, 1), .iload_n 2, 0, 0, 0) : iv_I)) rfl
theorem e50_31 : iv_V call mc_50 rt 31 L st w = iv_ald w st iv_isI fun v st' => iv_V call mc_50 rt 32 L (v :: st') w := iv_V_eq (I := (((51, 1), .iaload, 0, 0, 0) : iv_I)) rfl
theorem e50_32 : iv_V call mc_50 rt 32 L st w = iv_V call mc_50 rt 34 L (st) w := iv_V_eq (I := (((52, 3), .goto 4, 34, 0, 0) : iv_I)) rfl
theorem e50_33 : iv_V call mc_50 rt 33 L st w = iv_V call mc_50 rt 34 L (.int 1 :: st) w := (iv_V_eq (I := (((55, 1), .iconst 1, 0, 0, 0) : iv_I)) rfl).trans (congrArg (fun c => iv_V call mc_50 rt 34 L (.int c :: st) w) li_o1)
theorem e50_34 : iv_V call mc_50 rt 34 L st w = iv_p2 st fun x y st' => if ¬ x = y then iv_V call mc_50 rt 43 L (st') w else iv_V call mc_50 rt 35 L (st') w := (iv_V_eq (I := (((56, 3), .if_icmp .ne 15, 43, 0, 0) : iv_I)) rfl).trans (by simp only [iv_go, iv_cnd, decide_eq_true_eq])
theorem e50_35 : iv_V call mc_50 rt 35 L st w = iv_lda L 0 fun x => iv_V call mc_50 rt 36 L (x :: st) w := iv_V_eq (I := (((59, 1), .aload_n 0, 0, 0, 0) : iv_I)) rfl
theorem e50_36 : iv_V call mc_50 rt 36 L st w = iv_d1 st fun a st' => iv_V call mc_50 rt 37 L (a :: a :: st') w := iv_V_eq (I := (((60, 1), .dup, 0, 0, 0) : iv_I)) rfl
theorem e50_37 : iv_V call mc_50 rt 37 L st w = iv_gf w st 1 28 fun v st' => iv_V call mc_50 rt 38 L (v :: st') w := iv_V_eq (I := (((61, 3), .getfield 163, 1, 28, 627) : iv_I)) rfl
theorem e50_38 : iv_V call mc_50 rt 38 L st w = iv_V call mc_50 rt 39 L (.int 1 :: st) w := (iv_V_eq (I := (((64, 1), .iconst 1, 0, 0, 0) : iv_I)) rfl).trans (congrArg (fun c => iv_V call mc_50 rt 39 L (.int c :: st) w) li_o1)
theorem e50_39 : iv_V call mc_50 rt 39 L st w = iv_p2 st fun x y st' => iv_V call mc_50 rt 40 L (.int (x - y) :: st') w := iv_V_eq (I := (((65, 1), .isub, 0, 0, 0) : iv_I)) rfl
theorem e50_40 : iv_V call mc_50 rt 40 L st w = iv_pf w st 1 28 fun st' w' => iv_V call mc_50 rt 41 L (st') w' := iv_V_eq (I := (((66, 3), .putfield 163, 1, 28, 627) : iv_I)) rfl
theorem e50_41 : iv_V call mc_50 rt 41 L st w = iv_V call mc_50 rt 42 L (.int 0 :: st) w := (iv_V_eq (I := (((69, 1), .iconst 0, 0, 0, 0) : iv_I)) rfl).trans (congrArg (fun c => iv_V call mc_50 rt 42 L (.int c :: st) w) li_o0)
theorem e50_42 : iv_V call mc_50 rt 42 L st w = iv_ret rt st w := iv_V_eq (I := (((70, 1), .ireturn, 0, 0, 0) : iv_I)) rfl
theorem e50_43 : iv_V call mc_50 rt 43 L st w = iv_ldi L 3 fun x => iv_V call mc_50 rt 44 L (.int x :: st) w := iv_V_eq (I := (((71, 1), .iload_n 3, 0, 0, 0) : iv_I)) rfl
theorem e50_44 : iv_V call mc_50 rt 44 L st w = iv_p1 st fun x st' => if x = 0 then iv_V call mc_50 rt 57 L (st') w else iv_V call mc_50 rt 45 L (st') w := (iv_V_eq (I := (((72, 3), .ifCond .eq 21, 57, 0, 0) : iv_I)) rfl).trans (by simp only [iv_go, iv_cnd, decide_eq_true_eq])
theorem e50_45 : iv_V call mc_50 rt 45 L st w = iv_lda L 0 fun x => iv_V call mc_50 rt 46 L (x :: st) w := iv_V_eq (I := (((75, 1), .aload_n 0, 0, 0, 0) : iv_I)) rfl
theorem e50_46 : iv_V call mc_50 rt 46 L st w = iv_gf w st 1 23 fun v st' => iv_V call mc_50 rt 47 L (v :: st') w := iv_V_eq (I := (((76, 3), .getfield 71, 1, 23, 622) : iv_I)) rfl
theorem e50_47 : iv_V call mc_50 rt 47 L st w = iv_V call mc_50 rt 48 L (.int 4 :: st) w := (iv_V_eq (I := (((79, 1), .iconst 4, 0, 0, 0) : iv_I)) rfl).trans (congrArg (fun c => iv_V call mc_50 rt 48 L (.int c :: st) w) li_o4)
theorem e50_48 : iv_V call mc_50 rt 48 L st w = iv_ldi L 2 fun x => iv_V call mc_50 rt 49 L (.int x :: st) w := iv_V_eq (I := (((80, 1), .iload_n 2, 0, 0, 0) : iv_I)) rfl
theorem e50_49 : iv_V call mc_50 rt 49 L st w = iv_p2 st fun x y st' => iv_V call mc_50 rt 50 L (.int (x * y) :: st') w := iv_V_eq (I := (((81, 1), .imul, 0, 0, 0) : iv_I)) rfl
theorem e50_50 : iv_V call mc_50 rt 50 L st w = iv_lda L 0 fun x => iv_V call mc_50 rt 51 L (x :: st) w := iv_V_eq (I := (((82, 1), .aload_n 0, 0, 0, 0) : iv_I)) rfl
theorem e50_51 : iv_V call mc_50 rt 51 L st w = iv_gf w st 1 31 fun v st' => iv_V call mc_50 rt 52 L (v :: st') w := iv_V_eq (I := (((83, 3), .getfield 89, 1, 31, 630) : iv_I)) rfl
theorem e50_52 : iv_V call mc_50 rt 52 L st w = iv_ldi L 1 fun x => iv_V call mc_50 rt 53 L (.int x :: st) w := iv_V_eq (I := (((86, 1), .iload_n 1, 0, 0, 0) : iv_I)) rfl
theorem e50_53 : iv_V call mc_50 rt 53 L st w = iv_ald w st iv_isI fun v st' => iv_V call mc_50 rt 54 L (v :: st') w := iv_V_eq (I := (((87, 1), .iaload, 0, 0, 0) : iv_I)) rfl
theorem e50_54 : iv_V call mc_50 rt 54 L st w = iv_p2 st fun x y st' => iv_V call mc_50 rt 55 L (.int (x + y) :: st') w := iv_V_eq (I := (((88, 1), .iadd, 0, 0, 0) : iv_I)) rfl
theorem e50_55 : iv_V call mc_50 rt 55 L st w = iv_ald w st iv_isI fun v st' => iv_V call mc_50 rt 56 L (v :: st') w := iv_V_eq (I := (((89, 1), .iaload, 0, 0, 0) : iv_I)) rfl
theorem e50_56 : iv_V call mc_50 rt 56 L st w = iv_V call mc_50 rt 61 L (st) w := iv_V_eq (I := (((90, 3), .goto 9, 61, 0, 0) : iv_I)) rfl
theorem e50_57 : iv_V call mc_50 rt 57 L st w = iv_lda L 0 fun x => iv_V call mc_50 rt 58 L (x :: st) w := iv_V_eq (I := (((93, 1), .aload_n 0, 0, 0, 0) : iv_I)) rfl
theorem e50_58 : iv_V call mc_50 rt 58 L st w = iv_gf w st 1 30 fun v st' => iv_V call mc_50 rt 59 L (v :: st') w := iv_V_eq (I := (((94, 3), .getfield 86, 1, 30, 629) : iv_I)) rfl
theorem e50_59 : iv_V call mc_50 rt 59 L st w = iv_ldi L 1 fun x => iv_V call mc_50 rt 60 L (.int x :: st) w := iv_V_eq (I := (((97, 1), .iload_n 1, 0, 0, 0) : iv_I)) rfl
theorem e50_60 : iv_V call mc_50 rt 60 L st w = iv_ald w st iv_isI fun v st' => iv_V call mc_50 rt 61 L (v :: st') w := iv_V_eq (I := (((98, 1), .iaload, 0, 0, 0) : iv_I)) rfl
theorem e50_61 : iv_V call mc_50 rt 61 L st w = iv_p1 st fun x st' => iv_sto L 4 (.int x) fun L' => iv_V call mc_50 rt 62 L' (st') w := iv_V_eq (I := (((99, 2), .istore 4, 0, 0, 0) : iv_I)) rfl
theorem e50_62 : iv_V call mc_50 rt 62 L st w = iv_ldi L 4 fun x => iv_V call mc_50 rt 63 L (.int x :: st) w := iv_V_eq (I := (((101, 2), .iload 4, 0, 0, 0) : iv_I)) rfl
theorem e50_63 : iv_V call mc_50 rt 63 L st w = iv_p1 st fun x st' => if 0 ≤ x then iv_V call mc_50 rt 66 L (st') w else iv_V call mc_50 rt 64 L (st') w := (iv_V_eq (I := (((103, 3), .ifCond .ge 7, 66, 0, 0) : iv_I)) rfl).trans (by simp only [iv_go, iv_cnd, decide_eq_true_eq])
theorem e50_64 : iv_V call mc_50 rt 64 L st w = iv_V call mc_50 rt 65 L (.int 0 :: st) w := (iv_V_eq (I := (((106, 1), .iconst 0, 0, 0, 0) : iv_I)) rfl).trans (congrArg (fun c => iv_V call mc_50 rt 65 L (.int c :: st) w) li_o0)
theorem e50_65 : iv_V call mc_50 rt 65 L st w = iv_V call mc_50 rt 67 L (st) w := iv_V_eq (I := (((107, 3), .goto 5, 67, 0, 0) : iv_I)) rfl
theorem e50_66 : iv_V call mc_50 rt 66 L st w = iv_ldi L 4 fun x => iv_V call mc_50 rt 67 L (.int x :: st) w := iv_V_eq (I := (((110, 2), .iload 4, 0, 0, 0) : iv_I)) rfl
theorem e50_67 : iv_V call mc_50 rt 67 L st w = iv_p1 st fun x st' => iv_sto L 4 (.int x) fun L' => iv_V call mc_50 rt 68 L' (st') w := iv_V_eq (I := (((112, 2), .istore 4, 0, 0, 0) : iv_I)) rfl
theorem e50_68 : iv_V call mc_50 rt 68 L st w = iv_lda L 0 fun x => iv_V call mc_50 rt 69 L (x :: st) w := iv_V_eq (I := (((114, 1), .aload_n 0, 0, 0, 0) : iv_I)) rfl
theorem e50_69 : iv_V call mc_50 rt 69 L st w = iv_gf w st 1 32 fun v st' => iv_V call mc_50 rt 70 L (v :: st') w := iv_V_eq (I := (((115, 3), .getfield 92, 1, 32, 631) : iv_I)) rfl
theorem e50_70 : iv_V call mc_50 rt 70 L st w = iv_ldi L 1 fun x => iv_V call mc_50 rt 71 L (.int x :: st) w := iv_V_eq (I := (((118, 1), .iload_n 1, 0, 0, 0) : iv_I)) rfl
theorem e50_71 : iv_V call mc_50 rt 71 L st w = iv_ldi L 4 fun x => iv_V call mc_50 rt 72 L (.int x :: st) w := iv_V_eq (I := (((119, 2), .iload 4, 0, 0, 0) : iv_I)) rfl
theorem e50_72 : iv_V call mc_50 rt 72 L st w = iv_ast w st iv_isI fun st' w' => iv_V call mc_50 rt 73 L (st') w' := iv_V_eq (I := (((121, 1), .iastore, 0, 0, 0) : iv_I)) rfl
theorem e50_73 : iv_V call mc_50 rt 73 L st w = iv_lda L 0 fun x => iv_V call mc_50 rt 74 L (x :: st) w := iv_V_eq (I := (((122, 1), .aload_n 0, 0, 0, 0) : iv_I)) rfl
theorem e50_74 : iv_V call mc_50 rt 74 L st w = iv_gf w st 1 36 fun v st' => iv_V call mc_50 rt 75 L (v :: st') w := iv_V_eq (I := (((123, 3), .getfield 104, 1, 36, 635) : iv_I)) rfl
theorem e50_75 : iv_V call mc_50 rt 75 L st w = iv_ldi L 1 fun x => iv_V call mc_50 rt 76 L (.int x :: st) w := iv_V_eq (I := (((126, 1), .iload_n 1, 0, 0, 0) : iv_I)) rfl
theorem e50_76 : iv_V call mc_50 rt 76 L st w = iv_lda L 0 fun x => iv_V call mc_50 rt 77 L (x :: st) w := iv_V_eq (I := (((127, 1), .aload_n 0, 0, 0, 0) : iv_I)) rfl
theorem e50_77 : iv_V call mc_50 rt 77 L st w = iv_gf w st 1 41 fun v st' => iv_V call mc_50 rt 78 L (v :: st') w := iv_V_eq (I := (((128, 3), .getfield 160, 1, 41, 640) : iv_I)) rfl
theorem e50_78 : iv_V call mc_50 rt 78 L st w = iv_ast w st iv_isI fun st' w' => iv_V call mc_50 rt 79 L (st') w' := iv_V_eq (I := (((131, 1), .iastore, 0, 0, 0) : iv_I)) rfl
theorem e50_79 : iv_V call mc_50 rt 79 L st w = iv_lda L 0 fun x => iv_V call mc_50 rt 80 L (x :: st) w := iv_V_eq (I := (((132, 1), .aload_n 0, 0, 0, 0) : iv_I)) rfl
theorem e50_80 : iv_V call mc_50 rt 80 L st w = iv_gf w st 1 33 fun v st' => iv_V call mc_50 rt 81 L (v :: st') w := iv_V_eq (I := (((133, 3), .getfield 95, 1, 33, 632) : iv_I)) rfl
theorem e50_81 : iv_V call mc_50 rt 81 L st w = iv_ldi L 1 fun x => iv_V call mc_50 rt 82 L (.int x :: st) w := iv_V_eq (I := (((136, 1), .iload_n 1, 0, 0, 0) : iv_I)) rfl
theorem e50_82 : iv_V call mc_50 rt 82 L st w = iv_V call mc_50 rt 83 L (.int 1 :: st) w := (iv_V_eq (I := (((137, 1), .iconst 1, 0, 0, 0) : iv_I)) rfl).trans (congrArg (fun c => iv_V call mc_50 rt 83 L (.int c :: st) w) li_o1)
theorem e50_83 : iv_V call mc_50 rt 83 L st w = iv_ast w st iv_isZ fun st' w' => iv_V call mc_50 rt 84 L (st') w' := iv_V_eq (I := (((138, 1), .bastore, 0, 0, 0) : iv_I)) rfl
theorem e50_84 : iv_V call mc_50 rt 84 L st w = iv_lda L 0 fun x => iv_V call mc_50 rt 85 L (x :: st) w := iv_V_eq (I := (((139, 1), .aload_n 0, 0, 0, 0) : iv_I)) rfl
theorem e50_85 : iv_V call mc_50 rt 85 L st w = iv_gf w st 1 34 fun v st' => iv_V call mc_50 rt 86 L (v :: st') w := iv_V_eq (I := (((140, 3), .getfield 98, 1, 34, 633) : iv_I)) rfl
theorem e50_86 : iv_V call mc_50 rt 86 L st w = iv_ldi L 1 fun x => iv_V call mc_50 rt 87 L (.int x :: st) w := iv_V_eq (I := (((143, 1), .iload_n 1, 0, 0, 0) : iv_I)) rfl
theorem e50_87 : iv_V call mc_50 rt 87 L st w = iv_V call mc_50 rt 88 L (.int 0 :: st) w := (iv_V_eq (I := (((144, 1), .iconst 0, 0, 0, 0) : iv_I)) rfl).trans (congrArg (fun c => iv_V call mc_50 rt 88 L (.int c :: st) w) li_o0)
theorem e50_88 : iv_V call mc_50 rt 88 L st w = iv_ast w st iv_isI fun st' w' => iv_V call mc_50 rt 89 L (st') w' := iv_V_eq (I := (((145, 1), .iastore, 0, 0, 0) : iv_I)) rfl
theorem e50_89 : iv_V call mc_50 rt 89 L st w = iv_lda L 0 fun x => iv_V call mc_50 rt 90 L (x :: st) w := iv_V_eq (I := (((146, 1), .aload_n 0, 0, 0, 0) : iv_I)) rfl
theorem e50_90 : iv_V call mc_50 rt 90 L st w = iv_gf w st 1 35 fun v st' => iv_V call mc_50 rt 91 L (v :: st') w := iv_V_eq (I := (((147, 3), .getfield 101, 1, 35, 634) : iv_I)) rfl
theorem e50_91 : iv_V call mc_50 rt 91 L st w = iv_ldi L 1 fun x => iv_V call mc_50 rt 92 L (.int x :: st) w := iv_V_eq (I := (((150, 1), .iload_n 1, 0, 0, 0) : iv_I)) rfl
theorem e50_92 : iv_V call mc_50 rt 92 L st w = iv_V call mc_50 rt 93 L (.int 0 :: st) w := (iv_V_eq (I := (((151, 1), .iconst 0, 0, 0, 0) : iv_I)) rfl).trans (congrArg (fun c => iv_V call mc_50 rt 93 L (.int c :: st) w) li_o0)
theorem e50_93 : iv_V call mc_50 rt 93 L st w = iv_ast w st iv_isI fun st' w' => iv_V call mc_50 rt 94 L (st') w' := iv_V_eq (I := (((152, 1), .iastore, 0, 0, 0) : iv_I)) rfl
theorem e50_94 : iv_V call mc_50 rt 94 L st w = iv_lda L 0 fun x => iv_V call mc_50 rt 95 L (x :: st) w := iv_V_eq (I := (((153, 1), .aload_n 0, 0, 0, 0) : iv_I)) rfl
theorem e50_95 : iv_V call mc_50 rt 95 L st w = iv_lda L 0 fun x => iv_V call mc_50 rt 96 L (x :: st) w := iv_V_eq (I := (((154, 1), .aload_n 0, 0, 0, 0) : iv_I)) rfl
theorem e50_96 : iv_V call mc_50 rt 96 L st w = iv_gf w st 1 29 fun v st' => iv_V call mc_50 rt 97 L (v :: st') w := iv_V_eq (I := (((155, 3), .getfield 83, 1, 29, 628) : iv_I)) rfl
theorem e50_97 : iv_V call mc_50 rt 97 L st w = iv_ldi L 1 fun x => iv_V call mc_50 rt 98 L (.int x :: st) w := iv_V_eq (I := (((158, 1), .iload_n 1, 0, 0, 0) : iv_I)) rfl
theorem e50_98 : iv_V call mc_50 rt 98 L st w = iv_ald w st iv_isI fun v st' => iv_V call mc_50 rt 99 L (v :: st') w := iv_V_eq (I := (((159, 1), .iaload, 0, 0, 0) : iv_I)) rfl
theorem e50_99 : iv_V call mc_50 rt 99 L st w = iv_ldi L 4 fun x => iv_V call mc_50 rt 100 L (.int x :: st) w := iv_V_eq (I := (((160, 2), .iload 4, 0, 0, 0) : iv_I)) rfl
theorem e50_100 : iv_V call mc_50 rt 100 L st w = iv_V call mc_50 rt 101 L (.int (-1) :: st) w := (iv_V_eq (I := (((162, 1), .iconst (-1), 0, 0, 0) : iv_I)) rfl).trans (congrArg (fun c => iv_V call mc_50 rt 101 L (.int c :: st) w) li_om1)
theorem e50_101 : iv_V call mc_50 rt 101 L st w = iv_inv call 47 4 (fun as => iv_rc w as (iv_mc 47)) st w fun st' w' => iv_V call mc_50 rt 102 L (st') w' := iv_V_eq (I := (((163, 3), .invokevirtual 187, 47, 4, 848) : iv_I)) rfl
theorem e50_102 : iv_V call mc_50 rt 102 L st w = iv_ret rt st w := iv_V_eq (I := (((166, 1), .ireturn, 0, 0, 0) : iv_I)) rfl
theorem e51_0 : iv_V call mc_51 rt 0 L st w = iv_lda L 0 fun x => iv_V call mc_51 rt 1 L (x :: st) w := iv_V_eq (I := (((0, 1), .aload_n 0, 0, 0, 0) : iv_I)) rfl
theorem e51_1 : iv_V call mc_51 rt 1 L st w = iv_gf w st 1 34 fun v st' => iv_V call mc_51 rt 2 L (v :: st') w := iv_V_eq (I := (((1, 3), .getfield 98, 1, 34, 633) : iv_I)) rfl
theorem e51_2 : iv_V call mc_51 rt 2 L st w = iv_ldi L 1 fun x => iv_V call mc_51 rt 3 L (.int x :: st) w := iv_V_eq (I := (((4, 1), .iload_n 1, 0, 0, 0) : iv_I)) rfl
theorem e51_3 : iv_V call mc_51 rt 3 L st w = iv_ald w st iv_isI fun v st' => iv_V call mc_51 rt 4 L (v :: st') w := iv_V_eq (I := (((5, 1), .iaload, 0, 0, 0) : iv_I)) rfl
theorem e51_4 : iv_V call mc_51 rt 4 L st w = iv_p1 st fun x st' => iv_sto L 2 (.int x) fun L' => iv_V call mc_51 rt 5 L' (st') w := iv_V_eq (I := (((6, 1), .istore_n 2, 0, 0, 0) : iv_I)) rfl
theorem e51_5 : iv_V call mc_51 rt 5 L st w = iv_V call mc_51 rt 6 L (.int 14 :: st) w := (iv_V_eq (I := (((7, 2), .bipush 14, 0, 0, 0) : iv_I)) rfl).trans (congrArg (fun c => iv_V call mc_51 rt 6 L (.int c :: st) w) li_b14)
theorem e51_6 : iv_V call mc_51 rt 6 L st w = iv_lda L 0 fun x => iv_V call mc_51 rt 7 L (x :: st) w := iv_V_eq (I := (((9, 1), .aload_n 0, 0, 0, 0) : iv_I)) rfl
theorem e51_7 : iv_V call mc_51 rt 7 L st w = iv_gf w st 1 29 fun v st' => iv_V call mc_51 rt 8 L (v :: st') w := iv_V_eq (I := (((10, 3), .getfield 83, 1, 29, 628) : iv_I)) rfl
theorem e51_8 : iv_V call mc_51 rt 8 L st w = iv_ldi L 1 fun x => iv_V call mc_51 rt 9 L (.int x :: st) w := iv_V_eq (I := (((13, 1), .iload_n 1, 0, 0, 0) : iv_I)) rfl
theorem e51_9 : iv_V call mc_51 rt 9 L st w = iv_ald w st iv_isI fun v st' => iv_V call mc_51 rt 10 L (v :: st') w := iv_V_eq (I := (((14, 1), .iaload, 0, 0, 0) : iv_I)) rfl
theorem e51_10 : iv_V call mc_51 rt 10 L st w = iv_p2 st fun x y st' => iv_V call mc_51 rt 11 L (.int (x * y) :: st') w := iv_V_eq (I := (((15, 1), .imul, 0, 0, 0) : iv_I)) rfl
theorem e51_11 : iv_V call mc_51 rt 11 L st w = iv_ldi L 2 fun x => iv_V call mc_51 rt 12 L (.int x :: st) w := iv_V_eq (I := (((16, 1), .iload_n 2, 0, 0, 0) : iv_I)) rfl
theorem e51_12 : iv_V call mc_51 rt 12 L st w = iv_p2 st fun x y st' => iv_V call mc_51 rt 13 L (.int (x + y) :: st') w := iv_V_eq (I := (((17, 1), .iadd, 0, 0, 0) : iv_I)) rfl
theorem e51_13 : iv_V call mc_51 rt 13 L st w = iv_p1 st fun x st' => iv_sto L 3 (.int x) fun L' => iv_V call mc_51 rt 14 L' (st') w := iv_V_eq (I := (((18, 1), .istore_n 3, 0, 0, 0) : iv_I)) rfl
theorem e51_14 : iv_V call mc_51 rt 14 L st w = iv_ldi L 2 fun x => iv_V call mc_51 rt 15 L (.int x :: st) w := iv_V_eq (I := (((19, 1), .iload_n 2, 0, 0, 0) : iv_I)) rfl
theorem e51_15 : iv_V call mc_51 rt 15 L st w = iv_lda L 0 fun x => iv_V call mc_51 rt 16 L (x :: st) w := iv_V_eq (I := (((20, 1), .aload_n 0, 0, 0, 0) : iv_I)) rfl
theorem e51_16 : iv_V call mc_51 rt 16 L st w = iv_gf w st 1 2 fun v st' => iv_V call mc_51 rt 17 L (v :: st') w := iv_V_eq (I := (((21, 3), .getfield 139, 1, 2, 601) : iv_I)) rfl
theorem e51_17 : iv_V call mc_51 rt 17 L st w = iv_p2 st fun x y st' => if ¬ x = y then iv_V call mc_51 rt 49 L (st') w else iv_V call mc_51 rt 18 L (st') w := (iv_V_eq (I := (((24, 3), .if_icmp .ne 52, 49, 0, 0) : iv_I)) rfl).trans (by simp only [iv_go, iv_cnd, decide_eq_true_eq])
theorem e51_18 : iv_V call mc_51 rt 18 L st w = iv_lda L 0 fun x => iv_V call mc_51 rt 19 L (x :: st) w := iv_V_eq (I := (((27, 1), .aload_n 0, 0, 0, 0) : iv_I)) rfl
theorem e51_19 : iv_V call mc_51 rt 19 L st w = iv_gf w st 1 33 fun v st' => iv_V call mc_51 rt 20 L (v :: st') w := iv_V_eq (I := (((28, 3), .getfield 95, 1, 33, 632) : iv_I)) rfl
theorem e51_20 : iv_V call mc_51 rt 20 L st w = iv_ldi L 1 fun x => iv_V call mc_51 rt 21 L (.int x :: st) w := iv_V_eq (I := (((31, 1), .iload_n 1, 0, 0, 0) : iv_I)) rfl
theorem e51_21 : iv_V call mc_51 rt 21 L st w = iv_V call mc_51 rt 22 L (.int 0 :: st) w := (iv_V_eq (I := (((32, 1), .iconst 0, 0, 0, 0) : iv_I)) rfl).trans (congrArg (fun c => iv_V call mc_51 rt 22 L (.int c :: st) w) li_o0)
theorem e51_22 : iv_V call mc_51 rt 22 L st w = iv_ast w st iv_isZ fun st' w' => iv_V call mc_51 rt 23 L (st') w' := iv_V_eq (I := (((33, 1), .bastore, 0, 0, 0) : iv_I)) rfl
theorem e51_23 : iv_V call mc_51 rt 23 L st w = iv_lda L 0 fun x => iv_V call mc_51 rt 24 L (x :: st) w := iv_V_eq (I := (((34, 1), .aload_n 0, 0, 0, 0) : iv_I)) rfl
theorem e51_24 : iv_V call mc_51 rt 24 L st w = iv_gf w st 1 31 fun v st' => iv_V call mc_51 rt 25 L (v :: st') w := iv_V_eq (I := (((35, 3), .getfield 89, 1, 31, 630) : iv_I)) rfl
theorem e51_25 : iv_V call mc_51 rt 25 L st w = iv_ldi L 1 fun x => iv_V call mc_51 rt 26 L (.int x :: st) w := iv_V_eq (I := (((38, 1), .iload_n 1, 0, 0, 0) : iv_I)) rfl
theorem e51_26 : iv_V call mc_51 rt 26 L st w = iv_d2 st fun a b st' => iv_V call mc_51 rt 27 L (a :: b :: a :: b :: st') w := iv_V_eq (I := (((39, 1), .dup2, 0, 0, 0) : iv_I)) rfl
theorem e51_27 : iv_V call mc_51 rt 27 L st w = iv_ald w st iv_isI fun v st' => iv_V call mc_51 rt 28 L (v :: st') w := iv_V_eq (I := (((40, 1), .iaload, 0, 0, 0) : iv_I)) rfl
theorem e51_28 : iv_V call mc_51 rt 28 L st w = iv_V call mc_51 rt 29 L (.int 1 :: st) w := (iv_V_eq (I := (((41, 1), .iconst 1, 0, 0, 0) : iv_I)) rfl).trans (congrArg (fun c => iv_V call mc_51 rt 29 L (.int c :: st) w) li_o1)
theorem e51_29 : iv_V call mc_51 rt 29 L st w = iv_p2 st fun x y st' => iv_V call mc_51 rt 30 L (.int (x + y) :: st') w := iv_V_eq (I := (((42, 1), .iadd, 0, 0, 0) : iv_I)) rfl
theorem e51_30 : iv_V call mc_51 rt 30 L st w = iv_ast w st iv_isI fun st' w' => iv_V call mc_51 rt 31 L (st') w' := iv_V_eq (I := (((43, 1), .iastore, 0, 0, 0) : iv_I)) rfl
theorem e51_31 : iv_V call mc_51 rt 31 L st w = iv_lda L 0 fun x => iv_V call mc_51 rt 32 L (x :: st) w := iv_V_eq (I := (((44, 1), .aload_n 0, 0, 0, 0) : iv_I)) rfl
theorem e51_32 : iv_V call mc_51 rt 32 L st w = iv_lda L 0 fun x => iv_V call mc_51 rt 33 L (x :: st) w := iv_V_eq (I := (((45, 1), .aload_n 0, 0, 0, 0) : iv_I)) rfl
theorem e51_33 : iv_V call mc_51 rt 33 L st w = iv_gf w st 1 41 fun v st' => iv_V call mc_51 rt 34 L (v :: st') w := iv_V_eq (I := (((46, 3), .getfield 160, 1, 41, 640) : iv_I)) rfl
theorem e51_34 : iv_V call mc_51 rt 34 L st w = iv_lda L 0 fun x => iv_V call mc_51 rt 35 L (x :: st) w := iv_V_eq (I := (((49, 1), .aload_n 0, 0, 0, 0) : iv_I)) rfl
theorem e51_35 : iv_V call mc_51 rt 35 L st w = iv_gf w st 1 36 fun v st' => iv_V call mc_51 rt 36 L (v :: st') w := iv_V_eq (I := (((50, 3), .getfield 104, 1, 36, 635) : iv_I)) rfl
theorem e51_36 : iv_V call mc_51 rt 36 L st w = iv_ldi L 1 fun x => iv_V call mc_51 rt 37 L (.int x :: st) w := iv_V_eq (I := (((53, 1), .iload_n 1, 0, 0, 0) : iv_I)) rfl
theorem e51_37 : iv_V call mc_51 rt 37 L st w = iv_ald w st iv_isI fun v st' => iv_V call mc_51 rt 38 L (v :: st') w := iv_V_eq (I := (((54, 1), .iaload, 0, 0, 0) : iv_I)) rfl
theorem e51_38 : iv_V call mc_51 rt 38 L st w = iv_p2 st fun x y st' => if x ≤ y then iv_V call mc_51 rt 44 L (st') w else iv_V call mc_51 rt 39 L (st') w := (iv_V_eq (I := (((55, 3), .if_icmp .le 12, 44, 0, 0) : iv_I)) rfl).trans (by simp only [iv_go, iv_cnd, decide_eq_true_eq])
theorem e51_39 : iv_V call mc_51 rt 39 L st w = iv_lda L 0 fun x => iv_V call mc_51 rt 40 L (x :: st) w := iv_V_eq (I := (((58, 1), .aload_n 0, 0, 0, 0) : iv_I)) rfl
theorem e51_40 : iv_V call mc_51 rt 40 L st w = iv_gf w st 1 28 fun v st' => iv_V call mc_51 rt 41 L (v :: st') w := iv_V_eq (I := (((59, 3), .getfield 163, 1, 28, 627) : iv_I)) rfl
theorem e51_41 : iv_V call mc_51 rt 41 L st w = iv_V call mc_51 rt 42 L (.int 1 :: st) w := (iv_V_eq (I := (((62, 1), .iconst 1, 0, 0, 0) : iv_I)) rfl).trans (congrArg (fun c => iv_V call mc_51 rt 42 L (.int c :: st) w) li_o1)
theorem e51_42 : iv_V call mc_51 rt 42 L st w = iv_p2 st fun x y st' => iv_V call mc_51 rt 43 L (.int (x - y) :: st') w := iv_V_eq (I := (((63, 1), .isub, 0, 0, 0) : iv_I)) rfl
theorem e51_43 : iv_V call mc_51 rt 43 L st w = iv_V call mc_51 rt 46 L (st) w := iv_V_eq (I := (((64, 3), .goto 7, 46, 0, 0) : iv_I)) rfl
theorem e51_44 : iv_V call mc_51 rt 44 L st w = iv_lda L 0 fun x => iv_V call mc_51 rt 45 L (x :: st) w := iv_V_eq (I := (((67, 1), .aload_n 0, 0, 0, 0) : iv_I)) rfl
theorem e51_45 : iv_V call mc_51 rt 45 L st w = iv_gf w st 1 28 fun v st' => iv_V call mc_51 rt 46 L (v :: st') w := iv_V_eq (I := (((68, 3), .getfield 163, 1, 28, 627) : iv_I)) rfl
theorem e51_46 : iv_V call mc_51 rt 46 L st w = iv_pf w st 1 28 fun st' w' => iv_V call mc_51 rt 47 L (st') w' := iv_V_eq (I := (((71, 3), .putfield 163, 1, 28, 627) : iv_I)) rfl
theorem e51_47 : iv_V call mc_51 rt 47 L st w = iv_V call mc_51 rt 48 L (.int 0 :: st) w := (iv_V_eq (I := (((74, 1), .iconst 0, 0, 0, 0) : iv_I)) rfl).trans (congrArg (fun c => iv_V call mc_51 rt 48 L (.int c :: st) w) li_o0)
theorem e51_48 : iv_V call mc_51 rt 48 L st w = iv_ret rt st w := iv_V_eq (I := (((75, 1), .ireturn, 0, 0, 0) : iv_I)) rfl
theorem e51_49 : iv_V call mc_51 rt 49 L st w = iv_lda L 0 fun x => iv_V call mc_51 rt 50 L (x :: st) w := iv_V_eq (I := (((76, 1), .aload_n 0, 0, 0, 0) : iv_I)) rfl
theorem e51_50 : iv_V call mc_51 rt 50 L st w = iv_gf w st 1 4 fun v st' => iv_V call mc_51 rt 51 L (v :: st') w := iv_V_eq (I := (((77, 3), .getfield 16, 1, 4, 603) : iv_I)) rfl
theorem e51_51 : iv_V call mc_51 rt 51 L st w = iv_ldi L 2 fun x => iv_V call mc_51 rt 52 L (.int x :: st) w := iv_V_eq (I := (((80, 1), .iload_n 2, 0, 0, 0) : iv_I)) rfl
theorem e51_52 : iv_V call mc_51 rt 52 L st w = iv_ald w st iv_isI fun v st' => iv_V call mc_51 rt 53 L (v :: st') w := iv_V_eq (I := (((81, 1), .iaload, 0, 0, 0) : iv_I)) rfl
theorem e51_53 : iv_V call mc_51 rt 53 L st w = iv_V call mc_51 rt 54 L (.int 3 :: st) w := (iv_V_eq (I := (((82, 1), .iconst 3, 0, 0, 0) : iv_I)) rfl).trans (congrArg (fun c => iv_V call mc_51 rt 54 L (.int c :: st) w) li_o3)
theorem e51_54 : iv_V call mc_51 rt 54 L st w = iv_p2 st fun x y st' => if ¬ x = y then iv_V call mc_51 rt 57 L (st') w else iv_V call mc_51 rt 55 L (st') w := (iv_V_eq (I := (((83, 3), .if_icmp .ne 7, 57, 0, 0) : iv_I)) rfl).trans (by simp only [iv_go, iv_cnd, decide_eq_true_eq])
theorem e51_55 : iv_V call mc_51 rt 55 L st w = iv_V call mc_51 rt 56 L (.int 1 :: st) w := (iv_V_eq (I := (((86, 1), .iconst 1, 0, 0, 0) : iv_I)) rfl).trans (congrArg (fun c => iv_V call mc_51 rt 56 L (.int c :: st) w) li_o1)
theorem e51_56 : iv_V call mc_51 rt 56 L st w = iv_V call mc_51 rt 58 L (st) w := iv_V_eq (I := (((87, 3), .goto 4, 58, 0, 0) : iv_I)) rfl
theorem e51_57 : iv_V call mc_51 rt 57 L st w = iv_V call mc_51 rt 58 L (.int 0 :: st) w := (iv_V_eq (I := (((90, 1), .iconst 0, 0, 0, 0) : iv_I)) rfl).trans (congrArg (fun c => iv_V call mc_51 rt 58 L (.int c :: st) w) li_o0)
theorem e51_58 : iv_V call mc_51 rt 58 L st w = iv_p1 st fun x st' => iv_sto L 4 (.int x) fun L' => iv_V call mc_51 rt 59 L' (st') w := iv_V_eq (I := (((91, 2), .istore 4, 0, 0, 0) : iv_I)) rfl
theorem e51_59 : iv_V call mc_51 rt 59 L st w = iv_lda L 0 fun x => iv_V call mc_51 rt 60 L (x :: st) w := iv_V_eq (I := (((93, 1), .aload_n 0, 0, 0, 0) : iv_I)) rfl
theorem e51_60 : iv_V call mc_51 rt 60 L st w = iv_gf w st 1 26 fun v st' => iv_V call mc_51 rt 61 L (v :: st') w := iv_V_eq (I := (((94, 3), .getfield 77, 1, 26, 625) : iv_I)) rfl
theorem e51_61 : iv_V call mc_51 rt 61 L st w = iv_ldi L 3 fun x => iv_V call mc_51 rt 62 L (.int x :: st) w := iv_V_eq (I := (((97, 1), .iload_n 3, 0, 0, 0) : iv_I)) rfl
theorem e51_62 : iv_V call mc_51 rt 62 L st w = iv_ald w st iv_isI fun v st' => iv_V call mc_51 rt 63 L (v :: st') w := iv_V_eq (I := (((98, 1), .iaload, 0, 0, 0) : iv_I)) rfl
theorem e51_63 : iv_V call mc_51 rt 63 L st w = iv_p1 st fun x st' => if ¬ x = 0 then iv_V call mc_51 rt 66 L (st') w else iv_V call mc_51 rt 64 L (st') w := (iv_V_eq (I := (((99, 3), .ifCond .ne 7, 66, 0, 0) : iv_I)) rfl).trans (by simp only [iv_go, iv_cnd, decide_eq_true_eq])
theorem e51_64 : iv_V call mc_51 rt 64 L st w = iv_V call mc_51 rt 65 L (.int 0 :: st) w := (iv_V_eq (I := (((102, 1), .iconst 0, 0, 0, 0) : iv_I)) rfl).trans (congrArg (fun c => iv_V call mc_51 rt 65 L (.int c :: st) w) li_o0)
theorem e51_65 : iv_V call mc_51 rt 65 L st w = iv_V call mc_51 rt 76 L (st) w := iv_V_eq (I := (((103, 3), .goto 20, 76, 0, 0) : iv_I)) rfl
theorem e51_66 : iv_V call mc_51 rt 66 L st w = iv_ldi L 4 fun x => iv_V call mc_51 rt 67 L (.int x :: st) w := iv_V_eq (I := (((106, 2), .iload 4, 0, 0, 0) : iv_I)) rfl
theorem e51_67 : iv_V call mc_51 rt 67 L st w = iv_p1 st fun x st' => if x = 0 then iv_V call mc_51 rt 75 L (st') w else iv_V call mc_51 rt 68 L (st') w := (iv_V_eq (I := (((108, 3), .ifCond .eq 14, 75, 0, 0) : iv_I)) rfl).trans (by simp only [iv_go, iv_cnd, decide_eq_true_eq])
theorem e51_68 : iv_V call mc_51 rt 68 L st w = iv_lda L 0 fun x => iv_V call mc_51 rt 69 L (x :: st) w := iv_V_eq (I := (((111, 1), .aload_n 0, 0, 0, 0) : iv_I)) rfl
theorem e51_69 : iv_V call mc_51 rt 69 L st w = iv_gf w st 1 26 fun v st' => iv_V call mc_51 rt 70 L (v :: st') w := iv_V_eq (I := (((112, 3), .getfield 77, 1, 26, 625) : iv_I)) rfl
theorem e51_70 : iv_V call mc_51 rt 70 L st w = iv_ldi L 3 fun x => iv_V call mc_51 rt 71 L (.int x :: st) w := iv_V_eq (I := (((115, 1), .iload_n 3, 0, 0, 0) : iv_I)) rfl
theorem e51_71 : iv_V call mc_51 rt 71 L st w = iv_ald w st iv_isI fun v st' => iv_V call mc_51 rt 72 L (v :: st') w := iv_V_eq (I := (((116, 1), .iaload, 0, 0, 0) : iv_I)) rfl
theorem e51_72 : iv_V call mc_51 rt 72 L st w = iv_V call mc_51 rt 73 L (.int 1 :: st) w := (iv_V_eq (I := (((117, 1), .iconst 1, 0, 0, 0) : iv_I)) rfl).trans (congrArg (fun c => iv_V call mc_51 rt 73 L (.int c :: st) w) li_o1)
theorem e51_73 : iv_V call mc_51 rt 73 L st w = iv_p2 st fun x y st' => iv_V call mc_51 rt 74 L (.int (x - y) :: st') w := iv_V_eq (I := (((118, 1), .isub, 0, 0, 0) : iv_I)) rfl
theorem e51_74 : iv_V call mc_51 rt 74 L st w = iv_V call mc_51 rt 76 L (st) w := iv_V_eq (I := (((119, 3), .goto 4, 76, 0, 0) : iv_I)) rfl
theorem e51_75 : iv_V call mc_51 rt 75 L st w = iv_V call mc_51 rt 76 L (.int 1 :: st) w := (iv_V_eq (I := (((122, 1), .iconst 1, 0, 0, 0) : iv_I)) rfl).trans (congrArg (fun c => iv_V call mc_51 rt 76 L (.int c :: st) w) li_o1)
theorem e51_76 : iv_V call mc_51 rt 76 L st w = iv_p1 st fun x st' => iv_sto L 5 (.int x) fun L' => iv_V call mc_51 rt 77 L' (st') w := iv_V_eq (I := (((123, 2), .istore 5, 0, 0, 0) : iv_I)) rfl
theorem e51_77 : iv_V call mc_51 rt 77 L st w = iv_lda L 0 fun x => iv_V call mc_51 rt 78 L (x :: st) w := iv_V_eq (I := (((125, 1), .aload_n 0, 0, 0, 0) : iv_I)) rfl
theorem e51_78 : iv_V call mc_51 rt 78 L st w = iv_gf w st 1 5 fun v st' => iv_V call mc_51 rt 79 L (v :: st') w := iv_V_eq (I := (((126, 3), .getfield 19, 1, 5, 604) : iv_I)) rfl
theorem e51_79 : iv_V call mc_51 rt 79 L st w = iv_ldi L 2 fun x => iv_V call mc_51 rt 80 L (.int x :: st) w := iv_V_eq (I := (((129, 1), .iload_n 2, 0, 0, 0) : iv_I)) rfl
theorem e51_80 : iv_V call mc_51 rt 80 L st w = iv_ald w st iv_isZ fun v st' => iv_V call mc_51 rt 81 L (v :: st') w := iv_V_eq (I := (((130, 1), .baload, 0, 0, 0) : iv_I)) rfl
theorem e51_81 : iv_V call mc_51 rt 81 L st w = iv_p1 st fun x st' => if x = 0 then iv_V call mc_51 rt 96 L (st') w else iv_V call mc_51 rt 82 L (st') w := (iv_V_eq (I := (((131, 3), .ifCond .eq 28, 96, 0, 0) : iv_I)) rfl).trans (by simp only [iv_go, iv_cnd, decide_eq_true_eq])
theorem e51_82 : iv_V call mc_51 rt 82 L st w = iv_lda L 0 fun x => iv_V call mc_51 rt 83 L (x :: st) w := iv_V_eq (I := (((134, 1), .aload_n 0, 0, 0, 0) : iv_I)) rfl
theorem e51_83 : iv_V call mc_51 rt 83 L st w = iv_lda L 0 fun x => iv_V call mc_51 rt 84 L (x :: st) w := iv_V_eq (I := (((135, 1), .aload_n 0, 0, 0, 0) : iv_I)) rfl
theorem e51_84 : iv_V call mc_51 rt 84 L st w = iv_gf w st 1 29 fun v st' => iv_V call mc_51 rt 85 L (v :: st') w := iv_V_eq (I := (((136, 3), .getfield 83, 1, 29, 628) : iv_I)) rfl
theorem e51_85 : iv_V call mc_51 rt 85 L st w = iv_ldi L 1 fun x => iv_V call mc_51 rt 86 L (.int x :: st) w := iv_V_eq (I := (((139, 1), .iload_n 1, 0, 0, 0) : iv_I)) rfl
theorem e51_86 : iv_V call mc_51 rt 86 L st w = iv_ald w st iv_isI fun v st' => iv_V call mc_51 rt 87 L (v :: st') w := iv_V_eq (I := (((140, 1), .iaload, 0, 0, 0) : iv_I)) rfl
theorem e51_87 : iv_V call mc_51 rt 87 L st w = iv_ldi L 2 fun x => iv_V call mc_51 rt 88 L (.int x :: st) w := iv_V_eq (I := (((141, 1), .iload_n 2, 0, 0, 0) : iv_I)) rfl
theorem e51_88 : iv_V call mc_51 rt 88 L st w = iv_inv call 38 3 (fun as => iv_rc w as (iv_mc 38)) st w fun st' w' => iv_V call mc_51 rt 89 L (st') w' := iv_V_eq (I := (((142, 3), .invokevirtual 152, 38, 3, 799) : iv_I)) rfl
theorem e51_89 : iv_V call mc_51 rt 89 L st w = iv_p1 st fun x st' => if x = 0 then iv_V call mc_51 rt 96 L (st') w else iv_V call mc_51 rt 90 L (st') w := (iv_V_eq (I := (((145, 3), .ifCond .eq 14, 96, 0, 0) : iv_I)) rfl).trans (by simp only [iv_go, iv_cnd, decide_eq_true_eq])
theorem e51_90 : iv_V call mc_51 rt 90 L st w = iv_lda L 0 fun x => iv_V call mc_51 rt 91 L (x :: st) w := iv_V_eq (I := (((148, 1), .aload_n 0, 0, 0, 0) : iv_I)) rfl
theorem e51_91 : iv_V call mc_51 rt 91 L st w = iv_gf w st 1 35 fun v st' => iv_V call mc_51 rt 92 L (v :: st') w := iv_V_eq (I := (((149, 3), .getfield 101, 1, 35, 634) : iv_I)) rfl
theorem e51_92 : iv_V call mc_51 rt 92 L st w = iv_ldi L 1 fun x => iv_V call mc_51 rt 93 L (.int x :: st) w := iv_V_eq (I := (((152, 1), .iload_n 1, 0, 0, 0) : iv_I)) rfl
theorem e51_93 : iv_V call mc_51 rt 93 L st w = iv_ald w st iv_isI fun v st' => iv_V call mc_51 rt 94 L (v :: st') w := iv_V_eq (I := (((153, 1), .iaload, 0, 0, 0) : iv_I)) rfl
theorem e51_94 : iv_V call mc_51 rt 94 L st w = iv_ldi L 5 fun x => iv_V call mc_51 rt 95 L (.int x :: st) w := iv_V_eq (I := (((154, 2), .iload 5, 0, 0, 0) : iv_I)) rfl
theorem e51_95 : iv_V call mc_51 rt 95 L st w = iv_p2 st fun x y st' => if ¬ x = y then iv_V call mc_51 rt 111 L (st') w else iv_V call mc_51 rt 96 L (st') w := (iv_V_eq (I := (((156, 3), .if_icmp .ne 22, 111, 0, 0) : iv_I)) rfl).trans (by simp only [iv_go, iv_cnd, decide_eq_true_eq])
theorem e51_96 : iv_V call mc_51 rt 96 L st w = iv_lda L 0 fun x => iv_V call mc_51 rt 97 L (x :: st) w := iv_V_eq (I := (((159, 1), .aload_n 0, 0, 0, 0) : iv_I)) rfl
theorem e51_97 : iv_V call mc_51 rt 97 L st w = iv_gf w st 1 34 fun v st' => iv_V call mc_51 rt 98 L (v :: st') w := iv_V_eq (I := (((160, 3), .getfield 98, 1, 34, 633) : iv_I)) rfl
theorem e51_98 : iv_V call mc_51 rt 98 L st w = iv_ldi L 1 fun x => iv_V call mc_51 rt 99 L (.int x :: st) w := iv_V_eq (I := (((163, 1), .iload_n 1, 0, 0, 0) : iv_I)) rfl
theorem e51_99 : iv_V call mc_51 rt 99 L st w = iv_d2 st fun a b st' => iv_V call mc_51 rt 100 L (a :: b :: a :: b :: st') w := iv_V_eq (I := (((164, 1), .dup2, 0, 0, 0) : iv_I)) rfl
theorem e51_100 : iv_V call mc_51 rt 100 L st w = iv_ald w st iv_isI fun v st' => iv_V call mc_51 rt 101 L (v :: st') w := iv_V_eq (I := (((165, 1), .iaload, 0, 0, 0) : iv_I)) rfl
theorem e51_101 : iv_V call mc_51 rt 101 L st w = iv_V call mc_51 rt 102 L (.int 1 :: st) w := (iv_V_eq (I := (((166, 1), .iconst 1, 0, 0, 0) : iv_I)) rfl).trans (congrArg (fun c => iv_V call mc_51 rt 102 L (.int c :: st) w) li_o1)
theorem e51_102 : iv_V call mc_51 rt 102 L st w = iv_p2 st fun x y st' => iv_V call mc_51 rt 103 L (.int (x + y) :: st') w := iv_V_eq (I := (((167, 1), .iadd, 0, 0, 0) : iv_I)) rfl
theorem e51_103 : iv_V call mc_51 rt 103 L st w = iv_ast w st iv_isI fun st' w' => iv_V call mc_51 rt 104 L (st') w' := iv_V_eq (I := (((168, 1), .iastore, 0, 0, 0) : iv_I)) rfl
theorem e51_104 : iv_V call mc_51 rt 104 L st w = iv_lda L 0 fun x => iv_V call mc_51 rt 105 L (x :: st) w := iv_V_eq (I := (((169, 1), .aload_n 0, 0, 0, 0) : iv_I)) rfl
theorem e51_105 : iv_V call mc_51 rt 105 L st w = iv_gf w st 1 35 fun v st' => iv_V call mc_51 rt 106 L (v :: st') w := iv_V_eq (I := (((170, 3), .getfield 101, 1, 35, 634) : iv_I)) rfl
theorem e51_106 : iv_V call mc_51 rt 106 L st w = iv_ldi L 1 fun x => iv_V call mc_51 rt 107 L (.int x :: st) w := iv_V_eq (I := (((173, 1), .iload_n 1, 0, 0, 0) : iv_I)) rfl
theorem e51_107 : iv_V call mc_51 rt 107 L st w = iv_V call mc_51 rt 108 L (.int 0 :: st) w := (iv_V_eq (I := (((174, 1), .iconst 0, 0, 0, 0) : iv_I)) rfl).trans (congrArg (fun c => iv_V call mc_51 rt 108 L (.int c :: st) w) li_o0)
theorem e51_108 : iv_V call mc_51 rt 108 L st w = iv_ast w st iv_isI fun st' w' => iv_V call mc_51 rt 109 L (st') w' := iv_V_eq (I := (((175, 1), .iastore, 0, 0, 0) : iv_I)) rfl
theorem e51_109 : iv_V call mc_51 rt 109 L st w = iv_V call mc_51 rt 110 L (.int 0 :: st) w := (iv_V_eq (I := (((176, 1), .iconst 0, 0, 0, 0) : iv_I)) rfl).trans (congrArg (fun c => iv_V call mc_51 rt 110 L (.int c :: st) w) li_o0)
theorem e51_110 : iv_V call mc_51 rt 110 L st w = iv_ret rt st w := iv_V_eq (I := (((177, 1), .ireturn, 0, 0, 0) : iv_I)) rfl
theorem e51_111 : iv_V call mc_51 rt 111 L st w = iv_ldi L 4 fun x => iv_V call mc_51 rt 112 L (.int x :: st) w := iv_V_eq (I := (((178, 2), .iload 4, 0, 0, 0) : iv_I)) rfl
theorem e51_112 : iv_V call mc_51 rt 112 L st w = iv_p1 st fun x st' => if x = 0 then iv_V call mc_51 rt 125 L (st') w else iv_V call mc_51 rt 113 L (st') w := (iv_V_eq (I := (((180, 3), .ifCond .eq 21, 125, 0, 0) : iv_I)) rfl).trans (by simp only [iv_go, iv_cnd, decide_eq_true_eq])
theorem e51_113 : iv_V call mc_51 rt 113 L st w = iv_lda L 0 fun x => iv_V call mc_51 rt 114 L (x :: st) w := iv_V_eq (I := (((183, 1), .aload_n 0, 0, 0, 0) : iv_I)) rfl
theorem e51_114 : iv_V call mc_51 rt 114 L st w = iv_gf w st 1 27 fun v st' => iv_V call mc_51 rt 115 L (v :: st') w := iv_V_eq (I := (((184, 3), .getfield 80, 1, 27, 626) : iv_I)) rfl
theorem e51_115 : iv_V call mc_51 rt 115 L st w = iv_V call mc_51 rt 116 L (.int 3 :: st) w := (iv_V_eq (I := (((187, 1), .iconst 3, 0, 0, 0) : iv_I)) rfl).trans (congrArg (fun c => iv_V call mc_51 rt 116 L (.int c :: st) w) li_o3)
theorem e51_116 : iv_V call mc_51 rt 116 L st w = iv_ldi L 3 fun x => iv_V call mc_51 rt 117 L (.int x :: st) w := iv_V_eq (I := (((188, 1), .iload_n 3, 0, 0, 0) : iv_I)) rfl
theorem e51_117 : iv_V call mc_51 rt 117 L st w = iv_p2 st fun x y st' => iv_V call mc_51 rt 118 L (.int (x * y) :: st') w := iv_V_eq (I := (((189, 1), .imul, 0, 0, 0) : iv_I)) rfl
theorem e51_118 : iv_V call mc_51 rt 118 L st w = iv_lda L 0 fun x => iv_V call mc_51 rt 119 L (x :: st) w := iv_V_eq (I := (((190, 1), .aload_n 0, 0, 0, 0) : iv_I)) rfl
theorem e51_119 : iv_V call mc_51 rt 119 L st w = iv_gf w st 1 35 fun v st' => iv_V call mc_51 rt 120 L (v :: st') w := iv_V_eq (I := (((191, 3), .getfield 101, 1, 35, 634) : iv_I)) rfl
theorem e51_120 : iv_V call mc_51 rt 120 L st w = iv_ldi L 1 fun x => iv_V call mc_51 rt 121 L (.int x :: st) w := iv_V_eq (I := (((194, 1), .iload_n 1, 0, 0, 0) : iv_I)) rfl
theorem e51_121 : iv_V call mc_51 rt 121 L st w = iv_ald w st iv_isI fun v st' => iv_V call mc_51 rt 122 L (v :: st') w := iv_V_eq (I := (((195, 1), .iaload, 0, 0, 0) : iv_I)) rfl
theorem e51_122 : iv_V call mc_51 rt 122 L st w = iv_p2 st fun x y st' => iv_V call mc_51 rt 123 L (.int (x + y) :: st') w := iv_V_eq (I := (((196, 1), .iadd, 0, 0, 0) : iv_I)) rfl
theorem e51_123 : iv_V call mc_51 rt 123 L st w = iv_ald w st iv_isI fun v st' => iv_V call mc_51 rt 124 L (v :: st') w := iv_V_eq (I := (((197, 1), .iaload, 0, 0, 0) : iv_I)) rfl
theorem e51_124 : iv_V call mc_51 rt 124 L st w = iv_V call mc_51 rt 131 L (st) w := iv_V_eq (I := (((198, 3), .goto 11, 131, 0, 0) : iv_I)) rfl
theorem e51_125 : iv_V call mc_51 rt 125 L st w = iv_lda L 0 fun x => iv_V call mc_51 rt 126 L (x :: st) w := iv_V_eq (I := (((201, 1), .aload_n 0, 0, 0, 0) : iv_I)) rfl
theorem e51_126 : iv_V call mc_51 rt 126 L st w = iv_gf w st 1 26 fun v st' => iv_V call mc_51 rt 127 L (v :: st') w := iv_V_eq (I := (((202, 3), .getfield 77, 1, 26, 625) : iv_I)) rfl
theorem e51_127 : iv_V call mc_51 rt 127 L st w = iv_ldi L 3 fun x => iv_V call mc_51 rt 128 L (.int x :: st) w := iv_V_eq (I := (((205, 1), .iload_n 3, 0, 0, 0) : iv_I)) rfl
theorem e51_128 : iv_V call mc_51 rt 128 L st w = iv_ald w st iv_isI fun v st' => iv_V call mc_51 rt 129 L (v :: st') w := iv_V_eq (I := (((206, 1), .iaload, 0, 0, 0) : iv_I)) rfl
theorem e51_129 : iv_V call mc_51 rt 129 L st w = iv_V call mc_51 rt 130 L (.int 1 :: st) w := (iv_V_eq (I := (((207, 1), .iconst 1, 0, 0, 0) : iv_I)) rfl).trans (congrArg (fun c => iv_V call mc_51 rt 130 L (.int c :: st) w) li_o1)
theorem e51_130 : iv_V call mc_51 rt 130 L st w = iv_p2 st fun x y st' => iv_V call mc_51 rt 131 L (.int (x - y) :: st') w := iv_V_eq (I := (((208, 1), .isub, 0, 0, 0) : iv_I)) rfl
theorem e51_131 : iv_V call mc_51 rt 131 L st w = iv_p1 st fun x st' => iv_sto L 6 (.int x) fun L' => iv_V call mc_51 rt 132 L' (st') w := iv_V_eq (I := (((209, 2), .istore 6, 0, 0, 0) : iv_I)) rfl
theorem e51_132 : iv_V call mc_51 rt 132 L st w = iv_lda L 0 fun x => iv_V call mc_51 rt 133 L (x :: st) w := iv_V_eq (I := (((211, 1), .aload_n 0, 0, 0, 0) : iv_I)) rfl
theorem e51_133 : iv_V call mc_51 rt 133 L st w = iv_gf w st 1 37 fun v st' => iv_V call mc_51 rt 134 L (v :: st') w := iv_V_eq (I := (((212, 3), .getfield 107, 1, 37, 636) : iv_I)) rfl
theorem e51_134 : iv_V call mc_51 rt 134 L st w = iv_lda L 0 fun x => iv_V call mc_51 rt 135 L (x :: st) w := iv_V_eq (I := (((215, 1), .aload_n 0, 0, 0, 0) : iv_I)) rfl
theorem e51_135 : iv_V call mc_51 rt 135 L st w = iv_gf w st 1 28 fun v st' => iv_V call mc_51 rt 136 L (v :: st') w := iv_V_eq (I := (((216, 3), .getfield 163, 1, 28, 627) : iv_I)) rfl
theorem e51_136 : iv_V call mc_51 rt 136 L st w = iv_ldi L 2 fun x => iv_V call mc_51 rt 137 L (.int x :: st) w := iv_V_eq (I := (((219, 1), .iload_n 2, 0, 0, 0) : iv_I)) rfl
theorem e51_137 : iv_V call mc_51 rt 137 L st w = iv_ast w st iv_isI fun st' w' => iv_V call mc_51 rt 138 L (st') w' := iv_V_eq (I := (((220, 1), .iastore, 0, 0, 0) : iv_I)) rfl
theorem e51_138 : iv_V call mc_51 rt 138 L st w = iv_lda L 0 fun x => iv_V call mc_51 rt 139 L (x :: st) w := iv_V_eq (I := (((221, 1), .aload_n 0, 0, 0, 0) : iv_I)) rfl
theorem e51_139 : iv_V call mc_51 rt 139 L st w = iv_gf w st 1 38 fun v st' => iv_V call mc_51 rt 140 L (v :: st') w := iv_V_eq (I := (((222, 3), .getfield 110, 1, 38, 637) : iv_I)) rfl
theorem e51_140 : iv_V call mc_51 rt 140 L st w = iv_lda L 0 fun x => iv_V call mc_51 rt 141 L (x :: st) w := iv_V_eq (I := (((225, 1), .aload_n 0, 0, 0, 0) : iv_I)) rfl
theorem e51_141 : iv_V call mc_51 rt 141 L st w = iv_gf w st 1 28 fun v st' => iv_V call mc_51 rt 142 L (v :: st') w := iv_V_eq (I := (((226, 3), .getfield 163, 1, 28, 627) : iv_I)) rfl
theorem e51_142 : iv_V call mc_51 rt 142 L st w = iv_ldi L 4 fun x => iv_V call mc_51 rt 143 L (.int x :: st) w := iv_V_eq (I := (((229, 2), .iload 4, 0, 0, 0) : iv_I)) rfl
theorem e51_143 : iv_V call mc_51 rt 143 L st w = iv_p1 st fun x st' => if x = 0 then iv_V call mc_51 rt 149 L (st') w else iv_V call mc_51 rt 144 L (st') w := (iv_V_eq (I := (((231, 3), .ifCond .eq 12, 149, 0, 0) : iv_I)) rfl).trans (by simp only [iv_go, iv_cnd, decide_eq_true_eq])
theorem e51_144 : iv_V call mc_51 rt 144 L st w = iv_lda L 0 fun x => iv_V call mc_51 rt 145 L (x :: st) w := iv_V_eq (I := (((234, 1), .aload_n 0, 0, 0, 0) : iv_I)) rfl
theorem e51_145 : iv_V call mc_51 rt 145 L st w = iv_gf w st 1 35 fun v st' => iv_V call mc_51 rt 146 L (v :: st') w := iv_V_eq (I := (((235, 3), .getfield 101, 1, 35, 634) : iv_I)) rfl
theorem e51_146 : iv_V call mc_51 rt 146 L st w = iv_ldi L 1 fun x => iv_V call mc_51 rt 147 L (.int x :: st) w := iv_V_eq (I := (((238, 1), .iload_n 1, 0, 0, 0) : iv_I)) rfl
theorem e51_147 : iv_V call mc_51 rt 147 L st w = iv_ald w st iv_isI fun v st' => iv_V call mc_51 rt 148 L (v :: st') w := iv_V_eq (I := (((239, 1), .iaload, 0, 0, 0) : iv_I)) rfl
theorem e51_148 : iv_V call mc_51 rt 148 L st w = iv_V call mc_51 rt 150 L (st) w := iv_V_eq (I := (((240, 3), .goto 4, 150, 0, 0) : iv_I)) rfl
theorem e51_149 : iv_V call mc_51 rt 149 L st w = iv_V call mc_51 rt 150 L (.int (-1) :: st) w := (iv_V_eq (I := (((243, 1), .iconst (-1), 0, 0, 0) : iv_I)) rfl).trans (congrArg (fun c => iv_V call mc_51 rt 150 L (.int c :: st) w) li_om1)
theorem e51_150 : iv_V call mc_51 rt 150 L st w = iv_ast w st iv_isI fun st' w' => iv_V call mc_51 rt 151 L (st') w' := iv_V_eq (I := (((244, 1), .iastore, 0, 0, 0) : iv_I)) rfl
theorem e51_151 : iv_V call mc_51 rt 151 L st w = iv_lda L 0 fun x => iv_V call mc_51 rt 152 L (x :: st) w := iv_V_eq (I := (((245, 1), .aload_n 0, 0, 0, 0) : iv_I)) rfl
theorem e51_152 : iv_V call mc_51 rt 152 L st w = iv_gf w st 1 35 fun v st' => iv_V call mc_51 rt 153 L (v :: st') w := iv_V_eq (I := (((246, 3), .getfield 101, 1, 35, 634) : iv_I)) rfl
theorem e51_153 : iv_V call mc_51 rt 153 L st w = iv_ldi L 1 fun x => iv_V call mc_51 rt 154 L (.int x :: st) w := iv_V_eq (I := (((249, 1), .iload_n 1, 0, 0, 0) : iv_I)) rfl
theorem e51_154 : iv_V call mc_51 rt 154 L st w = iv_d2 st fun a b st' => iv_V call mc_51 rt 155 L (a :: b :: a :: b :: st') w := iv_V_eq (I := (((250, 1), .dup2, 0, 0, 0) : iv_I)) rfl
theorem e51_155 : iv_V call mc_51 rt 155 L st w = iv_ald w st iv_isI fun v st' => iv_V call mc_51 rt 156 L (v :: st') w := iv_V_eq (I := (((251, 1), .iaload, 0, 0, 0) : iv_I)) rfl
theorem e51_156 : iv_V call mc_51 rt 156 L st w = iv_V call mc_51 rt 157 L (.int 1 :: st) w := (iv_V_eq (I := (((252, 1), .iconst 1, 0, 0, 0) : iv_I)) rfl).trans (congrArg (fun c => iv_V call mc_51 rt 157 L (.int c :: st) w) li_o1)
theorem e51_157 : iv_V call mc_51 rt 157 L st w = iv_p2 st fun x y st' => iv_V call mc_51 rt 158 L (.int (x + y) :: st') w := iv_V_eq (I := (((253, 1), .iadd, 0, 0, 0) : iv_I)) rfl
theorem e51_158 : iv_V call mc_51 rt 158 L st w = iv_ast w st iv_isI fun st' w' => iv_V call mc_51 rt 159 L (st') w' := iv_V_eq (I := (((254, 1), .iastore, 0, 0, 0) : iv_I)) rfl
theorem e51_159 : iv_V call mc_51 rt 159 L st w = iv_lda L 0 fun x => iv_V call mc_51 rt 160 L (x :: st) w := iv_V_eq (I := (((255, 1), .aload_n 0, 0, 0, 0) : iv_I)) rfl
theorem e51_160 : iv_V call mc_51 rt 160 L st w = iv_gf w st 1 6 fun v st' => iv_V call mc_51 rt 161 L (v :: st') w := iv_V_eq (I := (((256, 3), .getfield 23, 1, 6, 605) : iv_I)) rfl
theorem e51_161 : iv_V call mc_51 rt 161 L st w = iv_V call mc_51 rt 162 L (.int 6 :: st) w := (iv_V_eq (I := (((259, 2), .bipush 6, 0, 0, 0) : iv_I)) rfl).trans (congrArg (fun c => iv_V call mc_51 rt 162 L (.int c :: st) w) li_b6)
theorem e51_162 : iv_V call mc_51 rt 162 L st w = iv_ldi L 2 fun x => iv_V call mc_51 rt 163 L (.int x :: st) w := iv_V_eq (I := (((261, 1), .iload_n 2, 0, 0, 0) : iv_I)) rfl
theorem e51_163 : iv_V call mc_51 rt 163 L st w = iv_p2 st fun x y st' => iv_V call mc_51 rt 164 L (.int (x * y) :: st') w := iv_V_eq (I := (((262, 1), .imul, 0, 0, 0) : iv_I)) rfl
theorem e51_164 : iv_V call mc_51 rt 164 L st w = iv_lda L 0 fun x => iv_V call mc_51 rt 165 L (x :: st) w := iv_V_eq (I := (((263, 1), .aload_n 0, 0, 0, 0) : iv_I)) rfl
theorem e51_165 : iv_V call mc_51 rt 165 L st w = iv_gf w st 1 32 fun v st' => iv_V call mc_51 rt 166 L (v :: st') w := iv_V_eq (I := (((264, 3), .getfield 92, 1, 32, 631) : iv_I)) rfl
theorem e51_166 : iv_V call mc_51 rt 166 L st w = iv_ldi L 1 fun x => iv_V call mc_51 rt 167 L (.int x :: st) w := iv_V_eq (I := (((267, 1), .iload_n 1, 0, 0, 0) : iv_I)) rfl
theorem e51_167 : iv_V call mc_51 rt 167 L st w = iv_ald w st iv_isI fun v st' => iv_V call mc_51 rt 168 L (v :: st') w := iv_V_eq (I := (((268, 1), .iaload, 0, 0, 0) : iv_I)) rfl
theorem e51_168 : iv_V call mc_51 rt 168 L st w = iv_p2 st fun x y st' => iv_V call mc_51 rt 169 L (.int (x + y) :: st') w := iv_V_eq (I := (((269, 1), .iadd, 0, 0, 0) : iv_I)) rfl
theorem e51_169 : iv_V call mc_51 rt 169 L st w = iv_ald w st iv_isI fun v st' => iv_V call mc_51 rt 170 L (v :: st') w := iv_V_eq (I := (((270, 1), .iaload, 0, 0, 0) : iv_I)) rfl
theorem e51_170 : iv_V call mc_51 rt 170 L st w = iv_p1 st fun x st' => iv_sto L 7 (.int x) fun L' => iv_V call mc_51 rt 171 L' (st') w := iv_V_eq (I := (((271, 2), .istore 7, 0, 0, 0) : iv_I)) rfl
theorem e51_171 : iv_V call mc_51 rt 171 L st w = iv_lda L 0 fun x => iv_V call mc_51 rt 172 L (x :: st) w := iv_V_eq (I := (((273, 1), .aload_n 0, 0, 0, 0) : iv_I)) rfl
theorem e51_172 : iv_V call mc_51 rt 172 L st w = iv_ldi L 6 fun x => iv_V call mc_51 rt 173 L (.int x :: st) w := iv_V_eq (I := (((274, 2), .iload 6, 0, 0, 0) : iv_I)) rfl
theorem e51_173 : iv_V call mc_51 rt 173 L st w = iv_ldi L 7 fun x => iv_V call mc_51 rt 174 L (.int x :: st) w := iv_V_eq (I := (((276, 2), .iload 7, 0, 0, 0) : iv_I)) rfl
theorem e51_174 : iv_V call mc_51 rt 174 L st w = iv_p1 st fun x st' => if x ≤ 0 then iv_V call mc_51 rt 179 L (st') w else iv_V call mc_51 rt 175 L (st') w := (iv_V_eq (I := (((278, 3), .ifCond .le 10, 179, 0, 0) : iv_I)) rfl).trans (by simp only [iv_go, iv_cnd, decide_eq_true_eq])
theorem e51_175 : iv_V call mc_51 rt 175 L st w = iv_ldi L 7 fun x => iv_V call mc_51 rt 176 L (.int x :: st) w := iv_V_eq (I := (((281, 2), .iload 7, 0, 0, 0) : iv_I)) rfl
theorem e51_176 : iv_V call mc_51 rt 176 L st w = iv_V call mc_51 rt 177 L (.int 1 :: st) w := (iv_V_eq (I := (((283, 1), .iconst 1, 0, 0, 0) : iv_I)) rfl).trans (congrArg (fun c => iv_V call mc_51 rt 177 L (.int c :: st) w) li_o1)
theorem e51_177 : iv_V call mc_51 rt 177 L st w = iv_p2 st fun x y st' => iv_V call mc_51 rt 178 L (.int (x - y) :: st') w := iv_V_eq (I := (((284, 1), .isub, 0, 0, 0) : iv_I)) rfl
theorem e51_178 : iv_V call mc_51 rt 178 L st w = iv_V call mc_51 rt 183 L (st) w := iv_V_eq (I := (((285, 3), .goto 9, 183, 0, 0) : iv_I)) rfl
theorem e51_179 : iv_V call mc_51 rt 179 L st w = iv_lda L 0 fun x => iv_V call mc_51 rt 180 L (x :: st) w := iv_V_eq (I := (((288, 1), .aload_n 0, 0, 0, 0) : iv_I)) rfl
theorem e51_180 : iv_V call mc_51 rt 180 L st w = iv_gf w st 1 32 fun v st' => iv_V call mc_51 rt 181 L (v :: st') w := iv_V_eq (I := (((289, 3), .getfield 92, 1, 32, 631) : iv_I)) rfl
theorem e51_181 : iv_V call mc_51 rt 181 L st w = iv_ldi L 1 fun x => iv_V call mc_51 rt 182 L (.int x :: st) w := iv_V_eq (I := (((292, 1), .iload_n 1, 0, 0, 0) : iv_I)) rfl
theorem e51_182 : iv_V call mc_51 rt 182 L st w = iv_ald w st iv_isI fun v st' => iv_V call mc_51 rt 183 L (v :: st') w := iv_V_eq (I := (((293, 1), .iaload, 0, 0, 0) : iv_I)) rfl
theorem e51_183 : iv_V call mc_51 rt 183 L st w = iv_inv call 49 3 (fun as => iv_rc w as (iv_mc 49)) st w fun st' w' => iv_V call mc_51 rt 184 L (st') w' := iv_V_eq (I := (((294, 3), .invokevirtual 191, 49, 3, 831) : iv_I)) rfl
theorem e51_184 : iv_V call mc_51 rt 184 L st w = iv_ret rt st w := iv_V_eq (I := (((297, 1), .ireturn, 0, 0, 0) : iv_I)) rfl
theorem e52_0 : iv_V call mc_52 rt 0 L st w = iv_lda L 0 fun x => iv_V call mc_52 rt 1 L (x :: st) w := iv_V_eq (I := (((0, 1), .aload_n 0, 0, 0, 0) : iv_I)) rfl
theorem e52_1 : iv_V call mc_52 rt 1 L st w = iv_V call mc_52 rt 2 L (.int 0 :: st) w := (iv_V_eq (I := (((1, 1), .iconst 0, 0, 0, 0) : iv_I)) rfl).trans (congrArg (fun c => iv_V call mc_52 rt 2 L (.int c :: st) w) li_o0)
theorem e52_2 : iv_V call mc_52 rt 2 L st w = iv_pf w st 1 28 fun st' w' => iv_V call mc_52 rt 3 L (st') w' := iv_V_eq (I := (((2, 3), .putfield 163, 1, 28, 627) : iv_I)) rfl
theorem e52_3 : iv_V call mc_52 rt 3 L st w = iv_lda L 0 fun x => iv_V call mc_52 rt 4 L (x :: st) w := iv_V_eq (I := (((5, 1), .aload_n 0, 0, 0, 0) : iv_I)) rfl
theorem e52_4 : iv_V call mc_52 rt 4 L st w = iv_ldi L 1 fun x => iv_V call mc_52 rt 5 L (.int x :: st) w := iv_V_eq (I := (((6, 1), .iload_n 1, 0, 0, 0) : iv_I)) rfl
theorem e52_5 : iv_V call mc_52 rt 5 L st w = iv_ldi L 2 fun x => iv_V call mc_52 rt 6 L (.int x :: st) w := iv_V_eq (I := (((7, 1), .iload_n 2, 0, 0, 0) : iv_I)) rfl
theorem e52_6 : iv_V call mc_52 rt 6 L st w = iv_inv call 49 3 (fun as => iv_rc w as (iv_mc 49)) st w fun st' w' => iv_V call mc_52 rt 7 L (st') w' := iv_V_eq (I := (((8, 3), .invokevirtual 191, 49, 3, 831) : iv_I)) rfl
theorem e52_7 : iv_V call mc_52 rt 7 L st w = iv_p1 st fun x st' => iv_sto L 3 (.int x) fun L' => iv_V call mc_52 rt 8 L' (st') w := iv_V_eq (I := (((11, 1), .istore_n 3, 0, 0, 0) : iv_I)) rfl
theorem e52_8 : iv_V call mc_52 rt 8 L st w = iv_V call mc_52 rt 9 L (.int 0 :: st) w := (iv_V_eq (I := (((12, 1), .iconst 0, 0, 0, 0) : iv_I)) rfl).trans (congrArg (fun c => iv_V call mc_52 rt 9 L (.int c :: st) w) li_o0)
theorem e52_9 : iv_V call mc_52 rt 9 L st w = iv_p1 st fun x st' => iv_sto L 4 (.int x) fun L' => iv_V call mc_52 rt 10 L' (st') w := iv_V_eq (I := (((13, 2), .istore 4, 0, 0, 0) : iv_I)) rfl
theorem e52_10 : iv_V call mc_52 rt 10 L st w = iv_ldi L 4 fun x => iv_V call mc_52 rt 11 L (.int x :: st) w := iv_V_eq (I := (((15, 2), .iload 4, 0, 0, 0) : iv_I)) rfl
theorem e52_11 : iv_V call mc_52 rt 11 L st w = iv_V call mc_52 rt 12 L (.int (Int32.ofNat 100000) :: st) w := iv_V_eq (I := (((17, 2), .ldc 195, 100000, 0, 839) : iv_I)) rfl
theorem e52_12 : iv_V call mc_52 rt 12 L st w = iv_p2 st fun x y st' => if y ≤ x then iv_V call mc_52 rt 42 L (st') w else iv_V call mc_52 rt 13 L (st') w := (iv_V_eq (I := (((19, 3), .if_icmp .ge 58, 42, 0, 0) : iv_I)) rfl).trans (by simp only [iv_go, iv_cnd, decide_eq_true_eq])
theorem e52_13 : iv_V call mc_52 rt 13 L st w = iv_ldi L 3 fun x => iv_V call mc_52 rt 14 L (.int x :: st) w := iv_V_eq (I := (((22, 1), .iload_n 3, 0, 0, 0) : iv_I)) rfl
theorem e52_14 : iv_V call mc_52 rt 14 L st w = iv_p1 st fun x st' => if ¬ x = 0 then iv_V call mc_52 rt 42 L (st') w else iv_V call mc_52 rt 15 L (st') w := (iv_V_eq (I := (((23, 3), .ifCond .ne 54, 42, 0, 0) : iv_I)) rfl).trans (by simp only [iv_go, iv_cnd, decide_eq_true_eq])
theorem e52_15 : iv_V call mc_52 rt 15 L st w = iv_lda L 0 fun x => iv_V call mc_52 rt 16 L (x :: st) w := iv_V_eq (I := (((26, 1), .aload_n 0, 0, 0, 0) : iv_I)) rfl
theorem e52_16 : iv_V call mc_52 rt 16 L st w = iv_gf w st 1 28 fun v st' => iv_V call mc_52 rt 17 L (v :: st') w := iv_V_eq (I := (((27, 3), .getfield 163, 1, 28, 627) : iv_I)) rfl
theorem e52_17 : iv_V call mc_52 rt 17 L st w = iv_p1 st fun x st' => if x ≤ 0 then iv_V call mc_52 rt 42 L (st') w else iv_V call mc_52 rt 18 L (st') w := (iv_V_eq (I := (((30, 3), .ifCond .le 47, 42, 0, 0) : iv_I)) rfl).trans (by simp only [iv_go, iv_cnd, decide_eq_true_eq])
theorem e52_18 : iv_V call mc_52 rt 18 L st w = iv_lda L 0 fun x => iv_V call mc_52 rt 19 L (x :: st) w := iv_V_eq (I := (((33, 1), .aload_n 0, 0, 0, 0) : iv_I)) rfl
theorem e52_19 : iv_V call mc_52 rt 19 L st w = iv_gf w st 1 33 fun v st' => iv_V call mc_52 rt 20 L (v :: st') w := iv_V_eq (I := (((34, 3), .getfield 95, 1, 33, 632) : iv_I)) rfl
theorem e52_20 : iv_V call mc_52 rt 20 L st w = iv_lda L 0 fun x => iv_V call mc_52 rt 21 L (x :: st) w := iv_V_eq (I := (((37, 1), .aload_n 0, 0, 0, 0) : iv_I)) rfl
theorem e52_21 : iv_V call mc_52 rt 21 L st w = iv_gf w st 1 28 fun v st' => iv_V call mc_52 rt 22 L (v :: st') w := iv_V_eq (I := (((38, 3), .getfield 163, 1, 28, 627) : iv_I)) rfl
theorem e52_22 : iv_V call mc_52 rt 22 L st w = iv_V call mc_52 rt 23 L (.int 1 :: st) w := (iv_V_eq (I := (((41, 1), .iconst 1, 0, 0, 0) : iv_I)) rfl).trans (congrArg (fun c => iv_V call mc_52 rt 23 L (.int c :: st) w) li_o1)
theorem e52_23 : iv_V call mc_52 rt 23 L st w = iv_p2 st fun x y st' => iv_V call mc_52 rt 24 L (.int (x - y) :: st') w := iv_V_eq (I := (((42, 1), .isub, 0, 0, 0) : iv_I)) rfl
theorem e52_24 : iv_V call mc_52 rt 24 L st w = iv_ald w st iv_isZ fun v st' => iv_V call mc_52 rt 25 L (v :: st') w := iv_V_eq (I := (((43, 1), .baload, 0, 0, 0) : iv_I)) rfl
theorem e52_25 : iv_V call mc_52 rt 25 L st w = iv_p1 st fun x st' => if x = 0 then iv_V call mc_52 rt 33 L (st') w else iv_V call mc_52 rt 26 L (st') w := (iv_V_eq (I := (((44, 3), .ifCond .eq 16, 33, 0, 0) : iv_I)) rfl).trans (by simp only [iv_go, iv_cnd, decide_eq_true_eq])
theorem e52_26 : iv_V call mc_52 rt 26 L st w = iv_lda L 0 fun x => iv_V call mc_52 rt 27 L (x :: st) w := iv_V_eq (I := (((47, 1), .aload_n 0, 0, 0, 0) : iv_I)) rfl
theorem e52_27 : iv_V call mc_52 rt 27 L st w = iv_lda L 0 fun x => iv_V call mc_52 rt 28 L (x :: st) w := iv_V_eq (I := (((48, 1), .aload_n 0, 0, 0, 0) : iv_I)) rfl
theorem e52_28 : iv_V call mc_52 rt 28 L st w = iv_gf w st 1 28 fun v st' => iv_V call mc_52 rt 29 L (v :: st') w := iv_V_eq (I := (((49, 3), .getfield 163, 1, 28, 627) : iv_I)) rfl
theorem e52_29 : iv_V call mc_52 rt 29 L st w = iv_V call mc_52 rt 30 L (.int 1 :: st) w := (iv_V_eq (I := (((52, 1), .iconst 1, 0, 0, 0) : iv_I)) rfl).trans (congrArg (fun c => iv_V call mc_52 rt 30 L (.int c :: st) w) li_o1)
theorem e52_30 : iv_V call mc_52 rt 30 L st w = iv_p2 st fun x y st' => iv_V call mc_52 rt 31 L (.int (x - y) :: st') w := iv_V_eq (I := (((53, 1), .isub, 0, 0, 0) : iv_I)) rfl
theorem e52_31 : iv_V call mc_52 rt 31 L st w = iv_inv call 51 2 (fun as => iv_rc w as (iv_mc 51)) st w fun st' w' => iv_V call mc_52 rt 32 L (st') w' := iv_V_eq (I := (((54, 3), .invokevirtual 196, 51, 2, 840) : iv_I)) rfl
theorem e52_32 : iv_V call mc_52 rt 32 L st w = iv_V call mc_52 rt 39 L (st) w := iv_V_eq (I := (((57, 3), .goto 13, 39, 0, 0) : iv_I)) rfl
theorem e52_33 : iv_V call mc_52 rt 33 L st w = iv_lda L 0 fun x => iv_V call mc_52 rt 34 L (x :: st) w := iv_V_eq (I := (((60, 1), .aload_n 0, 0, 0, 0) : iv_I)) rfl
theorem e52_34 : iv_V call mc_52 rt 34 L st w = iv_lda L 0 fun x => iv_V call mc_52 rt 35 L (x :: st) w := iv_V_eq (I := (((61, 1), .aload_n 0, 0, 0, 0) : iv_I)) rfl
theorem e52_35 : iv_V call mc_52 rt 35 L st w = iv_gf w st 1 28 fun v st' => iv_V call mc_52 rt 36 L (v :: st') w := iv_V_eq (I := (((62, 3), .getfield 163, 1, 28, 627) : iv_I)) rfl
theorem e52_36 : iv_V call mc_52 rt 36 L st w = iv_V call mc_52 rt 37 L (.int 1 :: st) w := (iv_V_eq (I := (((65, 1), .iconst 1, 0, 0, 0) : iv_I)) rfl).trans (congrArg (fun c => iv_V call mc_52 rt 37 L (.int c :: st) w) li_o1)
theorem e52_37 : iv_V call mc_52 rt 37 L st w = iv_p2 st fun x y st' => iv_V call mc_52 rt 38 L (.int (x - y) :: st') w := iv_V_eq (I := (((66, 1), .isub, 0, 0, 0) : iv_I)) rfl
theorem e52_38 : iv_V call mc_52 rt 38 L st w = iv_inv call 50 2 (fun as => iv_rc w as (iv_mc 50)) st w fun st' w' => iv_V call mc_52 rt 39 L (st') w' := iv_V_eq (I := (((67, 3), .invokevirtual 199, 50, 2, 844) : iv_I)) rfl
theorem e52_39 : iv_V call mc_52 rt 39 L st w = iv_p1 st fun x st' => iv_sto L 3 (.int x) fun L' => iv_V call mc_52 rt 40 L' (st') w := iv_V_eq (I := (((70, 1), .istore_n 3, 0, 0, 0) : iv_I)) rfl
theorem e52_40 : iv_V call mc_52 rt 40 L st w = iv_ldi L 4 fun x => iv_sto L 4 (.int (x + 1)) fun L' => iv_V call mc_52 rt 41 L' (st) w := (iv_V_eq (I := (((71, 3), .iinc 4 1, 0, 0, 0) : iv_I)) rfl).trans (congrArg (fun c => iv_ldi L 4 fun x => iv_sto L 4 (.int (x + c)) fun L' => iv_V call mc_52 rt 41 L' (st) w) li_o1)
theorem e52_41 : iv_V call mc_52 rt 41 L st w = iv_V call mc_52 rt 10 L (st) w := iv_V_eq (I := (((74, 3), .goto (-59), 10, 0, 0) : iv_I)) rfl
theorem e52_42 : iv_V call mc_52 rt 42 L st w = iv_ldi L 3 fun x => iv_V call mc_52 rt 43 L (.int x :: st) w := iv_V_eq (I := (((77, 1), .iload_n 3, 0, 0, 0) : iv_I)) rfl
theorem e52_43 : iv_V call mc_52 rt 43 L st w = iv_ret rt st w := iv_V_eq (I := (((78, 1), .ireturn, 0, 0, 0) : iv_I)) rfl
end IVS3
