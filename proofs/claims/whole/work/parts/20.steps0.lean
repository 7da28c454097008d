/-! what each row does -/
def iv_as (st : List Value) (q : Nat → List Value → iv_R) : iv_R := match st with
  | .ref a :: st' => q a st'
  | _ => none
def iv_d1 (st : List Value) (q : Value → List Value → iv_R) : iv_R := match st with
  | a :: st' => if iv_isv a = true then q a st' else none
  | _ => none
def iv_d2 (st : List Value) (q : Value → Value → List Value → iv_R) : iv_R := match st with
  | a :: b :: st' => if iv_isv a = true then (if iv_isv b = true then q a b st' else none) else none
  | _ => none
theorem li_bm2 : (Int8.ofInt (-2)).toInt32 = (-2) := by decide +kernel
theorem li_bm3 : (Int8.ofInt (-3)).toInt32 = (-3) := by decide +kernel
theorem li_bm4 : (Int8.ofInt (-4)).toInt32 = (-4) := by decide +kernel
theorem li_bm5 : (Int8.ofInt (-5)).toInt32 = (-5) := by decide +kernel
theorem li_b10 : (Int8.ofInt 10).toInt32 = 10 := by decide +kernel
theorem li_b102 : (Int8.ofInt 102).toInt32 = 102 := by decide +kernel
theorem li_b112 : (Int8.ofInt 112).toInt32 = 112 := by decide +kernel
theorem li_b13 : (Int8.ofInt 13).toInt32 = 13 := by decide +kernel
theorem li_b14 : (Int8.ofInt 14).toInt32 = 14 := by decide +kernel
theorem li_b16 : (Int8.ofInt 16).toInt32 = 16 := by decide +kernel
theorem li_b17 : (Int8.ofInt 17).toInt32 = 17 := by decide +kernel
theorem li_b24 : (Int8.ofInt 24).toInt32 = 24 := by decide +kernel
theorem li_b31 : (Int8.ofInt 31).toInt32 = 31 := by decide +kernel
theorem li_b42 : (Int8.ofInt 42).toInt32 = 42 := by decide +kernel
theorem li_b46 : (Int8.ofInt 46).toInt32 = 46 := by decide +kernel
theorem li_b48 : (Int8.ofInt 48).toInt32 = 48 := by decide +kernel
theorem li_b6 : (Int8.ofInt 6).toInt32 = 6 := by decide +kernel
theorem li_b60 : (Int8.ofInt 60).toInt32 = 60 := by decide +kernel
theorem li_b63 : (Int8.ofInt 63).toInt32 = 63 := by decide +kernel
theorem li_b7 : (Int8.ofInt 7).toInt32 = 7 := by decide +kernel
theorem li_b8 : (Int8.ofInt 8).toInt32 = 8 := by decide +kernel
theorem li_b84 : (Int8.ofInt 84).toInt32 = 84 := by decide +kernel
theorem li_b9 : (Int8.ofInt 9).toInt32 = 9 := by decide +kernel
theorem li_b91 : (Int8.ofInt 91).toInt32 = 91 := by decide +kernel
theorem li_b93 : (Int8.ofInt 93).toInt32 = 93 := by decide +kernel
theorem li_om1 : Int32.ofInt (-1) = (-1) := by decide +kernel
theorem li_o0 : Int32.ofInt 0 = 0 := by decide +kernel
theorem li_o1 : Int32.ofInt 1 = 1 := by decide +kernel
theorem li_o2 : Int32.ofInt 2 = 2 := by decide +kernel
theorem li_o3 : Int32.ofInt 3 = 3 := by decide +kernel
theorem li_o4 : Int32.ofInt 4 = 4 := by decide +kernel
theorem li_o5 : Int32.ofInt 5 = 5 := by decide +kernel
theorem li_o7 : Int32.ofInt 7 = 7 := by decide +kernel
theorem li_s128 : (Int16.ofInt 128).toInt32 = 128 := by decide +kernel
theorem li_s140 : (Int16.ofInt 140).toInt32 = 140 := by decide +kernel
theorem li_s144 : (Int16.ofInt 144).toInt32 = 144 := by decide +kernel
theorem li_s384 : (Int16.ofInt 384).toInt32 = 384 := by decide +kernel
theorem li_s420 : (Int16.ofInt 420).toInt32 = 420 := by decide +kernel
section IVS0
variable {call : Nat → List Value → iv_S → iv_R} {rt : Option FieldType} {L st : List Value} {w : iv_S}
theorem e1_0 : iv_V call mc_1 rt 0 L st w = iv_nw w 0 fun v w' => iv_V call mc_1 rt 1 L (v :: st) w' := iv_V_eq (I := (((0, 3), .new 7, 0, 0, 42) : iv_I)) rfl
theorem e1_1 : iv_V call mc_1 rt 1 L st w = iv_d1 st fun a st' => iv_V call mc_1 rt 2 L (a :: a :: st') w := iv_V_eq (I := (((3, 1), .dup, 0, 0, 0) : iv_I)) rfl
theorem e1_2 : iv_V call mc_1 rt 2 L st w = iv_inv call 2 1 iv_isr st w fun st' w' => iv_V call mc_1 rt 3 L (st') w' := iv_V_eq (I := (((4, 3), .invokespecial 9, 2, 1, 44) : iv_I)) rfl
theorem e1_3 : iv_V call mc_1 rt 3 L st w = iv_as st fun a st' => iv_sto L 1 (.ref a) fun L' => iv_V call mc_1 rt 4 L' (st') w := iv_V_eq (I := (((7, 1), .astore_n 1, 0, 0, 0) : iv_I)) rfl
theorem e1_4 : iv_V call mc_1 rt 4 L st w = iv_nw w 1 fun v w' => iv_V call mc_1 rt 5 L (v :: st) w' := iv_V_eq (I := (((8, 3), .new 10, 1, 0, 593) : iv_I)) rfl
theorem e1_5 : iv_V call mc_1 rt 5 L st w = iv_d1 st fun a st' => iv_V call mc_1 rt 6 L (a :: a :: st') w := iv_V_eq (I := (((11, 1), .dup, 0, 0, 0) : iv_I)) rfl
theorem e1_6 : iv_V call mc_1 rt 6 L st w = iv_inv call 24 1 iv_isr st w fun st' w' => iv_V call mc_1 rt 7 L (st') w' := iv_V_eq (I := (((12, 3), .invokespecial 12, 24, 1, 595) : iv_I)) rfl
theorem e1_7 : iv_V call mc_1 rt 7 L st w = iv_as st fun a st' => iv_sto L 2 (.ref a) fun L' => iv_V call mc_1 rt 8 L' (st') w := iv_V_eq (I := (((15, 1), .astore_n 2, 0, 0, 0) : iv_I)) rfl
theorem e1_8 : iv_V call mc_1 rt 8 L st w = iv_V call mc_1 rt 9 L (.int 0 :: st) w := (iv_V_eq (I := (((16, 1), .iconst 0, 0, 0, 0) : iv_I)) rfl).trans (congrArg (fun c => iv_V call mc_1 rt 9 L (.int c :: st) w) li_o0)
theorem e1_9 : iv_V call mc_1 rt 9 L st w = iv_p1 st fun x st' => iv_sto L 3 (.int x) fun L' => iv_V call mc_1 rt 10 L' (st') w := iv_V_eq (I := (((17, 1), .istore_n 3, 0, 0, 0) : iv_I)) rfl
theorem e1_10 : iv_V call mc_1 rt 10 L st w = iv_ldi L 3 fun x => iv_V call mc_1 rt 11 L (.int x :: st) w := iv_V_eq (I := (((18, 1), .iload_n 3, 0, 0, 0) : iv_I)) rfl
theorem e1_11 : iv_V call mc_1 rt 11 L st w = iv_lda L 0 fun x => iv_V call mc_1 rt 12 L (x :: st) w := iv_V_eq (I := (((19, 1), .aload_n 0, 0, 0, 0) : iv_I)) rfl
theorem e1_12 : iv_V call mc_1 rt 12 L st w = iv_len w st fun x st' => iv_V call mc_1 rt 13 L (.int x :: st') w := iv_V_eq (I := (((20, 1), .arraylength, 0, 0, 0) : iv_I)) rfl
theorem e1_13 : iv_V call mc_1 rt 13 L st w = iv_V call mc_1 rt 14 L (.int 7 :: st) w := (iv_V_eq (I := (((21, 2), .bipush 7, 0, 0, 0) : iv_I)) rfl).trans (congrArg (fun c => iv_V call mc_1 rt 14 L (.int c :: st) w) li_b7)
theorem e1_14 : iv_V call mc_1 rt 14 L st w = iv_p2 st fun x y st' => iv_V call mc_1 rt 15 L (.int (x - y) :: st') w := iv_V_eq (I := (((23, 1), .isub, 0, 0, 0) : iv_I)) rfl
theorem e1_15 : iv_V call mc_1 rt 15 L st w = iv_p2 st fun x y st' => if y < x then iv_V call mc_1 rt 628 L (st') w else iv_V call mc_1 rt 16 L (st') w := (iv_V_eq (I := (((24, 3), .if_icmp .gt 860, 628, 0, 0) : iv_I)) rfl).trans (by simp only [iv_go, iv_cnd, decide_eq_true_eq])
theorem e1_16 : iv_V call mc_1 rt 16 L st w = iv_lda L 0 fun x => iv_V call mc_1 rt 17 L (x :: st) w := iv_V_eq (I := (((27, 1), .aload_n 0, 0, 0, 0) : iv_I)) rfl
theorem e1_17 : iv_V call mc_1 rt 17 L st w = iv_ldi L 3 fun x => iv_V call mc_1 rt 18 L (.int x :: st) w := iv_V_eq (I := (((28, 1), .iload_n 3, 0, 0, 0) : iv_I)) rfl
theorem e1_18 : iv_V call mc_1 rt 18 L st w = iv_ald w st iv_isI fun v st' => iv_V call mc_1 rt 19 L (v :: st') w := iv_V_eq (I := (((29, 1), .iaload, 0, 0, 0) : iv_I)) rfl
theorem e1_19 : iv_V call mc_1 rt 19 L st w = iv_V call mc_1 rt 20 L (.int 31 :: st) w := (iv_V_eq (I := (((30, 2), .bipush 31, 0, 0, 0) : iv_I)) rfl).trans (congrArg (fun c => iv_V call mc_1 rt 20 L (.int c :: st) w) li_b31)
theorem e1_20 : iv_V call mc_1 rt 20 L st w = iv_p2 st fun x y st' => iv_V call mc_1 rt 21 L (.int (x &&& y) :: st') w := iv_V_eq (I := (((32, 1), .iand, 0, 0, 0) : iv_I)) rfl
theorem sw1_21_95 {q : Nat → iv_R} : iv_sw mc_1 ((33 : Nat) + (95 : Int)) q = q 22 := by
  unfold iv_sw
  rw [show mc_1.findIdx? (fun J => decide ((J.1.1 : Int) = ((33 : Nat) : Int) + (95 : Int))) = some 22 by decide +kernel]
theorem sw1_21_118 {q : Nat → iv_R} : iv_sw mc_1 ((33 : Nat) + (118 : Int)) q = q 39 := by
  unfold iv_sw
  rw [show mc_1.findIdx? (fun J => decide ((J.1.1 : Int) = ((33 : Nat) : Int) + (118 : Int))) = some 39 by decide +kernel]
theorem sw1_21_151 {q : Nat → iv_R} : iv_sw mc_1 ((33 : Nat) + (151 : Int)) q = q 66 := by
  unfold iv_sw
  rw [show mc_1.findIdx? (fun J => decide ((J.1.1 : Int) = ((33 : Nat) : Int) + (151 : Int))) = some 66 by decide +kernel]
theorem sw1_21_242 {q : Nat → iv_R} : iv_sw mc_1 ((33 : Nat) + (242 : Int)) q = q 141 := by
  unfold iv_sw
  rw [show mc_1.findIdx? (fun J => decide ((J.1.1 : Int) = ((33 : Nat) : Int) + (242 : Int))) = some 141 by decide +kernel]
theorem sw1_21_295 {q : Nat → iv_R} : iv_sw mc_1 ((33 : Nat) + (295 : Int)) q = q 188 := by
  unfold iv_sw
  rw [show mc_1.findIdx? (fun J => decide ((J.1.1 : Int) = ((33 : Nat) : Int) + (295 : Int))) = some 188 by decide +kernel]
theorem sw1_21_344 {q : Nat → iv_R} : iv_sw mc_1 ((33 : Nat) + (344 : Int)) q = q 223 := by
  unfold iv_sw
  rw [show mc_1.findIdx? (fun J => decide ((J.1.1 : Int) = ((33 : Nat) : Int) + (344 : Int))) = some 223 by decide +kernel]
theorem sw1_21_377 {q : Nat → iv_R} : iv_sw mc_1 ((33 : Nat) + (377 : Int)) q = q 250 := by
  unfold iv_sw
  rw [show mc_1.findIdx? (fun J => decide ((J.1.1 : Int) = ((33 : Nat) : Int) + (377 : Int))) = some 250 by decide +kernel]
theorem sw1_21_410 {q : Nat → iv_R} : iv_sw mc_1 ((33 : Nat) + (410 : Int)) q = q 277 := by
  unfold iv_sw
  rw [show mc_1.findIdx? (fun J => decide ((J.1.1 : Int) = ((33 : Nat) : Int) + (410 : Int))) = some 277 by decide +kernel]
theorem sw1_21_443 {q : Nat → iv_R} : iv_sw mc_1 ((33 : Nat) + (443 : Int)) q = q 304 := by
  unfold iv_sw
  rw [show mc_1.findIdx? (fun J => decide ((J.1.1 : Int) = ((33 : Nat) : Int) + (443 : Int))) = some 304 by decide +kernel]
theorem sw1_21_466 {q : Nat → iv_R} : iv_sw mc_1 ((33 : Nat) + (466 : Int)) q = q 321 := by
  unfold iv_sw
  rw [show mc_1.findIdx? (fun J => decide ((J.1.1 : Int) = ((33 : Nat) : Int) + (466 : Int))) = some 321 by decide +kernel]
theorem sw1_21_509 {q : Nat → iv_R} : iv_sw mc_1 ((33 : Nat) + (509 : Int)) q = q 358 := by
  unfold iv_sw
  rw [show mc_1.findIdx? (fun J => decide ((J.1.1 : Int) = ((33 : Nat) : Int) + (509 : Int))) = some 358 by decide +kernel]
theorem sw1_21_532 {q : Nat → iv_R} : iv_sw mc_1 ((33 : Nat) + (532 : Int)) q = q 375 := by
  unfold iv_sw
  rw [show mc_1.findIdx? (fun J => decide ((J.1.1 : Int) = ((33 : Nat) : Int) + (532 : Int))) = some 375 by decide +kernel]
theorem sw1_21_575 {q : Nat → iv_R} : iv_sw mc_1 ((33 : Nat) + (575 : Int)) q = q 412 := by
  unfold iv_sw
  rw [show mc_1.findIdx? (fun J => decide ((J.1.1 : Int) = ((33 : Nat) : Int) + (575 : Int))) = some 412 by decide +kernel]
theorem sw1_21_618 {q : Nat → iv_R} : iv_sw mc_1 ((33 : Nat) + (618 : Int)) q = q 449 := by
  unfold iv_sw
  rw [show mc_1.findIdx? (fun J => decide ((J.1.1 : Int) = ((33 : Nat) : Int) + (618 : Int))) = some 449 by decide +kernel]
theorem sw1_21_677 {q : Nat → iv_R} : iv_sw mc_1 ((33 : Nat) + (677 : Int)) q = q 494 := by
  unfold iv_sw
  rw [show mc_1.findIdx? (fun J => decide ((J.1.1 : Int) = ((33 : Nat) : Int) + (677 : Int))) = some 494 by decide +kernel]
theorem sw1_21_710 {q : Nat → iv_R} : iv_sw mc_1 ((33 : Nat) + (710 : Int)) q = q 521 := by
  unfold iv_sw
  rw [show mc_1.findIdx? (fun J => decide ((J.1.1 : Int) = ((33 : Nat) : Int) + (710 : Int))) = some 521 by decide +kernel]
theorem sw1_21_753 {q : Nat → iv_R} : iv_sw mc_1 ((33 : Nat) + (753 : Int)) q = q 558 := by
  unfold iv_sw
  rw [show mc_1.findIdx? (fun J => decide ((J.1.1 : Int) = ((33 : Nat) : Int) + (753 : Int))) = some 558 by decide +kernel]
theorem sw1_21_766 {q : Nat → iv_R} : iv_sw mc_1 ((33 : Nat) + (766 : Int)) q = q 565 := by
  unfold iv_sw
  rw [show mc_1.findIdx? (fun J => decide ((J.1.1 : Int) = ((33 : Nat) : Int) + (766 : Int))) = some 565 by decide +kernel]
theorem sw1_21_779 {q : Nat → iv_R} : iv_sw mc_1 ((33 : Nat) + (779 : Int)) q = q 572 := by
  unfold iv_sw
  rw [show mc_1.findIdx? (fun J => decide ((J.1.1 : Int) = ((33 : Nat) : Int) + (779 : Int))) = some 572 by decide +kernel]
theorem sw1_21_812 {q : Nat → iv_R} : iv_sw mc_1 ((33 : Nat) + (812 : Int)) q = q 599 := by
  unfold iv_sw
  rw [show mc_1.findIdx? (fun J => decide ((J.1.1 : Int) = ((33 : Nat) : Int) + (812 : Int))) = some 599 by decide +kernel]
theorem sw1_21_845 {q : Nat → iv_R} : iv_sw mc_1 ((33 : Nat) + (845 : Int)) q = q 626 := by
  unfold iv_sw
  rw [show mc_1.findIdx? (fun J => decide ((J.1.1 : Int) = ((33 : Nat) : Int) + (845 : Int))) = some 626 by decide +kernel]
theorem e1_21 : iv_V call mc_1 rt 21 L st w = iv_p1 st fun x st' => if x = 0 then iv_V call mc_1 rt 22 L (st') w else if x = 1 then iv_V call mc_1 rt 39 L (st') w else if x = 2 then iv_V call mc_1 rt 66 L (st') w else if x = 3 then iv_V call mc_1 rt 141 L (st') w else if x = 4 then iv_V call mc_1 rt 188 L (st') w else if x = 5 then iv_V call mc_1 rt 223 L (st') w else if x = 6 then iv_V call mc_1 rt 250 L (st') w else if x = 7 then iv_V call mc_1 rt 277 L (st') w else if x = 8 then iv_V call mc_1 rt 304 L (st') w else if x = 9 then iv_V call mc_1 rt 321 L (st') w else if x = 10 then iv_V call mc_1 rt 358 L (st') w else if x = 11 then iv_V call mc_1 rt 375 L (st') w else if x = 12 then iv_V call mc_1 rt 412 L (st') w else if x = 13 then iv_V call mc_1 rt 449 L (st') w else if x = 14 then iv_V call mc_1 rt 494 L (st') w else if x = 15 then iv_V call mc_1 rt 521 L (st') w else if x = 16 then iv_V call mc_1 rt 558 L (st') w else if x = 17 then iv_V call mc_1 rt 565 L (st') w else if x = 18 then iv_V call mc_1 rt 572 L (st') w else if x = 19 then iv_V call mc_1 rt 599 L (st') w else iv_V call mc_1 rt 626 L (st') w := by
  refine (iv_V_eq (I := (((33, 95), .tableswitch 845 0 19 #[95, 118, 151, 242, 295, 344, 377, 410, 443, 466, 509, 532, 575, 618, 677, 710, 753, 766, 779, 812], 0, 0, 0) : iv_I)) rfl).trans ?_
  refine congrArg (iv_p1 st) (funext fun x => funext fun st' => ?_)
  dsimp only
  by_cases h0 : x = 0
  · subst h0
    rw [if_neg (by decide)]
    rw [if_pos rfl]
    exact sw1_21_95
  by_cases h1 : x = 1
  · subst h1
    rw [if_neg (by decide)]
    rw [if_neg (by decide : ¬ (1 : Int32) = 0)]
    rw [if_pos rfl]
    exact sw1_21_118
  by_cases h2 : x = 2
  · subst h2
    rw [if_neg (by decide)]
    rw [if_neg (by decide : ¬ (2 : Int32) = 0)]
    rw [if_neg (by decide : ¬ (2 : Int32) = 1)]
    rw [if_pos rfl]
    exact sw1_21_151
  by_cases h3 : x = 3
  · subst h3
    rw [if_neg (by decide)]
    rw [if_neg (by decide : ¬ (3 : Int32) = 0)]
    rw [if_neg (by decide : ¬ (3 : Int32) = 1)]
    rw [if_neg (by decide : ¬ (3 : Int32) = 2)]
    rw [if_pos rfl]
    exact sw1_21_242
  by_cases h4 : x = 4
  · subst h4
    rw [if_neg (by decide)]
    rw [if_neg (by decide : ¬ (4 : Int32) = 0)]
    rw [if_neg (by decide : ¬ (4 : Int32) = 1)]
    rw [if_neg (by decide : ¬ (4 : Int32) = 2)]
    rw [if_neg (by decide : ¬ (4 : Int32) = 3)]
    rw [if_pos rfl]
    exact sw1_21_295
  by_cases h5 : x = 5
  · subst h5
    rw [if_neg (by decide)]
    rw [if_neg (by decide : ¬ (5 : Int32) = 0)]
    rw [if_neg (by decide : ¬ (5 : Int32) = 1)]
    rw [if_neg (by decide : ¬ (5 : Int32) = 2)]
    rw [if_neg (by decide : ¬ (5 : Int32) = 3)]
    rw [if_neg (by decide : ¬ (5 : Int32) = 4)]
    rw [if_pos rfl]
    exact sw1_21_344
  by_cases h6 : x = 6
  · subst h6
    rw [if_neg (by decide)]
    rw [if_neg (by decide : ¬ (6 : Int32) = 0)]
    rw [if_neg (by decide : ¬ (6 : Int32) = 1)]
    rw [if_neg (by decide : ¬ (6 : Int32) = 2)]
    rw [if_neg (by decide : ¬ (6 : Int32) = 3)]
    rw [if_neg (by decide : ¬ (6 : Int32) = 4)]
    rw [if_neg (by decide : ¬ (6 : Int32) = 5)]
    rw [if_pos rfl]
    exact sw1_21_377
  by_cases h7 : x = 7
  · subst h7
    rw [if_neg (by decide)]
    rw [if_neg (by decide : ¬ (7 : Int32) = 0)]
    rw [if_neg (by decide : ¬ (7 : Int32) = 1)]
    rw [if_neg (by decide : ¬ (7 : Int32) = 2)]
    rw [if_neg (by decide : ¬ (7 : Int32) = 3)]
    rw [if_neg (by decide : ¬ (7 : Int32) = 4)]
    rw [if_neg (by decide : ¬ (7 : Int32) = 5)]
    rw [if_neg (by decide : ¬ (7 : Int32) = 6)]
    rw [if_pos rfl]
    exact sw1_21_410
  by_cases h8 : x = 8
  · subst h8
    rw [if_neg (by decide)]
    rw [if_neg (by decide : ¬ (8 : Int32) = 0)]
    rw [if_neg (by decide : ¬ (8 : Int32) = 1)]
    rw [if_neg (by decide : ¬ (8 : Int32) = 2)]
    rw [if_neg (by decide : ¬ (8 : Int32) = 3)]
    rw [if_neg (by decide : ¬ (8 : Int32) = 4)]
    rw [if_neg (by decide : ¬ (8 : Int32) = 5)]
    rw [if_neg (by decide : ¬ (8 : Int32) = 6)]
    rw [if_neg (by decide : ¬ (8 : Int32) = 7)]
    rw [if_pos rfl]
    exact sw1_21_443
  by_cases h9 : x = 9
  · subst h9
    rw [if_neg (by decide)]
    rw [if_neg (by decide : ¬ (9 : Int32) = 0)]
    rw [if_neg (by decide : ¬ (9 : Int32) = 1)]
    rw [if_neg (by decide : ¬ (9 : Int32) = 2)]
    rw [if_neg (by decide : ¬ (9 : Int32) = 3)]
    rw [if_neg (by decide : ¬ (9 : Int32) = 4)]
    rw [if_neg (by decide : ¬ (9 : Int32) = 5)]
    rw [if_neg (by decide : ¬ (9 : Int32) = 6)]
    rw [if_neg (by decide : ¬ (9 : Int32) = 7)]
    rw [if_neg (by decide : ¬ (9 : Int32) = 8)]
    rw [if_pos rfl]
    exact sw1_21_466
  by_cases h10 : x = 10
  · subst h10
    rw [if_neg (by decide)]
    rw [if_neg (by decide : ¬ (10 : Int32) = 0)]
    rw [if_neg (by decide : ¬ (10 : Int32) = 1)]
    rw [if_neg (by decide : ¬ (10 : Int32) = 2)]
    rw [if_neg (by decide : ¬ (10 : Int32) = 3)]
    rw [if_neg (by decide : ¬ (10 : Int32) = 4)]
    rw [if_neg (by decide : ¬ (10 : Int32) = 5)]
    rw [if_neg (by decide : ¬ (10 : Int32) = 6)]
    rw [if_neg (by decide : ¬ (10 : Int32) = 7)]
    rw [if_neg (by decide : ¬ (10 : Int32) = 8)]
    rw [if_neg (by decide : ¬ (10 : Int32) = 9)]
    rw [if_pos rfl]
    exact sw1_21_509
  by_cases h11 : x = 11
  · subst h11
    rw [if_neg (by decide)]
    rw [if_neg (by decide : ¬ (11 : Int32) = 0)]
    rw [if_neg (by decide : ¬ (11 : Int32) = 1)]
    rw [if_neg (by decide : ¬ (11 : Int32) = 2)]
    rw [if_neg (by decide : ¬ (11 : Int32) = 3)]
    rw [if_neg (by decide : ¬ (11 : Int32) = 4)]
    rw [if_neg (by decide : ¬ (11 : Int32) = 5)]
    rw [if_neg (by decide : ¬ (11 : Int32) = 6)]
    rw [if_neg (by decide : ¬ (11 : Int32) = 7)]
    rw [if_neg (by decide : ¬ (11 : Int32) = 8)]
    rw [if_neg (by decide : ¬ (11 : Int32) = 9)]
    rw [if_neg (by decide : ¬ (11 : Int32) = 10)]
    rw [if_pos rfl]
    exact sw1_21_532
  by_cases h12 : x = 12
  · subst h12
    rw [if_neg (by decide)]
    rw [if_neg (by decide : ¬ (12 : Int32) = 0)]
    rw [if_neg (by decide : ¬ (12 : Int32) = 1)]
    rw [if_neg (by decide : ¬ (12 : Int32) = 2)]
    rw [if_neg (by decide : ¬ (12 : Int32) = 3)]
    rw [if_neg (by decide : ¬ (12 : Int32) = 4)]
    rw [if_neg (by decide : ¬ (12 : Int32) = 5)]
    rw [if_neg (by decide : ¬ (12 : Int32) = 6)]
    rw [if_neg (by decide : ¬ (12 : Int32) = 7)]
    rw [if_neg (by decide : ¬ (12 : Int32) = 8)]
    rw [if_neg (by decide : ¬ (12 : Int32) = 9)]
    rw [if_neg (by decide : ¬ (12 : Int32) = 10)]
    rw [if_neg (by decide : ¬ (12 : Int32) = 11)]
    rw [if_pos rfl]
    exact sw1_21_575
  by_cases h13 : x = 13
  · subst h13
    rw [if_neg (by decide)]
    rw [if_neg (by decide : ¬ (13 : Int32) = 0)]
    rw [if_neg (by decide : ¬ (13 : Int32) = 1)]
    rw [if_neg (by decide : ¬ (13 : Int32) = 2)]
    rw [if_neg (by decide : ¬ (13 : Int32) = 3)]
    rw [if_neg (by decide : ¬ (13 : Int32) = 4)]
    rw [if_neg (by decide : ¬ (13 : Int32) = 5)]
    rw [if_neg (by decide : ¬ (13 : Int32) = 6)]
    rw [if_neg (by decide : ¬ (13 : Int32) = 7)]
    rw [if_neg (by decide : ¬ (13 : Int32) = 8)]
    rw [if_neg (by decide : ¬ (13 : Int32) = 9)]
    rw [if_neg (by decide : ¬ (13 : Int32) = 10)]
    rw [if_neg (by decide : ¬ (13 : Int32) = 11)]
    rw [if_neg (by decide : ¬ (13 : Int32) = 12)]
    rw [if_pos rfl]
    exact sw1_21_618
  by_cases h14 : x = 14
  · subst h14
    rw [if_neg (by decide)]
    rw [if_neg (by decide : ¬ (14 : Int32) = 0)]
    rw [if_neg (by decide : ¬ (14 : Int32) = 1)]
    rw [if_neg (by decide : ¬ (14 : Int32) = 2)]
    rw [if_neg (by decide : ¬ (14 : Int32) = 3)]
    rw [if_neg (by decide : ¬ (14 : Int32) = 4)]
    rw [if_neg (by decide : ¬ (14 : Int32) = 5)]
    rw [if_neg (by decide : ¬ (14 : Int32) = 6)]
    rw [if_neg (by decide : ¬ (14 : Int32) = 7)]
    rw [if_neg (by decide : ¬ (14 : Int32) = 8)]
    rw [if_neg (by decide : ¬ (14 : Int32) = 9)]
    rw [if_neg (by decide : ¬ (14 : Int32) = 10)]
    rw [if_neg (by decide : ¬ (14 : Int32) = 11)]
    rw [if_neg (by decide : ¬ (14 : Int32) = 12)]
    rw [if_neg (by decide : ¬ (14 : Int32) = 13)]
    rw [if_pos rfl]
    exact sw1_21_677
  by_cases h15 : x = 15
  · subst h15
    rw [if_neg (by decide)]
    rw [if_neg (by decide : ¬ (15 : Int32) = 0)]
    rw [if_neg (by decide : ¬ (15 : Int32) = 1)]
    rw [if_neg (by decide : ¬ (15 : Int32) = 2)]
    rw [if_neg (by decide : ¬ (15 : Int32) = 3)]
    rw [if_neg (by decide : ¬ (15 : Int32) = 4)]
    rw [if_neg (by decide : ¬ (15 : Int32) = 5)]
    rw [if_neg (by decide : ¬ (15 : Int32) = 6)]
    rw [if_neg (by decide : ¬ (15 : Int32) = 7)]
    rw [if_neg (by decide : ¬ (15 : Int32) = 8)]
    rw [if_neg (by decide : ¬ (15 : Int32) = 9)]
    rw [if_neg (by decide : ¬ (15 : Int32) = 10)]
    rw [if_neg (by decide : ¬ (15 : Int32) = 11)]
    rw [if_neg (by decide : ¬ (15 : Int32) = 12)]
    rw [if_neg (by decide : ¬ (15 : Int32) = 13)]
    rw [if_neg (by decide : ¬ (15 : Int32) = 14)]
    rw [if_pos rfl]
    exact sw1_21_710
  by_cases h16 : x = 16
  · subst h16
    rw [if_neg (by decide)]
    rw [if_neg (by decide : ¬ (16 : Int32) = 0)]
    rw [if_neg (by decide : ¬ (16 : Int32) = 1)]
    rw [if_neg (by decide : ¬ (16 : Int32) = 2)]
    rw [if_neg (by decide : ¬ (16 : Int32) = 3)]
    rw [if_neg (by decide : ¬ (16 : Int32) = 4)]
    rw [if_neg (by decide : ¬ (16 : Int32) = 5)]
    rw [if_neg (by decide : ¬ (16 : Int32) = 6)]
    rw [if_neg (by decide : ¬ (16 : Int32) = 7)]
    rw [if_neg (by decide : ¬ (16 : Int32) = 8)]
    rw [if_neg (by decide : ¬ (16 : Int32) = 9)]
    rw [if_neg (by decide : ¬ (16 : Int32) = 10)]
    rw [if_neg (by decide : ¬ (16 : Int32) = 11)]
    rw [if_neg (by decide : ¬ (16 : Int32) = 12)]
    rw [if_neg (by decide : ¬ (16 : Int32) = 13)]
    rw [if_neg (by decide : ¬ (16 : Int32) = 14)]
    rw [if_neg (by decide : ¬ (16 : Int32) = 15)]
    rw [if_pos rfl]
    exact sw1_21_753
  by_cases h17 : x = 17
  · subst h17
    rw [if_neg (by decide)]
    rw [if_neg (by decide : ¬ (17 : Int32) = 0)]
    rw [if_neg (by decide : ¬ (17 : Int32) = 1)]
    rw [if_neg (by decide : ¬ (17 : Int32) = 2)]
    rw [if_neg (by decide : ¬ (17 : Int32) = 3)]
    rw [if_neg (by decide : ¬ (17 : Int32) = 4)]
    rw [if_neg (by decide : ¬ (17 : Int32) = 5)]
    rw [if_neg (by decide : ¬ (17 : Int32) = 6)]
    rw [if_neg (by decide : ¬ (17 : Int32) = 7)]
    rw [if_neg (by decide : ¬ (17 : Int32) = 8)]
    rw [if_neg (by decide : ¬ (17 : Int32) = 9)]
    rw [if_neg (by decide : ¬ (17 : Int32) = 10)]
    rw [if_neg (by decide : ¬ (17 : Int32) = 11)]
    rw [if_neg (by decide : ¬ (17 : Int32) = 12)]
    rw [if_neg (by decide : ¬ (17 : Int32) = 13)]
    rw [if_neg (by decide : ¬ (17 : Int32) = 14)]
    rw [if_neg (by decide : ¬ (17 : Int32) = 15)]
    rw [if_neg (by decide : ¬ (17 : Int32) = 16)]
    rw [if_pos rfl]
    exact sw1_21_766
  by_cases h18 : x = 18
  · subst h18
    rw [if_neg (by decide)]
    rw [if_neg (by decide : ¬ (18 : Int32) = 0)]
    rw [if_neg (by decide : ¬ (18 : Int32) = 1)]
    rw [if_neg (by decide : ¬ (18 : Int32) = 2)]
    rw [if_neg (by decide : ¬ (18 : Int32) = 3)]
    rw [if_neg (by decide : ¬ (18 : Int32) = 4)]
    rw [if_neg (by decide : ¬ (18 : Int32) = 5)]
    rw [if_neg (by decide : ¬ (18 : Int32) = 6)]
    rw [if_neg (by decide : ¬ (18 : Int32) = 7)]
    rw [if_neg (by decide : ¬ (18 : Int32) = 8)]
    rw [if_neg (by decide : ¬ (18 : Int32) = 9)]
    rw [if_neg (by decide : ¬ (18 : Int32) = 10)]
    rw [if_neg (by decide : ¬ (18 : Int32) = 11)]
    rw [if_neg (by decide : ¬ (18 : Int32) = 12)]
    rw [if_neg (by decide : ¬ (18 : Int32) = 13)]
    rw [if_neg (by decide : ¬ (18 : Int32) = 14)]
    rw [if_neg (by decide : ¬ (18 : Int32) = 15)]
    rw [if_neg (by decide : ¬ (18 : Int32) = 16)]
    rw [if_neg (by decide : ¬ (18 : Int32) = 17)]
    rw [if_pos rfl]
    exact sw1_21_779
  by_cases h19 : x = 19
  · subst h19
    rw [if_neg (by decide)]
    rw [if_neg (by decide : ¬ (19 : Int32) = 0)]
    rw [if_neg (by decide : ¬ (19 : Int32) = 1)]
    rw [if_neg (by decide : ¬ (19 : Int32) = 2)]
    rw [if_neg (by decide : ¬ (19 : Int32) = 3)]
    rw [if_neg (by decide : ¬ (19 : Int32) = 4)]
    rw [if_neg (by decide : ¬ (19 : Int32) = 5)]
    rw [if_neg (by decide : ¬ (19 : Int32) = 6)]
    rw [if_neg (by decide : ¬ (19 : Int32) = 7)]
    rw [if_neg (by decide : ¬ (19 : Int32) = 8)]
    rw [if_neg (by decide : ¬ (19 : Int32) = 9)]
    rw [if_neg (by decide : ¬ (19 : Int32) = 10)]
    rw [if_neg (by decide : ¬ (19 : Int32) = 11)]
    rw [if_neg (by decide : ¬ (19 : Int32) = 12)]
    rw [if_neg (by decide : ¬ (19 : Int32) = 13)]
    rw [if_neg (by decide : ¬ (19 : Int32) = 14)]
    rw [if_neg (by decide : ¬ (19 : Int32) = 15)]
    rw [if_neg (by decide : ¬ (19 : Int32) = 16)]
    rw [if_neg (by decide : ¬ (19 : Int32) = 17)]
    rw [if_neg (by decide : ¬ (19 : Int32) = 18)]
    rw [if_pos rfl]
    exact sw1_21_812
  rw [if_pos (by
    have g0 := lv_neT h0 (show (0 : Int32).toInt = 0 by decide)
    have g1 := lv_neT h1 (show (1 : Int32).toInt = 1 by decide)
    have g2 := lv_neT h2 (show (2 : Int32).toInt = 2 by decide)
    have g3 := lv_neT h3 (show (3 : Int32).toInt = 3 by decide)
    have g4 := lv_neT h4 (show (4 : Int32).toInt = 4 by decide)
    have g5 := lv_neT h5 (show (5 : Int32).toInt = 5 by decide)
    have g6 := lv_neT h6 (show (6 : Int32).toInt = 6 by decide)
    have g7 := lv_neT h7 (show (7 : Int32).toInt = 7 by decide)
    have g8 := lv_neT h8 (show (8 : Int32).toInt = 8 by decide)
    have g9 := lv_neT h9 (show (9 : Int32).toInt = 9 by decide)
    have g10 := lv_neT h10 (show (10 : Int32).toInt = 10 by decide)
    have g11 := lv_neT h11 (show (11 : Int32).toInt = 11 by decide)
    have g12 := lv_neT h12 (show (12 : Int32).toInt = 12 by decide)
    have g13 := lv_neT h13 (show (13 : Int32).toInt = 13 by decide)
    have g14 := lv_neT h14 (show (14 : Int32).toInt = 14 by decide)
    have g15 := lv_neT h15 (show (15 : Int32).toInt = 15 by decide)
    have g16 := lv_neT h16 (show (16 : Int32).toInt = 16 by decide)
    have g17 := lv_neT h17 (show (17 : Int32).toInt = 17 by decide)
    have g18 := lv_neT h18 (show (18 : Int32).toInt = 18 by decide)
    have g19 := lv_neT h19 (show (19 : Int32).toInt = 19 by decide)
    omega)]
  rw [if_neg h0, if_neg h1, if_neg h2, if_neg h3, if_neg h4, if_neg h5, if_neg h6, if_neg h7, if_neg h8, if_neg h9, if_neg h10, if_neg h11, if_neg h12, if_neg h13, if_neg h14, if_neg h15, if_neg h16, if_neg h17, if_neg h18, if_neg h19]
  exact sw1_21_845
theorem e1_22 : iv_V call mc_1 rt 22 L st w = iv_lda L 1 fun x => iv_V call mc_1 rt 23 L (x :: st) w := iv_V_eq (I := (((128, 1), .aload_n 1, 0, 0, 0) : iv_I)) rfl
theorem e1_23 : iv_V call mc_1 rt 23 L st w = iv_lda L 0 fun x => iv_V call mc_1 rt 24 L (x :: st) w := iv_V_eq (I := (((129, 1), .aload_n 0, 0, 0, 0) : iv_I)) rfl
theorem e1_24 : iv_V call mc_1 rt 24 L st w = iv_ldi L 3 fun x => iv_V call mc_1 rt 25 L (.int x :: st) w := iv_V_eq (I := (((130, 1), .iload_n 3, 0, 0, 0) : iv_I)) rfl
theorem e1_25 : iv_V call mc_1 rt 25 L st w = iv_V call mc_1 rt 26 L (.int 1 :: st) w := (iv_V_eq (I := (((131, 1), .iconst 1, 0, 0, 0) : iv_I)) rfl).trans (congrArg (fun c => iv_V call mc_1 rt 26 L (.int c :: st) w) li_o1)
theorem e1_26 : iv_V call mc_1 rt 26 L st w = iv_p2 st fun x y st' => iv_V call mc_1 rt 27 L (.int (x + y) :: st') w := iv_V_eq (I := (((132, 1), .iadd, 0, 0, 0) : iv_I)) rfl
theorem e1_27 : iv_V call mc_1 rt 27 L st w = iv_ald w st iv_isI fun v st' => iv_V call mc_1 rt 28 L (v :: st') w := iv_V_eq (I := (((133, 1), .iaload, 0, 0, 0) : iv_I)) rfl
theorem e1_28 : iv_V call mc_1 rt 28 L st w = iv_inv call 3 2 (fun as => iv_rc w as (iv_mc 3)) st w fun st' w' => iv_V call mc_1 rt 29 L (st') w' := iv_V_eq (I := (((134, 3), .invokevirtual 13, 3, 2, 295) : iv_I)) rfl
theorem e1_29 : iv_V call mc_1 rt 29 L st w = iv_lda L 2 fun x => iv_V call mc_1 rt 30 L (x :: st) w := iv_V_eq (I := (((137, 1), .aload_n 2, 0, 0, 0) : iv_I)) rfl
theorem e1_30 : iv_V call mc_1 rt 30 L st w = iv_lda L 0 fun x => iv_V call mc_1 rt 31 L (x :: st) w := iv_V_eq (I := (((138, 1), .aload_n 0, 0, 0, 0) : iv_I)) rfl
theorem e1_31 : iv_V call mc_1 rt 31 L st w = iv_ldi L 3 fun x => iv_V call mc_1 rt 32 L (.int x :: st) w := iv_V_eq (I := (((139, 1), .iload_n 3, 0, 0, 0) : iv_I)) rfl
theorem e1_32 : iv_V call mc_1 rt 32 L st w = iv_V call mc_1 rt 33 L (.int 1 :: st) w := (iv_V_eq (I := (((140, 1), .iconst 1, 0, 0, 0) : iv_I)) rfl).trans (congrArg (fun c => iv_V call mc_1 rt 33 L (.int c :: st) w) li_o1)
theorem e1_33 : iv_V call mc_1 rt 33 L st w = iv_p2 st fun x y st' => iv_V call mc_1 rt 34 L (.int (x + y) :: st') w := iv_V_eq (I := (((141, 1), .iadd, 0, 0, 0) : iv_I)) rfl
theorem e1_34 : iv_V call mc_1 rt 34 L st w = iv_ald w st iv_isI fun v st' => iv_V call mc_1 rt 35 L (v :: st') w := iv_V_eq (I := (((142, 1), .iaload, 0, 0, 0) : iv_I)) rfl
theorem e1_35 : iv_V call mc_1 rt 35 L st w = iv_inv call 26 2 (fun as => iv_rc w as (iv_mc 26)) st w fun st' w' => iv_V call mc_1 rt 36 L (st') w' := iv_V_eq (I := (((143, 3), .invokevirtual 17, 26, 2, 744) : iv_I)) rfl
theorem e1_36 : iv_V call mc_1 rt 36 L st w = iv_p2 st fun x y st' => if x = y then iv_V call mc_1 rt 626 L (st') w else iv_V call mc_1 rt 37 L (st') w := (iv_V_eq (I := (((146, 3), .if_icmp .eq 732, 626, 0, 0) : iv_I)) rfl).trans (by simp only [iv_go, iv_cnd, decide_eq_true_eq])
theorem e1_37 : iv_V call mc_1 rt 37 L st w = iv_V call mc_1 rt 38 L (.int 0 :: st) w := (iv_V_eq (I := (((149, 1), .iconst 0, 0, 0, 0) : iv_I)) rfl).trans (congrArg (fun c => iv_V call mc_1 rt 38 L (.int c :: st) w) li_o0)
theorem e1_38 : iv_V call mc_1 rt 38 L st w = iv_ret rt st w := iv_V_eq (I := (((150, 1), .ireturn, 0, 0, 0) : iv_I)) rfl
theorem e1_39 : iv_V call mc_1 rt 39 L st w = iv_lda L 1 fun x => iv_V call mc_1 rt 40 L (x :: st) w := iv_V_eq (I := (((151, 1), .aload_n 1, 0, 0, 0) : iv_I)) rfl
theorem e1_40 : iv_V call mc_1 rt 40 L st w = iv_lda L 0 fun x => iv_V call mc_1 rt 41 L (x :: st) w := iv_V_eq (I := (((152, 1), .aload_n 0, 0, 0, 0) : iv_I)) rfl
theorem e1_41 : iv_V call mc_1 rt 41 L st w = iv_ldi L 3 fun x => iv_V call mc_1 rt 42 L (.int x :: st) w := iv_V_eq (I := (((153, 1), .iload_n 3, 0, 0, 0) : iv_I)) rfl
theorem e1_42 : iv_V call mc_1 rt 42 L st w = iv_V call mc_1 rt 43 L (.int 1 :: st) w := (iv_V_eq (I := (((154, 1), .iconst 1, 0, 0, 0) : iv_I)) rfl).trans (congrArg (fun c => iv_V call mc_1 rt 43 L (.int c :: st) w) li_o1)
theorem e1_43 : iv_V call mc_1 rt 43 L st w = iv_p2 st fun x y st' => iv_V call mc_1 rt 44 L (.int (x + y) :: st') w := iv_V_eq (I := (((155, 1), .iadd, 0, 0, 0) : iv_I)) rfl
theorem e1_44 : iv_V call mc_1 rt 44 L st w = iv_ald w st iv_isI fun v st' => iv_V call mc_1 rt 45 L (v :: st') w := iv_V_eq (I := (((156, 1), .iaload, 0, 0, 0) : iv_I)) rfl
theorem e1_45 : iv_V call mc_1 rt 45 L st w = iv_lda L 0 fun x => iv_V call mc_1 rt 46 L (x :: st) w := iv_V_eq (I := (((157, 1), .aload_n 0, 0, 0, 0) : iv_I)) rfl
theorem e1_46 : iv_V call mc_1 rt 46 L st w = iv_ldi L 3 fun x => iv_V call mc_1 rt 47 L (.int x :: st) w := iv_V_eq (I := (((158, 1), .iload_n 3, 0, 0, 0) : iv_I)) rfl
theorem e1_47 : iv_V call mc_1 rt 47 L st w = iv_V call mc_1 rt 48 L (.int 2 :: st) w := (iv_V_eq (I := (((159, 1), .iconst 2, 0, 0, 0) : iv_I)) rfl).trans (congrArg (fun c => iv_V call mc_1 rt 48 L (.int c :: st) w) li_o2)
theorem e1_48 : iv_V call mc_1 rt 48 L st w = iv_p2 st fun x y st' => iv_V call mc_1 rt 49 L (.int (x + y) :: st') w := iv_V_eq (I := (((160, 1), .iadd, 0, 0, 0) : iv_I)) rfl
theorem e1_49 : iv_V call mc_1 rt 49 L st w = iv_ald w st iv_isI fun v st' => iv_V call mc_1 rt 50 L (v :: st') w := iv_V_eq (I := (((161, 1), .iaload, 0, 0, 0) : iv_I)) rfl
theorem e1_50 : iv_V call mc_1 rt 50 L st w = iv_inv call 4 3 (fun as => iv_rc w as (iv_mc 4)) st w fun st' w' => iv_V call mc_1 rt 51 L (st') w' := iv_V_eq (I := (((162, 3), .invokevirtual 18, 4, 3, 307) : iv_I)) rfl
theorem e1_51 : iv_V call mc_1 rt 51 L st w = iv_lda L 2 fun x => iv_V call mc_1 rt 52 L (x :: st) w := iv_V_eq (I := (((165, 1), .aload_n 2, 0, 0, 0) : iv_I)) rfl
theorem e1_52 : iv_V call mc_1 rt 52 L st w = iv_lda L 0 fun x => iv_V call mc_1 rt 53 L (x :: st) w := iv_V_eq (I := (((166, 1), .aload_n 0, 0, 0, 0) : iv_I)) rfl
theorem e1_53 : iv_V call mc_1 rt 53 L st w = iv_ldi L 3 fun x => iv_V call mc_1 rt 54 L (.int x :: st) w := iv_V_eq (I := (((167, 1), .iload_n 3, 0, 0, 0) : iv_I)) rfl
theorem e1_54 : iv_V call mc_1 rt 54 L st w = iv_V call mc_1 rt 55 L (.int 1 :: st) w := (iv_V_eq (I := (((168, 1), .iconst 1, 0, 0, 0) : iv_I)) rfl).trans (congrArg (fun c => iv_V call mc_1 rt 55 L (.int c :: st) w) li_o1)
theorem e1_55 : iv_V call mc_1 rt 55 L st w = iv_p2 st fun x y st' => iv_V call mc_1 rt 56 L (.int (x + y) :: st') w := iv_V_eq (I := (((169, 1), .iadd, 0, 0, 0) : iv_I)) rfl
theorem e1_56 : iv_V call mc_1 rt 56 L st w = iv_ald w st iv_isI fun v st' => iv_V call mc_1 rt 57 L (v :: st') w := iv_V_eq (I := (((170, 1), .iaload, 0, 0, 0) : iv_I)) rfl
theorem e1_57 : iv_V call mc_1 rt 57 L st w = iv_lda L 0 fun x => iv_V call mc_1 rt 58 L (x :: st) w := iv_V_eq (I := (((171, 1), .aload_n 0, 0, 0, 0) : iv_I)) rfl
theorem e1_58 : iv_V call mc_1 rt 58 L st w = iv_ldi L 3 fun x => iv_V call mc_1 rt 59 L (.int x :: st) w := iv_V_eq (I := (((172, 1), .iload_n 3, 0, 0, 0) : iv_I)) rfl
theorem e1_59 : iv_V call mc_1 rt 59 L st w = iv_V call mc_1 rt 60 L (.int 2 :: st) w := (iv_V_eq (I := (((173, 1), .iconst 2, 0, 0, 0) : iv_I)) rfl).trans (congrArg (fun c => iv_V call mc_1 rt 60 L (.int c :: st) w) li_o2)
theorem e1_60 : iv_V call mc_1 rt 60 L st w = iv_p2 st fun x y st' => iv_V call mc_1 rt 61 L (.int (x + y) :: st') w := iv_V_eq (I := (((174, 1), .iadd, 0, 0, 0) : iv_I)) rfl
theorem e1_61 : iv_V call mc_1 rt 61 L st w = iv_ald w st iv_isI fun v st' => iv_V call mc_1 rt 62 L (v :: st') w := iv_V_eq (I := (((175, 1), .iaload, 0, 0, 0) : iv_I)) rfl
theorem e1_62 : iv_V call mc_1 rt 62 L st w = iv_inv call 27 3 (fun as => iv_rc w as (iv_mc 27)) st w fun st' w' => iv_V call mc_1 rt 63 L (st') w' := iv_V_eq (I := (((176, 3), .invokevirtual 22, 27, 3, 751) : iv_I)) rfl
theorem e1_63 : iv_V call mc_1 rt 63 L st w = iv_p2 st fun x y st' => if x = y then iv_V call mc_1 rt 626 L (st') w else iv_V call mc_1 rt 64 L (st') w := (iv_V_eq (I := (((179, 3), .if_icmp .eq 699, 626, 0, 0) : iv_I)) rfl).trans (by simp only [iv_go, iv_cnd, decide_eq_true_eq])
theorem e1_64 : iv_V call mc_1 rt 64 L st w = iv_V call mc_1 rt 65 L (.int 0 :: st) w := (iv_V_eq (I := (((182, 1), .iconst 0, 0, 0, 0) : iv_I)) rfl).trans (congrArg (fun c => iv_V call mc_1 rt 65 L (.int c :: st) w) li_o0)
theorem e1_65 : iv_V call mc_1 rt 65 L st w = iv_ret rt st w := iv_V_eq (I := (((183, 1), .ireturn, 0, 0, 0) : iv_I)) rfl
theorem e1_66 : iv_V call mc_1 rt 66 L st w = iv_lda L 1 fun x => iv_V call mc_1 rt 67 L (x :: st) w := iv_V_eq (I := (((184, 1), .aload_n 1, 0, 0, 0) : iv_I)) rfl
theorem e1_67 : iv_V call mc_1 rt 67 L st w = iv_lda L 0 fun x => iv_V call mc_1 rt 68 L (x :: st) w := iv_V_eq (I := (((185, 1), .aload_n 0, 0, 0, 0) : iv_I)) rfl
theorem e1_68 : iv_V call mc_1 rt 68 L st w = iv_ldi L 3 fun x => iv_V call mc_1 rt 69 L (.int x :: st) w := iv_V_eq (I := (((186, 1), .iload_n 3, 0, 0, 0) : iv_I)) rfl
theorem e1_69 : iv_V call mc_1 rt 69 L st w = iv_V call mc_1 rt 70 L (.int 1 :: st) w := (iv_V_eq (I := (((187, 1), .iconst 1, 0, 0, 0) : iv_I)) rfl).trans (congrArg (fun c => iv_V call mc_1 rt 70 L (.int c :: st) w) li_o1)
theorem e1_70 : iv_V call mc_1 rt 70 L st w = iv_p2 st fun x y st' => iv_V call mc_1 rt 71 L (.int (x + y) :: st') w := iv_V_eq (I := (((188, 1), .iadd, 0, 0, 0) : iv_I)) rfl
theorem e1_71 : iv_V call mc_1 rt 71 L st w = iv_ald w st iv_isI fun v st' => iv_V call mc_1 rt 72 L (v :: st') w := iv_V_eq (I := (((189, 1), .iaload, 0, 0, 0) : iv_I)) rfl
theorem e1_72 : iv_V call mc_1 rt 72 L st w = iv_lda L 0 fun x => iv_V call mc_1 rt 73 L (x :: st) w := iv_V_eq (I := (((190, 1), .aload_n 0, 0, 0, 0) : iv_I)) rfl
theorem e1_73 : iv_V call mc_1 rt 73 L st w = iv_ldi L 3 fun x => iv_V call mc_1 rt 74 L (.int x :: st) w := iv_V_eq (I := (((191, 1), .iload_n 3, 0, 0, 0) : iv_I)) rfl
theorem e1_74 : iv_V call mc_1 rt 74 L st w = iv_V call mc_1 rt 75 L (.int 2 :: st) w := (iv_V_eq (I := (((192, 1), .iconst 2, 0, 0, 0) : iv_I)) rfl).trans (congrArg (fun c => iv_V call mc_1 rt 75 L (.int c :: st) w) li_o2)
theorem e1_75 : iv_V call mc_1 rt 75 L st w = iv_p2 st fun x y st' => iv_V call mc_1 rt 76 L (.int (x + y) :: st') w := iv_V_eq (I := (((193, 1), .iadd, 0, 0, 0) : iv_I)) rfl
theorem e1_76 : iv_V call mc_1 rt 76 L st w = iv_ald w st iv_isI fun v st' => iv_V call mc_1 rt 77 L (v :: st') w := iv_V_eq (I := (((194, 1), .iaload, 0, 0, 0) : iv_I)) rfl
theorem e1_77 : iv_V call mc_1 rt 77 L st w = iv_p1 st fun x st' => if x = 0 then iv_V call mc_1 rt 80 L (st') w else iv_V call mc_1 rt 78 L (st') w := (iv_V_eq (I := (((195, 3), .ifCond .eq 7, 80, 0, 0) : iv_I)) rfl).trans (by simp only [iv_go, iv_cnd, decide_eq_true_eq])
theorem e1_78 : iv_V call mc_1 rt 78 L st w = iv_V call mc_1 rt 79 L (.int 1 :: st) w := (iv_V_eq (I := (((198, 1), .iconst 1, 0, 0, 0) : iv_I)) rfl).trans (congrArg (fun c => iv_V call mc_1 rt 79 L (.int c :: st) w) li_o1)
theorem e1_79 : iv_V call mc_1 rt 79 L st w = iv_V call mc_1 rt 81 L (st) w := iv_V_eq (I := (((199, 3), .goto 4, 81, 0, 0) : iv_I)) rfl
theorem e1_80 : iv_V call mc_1 rt 80 L st w = iv_V call mc_1 rt 81 L (.int 0 :: st) w := (iv_V_eq (I := (((202, 1), .iconst 0, 0, 0, 0) : iv_I)) rfl).trans (congrArg (fun c => iv_V call mc_1 rt 81 L (.int c :: st) w) li_o0)
theorem e1_81 : iv_V call mc_1 rt 81 L st w = iv_lda L 0 fun x => iv_V call mc_1 rt 82 L (x :: st) w := iv_V_eq (I := (((203, 1), .aload_n 0, 0, 0, 0) : iv_I)) rfl
theorem e1_82 : iv_V call mc_1 rt 82 L st w = iv_ldi L 3 fun x => iv_V call mc_1 rt 83 L (.int x :: st) w := iv_V_eq (I := (((204, 1), .iload_n 3, 0, 0, 0) : iv_I)) rfl
theorem e1_83 : iv_V call mc_1 rt 83 L st w = iv_V call mc_1 rt 84 L (.int 3 :: st) w := (iv_V_eq (I := (((205, 1), .iconst 3, 0, 0, 0) : iv_I)) rfl).trans (congrArg (fun c => iv_V call mc_1 rt 84 L (.int c :: st) w) li_o3)
theorem e1_84 : iv_V call mc_1 rt 84 L st w = iv_p2 st fun x y st' => iv_V call mc_1 rt 85 L (.int (x + y) :: st') w := iv_V_eq (I := (((206, 1), .iadd, 0, 0, 0) : iv_I)) rfl
theorem e1_85 : iv_V call mc_1 rt 85 L st w = iv_ald w st iv_isI fun v st' => iv_V call mc_1 rt 86 L (v :: st') w := iv_V_eq (I := (((207, 1), .iaload, 0, 0, 0) : iv_I)) rfl
theorem e1_86 : iv_V call mc_1 rt 86 L st w = iv_lda L 0 fun x => iv_V call mc_1 rt 87 L (x :: st) w := iv_V_eq (I := (((208, 1), .aload_n 0, 0, 0, 0) : iv_I)) rfl
theorem e1_87 : iv_V call mc_1 rt 87 L st w = iv_ldi L 3 fun x => iv_V call mc_1 rt 88 L (.int x :: st) w := iv_V_eq (I := (((209, 1), .iload_n 3, 0, 0, 0) : iv_I)) rfl
theorem e1_88 : iv_V call mc_1 rt 88 L st w = iv_V call mc_1 rt 89 L (.int 4 :: st) w := (iv_V_eq (I := (((210, 1), .iconst 4, 0, 0, 0) : iv_I)) rfl).trans (congrArg (fun c => iv_V call mc_1 rt 89 L (.int c :: st) w) li_o4)
theorem e1_89 : iv_V call mc_1 rt 89 L st w = iv_p2 st fun x y st' => iv_V call mc_1 rt 90 L (.int (x + y) :: st') w := iv_V_eq (I := (((211, 1), .iadd, 0, 0, 0) : iv_I)) rfl
theorem e1_90 : iv_V call mc_1 rt 90 L st w = iv_ald w st iv_isI fun v st' => iv_V call mc_1 rt 91 L (v :: st') w := iv_V_eq (I := (((212, 1), .iaload, 0, 0, 0) : iv_I)) rfl
theorem e1_91 : iv_V call mc_1 rt 91 L st w = iv_lda L 0 fun x => iv_V call mc_1 rt 92 L (x :: st) w := iv_V_eq (I := (((213, 1), .aload_n 0, 0, 0, 0) : iv_I)) rfl
theorem e1_92 : iv_V call mc_1 rt 92 L st w = iv_ldi L 3 fun x => iv_V call mc_1 rt 93 L (.int x :: st) w := iv_V_eq (I := (((214, 1), .iload_n 3, 0, 0, 0) : iv_I)) rfl
theorem e1_93 : iv_V call mc_1 rt 93 L st w = iv_V call mc_1 rt 94 L (.int 5 :: st) w := (iv_V_eq (I := (((215, 1), .iconst 5, 0, 0, 0) : iv_I)) rfl).trans (congrArg (fun c => iv_V call mc_1 rt 94 L (.int c :: st) w) li_o5)
theorem e1_94 : iv_V call mc_1 rt 94 L st w = iv_p2 st fun x y st' => iv_V call mc_1 rt 95 L (.int (x + y) :: st') w := iv_V_eq (I := (((216, 1), .iadd, 0, 0, 0) : iv_I)) rfl
theorem e1_95 : iv_V call mc_1 rt 95 L st w = iv_ald w st iv_isI fun v st' => iv_V call mc_1 rt 96 L (v :: st') w := iv_V_eq (I := (((217, 1), .iaload, 0, 0, 0) : iv_I)) rfl
theorem e1_96 : iv_V call mc_1 rt 96 L st w = iv_lda L 0 fun x => iv_V call mc_1 rt 97 L (x :: st) w := iv_V_eq (I := (((218, 1), .aload_n 0, 0, 0, 0) : iv_I)) rfl
theorem e1_97 : iv_V call mc_1 rt 97 L st w = iv_ldi L 3 fun x => iv_V call mc_1 rt 98 L (.int x :: st) w := iv_V_eq (I := (((219, 1), .iload_n 3, 0, 0, 0) : iv_I)) rfl
theorem e1_98 : iv_V call mc_1 rt 98 L st w = iv_V call mc_1 rt 99 L (.int 6 :: st) w := (iv_V_eq (I := (((220, 2), .bipush 6, 0, 0, 0) : iv_I)) rfl).trans (congrArg (fun c => iv_V call mc_1 rt 99 L (.int c :: st) w) li_b6)
theorem e1_99 : iv_V call mc_1 rt 99 L st w = iv_p2 st fun x y st' => iv_V call mc_1 rt 100 L (.int (x + y) :: st') w := iv_V_eq (I := (((222, 1), .iadd, 0, 0, 0) : iv_I)) rfl
theorem e1_100 : iv_V call mc_1 rt 100 L st w = iv_ald w st iv_isI fun v st' => iv_V call mc_1 rt 101 L (v :: st') w := iv_V_eq (I := (((223, 1), .iaload, 0, 0, 0) : iv_I)) rfl
theorem e1_101 : iv_V call mc_1 rt 101 L st w = iv_inv call 5 7 (fun as => iv_rc w as (iv_mc 5)) st w fun st' w' => iv_V call mc_1 rt 102 L (st') w' := iv_V_eq (I := (((224, 3), .invokevirtual 23, 5, 7, 319) : iv_I)) rfl
theorem e1_102 : iv_V call mc_1 rt 102 L st w = iv_lda L 2 fun x => iv_V call mc_1 rt 103 L (x :: st) w := iv_V_eq (I := (((227, 1), .aload_n 2, 0, 0, 0) : iv_I)) rfl
theorem e1_103 : iv_V call mc_1 rt 103 L st w = iv_lda L 0 fun x => iv_V call mc_1 rt 104 L (x :: st) w := iv_V_eq (I := (((228, 1), .aload_n 0, 0, 0, 0) : iv_I)) rfl
theorem e1_104 : iv_V call mc_1 rt 104 L st w = iv_ldi L 3 fun x => iv_V call mc_1 rt 105 L (.int x :: st) w := iv_V_eq (I := (((229, 1), .iload_n 3, 0, 0, 0) : iv_I)) rfl
theorem e1_105 : iv_V call mc_1 rt 105 L st w = iv_V call mc_1 rt 106 L (.int 1 :: st) w := (iv_V_eq (I := (((230, 1), .iconst 1, 0, 0, 0) : iv_I)) rfl).trans (congrArg (fun c => iv_V call mc_1 rt 106 L (.int c :: st) w) li_o1)
theorem e1_106 : iv_V call mc_1 rt 106 L st w = iv_p2 st fun x y st' => iv_V call mc_1 rt 107 L (.int (x + y) :: st') w := iv_V_eq (I := (((231, 1), .iadd, 0, 0, 0) : iv_I)) rfl
theorem e1_107 : iv_V call mc_1 rt 107 L st w = iv_ald w st iv_isI fun v st' => iv_V call mc_1 rt 108 L (v :: st') w := iv_V_eq (I := (((232, 1), .iaload, 0, 0, 0) : iv_I)) rfl
theorem e1_108 : iv_V call mc_1 rt 108 L st w = iv_lda L 0 fun x => iv_V call mc_1 rt 109 L (x :: st) w := iv_V_eq (I := (((233, 1), .aload_n 0, 0, 0, 0) : iv_I)) rfl
theorem e1_109 : iv_V call mc_1 rt 109 L st w = iv_ldi L 3 fun x => iv_V call mc_1 rt 110 L (.int x :: st) w := iv_V_eq (I := (((234, 1), .iload_n 3, 0, 0, 0) : iv_I)) rfl
theorem e1_110 : iv_V call mc_1 rt 110 L st w = iv_V call mc_1 rt 111 L (.int 2 :: st) w := (iv_V_eq (I := (((235, 1), .iconst 2, 0, 0, 0) : iv_I)) rfl).trans (congrArg (fun c => iv_V call mc_1 rt 111 L (.int c :: st) w) li_o2)
theorem e1_111 : iv_V call mc_1 rt 111 L st w = iv_p2 st fun x y st' => iv_V call mc_1 rt 112 L (.int (x + y) :: st') w := iv_V_eq (I := (((236, 1), .iadd, 0, 0, 0) : iv_I)) rfl
theorem e1_112 : iv_V call mc_1 rt 112 L st w = iv_ald w st iv_isI fun v st' => iv_V call mc_1 rt 113 L (v :: st') w := iv_V_eq (I := (((237, 1), .iaload, 0, 0, 0) : iv_I)) rfl
theorem e1_113 : iv_V call mc_1 rt 113 L st w = iv_p1 st fun x st' => if x = 0 then iv_V call mc_1 rt 116 L (st') w else iv_V call mc_1 rt 114 L (st') w := (iv_V_eq (I := (((238, 3), .ifCond .eq 7, 116, 0, 0) : iv_I)) rfl).trans (by simp only [iv_go, iv_cnd, decide_eq_true_eq])
theorem e1_114 : iv_V call mc_1 rt 114 L st w = iv_V call mc_1 rt 115 L (.int 1 :: st) w := (iv_V_eq (I := (((241, 1), .iconst 1, 0, 0, 0) : iv_I)) rfl).trans (congrArg (fun c => iv_V call mc_1 rt 115 L (.int c :: st) w) li_o1)
theorem e1_115 : iv_V call mc_1 rt 115 L st w = iv_V call mc_1 rt 117 L (st) w := iv_V_eq (I := (((242, 3), .goto 4, 117, 0, 0) : iv_I)) rfl
theorem e1_116 : iv_V call mc_1 rt 116 L st w = iv_V call mc_1 rt 117 L (.int 0 :: st) w := (iv_V_eq (I := (((245, 1), .iconst 0, 0, 0, 0) : iv_I)) rfl).trans (congrArg (fun c => iv_V call mc_1 rt 117 L (.int c :: st) w) li_o0)
theorem e1_117 : iv_V call mc_1 rt 117 L st w = iv_lda L 0 fun x => iv_V call mc_1 rt 118 L (x :: st) w := iv_V_eq (I := (((246, 1), .aload_n 0, 0, 0, 0) : iv_I)) rfl
theorem e1_118 : iv_V call mc_1 rt 118 L st w = iv_ldi L 3 fun x => iv_V call mc_1 rt 119 L (.int x :: st) w := iv_V_eq (I := (((247, 1), .iload_n 3, 0, 0, 0) : iv_I)) rfl
theorem e1_119 : iv_V call mc_1 rt 119 L st w = iv_V call mc_1 rt 120 L (.int 3 :: st) w := (iv_V_eq (I := (((248, 1), .iconst 3, 0, 0, 0) : iv_I)) rfl).trans (congrArg (fun c => iv_V call mc_1 rt 120 L (.int c :: st) w) li_o3)
theorem e1_120 : iv_V call mc_1 rt 120 L st w = iv_p2 st fun x y st' => iv_V call mc_1 rt 121 L (.int (x + y) :: st') w := iv_V_eq (I := (((249, 1), .iadd, 0, 0, 0) : iv_I)) rfl
theorem e1_121 : iv_V call mc_1 rt 121 L st w = iv_ald w st iv_isI fun v st' => iv_V call mc_1 rt 122 L (v :: st') w := iv_V_eq (I := (((250, 1), .iaload, 0, 0, 0) : iv_I)) rfl
theorem e1_122 : iv_V call mc_1 rt 122 L st w = iv_lda L 0 fun x => iv_V call mc_1 rt 123 L (x :: st) w := iv_V_eq (I := (((251, 1), .aload_n 0, 0, 0, 0) : iv_I)) rfl
theorem e1_123 : iv_V call mc_1 rt 123 L st w = iv_ldi L 3 fun x => iv_V call mc_1 rt 124 L (.int x :: st) w := iv_V_eq (I := (((252, 1), .iload_n 3, 0, 0, 0) : iv_I)) rfl
theorem e1_124 : iv_V call mc_1 rt 124 L st w = iv_V call mc_1 rt 125 L (.int 4 :: st) w := (iv_V_eq (I := (((253, 1), .iconst 4, 0, 0, 0) : iv_I)) rfl).trans (congrArg (fun c => iv_V call mc_1 rt 125 L (.int c :: st) w) li_o4)
theorem e1_125 : iv_V call mc_1 rt 125 L st w = iv_p2 st fun x y st' => iv_V call mc_1 rt 126 L (.int (x + y) :: st') w := iv_V_eq (I := (((254, 1), .iadd, 0, 0, 0) : iv_I)) rfl
theorem e1_126 : iv_V call mc_1 rt 126 L st w = iv_ald w st iv_isI fun v st' => iv_V call mc_1 rt 127 L (v :: st') w := iv_V_eq (I := (((255, 1), .iaload, 0, 0, 0) : iv_I)) rfl
theorem e1_127 : iv_V call mc_1 rt 127 L st w = iv_lda L 0 fun x => iv_V call mc_1 rt 128 L (x :: st) w := iv_V_eq (I := (((256, 1), .aload_n 0, 0, 0, 0) : iv_I)) rfl
theorem e1_128 : iv_V call mc_1 rt 128 L st w = iv_ldi L 3 fun x => iv_V call mc_1 rt 129 L (.int x :: st) w := iv_V_eq (I := (((257, 1), .iload_n 3, 0, 0, 0) : iv_I)) rfl
theorem e1_129 : iv_V call mc_1 rt 129 L st w = iv_V call mc_1 rt 130 L (.int 5 :: st) w := (iv_V_eq (I := (((258, 1), .iconst 5, 0, 0, 0) : iv_I)) rfl).trans (congrArg (fun c => iv_V call mc_1 rt 130 L (.int c :: st) w) li_o5)
theorem e1_130 : iv_V call mc_1 rt 130 L st w = iv_p2 st fun x y st' => iv_V call mc_1 rt 131 L (.int (x + y) :: st') w := iv_V_eq (I := (((259, 1), .iadd, 0, 0, 0) : iv_I)) rfl
theorem e1_131 : iv_V call mc_1 rt 131 L st w = iv_ald w st iv_isI fun v st' => iv_V call mc_1 rt 132 L (v :: st') w := iv_V_eq (I := (((260, 1), .iaload, 0, 0, 0) : iv_I)) rfl
theorem e1_132 : iv_V call mc_1 rt 132 L st w = iv_lda L 0 fun x => iv_V call mc_1 rt 133 L (x :: st) w := iv_V_eq (I := (((261, 1), .aload_n 0, 0, 0, 0) : iv_I)) rfl
theorem e1_133 : iv_V call mc_1 rt 133 L st w = iv_ldi L 3 fun x => iv_V call mc_1 rt 134 L (.int x :: st) w := iv_V_eq (I := (((262, 1), .iload_n 3, 0, 0, 0) : iv_I)) rfl
theorem e1_134 : iv_V call mc_1 rt 134 L st w = iv_V call mc_1 rt 135 L (.int 6 :: st) w := (iv_V_eq (I := (((263, 2), .bipush 6, 0, 0, 0) : iv_I)) rfl).trans (congrArg (fun c => iv_V call mc_1 rt 135 L (.int c :: st) w) li_b6)
theorem e1_135 : iv_V call mc_1 rt 135 L st w = iv_p2 st fun x y st' => iv_V call mc_1 rt 136 L (.int (x + y) :: st') w := iv_V_eq (I := (((265, 1), .iadd, 0, 0, 0) : iv_I)) rfl
theorem e1_136 : iv_V call mc_1 rt 136 L st w = iv_ald w st iv_isI fun v st' => iv_V call mc_1 rt 137 L (v :: st') w := iv_V_eq (I := (((266, 1), .iaload, 0, 0, 0) : iv_I)) rfl
theorem e1_137 : iv_V call mc_1 rt 137 L st w = iv_inv call 28 7 (fun as => iv_rc w as (iv_mc 28)) st w fun st' w' => iv_V call mc_1 rt 138 L (st') w' := iv_V_eq (I := (((267, 3), .invokevirtual 27, 28, 7, 755) : iv_I)) rfl
theorem e1_138 : iv_V call mc_1 rt 138 L st w = iv_p2 st fun x y st' => if x = y then iv_V call mc_1 rt 626 L (st') w else iv_V call mc_1 rt 139 L (st') w := (iv_V_eq (I := (((270, 3), .if_icmp .eq 608, 626, 0, 0) : iv_I)) rfl).trans (by simp only [iv_go, iv_cnd, decide_eq_true_eq])
theorem e1_139 : iv_V call mc_1 rt 139 L st w = iv_V call mc_1 rt 140 L (.int 0 :: st) w := (iv_V_eq (I := (((273, 1), .iconst 0, 0, 0, 0) : iv_I)) rfl).trans (congrArg (fun c => iv_V call mc_1 rt 140 L (.int c :: st) w) li_o0)
theorem e1_140 : iv_V call mc_1 rt 140 L st w = iv_ret rt st w := iv_V_eq (I := (((274, 1), .ireturn, 0, 0, 0) : iv_I)) rfl
theorem e1_141 : iv_V call mc_1 rt 141 L st w = iv_lda L 1 fun x => iv_V call mc_1 rt 142 L (x :: st) w := iv_V_eq (I := (((275, 1), .aload_n 1, 0, 0, 0) : iv_I)) rfl
theorem e1_142 : iv_V call mc_1 rt 142 L st w = iv_lda L 0 fun x => iv_V call mc_1 rt 143 L (x :: st) w := iv_V_eq (I := (((276, 1), .aload_n 0, 0, 0, 0) : iv_I)) rfl
theorem e1_143 : iv_V call mc_1 rt 143 L st w = iv_ldi L 3 fun x => iv_V call mc_1 rt 144 L (.int x :: st) w := iv_V_eq (I := (((277, 1), .iload_n 3, 0, 0, 0) : iv_I)) rfl
theorem e1_144 : iv_V call mc_1 rt 144 L st w = iv_V call mc_1 rt 145 L (.int 1 :: st) w := (iv_V_eq (I := (((278, 1), .iconst 1, 0, 0, 0) : iv_I)) rfl).trans (congrArg (fun c => iv_V call mc_1 rt 145 L (.int c :: st) w) li_o1)
theorem e1_145 : iv_V call mc_1 rt 145 L st w = iv_p2 st fun x y st' => iv_V call mc_1 rt 146 L (.int (x + y) :: st') w := iv_V_eq (I := (((279, 1), .iadd, 0, 0, 0) : iv_I)) rfl
theorem e1_146 : iv_V call mc_1 rt 146 L st w = iv_ald w st iv_isI fun v st' => iv_V call mc_1 rt 147 L (v :: st') w := iv_V_eq (I := (((280, 1), .iaload, 0, 0, 0) : iv_I)) rfl
theorem e1_147 : iv_V call mc_1 rt 147 L st w = iv_lda L 0 fun x => iv_V call mc_1 rt 148 L (x :: st) w := iv_V_eq (I := (((281, 1), .aload_n 0, 0, 0, 0) : iv_I)) rfl
theorem e1_148 : iv_V call mc_1 rt 148 L st w = iv_ldi L 3 fun x => iv_V call mc_1 rt 149 L (.int x :: st) w := iv_V_eq (I := (((282, 1), .iload_n 3, 0, 0, 0) : iv_I)) rfl
theorem e1_149 : iv_V call mc_1 rt 149 L st w = iv_V call mc_1 rt 150 L (.int 2 :: st) w := (iv_V_eq (I := (((283, 1), .iconst 2, 0, 0, 0) : iv_I)) rfl).trans (congrArg (fun c => iv_V call mc_1 rt 150 L (.int c :: st) w) li_o2)
theorem e1_150 : iv_V call mc_1 rt 150 L st w = iv_p2 st fun x y st' => iv_V call mc_1 rt 151 L (.int (x + y) :: st') w := iv_V_eq (I := (((284, 1), .iadd, 0, 0, 0) : iv_I)) rfl
theorem e1_151 : iv_V call mc_1 rt 151 L st w = iv_ald w st iv_isI fun v st' => iv_V call mc_1 rt 152 L (v :: st') w := iv_V_eq (I := (((285, 1), .iaload, 0, 0, 0) : iv_I)) rfl
theorem e1_152 : iv_V call mc_1 rt 152 L st w = iv_lda L 0 fun x => iv_V call mc_1 rt 153 L (x :: st) w := iv_V_eq (I := (((286, 1), .aload_n 0, 0, 0, 0) : iv_I)) rfl
theorem e1_153 : iv_V call mc_1 rt 153 L st w = iv_ldi L 3 fun x => iv_V call mc_1 rt 154 L (.int x :: st) w := iv_V_eq (I := (((287, 1), .iload_n 3, 0, 0, 0) : iv_I)) rfl
theorem e1_154 : iv_V call mc_1 rt 154 L st w = iv_V call mc_1 rt 155 L (.int 3 :: st) w := (iv_V_eq (I := (((288, 1), .iconst 3, 0, 0, 0) : iv_I)) rfl).trans (congrArg (fun c => iv_V call mc_1 rt 155 L (.int c :: st) w) li_o3)
theorem e1_155 : iv_V call mc_1 rt 155 L st w = iv_p2 st fun x y st' => iv_V call mc_1 rt 156 L (.int (x + y) :: st') w := iv_V_eq (I := (((289, 1), .iadd, 0, 0, 0) : iv_I)) rfl
theorem e1_156 : iv_V call mc_1 rt 156 L st w = iv_ald w st iv_isI fun v st' => iv_V call mc_1 rt 157 L (v :: st') w := iv_V_eq (I := (((290, 1), .iaload, 0, 0, 0) : iv_I)) rfl
theorem e1_157 : iv_V call mc_1 rt 157 L st w = iv_lda L 0 fun x => iv_V call mc_1 rt 158 L (x :: st) w := iv_V_eq (I := (((291, 1), .aload_n 0, 0, 0, 0) : iv_I)) rfl
theorem e1_158 : iv_V call mc_1 rt 158 L st w = iv_ldi L 3 fun x => iv_V call mc_1 rt 159 L (.int x :: st) w := iv_V_eq (I := (((292, 1), .iload_n 3, 0, 0, 0) : iv_I)) rfl
theorem e1_159 : iv_V call mc_1 rt 159 L st w = iv_V call mc_1 rt 160 L (.int 4 :: st) w := (iv_V_eq (I := (((293, 1), .iconst 4, 0, 0, 0) : iv_I)) rfl).trans (congrArg (fun c => iv_V call mc_1 rt 160 L (.int c :: st) w) li_o4)
theorem e1_160 : iv_V call mc_1 rt 160 L st w = iv_p2 st fun x y st' => iv_V call mc_1 rt 161 L (.int (x + y) :: st') w := iv_V_eq (I := (((294, 1), .iadd, 0, 0, 0) : iv_I)) rfl
theorem e1_161 : iv_V call mc_1 rt 161 L st w = iv_ald w st iv_isI fun v st' => iv_V call mc_1 rt 162 L (v :: st') w := iv_V_eq (I := (((295, 1), .iaload, 0, 0, 0) : iv_I)) rfl
theorem e1_162 : iv_V call mc_1 rt 162 L st w = iv_inv call 6 5 (fun as => iv_rc w as (iv_mc 6)) st w fun st' w' => iv_V call mc_1 rt 163 L (st') w' := iv_V_eq (I := (((296, 3), .invokevirtual 28, 6, 5, 380) : iv_I)) rfl
theorem e1_163 : iv_V call mc_1 rt 163 L st w = iv_lda L 2 fun x => iv_V call mc_1 rt 164 L (x :: st) w := iv_V_eq (I := (((299, 1), .aload_n 2, 0, 0, 0) : iv_I)) rfl
theorem e1_164 : iv_V call mc_1 rt 164 L st w = iv_lda L 0 fun x => iv_V call mc_1 rt 165 L (x :: st) w := iv_V_eq (I := (((300, 1), .aload_n 0, 0, 0, 0) : iv_I)) rfl
theorem e1_165 : iv_V call mc_1 rt 165 L st w = iv_ldi L 3 fun x => iv_V call mc_1 rt 166 L (.int x :: st) w := iv_V_eq (I := (((301, 1), .iload_n 3, 0, 0, 0) : iv_I)) rfl
theorem e1_166 : iv_V call mc_1 rt 166 L st w = iv_V call mc_1 rt 167 L (.int 1 :: st) w := (iv_V_eq (I := (((302, 1), .iconst 1, 0, 0, 0) : iv_I)) rfl).trans (congrArg (fun c => iv_V call mc_1 rt 167 L (.int c :: st) w) li_o1)
theorem e1_167 : iv_V call mc_1 rt 167 L st w = iv_p2 st fun x y st' => iv_V call mc_1 rt 168 L (.int (x + y) :: st') w := iv_V_eq (I := (((303, 1), .iadd, 0, 0, 0) : iv_I)) rfl
theorem e1_168 : iv_V call mc_1 rt 168 L st w = iv_ald w st iv_isI fun v st' => iv_V call mc_1 rt 169 L (v :: st') w := iv_V_eq (I := (((304, 1), .iaload, 0, 0, 0) : iv_I)) rfl
theorem e1_169 : iv_V call mc_1 rt 169 L st w = iv_lda L 0 fun x => iv_V call mc_1 rt 170 L (x :: st) w := iv_V_eq (I := (((305, 1), .aload_n 0, 0, 0, 0) : iv_I)) rfl
theorem e1_170 : iv_V call mc_1 rt 170 L st w = iv_ldi L 3 fun x => iv_V call mc_1 rt 171 L (.int x :: st) w := iv_V_eq (I := (((306, 1), .iload_n 3, 0, 0, 0) : iv_I)) rfl
theorem e1_171 : iv_V call mc_1 rt 171 L st w = iv_V call mc_1 rt 172 L (.int 2 :: st) w := (iv_V_eq (I := (((307, 1), .iconst 2, 0, 0, 0) : iv_I)) rfl).trans (congrArg (fun c => iv_V call mc_1 rt 172 L (.int c :: st) w) li_o2)
theorem e1_172 : iv_V call mc_1 rt 172 L st w = iv_p2 st fun x y st' => iv_V call mc_1 rt 173 L (.int (x + y) :: st') w := iv_V_eq (I := (((308, 1), .iadd, 0, 0, 0) : iv_I)) rfl
theorem e1_173 : iv_V call mc_1 rt 173 L st w = iv_ald w st iv_isI fun v st' => iv_V call mc_1 rt 174 L (v :: st') w := iv_V_eq (I := (((309, 1), .iaload, 0, 0, 0) : iv_I)) rfl
theorem e1_174 : iv_V call mc_1 rt 174 L st w = iv_lda L 0 fun x => iv_V call mc_1 rt 175 L (x :: st) w := iv_V_eq (I := (((310, 1), .aload_n 0, 0, 0, 0) : iv_I)) rfl
theorem e1_175 : iv_V call mc_1 rt 175 L st w = iv_ldi L 3 fun x => iv_V call mc_1 rt 176 L (.int x :: st) w := iv_V_eq (I := (((311, 1), .iload_n 3, 0, 0, 0) : iv_I)) rfl
theorem e1_176 : iv_V call mc_1 rt 176 L st w = iv_V call mc_1 rt 177 L (.int 3 :: st) w := (iv_V_eq (I := (((312, 1), .iconst 3, 0, 0, 0) : iv_I)) rfl).trans (congrArg (fun c => iv_V call mc_1 rt 177 L (.int c :: st) w) li_o3)
theorem e1_177 : iv_V call mc_1 rt 177 L st w = iv_p2 st fun x y st' => iv_V call mc_1 rt 178 L (.int (x + y) :: st') w := iv_V_eq (I := (((313, 1), .iadd, 0, 0, 0) : iv_I)) rfl
theorem e1_178 : iv_V call mc_1 rt 178 L st w = iv_ald w st iv_isI fun v st' => iv_V call mc_1 rt 179 L (v :: st') w := iv_V_eq (I := (((314, 1), .iaload, 0, 0, 0) : iv_I)) rfl
theorem e1_179 : iv_V call mc_1 rt 179 L st w = iv_lda L 0 fun x => iv_V call mc_1 rt 180 L (x :: st) w := iv_V_eq (I := (((315, 1), .aload_n 0, 0, 0, 0) : iv_I)) rfl
theorem e1_180 : iv_V call mc_1 rt 180 L st w = iv_ldi L 3 fun x => iv_V call mc_1 rt 181 L (.int x :: st) w := iv_V_eq (I := (((316, 1), .iload_n 3, 0, 0, 0) : iv_I)) rfl
theorem e1_181 : iv_V call mc_1 rt 181 L st w = iv_V call mc_1 rt 182 L (.int 4 :: st) w := (iv_V_eq (I := (((317, 1), .iconst 4, 0, 0, 0) : iv_I)) rfl).trans (congrArg (fun c => iv_V call mc_1 rt 182 L (.int c :: st) w) li_o4)
theorem e1_182 : iv_V call mc_1 rt 182 L st w = iv_p2 st fun x y st' => iv_V call mc_1 rt 183 L (.int (x + y) :: st') w := iv_V_eq (I := (((318, 1), .iadd, 0, 0, 0) : iv_I)) rfl
theorem e1_183 : iv_V call mc_1 rt 183 L st w = iv_ald w st iv_isI fun v st' => iv_V call mc_1 rt 184 L (v :: st') w := iv_V_eq (I := (((319, 1), .iaload, 0, 0, 0) : iv_I)) rfl
theorem e1_184 : iv_V call mc_1 rt 184 L st w = iv_inv call 29 5 (fun as => iv_rc w as (iv_mc 29)) st w fun st' w' => iv_V call mc_1 rt 185 L (st') w' := iv_V_eq (I := (((320, 3), .invokevirtual 32, 29, 5, 759) : iv_I)) rfl
theorem e1_185 : iv_V call mc_1 rt 185 L st w = iv_p2 st fun x y st' => if x = y then iv_V call mc_1 rt 626 L (st') w else iv_V call mc_1 rt 186 L (st') w := (iv_V_eq (I := (((323, 3), .if_icmp .eq 555, 626, 0, 0) : iv_I)) rfl).trans (by simp only [iv_go, iv_cnd, decide_eq_true_eq])
theorem e1_186 : iv_V call mc_1 rt 186 L st w = iv_V call mc_1 rt 187 L (.int 0 :: st) w := (iv_V_eq (I := (((326, 1), .iconst 0, 0, 0, 0) : iv_I)) rfl).trans (congrArg (fun c => iv_V call mc_1 rt 187 L (.int c :: st) w) li_o0)
theorem e1_187 : iv_V call mc_1 rt 187 L st w = iv_ret rt st w := iv_V_eq (I := (((327, 1), .ireturn, 0, 0, 0) : iv_I)) rfl
theorem e1_188 : iv_V call mc_1 rt 188 L st w = iv_lda L 1 fun x => iv_V call mc_1 rt 189 L (x :: st) w := iv_V_eq (I := (((328, 1), .aload_n 1, 0, 0, 0) : iv_I)) rfl
theorem e1_189 : iv_V call mc_1 rt 189 L st w = iv_lda L 0 fun x => iv_V call mc_1 rt 190 L (x :: st) w := iv_V_eq (I := (((329, 1), .aload_n 0, 0, 0, 0) : iv_I)) rfl
theorem e1_190 : iv_V call mc_1 rt 190 L st w = iv_ldi L 3 fun x => iv_V call mc_1 rt 191 L (.int x :: st) w := iv_V_eq (I := (((330, 1), .iload_n 3, 0, 0, 0) : iv_I)) rfl
theorem e1_191 : iv_V call mc_1 rt 191 L st w = iv_V call mc_1 rt 192 L (.int 1 :: st) w := (iv_V_eq (I := (((331, 1), .iconst 1, 0, 0, 0) : iv_I)) rfl).trans (congrArg (fun c => iv_V call mc_1 rt 192 L (.int c :: st) w) li_o1)
theorem e1_192 : iv_V call mc_1 rt 192 L st w = iv_p2 st fun x y st' => iv_V call mc_1 rt 193 L (.int (x + y) :: st') w := iv_V_eq (I := (((332, 1), .iadd, 0, 0, 0) : iv_I)) rfl
theorem e1_193 : iv_V call mc_1 rt 193 L st w = iv_ald w st iv_isI fun v st' => iv_V call mc_1 rt 194 L (v :: st') w := iv_V_eq (I := (((333, 1), .iaload, 0, 0, 0) : iv_I)) rfl
theorem e1_194 : iv_V call mc_1 rt 194 L st w = iv_lda L 0 fun x => iv_V call mc_1 rt 195 L (x :: st) w := iv_V_eq (I := (((334, 1), .aload_n 0, 0, 0, 0) : iv_I)) rfl
theorem e1_195 : iv_V call mc_1 rt 195 L st w = iv_ldi L 3 fun x => iv_V call mc_1 rt 196 L (.int x :: st) w := iv_V_eq (I := (((335, 1), .iload_n 3, 0, 0, 0) : iv_I)) rfl
theorem e1_196 : iv_V call mc_1 rt 196 L st w = iv_V call mc_1 rt 197 L (.int 2 :: st) w := (iv_V_eq (I := (((336, 1), .iconst 2, 0, 0, 0) : iv_I)) rfl).trans (congrArg (fun c => iv_V call mc_1 rt 197 L (.int c :: st) w) li_o2)
theorem e1_197 : iv_V call mc_1 rt 197 L st w = iv_p2 st fun x y st' => iv_V call mc_1 rt 198 L (.int (x + y) :: st') w := iv_V_eq (I := (((337, 1), .iadd, 0, 0, 0) : iv_I)) rfl
theorem e1_198 : iv_V call mc_1 rt 198 L st w = iv_ald w st iv_isI fun v st' => iv_V call mc_1 rt 199 L (v :: st') w := iv_V_eq (I := (((338, 1), .iaload, 0, 0, 0) : iv_I)) rfl
theorem e1_199 : iv_V call mc_1 rt 199 L st w = iv_p1 st fun x st' => if x = 0 then iv_V call mc_1 rt 202 L (st') w else iv_V call mc_1 rt 200 L (st') w := (iv_V_eq (I := (((339, 3), .ifCond .eq 7, 202, 0, 0) : iv_I)) rfl).trans (by simp only [iv_go, iv_cnd, decide_eq_true_eq])
theorem e1_200 : iv_V call mc_1 rt 200 L st w = iv_V call mc_1 rt 201 L (.int 1 :: st) w := (iv_V_eq (I := (((342, 1), .iconst 1, 0, 0, 0) : iv_I)) rfl).trans (congrArg (fun c => iv_V call mc_1 rt 201 L (.int c :: st) w) li_o1)
theorem e1_201 : iv_V call mc_1 rt 201 L st w = iv_V call mc_1 rt 203 L (st) w := iv_V_eq (I := (((343, 3), .goto 4, 203, 0, 0) : iv_I)) rfl
theorem e1_202 : iv_V call mc_1 rt 202 L st w = iv_V call mc_1 rt 203 L (.int 0 :: st) w := (iv_V_eq (I := (((346, 1), .iconst 0, 0, 0, 0) : iv_I)) rfl).trans (congrArg (fun c => iv_V call mc_1 rt 203 L (.int c :: st) w) li_o0)
theorem e1_203 : iv_V call mc_1 rt 203 L st w = iv_inv call 7 3 (fun as => iv_rc w as (iv_mc 7)) st w fun st' w' => iv_V call mc_1 rt 204 L (st') w' := iv_V_eq (I := (((347, 3), .invokevirtual 33, 7, 3, 385) : iv_I)) rfl
theorem e1_204 : iv_V call mc_1 rt 204 L st w = iv_lda L 2 fun x => iv_V call mc_1 rt 205 L (x :: st) w := iv_V_eq (I := (((350, 1), .aload_n 2, 0, 0, 0) : iv_I)) rfl
theorem e1_205 : iv_V call mc_1 rt 205 L st w = iv_lda L 0 fun x => iv_V call mc_1 rt 206 L (x :: st) w := iv_V_eq (I := (((351, 1), .aload_n 0, 0, 0, 0) : iv_I)) rfl
theorem e1_206 : iv_V call mc_1 rt 206 L st w = iv_ldi L 3 fun x => iv_V call mc_1 rt 207 L (.int x :: st) w := iv_V_eq (I := (((352, 1), .iload_n 3, 0, 0, 0) : iv_I)) rfl
theorem e1_207 : iv_V call mc_1 rt 207 L st w = iv_V call mc_1 rt 208 L (.int 1 :: st) w := (iv_V_eq (I := (((353, 1), .iconst 1, 0, 0, 0) : iv_I)) rfl).trans (congrArg (fun c => iv_V call mc_1 rt 208 L (.int c :: st) w) li_o1)
theorem e1_208 : iv_V call mc_1 rt 208 L st w = iv_p2 st fun x y st' => iv_V call mc_1 rt 209 L (.int (x + y) :: st') w := iv_V_eq (I := (((354, 1), .iadd, 0, 0, 0) : iv_I)) rfl
theorem e1_209 : iv_V call mc_1 rt 209 L st w = iv_ald w st iv_isI fun v st' => iv_V call mc_1 rt 210 L (v :: st') w := iv_V_eq (I := (((355, 1), .iaload, 0, 0, 0) : iv_I)) rfl
theorem e1_210 : iv_V call mc_1 rt 210 L st w = iv_lda L 0 fun x => iv_V call mc_1 rt 211 L (x :: st) w := iv_V_eq (I := (((356, 1), .aload_n 0, 0, 0, 0) : iv_I)) rfl
theorem e1_211 : iv_V call mc_1 rt 211 L st w = iv_ldi L 3 fun x => iv_V call mc_1 rt 212 L (.int x :: st) w := iv_V_eq (I := (((357, 1), .iload_n 3, 0, 0, 0) : iv_I)) rfl
theorem e1_212 : iv_V call mc_1 rt 212 L st w = iv_V call mc_1 rt 213 L (.int 2 :: st) w := (iv_V_eq (I := (((358, 1), .iconst 2, 0, 0, 0) : iv_I)) rfl).trans (congrArg (fun c => iv_V call mc_1 rt 213 L (.int c :: st) w) li_o2)
theorem e1_213 : iv_V call mc_1 rt 213 L st w = iv_p2 st fun x y st' => iv_V call mc_1 rt 214 L (.int (x + y) :: st') w := iv_V_eq (I := (((359, 1), .iadd, 0, 0, 0) : iv_I)) rfl
theorem e1_214 : iv_V call mc_1 rt 214 L st w = iv_ald w st iv_isI fun v st' => iv_V call mc_1 rt 215 L (v :: st') w := iv_V_eq (I := (((360, 1), .iaload, 0, 0, 0) : iv_I)) rfl
theorem e1_215 : iv_V call mc_1 rt 215 L st w = iv_p1 st fun x st' => if x = 0 then iv_V call mc_1 rt 218 L (st') w else iv_V call mc_1 rt 216 L (st') w := (iv_V_eq (I := (((361, 3), .ifCond .eq 7, 218, 0, 0) : iv_I)) rfl).trans (by simp only [iv_go, iv_cnd, decide_eq_true_eq])
theorem e1_216 : iv_V call mc_1 rt 216 L st w = iv_V call mc_1 rt 217 L (.int 1 :: st) w := (iv_V_eq (I := (((364, 1), .iconst 1, 0, 0, 0) : iv_I)) rfl).trans (congrArg (fun c => iv_V call mc_1 rt 217 L (.int c :: st) w) li_o1)
theorem e1_217 : iv_V call mc_1 rt 217 L st w = iv_V call mc_1 rt 219 L (st) w := iv_V_eq (I := (((365, 3), .goto 4, 219, 0, 0) : iv_I)) rfl
theorem e1_218 : iv_V call mc_1 rt 218 L st w = iv_V call mc_1 rt 219 L (.int 0 :: st) w := (iv_V_eq (I := (((368, 1), .iconst 0, 0, 0, 0) : iv_I)) rfl).trans (congrArg (fun c => iv_V call mc_1 rt 219 L (.int c :: st) w) li_o0)
theorem e1_219 : iv_V call mc_1 rt 219 L st w = iv_inv call 30 3 (fun as => iv_rc w as (iv_mc 30)) st w fun st' w' => iv_V call mc_1 rt 220 L (st') w' := iv_V_eq (I := (((369, 3), .invokevirtual 37, 30, 3, 763) : iv_I)) rfl
theorem e1_220 : iv_V call mc_1 rt 220 L st w = iv_p2 st fun x y st' => if x = y then iv_V call mc_1 rt 626 L (st') w else iv_V call mc_1 rt 221 L (st') w := (iv_V_eq (I := (((372, 3), .if_icmp .eq 506, 626, 0, 0) : iv_I)) rfl).trans (by simp only [iv_go, iv_cnd, decide_eq_true_eq])
theorem e1_221 : iv_V call mc_1 rt 221 L st w = iv_V call mc_1 rt 222 L (.int 0 :: st) w := (iv_V_eq (I := (((375, 1), .iconst 0, 0, 0, 0) : iv_I)) rfl).trans (congrArg (fun c => iv_V call mc_1 rt 222 L (.int c :: st) w) li_o0)
theorem e1_222 : iv_V call mc_1 rt 222 L st w = iv_ret rt st w := iv_V_eq (I := (((376, 1), .ireturn, 0, 0, 0) : iv_I)) rfl
theorem e1_223 : iv_V call mc_1 rt 223 L st w = iv_lda L 1 fun x => iv_V call mc_1 rt 224 L (x :: st) w := iv_V_eq (I := (((377, 1), .aload_n 1, 0, 0, 0) : iv_I)) rfl
theorem e1_224 : iv_V call mc_1 rt 224 L st w = iv_lda L 0 fun x => iv_V call mc_1 rt 225 L (x :: st) w := iv_V_eq (I := (((378, 1), .aload_n 0, 0, 0, 0) : iv_I)) rfl
theorem e1_225 : iv_V call mc_1 rt 225 L st w = iv_ldi L 3 fun x => iv_V call mc_1 rt 226 L (.int x :: st) w := iv_V_eq (I := (((379, 1), .iload_n 3, 0, 0, 0) : iv_I)) rfl
theorem e1_226 : iv_V call mc_1 rt 226 L st w = iv_V call mc_1 rt 227 L (.int 1 :: st) w := (iv_V_eq (I := (((380, 1), .iconst 1, 0, 0, 0) : iv_I)) rfl).trans (congrArg (fun c => iv_V call mc_1 rt 227 L (.int c :: st) w) li_o1)
theorem e1_227 : iv_V call mc_1 rt 227 L st w = iv_p2 st fun x y st' => iv_V call mc_1 rt 228 L (.int (x + y) :: st') w := iv_V_eq (I := (((381, 1), .iadd, 0, 0, 0) : iv_I)) rfl
theorem e1_228 : iv_V call mc_1 rt 228 L st w = iv_ald w st iv_isI fun v st' => iv_V call mc_1 rt 229 L (v :: st') w := iv_V_eq (I := (((382, 1), .iaload, 0, 0, 0) : iv_I)) rfl
theorem e1_229 : iv_V call mc_1 rt 229 L st w = iv_lda L 0 fun x => iv_V call mc_1 rt 230 L (x :: st) w := iv_V_eq (I := (((383, 1), .aload_n 0, 0, 0, 0) : iv_I)) rfl
theorem e1_230 : iv_V call mc_1 rt 230 L st w = iv_ldi L 3 fun x => iv_V call mc_1 rt 231 L (.int x :: st) w := iv_V_eq (I := (((384, 1), .iload_n 3, 0, 0, 0) : iv_I)) rfl
theorem e1_231 : iv_V call mc_1 rt 231 L st w = iv_V call mc_1 rt 232 L (.int 2 :: st) w := (iv_V_eq (I := (((385, 1), .iconst 2, 0, 0, 0) : iv_I)) rfl).trans (congrArg (fun c => iv_V call mc_1 rt 232 L (.int c :: st) w) li_o2)
theorem e1_232 : iv_V call mc_1 rt 232 L st w = iv_p2 st fun x y st' => iv_V call mc_1 rt 233 L (.int (x + y) :: st') w := iv_V_eq (I := (((386, 1), .iadd, 0, 0, 0) : iv_I)) rfl
theorem e1_233 : iv_V call mc_1 rt 233 L st w = iv_ald w st iv_isI fun v st' => iv_V call mc_1 rt 234 L (v :: st') w := iv_V_eq (I := (((387, 1), .iaload, 0, 0, 0) : iv_I)) rfl
theorem e1_234 : iv_V call mc_1 rt 234 L st w = iv_inv call 8 3 (fun as => iv_rc w as (iv_mc 8)) st w fun st' w' => iv_V call mc_1 rt 235 L (st') w' := iv_V_eq (I := (((388, 3), .invokevirtual 38, 8, 3, 389) : iv_I)) rfl
theorem e1_235 : iv_V call mc_1 rt 235 L st w = iv_lda L 2 fun x => iv_V call mc_1 rt 236 L (x :: st) w := iv_V_eq (I := (((391, 1), .aload_n 2, 0, 0, 0) : iv_I)) rfl
theorem e1_236 : iv_V call mc_1 rt 236 L st w = iv_lda L 0 fun x => iv_V call mc_1 rt 237 L (x :: st) w := iv_V_eq (I := (((392, 1), .aload_n 0, 0, 0, 0) : iv_I)) rfl
theorem e1_237 : iv_V call mc_1 rt 237 L st w = iv_ldi L 3 fun x => iv_V call mc_1 rt 238 L (.int x :: st) w := iv_V_eq (I := (((393, 1), .iload_n 3, 0, 0, 0) : iv_I)) rfl
theorem e1_238 : iv_V call mc_1 rt 238 L st w = iv_V call mc_1 rt 239 L (.int 1 :: st) w := (iv_V_eq (I := (((394, 1), .iconst 1, 0, 0, 0) : iv_I)) rfl).trans (congrArg (fun c => iv_V call mc_1 rt 239 L (.int c :: st) w) li_o1)
theorem e1_239 : iv_V call mc_1 rt 239 L st w = iv_p2 st fun x y st' => iv_V call mc_1 rt 240 L (.int (x + y) :: st') w := iv_V_eq (I := (((395, 1), .iadd, 0, 0, 0) : iv_I)) rfl
theorem e1_240 : iv_V call mc_1 rt 240 L st w = iv_ald w st iv_isI fun v st' => iv_V call mc_1 rt 241 L (v :: st') w := iv_V_eq (I := (((396, 1), .iaload, 0, 0, 0) : iv_I)) rfl
theorem e1_241 : iv_V call mc_1 rt 241 L st w = iv_lda L 0 fun x => iv_V call mc_1 rt 242 L (x :: st) w := iv_V_eq (I := (((397, 1), .aload_n 0, 0, 0, 0) : iv_I)) rfl
theorem e1_242 : iv_V call mc_1 rt 242 L st w = iv_ldi L 3 fun x => iv_V call mc_1 rt 243 L (.int x :: st) w := iv_V_eq (I := (((398, 1), .iload_n 3, 0, 0, 0) : iv_I)) rfl
theorem e1_243 : iv_V call mc_1 rt 243 L st w = iv_V call mc_1 rt 244 L (.int 2 :: st) w := (iv_V_eq (I := (((399, 1), .iconst 2, 0, 0, 0) : iv_I)) rfl).trans (congrArg (fun c => iv_V call mc_1 rt 244 L (.int c :: st) w) li_o2)
theorem e1_244 : iv_V call mc_1 rt 244 L st w = iv_p2 st fun x y st' => iv_V call mc_1 rt 245 L (.int (x + y) :: st') w := iv_V_eq (I := (((400, 1), .iadd, 0, 0, 0) : iv_I)) rfl
theorem e1_245 : iv_V call mc_1 rt 245 L st w = iv_ald w st iv_isI fun v st' => iv_V call mc_1 rt 246 L (v :: st') w := iv_V_eq (I := (((401, 1), .iaload, 0, 0, 0) : iv_I)) rfl
theorem e1_246 : iv_V call mc_1 rt 246 L st w = iv_inv call 32 3 (fun as => iv_rc w as (iv_mc 32)) st w fun st' w' => iv_V call mc_1 rt 247 L (st') w' := iv_V_eq (I := (((402, 3), .invokevirtual 42, 32, 3, 767) : iv_I)) rfl
theorem e1_247 : iv_V call mc_1 rt 247 L st w = iv_p2 st fun x y st' => if x = y then iv_V call mc_1 rt 626 L (st') w else iv_V call mc_1 rt 248 L (st') w := (iv_V_eq (I := (((405, 3), .if_icmp .eq 473, 626, 0, 0) : iv_I)) rfl).trans (by simp only [iv_go, iv_cnd, decide_eq_true_eq])
theorem e1_248 : iv_V call mc_1 rt 248 L st w = iv_V call mc_1 rt 249 L (.int 0 :: st) w := (iv_V_eq (I := (((408, 1), .iconst 0, 0, 0, 0) : iv_I)) rfl).trans (congrArg (fun c => iv_V call mc_1 rt 249 L (.int c :: st) w) li_o0)
theorem e1_249 : iv_V call mc_1 rt 249 L st w = iv_ret rt st w := iv_V_eq (I := (((409, 1), .ireturn, 0, 0, 0) : iv_I)) rfl
theorem e1_250 : iv_V call mc_1 rt 250 L st w = iv_lda L 1 fun x => iv_V call mc_1 rt 251 L (x :: st) w := iv_V_eq (I := (((410, 1), .aload_n 1, 0, 0, 0) : iv_I)) rfl
theorem e1_251 : iv_V call mc_1 rt 251 L st w = iv_lda L 0 fun x => iv_V call mc_1 rt 252 L (x :: st) w := iv_V_eq (I := (((411, 1), .aload_n 0, 0, 0, 0) : iv_I)) rfl
theorem e1_252 : iv_V call mc_1 rt 252 L st w = iv_ldi L 3 fun x => iv_V call mc_1 rt 253 L (.int x :: st) w := iv_V_eq (I := (((412, 1), .iload_n 3, 0, 0, 0) : iv_I)) rfl
theorem e1_253 : iv_V call mc_1 rt 253 L st w = iv_V call mc_1 rt 254 L (.int 1 :: st) w := (iv_V_eq (I := (((413, 1), .iconst 1, 0, 0, 0) : iv_I)) rfl).trans (congrArg (fun c => iv_V call mc_1 rt 254 L (.int c :: st) w) li_o1)
theorem e1_254 : iv_V call mc_1 rt 254 L st w = iv_p2 st fun x y st' => iv_V call mc_1 rt 255 L (.int (x + y) :: st') w := iv_V_eq (I := (((414, 1), .iadd, 0, 0, 0) : iv_I)) rfl
theorem e1_255 : iv_V call mc_1 rt 255 L st w = iv_ald w st iv_isI fun v st' => iv_V call mc_1 rt 256 L (v :: st') w := iv_V_eq (I := (((415, 1), .iaload, 0, 0, 0) : iv_I)) rfl
theorem e1_256 : iv_V call mc_1 rt 256 L st w = iv_lda L 0 fun x => iv_V call mc_1 rt 257 L (x :: st) w := iv_V_eq (I := (((416, 1), .aload_n 0, 0, 0, 0) : iv_I)) rfl
theorem e1_257 : iv_V call mc_1 rt 257 L st w = iv_ldi L 3 fun x => iv_V call mc_1 rt 258 L (.int x :: st) w := iv_V_eq (I := (((417, 1), .iload_n 3, 0, 0, 0) : iv_I)) rfl
theorem e1_258 : iv_V call mc_1 rt 258 L st w = iv_V call mc_1 rt 259 L (.int 2 :: st) w := (iv_V_eq (I := (((418, 1), .iconst 2, 0, 0, 0) : iv_I)) rfl).trans (congrArg (fun c => iv_V call mc_1 rt 259 L (.int c :: st) w) li_o2)
theorem e1_259 : iv_V call mc_1 rt 259 L st w = iv_p2 st fun x y st' => iv_V call mc_1 rt 260 L (.int (x + y) :: st') w := iv_V_eq (I := (((419, 1), .iadd, 0, 0, 0) : iv_I)) rfl
theorem e1_260 : iv_V call mc_1 rt 260 L st w = iv_ald w st iv_isI fun v st' => iv_V call mc_1 rt 261 L (v :: st') w := iv_V_eq (I := (((420, 1), .iaload, 0, 0, 0) : iv_I)) rfl
theorem e1_261 : iv_V call mc_1 rt 261 L st w = iv_inv call 9 3 (fun as => iv_rc w as (iv_mc 9)) st w fun st' w' => iv_V call mc_1 rt 262 L (st') w' := iv_V_eq (I := (((421, 3), .invokevirtual 43, 9, 3, 406) : iv_I)) rfl
theorem e1_262 : iv_V call mc_1 rt 262 L st w = iv_lda L 2 fun x => iv_V call mc_1 rt 263 L (x :: st) w := iv_V_eq (I := (((424, 1), .aload_n 2, 0, 0, 0) : iv_I)) rfl
theorem e1_263 : iv_V call mc_1 rt 263 L st w = iv_lda L 0 fun x => iv_V call mc_1 rt 264 L (x :: st) w := iv_V_eq (I := (((425, 1), .aload_n 0, 0, 0, 0) : iv_I)) rfl
theorem e1_264 : iv_V call mc_1 rt 264 L st w = iv_ldi L 3 fun x => iv_V call mc_1 rt 265 L (.int x :: st) w := iv_V_eq (I := (((426, 1), .iload_n 3, 0, 0, 0) : iv_I)) rfl
theorem e1_265 : iv_V call mc_1 rt 265 L st w = iv_V call mc_1 rt 266 L (.int 1 :: st) w := (iv_V_eq (I := (((427, 1), .iconst 1, 0, 0, 0) : iv_I)) rfl).trans (congrArg (fun c => iv_V call mc_1 rt 266 L (.int c :: st) w) li_o1)
theorem e1_266 : iv_V call mc_1 rt 266 L st w = iv_p2 st fun x y st' => iv_V call mc_1 rt 267 L (.int (x + y) :: st') w := iv_V_eq (I := (((428, 1), .iadd, 0, 0, 0) : iv_I)) rfl
theorem e1_267 : iv_V call mc_1 rt 267 L st w = iv_ald w st iv_isI fun v st' => iv_V call mc_1 rt 268 L (v :: st') w := iv_V_eq (I := (((429, 1), .iaload, 0, 0, 0) : iv_I)) rfl
theorem e1_268 : iv_V call mc_1 rt 268 L st w = iv_lda L 0 fun x => iv_V call mc_1 rt 269 L (x :: st) w := iv_V_eq (I := (((430, 1), .aload_n 0, 0, 0, 0) : iv_I)) rfl
theorem e1_269 : iv_V call mc_1 rt 269 L st w = iv_ldi L 3 fun x => iv_V call mc_1 rt 270 L (.int x :: st) w := iv_V_eq (I := (((431, 1), .iload_n 3, 0, 0, 0) : iv_I)) rfl
theorem e1_270 : iv_V call mc_1 rt 270 L st w = iv_V call mc_1 rt 271 L (.int 2 :: st) w := (iv_V_eq (I := (((432, 1), .iconst 2, 0, 0, 0) : iv_I)) rfl).trans (congrArg (fun c => iv_V call mc_1 rt 271 L (.int c :: st) w) li_o2)
theorem e1_271 : iv_V call mc_1 rt 271 L st w = iv_p2 st fun x y st' => iv_V call mc_1 rt 272 L (.int (x + y) :: st') w := iv_V_eq (I := (((433, 1), .iadd, 0, 0, 0) : iv_I)) rfl
theorem e1_272 : iv_V call mc_1 rt 272 L st w = iv_ald w st iv_isI fun v st' => iv_V call mc_1 rt 273 L (v :: st') w := iv_V_eq (I := (((434, 1), .iaload, 0, 0, 0) : iv_I)) rfl
theorem e1_273 : iv_V call mc_1 rt 273 L st w = iv_inv call 33 3 (fun as => iv_rc w as (iv_mc 33)) st w fun st' w' => iv_V call mc_1 rt 274 L (st') w' := iv_V_eq (I := (((435, 3), .invokevirtual 46, 33, 3, 775) : iv_I)) rfl
theorem e1_274 : iv_V call mc_1 rt 274 L st w = iv_p2 st fun x y st' => if x = y then iv_V call mc_1 rt 626 L (st') w else iv_V call mc_1 rt 275 L (st') w := (iv_V_eq (I := (((438, 3), .if_icmp .eq 440, 626, 0, 0) : iv_I)) rfl).trans (by simp only [iv_go, iv_cnd, decide_eq_true_eq])
theorem e1_275 : iv_V call mc_1 rt 275 L st w = iv_V call mc_1 rt 276 L (.int 0 :: st) w := (iv_V_eq (I := (((441, 1), .iconst 0, 0, 0, 0) : iv_I)) rfl).trans (congrArg (fun c => iv_V call mc_1 rt 276 L (.int c :: st) w) li_o0)
theorem e1_276 : iv_V call mc_1 rt 276 L st w = iv_ret rt st w := iv_V_eq (I := (((442, 1), .ireturn, 0, 0, 0) : iv_I)) rfl
theorem e1_277 : iv_V call mc_1 rt 277 L st w = iv_lda L 1 fun x => iv_V call mc_1 rt 278 L (x :: st) w := iv_V_eq (I := (((443, 1), .aload_n 1, 0, 0, 0) : iv_I)) rfl
theorem e1_278 : iv_V call mc_1 rt 278 L st w = iv_lda L 0 fun x => iv_V call mc_1 rt 279 L (x :: st) w := iv_V_eq (I := (((444, 1), .aload_n 0, 0, 0, 0) : iv_I)) rfl
theorem e1_279 : iv_V call mc_1 rt 279 L st w = iv_ldi L 3 fun x => iv_V call mc_1 rt 280 L (.int x :: st) w := iv_V_eq (I := (((445, 1), .iload_n 3, 0, 0, 0) : iv_I)) rfl
theorem e1_280 : iv_V call mc_1 rt 280 L st w = iv_V call mc_1 rt 281 L (.int 1 :: st) w := (iv_V_eq (I := (((446, 1), .iconst 1, 0, 0, 0) : iv_I)) rfl).trans (congrArg (fun c => iv_V call mc_1 rt 281 L (.int c :: st) w) li_o1)
theorem e1_281 : iv_V call mc_1 rt 281 L st w = iv_p2 st fun x y st' => iv_V call mc_1 rt 282 L (.int (x + y) :: st') w := iv_V_eq (I := (((447, 1), .iadd, 0, 0, 0) : iv_I)) rfl
theorem e1_282 : iv_V call mc_1 rt 282 L st w = iv_ald w st iv_isI fun v st' => iv_V call mc_1 rt 283 L (v :: st') w := iv_V_eq (I := (((448, 1), .iaload, 0, 0, 0) : iv_I)) rfl
theorem e1_283 : iv_V call mc_1 rt 283 L st w = iv_lda L 0 fun x => iv_V call mc_1 rt 284 L (x :: st) w := iv_V_eq (I := (((449, 1), .aload_n 0, 0, 0, 0) : iv_I)) rfl
theorem e1_284 : iv_V call mc_1 rt 284 L st w = iv_ldi L 3 fun x => iv_V call mc_1 rt 285 L (.int x :: st) w := iv_V_eq (I := (((450, 1), .iload_n 3, 0, 0, 0) : iv_I)) rfl
theorem e1_285 : iv_V call mc_1 rt 285 L st w = iv_V call mc_1 rt 286 L (.int 2 :: st) w := (iv_V_eq (I := (((451, 1), .iconst 2, 0, 0, 0) : iv_I)) rfl).trans (congrArg (fun c => iv_V call mc_1 rt 286 L (.int c :: st) w) li_o2)
theorem e1_286 : iv_V call mc_1 rt 286 L st w = iv_p2 st fun x y st' => iv_V call mc_1 rt 287 L (.int (x + y) :: st') w := iv_V_eq (I := (((452, 1), .iadd, 0, 0, 0) : iv_I)) rfl
theorem e1_287 : iv_V call mc_1 rt 287 L st w = iv_ald w st iv_isI fun v st' => iv_V call mc_1 rt 288 L (v :: st') w := iv_V_eq (I := (((453, 1), .iaload, 0, 0, 0) : iv_I)) rfl
theorem e1_288 : iv_V call mc_1 rt 288 L st w = iv_inv call 10 3 (fun as => iv_rc w as (iv_mc 10)) st w fun st' w' => iv_V call mc_1 rt 289 L (st') w' := iv_V_eq (I := (((454, 3), .invokevirtual 47, 10, 3, 418) : iv_I)) rfl
theorem e1_289 : iv_V call mc_1 rt 289 L st w = iv_lda L 2 fun x => iv_V call mc_1 rt 290 L (x :: st) w := iv_V_eq (I := (((457, 1), .aload_n 2, 0, 0, 0) : iv_I)) rfl
theorem e1_290 : iv_V call mc_1 rt 290 L st w = iv_lda L 0 fun x => iv_V call mc_1 rt 291 L (x :: st) w := iv_V_eq (I := (((458, 1), .aload_n 0, 0, 0, 0) : iv_I)) rfl
theorem e1_291 : iv_V call mc_1 rt 291 L st w = iv_ldi L 3 fun x => iv_V call mc_1 rt 292 L (.int x :: st) w := iv_V_eq (I := (((459, 1), .iload_n 3, 0, 0, 0) : iv_I)) rfl
theorem e1_292 : iv_V call mc_1 rt 292 L st w = iv_V call mc_1 rt 293 L (.int 1 :: st) w := (iv_V_eq (I := (((460, 1), .iconst 1, 0, 0, 0) : iv_I)) rfl).trans (congrArg (fun c => iv_V call mc_1 rt 293 L (.int c :: st) w) li_o1)
theorem e1_293 : iv_V call mc_1 rt 293 L st w = iv_p2 st fun x y st' => iv_V call mc_1 rt 294 L (.int (x + y) :: st') w := iv_V_eq (I := (((461, 1), .iadd, 0, 0, 0) : iv_I)) rfl
theorem e1_294 : iv_V call mc_1 rt 294 L st w = iv_ald w st iv_isI fun v st' => iv_V call mc_1 rt 295 L (v :: st') w := iv_V_eq (I := (((462, 1), .iaload, 0, 0, 0) : iv_I)) rfl
theorem e1_295 : iv_V call mc_1 rt 295 L st w = iv_lda L 0 fun x => iv_V call mc_1 rt 296 L (x :: st) w := iv_V_eq (I := (((463, 1), .aload_n 0, 0, 0, 0) : iv_I)) rfl
theorem e1_296 : iv_V call mc_1 rt 296 L st w = iv_ldi L 3 fun x => iv_V call mc_1 rt 297 L (.int x :: st) w := iv_V_eq (I := (((464, 1), .iload_n 3, 0, 0, 0) : iv_I)) rfl
theorem e1_297 : iv_V call mc_1 rt 297 L st w = iv_V call mc_1 rt 298 L (.int 2 :: st) w := (iv_V_eq (I := (((465, 1), .iconst 2, 0, 0, 0) : iv_I)) rfl).trans (congrArg (fun c => iv_V call mc_1 rt 298 L (.int c :: st) w) li_o2)
theorem e1_298 : iv_V call mc_1 rt 298 L st w = iv_p2 st fun x y st' => iv_V call mc_1 rt 299 L (.int (x + y) :: st') w := iv_V_eq (I := (((466, 1), .iadd, 0, 0, 0) : iv_I)) rfl
theorem e1_299 : iv_V call mc_1 rt 299 L st w = iv_ald w st iv_isI fun v st' => iv_V call mc_1 rt 300 L (v :: st') w := iv_V_eq (I := (((467, 1), .iaload, 0, 0, 0) : iv_I)) rfl
set_option maxRecDepth 20000 in
theorem e1_300 : iv_V call mc_1 rt 300 L st w = iv_inv call 34 3 (fun as => iv_rc w as (iv_mc 34)) st w fun st' w' => iv_V call mc_1 rt 301 L (st') w' := iv_V_eq (I := (((468, 3), .invokevirtual 50, 34, 3, 779) : iv_I)) rfl
set_option maxRecDepth 20000 in
theorem e1_301 : iv_V call mc_1 rt 301 L st w = iv_p2 st fun x y st' => if x = y then iv_V call mc_1 rt 626 L (st') w else iv_V call mc_1 rt 302 L (st') w := (iv_V_eq (I := (((471, 3), .if_icmp .eq 407, 626, 0, 0) : iv_I)) rfl).trans (by simp only [iv_go, iv_cnd, decide_eq_true_eq])
set_option maxRecDepth 20000 in
theorem e1_302 : iv_V call mc_1 rt 302 L st w = iv_V call mc_1 rt 303 L (.int 0 :: st) w := (iv_V_eq (I := (((474, 1), .iconst 0, 0, 0, 0) : iv_I)) rfl).trans (congrArg (fun c => iv_V call mc_1 rt 303 L (.int c :: st) w) li_o0)
set_option maxRecDepth 20000 in
theorem e1_303 : iv_V call mc_1 rt 303 L st w = iv_ret rt st w := iv_V_eq (I := (((475, 1), .ireturn, 0, 0, 0) : iv_I)) rfl
set_option maxRecDepth 20000 in
theorem e1_304 : iv_V call mc_1 rt 304 L st w = iv_lda L 1 fun x => iv_V call mc_1 rt 305 L (x :: st) w := iv_V_eq (I := (((476, 1), .aload_n 1, 0, 0, 0) : iv_I)) rfl
set_option maxRecDepth 20000 in
theorem e1_305 : iv_V call mc_1 rt 305 L st w = iv_lda L 0 fun x => iv_V call mc_1 rt 306 L (x :: st) w := iv_V_eq (I := (((477, 1), .aload_n 0, 0, 0, 0) : iv_I)) rfl
set_option maxRecDepth 20000 in
theorem e1_306 : iv_V call mc_1 rt 306 L st w = iv_ldi L 3 fun x => iv_V call mc_1 rt 307 L (.int x :: st) w := iv_V_eq (I := (((478, 1), .iload_n 3, 0, 0, 0) : iv_I)) rfl
set_option maxRecDepth 20000 in
theorem e1_307 : iv_V call mc_1 rt 307 L st w = iv_V call mc_1 rt 308 L (.int 1 :: st) w := (iv_V_eq (I := (((479, 1), .iconst 1, 0, 0, 0) : iv_I)) rfl).trans (congrArg (fun c => iv_V call mc_1 rt 308 L (.int c :: st) w) li_o1)
set_option maxRecDepth 20000 in
theorem e1_308 : iv_V call mc_1 rt 308 L st w = iv_p2 st fun x y st' => iv_V call mc_1 rt 309 L (.int (x + y) :: st') w := iv_V_eq (I := (((480, 1), .iadd, 0, 0, 0) : iv_I)) rfl
set_option maxRecDepth 20000 in
theorem e1_309 : iv_V call mc_1 rt 309 L st w = iv_ald w st iv_isI fun v st' => iv_V call mc_1 rt 310 L (v :: st') w := iv_V_eq (I := (((481, 1), .iaload, 0, 0, 0) : iv_I)) rfl
set_option maxRecDepth 20000 in
theorem e1_310 : iv_V call mc_1 rt 310 L st w = iv_inv call 11 2 (fun as => iv_rc w as (iv_mc 11)) st w fun st' w' => iv_V call mc_1 rt 311 L (st') w' := iv_V_eq (I := (((482, 3), .invokevirtual 51, 11, 2, 422) : iv_I)) rfl
set_option maxRecDepth 20000 in
theorem e1_311 : iv_V call mc_1 rt 311 L st w = iv_lda L 2 fun x => iv_V call mc_1 rt 312 L (x :: st) w := iv_V_eq (I := (((485, 1), .aload_n 2, 0, 0, 0) : iv_I)) rfl
set_option maxRecDepth 20000 in
theorem e1_312 : iv_V call mc_1 rt 312 L st w = iv_lda L 0 fun x => iv_V call mc_1 rt 313 L (x :: st) w := iv_V_eq (I := (((486, 1), .aload_n 0, 0, 0, 0) : iv_I)) rfl
set_option maxRecDepth 20000 in
theorem e1_313 : iv_V call mc_1 rt 313 L st w = iv_ldi L 3 fun x => iv_V call mc_1 rt 314 L (.int x :: st) w := iv_V_eq (I := (((487, 1), .iload_n 3, 0, 0, 0) : iv_I)) rfl
set_option maxRecDepth 20000 in
theorem e1_314 : iv_V call mc_1 rt 314 L st w = iv_V call mc_1 rt 315 L (.int 1 :: st) w := (iv_V_eq (I := (((488, 1), .iconst 1, 0, 0, 0) : iv_I)) rfl).trans (congrArg (fun c => iv_V call mc_1 rt 315 L (.int c :: st) w) li_o1)
set_option maxRecDepth 20000 in
theorem e1_315 : iv_V call mc_1 rt 315 L st w = iv_p2 st fun x y st' => iv_V call mc_1 rt 316 L (.int (x + y) :: st') w := iv_V_eq (I := (((489, 1), .iadd, 0, 0, 0) : iv_I)) rfl
set_option maxRecDepth 20000 in
theorem e1_316 : iv_V call mc_1 rt 316 L st w = iv_ald w st iv_isI fun v st' => iv_V call mc_1 rt 317 L (v :: st') w := iv_V_eq (I := (((490, 1), .iaload, 0, 0, 0) : iv_I)) rfl
set_option maxRecDepth 20000 in
theorem e1_317 : iv_V call mc_1 rt 317 L st w = iv_inv call 35 2 (fun as => iv_rc w as (iv_mc 35)) st w fun st' w' => iv_V call mc_1 rt 318 L (st') w' := iv_V_eq (I := (((491, 3), .invokevirtual 55, 35, 2, 783) : iv_I)) rfl
set_option maxRecDepth 20000 in
theorem e1_318 : iv_V call mc_1 rt 318 L st w = iv_p2 st fun x y st' => if x = y then iv_V call mc_1 rt 626 L (st') w else iv_V call mc_1 rt 319 L (st') w := (iv_V_eq (I := (((494, 3), .if_icmp .eq 384, 626, 0, 0) : iv_I)) rfl).trans (by simp only [iv_go, iv_cnd, decide_eq_true_eq])
set_option maxRecDepth 20000 in
theorem e1_319 : iv_V call mc_1 rt 319 L st w = iv_V call mc_1 rt 320 L (.int 0 :: st) w := (iv_V_eq (I := (((497, 1), .iconst 0, 0, 0, 0) : iv_I)) rfl).trans (congrArg (fun c => iv_V call mc_1 rt 320 L (.int c :: st) w) li_o0)
set_option maxRecDepth 20000 in
theorem e1_320 : iv_V call mc_1 rt 320 L st w = iv_ret rt st w := iv_V_eq (I := (((498, 1), .ireturn, 0, 0, 0) : iv_I)) rfl
set_option maxRecDepth 20000 in
theorem e1_321 : iv_V call mc_1 rt 321 L st w = iv_lda L 1 fun x => iv_V call mc_1 rt 322 L (x :: st) w := iv_V_eq (I := (((499, 1), .aload_n 1, 0, 0, 0) : iv_I)) rfl
set_option maxRecDepth 20000 in
theorem e1_322 : iv_V call mc_1 rt 322 L st w = iv_lda L 0 fun x => iv_V call mc_1 rt 323 L (x :: st) w := iv_V_eq (I := (((500, 1), .aload_n 0, 0, 0, 0) : iv_I)) rfl
set_option maxRecDepth 20000 in
theorem e1_323 : iv_V call mc_1 rt 323 L st w = iv_ldi L 3 fun x => iv_V call mc_1 rt 324 L (.int x :: st) w := iv_V_eq (I := (((501, 1), .iload_n 3, 0, 0, 0) : iv_I)) rfl
set_option maxRecDepth 20000 in
theorem e1_324 : iv_V call mc_1 rt 324 L st w = iv_V call mc_1 rt 325 L (.int 1 :: st) w := (iv_V_eq (I := (((502, 1), .iconst 1, 0, 0, 0) : iv_I)) rfl).trans (congrArg (fun c => iv_V call mc_1 rt 325 L (.int c :: st) w) li_o1)
set_option maxRecDepth 20000 in
theorem e1_325 : iv_V call mc_1 rt 325 L st w = iv_p2 st fun x y st' => iv_V call mc_1 rt 326 L (.int (x + y) :: st') w := iv_V_eq (I := (((503, 1), .iadd, 0, 0, 0) : iv_I)) rfl
set_option maxRecDepth 20000 in
theorem e1_326 : iv_V call mc_1 rt 326 L st w = iv_ald w st iv_isI fun v st' => iv_V call mc_1 rt 327 L (v :: st') w := iv_V_eq (I := (((504, 1), .iaload, 0, 0, 0) : iv_I)) rfl
set_option maxRecDepth 20000 in
theorem e1_327 : iv_V call mc_1 rt 327 L st w = iv_lda L 0 fun x => iv_V call mc_1 rt 328 L (x :: st) w := iv_V_eq (I := (((505, 1), .aload_n 0, 0, 0, 0) : iv_I)) rfl
set_option maxRecDepth 20000 in
theorem e1_328 : iv_V call mc_1 rt 328 L st w = iv_ldi L 3 fun x => iv_V call mc_1 rt 329 L (.int x :: st) w := iv_V_eq (I := (((506, 1), .iload_n 3, 0, 0, 0) : iv_I)) rfl
set_option maxRecDepth 20000 in
theorem e1_329 : iv_V call mc_1 rt 329 L st w = iv_V call mc_1 rt 330 L (.int 2 :: st) w := (iv_V_eq (I := (((507, 1), .iconst 2, 0, 0, 0) : iv_I)) rfl).trans (congrArg (fun c => iv_V call mc_1 rt 330 L (.int c :: st) w) li_o2)
set_option maxRecDepth 20000 in
theorem e1_330 : iv_V call mc_1 rt 330 L st w = iv_p2 st fun x y st' => iv_V call mc_1 rt 331 L (.int (x + y) :: st') w := iv_V_eq (I := (((508, 1), .iadd, 0, 0, 0) : iv_I)) rfl
set_option maxRecDepth 20000 in
theorem e1_331 : iv_V call mc_1 rt 331 L st w = iv_ald w st iv_isI fun v st' => iv_V call mc_1 rt 332 L (v :: st') w := iv_V_eq (I := (((509, 1), .iaload, 0, 0, 0) : iv_I)) rfl
set_option maxRecDepth 20000 in
theorem e1_332 : iv_V call mc_1 rt 332 L st w = iv_lda L 0 fun x => iv_V call mc_1 rt 333 L (x :: st) w := iv_V_eq (I := (((510, 1), .aload_n 0, 0, 0, 0) : iv_I)) rfl
set_option maxRecDepth 20000 in
theorem e1_333 : iv_V call mc_1 rt 333 L st w = iv_ldi L 3 fun x => iv_V call mc_1 rt 334 L (.int x :: st) w := iv_V_eq (I := (((511, 1), .iload_n 3, 0, 0, 0) : iv_I)) rfl
set_option maxRecDepth 20000 in
theorem e1_334 : iv_V call mc_1 rt 334 L st w = iv_V call mc_1 rt 335 L (.int 3 :: st) w := (iv_V_eq (I := (((512, 1), .iconst 3, 0, 0, 0) : iv_I)) rfl).trans (congrArg (fun c => iv_V call mc_1 rt 335 L (.int c :: st) w) li_o3)
set_option maxRecDepth 20000 in
theorem e1_335 : iv_V call mc_1 rt 335 L st w = iv_p2 st fun x y st' => iv_V call mc_1 rt 336 L (.int (x + y) :: st') w := iv_V_eq (I := (((513, 1), .iadd, 0, 0, 0) : iv_I)) rfl
set_option maxRecDepth 20000 in
theorem e1_336 : iv_V call mc_1 rt 336 L st w = iv_ald w st iv_isI fun v st' => iv_V call mc_1 rt 337 L (v :: st') w := iv_V_eq (I := (((514, 1), .iaload, 0, 0, 0) : iv_I)) rfl
set_option maxRecDepth 20000 in
theorem e1_337 : iv_V call mc_1 rt 337 L st w = iv_inv call 12 4 (fun as => iv_rc w as (iv_mc 12)) st w fun st' w' => iv_V call mc_1 rt 338 L (st') w' := iv_V_eq (I := (((515, 3), .invokevirtual 56, 12, 4, 430) : iv_I)) rfl
set_option maxRecDepth 20000 in
theorem e1_338 : iv_V call mc_1 rt 338 L st w = iv_lda L 2 fun x => iv_V call mc_1 rt 339 L (x :: st) w := iv_V_eq (I := (((518, 1), .aload_n 2, 0, 0, 0) : iv_I)) rfl
set_option maxRecDepth 20000 in
theorem e1_339 : iv_V call mc_1 rt 339 L st w = iv_lda L 0 fun x => iv_V call mc_1 rt 340 L (x :: st) w := iv_V_eq (I := (((519, 1), .aload_n 0, 0, 0, 0) : iv_I)) rfl
set_option maxRecDepth 20000 in
theorem e1_340 : iv_V call mc_1 rt 340 L st w = iv_ldi L 3 fun x => iv_V call mc_1 rt 341 L (.int x :: st) w := iv_V_eq (I := (((520, 1), .iload_n 3, 0, 0, 0) : iv_I)) rfl
set_option maxRecDepth 20000 in
theorem e1_341 : iv_V call mc_1 rt 341 L st w = iv_V call mc_1 rt 342 L (.int 1 :: st) w := (iv_V_eq (I := (((521, 1), .iconst 1, 0, 0, 0) : iv_I)) rfl).trans (congrArg (fun c => iv_V call mc_1 rt 342 L (.int c :: st) w) li_o1)
set_option maxRecDepth 20000 in
theorem e1_342 : iv_V call mc_1 rt 342 L st w = iv_p2 st fun x y st' => iv_V call mc_1 rt 343 L (.int (x + y) :: st') w := iv_V_eq (I := (((522, 1), .iadd, 0, 0, 0) : iv_I)) rfl
set_option maxRecDepth 20000 in
theorem e1_343 : iv_V call mc_1 rt 343 L st w = iv_ald w st iv_isI fun v st' => iv_V call mc_1 rt 344 L (v :: st') w := iv_V_eq (I := (((523, 1), .iaload, 0, 0, 0) : iv_I)) rfl
set_option maxRecDepth 20000 in
theorem e1_344 : iv_V call mc_1 rt 344 L st w = iv_lda L 0 fun x => iv_V call mc_1 rt 345 L (x :: st) w := iv_V_eq (I := (((524, 1), .aload_n 0, 0, 0, 0) : iv_I)) rfl
set_option maxRecDepth 20000 in
theorem e1_345 : iv_V call mc_1 rt 345 L st w = iv_ldi L 3 fun x => iv_V call mc_1 rt 346 L (.int x :: st) w := iv_V_eq (I := (((525, 1), .iload_n 3, 0, 0, 0) : iv_I)) rfl
set_option maxRecDepth 20000 in
theorem e1_346 : iv_V call mc_1 rt 346 L st w = iv_V call mc_1 rt 347 L (.int 2 :: st) w := (iv_V_eq (I := (((526, 1), .iconst 2, 0, 0, 0) : iv_I)) rfl).trans (congrArg (fun c => iv_V call mc_1 rt 347 L (.int c :: st) w) li_o2)
set_option maxRecDepth 20000 in
theorem e1_347 : iv_V call mc_1 rt 347 L st w = iv_p2 st fun x y st' => iv_V call mc_1 rt 348 L (.int (x + y) :: st') w := iv_V_eq (I := (((527, 1), .iadd, 0, 0, 0) : iv_I)) rfl
set_option maxRecDepth 20000 in
theorem e1_348 : iv_V call mc_1 rt 348 L st w = iv_ald w st iv_isI fun v st' => iv_V call mc_1 rt 349 L (v :: st') w := iv_V_eq (I := (((528, 1), .iaload, 0, 0, 0) : iv_I)) rfl
set_option maxRecDepth 20000 in
theorem e1_349 : iv_V call mc_1 rt 349 L st w = iv_lda L 0 fun x => iv_V call mc_1 rt 350 L (x :: st) w := iv_V_eq (I := (((529, 1), .aload_n 0, 0, 0, 0) : iv_I)) rfl
set_option maxRecDepth 20000 in
theorem e1_350 : iv_V call mc_1 rt 350 L st w = iv_ldi L 3 fun x => iv_V call mc_1 rt 351 L (.int x :: st) w := iv_V_eq (I := (((530, 1), .iload_n 3, 0, 0, 0) : iv_I)) rfl
set_option maxRecDepth 20000 in
theorem e1_351 : iv_V call mc_1 rt 351 L st w = iv_V call mc_1 rt 352 L (.int 3 :: st) w := (iv_V_eq (I := (((531, 1), .iconst 3, 0, 0, 0) : iv_I)) rfl).trans (congrArg (fun c => iv_V call mc_1 rt 352 L (.int c :: st) w) li_o3)
set_option maxRecDepth 20000 in
theorem e1_352 : iv_V call mc_1 rt 352 L st w = iv_p2 st fun x y st' => iv_V call mc_1 rt 353 L (.int (x + y) :: st') w := iv_V_eq (I := (((532, 1), .iadd, 0, 0, 0) : iv_I)) rfl
set_option maxRecDepth 20000 in
theorem e1_353 : iv_V call mc_1 rt 353 L st w = iv_ald w st iv_isI fun v st' => iv_V call mc_1 rt 354 L (v :: st') w := iv_V_eq (I := (((533, 1), .iaload, 0, 0, 0) : iv_I)) rfl
set_option maxRecDepth 20000 in
theorem e1_354 : iv_V call mc_1 rt 354 L st w = iv_inv call 36 4 (fun as => iv_rc w as (iv_mc 36)) st w fun st' w' => iv_V call mc_1 rt 355 L (st') w' := iv_V_eq (I := (((534, 3), .invokevirtual 60, 36, 4, 787) : iv_I)) rfl
set_option maxRecDepth 20000 in
theorem e1_355 : iv_V call mc_1 rt 355 L st w = iv_p2 st fun x y st' => if x = y then iv_V call mc_1 rt 626 L (st') w else iv_V call mc_1 rt 356 L (st') w := (iv_V_eq (I := (((537, 3), .if_icmp .eq 341, 626, 0, 0) : iv_I)) rfl).trans (by simp only [iv_go, iv_cnd, decide_eq_true_eq])
set_option maxRecDepth 20000 in
theorem e1_356 : iv_V call mc_1 rt 356 L st w = iv_V call mc_1 rt 357 L (.int 0 :: st) w := (iv_V_eq (I := (((540, 1), .iconst 0, 0, 0, 0) : iv_I)) rfl).trans (congrArg (fun c => iv_V call mc_1 rt 357 L (.int c :: st) w) li_o0)
set_option maxRecDepth 20000 in
theorem e1_357 : iv_V call mc_1 rt 357 L st w = iv_ret rt st w := iv_V_eq (I := (((541, 1), .ireturn, 0, 0, 0) : iv_I)) rfl
set_option maxRecDepth 20000 in
theorem e1_358 : iv_V call mc_1 rt 358 L st w = iv_lda L 1 fun x => iv_V call mc_1 rt 359 L (x :: st) w := iv_V_eq (I := (((542, 1), .aload_n 1, 0, 0, 0) : iv_I)) rfl
set_option maxRecDepth 20000 in
theorem e1_359 : iv_V call mc_1 rt 359 L st w = iv_lda L 0 fun x => iv_V call mc_1 rt 360 L (x :: st) w := iv_V_eq (I := (((543, 1), .aload_n 0, 0, 0, 0) : iv_I)) rfl
set_option maxRecDepth 20000 in
theorem e1_360 : iv_V call mc_1 rt 360 L st w = iv_ldi L 3 fun x => iv_V call mc_1 rt 361 L (.int x :: st) w := iv_V_eq (I := (((544, 1), .iload_n 3, 0, 0, 0) : iv_I)) rfl
set_option maxRecDepth 20000 in
theorem e1_361 : iv_V call mc_1 rt 361 L st w = iv_V call mc_1 rt 362 L (.int 1 :: st) w := (iv_V_eq (I := (((545, 1), .iconst 1, 0, 0, 0) : iv_I)) rfl).trans (congrArg (fun c => iv_V call mc_1 rt 362 L (.int c :: st) w) li_o1)
set_option maxRecDepth 20000 in
theorem e1_362 : iv_V call mc_1 rt 362 L st w = iv_p2 st fun x y st' => iv_V call mc_1 rt 363 L (.int (x + y) :: st') w := iv_V_eq (I := (((546, 1), .iadd, 0, 0, 0) : iv_I)) rfl
set_option maxRecDepth 20000 in
theorem e1_363 : iv_V call mc_1 rt 363 L st w = iv_ald w st iv_isI fun v st' => iv_V call mc_1 rt 364 L (v :: st') w := iv_V_eq (I := (((547, 1), .iaload, 0, 0, 0) : iv_I)) rfl
set_option maxRecDepth 20000 in
theorem e1_364 : iv_V call mc_1 rt 364 L st w = iv_inv call 13 2 (fun as => iv_rc w as (iv_mc 13)) st w fun st' w' => iv_V call mc_1 rt 365 L (st') w' := iv_V_eq (I := (((548, 3), .invokevirtual 61, 13, 2, 434) : iv_I)) rfl
set_option maxRecDepth 20000 in
theorem e1_365 : iv_V call mc_1 rt 365 L st w = iv_lda L 2 fun x => iv_V call mc_1 rt 366 L (x :: st) w := iv_V_eq (I := (((551, 1), .aload_n 2, 0, 0, 0) : iv_I)) rfl
set_option maxRecDepth 20000 in
theorem e1_366 : iv_V call mc_1 rt 366 L st w = iv_lda L 0 fun x => iv_V call mc_1 rt 367 L (x :: st) w := iv_V_eq (I := (((552, 1), .aload_n 0, 0, 0, 0) : iv_I)) rfl
set_option maxRecDepth 20000 in
theorem e1_367 : iv_V call mc_1 rt 367 L st w = iv_ldi L 3 fun x => iv_V call mc_1 rt 368 L (.int x :: st) w := iv_V_eq (I := (((553, 1), .iload_n 3, 0, 0, 0) : iv_I)) rfl
set_option maxRecDepth 20000 in
theorem e1_368 : iv_V call mc_1 rt 368 L st w = iv_V call mc_1 rt 369 L (.int 1 :: st) w := (iv_V_eq (I := (((554, 1), .iconst 1, 0, 0, 0) : iv_I)) rfl).trans (congrArg (fun c => iv_V call mc_1 rt 369 L (.int c :: st) w) li_o1)
set_option maxRecDepth 20000 in
theorem e1_369 : iv_V call mc_1 rt 369 L st w = iv_p2 st fun x y st' => iv_V call mc_1 rt 370 L (.int (x + y) :: st') w := iv_V_eq (I := (((555, 1), .iadd, 0, 0, 0) : iv_I)) rfl
set_option maxRecDepth 20000 in
theorem e1_370 : iv_V call mc_1 rt 370 L st w = iv_ald w st iv_isI fun v st' => iv_V call mc_1 rt 371 L (v :: st') w := iv_V_eq (I := (((556, 1), .iaload, 0, 0, 0) : iv_I)) rfl
set_option maxRecDepth 20000 in
theorem e1_371 : iv_V call mc_1 rt 371 L st w = iv_inv call 37 2 (fun as => iv_rc w as (iv_mc 37)) st w fun st' w' => iv_V call mc_1 rt 372 L (st') w' := iv_V_eq (I := (((557, 3), .invokevirtual 64, 37, 2, 791) : iv_I)) rfl
set_option maxRecDepth 20000 in
theorem e1_372 : iv_V call mc_1 rt 372 L st w = iv_p2 st fun x y st' => if x = y then iv_V call mc_1 rt 626 L (st') w else iv_V call mc_1 rt 373 L (st') w := (iv_V_eq (I := (((560, 3), .if_icmp .eq 318, 626, 0, 0) : iv_I)) rfl).trans (by simp only [iv_go, iv_cnd, decide_eq_true_eq])
set_option maxRecDepth 20000 in
theorem e1_373 : iv_V call mc_1 rt 373 L st w = iv_V call mc_1 rt 374 L (.int 0 :: st) w := (iv_V_eq (I := (((563, 1), .iconst 0, 0, 0, 0) : iv_I)) rfl).trans (congrArg (fun c => iv_V call mc_1 rt 374 L (.int c :: st) w) li_o0)
set_option maxRecDepth 20000 in
theorem e1_374 : iv_V call mc_1 rt 374 L st w = iv_ret rt st w := iv_V_eq (I := (((564, 1), .ireturn, 0, 0, 0) : iv_I)) rfl
set_option maxRecDepth 20000 in
theorem e1_375 : iv_V call mc_1 rt 375 L st w = iv_lda L 1 fun x => iv_V call mc_1 rt 376 L (x :: st) w := iv_V_eq (I := (((565, 1), .aload_n 1, 0, 0, 0) : iv_I)) rfl
set_option maxRecDepth 20000 in
theorem e1_376 : iv_V call mc_1 rt 376 L st w = iv_lda L 0 fun x => iv_V call mc_1 rt 377 L (x :: st) w := iv_V_eq (I := (((566, 1), .aload_n 0, 0, 0, 0) : iv_I)) rfl
set_option maxRecDepth 20000 in
theorem e1_377 : iv_V call mc_1 rt 377 L st w = iv_ldi L 3 fun x => iv_V call mc_1 rt 378 L (.int x :: st) w := iv_V_eq (I := (((567, 1), .iload_n 3, 0, 0, 0) : iv_I)) rfl
set_option maxRecDepth 20000 in
theorem e1_378 : iv_V call mc_1 rt 378 L st w = iv_V call mc_1 rt 379 L (.int 1 :: st) w := (iv_V_eq (I := (((568, 1), .iconst 1, 0, 0, 0) : iv_I)) rfl).trans (congrArg (fun c => iv_V call mc_1 rt 379 L (.int c :: st) w) li_o1)
set_option maxRecDepth 20000 in
theorem e1_379 : iv_V call mc_1 rt 379 L st w = iv_p2 st fun x y st' => iv_V call mc_1 rt 380 L (.int (x + y) :: st') w := iv_V_eq (I := (((569, 1), .iadd, 0, 0, 0) : iv_I)) rfl
set_option maxRecDepth 20000 in
theorem e1_380 : iv_V call mc_1 rt 380 L st w = iv_ald w st iv_isI fun v st' => iv_V call mc_1 rt 381 L (v :: st') w := iv_V_eq (I := (((570, 1), .iaload, 0, 0, 0) : iv_I)) rfl
set_option maxRecDepth 20000 in
theorem e1_381 : iv_V call mc_1 rt 381 L st w = iv_lda L 0 fun x => iv_V call mc_1 rt 382 L (x :: st) w := iv_V_eq (I := (((571, 1), .aload_n 0, 0, 0, 0) : iv_I)) rfl
set_option maxRecDepth 20000 in
theorem e1_382 : iv_V call mc_1 rt 382 L st w = iv_ldi L 3 fun x => iv_V call mc_1 rt 383 L (.int x :: st) w := iv_V_eq (I := (((572, 1), .iload_n 3, 0, 0, 0) : iv_I)) rfl
set_option maxRecDepth 20000 in
theorem e1_383 : iv_V call mc_1 rt 383 L st w = iv_V call mc_1 rt 384 L (.int 2 :: st) w := (iv_V_eq (I := (((573, 1), .iconst 2, 0, 0, 0) : iv_I)) rfl).trans (congrArg (fun c => iv_V call mc_1 rt 384 L (.int c :: st) w) li_o2)
set_option maxRecDepth 20000 in
theorem e1_384 : iv_V call mc_1 rt 384 L st w = iv_p2 st fun x y st' => iv_V call mc_1 rt 385 L (.int (x + y) :: st') w := iv_V_eq (I := (((574, 1), .iadd, 0, 0, 0) : iv_I)) rfl
set_option maxRecDepth 20000 in
theorem e1_385 : iv_V call mc_1 rt 385 L st w = iv_ald w st iv_isI fun v st' => iv_V call mc_1 rt 386 L (v :: st') w := iv_V_eq (I := (((575, 1), .iaload, 0, 0, 0) : iv_I)) rfl
set_option maxRecDepth 20000 in
theorem e1_386 : iv_V call mc_1 rt 386 L st w = iv_lda L 0 fun x => iv_V call mc_1 rt 387 L (x :: st) w := iv_V_eq (I := (((576, 1), .aload_n 0, 0, 0, 0) : iv_I)) rfl
set_option maxRecDepth 20000 in
theorem e1_387 : iv_V call mc_1 rt 387 L st w = iv_ldi L 3 fun x => iv_V call mc_1 rt 388 L (.int x :: st) w := iv_V_eq (I := (((577, 1), .iload_n 3, 0, 0, 0) : iv_I)) rfl
set_option maxRecDepth 20000 in
theorem e1_388 : iv_V call mc_1 rt 388 L st w = iv_V call mc_1 rt 389 L (.int 3 :: st) w := (iv_V_eq (I := (((578, 1), .iconst 3, 0, 0, 0) : iv_I)) rfl).trans (congrArg (fun c => iv_V call mc_1 rt 389 L (.int c :: st) w) li_o3)
set_option maxRecDepth 20000 in
theorem e1_389 : iv_V call mc_1 rt 389 L st w = iv_p2 st fun x y st' => iv_V call mc_1 rt 390 L (.int (x + y) :: st') w := iv_V_eq (I := (((579, 1), .iadd, 0, 0, 0) : iv_I)) rfl
set_option maxRecDepth 20000 in
theorem e1_390 : iv_V call mc_1 rt 390 L st w = iv_ald w st iv_isI fun v st' => iv_V call mc_1 rt 391 L (v :: st') w := iv_V_eq (I := (((580, 1), .iaload, 0, 0, 0) : iv_I)) rfl
set_option maxRecDepth 20000 in
theorem e1_391 : iv_V call mc_1 rt 391 L st w = iv_inv call 14 4 (fun as => iv_rc w as (iv_mc 14)) st w fun st' w' => iv_V call mc_1 rt 392 L (st') w' := iv_V_eq (I := (((581, 3), .invokevirtual 65, 14, 4, 442) : iv_I)) rfl
set_option maxRecDepth 20000 in
theorem e1_392 : iv_V call mc_1 rt 392 L st w = iv_lda L 2 fun x => iv_V call mc_1 rt 393 L (x :: st) w := iv_V_eq (I := (((584, 1), .aload_n 2, 0, 0, 0) : iv_I)) rfl
set_option maxRecDepth 20000 in
theorem e1_393 : iv_V call mc_1 rt 393 L st w = iv_lda L 0 fun x => iv_V call mc_1 rt 394 L (x :: st) w := iv_V_eq (I := (((585, 1), .aload_n 0, 0, 0, 0) : iv_I)) rfl
set_option maxRecDepth 20000 in
theorem e1_394 : iv_V call mc_1 rt 394 L st w = iv_ldi L 3 fun x => iv_V call mc_1 rt 395 L (.int x :: st) w := iv_V_eq (I := (((586, 1), .iload_n 3, 0, 0, 0) : iv_I)) rfl
set_option maxRecDepth 20000 in
theorem e1_395 : iv_V call mc_1 rt 395 L st w = iv_V call mc_1 rt 396 L (.int 1 :: st) w := (iv_V_eq (I := (((587, 1), .iconst 1, 0, 0, 0) : iv_I)) rfl).trans (congrArg (fun c => iv_V call mc_1 rt 396 L (.int c :: st) w) li_o1)
set_option maxRecDepth 20000 in
theorem e1_396 : iv_V call mc_1 rt 396 L st w = iv_p2 st fun x y st' => iv_V call mc_1 rt 397 L (.int (x + y) :: st') w := iv_V_eq (I := (((588, 1), .iadd, 0, 0, 0) : iv_I)) rfl
set_option maxRecDepth 20000 in
theorem e1_397 : iv_V call mc_1 rt 397 L st w = iv_ald w st iv_isI fun v st' => iv_V call mc_1 rt 398 L (v :: st') w := iv_V_eq (I := (((589, 1), .iaload, 0, 0, 0) : iv_I)) rfl
set_option maxRecDepth 20000 in
theorem e1_398 : iv_V call mc_1 rt 398 L st w = iv_lda L 0 fun x => iv_V call mc_1 rt 399 L (x :: st) w := iv_V_eq (I := (((590, 1), .aload_n 0, 0, 0, 0) : iv_I)) rfl
set_option maxRecDepth 20000 in
theorem e1_399 : iv_V call mc_1 rt 399 L st w = iv_ldi L 3 fun x => iv_V call mc_1 rt 400 L (.int x :: st) w := iv_V_eq (I := (((591, 1), .iload_n 3, 0, 0, 0) : iv_I)) rfl
set_option maxRecDepth 20000 in
theorem e1_400 : iv_V call mc_1 rt 400 L st w = iv_V call mc_1 rt 401 L (.int 2 :: st) w := (iv_V_eq (I := (((592, 1), .iconst 2, 0, 0, 0) : iv_I)) rfl).trans (congrArg (fun c => iv_V call mc_1 rt 401 L (.int c :: st) w) li_o2)
set_option maxRecDepth 20000 in
theorem e1_401 : iv_V call mc_1 rt 401 L st w = iv_p2 st fun x y st' => iv_V call mc_1 rt 402 L (.int (x + y) :: st') w := iv_V_eq (I := (((593, 1), .iadd, 0, 0, 0) : iv_I)) rfl
set_option maxRecDepth 20000 in
theorem e1_402 : iv_V call mc_1 rt 402 L st w = iv_ald w st iv_isI fun v st' => iv_V call mc_1 rt 403 L (v :: st') w := iv_V_eq (I := (((594, 1), .iaload, 0, 0, 0) : iv_I)) rfl
set_option maxRecDepth 20000 in
theorem e1_403 : iv_V call mc_1 rt 403 L st w = iv_lda L 0 fun x => iv_V call mc_1 rt 404 L (x :: st) w := iv_V_eq (I := (((595, 1), .aload_n 0, 0, 0, 0) : iv_I)) rfl
set_option maxRecDepth 20000 in
theorem e1_404 : iv_V call mc_1 rt 404 L st w = iv_ldi L 3 fun x => iv_V call mc_1 rt 405 L (.int x :: st) w := iv_V_eq (I := (((596, 1), .iload_n 3, 0, 0, 0) : iv_I)) rfl
set_option maxRecDepth 20000 in
theorem e1_405 : iv_V call mc_1 rt 405 L st w = iv_V call mc_1 rt 406 L (.int 3 :: st) w := (iv_V_eq (I := (((597, 1), .iconst 3, 0, 0, 0) : iv_I)) rfl).trans (congrArg (fun c => iv_V call mc_1 rt 406 L (.int c :: st) w) li_o3)
set_option maxRecDepth 20000 in
theorem e1_406 : iv_V call mc_1 rt 406 L st w = iv_p2 st fun x y st' => iv_V call mc_1 rt 407 L (.int (x + y) :: st') w := iv_V_eq (I := (((598, 1), .iadd, 0, 0, 0) : iv_I)) rfl
set_option maxRecDepth 20000 in
theorem e1_407 : iv_V call mc_1 rt 407 L st w = iv_ald w st iv_isI fun v st' => iv_V call mc_1 rt 408 L (v :: st') w := iv_V_eq (I := (((599, 1), .iaload, 0, 0, 0) : iv_I)) rfl
set_option maxRecDepth 20000 in
theorem e1_408 : iv_V call mc_1 rt 408 L st w = iv_inv call 39 4 (fun as => iv_rc w as (iv_mc 39)) st w fun st' w' => iv_V call mc_1 rt 409 L (st') w' := iv_V_eq (I := (((600, 3), .invokevirtual 68, 39, 4, 795) : iv_I)) rfl
set_option maxRecDepth 20000 in
theorem e1_409 : iv_V call mc_1 rt 409 L st w = iv_p2 st fun x y st' => if x = y then iv_V call mc_1 rt 626 L (st') w else iv_V call mc_1 rt 410 L (st') w := (iv_V_eq (I := (((603, 3), .if_icmp .eq 275, 626, 0, 0) : iv_I)) rfl).trans (by simp only [iv_go, iv_cnd, decide_eq_true_eq])
set_option maxRecDepth 20000 in
theorem e1_410 : iv_V call mc_1 rt 410 L st w = iv_V call mc_1 rt 411 L (.int 0 :: st) w := (iv_V_eq (I := (((606, 1), .iconst 0, 0, 0, 0) : iv_I)) rfl).trans (congrArg (fun c => iv_V call mc_1 rt 411 L (.int c :: st) w) li_o0)
set_option maxRecDepth 20000 in
theorem e1_411 : iv_V call mc_1 rt 411 L st w = iv_ret rt st w := iv_V_eq (I := (((607, 1), .ireturn, 0, 0, 0) : iv_I)) rfl
set_option maxRecDepth 20000 in
theorem e1_412 : iv_V call mc_1 rt 412 L st w = iv_lda L 1 fun x => iv_V call mc_1 rt 413 L (x :: st) w := iv_V_eq (I := (((608, 1), .aload_n 1, 0, 0, 0) : iv_I)) rfl
set_option maxRecDepth 20000 in
theorem e1_413 : iv_V call mc_1 rt 413 L st w = iv_lda L 0 fun x => iv_V call mc_1 rt 414 L (x :: st) w := iv_V_eq (I := (((609, 1), .aload_n 0, 0, 0, 0) : iv_I)) rfl
set_option maxRecDepth 20000 in
theorem e1_414 : iv_V call mc_1 rt 414 L st w = iv_ldi L 3 fun x => iv_V call mc_1 rt 415 L (.int x :: st) w := iv_V_eq (I := (((610, 1), .iload_n 3, 0, 0, 0) : iv_I)) rfl
set_option maxRecDepth 20000 in
theorem e1_415 : iv_V call mc_1 rt 415 L st w = iv_V call mc_1 rt 416 L (.int 1 :: st) w := (iv_V_eq (I := (((611, 1), .iconst 1, 0, 0, 0) : iv_I)) rfl).trans (congrArg (fun c => iv_V call mc_1 rt 416 L (.int c :: st) w) li_o1)
set_option maxRecDepth 20000 in
theorem e1_416 : iv_V call mc_1 rt 416 L st w = iv_p2 st fun x y st' => iv_V call mc_1 rt 417 L (.int (x + y) :: st') w := iv_V_eq (I := (((612, 1), .iadd, 0, 0, 0) : iv_I)) rfl
set_option maxRecDepth 20000 in
theorem e1_417 : iv_V call mc_1 rt 417 L st w = iv_ald w st iv_isI fun v st' => iv_V call mc_1 rt 418 L (v :: st') w := iv_V_eq (I := (((613, 1), .iaload, 0, 0, 0) : iv_I)) rfl
set_option maxRecDepth 20000 in
theorem e1_418 : iv_V call mc_1 rt 418 L st w = iv_lda L 0 fun x => iv_V call mc_1 rt 419 L (x :: st) w := iv_V_eq (I := (((614, 1), .aload_n 0, 0, 0, 0) : iv_I)) rfl
set_option maxRecDepth 20000 in
theorem e1_419 : iv_V call mc_1 rt 419 L st w = iv_ldi L 3 fun x => iv_V call mc_1 rt 420 L (.int x :: st) w := iv_V_eq (I := (((615, 1), .iload_n 3, 0, 0, 0) : iv_I)) rfl
set_option maxRecDepth 20000 in
theorem e1_420 : iv_V call mc_1 rt 420 L st w = iv_V call mc_1 rt 421 L (.int 2 :: st) w := (iv_V_eq (I := (((616, 1), .iconst 2, 0, 0, 0) : iv_I)) rfl).trans (congrArg (fun c => iv_V call mc_1 rt 421 L (.int c :: st) w) li_o2)
set_option maxRecDepth 20000 in
theorem e1_421 : iv_V call mc_1 rt 421 L st w = iv_p2 st fun x y st' => iv_V call mc_1 rt 422 L (.int (x + y) :: st') w := iv_V_eq (I := (((617, 1), .iadd, 0, 0, 0) : iv_I)) rfl
set_option maxRecDepth 20000 in
theorem e1_422 : iv_V call mc_1 rt 422 L st w = iv_ald w st iv_isI fun v st' => iv_V call mc_1 rt 423 L (v :: st') w := iv_V_eq (I := (((618, 1), .iaload, 0, 0, 0) : iv_I)) rfl
set_option maxRecDepth 20000 in
theorem e1_423 : iv_V call mc_1 rt 423 L st w = iv_lda L 0 fun x => iv_V call mc_1 rt 424 L (x :: st) w := iv_V_eq (I := (((619, 1), .aload_n 0, 0, 0, 0) : iv_I)) rfl
set_option maxRecDepth 20000 in
theorem e1_424 : iv_V call mc_1 rt 424 L st w = iv_ldi L 3 fun x => iv_V call mc_1 rt 425 L (.int x :: st) w := iv_V_eq (I := (((620, 1), .iload_n 3, 0, 0, 0) : iv_I)) rfl
set_option maxRecDepth 20000 in
theorem e1_425 : iv_V call mc_1 rt 425 L st w = iv_V call mc_1 rt 426 L (.int 3 :: st) w := (iv_V_eq (I := (((621, 1), .iconst 3, 0, 0, 0) : iv_I)) rfl).trans (congrArg (fun c => iv_V call mc_1 rt 426 L (.int c :: st) w) li_o3)
set_option maxRecDepth 20000 in
theorem e1_426 : iv_V call mc_1 rt 426 L st w = iv_p2 st fun x y st' => iv_V call mc_1 rt 427 L (.int (x + y) :: st') w := iv_V_eq (I := (((622, 1), .iadd, 0, 0, 0) : iv_I)) rfl
set_option maxRecDepth 20000 in
theorem e1_427 : iv_V call mc_1 rt 427 L st w = iv_ald w st iv_isI fun v st' => iv_V call mc_1 rt 428 L (v :: st') w := iv_V_eq (I := (((623, 1), .iaload, 0, 0, 0) : iv_I)) rfl
set_option maxRecDepth 20000 in
theorem e1_428 : iv_V call mc_1 rt 428 L st w = iv_inv call 15 4 (fun as => iv_rc w as (iv_mc 15)) st w fun st' w' => iv_V call mc_1 rt 429 L (st') w' := iv_V_eq (I := (((624, 3), .invokevirtual 69, 15, 4, 462) : iv_I)) rfl
set_option maxRecDepth 20000 in
theorem e1_429 : iv_V call mc_1 rt 429 L st w = iv_lda L 2 fun x => iv_V call mc_1 rt 430 L (x :: st) w := iv_V_eq (I := (((627, 1), .aload_n 2, 0, 0, 0) : iv_I)) rfl
set_option maxRecDepth 20000 in
theorem e1_430 : iv_V call mc_1 rt 430 L st w = iv_lda L 0 fun x => iv_V call mc_1 rt 431 L (x :: st) w := iv_V_eq (I := (((628, 1), .aload_n 0, 0, 0, 0) : iv_I)) rfl
set_option maxRecDepth 20000 in
theorem e1_431 : iv_V call mc_1 rt 431 L st w = iv_ldi L 3 fun x => iv_V call mc_1 rt 432 L (.int x :: st) w := iv_V_eq (I := (((629, 1), .iload_n 3, 0, 0, 0) : iv_I)) rfl
set_option maxRecDepth 20000 in
theorem e1_432 : iv_V call mc_1 rt 432 L st w = iv_V call mc_1 rt 433 L (.int 1 :: st) w := (iv_V_eq (I := (((630, 1), .iconst 1, 0, 0, 0) : iv_I)) rfl).trans (congrArg (fun c => iv_V call mc_1 rt 433 L (.int c :: st) w) li_o1)
set_option maxRecDepth 20000 in
theorem e1_433 : iv_V call mc_1 rt 433 L st w = iv_p2 st fun x y st' => iv_V call mc_1 rt 434 L (.int (x + y) :: st') w := iv_V_eq (I := (((631, 1), .iadd, 0, 0, 0) : iv_I)) rfl
set_option maxRecDepth 20000 in
theorem e1_434 : iv_V call mc_1 rt 434 L st w = iv_ald w st iv_isI fun v st' => iv_V call mc_1 rt 435 L (v :: st') w := iv_V_eq (I := (((632, 1), .iaload, 0, 0, 0) : iv_I)) rfl
set_option maxRecDepth 20000 in
theorem e1_435 : iv_V call mc_1 rt 435 L st w = iv_lda L 0 fun x => iv_V call mc_1 rt 436 L (x :: st) w := iv_V_eq (I := (((633, 1), .aload_n 0, 0, 0, 0) : iv_I)) rfl
set_option maxRecDepth 20000 in
theorem e1_436 : iv_V call mc_1 rt 436 L st w = iv_ldi L 3 fun x => iv_V call mc_1 rt 437 L (.int x :: st) w := iv_V_eq (I := (((634, 1), .iload_n 3, 0, 0, 0) : iv_I)) rfl
set_option maxRecDepth 20000 in
theorem e1_437 : iv_V call mc_1 rt 437 L st w = iv_V call mc_1 rt 438 L (.int 2 :: st) w := (iv_V_eq (I := (((635, 1), .iconst 2, 0, 0, 0) : iv_I)) rfl).trans (congrArg (fun c => iv_V call mc_1 rt 438 L (.int c :: st) w) li_o2)
set_option maxRecDepth 20000 in
theorem e1_438 : iv_V call mc_1 rt 438 L st w = iv_p2 st fun x y st' => iv_V call mc_1 rt 439 L (.int (x + y) :: st') w := iv_V_eq (I := (((636, 1), .iadd, 0, 0, 0) : iv_I)) rfl
set_option maxRecDepth 20000 in
theorem e1_439 : iv_V call mc_1 rt 439 L st w = iv_ald w st iv_isI fun v st' => iv_V call mc_1 rt 440 L (v :: st') w := iv_V_eq (I := (((637, 1), .iaload, 0, 0, 0) : iv_I)) rfl
set_option maxRecDepth 20000 in
theorem e1_440 : iv_V call mc_1 rt 440 L st w = iv_lda L 0 fun x => iv_V call mc_1 rt 441 L (x :: st) w := iv_V_eq (I := (((638, 1), .aload_n 0, 0, 0, 0) : iv_I)) rfl
set_option maxRecDepth 20000 in
theorem e1_441 : iv_V call mc_1 rt 441 L st w = iv_ldi L 3 fun x => iv_V call mc_1 rt 442 L (.int x :: st) w := iv_V_eq (I := (((639, 1), .iload_n 3, 0, 0, 0) : iv_I)) rfl
set_option maxRecDepth 20000 in
theorem e1_442 : iv_V call mc_1 rt 442 L st w = iv_V call mc_1 rt 443 L (.int 3 :: st) w := (iv_V_eq (I := (((640, 1), .iconst 3, 0, 0, 0) : iv_I)) rfl).trans (congrArg (fun c => iv_V call mc_1 rt 443 L (.int c :: st) w) li_o3)
set_option maxRecDepth 20000 in
theorem e1_443 : iv_V call mc_1 rt 443 L st w = iv_p2 st fun x y st' => iv_V call mc_1 rt 444 L (.int (x + y) :: st') w := iv_V_eq (I := (((641, 1), .iadd, 0, 0, 0) : iv_I)) rfl
set_option maxRecDepth 20000 in
theorem e1_444 : iv_V call mc_1 rt 444 L st w = iv_ald w st iv_isI fun v st' => iv_V call mc_1 rt 445 L (v :: st') w := iv_V_eq (I := (((642, 1), .iaload, 0, 0, 0) : iv_I)) rfl
set_option maxRecDepth 20000 in
theorem e1_445 : iv_V call mc_1 rt 445 L st w = iv_inv call 40 4 (fun as => iv_rc w as (iv_mc 40)) st w fun st' w' => iv_V call mc_1 rt 446 L (st') w' := iv_V_eq (I := (((643, 3), .invokevirtual 72, 40, 4, 803) : iv_I)) rfl
set_option maxRecDepth 20000 in
theorem e1_446 : iv_V call mc_1 rt 446 L st w = iv_p2 st fun x y st' => if x = y then iv_V call mc_1 rt 626 L (st') w else iv_V call mc_1 rt 447 L (st') w := (iv_V_eq (I := (((646, 3), .if_icmp .eq 232, 626, 0, 0) : iv_I)) rfl).trans (by simp only [iv_go, iv_cnd, decide_eq_true_eq])
set_option maxRecDepth 20000 in
theorem e1_447 : iv_V call mc_1 rt 447 L st w = iv_V call mc_1 rt 448 L (.int 0 :: st) w := (iv_V_eq (I := (((649, 1), .iconst 0, 0, 0, 0) : iv_I)) rfl).trans (congrArg (fun c => iv_V call mc_1 rt 448 L (.int c :: st) w) li_o0)
set_option maxRecDepth 20000 in
theorem e1_448 : iv_V call mc_1 rt 448 L st w = iv_ret rt st w := iv_V_eq (I := (((650, 1), .ireturn, 0, 0, 0) : iv_I)) rfl
set_option maxRecDepth 20000 in
theorem e1_449 : iv_V call mc_1 rt 449 L st w = iv_lda L 1 fun x => iv_V call mc_1 rt 450 L (x :: st) w := iv_V_eq (I := (((651, 1), .aload_n 1, 0, 0, 0) : iv_I)) rfl
set_option maxRecDepth 20000 in
theorem e1_450 : iv_V call mc_1 rt 450 L st w = iv_lda L 0 fun x => iv_V call mc_1 rt 451 L (x :: st) w := iv_V_eq (I := (((652, 1), .aload_n 0, 0, 0, 0) : iv_I)) rfl
set_option maxRecDepth 20000 in
theorem e1_451 : iv_V call mc_1 rt 451 L st w = iv_ldi L 3 fun x => iv_V call mc_1 rt 452 L (.int x :: st) w := iv_V_eq (I := (((653, 1), .iload_n 3, 0, 0, 0) : iv_I)) rfl
set_option maxRecDepth 20000 in
theorem e1_452 : iv_V call mc_1 rt 452 L st w = iv_V call mc_1 rt 453 L (.int 1 :: st) w := (iv_V_eq (I := (((654, 1), .iconst 1, 0, 0, 0) : iv_I)) rfl).trans (congrArg (fun c => iv_V call mc_1 rt 453 L (.int c :: st) w) li_o1)
set_option maxRecDepth 20000 in
theorem e1_453 : iv_V call mc_1 rt 453 L st w = iv_p2 st fun x y st' => iv_V call mc_1 rt 454 L (.int (x + y) :: st') w := iv_V_eq (I := (((655, 1), .iadd, 0, 0, 0) : iv_I)) rfl
set_option maxRecDepth 20000 in
theorem e1_454 : iv_V call mc_1 rt 454 L st w = iv_ald w st iv_isI fun v st' => iv_V call mc_1 rt 455 L (v :: st') w := iv_V_eq (I := (((656, 1), .iaload, 0, 0, 0) : iv_I)) rfl
set_option maxRecDepth 20000 in
theorem e1_455 : iv_V call mc_1 rt 455 L st w = iv_lda L 0 fun x => iv_V call mc_1 rt 456 L (x :: st) w := iv_V_eq (I := (((657, 1), .aload_n 0, 0, 0, 0) : iv_I)) rfl
set_option maxRecDepth 20000 in
theorem e1_456 : iv_V call mc_1 rt 456 L st w = iv_ldi L 3 fun x => iv_V call mc_1 rt 457 L (.int x :: st) w := iv_V_eq (I := (((658, 1), .iload_n 3, 0, 0, 0) : iv_I)) rfl
set_option maxRecDepth 20000 in
theorem e1_457 : iv_V call mc_1 rt 457 L st w = iv_V call mc_1 rt 458 L (.int 2 :: st) w := (iv_V_eq (I := (((659, 1), .iconst 2, 0, 0, 0) : iv_I)) rfl).trans (congrArg (fun c => iv_V call mc_1 rt 458 L (.int c :: st) w) li_o2)
set_option maxRecDepth 20000 in
theorem e1_458 : iv_V call mc_1 rt 458 L st w = iv_p2 st fun x y st' => iv_V call mc_1 rt 459 L (.int (x + y) :: st') w := iv_V_eq (I := (((660, 1), .iadd, 0, 0, 0) : iv_I)) rfl
set_option maxRecDepth 20000 in
theorem e1_459 : iv_V call mc_1 rt 459 L st w = iv_ald w st iv_isI fun v st' => iv_V call mc_1 rt 460 L (v :: st') w := iv_V_eq (I := (((661, 1), .iaload, 0, 0, 0) : iv_I)) rfl
set_option maxRecDepth 20000 in
theorem e1_460 : iv_V call mc_1 rt 460 L st w = iv_lda L 0 fun x => iv_V call mc_1 rt 461 L (x :: st) w := iv_V_eq (I := (((662, 1), .aload_n 0, 0, 0, 0) : iv_I)) rfl
set_option maxRecDepth 20000 in
theorem e1_461 : iv_V call mc_1 rt 461 L st w = iv_ldi L 3 fun x => iv_V call mc_1 rt 462 L (.int x :: st) w := iv_V_eq (I := (((663, 1), .iload_n 3, 0, 0, 0) : iv_I)) rfl
set_option maxRecDepth 20000 in
theorem e1_462 : iv_V call mc_1 rt 462 L st w = iv_V call mc_1 rt 463 L (.int 3 :: st) w := (iv_V_eq (I := (((664, 1), .iconst 3, 0, 0, 0) : iv_I)) rfl).trans (congrArg (fun c => iv_V call mc_1 rt 463 L (.int c :: st) w) li_o3)
set_option maxRecDepth 20000 in
theorem e1_463 : iv_V call mc_1 rt 463 L st w = iv_p2 st fun x y st' => iv_V call mc_1 rt 464 L (.int (x + y) :: st') w := iv_V_eq (I := (((665, 1), .iadd, 0, 0, 0) : iv_I)) rfl
set_option maxRecDepth 20000 in
theorem e1_464 : iv_V call mc_1 rt 464 L st w = iv_ald w st iv_isI fun v st' => iv_V call mc_1 rt 465 L (v :: st') w := iv_V_eq (I := (((666, 1), .iaload, 0, 0, 0) : iv_I)) rfl
set_option maxRecDepth 20000 in
theorem e1_465 : iv_V call mc_1 rt 465 L st w = iv_p1 st fun x st' => if x = 0 then iv_V call mc_1 rt 468 L (st') w else iv_V call mc_1 rt 466 L (st') w := (iv_V_eq (I := (((667, 3), .ifCond .eq 7, 468, 0, 0) : iv_I)) rfl).trans (by simp only [iv_go, iv_cnd, decide_eq_true_eq])
set_option maxRecDepth 20000 in
theorem e1_466 : iv_V call mc_1 rt 466 L st w = iv_V call mc_1 rt 467 L (.int 1 :: st) w := (iv_V_eq (I := (((670, 1), .iconst 1, 0, 0, 0) : iv_I)) rfl).trans (congrArg (fun c => iv_V call mc_1 rt 467 L (.int c :: st) w) li_o1)
set_option maxRecDepth 20000 in
theorem e1_467 : iv_V call mc_1 rt 467 L st w = iv_V call mc_1 rt 469 L (st) w := iv_V_eq (I := (((671, 3), .goto 4, 469, 0, 0) : iv_I)) rfl
set_option maxRecDepth 20000 in
theorem e1_468 : iv_V call mc_1 rt 468 L st w = iv_V call mc_1 rt 469 L (.int 0 :: st) w := (iv_V_eq (I := (((674, 1), .iconst 0, 0, 0, 0) : iv_I)) rfl).trans (congrArg (fun c => iv_V call mc_1 rt 469 L (.int c :: st) w) li_o0)
set_option maxRecDepth 20000 in
theorem e1_469 : iv_V call mc_1 rt 469 L st w = iv_inv call 16 4 (fun as => iv_rc w as (iv_mc 16)) st w fun st' w' => iv_V call mc_1 rt 470 L (st') w' := iv_V_eq (I := (((675, 3), .invokevirtual 73, 16, 4, 470) : iv_I)) rfl
set_option maxRecDepth 20000 in
theorem e1_470 : iv_V call mc_1 rt 470 L st w = iv_lda L 2 fun x => iv_V call mc_1 rt 471 L (x :: st) w := iv_V_eq (I := (((678, 1), .aload_n 2, 0, 0, 0) : iv_I)) rfl
set_option maxRecDepth 20000 in
theorem e1_471 : iv_V call mc_1 rt 471 L st w = iv_lda L 0 fun x => iv_V call mc_1 rt 472 L (x :: st) w := iv_V_eq (I := (((679, 1), .aload_n 0, 0, 0, 0) : iv_I)) rfl
set_option maxRecDepth 20000 in
theorem e1_472 : iv_V call mc_1 rt 472 L st w = iv_ldi L 3 fun x => iv_V call mc_1 rt 473 L (.int x :: st) w := iv_V_eq (I := (((680, 1), .iload_n 3, 0, 0, 0) : iv_I)) rfl
set_option maxRecDepth 20000 in
theorem e1_473 : iv_V call mc_1 rt 473 L st w = iv_V call mc_1 rt 474 L (.int 1 :: st) w := (iv_V_eq (I := (((681, 1), .iconst 1, 0, 0, 0) : iv_I)) rfl).trans (congrArg (fun c => iv_V call mc_1 rt 474 L (.int c :: st) w) li_o1)
set_option maxRecDepth 20000 in
theorem e1_474 : iv_V call mc_1 rt 474 L st w = iv_p2 st fun x y st' => iv_V call mc_1 rt 475 L (.int (x + y) :: st') w := iv_V_eq (I := (((682, 1), .iadd, 0, 0, 0) : iv_I)) rfl
set_option maxRecDepth 20000 in
theorem e1_475 : iv_V call mc_1 rt 475 L st w = iv_ald w st iv_isI fun v st' => iv_V call mc_1 rt 476 L (v :: st') w := iv_V_eq (I := (((683, 1), .iaload, 0, 0, 0) : iv_I)) rfl
set_option maxRecDepth 20000 in
theorem e1_476 : iv_V call mc_1 rt 476 L st w = iv_lda L 0 fun x => iv_V call mc_1 rt 477 L (x :: st) w := iv_V_eq (I := (((684, 1), .aload_n 0, 0, 0, 0) : iv_I)) rfl
set_option maxRecDepth 20000 in
theorem e1_477 : iv_V call mc_1 rt 477 L st w = iv_ldi L 3 fun x => iv_V call mc_1 rt 478 L (.int x :: st) w := iv_V_eq (I := (((685, 1), .iload_n 3, 0, 0, 0) : iv_I)) rfl
set_option maxRecDepth 20000 in
theorem e1_478 : iv_V call mc_1 rt 478 L st w = iv_V call mc_1 rt 479 L (.int 2 :: st) w := (iv_V_eq (I := (((686, 1), .iconst 2, 0, 0, 0) : iv_I)) rfl).trans (congrArg (fun c => iv_V call mc_1 rt 479 L (.int c :: st) w) li_o2)
set_option maxRecDepth 20000 in
theorem e1_479 : iv_V call mc_1 rt 479 L st w = iv_p2 st fun x y st' => iv_V call mc_1 rt 480 L (.int (x + y) :: st') w := iv_V_eq (I := (((687, 1), .iadd, 0, 0, 0) : iv_I)) rfl
set_option maxRecDepth 20000 in
theorem e1_480 : iv_V call mc_1 rt 480 L st w = iv_ald w st iv_isI fun v st' => iv_V call mc_1 rt 481 L (v :: st') w := iv_V_eq (I := (((688, 1), .iaload, 0, 0, 0) : iv_I)) rfl
set_option maxRecDepth 20000 in
theorem e1_481 : iv_V call mc_1 rt 481 L st w = iv_lda L 0 fun x => iv_V call mc_1 rt 482 L (x :: st) w := iv_V_eq (I := (((689, 1), .aload_n 0, 0, 0, 0) : iv_I)) rfl
set_option maxRecDepth 20000 in
theorem e1_482 : iv_V call mc_1 rt 482 L st w = iv_ldi L 3 fun x => iv_V call mc_1 rt 483 L (.int x :: st) w := iv_V_eq (I := (((690, 1), .iload_n 3, 0, 0, 0) : iv_I)) rfl
set_option maxRecDepth 20000 in
theorem e1_483 : iv_V call mc_1 rt 483 L st w = iv_V call mc_1 rt 484 L (.int 3 :: st) w := (iv_V_eq (I := (((691, 1), .iconst 3, 0, 0, 0) : iv_I)) rfl).trans (congrArg (fun c => iv_V call mc_1 rt 484 L (.int c :: st) w) li_o3)
set_option maxRecDepth 20000 in
theorem e1_484 : iv_V call mc_1 rt 484 L st w = iv_p2 st fun x y st' => iv_V call mc_1 rt 485 L (.int (x + y) :: st') w := iv_V_eq (I := (((692, 1), .iadd, 0, 0, 0) : iv_I)) rfl
set_option maxRecDepth 20000 in
theorem e1_485 : iv_V call mc_1 rt 485 L st w = iv_ald w st iv_isI fun v st' => iv_V call mc_1 rt 486 L (v :: st') w := iv_V_eq (I := (((693, 1), .iaload, 0, 0, 0) : iv_I)) rfl
set_option maxRecDepth 20000 in
theorem e1_486 : iv_V call mc_1 rt 486 L st w = iv_p1 st fun x st' => if x = 0 then iv_V call mc_1 rt 489 L (st') w else iv_V call mc_1 rt 487 L (st') w := (iv_V_eq (I := (((694, 3), .ifCond .eq 7, 489, 0, 0) : iv_I)) rfl).trans (by simp only [iv_go, iv_cnd, decide_eq_true_eq])
set_option maxRecDepth 20000 in
theorem e1_487 : iv_V call mc_1 rt 487 L st w = iv_V call mc_1 rt 488 L (.int 1 :: st) w := (iv_V_eq (I := (((697, 1), .iconst 1, 0, 0, 0) : iv_I)) rfl).trans (congrArg (fun c => iv_V call mc_1 rt 488 L (.int c :: st) w) li_o1)
set_option maxRecDepth 20000 in
theorem e1_488 : iv_V call mc_1 rt 488 L st w = iv_V call mc_1 rt 490 L (st) w := iv_V_eq (I := (((698, 3), .goto 4, 490, 0, 0) : iv_I)) rfl
set_option maxRecDepth 20000 in
theorem e1_489 : iv_V call mc_1 rt 489 L st w = iv_V call mc_1 rt 490 L (.int 0 :: st) w := (iv_V_eq (I := (((701, 1), .iconst 0, 0, 0, 0) : iv_I)) rfl).trans (congrArg (fun c => iv_V call mc_1 rt 490 L (.int c :: st) w) li_o0)
set_option maxRecDepth 20000 in
theorem e1_490 : iv_V call mc_1 rt 490 L st w = iv_inv call 41 4 (fun as => iv_rc w as (iv_mc 41)) st w fun st' w' => iv_V call mc_1 rt 491 L (st') w' := iv_V_eq (I := (((702, 3), .invokevirtual 77, 41, 4, 807) : iv_I)) rfl
set_option maxRecDepth 20000 in
theorem e1_491 : iv_V call mc_1 rt 491 L st w = iv_p2 st fun x y st' => if x = y then iv_V call mc_1 rt 626 L (st') w else iv_V call mc_1 rt 492 L (st') w := (iv_V_eq (I := (((705, 3), .if_icmp .eq 173, 626, 0, 0) : iv_I)) rfl).trans (by simp only [iv_go, iv_cnd, decide_eq_true_eq])
set_option maxRecDepth 20000 in
theorem e1_492 : iv_V call mc_1 rt 492 L st w = iv_V call mc_1 rt 493 L (.int 0 :: st) w := (iv_V_eq (I := (((708, 1), .iconst 0, 0, 0, 0) : iv_I)) rfl).trans (congrArg (fun c => iv_V call mc_1 rt 493 L (.int c :: st) w) li_o0)
set_option maxRecDepth 20000 in
theorem e1_493 : iv_V call mc_1 rt 493 L st w = iv_ret rt st w := iv_V_eq (I := (((709, 1), .ireturn, 0, 0, 0) : iv_I)) rfl
set_option maxRecDepth 20000 in
theorem e1_494 : iv_V call mc_1 rt 494 L st w = iv_lda L 1 fun x => iv_V call mc_1 rt 495 L (x :: st) w := iv_V_eq (I := (((710, 1), .aload_n 1, 0, 0, 0) : iv_I)) rfl
set_option maxRecDepth 20000 in
theorem e1_495 : iv_V call mc_1 rt 495 L st w = iv_lda L 0 fun x => iv_V call mc_1 rt 496 L (x :: st) w := iv_V_eq (I := (((711, 1), .aload_n 0, 0, 0, 0) : iv_I)) rfl
set_option maxRecDepth 20000 in
theorem e1_496 : iv_V call mc_1 rt 496 L st w = iv_ldi L 3 fun x => iv_V call mc_1 rt 497 L (.int x :: st) w := iv_V_eq (I := (((712, 1), .iload_n 3, 0, 0, 0) : iv_I)) rfl
set_option maxRecDepth 20000 in
theorem e1_497 : iv_V call mc_1 rt 497 L st w = iv_V call mc_1 rt 498 L (.int 1 :: st) w := (iv_V_eq (I := (((713, 1), .iconst 1, 0, 0, 0) : iv_I)) rfl).trans (congrArg (fun c => iv_V call mc_1 rt 498 L (.int c :: st) w) li_o1)
set_option maxRecDepth 20000 in
theorem e1_498 : iv_V call mc_1 rt 498 L st w = iv_p2 st fun x y st' => iv_V call mc_1 rt 499 L (.int (x + y) :: st') w := iv_V_eq (I := (((714, 1), .iadd, 0, 0, 0) : iv_I)) rfl
set_option maxRecDepth 20000 in
theorem e1_499 : iv_V call mc_1 rt 499 L st w = iv_ald w st iv_isI fun v st' => iv_V call mc_1 rt 500 L (v :: st') w := iv_V_eq (I := (((715, 1), .iaload, 0, 0, 0) : iv_I)) rfl
set_option maxRecDepth 20000 in
theorem e1_500 : iv_V call mc_1 rt 500 L st w = iv_lda L 0 fun x => iv_V call mc_1 rt 501 L (x :: st) w := iv_V_eq (I := (((716, 1), .aload_n 0, 0, 0, 0) : iv_I)) rfl
set_option maxRecDepth 20000 in
theorem e1_501 : iv_V call mc_1 rt 501 L st w = iv_ldi L 3 fun x => iv_V call mc_1 rt 502 L (.int x :: st) w := iv_V_eq (I := (((717, 1), .iload_n 3, 0, 0, 0) : iv_I)) rfl
set_option maxRecDepth 20000 in
theorem e1_502 : iv_V call mc_1 rt 502 L st w = iv_V call mc_1 rt 503 L (.int 2 :: st) w := (iv_V_eq (I := (((718, 1), .iconst 2, 0, 0, 0) : iv_I)) rfl).trans (congrArg (fun c => iv_V call mc_1 rt 503 L (.int c :: st) w) li_o2)
set_option maxRecDepth 20000 in
theorem e1_503 : iv_V call mc_1 rt 503 L st w = iv_p2 st fun x y st' => iv_V call mc_1 rt 504 L (.int (x + y) :: st') w := iv_V_eq (I := (((719, 1), .iadd, 0, 0, 0) : iv_I)) rfl
set_option maxRecDepth 20000 in
theorem e1_504 : iv_V call mc_1 rt 504 L st w = iv_ald w st iv_isI fun v st' => iv_V call mc_1 rt 505 L (v :: st') w := iv_V_eq (I := (((720, 1), .iaload, 0, 0, 0) : iv_I)) rfl
set_option maxRecDepth 20000 in
theorem e1_505 : iv_V call mc_1 rt 505 L st w = iv_inv call 17 3 (fun as => iv_rc w as (iv_mc 17)) st w fun st' w' => iv_V call mc_1 rt 506 L (st') w' := iv_V_eq (I := (((721, 3), .invokevirtual 78, 17, 3, 474) : iv_I)) rfl
set_option maxRecDepth 20000 in
theorem e1_506 : iv_V call mc_1 rt 506 L st w = iv_lda L 2 fun x => iv_V call mc_1 rt 507 L (x :: st) w := iv_V_eq (I := (((724, 1), .aload_n 2, 0, 0, 0) : iv_I)) rfl
set_option maxRecDepth 20000 in
theorem e1_507 : iv_V call mc_1 rt 507 L st w = iv_lda L 0 fun x => iv_V call mc_1 rt 508 L (x :: st) w := iv_V_eq (I := (((725, 1), .aload_n 0, 0, 0, 0) : iv_I)) rfl
set_option maxRecDepth 20000 in
theorem e1_508 : iv_V call mc_1 rt 508 L st w = iv_ldi L 3 fun x => iv_V call mc_1 rt 509 L (.int x :: st) w := iv_V_eq (I := (((726, 1), .iload_n 3, 0, 0, 0) : iv_I)) rfl
set_option maxRecDepth 20000 in
theorem e1_509 : iv_V call mc_1 rt 509 L st w = iv_V call mc_1 rt 510 L (.int 1 :: st) w := (iv_V_eq (I := (((727, 1), .iconst 1, 0, 0, 0) : iv_I)) rfl).trans (congrArg (fun c => iv_V call mc_1 rt 510 L (.int c :: st) w) li_o1)
set_option maxRecDepth 20000 in
theorem e1_510 : iv_V call mc_1 rt 510 L st w = iv_p2 st fun x y st' => iv_V call mc_1 rt 511 L (.int (x + y) :: st') w := iv_V_eq (I := (((728, 1), .iadd, 0, 0, 0) : iv_I)) rfl
set_option maxRecDepth 20000 in
theorem e1_511 : iv_V call mc_1 rt 511 L st w = iv_ald w st iv_isI fun v st' => iv_V call mc_1 rt 512 L (v :: st') w := iv_V_eq (I := (((729, 1), .iaload, 0, 0, 0) : iv_I)) rfl
set_option maxRecDepth 20000 in
theorem e1_512 : iv_V call mc_1 rt 512 L st w = iv_lda L 0 fun x => iv_V call mc_1 rt 513 L (x :: st) w := iv_V_eq (I := (((730, 1), .aload_n 0, 0, 0, 0) : iv_I)) rfl
set_option maxRecDepth 20000 in
theorem e1_513 : iv_V call mc_1 rt 513 L st w = iv_ldi L 3 fun x => iv_V call mc_1 rt 514 L (.int x :: st) w := iv_V_eq (I := (((731, 1), .iload_n 3, 0, 0, 0) : iv_I)) rfl
set_option maxRecDepth 20000 in
theorem e1_514 : iv_V call mc_1 rt 514 L st w = iv_V call mc_1 rt 515 L (.int 2 :: st) w := (iv_V_eq (I := (((732, 1), .iconst 2, 0, 0, 0) : iv_I)) rfl).trans (congrArg (fun c => iv_V call mc_1 rt 515 L (.int c :: st) w) li_o2)
set_option maxRecDepth 20000 in
theorem e1_515 : iv_V call mc_1 rt 515 L st w = iv_p2 st fun x y st' => iv_V call mc_1 rt 516 L (.int (x + y) :: st') w := iv_V_eq (I := (((733, 1), .iadd, 0, 0, 0) : iv_I)) rfl
set_option maxRecDepth 20000 in
theorem e1_516 : iv_V call mc_1 rt 516 L st w = iv_ald w st iv_isI fun v st' => iv_V call mc_1 rt 517 L (v :: st') w := iv_V_eq (I := (((734, 1), .iaload, 0, 0, 0) : iv_I)) rfl
set_option maxRecDepth 20000 in
theorem e1_517 : iv_V call mc_1 rt 517 L st w = iv_inv call 56 3 (fun as => iv_rc w as (iv_mc 56)) st w fun st' w' => iv_V call mc_1 rt 518 L (st') w' := iv_V_eq (I := (((735, 3), .invokevirtual 81, 56, 3, 811) : iv_I)) rfl
set_option maxRecDepth 20000 in
theorem e1_518 : iv_V call mc_1 rt 518 L st w = iv_p2 st fun x y st' => if x = y then iv_V call mc_1 rt 626 L (st') w else iv_V call mc_1 rt 519 L (st') w := (iv_V_eq (I := (((738, 3), .if_icmp .eq 140, 626, 0, 0) : iv_I)) rfl).trans (by simp only [iv_go, iv_cnd, decide_eq_true_eq])
set_option maxRecDepth 20000 in
theorem e1_519 : iv_V call mc_1 rt 519 L st w = iv_V call mc_1 rt 520 L (.int 0 :: st) w := (iv_V_eq (I := (((741, 1), .iconst 0, 0, 0, 0) : iv_I)) rfl).trans (congrArg (fun c => iv_V call mc_1 rt 520 L (.int c :: st) w) li_o0)
set_option maxRecDepth 20000 in
theorem e1_520 : iv_V call mc_1 rt 520 L st w = iv_ret rt st w := iv_V_eq (I := (((742, 1), .ireturn, 0, 0, 0) : iv_I)) rfl
set_option maxRecDepth 20000 in
theorem e1_521 : iv_V call mc_1 rt 521 L st w = iv_lda L 1 fun x => iv_V call mc_1 rt 522 L (x :: st) w := iv_V_eq (I := (((743, 1), .aload_n 1, 0, 0, 0) : iv_I)) rfl
set_option maxRecDepth 20000 in
theorem e1_522 : iv_V call mc_1 rt 522 L st w = iv_lda L 0 fun x => iv_V call mc_1 rt 523 L (x :: st) w := iv_V_eq (I := (((744, 1), .aload_n 0, 0, 0, 0) : iv_I)) rfl
set_option maxRecDepth 20000 in
theorem e1_523 : iv_V call mc_1 rt 523 L st w = iv_ldi L 3 fun x => iv_V call mc_1 rt 524 L (.int x :: st) w := iv_V_eq (I := (((745, 1), .iload_n 3, 0, 0, 0) : iv_I)) rfl
set_option maxRecDepth 20000 in
theorem e1_524 : iv_V call mc_1 rt 524 L st w = iv_V call mc_1 rt 525 L (.int 1 :: st) w := (iv_V_eq (I := (((746, 1), .iconst 1, 0, 0, 0) : iv_I)) rfl).trans (congrArg (fun c => iv_V call mc_1 rt 525 L (.int c :: st) w) li_o1)
set_option maxRecDepth 20000 in
theorem e1_525 : iv_V call mc_1 rt 525 L st w = iv_p2 st fun x y st' => iv_V call mc_1 rt 526 L (.int (x + y) :: st') w := iv_V_eq (I := (((747, 1), .iadd, 0, 0, 0) : iv_I)) rfl
set_option maxRecDepth 20000 in
theorem e1_526 : iv_V call mc_1 rt 526 L st w = iv_ald w st iv_isI fun v st' => iv_V call mc_1 rt 527 L (v :: st') w := iv_V_eq (I := (((748, 1), .iaload, 0, 0, 0) : iv_I)) rfl
set_option maxRecDepth 20000 in
theorem e1_527 : iv_V call mc_1 rt 527 L st w = iv_lda L 0 fun x => iv_V call mc_1 rt 528 L (x :: st) w := iv_V_eq (I := (((749, 1), .aload_n 0, 0, 0, 0) : iv_I)) rfl
set_option maxRecDepth 20000 in
theorem e1_528 : iv_V call mc_1 rt 528 L st w = iv_ldi L 3 fun x => iv_V call mc_1 rt 529 L (.int x :: st) w := iv_V_eq (I := (((750, 1), .iload_n 3, 0, 0, 0) : iv_I)) rfl
set_option maxRecDepth 20000 in
theorem e1_529 : iv_V call mc_1 rt 529 L st w = iv_V call mc_1 rt 530 L (.int 2 :: st) w := (iv_V_eq (I := (((751, 1), .iconst 2, 0, 0, 0) : iv_I)) rfl).trans (congrArg (fun c => iv_V call mc_1 rt 530 L (.int c :: st) w) li_o2)
set_option maxRecDepth 20000 in
theorem e1_530 : iv_V call mc_1 rt 530 L st w = iv_p2 st fun x y st' => iv_V call mc_1 rt 531 L (.int (x + y) :: st') w := iv_V_eq (I := (((752, 1), .iadd, 0, 0, 0) : iv_I)) rfl
set_option maxRecDepth 20000 in
theorem e1_531 : iv_V call mc_1 rt 531 L st w = iv_ald w st iv_isI fun v st' => iv_V call mc_1 rt 532 L (v :: st') w := iv_V_eq (I := (((753, 1), .iaload, 0, 0, 0) : iv_I)) rfl
set_option maxRecDepth 20000 in
theorem e1_532 : iv_V call mc_1 rt 532 L st w = iv_lda L 0 fun x => iv_V call mc_1 rt 533 L (x :: st) w := iv_V_eq (I := (((754, 1), .aload_n 0, 0, 0, 0) : iv_I)) rfl
set_option maxRecDepth 20000 in
theorem e1_533 : iv_V call mc_1 rt 533 L st w = iv_ldi L 3 fun x => iv_V call mc_1 rt 534 L (.int x :: st) w := iv_V_eq (I := (((755, 1), .iload_n 3, 0, 0, 0) : iv_I)) rfl
set_option maxRecDepth 20000 in
theorem e1_534 : iv_V call mc_1 rt 534 L st w = iv_V call mc_1 rt 535 L (.int 3 :: st) w := (iv_V_eq (I := (((756, 1), .iconst 3, 0, 0, 0) : iv_I)) rfl).trans (congrArg (fun c => iv_V call mc_1 rt 535 L (.int c :: st) w) li_o3)
set_option maxRecDepth 20000 in
theorem e1_535 : iv_V call mc_1 rt 535 L st w = iv_p2 st fun x y st' => iv_V call mc_1 rt 536 L (.int (x + y) :: st') w := iv_V_eq (I := (((757, 1), .iadd, 0, 0, 0) : iv_I)) rfl
set_option maxRecDepth 20000 in
theorem e1_536 : iv_V call mc_1 rt 536 L st w = iv_ald w st iv_isI fun v st' => iv_V call mc_1 rt 537 L (v :: st') w := iv_V_eq (I := (((758, 1), .iaload, 0, 0, 0) : iv_I)) rfl
set_option maxRecDepth 20000 in
theorem e1_537 : iv_V call mc_1 rt 537 L st w = iv_inv call 18 4 (fun as => iv_rc w as (iv_mc 18)) st w fun st' w' => iv_V call mc_1 rt 538 L (st') w' := iv_V_eq (I := (((759, 3), .invokevirtual 82, 18, 4, 556) : iv_I)) rfl
set_option maxRecDepth 20000 in
theorem e1_538 : iv_V call mc_1 rt 538 L st w = iv_lda L 2 fun x => iv_V call mc_1 rt 539 L (x :: st) w := iv_V_eq (I := (((762, 1), .aload_n 2, 0, 0, 0) : iv_I)) rfl
set_option maxRecDepth 20000 in
theorem e1_539 : iv_V call mc_1 rt 539 L st w = iv_lda L 0 fun x => iv_V call mc_1 rt 540 L (x :: st) w := iv_V_eq (I := (((763, 1), .aload_n 0, 0, 0, 0) : iv_I)) rfl
set_option maxRecDepth 20000 in
theorem e1_540 : iv_V call mc_1 rt 540 L st w = iv_ldi L 3 fun x => iv_V call mc_1 rt 541 L (.int x :: st) w := iv_V_eq (I := (((764, 1), .iload_n 3, 0, 0, 0) : iv_I)) rfl
set_option maxRecDepth 20000 in
theorem e1_541 : iv_V call mc_1 rt 541 L st w = iv_V call mc_1 rt 542 L (.int 1 :: st) w := (iv_V_eq (I := (((765, 1), .iconst 1, 0, 0, 0) : iv_I)) rfl).trans (congrArg (fun c => iv_V call mc_1 rt 542 L (.int c :: st) w) li_o1)
set_option maxRecDepth 20000 in
theorem e1_542 : iv_V call mc_1 rt 542 L st w = iv_p2 st fun x y st' => iv_V call mc_1 rt 543 L (.int (x + y) :: st') w := iv_V_eq (I := (((766, 1), .iadd, 0, 0, 0) : iv_I)) rfl
set_option maxRecDepth 20000 in
theorem e1_543 : iv_V call mc_1 rt 543 L st w = iv_ald w st iv_isI fun v st' => iv_V call mc_1 rt 544 L (v :: st') w := iv_V_eq (I := (((767, 1), .iaload, 0, 0, 0) : iv_I)) rfl
set_option maxRecDepth 20000 in
theorem e1_544 : iv_V call mc_1 rt 544 L st w = iv_lda L 0 fun x => iv_V call mc_1 rt 545 L (x :: st) w := iv_V_eq (I := (((768, 1), .aload_n 0, 0, 0, 0) : iv_I)) rfl
set_option maxRecDepth 20000 in
theorem e1_545 : iv_V call mc_1 rt 545 L st w = iv_ldi L 3 fun x => iv_V call mc_1 rt 546 L (.int x :: st) w := iv_V_eq (I := (((769, 1), .iload_n 3, 0, 0, 0) : iv_I)) rfl
set_option maxRecDepth 20000 in
theorem e1_546 : iv_V call mc_1 rt 546 L st w = iv_V call mc_1 rt 547 L (.int 2 :: st) w := (iv_V_eq (I := (((770, 1), .iconst 2, 0, 0, 0) : iv_I)) rfl).trans (congrArg (fun c => iv_V call mc_1 rt 547 L (.int c :: st) w) li_o2)
set_option maxRecDepth 20000 in
theorem e1_547 : iv_V call mc_1 rt 547 L st w = iv_p2 st fun x y st' => iv_V call mc_1 rt 548 L (.int (x + y) :: st') w := iv_V_eq (I := (((771, 1), .iadd, 0, 0, 0) : iv_I)) rfl
set_option maxRecDepth 20000 in
theorem e1_548 : iv_V call mc_1 rt 548 L st w = iv_ald w st iv_isI fun v st' => iv_V call mc_1 rt 549 L (v :: st') w := iv_V_eq (I := (((772, 1), .iaload, 0, 0, 0) : iv_I)) rfl
set_option maxRecDepth 20000 in
theorem e1_549 : iv_V call mc_1 rt 549 L st w = iv_lda L 0 fun x => iv_V call mc_1 rt 550 L (x :: st) w := iv_V_eq (I := (((773, 1), .aload_n 0, 0, 0, 0) : iv_I)) rfl
set_option maxRecDepth 20000 in
theorem e1_550 : iv_V call mc_1 rt 550 L st w = iv_ldi L 3 fun x => iv_V call mc_1 rt 551 L (.int x :: st) w := iv_V_eq (I := (((774, 1), .iload_n 3, 0, 0, 0) : iv_I)) rfl
set_option maxRecDepth 20000 in
theorem e1_551 : iv_V call mc_1 rt 551 L st w = iv_V call mc_1 rt 552 L (.int 3 :: st) w := (iv_V_eq (I := (((775, 1), .iconst 3, 0, 0, 0) : iv_I)) rfl).trans (congrArg (fun c => iv_V call mc_1 rt 552 L (.int c :: st) w) li_o3)
set_option maxRecDepth 20000 in
theorem e1_552 : iv_V call mc_1 rt 552 L st w = iv_p2 st fun x y st' => iv_V call mc_1 rt 553 L (.int (x + y) :: st') w := iv_V_eq (I := (((776, 1), .iadd, 0, 0, 0) : iv_I)) rfl
set_option maxRecDepth 20000 in
theorem e1_553 : iv_V call mc_1 rt 553 L st w = iv_ald w st iv_isI fun v st' => iv_V call mc_1 rt 554 L (v :: st') w := iv_V_eq (I := (((777, 1), .iaload, 0, 0, 0) : iv_I)) rfl
set_option maxRecDepth 20000 in
theorem e1_554 : iv_V call mc_1 rt 554 L st w = iv_inv call 57 4 (fun as => iv_rc w as (iv_mc 57)) st w fun st' w' => iv_V call mc_1 rt 555 L (st') w' := iv_V_eq (I := (((778, 3), .invokevirtual 86, 57, 4, 870) : iv_I)) rfl
set_option maxRecDepth 20000 in
theorem e1_555 : iv_V call mc_1 rt 555 L st w = iv_p2 st fun x y st' => if x = y then iv_V call mc_1 rt 626 L (st') w else iv_V call mc_1 rt 556 L (st') w := (iv_V_eq (I := (((781, 3), .if_icmp .eq 97, 626, 0, 0) : iv_I)) rfl).trans (by simp only [iv_go, iv_cnd, decide_eq_true_eq])
set_option maxRecDepth 20000 in
theorem e1_556 : iv_V call mc_1 rt 556 L st w = iv_V call mc_1 rt 557 L (.int 0 :: st) w := (iv_V_eq (I := (((784, 1), .iconst 0, 0, 0, 0) : iv_I)) rfl).trans (congrArg (fun c => iv_V call mc_1 rt 557 L (.int c :: st) w) li_o0)
set_option maxRecDepth 20000 in
theorem e1_557 : iv_V call mc_1 rt 557 L st w = iv_ret rt st w := iv_V_eq (I := (((785, 1), .ireturn, 0, 0, 0) : iv_I)) rfl
set_option maxRecDepth 20000 in
theorem e1_558 : iv_V call mc_1 rt 558 L st w = iv_lda L 1 fun x => iv_V call mc_1 rt 559 L (x :: st) w := iv_V_eq (I := (((786, 1), .aload_n 1, 0, 0, 0) : iv_I)) rfl
set_option maxRecDepth 20000 in
theorem e1_559 : iv_V call mc_1 rt 559 L st w = iv_inv call 19 1 (fun as => iv_rc w as (iv_mc 19)) st w fun st' w' => iv_V call mc_1 rt 560 L (st') w' := iv_V_eq (I := (((787, 3), .invokevirtual 87, 19, 1, 561) : iv_I)) rfl
set_option maxRecDepth 20000 in
theorem e1_560 : iv_V call mc_1 rt 560 L st w = iv_lda L 2 fun x => iv_V call mc_1 rt 561 L (x :: st) w := iv_V_eq (I := (((790, 1), .aload_n 2, 0, 0, 0) : iv_I)) rfl
set_option maxRecDepth 20000 in
theorem e1_561 : iv_V call mc_1 rt 561 L st w = iv_inv call 58 1 (fun as => iv_rc w as (iv_mc 58)) st w fun st' w' => iv_V call mc_1 rt 562 L (st') w' := iv_V_eq (I := (((791, 3), .invokevirtual 91, 58, 1, 874) : iv_I)) rfl
set_option maxRecDepth 20000 in
theorem e1_562 : iv_V call mc_1 rt 562 L st w = iv_p2 st fun x y st' => if x = y then iv_V call mc_1 rt 626 L (st') w else iv_V call mc_1 rt 563 L (st') w := (iv_V_eq (I := (((794, 3), .if_icmp .eq 84, 626, 0, 0) : iv_I)) rfl).trans (by simp only [iv_go, iv_cnd, decide_eq_true_eq])
set_option maxRecDepth 20000 in
theorem e1_563 : iv_V call mc_1 rt 563 L st w = iv_V call mc_1 rt 564 L (.int 0 :: st) w := (iv_V_eq (I := (((797, 1), .iconst 0, 0, 0, 0) : iv_I)) rfl).trans (congrArg (fun c => iv_V call mc_1 rt 564 L (.int c :: st) w) li_o0)
set_option maxRecDepth 20000 in
theorem e1_564 : iv_V call mc_1 rt 564 L st w = iv_ret rt st w := iv_V_eq (I := (((798, 1), .ireturn, 0, 0, 0) : iv_I)) rfl
set_option maxRecDepth 20000 in
theorem e1_565 : iv_V call mc_1 rt 565 L st w = iv_lda L 1 fun x => iv_V call mc_1 rt 566 L (x :: st) w := iv_V_eq (I := (((799, 1), .aload_n 1, 0, 0, 0) : iv_I)) rfl
set_option maxRecDepth 20000 in
theorem e1_566 : iv_V call mc_1 rt 566 L st w = iv_inv call 20 1 (fun as => iv_rc w as (iv_mc 20)) st w fun st' w' => iv_V call mc_1 rt 567 L (st') w' := iv_V_eq (I := (((800, 3), .invokevirtual 92, 20, 1, 565) : iv_I)) rfl
set_option maxRecDepth 20000 in
theorem e1_567 : iv_V call mc_1 rt 567 L st w = iv_lda L 2 fun x => iv_V call mc_1 rt 568 L (x :: st) w := iv_V_eq (I := (((803, 1), .aload_n 2, 0, 0, 0) : iv_I)) rfl
set_option maxRecDepth 20000 in
theorem e1_568 : iv_V call mc_1 rt 568 L st w = iv_inv call 59 1 (fun as => iv_rc w as (iv_mc 59)) st w fun st' w' => iv_V call mc_1 rt 569 L (st') w' := iv_V_eq (I := (((804, 3), .invokevirtual 95, 59, 1, 878) : iv_I)) rfl
set_option maxRecDepth 20000 in
theorem e1_569 : iv_V call mc_1 rt 569 L st w = iv_p2 st fun x y st' => if x = y then iv_V call mc_1 rt 626 L (st') w else iv_V call mc_1 rt 570 L (st') w := (iv_V_eq (I := (((807, 3), .if_icmp .eq 71, 626, 0, 0) : iv_I)) rfl).trans (by simp only [iv_go, iv_cnd, decide_eq_true_eq])
set_option maxRecDepth 20000 in
theorem e1_570 : iv_V call mc_1 rt 570 L st w = iv_V call mc_1 rt 571 L (.int 0 :: st) w := (iv_V_eq (I := (((810, 1), .iconst 0, 0, 0, 0) : iv_I)) rfl).trans (congrArg (fun c => iv_V call mc_1 rt 571 L (.int c :: st) w) li_o0)
set_option maxRecDepth 20000 in
theorem e1_571 : iv_V call mc_1 rt 571 L st w = iv_ret rt st w := iv_V_eq (I := (((811, 1), .ireturn, 0, 0, 0) : iv_I)) rfl
set_option maxRecDepth 20000 in
theorem e1_572 : iv_V call mc_1 rt 572 L st w = iv_lda L 1 fun x => iv_V call mc_1 rt 573 L (x :: st) w := iv_V_eq (I := (((812, 1), .aload_n 1, 0, 0, 0) : iv_I)) rfl
set_option maxRecDepth 20000 in
theorem e1_573 : iv_V call mc_1 rt 573 L st w = iv_lda L 0 fun x => iv_V call mc_1 rt 574 L (x :: st) w := iv_V_eq (I := (((813, 1), .aload_n 0, 0, 0, 0) : iv_I)) rfl
set_option maxRecDepth 20000 in
theorem e1_574 : iv_V call mc_1 rt 574 L st w = iv_ldi L 3 fun x => iv_V call mc_1 rt 575 L (.int x :: st) w := iv_V_eq (I := (((814, 1), .iload_n 3, 0, 0, 0) : iv_I)) rfl
set_option maxRecDepth 20000 in
theorem e1_575 : iv_V call mc_1 rt 575 L st w = iv_V call mc_1 rt 576 L (.int 1 :: st) w := (iv_V_eq (I := (((815, 1), .iconst 1, 0, 0, 0) : iv_I)) rfl).trans (congrArg (fun c => iv_V call mc_1 rt 576 L (.int c :: st) w) li_o1)
set_option maxRecDepth 20000 in
theorem e1_576 : iv_V call mc_1 rt 576 L st w = iv_p2 st fun x y st' => iv_V call mc_1 rt 577 L (.int (x + y) :: st') w := iv_V_eq (I := (((816, 1), .iadd, 0, 0, 0) : iv_I)) rfl
set_option maxRecDepth 20000 in
theorem e1_577 : iv_V call mc_1 rt 577 L st w = iv_ald w st iv_isI fun v st' => iv_V call mc_1 rt 578 L (v :: st') w := iv_V_eq (I := (((817, 1), .iaload, 0, 0, 0) : iv_I)) rfl
set_option maxRecDepth 20000 in
theorem e1_578 : iv_V call mc_1 rt 578 L st w = iv_lda L 0 fun x => iv_V call mc_1 rt 579 L (x :: st) w := iv_V_eq (I := (((818, 1), .aload_n 0, 0, 0, 0) : iv_I)) rfl
set_option maxRecDepth 20000 in
theorem e1_579 : iv_V call mc_1 rt 579 L st w = iv_ldi L 3 fun x => iv_V call mc_1 rt 580 L (.int x :: st) w := iv_V_eq (I := (((819, 1), .iload_n 3, 0, 0, 0) : iv_I)) rfl
set_option maxRecDepth 20000 in
theorem e1_580 : iv_V call mc_1 rt 580 L st w = iv_V call mc_1 rt 581 L (.int 2 :: st) w := (iv_V_eq (I := (((820, 1), .iconst 2, 0, 0, 0) : iv_I)) rfl).trans (congrArg (fun c => iv_V call mc_1 rt 581 L (.int c :: st) w) li_o2)
set_option maxRecDepth 20000 in
theorem e1_581 : iv_V call mc_1 rt 581 L st w = iv_p2 st fun x y st' => iv_V call mc_1 rt 582 L (.int (x + y) :: st') w := iv_V_eq (I := (((821, 1), .iadd, 0, 0, 0) : iv_I)) rfl
set_option maxRecDepth 20000 in
theorem e1_582 : iv_V call mc_1 rt 582 L st w = iv_ald w st iv_isI fun v st' => iv_V call mc_1 rt 583 L (v :: st') w := iv_V_eq (I := (((822, 1), .iaload, 0, 0, 0) : iv_I)) rfl
set_option maxRecDepth 20000 in
theorem e1_583 : iv_V call mc_1 rt 583 L st w = iv_inv call 21 3 (fun as => iv_rc w as (iv_mc 21)) st w fun st' w' => iv_V call mc_1 rt 584 L (st') w' := iv_V_eq (I := (((823, 3), .invokevirtual 96, 21, 3, 569) : iv_I)) rfl
set_option maxRecDepth 20000 in
theorem e1_584 : iv_V call mc_1 rt 584 L st w = iv_lda L 2 fun x => iv_V call mc_1 rt 585 L (x :: st) w := iv_V_eq (I := (((826, 1), .aload_n 2, 0, 0, 0) : iv_I)) rfl
set_option maxRecDepth 20000 in
theorem e1_585 : iv_V call mc_1 rt 585 L st w = iv_lda L 0 fun x => iv_V call mc_1 rt 586 L (x :: st) w := iv_V_eq (I := (((827, 1), .aload_n 0, 0, 0, 0) : iv_I)) rfl
set_option maxRecDepth 20000 in
theorem e1_586 : iv_V call mc_1 rt 586 L st w = iv_ldi L 3 fun x => iv_V call mc_1 rt 587 L (.int x :: st) w := iv_V_eq (I := (((828, 1), .iload_n 3, 0, 0, 0) : iv_I)) rfl
set_option maxRecDepth 20000 in
theorem e1_587 : iv_V call mc_1 rt 587 L st w = iv_V call mc_1 rt 588 L (.int 1 :: st) w := (iv_V_eq (I := (((829, 1), .iconst 1, 0, 0, 0) : iv_I)) rfl).trans (congrArg (fun c => iv_V call mc_1 rt 588 L (.int c :: st) w) li_o1)
set_option maxRecDepth 20000 in
theorem e1_588 : iv_V call mc_1 rt 588 L st w = iv_p2 st fun x y st' => iv_V call mc_1 rt 589 L (.int (x + y) :: st') w := iv_V_eq (I := (((830, 1), .iadd, 0, 0, 0) : iv_I)) rfl
set_option maxRecDepth 20000 in
theorem e1_589 : iv_V call mc_1 rt 589 L st w = iv_ald w st iv_isI fun v st' => iv_V call mc_1 rt 590 L (v :: st') w := iv_V_eq (I := (((831, 1), .iaload, 0, 0, 0) : iv_I)) rfl
set_option maxRecDepth 20000 in
theorem e1_590 : iv_V call mc_1 rt 590 L st w = iv_lda L 0 fun x => iv_V call mc_1 rt 591 L (x :: st) w := iv_V_eq (I := (((832, 1), .aload_n 0, 0, 0, 0) : iv_I)) rfl
set_option maxRecDepth 20000 in
theorem e1_591 : iv_V call mc_1 rt 591 L st w = iv_ldi L 3 fun x => iv_V call mc_1 rt 592 L (.int x :: st) w := iv_V_eq (I := (((833, 1), .iload_n 3, 0, 0, 0) : iv_I)) rfl
set_option maxRecDepth 20000 in
theorem e1_592 : iv_V call mc_1 rt 592 L st w = iv_V call mc_1 rt 593 L (.int 2 :: st) w := (iv_V_eq (I := (((834, 1), .iconst 2, 0, 0, 0) : iv_I)) rfl).trans (congrArg (fun c => iv_V call mc_1 rt 593 L (.int c :: st) w) li_o2)
set_option maxRecDepth 20000 in
theorem e1_593 : iv_V call mc_1 rt 593 L st w = iv_p2 st fun x y st' => iv_V call mc_1 rt 594 L (.int (x + y) :: st') w := iv_V_eq (I := (((835, 1), .iadd, 0, 0, 0) : iv_I)) rfl
set_option maxRecDepth 20000 in
theorem e1_594 : iv_V call mc_1 rt 594 L st w = iv_ald w st iv_isI fun v st' => iv_V call mc_1 rt 595 L (v :: st') w := iv_V_eq (I := (((836, 1), .iaload, 0, 0, 0) : iv_I)) rfl
set_option maxRecDepth 20000 in
theorem e1_595 : iv_V call mc_1 rt 595 L st w = iv_inv call 60 3 (fun as => iv_rc w as (iv_mc 60)) st w fun st' w' => iv_V call mc_1 rt 596 L (st') w' := iv_V_eq (I := (((837, 3), .invokevirtual 99, 60, 3, 882) : iv_I)) rfl
set_option maxRecDepth 20000 in
theorem e1_596 : iv_V call mc_1 rt 596 L st w = iv_p2 st fun x y st' => if x = y then iv_V call mc_1 rt 626 L (st') w else iv_V call mc_1 rt 597 L (st') w := (iv_V_eq (I := (((840, 3), .if_icmp .eq 38, 626, 0, 0) : iv_I)) rfl).trans (by simp only [iv_go, iv_cnd, decide_eq_true_eq])
set_option maxRecDepth 20000 in
theorem e1_597 : iv_V call mc_1 rt 597 L st w = iv_V call mc_1 rt 598 L (.int 0 :: st) w := (iv_V_eq (I := (((843, 1), .iconst 0, 0, 0, 0) : iv_I)) rfl).trans (congrArg (fun c => iv_V call mc_1 rt 598 L (.int c :: st) w) li_o0)
set_option maxRecDepth 20000 in
theorem e1_598 : iv_V call mc_1 rt 598 L st w = iv_ret rt st w := iv_V_eq (I := (((844, 1), .ireturn, 0, 0, 0) : iv_I)) rfl
set_option maxRecDepth 20000 in
theorem e1_599 : iv_V call mc_1 rt 599 L st w = iv_lda L 1 fun x => iv_V call mc_1 rt 600 L (x :: st) w := iv_V_eq (I := (((845, 1), .aload_n 1, 0, 0, 0) : iv_I)) rfl
set_option maxRecDepth 20000 in
theorem e1_600 : iv_V call mc_1 rt 600 L st w = iv_lda L 0 fun x => iv_V call mc_1 rt 601 L (x :: st) w := iv_V_eq (I := (((846, 1), .aload_n 0, 0, 0, 0) : iv_I)) rfl
set_option maxRecDepth 20000 in
theorem e1_601 : iv_V call mc_1 rt 601 L st w = iv_ldi L 3 fun x => iv_V call mc_1 rt 602 L (.int x :: st) w := iv_V_eq (I := (((847, 1), .iload_n 3, 0, 0, 0) : iv_I)) rfl
set_option maxRecDepth 20000 in
theorem e1_602 : iv_V call mc_1 rt 602 L st w = iv_V call mc_1 rt 603 L (.int 1 :: st) w := (iv_V_eq (I := (((848, 1), .iconst 1, 0, 0, 0) : iv_I)) rfl).trans (congrArg (fun c => iv_V call mc_1 rt 603 L (.int c :: st) w) li_o1)
set_option maxRecDepth 20000 in
theorem e1_603 : iv_V call mc_1 rt 603 L st w = iv_p2 st fun x y st' => iv_V call mc_1 rt 604 L (.int (x + y) :: st') w := iv_V_eq (I := (((849, 1), .iadd, 0, 0, 0) : iv_I)) rfl
set_option maxRecDepth 20000 in
theorem e1_604 : iv_V call mc_1 rt 604 L st w = iv_ald w st iv_isI fun v st' => iv_V call mc_1 rt 605 L (v :: st') w := iv_V_eq (I := (((850, 1), .iaload, 0, 0, 0) : iv_I)) rfl
set_option maxRecDepth 20000 in
theorem e1_605 : iv_V call mc_1 rt 605 L st w = iv_lda L 0 fun x => iv_V call mc_1 rt 606 L (x :: st) w := iv_V_eq (I := (((851, 1), .aload_n 0, 0, 0, 0) : iv_I)) rfl
set_option maxRecDepth 20000 in
theorem e1_606 : iv_V call mc_1 rt 606 L st w = iv_ldi L 3 fun x => iv_V call mc_1 rt 607 L (.int x :: st) w := iv_V_eq (I := (((852, 1), .iload_n 3, 0, 0, 0) : iv_I)) rfl
set_option maxRecDepth 20000 in
theorem e1_607 : iv_V call mc_1 rt 607 L st w = iv_V call mc_1 rt 608 L (.int 2 :: st) w := (iv_V_eq (I := (((853, 1), .iconst 2, 0, 0, 0) : iv_I)) rfl).trans (congrArg (fun c => iv_V call mc_1 rt 608 L (.int c :: st) w) li_o2)
set_option maxRecDepth 20000 in
theorem e1_608 : iv_V call mc_1 rt 608 L st w = iv_p2 st fun x y st' => iv_V call mc_1 rt 609 L (.int (x + y) :: st') w := iv_V_eq (I := (((854, 1), .iadd, 0, 0, 0) : iv_I)) rfl
set_option maxRecDepth 20000 in
theorem e1_609 : iv_V call mc_1 rt 609 L st w = iv_ald w st iv_isI fun v st' => iv_V call mc_1 rt 610 L (v :: st') w := iv_V_eq (I := (((855, 1), .iaload, 0, 0, 0) : iv_I)) rfl
set_option maxRecDepth 20000 in
theorem e1_610 : iv_V call mc_1 rt 610 L st w = iv_inv call 22 3 (fun as => iv_rc w as (iv_mc 22)) st w fun st' w' => iv_V call mc_1 rt 611 L (st') w' := iv_V_eq (I := (((856, 3), .invokevirtual 100, 22, 3, 577) : iv_I)) rfl
set_option maxRecDepth 20000 in
theorem e1_611 : iv_V call mc_1 rt 611 L st w = iv_lda L 2 fun x => iv_V call mc_1 rt 612 L (x :: st) w := iv_V_eq (I := (((859, 1), .aload_n 2, 0, 0, 0) : iv_I)) rfl
set_option maxRecDepth 20000 in
theorem e1_612 : iv_V call mc_1 rt 612 L st w = iv_lda L 0 fun x => iv_V call mc_1 rt 613 L (x :: st) w := iv_V_eq (I := (((860, 1), .aload_n 0, 0, 0, 0) : iv_I)) rfl
set_option maxRecDepth 20000 in
theorem e1_613 : iv_V call mc_1 rt 613 L st w = iv_ldi L 3 fun x => iv_V call mc_1 rt 614 L (.int x :: st) w := iv_V_eq (I := (((861, 1), .iload_n 3, 0, 0, 0) : iv_I)) rfl
set_option maxRecDepth 20000 in
theorem e1_614 : iv_V call mc_1 rt 614 L st w = iv_V call mc_1 rt 615 L (.int 1 :: st) w := (iv_V_eq (I := (((862, 1), .iconst 1, 0, 0, 0) : iv_I)) rfl).trans (congrArg (fun c => iv_V call mc_1 rt 615 L (.int c :: st) w) li_o1)
set_option maxRecDepth 20000 in
theorem e1_615 : iv_V call mc_1 rt 615 L st w = iv_p2 st fun x y st' => iv_V call mc_1 rt 616 L (.int (x + y) :: st') w := iv_V_eq (I := (((863, 1), .iadd, 0, 0, 0) : iv_I)) rfl
set_option maxRecDepth 20000 in
theorem e1_616 : iv_V call mc_1 rt 616 L st w = iv_ald w st iv_isI fun v st' => iv_V call mc_1 rt 617 L (v :: st') w := iv_V_eq (I := (((864, 1), .iaload, 0, 0, 0) : iv_I)) rfl
set_option maxRecDepth 20000 in
theorem e1_617 : iv_V call mc_1 rt 617 L st w = iv_lda L 0 fun x => iv_V call mc_1 rt 618 L (x :: st) w := iv_V_eq (I := (((865, 1), .aload_n 0, 0, 0, 0) : iv_I)) rfl
set_option maxRecDepth 20000 in
theorem e1_618 : iv_V call mc_1 rt 618 L st w = iv_ldi L 3 fun x => iv_V call mc_1 rt 619 L (.int x :: st) w := iv_V_eq (I := (((866, 1), .iload_n 3, 0, 0, 0) : iv_I)) rfl
set_option maxRecDepth 20000 in
theorem e1_619 : iv_V call mc_1 rt 619 L st w = iv_V call mc_1 rt 620 L (.int 2 :: st) w := (iv_V_eq (I := (((867, 1), .iconst 2, 0, 0, 0) : iv_I)) rfl).trans (congrArg (fun c => iv_V call mc_1 rt 620 L (.int c :: st) w) li_o2)
set_option maxRecDepth 20000 in
theorem e1_620 : iv_V call mc_1 rt 620 L st w = iv_p2 st fun x y st' => iv_V call mc_1 rt 621 L (.int (x + y) :: st') w := iv_V_eq (I := (((868, 1), .iadd, 0, 0, 0) : iv_I)) rfl
set_option maxRecDepth 20000 in
theorem e1_621 : iv_V call mc_1 rt 621 L st w = iv_ald w st iv_isI fun v st' => iv_V call mc_1 rt 622 L (v :: st') w := iv_V_eq (I := (((869, 1), .iaload, 0, 0, 0) : iv_I)) rfl
set_option maxRecDepth 20000 in
theorem e1_622 : iv_V call mc_1 rt 622 L st w = iv_inv call 63 3 (fun as => iv_rc w as (iv_mc 63)) st w fun st' w' => iv_V call mc_1 rt 623 L (st') w' := iv_V_eq (I := (((870, 3), .invokevirtual 103, 63, 3, 886) : iv_I)) rfl
set_option maxRecDepth 20000 in
theorem e1_623 : iv_V call mc_1 rt 623 L st w = iv_p2 st fun x y st' => if x = y then iv_V call mc_1 rt 626 L (st') w else iv_V call mc_1 rt 624 L (st') w := (iv_V_eq (I := (((873, 3), .if_icmp .eq 5, 626, 0, 0) : iv_I)) rfl).trans (by simp only [iv_go, iv_cnd, decide_eq_true_eq])
set_option maxRecDepth 20000 in
theorem e1_624 : iv_V call mc_1 rt 624 L st w = iv_V call mc_1 rt 625 L (.int 0 :: st) w := (iv_V_eq (I := (((876, 1), .iconst 0, 0, 0, 0) : iv_I)) rfl).trans (congrArg (fun c => iv_V call mc_1 rt 625 L (.int c :: st) w) li_o0)
set_option maxRecDepth 20000 in
theorem e1_625 : iv_V call mc_1 rt 625 L st w = iv_ret rt st w := iv_V_eq (I := (((877, 1), .ireturn, 0, 0, 0) : iv_I)) rfl
set_option maxRecDepth 20000 in
theorem e1_626 : iv_V call mc_1 rt 626 L st w = iv_ldi L 3 fun x => iv_sto L 3 (.int (x + 7)) fun L' => iv_V call mc_1 rt 627 L' (st) w := (iv_V_eq (I := (((878, 3), .iinc 3 7, 0, 0, 0) : iv_I)) rfl).trans (congrArg (fun c => iv_ldi L 3 fun x => iv_sto L 3 (.int (x + c)) fun L' => iv_V call mc_1 rt 627 L' (st) w) li_o7)
set_option maxRecDepth 20000 in
theorem e1_627 : iv_V call mc_1 rt 627 L st w = iv_V call mc_1 rt 10 L (st) w := iv_V_eq (I := (((881, 3), .goto (-863), 10, 0, 0) : iv_I)) rfl
set_option maxRecDepth 20000 in
theorem e1_628 : iv_V call mc_1 rt 628 L st w = iv_V call mc_1 rt 629 L (.int 1 :: st) w := (iv_V_eq (I := (((884, 1), .iconst 1, 0, 0, 0) : iv_I)) rfl).trans (congrArg (fun c => iv_V call mc_1 rt 629 L (.int c :: st) w) li_o1)
set_option maxRecDepth 20000 in
theorem e1_629 : iv_V call mc_1 rt 629 L st w = iv_ret rt st w := iv_V_eq (I := (((885, 1), .ireturn, 0, 0, 0) : iv_I)) rfl
end IVS0
