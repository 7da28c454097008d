/-! a run that succeeds goes the same way where there are more cells -/
def iv_ext (e : Nat → Option iv_C) (w : iv_S) : iv_S := (fun k => match w.1 k with
  | some c => some c
  | none => e k, w.2)
theorem iv_ext_at {e : Nat → Option iv_C} {w : iv_S} {a : Nat} {c : iv_C} (h : w.1 a = some c) : (iv_ext e w).1 a = some c := by
  simp only [iv_ext, h]
theorem iv_ext_put {e : Nat → Option iv_C} {w : iv_S} {a n z : Nat} {c : iv_C} : iv_ext e (iv_put w.1 a c, n, z) = (iv_put (iv_ext e w).1 a c, n, z) := by
  unfold iv_ext iv_put
  refine Prod.ext (funext fun k => ?_) rfl
  dsimp only
  by_cases h : k = a
  · rw [if_pos h, if_pos h]
  · rw [if_neg h, if_neg h]
section IVX
variable {e : Nat → Option iv_C} {code : List iv_I} {rt : Option FieldType} {k : Nat} {L st : List Value} {w : iv_S} {r r' : Option Value × iv_S}
theorem iv_x_p1 {q q' : Int32 → List Value → iv_R} (hq : ∀ x st', q x st' = some r → q' x st' = some r') (h : iv_p1 st q = some r) : iv_p1 st q' = some r' := by
  unfold iv_p1 at h ⊢
  split at h
  · exact hq _ _ h
  · cases h
theorem iv_x_p2 {q q' : Int32 → Int32 → List Value → iv_R} (hq : ∀ x y st', q x y st' = some r → q' x y st' = some r') (h : iv_p2 st q = some r) : iv_p2 st q' = some r' := by
  unfold iv_p2 at h ⊢
  split at h
  · exact hq _ _ _ h
  · cases h
theorem iv_x_ldi {i : Nat} {q q' : Int32 → iv_R} (hq : ∀ x, q x = some r → q' x = some r') (h : iv_ldi L i q = some r) : iv_ldi L i q' = some r' := by
  unfold iv_ldi at h ⊢
  split at h
  · exact hq _ h
  · cases h
theorem iv_x_lda {i : Nat} {q q' : Value → iv_R} (hq : ∀ x, q x = some r → q' x = some r') (h : iv_lda L i q = some r) : iv_lda L i q' = some r' := by
  unfold iv_lda at h ⊢
  split at h
  · exact hq _ h
  · exact hq _ h
  · cases h
theorem iv_x_sto {i : Nat} {a : Value} {q q' : List Value → iv_R} (hq : ∀ x, q x = some r → q' x = some r') (h : iv_sto L i a q = some r) : iv_sto L i a q' = some r' := by
  unfold iv_sto at h ⊢
  split at h
  · rename_i hl
    rw [if_pos hl]
    exact hq _ h
  · cases h
theorem iv_x_gf {x y : Nat} {q q' : Value → List Value → iv_R} (hq : ∀ a st', q a st' = some r → q' a st' = some r') (h : iv_gf w st x y q = some r) : iv_gf (iv_ext e w) st x y q' = some r' := by
  unfold iv_gf at h ⊢
  split at h
  · split at h
    · rename_i hw
      rw [iv_ext_at hw]
      dsimp only
      split at h
      · rename_i ht
        rw [if_pos ht]
        split at h
        · exact hq _ _ h
        · cases h
      · cases h
    · cases h
  · cases h
theorem iv_x_pf {x y : Nat} {q q' : List Value → iv_S → iv_R} (hq : ∀ st' w1, q st' w1 = some r → q' st' (iv_ext e w1) = some r') (h : iv_pf w st x y q = some r) : iv_pf (iv_ext e w) st x y q' = some r' := by
  unfold iv_pf at h ⊢
  split at h
  · split at h
    · rename_i hw
      rw [iv_ext_at hw]
      dsimp only
      split at h
      · rename_i ht
        rw [if_pos ht]
        split at h
        · rename_i hl
          rw [if_pos hl]
          split at h
          · rename_i hf
            rw [if_pos hf]
            have h1 := hq _ _ h
            rw [iv_ext_put] at h1
            exact h1
          · cases h
        · cases h
      · cases h
    · cases h
  · cases h
theorem iv_x_ald {f : FieldType → Bool} {q q' : Value → List Value → iv_R} (hq : ∀ a st', q a st' = some r → q' a st' = some r') (h : iv_ald w st f q = some r) : iv_ald (iv_ext e w) st f q' = some r' := by
  unfold iv_ald at h ⊢
  split at h
  · split at h
    · rename_i hw
      rw [iv_ext_at hw]
      dsimp only
      split at h
      · rename_i hty
        try rw [hty]
        try dsimp only
        split at h
        · rename_i hp
          rw [if_pos hp]
          split at h
          · cases h
          · rename_i hj
            rw [if_neg hj]
            split at h
            · exact hq _ _ h
            · cases h
        · cases h
      · cases h
    · cases h
  · cases h
theorem iv_x_ast {f : FieldType → Bool} {q q' : List Value → iv_S → iv_R} (hq : ∀ st' w1, q st' w1 = some r → q' st' (iv_ext e w1) = some r') (h : iv_ast w st f q = some r) : iv_ast (iv_ext e w) st f q' = some r' := by
  unfold iv_ast at h ⊢
  split at h
  · split at h
    · rename_i hw
      rw [iv_ext_at hw]
      dsimp only
      split at h
      · rename_i hty
        try rw [hty]
        try dsimp only
        split at h
        · rename_i hp
          rw [if_pos hp]
          split at h
          · cases h
          · rename_i h150
            rw [if_neg h150]
            split at h
            · cases h
            · rename_i hj
              rw [if_neg hj]
              split at h
              · rename_i hl
                rw [if_pos hl]
                have h1 := hq _ _ h
                rw [iv_ext_put] at h1
                exact h1
              · cases h
        · cases h
      · cases h
    · cases h
  · cases h
theorem iv_x_ust {q q' : List Value → iv_S → iv_R} (hq : ∀ st' w1, q st' w1 = some r → q' st' (iv_ext e w1) = some r') (h : iv_ust w st q = some r) : iv_ust (iv_ext e w) st q' = some r' := by
  unfold iv_ust at h ⊢
  split at h
  · split at h
    · rename_i hw hw0
      rw [iv_ext_at hw, iv_ext_at hw0]
      dsimp only
      split at h
      · rename_i hac
        rw [if_pos hac]
        split at h
        · cases h
        · rename_i hj
          rw [if_neg hj]
          split at h
          · rename_i hl
            rw [if_pos hl]
            have h1 := hq _ _ h
            rw [iv_ext_put] at h1
            exact h1
          · cases h
      · cases h
    · cases h
  · cases h
theorem iv_x_len {q q' : Int32 → List Value → iv_R} (hq : ∀ a st', q a st' = some r → q' a st' = some r') (h : iv_len w st q = some r) : iv_len (iv_ext e w) st q' = some r' := by
  unfold iv_len at h ⊢
  split at h
  · split at h
    · rename_i hw
      rw [iv_ext_at hw]
      dsimp only
      split at h
      · rename_i hty
        try rw [hty]
        exact hq _ _ h
      · cases h
    · cases h
  · cases h
theorem iv_x_nw {x : Nat} {q q' : Value → iv_S → iv_R} (hq : ∀ a w1, q a w1 = some r → q' a (iv_ext e w1) = some r') (h : iv_nw w x q = some r) : iv_nw (iv_ext e w) x q' = some r' := by
  unfold iv_nw at h ⊢
  split at h
  · have h1 := hq _ _ h
    rw [iv_ext_put] at h1
    exact h1
  · cases h
theorem iv_x_na {x : Nat} {a : Value} {n : Int32} {q q' : Value → iv_S → iv_R} (hq : ∀ a w1, q a w1 = some r → q' a (iv_ext e w1) = some r') (h : iv_na w x a n q = some r) : iv_na (iv_ext e w) x a n q' = some r' := by
  unfold iv_na at h ⊢
  split at h
  · cases h
  · rename_i hn
    rw [if_neg hn]
    split at h
    · rename_i hb
      rw [if_pos hb]
      have h1 := hq _ _ h
      rw [iv_ext_put] at h1
      exact h1
    · cases h
theorem iv_x_nm {x y : Nat} {a : Value} {n m : Int32} {q q' : Value → iv_S → iv_R} (hq : ∀ a w1, q a w1 = some r → q' a (iv_ext e w1) = some r') (h : iv_nm w x y a n m q = some r) : iv_nm (iv_ext e w) x y a n m q' = some r' := by
  unfold iv_nm at h ⊢
  split at h
  · cases h
  · rename_i hn
    rw [if_neg hn]
    split at h
    · cases h
    · rename_i hm
      rw [if_neg hm]
      split at h
      · rename_i hb
        rw [if_pos hb]
        split at h
        · rename_i hb2
          rw [if_pos hb2]
          have h1 := hq _ _ h
          rw [← h1]
          congr 1
          unfold iv_ext
          refine Prod.ext (funext fun j => ?_) rfl
          dsimp only
          split
          · rfl
          · split
            · rfl
            · rfl
        · cases h
      · cases h
theorem iv_x_sw {t : Int} {q q' : Nat → iv_R} (hq : ∀ j, q j = some r → q' j = some r') (h : iv_sw code t q = some r) : iv_sw code t q' = some r' := by
  unfold iv_sw at h ⊢
  split at h
  · exact hq _ h
  · cases h
theorem iv_x_inv {call call' : Nat → List Value → iv_S → iv_R} {x y : Nat} {f f' : List Value → Bool} {q q' : List Value → iv_S → iv_R} (hc : ∀ x as w r, call x as w = some r → call' x as (iv_ext e w) = some (r.1, iv_ext e r.2)) (hf : ∀ as, f as = true → f' as = true) (hq : ∀ st' w1, q st' w1 = some r → q' st' (iv_ext e w1) = some r') (h : iv_inv call x y f st w q = some r) : iv_inv call' x y f' st (iv_ext e w) q' = some r' := by
  unfold iv_inv at h ⊢
  split at h
  · rename_i h1
    rw [if_pos h1]
    split at h
    · rename_i h2
      rw [if_pos h2]
      split at h
      · rename_i h3
        rw [if_pos h3]
        split at h
        · rename_i h4
          rw [if_pos (hf _ h4)]
          split at h
          · rename_i u w1 hcc
            rw [hc _ _ _ _ hcc]
            exact hq _ _ h
          · cases h
        · cases h
      · cases h
    · cases h
  · cases h
theorem iv_x_rc {as : List Value} {t : Nat} (h : iv_rc w as t = true) : iv_rc (iv_ext e w) as t = true := by
  obtain ⟨b0, As, fs, rfl, hw⟩ := iv_rc_ok h
  unfold iv_rc
  dsimp only
  rw [iv_ext_at hw]
  exact decide_eq_true rfl
theorem iv_x_oi {q q' : List Value → iv_R} (hq : ∀ st', q st' = some r → q' st' = some r') (h : iv_oi st q = some r) : iv_oi st q' = some r' := by
  unfold iv_oi at h ⊢
  split at h
  · split at h
    · rename_i h1
      rw [if_pos h1]
      split at h
      · rename_i h2
        rw [if_pos h2]
        exact hq _ h
      · cases h
    · cases h
  · cases h
theorem iv_x_fin {op : Instr} (h : iv_fin rt op st w = some r) : iv_fin rt op st (iv_ext e w) = some (r.1, iv_ext e r.2) := by
  obtain ⟨v, w'⟩ := r
  obtain ⟨rfl, hcs⟩ := iv_fin_ok h
  rcases hcs with ⟨rfl, ty, x, rfl, rfl, rfl, hf⟩ | ⟨rfl, ty, a, rfl, rfl, rfl, hA, hf⟩ | ⟨rfl, rfl, rfl, rfl⟩
  · simp only [iv_fin, iv_ret, hf, if_true]
  · simp only [iv_fin, iv_rea, hA, hf, if_true]
  · rfl
set_option maxHeartbeats 4000000 in
theorem iv_go_x {call call' : Nat → List Value → iv_S → iv_R} {K K' : iv_Q} (hc : ∀ x as w r, call x as w = some r → call' x as (iv_ext e w) = some (r.1, iv_ext e r.2)) (hK : ∀ k L st w, K k L st w = some r → K' k L st (iv_ext e w) = some (r.1, iv_ext e r.2)) {I : iv_I} (h : iv_go call code rt K I k L st w = some r) : iv_go call' code rt K' I k L st (iv_ext e w) = some (r.1, iv_ext e r.2) := by
  obtain ⟨⟨pc, len⟩, op, x, y, u⟩ := I
  cases op
  case iconst n => exact hK _ _ _ _ h
  case bipush n => exact hK _ _ _ _ h
  case sipush n => exact hK _ _ _ _ h
  case aconst_null => exact hK _ _ _ _ h
  case goto off => exact hK _ _ _ _ h
  case ldc i => exact hK _ _ _ _ h
  case iload i => exact iv_x_ldi (fun _ h => hK _ _ _ _ h) h
  case iload_n i => exact iv_x_ldi (fun _ h => hK _ _ _ _ h) h
  case aload i => exact iv_x_lda (q := fun v => K (k + 1) L (v :: st) w) (q' := fun v => K' (k + 1) L (v :: st) (iv_ext e w)) (fun _ h => hK _ _ _ _ h) h
  case aload_n i => exact iv_x_lda (q := fun v => K (k + 1) L (v :: st) w) (q' := fun v => K' (k + 1) L (v :: st) (iv_ext e w)) (fun _ h => hK _ _ _ _ h) h
  case istore i => exact iv_x_p1 (fun _ _ h => iv_x_sto (fun _ h => hK _ _ _ _ h) h) h
  case istore_n i => exact iv_x_p1 (fun _ _ h => iv_x_sto (fun _ h => hK _ _ _ _ h) h) h
  case astore i => 
    unfold iv_go at h ⊢
    dsimp only at h ⊢
    split at h
    · exact iv_x_sto (fun _ h => hK _ _ _ _ h) h
    · cases h
  case astore_n i => 
    unfold iv_go at h ⊢
    dsimp only at h ⊢
    split at h
    · exact iv_x_sto (fun _ h => hK _ _ _ _ h) h
    · cases h
  case iinc i n => exact iv_x_ldi (fun _ h => iv_x_sto (fun _ h => hK _ _ _ _ h) h) h
  case iadd => exact iv_x_p2 (fun _ _ _ h => hK _ _ _ _ h) h
  case isub => exact iv_x_p2 (fun _ _ _ h => hK _ _ _ _ h) h
  case imul => exact iv_x_p2 (fun _ _ _ h => hK _ _ _ _ h) h
  case iand => exact iv_x_p2 (fun _ _ _ h => hK _ _ _ _ h) h
  case ior => exact iv_x_p2 (fun _ _ _ h => hK _ _ _ _ h) h
  case ixor => exact iv_x_p2 (fun _ _ _ h => hK _ _ _ _ h) h
  case ishl => exact iv_x_p2 (fun _ _ _ h => hK _ _ _ _ h) h
  case ishr => exact iv_x_p2 (fun _ _ _ h => hK _ _ _ _ h) h
  case idiv => 
    refine iv_x_p2 (fun _ _ _ h => ?_) h
    split at h
    · cases h
    · rename_i hy
      rw [if_neg hy]
      exact hK _ _ _ _ h
  case irem => 
    refine iv_x_p2 (fun _ _ _ h => ?_) h
    split at h
    · cases h
    · rename_i hy
      rw [if_neg hy]
      exact hK _ _ _ _ h
  case ineg => exact iv_x_p1 (fun _ _ h => hK _ _ _ _ h) h
  case i2c => exact iv_x_p1 (fun _ _ h => hK _ _ _ _ h) h
  case dup => 
    unfold iv_go at h ⊢
    dsimp only at h ⊢
    split at h
    · split at h
      · rename_i ha
        rw [if_pos ha]
        exact hK _ _ _ _ h
      · cases h
    · cases h
  case pop => 
    unfold iv_go at h ⊢
    dsimp only at h ⊢
    split at h
    · split at h
      · rename_i ha
        rw [if_pos ha]
        exact hK _ _ _ _ h
      · cases h
    · cases h
  case dup_x1 => 
    unfold iv_go at h ⊢
    dsimp only at h ⊢
    split at h
    · split at h
      · rename_i ha
        rw [if_pos ha]
        split at h
        · rename_i hb
          rw [if_pos hb]
          exact hK _ _ _ _ h
        · cases h
      · cases h
    · cases h
  case dup2 => 
    unfold iv_go at h ⊢
    dsimp only at h ⊢
    split at h
    · split at h
      · rename_i ha
        rw [if_pos ha]
        split at h
        · rename_i hb
          rw [if_pos hb]
          exact hK _ _ _ _ h
        · cases h
      · cases h
    · cases h
  case ifnull off => 
    unfold iv_go at h ⊢
    dsimp only at h ⊢
    split at h
    · exact hK _ _ _ _ h
    · exact hK _ _ _ _ h
    · cases h
  case ifnonnull off => 
    unfold iv_go at h ⊢
    dsimp only at h ⊢
    split at h
    · exact hK _ _ _ _ h
    · exact hK _ _ _ _ h
    · cases h
  case ifCond q off => 
    refine iv_x_p1 (fun _ _ h => ?_) h
    split at h
    · rename_i hq
      rw [if_pos hq]
      exact hK _ _ _ _ h
    · rename_i hq
      rw [if_neg hq]
      exact hK _ _ _ _ h
  case if_icmp q off => 
    refine iv_x_p2 (fun _ _ _ h => ?_) h
    split at h
    · rename_i hq
      rw [if_pos hq]
      exact hK _ _ _ _ h
    · rename_i hq
      rw [if_neg hq]
      exact hK _ _ _ _ h
  case getfield i => exact iv_x_gf (fun _ _ h => hK _ _ _ _ h) h
  case putfield i => exact iv_x_pf (fun _ _ h => hK _ _ _ _ h) h
  case iaload => exact iv_x_ald (fun _ _ h => hK _ _ _ _ h) h
  case baload => exact iv_x_ald (fun _ _ h => hK _ _ _ _ h) h
  case caload => exact iv_x_ald (fun _ _ h => hK _ _ _ _ h) h
  case aaload => exact iv_x_ald (fun _ _ h => hK _ _ _ _ h) h
  case iastore => exact iv_x_ast (fun _ _ h => hK _ _ _ _ h) h
  case bastore => exact iv_x_ast (fun _ _ h => hK _ _ _ _ h) h
  case castore => exact iv_x_ast (fun _ _ h => hK _ _ _ _ h) h
  case aastore => exact iv_x_ust (fun _ _ h => hK _ _ _ _ h) h
  case arraylength => exact iv_x_len (q := fun x st' => K (k + 1) L (.int x :: st') w) (q' := fun x st' => K' (k + 1) L (.int x :: st') (iv_ext e w)) (fun _ _ h => hK _ _ _ _ h) h
  case new i => exact iv_x_nw (fun _ _ h => hK _ _ _ _ h) h
  case newarray i => exact iv_x_p1 (fun _ _ h => iv_x_na (fun _ _ h => hK _ _ _ _ h) h) h
  case anewarray i => exact iv_x_p1 (fun _ _ h => iv_x_na (fun _ _ h => hK _ _ _ _ h) h) h
  case multianewarray i n => exact iv_x_p2 (fun _ _ _ h => iv_x_nm (fun _ _ h => hK _ _ _ _ h) h) h
  case tableswitch d0 lo hi offs => 
    refine iv_x_p1 (fun _ _ h => ?_) h
    split at h
    · rename_i ho
      rw [if_pos ho]
      exact iv_x_sw (fun _ h => hK _ _ _ _ h) h
    · rename_i ho
      rw [if_neg ho]
      split at h
      · exact iv_x_sw (fun _ h => hK _ _ _ _ h) h
      · cases h
  case lookupswitch d0 ps => exact iv_x_p1 (fun _ _ h => iv_x_sw (fun _ h => hK _ _ _ _ h) h) h
  case invokevirtual i => exact iv_x_inv (f := fun as => iv_rc w as (iv_mc x)) (f' := fun as => iv_rc (iv_ext e w) as (iv_mc x)) (q := fun st' w' => K (k + 1) L st' w') (q' := fun st' w' => K' (k + 1) L st' w') hc (fun _ h => iv_x_rc h) (fun _ _ h => hK _ _ _ _ h) h
  case invokespecial i => 
    unfold iv_go at h ⊢
    dsimp only at h ⊢
    split at h
    · rename_i h0
      rw [if_pos h0]
      exact iv_x_oi (fun _ h => hK _ _ _ _ h) h
    · rename_i h0
      rw [if_neg h0]
      exact iv_x_inv hc (fun _ h => h) (fun _ _ h => hK _ _ _ _ h) h
  case invokestatic i => exact iv_x_inv (f := fun _ => true) (f' := fun _ => true) (q := fun st' w' => K (k + 1) L st' w') (q' := fun st' w' => K' (k + 1) L st' w') hc (fun _ h => h) (fun _ _ h => hK _ _ _ _ h) h
  case ireturn => exact iv_x_fin (op := .ireturn) h
  case areturn => exact iv_x_fin (op := .areturn) h
  case return_ => exact iv_x_fin (op := .return_) h
  all_goals exact absurd h (by simp [iv_go])
theorem iv_run_x {call call' : Nat → List Value → iv_S → iv_R} (hc : ∀ x as w r, call x as w = some r → call' x as (iv_ext e w) = some (r.1, iv_ext e r.2)) : ∀ (n k : Nat) (L st : List Value) (w : iv_S), iv_run call code rt n k L st w = some r → iv_run call' code rt n k L st (iv_ext e w) = some (r.1, iv_ext e r.2)
  | 0, k, L, st, w, h => by rw [iv_run_0] at h; cases h
  | n + 1, k, L, st, w, h => by
    rw [iv_run_s] at h ⊢
    split at h
    · exact iv_go_x hc (iv_run_x hc n) h
    · cases h
end IVX
theorem iv_call_x {e : Nat → Option iv_C} (F : Nat) : ∀ (d x : Nat) (as : List Value) (w : iv_S) (r : Option Value × iv_S), iv_call F d x as w = some r → iv_call F d x as (iv_ext e w) = some (r.1, iv_ext e r.2)
  | 0, x, as, w, r, h => by rw [iv_call_0] at h; cases h
  | d + 1, x, as, w, r, h => by
    rw [iv_call_s] at h ⊢
    split at h
    · split at h
      · rename_i hl
        rw [if_pos hl]
        split at h
        · rename_i ha
          rw [if_pos ha]
          exact iv_run_x (iv_call_x F d) _ _ _ _ _ h
        · cases h
      · cases h
    · cases h
