/-! one row: an end, one place to go on from, or one call and a place behind it; whatever goes on. So runs are the same with more fuel, and have a limit. -/
theorem iv_le.rf {w : iv_S} : iv_le w w := ⟨Nat.le_refl _, Nat.le_refl _⟩
def iv_Fac (w : iv_S) (f : (Nat → List Value → iv_S → iv_R) → iv_Q → iv_R) : Prop :=
  (∃ r, (∀ c K, f c K = r) ∧ ∀ v w', r = some (v, w') → iv_le w w') ∨ (∃ k L st w1, iv_le w w1 ∧ ∀ c K, f c K = K k L st w1) ∨
  (∃ x as k L st, ∀ c K, f c K = match c x as w with
    | some (u, w1) => K k L (u.toList ++ st) w1
    | none => none)
section IVL
variable {code : List iv_I} {rt : Option FieldType} {k : Nat} {L st : List Value} {w : iv_S}
theorem iv_f_n : iv_Fac w (fun _ _ => none) := Or.inl ⟨none, fun _ _ => rfl, fun _ _ h => by cases h⟩
theorem iv_f_k {w1 : iv_S} (h : iv_le w w1) : iv_Fac w (fun _ K => K k L st w1) := Or.inr (Or.inl ⟨k, L, st, w1, h, fun _ _ => rfl⟩)
theorem iv_f_0 : iv_Fac w (fun _ K => K k L st w) := iv_f_k iv_le.rf
theorem iv_f_p1 {q : (Nat → List Value → iv_S → iv_R) → iv_Q → Int32 → List Value → iv_R} (h : ∀ x st', iv_Fac w (fun c K => q c K x st')) : iv_Fac w (fun c K => iv_p1 st (q c K)) := by
  unfold iv_p1
  split
  · exact h _ _
  · exact iv_f_n
theorem iv_f_p2 {q : (Nat → List Value → iv_S → iv_R) → iv_Q → Int32 → Int32 → List Value → iv_R} (h : ∀ x y st', iv_Fac w (fun c K => q c K x y st')) : iv_Fac w (fun c K => iv_p2 st (q c K)) := by
  unfold iv_p2
  split
  · exact h _ _ _
  · exact iv_f_n
theorem iv_f_ldi {i : Nat} {q : (Nat → List Value → iv_S → iv_R) → iv_Q → Int32 → iv_R} (h : ∀ x, iv_Fac w (fun c K => q c K x)) : iv_Fac w (fun c K => iv_ldi L i (q c K)) := by
  unfold iv_ldi
  split
  · exact h _
  · exact iv_f_n
theorem iv_f_lda {i : Nat} {q : (Nat → List Value → iv_S → iv_R) → iv_Q → Value → iv_R} (h : ∀ x, iv_Fac w (fun c K => q c K x)) : iv_Fac w (fun c K => iv_lda L i (q c K)) := by
  unfold iv_lda
  split
  · exact h _
  · exact h _
  · exact iv_f_n
theorem iv_f_sto {i : Nat} {a : Value} {q : (Nat → List Value → iv_S → iv_R) → iv_Q → List Value → iv_R} (h : ∀ x, iv_Fac w (fun c K => q c K x)) : iv_Fac w (fun c K => iv_sto L i a (q c K)) := by
  unfold iv_sto
  split
  · exact h _
  · exact iv_f_n
theorem iv_f_gf {x y : Nat} {q : (Nat → List Value → iv_S → iv_R) → iv_Q → Value → List Value → iv_R} (h : ∀ a st', iv_Fac w (fun c K => q c K a st')) : iv_Fac w (fun c K => iv_gf w st x y (q c K)) := by
  unfold iv_gf
  repeat' split
  all_goals first | exact h _ _ | exact iv_f_n
theorem iv_f_pf {x y : Nat} {q : (Nat → List Value → iv_S → iv_R) → iv_Q → List Value → iv_S → iv_R} (h : ∀ st' w1, iv_le w w1 → iv_Fac w (fun c K => q c K st' w1)) : iv_Fac w (fun c K => iv_pf w st x y (q c K)) := by
  unfold iv_pf
  repeat' split
  all_goals first | exact h _ _ iv_le.rf | exact iv_f_n
theorem iv_f_ald {f : FieldType → Bool} {q : (Nat → List Value → iv_S → iv_R) → iv_Q → Value → List Value → iv_R} (h : ∀ a st', iv_Fac w (fun c K => q c K a st')) : iv_Fac w (fun c K => iv_ald w st f (q c K)) := by
  unfold iv_ald
  repeat' split
  all_goals first | exact h _ _ | exact iv_f_n
theorem iv_f_ast {f : FieldType → Bool} {q : (Nat → List Value → iv_S → iv_R) → iv_Q → List Value → iv_S → iv_R} (h : ∀ st' w1, iv_le w w1 → iv_Fac w (fun c K => q c K st' w1)) : iv_Fac w (fun c K => iv_ast w st f (q c K)) := by
  unfold iv_ast
  repeat' split
  all_goals first | exact h _ _ iv_le.rf | exact iv_f_n
theorem iv_f_ust {q : (Nat → List Value → iv_S → iv_R) → iv_Q → List Value → iv_S → iv_R} (h : ∀ st' w1, iv_le w w1 → iv_Fac w (fun c K => q c K st' w1)) : iv_Fac w (fun c K => iv_ust w st (q c K)) := by
  unfold iv_ust
  repeat' split
  all_goals first | exact h _ _ iv_le.rf | exact iv_f_n
theorem iv_f_len {q : (Nat → List Value → iv_S → iv_R) → iv_Q → Int32 → List Value → iv_R} (h : ∀ a st', iv_Fac w (fun c K => q c K a st')) : iv_Fac w (fun c K => iv_len w st (q c K)) := by
  unfold iv_len
  repeat' split
  all_goals first | exact h _ _ | exact iv_f_n
theorem iv_f_nw {x : Nat} {q : (Nat → List Value → iv_S → iv_R) → iv_Q → Value → iv_S → iv_R} (h : ∀ a w1, iv_le w w1 → iv_Fac w (fun c K => q c K a w1)) : iv_Fac w (fun c K => iv_nw w x (q c K)) := by
  unfold iv_nw
  split
  · exact h _ _ ⟨Nat.le_add_right _ _, Nat.le_add_right _ _⟩
  · exact iv_f_n
theorem iv_f_na {x : Nat} {a : Value} {n : Int32} {q : (Nat → List Value → iv_S → iv_R) → iv_Q → Value → iv_S → iv_R} (h : ∀ a w1, iv_le w w1 → iv_Fac w (fun c K => q c K a w1)) : iv_Fac w (fun c K => iv_na w x a n (q c K)) := by
  unfold iv_na
  repeat' split
  all_goals first | exact h _ _ ⟨Nat.le_add_right _ _, Nat.le_add_right _ _⟩ | exact iv_f_n
theorem iv_f_nm {x y : Nat} {a : Value} {n m : Int32} {q : (Nat → List Value → iv_S → iv_R) → iv_Q → Value → iv_S → iv_R} (h : ∀ a w1, iv_le w w1 → iv_Fac w (fun c K => q c K a w1)) : iv_Fac w (fun c K => iv_nm w x y a n m (q c K)) := by
  unfold iv_nm
  repeat' split
  all_goals first | exact h _ _ ⟨by show w.2.1 ≤ w.2.1 + 1 + _; omega, Nat.le_add_right _ _⟩ | exact iv_f_n
theorem iv_f_sw {t : Int} {q : (Nat → List Value → iv_S → iv_R) → iv_Q → Nat → iv_R} (h : ∀ j, iv_Fac w (fun c K => q c K j)) : iv_Fac w (fun c K => iv_sw code t (q c K)) := by
  unfold iv_sw
  split
  · exact h _
  · exact iv_f_n
theorem iv_f_inv {x y : Nat} {f : List Value → Bool} : iv_Fac w (fun c K => iv_inv c x y f st w (fun st' w' => K k L st' w')) := by
  unfold iv_inv
  repeat' split
  all_goals first | exact iv_f_n | exact Or.inr (Or.inr ⟨_, _, _, _, _, fun _ _ => rfl⟩)
theorem iv_f_oi {q : (Nat → List Value → iv_S → iv_R) → iv_Q → List Value → iv_R} (h : ∀ st', iv_Fac w (fun c K => q c K st')) : iv_Fac w (fun c K => iv_oi st (q c K)) := by
  unfold iv_oi
  repeat' split
  all_goals first | exact h _ | exact iv_f_n
theorem iv_fin_ok {v : Option Value} {w' : iv_S} {op : Instr} (h : iv_fin rt op st w = some (v, w')) : w = w' ∧ ((op = .ireturn ∧ ∃ ty x, rt = some ty ∧ st = [.int x] ∧ v = some (.int x) ∧ iv_fit ty (.int x) = true) ∨ (op = .areturn ∧ ∃ ty a, rt = some ty ∧ st = [a] ∧ v = some a ∧ iv_isA ty = true ∧ iv_fit ty a = true) ∨ (op = .return_ ∧ rt = none ∧ st = [] ∧ v = none)) := by
  unfold iv_fin at h
  split at h
  · unfold iv_ret at h
    split at h
    · split at h
      · rename_i hf
        cases h
        exact ⟨rfl, Or.inl ⟨rfl, _, _, rfl, rfl, rfl, hf⟩⟩
      · cases h
    · cases h
  · unfold iv_rea at h
    split at h
    · split at h
      · rename_i ha
        split at h
        · rename_i hf
          cases h
          exact ⟨rfl, Or.inr (Or.inl ⟨rfl, _, _, rfl, rfl, rfl, ha, hf⟩)⟩
        · cases h
      · cases h
    · cases h
  · unfold iv_rev at h
    split at h
    · cases h
      exact ⟨rfl, Or.inr (Or.inr ⟨rfl, rfl, rfl, rfl⟩)⟩
    · cases h
  · cases h
theorem iv_f_fin {op : Instr} : iv_Fac w (fun _ _ => iv_fin rt op st w) := Or.inl ⟨_, fun _ _ => rfl, fun v w' h => (iv_fin_ok h).1 ▸ iv_le.rf⟩
set_option maxHeartbeats 4000000 in
theorem iv_fac (I : iv_I) : iv_Fac w (fun c K => iv_go c code rt K I k L st w) := by
  obtain ⟨⟨pc, len⟩, op, x, y, u⟩ := I
  cases op
  case iconst n => exact iv_f_0
  case bipush n => exact iv_f_0
  case sipush n => exact iv_f_0
  case aconst_null => exact iv_f_0
  case goto off => exact iv_f_0
  case ldc i => exact iv_f_0
  case iload i => exact iv_f_ldi (fun _ => iv_f_0)
  case iload_n i => exact iv_f_ldi (fun _ => iv_f_0)
  case aload i => 
    show iv_Fac w (fun c K => iv_lda L i fun v => K (k + 1) L (v :: st) w)
    exact iv_f_lda (q := fun c K v => K (k + 1) L (v :: st) w) (fun _ => iv_f_0)
  case aload_n i => 
    show iv_Fac w (fun c K => iv_lda L i.val fun v => K (k + 1) L (v :: st) w)
    exact iv_f_lda (q := fun c K v => K (k + 1) L (v :: st) w) (fun _ => iv_f_0)
  case istore i => exact iv_f_p1 (fun _ _ => iv_f_sto (fun _ => iv_f_0))
  case istore_n i => exact iv_f_p1 (fun _ _ => iv_f_sto (fun _ => iv_f_0))
  case astore i => 
    unfold iv_go
    dsimp only
    split
    · exact iv_f_sto (fun _ => iv_f_0)
    · exact iv_f_n
  case astore_n i => 
    unfold iv_go
    dsimp only
    split
    · exact iv_f_sto (fun _ => iv_f_0)
    · exact iv_f_n
  case iinc i n => exact iv_f_ldi (fun _ => iv_f_sto (fun _ => iv_f_0))
  case iadd => exact iv_f_p2 (fun _ _ _ => iv_f_0)
  case isub => exact iv_f_p2 (fun _ _ _ => iv_f_0)
  case imul => exact iv_f_p2 (fun _ _ _ => iv_f_0)
  case iand => exact iv_f_p2 (fun _ _ _ => iv_f_0)
  case ior => exact iv_f_p2 (fun _ _ _ => iv_f_0)
  case ixor => exact iv_f_p2 (fun _ _ _ => iv_f_0)
  case ishl => exact iv_f_p2 (fun _ _ _ => iv_f_0)
  case ishr => exact iv_f_p2 (fun _ _ _ => iv_f_0)
  case idiv => 
    refine iv_f_p2 (fun _ _ _ => ?_)
    split
    · exact iv_f_n
    · exact iv_f_0
  case irem => 
    refine iv_f_p2 (fun _ _ _ => ?_)
    split
    · exact iv_f_n
    · exact iv_f_0
  case ineg => exact iv_f_p1 (fun _ _ => iv_f_0)
  case i2c => exact iv_f_p1 (fun _ _ => iv_f_0)
  case dup => 
    unfold iv_go
    dsimp only
    repeat' split
    all_goals first | exact iv_f_0 | exact iv_f_n
  case dup_x1 => 
    unfold iv_go
    dsimp only
    repeat' split
    all_goals first | exact iv_f_0 | exact iv_f_n
  case dup2 => 
    unfold iv_go
    dsimp only
    repeat' split
    all_goals first | exact iv_f_0 | exact iv_f_n
  case pop => 
    unfold iv_go
    dsimp only
    repeat' split
    all_goals first | exact iv_f_0 | exact iv_f_n
  case ifnull off => 
    unfold iv_go
    dsimp only
    repeat' split
    all_goals first | exact iv_f_0 | exact iv_f_n
  case ifnonnull off => 
    unfold iv_go
    dsimp only
    repeat' split
    all_goals first | exact iv_f_0 | exact iv_f_n
  case ifCond q off => 
    refine iv_f_p1 (fun _ _ => ?_)
    split <;> exact iv_f_0
  case if_icmp q off => 
    refine iv_f_p2 (fun _ _ _ => ?_)
    split <;> exact iv_f_0
  case getfield i => exact iv_f_gf (fun _ _ => iv_f_0)
  case putfield i => exact iv_f_pf (fun _ _ h => iv_f_k h)
  case iaload => exact iv_f_ald (fun _ _ => iv_f_0)
  case baload => exact iv_f_ald (fun _ _ => iv_f_0)
  case caload => exact iv_f_ald (fun _ _ => iv_f_0)
  case aaload => exact iv_f_ald (fun _ _ => iv_f_0)
  case iastore => exact iv_f_ast (fun _ _ h => iv_f_k h)
  case bastore => exact iv_f_ast (fun _ _ h => iv_f_k h)
  case castore => exact iv_f_ast (fun _ _ h => iv_f_k h)
  case aastore => exact iv_f_ust (fun _ _ h => iv_f_k h)
  case arraylength => 
    show iv_Fac w (fun c K => iv_len w st fun x st' => K (k + 1) L (.int x :: st') w)
    exact iv_f_len (q := fun c K x st' => K (k + 1) L (.int x :: st') w) (fun _ _ => iv_f_0)
  case new i => exact iv_f_nw (fun _ _ h => iv_f_k h)
  case newarray i => exact iv_f_p1 (fun _ _ => iv_f_na (fun _ _ h => iv_f_k h))
  case anewarray i => exact iv_f_p1 (fun _ _ => iv_f_na (fun _ _ h => iv_f_k h))
  case multianewarray i n => exact iv_f_p2 (fun _ _ _ => iv_f_nm (fun _ _ h => iv_f_k h))
  case tableswitch d0 lo hi offs => 
    refine iv_f_p1 (fun _ _ => ?_)
    split
    · exact iv_f_sw (fun _ => iv_f_0)
    · split
      · exact iv_f_sw (fun _ => iv_f_0)
      · exact iv_f_n
  case lookupswitch d0 ps => exact iv_f_p1 (fun _ _ => iv_f_sw (fun _ => iv_f_0))
  case invokevirtual i => 
    show iv_Fac w (fun c K => iv_inv c x y (fun as => iv_rc w as (iv_mc x)) st w fun st' w' => K (k + 1) L st' w')
    exact iv_f_inv
  case invokespecial i => 
    unfold iv_go
    dsimp only
    split
    · exact iv_f_oi (fun _ => iv_f_0)
    · exact iv_f_inv
  case invokestatic i => 
    show iv_Fac w (fun c K => iv_inv c x y (fun _ => true) st w fun st' w' => K (k + 1) L st' w')
    exact iv_f_inv
  case ireturn => exact iv_f_fin (op := .ireturn)
  case areturn => exact iv_f_fin (op := .areturn)
  case return_ => exact iv_f_fin (op := .return_)
  all_goals exact iv_f_n
theorem iv_fac1 (I : iv_I) : (∃ r, (∀ c K, iv_go c code rt K I k L st w = r) ∧ ∀ v w', r = some (v, w') → iv_le w w') ∨ (∃ k1 L1 st1 w1, iv_le w w1 ∧ ∀ c K, iv_go c code rt K I k L st w = K k1 L1 st1 w1) ∨
  (∃ x as k1 L1 st1, ∀ c K, iv_go c code rt K I k L st w = match c x as w with
    | some (u, w1) => K k1 L1 (u.toList ++ st1) w1
    | none => none) := iv_fac I
end IVL
section IVR
variable {code : List iv_I} {rt : Option FieldType} {call call' : Nat → List Value → iv_S → iv_R}
theorem iv_run_le {v : Option Value} {w' : iv_S} (hc : ∀ x as w u w1, call x as w = some (u, w1) → iv_le w w1) : ∀ (n k : Nat) (L st : List Value) (w : iv_S), iv_run call code rt n k L st w = some (v, w') → iv_le w w'
  | 0, k, L, st, w, h => by rw [iv_run_0] at h; cases h
  | n + 1, k, L, st, w, h => by
    rw [iv_run_s] at h
    split at h
    · rename_i I hI
      rcases iv_fac1 (code := code) (rt := rt) (k := k) (L := L) (st := st) (w := w) I with ⟨r, h1, h2⟩ | ⟨k', L', st', w1, h1, h2⟩ | ⟨x, as, k', L', st', h1⟩
      · rw [h1] at h
        exact h2 _ _ h
      · rw [h2] at h
        exact iv_le.trans h1 (iv_run_le hc n _ _ _ _ h)
      · rw [h1] at h
        split at h
        · rename_i u w1 hc1
          exact iv_le.trans (hc _ _ _ _ _ hc1) (iv_run_le hc n _ _ _ _ h)
        · cases h
    · cases h
theorem iv_run_mono {r : Option Value × iv_S} (hc : ∀ x as w r, call x as w = some r → call' x as w = some r) : ∀ (n n' k : Nat) (L st : List Value) (w : iv_S), n ≤ n' → iv_run call code rt n k L st w = some r → iv_run call' code rt n' k L st w = some r
  | 0, n', k, L, st, w, _, h => by rw [iv_run_0] at h; cases h
  | n + 1, 0, k, L, st, w, hn, _ => absurd hn (Nat.not_succ_le_zero n)
  | n + 1, n' + 1, k, L, st, w, hn, h => by
    rw [iv_run_s] at h ⊢
    split at h
    · rename_i I hI
      rcases iv_fac1 (code := code) (rt := rt) (k := k) (L := L) (st := st) (w := w) I with ⟨r1, h1, h2⟩ | ⟨k', L', st', w1, h1, h2⟩ | ⟨x, as, k', L', st', h1⟩
      · rw [h1] at h ⊢
        exact h
      · rw [h2] at h ⊢
        exact iv_run_mono hc n n' _ _ _ _ (Nat.le_of_succ_le_succ hn) h
      · rw [h1] at h ⊢
        split at h
        · rename_i u w1 hc1
          rw [hc _ _ _ _ hc1]
          exact iv_run_mono hc n n' _ _ _ _ (Nat.le_of_succ_le_succ hn) h
        · cases h
    · cases h
/-- the answer of a run, however long it is -/
noncomputable def iv_V (call : Nat → List Value → iv_S → iv_R) (code : List iv_I) (rt : Option FieldType) (k : Nat) (L st : List Value) (w : iv_S) : iv_R :=
  @dite iv_R (∃ n, iv_run call code rt n k L st w ≠ none) (Classical.propDecidable _) (fun h => iv_run call code rt (Classical.choose h) k L st w) (fun _ => none)
theorem iv_V_of {n k : Nat} {L st : List Value} {w : iv_S} {r : Option Value × iv_S} (h : iv_run call code rt n k L st w = some r) : iv_V call code rt k L st w = some r := by
  unfold iv_V
  have hx : ∃ n, iv_run call code rt n k L st w ≠ none := ⟨n, by rw [h]; exact fun q => by cases q⟩
  rw [dif_pos hx]
  have h1 := Classical.choose_spec hx
  generalize Classical.choose hx = n' at h1
  cases hr : iv_run call code rt n' k L st w with
  | none => exact absurd hr h1
  | some r' =>
    have a1 := iv_run_mono (call' := call) (fun _ _ _ _ h => h) n (max n n') k L st w (Nat.le_max_left _ _) h
    have a2 := iv_run_mono (call' := call) (fun _ _ _ _ h => h) n' (max n n') k L st w (Nat.le_max_right _ _) hr
    exact a2.symm.trans a1
theorem iv_V_run {k : Nat} {L st : List Value} {w : iv_S} {r : Option Value × iv_S} (h : iv_V call code rt k L st w = some r) : ∃ n, iv_run call code rt n k L st w = some r := by
  unfold iv_V at h
  by_cases hx : ∃ n, iv_run call code rt n k L st w ≠ none
  · rw [dif_pos hx] at h
    exact ⟨_, h⟩
  · rw [dif_neg hx] at h
    cases h
theorem iv_V_eq {k : Nat} {L st : List Value} {w : iv_S} {I : iv_I} (hI : code[k]? = some I) : iv_V call code rt k L st w = iv_go call code rt (iv_V call code rt) I k L st w := by
  have e : ∀ n, iv_run call code rt (n + 1) k L st w = iv_go call code rt (iv_run call code rt n) I k L st w := fun n => by rw [iv_run_s, hI]
  have up : ∀ r, iv_V call code rt k L st w = some r → iv_go call code rt (iv_V call code rt) I k L st w = some r := by
    intro r h
    obtain ⟨n, h⟩ := iv_V_run h
    cases n with
    | zero => rw [iv_run_0] at h; cases h
    | succ n =>
      rw [e] at h
      rcases iv_fac1 (code := code) (rt := rt) (k := k) (L := L) (st := st) (w := w) I with ⟨r1, h1, h2⟩ | ⟨k', L', st', w1, h1, h2⟩ | ⟨x, as, k', L', st', h1⟩
      · rw [h1] at h ⊢; exact h
      · rw [h2] at h ⊢; exact iv_V_of h
      · rw [h1] at h ⊢
        split at h
        · exact iv_V_of h
        · cases h
  have dn : ∀ r, iv_go call code rt (iv_V call code rt) I k L st w = some r → iv_V call code rt k L st w = some r := by
    intro r h
    rcases iv_fac1 (code := code) (rt := rt) (k := k) (L := L) (st := st) (w := w) I with ⟨r1, h1, h2⟩ | ⟨k', L', st', w1, h1, h2⟩ | ⟨x, as, k', L', st', h1⟩
    · rw [h1] at h
      exact iv_V_of (n := 1) (by rw [e, h1]; exact h)
    · rw [h2] at h
      obtain ⟨n, h⟩ := iv_V_run h
      exact iv_V_of (n := n + 1) (by rw [e, h2]; exact h)
    · rw [h1] at h
      split at h
      · rename_i u w1 hc1
        obtain ⟨n, h⟩ := iv_V_run h
        exact iv_V_of (n := n + 1) (by rw [e, h1, hc1]; exact h)
      · cases h
  cases hg : iv_go call code rt (iv_V call code rt) I k L st w with
  | some r => exact dn r hg
  | none => cases hv : iv_V call code rt k L st w with
    | none => rfl
    | some r => have := up r hv; rw [hg] at this; cases this
theorem iv_V_no {k : Nat} {L st : List Value} {w : iv_S} (hI : code[k]? = none) : iv_V call code rt k L st w = none := by
  cases hv : iv_V call code rt k L st w with
  | none => rfl
  | some r =>
    obtain ⟨n, h⟩ := iv_V_run hv
    cases n with
    | zero => rw [iv_run_0] at h; cases h
    | succ n => rw [iv_run_s, hI] at h; cases h
end IVR
/-- a method's answer, with calls at most d deep -/
noncomputable def iv_X : Nat → Nat → List Value → iv_S → iv_R
  | 0, _, _, _ => none
  | d + 1, x, as, w => match iv_M x with
    | some (mL, rt, code) => if as.length ≤ mL then (if as.all iv_isv = true then iv_V (iv_X d) code rt 0 (as ++ List.replicate (mL - as.length) iv_un) [] w else none) else none
    | none => none
theorem iv_X_0 (x : Nat) (as : List Value) (w : iv_S) : iv_X 0 x as w = none := rfl
theorem iv_X_s (d x : Nat) (as : List Value) (w : iv_S) : iv_X (d + 1) x as w = match iv_M x with
    | some (mL, rt, code) => if as.length ≤ mL then (if as.all iv_isv = true then iv_V (iv_X d) code rt 0 (as ++ List.replicate (mL - as.length) iv_un) [] w else none) else none
    | none => none := rfl
theorem iv_X_le : ∀ (d x : Nat) (as : List Value) (w : iv_S) (v : Option Value) (w' : iv_S), iv_X d x as w = some (v, w') → iv_le w w'
  | 0, x, as, w, v, w', h => by rw [iv_X_0] at h; cases h
  | d + 1, x, as, w, v, w', h => by
    rw [iv_X_s] at h
    split at h
    · split at h
      · split at h
        · obtain ⟨n, h⟩ := iv_V_run h
          exact iv_run_le (fun x as w u w1 h => iv_X_le d x as w u w1 h) _ _ _ _ _ h
        · cases h
      · cases h
    · cases h
theorem iv_X_mono : ∀ (d d' x : Nat) (as : List Value) (w : iv_S) (r : Option Value × iv_S), d ≤ d' → iv_X d x as w = some r → iv_X d' x as w = some r
  | 0, d', x, as, w, r, _, h => by rw [iv_X_0] at h; cases h
  | d + 1, 0, x, as, w, r, hd, _ => absurd hd (Nat.not_succ_le_zero d)
  | d + 1, d' + 1, x, as, w, r, hd, h => by
    rw [iv_X_s] at h ⊢
    split at h
    · split at h
      · rename_i hl
        rw [if_pos hl]
        split at h
        · rename_i ha
          rw [if_pos ha]
          obtain ⟨n, h⟩ := iv_V_run h
          exact iv_V_of (iv_run_mono (fun x as w r h => iv_X_mono d d' x as w r (Nat.le_of_succ_le_succ hd) h) n n _ _ _ _ (Nat.le_refl _) h)
        · cases h
      · cases h
    · cases h
/-- .. and by counting -/
theorem iv_X_call (F : Nat) : ∀ (d x : Nat) (as : List Value) (w : iv_S) (r : Option Value × iv_S), iv_call F d x as w = some r → iv_X d x as w = some r
  | 0, x, as, w, r, h => by rw [iv_call_0] at h; cases h
  | d + 1, x, as, w, r, h => by
    rw [iv_call_s] at h
    rw [iv_X_s]
    split at h
    · rename_i mL rt code hM
      rw [hM]
      dsimp only
      split at h
      · rename_i hl
        rw [if_pos hl]
        split at h
        · rename_i ha
          rw [if_pos ha]
          exact iv_V_of (iv_run_mono (fun x as w r h => iv_X_call F d x as w r h) F F _ _ _ _ (Nat.le_refl _) h)
        · cases h
      · cases h
    · cases h
