/-! the words behind each row -/
def iv_isl (op : Instr) : Bool := match op with
  | .getfield _ => true
  | .putfield _ => true
  | .new _ => true
  | .newarray _ => true
  | .anewarray _ => true
  | .multianewarray _ _ => true
  | .invokevirtual _ => true
  | .invokespecial _ => true
  | .invokestatic _ => true
  | .ldc _ => true
  | _ => false
theorem iv_nol {own : String} {ini : Bool} {I : iv_I} (h : iv_isl I.2.1 = false) : iv_okw own ini I := by
  obtain ⟨a, op, x, y, u⟩ := I
  cases op <;> first | trivial | cases h
def iv_chk (cc : ByteArray) (code : List iv_I) (fl : List (Instr × Nat × Nat × Nat)) : Nat → List iv_I → Bool
  | _, [] => true
  | k, I :: l => decide (decode cc I.1.1 = .ok (I.2.1, I.1.2)) && (iv_okb code k I && ((!(iv_isl I.2.1) || fl.any (fun q => decide (q = I.2))) && iv_chk cc code fl (k + 1) l))
theorem iv_chk_of {cc : ByteArray} {code : List iv_I} {fl : List (Instr × Nat × Nat × Nat)} {own : String} {ini : Bool} (hf : ∀ q ∈ fl, ∀ a, iv_okw own ini (a, q)) : ∀ (l : List iv_I) (k : Nat), iv_chk cc code fl k l = true → ∀ (j : Nat) (I : iv_I), l[j]? = some I → decode cc I.1.1 = .ok (I.2.1, I.1.2) ∧ iv_okb code (k + j) I = true ∧ iv_okw own ini I
  | [], _, _, j, I, h => by simp at h
  | J :: l, k, hc, j, I, h => by
    unfold iv_chk at hc
    simp only [Bool.and_eq_true, Bool.or_eq_true, Bool.not_eq_true', decide_eq_true_eq] at hc
    obtain ⟨h1, h2, h3, h4⟩ := hc
    cases j with
    | zero =>
      simp only [List.getElem?_cons_zero] at h
      cases h
      refine ⟨h1, h2, ?_⟩
      rcases h3 with h3 | h3
      · exact iv_nol h3
      · obtain ⟨q, hq1, hq2⟩ := List.any_eq_true.mp h3
        have hq3 := of_decide_eq_true hq2
        subst hq3
        exact hf _ hq1 J.1
    | succ j =>
      simp only [List.getElem?_cons_succ] at h
      have h5 := iv_chk_of hf l (k + 1) h4 j I h
      rw [show k + 1 + j = k + (j + 1) by omega] at h5
      exact h5
theorem fk_L_0 (ini : Bool) : iv_okw "RuleGraphLaw" ini ((0, 0), .new 7, 0, 0, 42) := ⟨_, rfl, by decide +kernel⟩
theorem fk_L_1 (ini : Bool) : iv_okw "RuleGraphLaw" ini ((0, 0), .invokespecial 9, 2, 1, 44) := Or.inr ⟨by decide, cki_2, by decide +kernel, by decide +kernel⟩
theorem fk_L_2 (ini : Bool) : iv_okw "RuleGraphLaw" ini ((0, 0), .new 10, 1, 0, 593) := ⟨_, rfl, by decide +kernel⟩
theorem fk_L_3 (ini : Bool) : iv_okw "RuleGraphLaw" ini ((0, 0), .invokespecial 12, 24, 1, 595) := Or.inr ⟨by decide, cki_24, by decide +kernel, by decide +kernel⟩
theorem fk_L_4 (ini : Bool) : iv_okw "RuleGraphLaw" ini ((0, 0), .invokevirtual 13, 3, 2, 295) := ⟨ckv_3, by decide +kernel, Or.inl (by decide +kernel)⟩
theorem fk_L_5 (ini : Bool) : iv_okw "RuleGraphLaw" ini ((0, 0), .invokevirtual 17, 26, 2, 744) := ⟨ckv_26, by decide +kernel, Or.inl (by decide +kernel)⟩
theorem fk_L_6 (ini : Bool) : iv_okw "RuleGraphLaw" ini ((0, 0), .invokevirtual 18, 4, 3, 307) := ⟨ckv_4, by decide +kernel, Or.inl (by decide +kernel)⟩
theorem fk_L_7 (ini : Bool) : iv_okw "RuleGraphLaw" ini ((0, 0), .invokevirtual 22, 27, 3, 751) := ⟨ckv_27, by decide +kernel, Or.inl (by decide +kernel)⟩
theorem fk_L_8 (ini : Bool) : iv_okw "RuleGraphLaw" ini ((0, 0), .invokevirtual 23, 5, 7, 319) := ⟨ckv_5, by decide +kernel, Or.inl (by decide +kernel)⟩
theorem fk_L_9 (ini : Bool) : iv_okw "RuleGraphLaw" ini ((0, 0), .invokevirtual 27, 28, 7, 755) := ⟨ckv_28, by decide +kernel, Or.inl (by decide +kernel)⟩
theorem fk_L_10 (ini : Bool) : iv_okw "RuleGraphLaw" ini ((0, 0), .invokevirtual 28, 6, 5, 380) := ⟨ckv_6, by decide +kernel, Or.inl (by decide +kernel)⟩
theorem fk_L_11 (ini : Bool) : iv_okw "RuleGraphLaw" ini ((0, 0), .invokevirtual 32, 29, 5, 759) := ⟨ckv_29, by decide +kernel, Or.inl (by decide +kernel)⟩
theorem fk_L_12 (ini : Bool) : iv_okw "RuleGraphLaw" ini ((0, 0), .invokevirtual 33, 7, 3, 385) := ⟨ckv_7, by decide +kernel, Or.inl (by decide +kernel)⟩
theorem fk_L_13 (ini : Bool) : iv_okw "RuleGraphLaw" ini ((0, 0), .invokevirtual 37, 30, 3, 763) := ⟨ckv_30, by decide +kernel, Or.inl (by decide +kernel)⟩
theorem fk_L_14 (ini : Bool) : iv_okw "RuleGraphLaw" ini ((0, 0), .invokevirtual 38, 8, 3, 389) := ⟨ckv_8, by decide +kernel, Or.inl (by decide +kernel)⟩
theorem fk_L_15 (ini : Bool) : iv_okw "RuleGraphLaw" ini ((0, 0), .invokevirtual 42, 32, 3, 767) := ⟨ckv_32, by decide +kernel, Or.inl (by decide +kernel)⟩
theorem fk_L_16 (ini : Bool) : iv_okw "RuleGraphLaw" ini ((0, 0), .invokevirtual 43, 9, 3, 406) := ⟨ckv_9, by decide +kernel, Or.inl (by decide +kernel)⟩
theorem fk_L_17 (ini : Bool) : iv_okw "RuleGraphLaw" ini ((0, 0), .invokevirtual 46, 33, 3, 775) := ⟨ckv_33, by decide +kernel, Or.inl (by decide +kernel)⟩
theorem fk_L_18 (ini : Bool) : iv_okw "RuleGraphLaw" ini ((0, 0), .invokevirtual 47, 10, 3, 418) := ⟨ckv_10, by decide +kernel, Or.inl (by decide +kernel)⟩
theorem fk_L_19 (ini : Bool) : iv_okw "RuleGraphLaw" ini ((0, 0), .invokevirtual 50, 34, 3, 779) := ⟨ckv_34, by decide +kernel, Or.inl (by decide +kernel)⟩
theorem fk_L_20 (ini : Bool) : iv_okw "RuleGraphLaw" ini ((0, 0), .invokevirtual 51, 11, 2, 422) := ⟨ckv_11, by decide +kernel, Or.inl (by decide +kernel)⟩
theorem fk_L_21 (ini : Bool) : iv_okw "RuleGraphLaw" ini ((0, 0), .invokevirtual 55, 35, 2, 783) := ⟨ckv_35, by decide +kernel, Or.inl (by decide +kernel)⟩
theorem fk_L_22 (ini : Bool) : iv_okw "RuleGraphLaw" ini ((0, 0), .invokevirtual 56, 12, 4, 430) := ⟨ckv_12, by decide +kernel, Or.inl (by decide +kernel)⟩
theorem fk_L_23 (ini : Bool) : iv_okw "RuleGraphLaw" ini ((0, 0), .invokevirtual 60, 36, 4, 787) := ⟨ckv_36, by decide +kernel, Or.inl (by decide +kernel)⟩
theorem fk_L_24 (ini : Bool) : iv_okw "RuleGraphLaw" ini ((0, 0), .invokevirtual 61, 13, 2, 434) := ⟨ckv_13, by decide +kernel, Or.inl (by decide +kernel)⟩
theorem fk_L_25 (ini : Bool) : iv_okw "RuleGraphLaw" ini ((0, 0), .invokevirtual 64, 37, 2, 791) := ⟨ckv_37, by decide +kernel, Or.inl (by decide +kernel)⟩
theorem fk_L_26 (ini : Bool) : iv_okw "RuleGraphLaw" ini ((0, 0), .invokevirtual 65, 14, 4, 442) := ⟨ckv_14, by decide +kernel, Or.inl (by decide +kernel)⟩
theorem fk_L_27 (ini : Bool) : iv_okw "RuleGraphLaw" ini ((0, 0), .invokevirtual 68, 39, 4, 795) := ⟨ckv_39, by decide +kernel, Or.inl (by decide +kernel)⟩
theorem fk_L_28 (ini : Bool) : iv_okw "RuleGraphLaw" ini ((0, 0), .invokevirtual 69, 15, 4, 462) := ⟨ckv_15, by decide +kernel, Or.inl (by decide +kernel)⟩
theorem fk_L_29 (ini : Bool) : iv_okw "RuleGraphLaw" ini ((0, 0), .invokevirtual 72, 40, 4, 803) := ⟨ckv_40, by decide +kernel, Or.inl (by decide +kernel)⟩
theorem fk_L_30 (ini : Bool) : iv_okw "RuleGraphLaw" ini ((0, 0), .invokevirtual 73, 16, 4, 470) := ⟨ckv_16, by decide +kernel, Or.inl (by decide +kernel)⟩
theorem fk_L_31 (ini : Bool) : iv_okw "RuleGraphLaw" ini ((0, 0), .invokevirtual 77, 41, 4, 807) := ⟨ckv_41, by decide +kernel, Or.inl (by decide +kernel)⟩
theorem fk_L_32 (ini : Bool) : iv_okw "RuleGraphLaw" ini ((0, 0), .invokevirtual 78, 17, 3, 474) := ⟨ckv_17, by decide +kernel, Or.inl (by decide +kernel)⟩
theorem fk_L_33 (ini : Bool) : iv_okw "RuleGraphLaw" ini ((0, 0), .invokevirtual 81, 56, 3, 811) := ⟨ckv_56, by decide +kernel, Or.inl (by decide +kernel)⟩
theorem fk_L_34 (ini : Bool) : iv_okw "RuleGraphLaw" ini ((0, 0), .invokevirtual 82, 18, 4, 556) := ⟨ckv_18, by decide +kernel, Or.inl (by decide +kernel)⟩
theorem fk_L_35 (ini : Bool) : iv_okw "RuleGraphLaw" ini ((0, 0), .invokevirtual 86, 57, 4, 870) := ⟨ckv_57, by decide +kernel, Or.inl (by decide +kernel)⟩
theorem fk_L_36 (ini : Bool) : iv_okw "RuleGraphLaw" ini ((0, 0), .invokevirtual 87, 19, 1, 561) := ⟨ckv_19, by decide +kernel, Or.inl (by decide +kernel)⟩
theorem fk_L_37 (ini : Bool) : iv_okw "RuleGraphLaw" ini ((0, 0), .invokevirtual 91, 58, 1, 874) := ⟨ckv_58, by decide +kernel, Or.inl (by decide +kernel)⟩
theorem fk_L_38 (ini : Bool) : iv_okw "RuleGraphLaw" ini ((0, 0), .invokevirtual 92, 20, 1, 565) := ⟨ckv_20, by decide +kernel, Or.inl (by decide +kernel)⟩
theorem fk_L_39 (ini : Bool) : iv_okw "RuleGraphLaw" ini ((0, 0), .invokevirtual 95, 59, 1, 878) := ⟨ckv_59, by decide +kernel, Or.inl (by decide +kernel)⟩
theorem fk_L_40 (ini : Bool) : iv_okw "RuleGraphLaw" ini ((0, 0), .invokevirtual 96, 21, 3, 569) := ⟨ckv_21, by decide +kernel, Or.inl (by decide +kernel)⟩
theorem fk_L_41 (ini : Bool) : iv_okw "RuleGraphLaw" ini ((0, 0), .invokevirtual 99, 60, 3, 882) := ⟨ckv_60, by decide +kernel, Or.inl (by decide +kernel)⟩
theorem fk_L_42 (ini : Bool) : iv_okw "RuleGraphLaw" ini ((0, 0), .invokevirtual 100, 22, 3, 577) := ⟨ckv_22, by decide +kernel, Or.inl (by decide +kernel)⟩
theorem fk_L_43 (ini : Bool) : iv_okw "RuleGraphLaw" ini ((0, 0), .invokevirtual 103, 63, 3, 886) := ⟨ckv_63, by decide +kernel, Or.inl (by decide +kernel)⟩
def fl_L : List (Instr × Nat × Nat × Nat) := [(.new 7, 0, 0, 42), (.invokespecial 9, 2, 1, 44), (.new 10, 1, 0, 593), (.invokespecial 12, 24, 1, 595), (.invokevirtual 13, 3, 2, 295), (.invokevirtual 17, 26, 2, 744), (.invokevirtual 18, 4, 3, 307), (.invokevirtual 22, 27, 3, 751), (.invokevirtual 23, 5, 7, 319), (.invokevirtual 27, 28, 7, 755), (.invokevirtual 28, 6, 5, 380), (.invokevirtual 32, 29, 5, 759), (.invokevirtual 33, 7, 3, 385), (.invokevirtual 37, 30, 3, 763), (.invokevirtual 38, 8, 3, 389), (.invokevirtual 42, 32, 3, 767), (.invokevirtual 43, 9, 3, 406), (.invokevirtual 46, 33, 3, 775), (.invokevirtual 47, 10, 3, 418), (.invokevirtual 50, 34, 3, 779), (.invokevirtual 51, 11, 2, 422), (.invokevirtual 55, 35, 2, 783), (.invokevirtual 56, 12, 4, 430), (.invokevirtual 60, 36, 4, 787), (.invokevirtual 61, 13, 2, 434), (.invokevirtual 64, 37, 2, 791), (.invokevirtual 65, 14, 4, 442), (.invokevirtual 68, 39, 4, 795), (.invokevirtual 69, 15, 4, 462), (.invokevirtual 72, 40, 4, 803), (.invokevirtual 73, 16, 4, 470), (.invokevirtual 77, 41, 4, 807), (.invokevirtual 78, 17, 3, 474), (.invokevirtual 81, 56, 3, 811), (.invokevirtual 82, 18, 4, 556), (.invokevirtual 86, 57, 4, 870), (.invokevirtual 87, 19, 1, 561), (.invokevirtual 91, 58, 1, 874), (.invokevirtual 92, 20, 1, 565), (.invokevirtual 95, 59, 1, 878), (.invokevirtual 96, 21, 3, 569), (.invokevirtual 99, 60, 3, 882), (.invokevirtual 100, 22, 3, 577), (.invokevirtual 103, 63, 3, 886)]
def fj_L : List (Instr × Nat × Nat × Nat) := fl_L ++ []
theorem fl_L_ok (ini : Bool) : ∀ q ∈ fl_L, ∀ a, iv_okw "RuleGraphLaw" ini (a, q) := List.forall_mem_cons.mpr ⟨fun _ => fk_L_0 ini, List.forall_mem_cons.mpr ⟨fun _ => fk_L_1 ini, List.forall_mem_cons.mpr ⟨fun _ => fk_L_2 ini, List.forall_mem_cons.mpr ⟨fun _ => fk_L_3 ini, List.forall_mem_cons.mpr ⟨fun _ => fk_L_4 ini, List.forall_mem_cons.mpr ⟨fun _ => fk_L_5 ini, List.forall_mem_cons.mpr ⟨fun _ => fk_L_6 ini, List.forall_mem_cons.mpr ⟨fun _ => fk_L_7 ini, List.forall_mem_cons.mpr ⟨fun _ => fk_L_8 ini, List.forall_mem_cons.mpr ⟨fun _ => fk_L_9 ini, List.forall_mem_cons.mpr ⟨fun _ => fk_L_10 ini, List.forall_mem_cons.mpr ⟨fun _ => fk_L_11 ini, List.forall_mem_cons.mpr ⟨fun _ => fk_L_12 ini, List.forall_mem_cons.mpr ⟨fun _ => fk_L_13 ini, List.forall_mem_cons.mpr ⟨fun _ => fk_L_14 ini, List.forall_mem_cons.mpr ⟨fun _ => fk_L_15 ini, List.forall_mem_cons.mpr ⟨fun _ => fk_L_16 ini, List.forall_mem_cons.mpr ⟨fun _ => fk_L_17 ini, List.forall_mem_cons.mpr ⟨fun _ => fk_L_18 ini, List.forall_mem_cons.mpr ⟨fun _ => fk_L_19 ini, List.forall_mem_cons.mpr ⟨fun _ => fk_L_20 ini, List.forall_mem_cons.mpr ⟨fun _ => fk_L_21 ini, List.forall_mem_cons.mpr ⟨fun _ => fk_L_22 ini, List.forall_mem_cons.mpr ⟨fun _ => fk_L_23 ini, List.forall_mem_cons.mpr ⟨fun _ => fk_L_24 ini, List.forall_mem_cons.mpr ⟨fun _ => fk_L_25 ini, List.forall_mem_cons.mpr ⟨fun _ => fk_L_26 ini, List.forall_mem_cons.mpr ⟨fun _ => fk_L_27 ini, List.forall_mem_cons.mpr ⟨fun _ => fk_L_28 ini, List.forall_mem_cons.mpr ⟨fun _ => fk_L_29 ini, List.forall_mem_cons.mpr ⟨fun _ => fk_L_30 ini, List.forall_mem_cons.mpr ⟨fun _ => fk_L_31 ini, List.forall_mem_cons.mpr ⟨fun _ => fk_L_32 ini, List.forall_mem_cons.mpr ⟨fun _ => fk_L_33 ini, List.forall_mem_cons.mpr ⟨fun _ => fk_L_34 ini, List.forall_mem_cons.mpr ⟨fun _ => fk_L_35 ini, List.forall_mem_cons.mpr ⟨fun _ => fk_L_36 ini, List.forall_mem_cons.mpr ⟨fun _ => fk_L_37 ini, List.forall_mem_cons.mpr ⟨fun _ => fk_L_38 ini, List.forall_mem_cons.mpr ⟨fun _ => fk_L_39 ini, List.forall_mem_cons.mpr ⟨fun _ => fk_L_40 ini, List.forall_mem_cons.mpr ⟨fun _ => fk_L_41 ini, List.forall_mem_cons.mpr ⟨fun _ => fk_L_42 ini, List.forall_mem_cons.mpr ⟨fun _ => fk_L_43 ini, fun _ h => absurd h List.not_mem_nil⟩⟩⟩⟩⟩⟩⟩⟩⟩⟩⟩⟩⟩⟩⟩⟩⟩⟩⟩⟩⟩⟩⟩⟩⟩⟩⟩⟩⟩⟩⟩⟩⟩⟩⟩⟩⟩⟩⟩⟩⟩⟩⟩⟩
theorem fj_L_ok : ∀ q ∈ fj_L, ∀ a, iv_okw "RuleGraphLaw" true (a, q) := List.forall_mem_append.mpr ⟨fl_L_ok true, fun _ h => absurd h List.not_mem_nil⟩
theorem fk_0_0 (ini : Bool) : iv_okw "RuleGraph" ini ((0, 0), .invokespecial 3, 0, 1, 47) := Or.inl ⟨rfl, by decide +kernel⟩
theorem fk_0_1 (ini : Bool) : iv_okw "RuleGraph" ini ((0, 0), .new 9, 10, 0, 50) := ⟨_, rfl, by decide +kernel⟩
theorem fk_0_2 (ini : Bool) : iv_okw "RuleGraph" ini ((0, 0), .invokespecial 11, 101, 1, 52) := Or.inr ⟨by decide, cki_101, by decide +kernel, by decide +kernel⟩
theorem fk_0_3 (ini : Bool) : iv_okw "RuleGraph" ini ((0, 0), .new 16, 9, 0, 116) := ⟨_, rfl, by decide +kernel⟩
theorem fk_0_4 (ini : Bool) : iv_okw "RuleGraph" ini ((0, 0), .invokespecial 18, 97, 1, 118) := Or.inr ⟨by decide, cki_97, by decide +kernel, by decide +kernel⟩
theorem fk_0_5 (ini : Bool) : iv_okw "RuleGraph" ini ((0, 0), .new 23, 5, 0, 161) := ⟨_, rfl, by decide +kernel⟩
theorem fk_0_6 (ini : Bool) : iv_okw "RuleGraph" ini ((0, 0), .invokespecial 25, 81, 1, 163) := Or.inr ⟨by decide, cki_81, by decide +kernel, by decide +kernel⟩
theorem fk_0_7 (ini : Bool) : iv_okw "RuleGraph" ini ((0, 0), .new 30, 11, 0, 182) := ⟨_, rfl, by decide +kernel⟩
theorem fk_0_8 (ini : Bool) : iv_okw "RuleGraph" ini ((0, 0), .invokespecial 32, 110, 1, 184) := Or.inr ⟨by decide, cki_110, by decide +kernel, by decide +kernel⟩
theorem fk_0_9 (ini : Bool) : iv_okw "RuleGraph" ini ((0, 0), .new 37, 6, 0, 206) := ⟨_, rfl, by decide +kernel⟩
theorem fk_0_10 (ini : Bool) : iv_okw "RuleGraph" ini ((0, 0), .invokespecial 39, 87, 1, 208) := Or.inr ⟨by decide, cki_87, by decide +kernel, by decide +kernel⟩
theorem fk_0_11 (ini : Bool) : iv_okw "RuleGraph" ini ((0, 0), .new 44, 2, 0, 241) := ⟨_, rfl, by decide +kernel⟩
theorem fk_0_12 (ini : Bool) : iv_okw "RuleGraph" ini ((0, 0), .getfield 12, 0, 0, 276) := ⟨_, rfl, by decide, Or.inl (by decide +kernel)⟩
theorem fk_0_13 (ini : Bool) : iv_okw "RuleGraph" ini ((0, 0), .getfield 19, 0, 1, 277) := ⟨_, rfl, by decide, Or.inl (by decide +kernel)⟩
theorem fk_0_14 (ini : Bool) : iv_okw "RuleGraph" ini ((0, 0), .getfield 26, 0, 2, 278) := ⟨_, rfl, by decide, Or.inl (by decide +kernel)⟩
theorem fk_0_15 (ini : Bool) : iv_okw "RuleGraph" ini ((0, 0), .getfield 33, 0, 3, 279) := ⟨_, rfl, by decide, Or.inl (by decide +kernel)⟩
theorem fk_0_16 (ini : Bool) : iv_okw "RuleGraph" ini ((0, 0), .getfield 40, 0, 4, 280) := ⟨_, rfl, by decide, Or.inl (by decide +kernel)⟩
theorem fk_0_17 (ini : Bool) : iv_okw "RuleGraph" ini ((0, 0), .invokespecial 46, 64, 6, 243) := Or.inr ⟨by decide, cki_64, by decide +kernel, by decide +kernel⟩
theorem fk_0_18 (ini : Bool) : iv_okw "RuleGraph" ini ((0, 0), .invokevirtual 53, 102, 2, 299) := ⟨ckv_102, by decide +kernel, Or.inl (by decide +kernel)⟩
theorem fk_0_19 (ini : Bool) : iv_okw "RuleGraph" ini ((0, 0), .invokevirtual 57, 108, 2, 303) := ⟨ckv_108, by decide +kernel, Or.inl (by decide +kernel)⟩
theorem fk_0_20 (ini : Bool) : iv_okw "RuleGraph" ini ((0, 0), .invokevirtual 61, 109, 3, 311) := ⟨ckv_109, by decide +kernel, Or.inl (by decide +kernel)⟩
theorem fk_0_21 (ini : Bool) : iv_okw "RuleGraph" ini ((0, 0), .invokevirtual 65, 112, 3, 315) := ⟨ckv_112, by decide +kernel, Or.inl (by decide +kernel)⟩
theorem fk_0_22 (ini : Bool) : iv_okw "RuleGraph" ini ((0, 0), .invokevirtual 69, 103, 2, 323) := ⟨ckv_103, by decide +kernel, Or.inl (by decide +kernel)⟩
theorem fk_0_23 (ini : Bool) : iv_okw "RuleGraph" ini ((0, 0), .invokevirtual 72, 98, 2, 327) := ⟨ckv_98, by decide +kernel, Or.inl (by decide +kernel)⟩
theorem fk_0_24 (ini : Bool) : iv_okw "RuleGraph" ini ((0, 0), .getfield 75, 9, 2, 153) := ⟨_, rfl, by decide, Or.inl (by decide +kernel)⟩
theorem fk_0_25 (ini : Bool) : iv_okw "RuleGraph" ini ((0, 0), .invokevirtual 79, 99, 4, 331) := ⟨ckv_99, by decide +kernel, Or.inl (by decide +kernel)⟩
theorem fk_0_26 (ini : Bool) : iv_okw "RuleGraph" ini ((0, 0), .invokevirtual 83, 100, 5, 354) := ⟨ckv_100, by decide +kernel, Or.inl (by decide +kernel)⟩
theorem fk_0_27 (ini : Bool) : iv_okw "RuleGraph" ini ((0, 0), .invokevirtual 87, 76, 4, 384) := ⟨ckv_76, by decide +kernel, Or.inl (by decide +kernel)⟩
theorem fk_0_28 (ini : Bool) : iv_okw "RuleGraph" ini ((0, 0), .putfield 93, 3, 2, 139) := ⟨_, rfl, Or.inl ⟨by decide +kernel, Or.inl rfl⟩⟩
theorem fk_0_29 (ini : Bool) : iv_okw "RuleGraph" ini ((0, 0), .invokevirtual 97, 82, 2, 393) := ⟨ckv_82, by decide +kernel, Or.inl (by decide +kernel)⟩
theorem fk_0_30 (ini : Bool) : iv_okw "RuleGraph" ini ((0, 0), .invokevirtual 100, 84, 3, 397) := ⟨ckv_84, by decide +kernel, Or.inl (by decide +kernel)⟩
theorem fk_0_31 (ini : Bool) : iv_okw "RuleGraph" ini ((0, 0), .invokevirtual 104, 85, 3, 401) := ⟨ckv_85, by decide +kernel, Or.inl (by decide +kernel)⟩
theorem fk_0_32 (ini : Bool) : iv_okw "RuleGraph" ini ((0, 0), .invokevirtual 107, 83, 2, 410) := ⟨ckv_83, by decide +kernel, Or.inl (by decide +kernel)⟩
theorem fk_0_33 (ini : Bool) : iv_okw "RuleGraph" ini ((0, 0), .getfield 110, 5, 1, 172) := ⟨_, rfl, by decide, Or.inl (by decide +kernel)⟩
theorem fk_0_34 (ini : Bool) : iv_okw "RuleGraph" ini ((0, 0), .invokevirtual 114, 95, 2, 414) := ⟨ckv_95, by decide +kernel, Or.inl (by decide +kernel)⟩
theorem fk_0_35 (ini : Bool) : iv_okw "RuleGraph" ini ((0, 0), .getfield 119, 10, 2, 85) := ⟨_, rfl, by decide, Or.inl (by decide +kernel)⟩
theorem fk_0_36 (ini : Bool) : iv_okw "RuleGraph" ini ((0, 0), .invokevirtual 122, 105, 2, 426) := ⟨ckv_105, by decide +kernel, Or.inl (by decide +kernel)⟩
theorem fk_0_37 (ini : Bool) : iv_okw "RuleGraph" ini ((0, 0), .getfield 125, 10, 6, 94) := ⟨_, rfl, by decide, Or.inl (by decide +kernel)⟩
theorem fk_0_38 (ini : Bool) : iv_okw "RuleGraph" ini ((0, 0), .getfield 129, 10, 7, 97) := ⟨_, rfl, by decide, Or.inl (by decide +kernel)⟩
theorem fk_0_39 (ini : Bool) : iv_okw "RuleGraph" ini ((0, 0), .invokevirtual 133, 113, 2, 438) := ⟨ckv_113, by decide +kernel, Or.inl (by decide +kernel)⟩
theorem fk_0_40 (ini : Bool) : iv_okw "RuleGraph" ini ((0, 0), .invokevirtual 136, 23, 3, 446) := ⟨ckv_23, by decide +kernel, Or.inl (by decide +kernel)⟩
theorem fk_0_41 (ini : Bool) : iv_okw "RuleGraph" ini ((0, 0), .invokevirtual 139, 104, 2, 458) := ⟨ckv_104, by decide +kernel, Or.inl (by decide +kernel)⟩
theorem fk_0_42 (ini : Bool) : iv_okw "RuleGraph" ini ((0, 0), .getfield 142, 10, 5, 91) := ⟨_, rfl, by decide, Or.inl (by decide +kernel)⟩
theorem fk_0_43 (ini : Bool) : iv_okw "RuleGraph" ini ((0, 0), .invokevirtual 146, 111, 2, 450) := ⟨ckv_111, by decide +kernel, Or.inl (by decide +kernel)⟩
theorem fk_0_44 (ini : Bool) : iv_okw "RuleGraph" ini ((0, 0), .getfield 149, 11, 2, 195) := ⟨_, rfl, by decide, Or.inl (by decide +kernel)⟩
theorem fk_0_45 (ini : Bool) : iv_okw "RuleGraph" ini ((0, 0), .invokevirtual 152, 114, 4, 466) := ⟨ckv_114, by decide +kernel, Or.inl (by decide +kernel)⟩
theorem fk_0_46 (ini : Bool) : iv_okw "RuleGraph" ini ((0, 0), .putfield 155, 6, 0, 217) := ⟨_, rfl, Or.inl ⟨by decide +kernel, Or.inl rfl⟩⟩
theorem fk_0_47 (ini : Bool) : iv_okw "RuleGraph" ini ((0, 0), .getfield 49, 0, 5, 281) := ⟨_, rfl, by decide, Or.inl (by decide +kernel)⟩
theorem fk_0_48 (ini : Bool) : iv_okw "RuleGraph" ini ((0, 0), .putfield 159, 2, 8, 256) := ⟨_, rfl, Or.inl ⟨by decide +kernel, Or.inl rfl⟩⟩
theorem fk_0_49 (ini : Bool) : iv_okw "RuleGraph" ini ((0, 0), .getfield 162, 5, 2, 174) := ⟨_, rfl, by decide, Or.inl (by decide +kernel)⟩
theorem fk_0_50 (ini : Bool) : iv_okw "RuleGraph" ini ((0, 0), .putfield 166, 7, 1, 72) := ⟨_, rfl, Or.inl ⟨by decide +kernel, Or.inl rfl⟩⟩
theorem fk_0_51 (ini : Bool) : iv_okw "RuleGraph" ini ((0, 0), .invokevirtual 169, 86, 3, 478) := ⟨ckv_86, by decide +kernel, Or.inr ⟨"RuleGraph", by decide +kernel⟩⟩
theorem fk_0_52 (ini : Bool) : iv_okw "RuleGraph" ini ((0, 0), .getfield 166, 7, 1, 72) := ⟨_, rfl, by decide, Or.inl (by decide +kernel)⟩
theorem fk_0_53 (ini : Bool) : iv_okw "RuleGraph" ini ((0, 0), .getfield 155, 6, 0, 217) := ⟨_, rfl, by decide, Or.inl (by decide +kernel)⟩
theorem fk_0_54 (ini : Bool) : iv_okw "RuleGraph" ini ((0, 0), .getfield 172, 7, 0, 67) := ⟨_, rfl, by decide, Or.inl (by decide +kernel)⟩
theorem fk_0_55 (ini : Bool) : iv_okw "RuleGraph" ini ((0, 0), .invokevirtual 175, 65, 3, 484) := ⟨ckv_65, by decide +kernel, Or.inr ⟨"RuleGraph", by decide +kernel⟩⟩
theorem fk_0_56 (ini : Bool) : iv_okw "RuleGraph" ini ((0, 0), .invokevirtual 178, 90, 2, 552) := ⟨ckv_90, by decide +kernel, Or.inl (by decide +kernel)⟩
theorem fk_0_57 (ini : Bool) : iv_okw "RuleGraph" ini ((0, 0), .invokevirtual 181, 72, 4, 560) := ⟨ckv_72, by decide +kernel, Or.inl (by decide +kernel)⟩
theorem fk_0_58 (ini : Bool) : iv_okw "RuleGraph" ini ((0, 0), .getfield 159, 2, 8, 256) := ⟨_, rfl, by decide, Or.inl (by decide +kernel)⟩
theorem fk_0_59 (ini : Bool) : iv_okw "RuleGraph" ini ((0, 0), .invokevirtual 185, 88, 2, 573) := ⟨ckv_88, by decide +kernel, Or.inl (by decide +kernel)⟩
theorem fk_0_60 (ini : Bool) : iv_okw "RuleGraph" ini ((0, 0), .getfield 188, 6, 1, 219) := ⟨_, rfl, by decide, Or.inl (by decide +kernel)⟩
theorem fk_0_61 (ini : Bool) : iv_okw "RuleGraph" ini ((0, 0), .invokevirtual 191, 91, 2, 581) := ⟨ckv_91, by decide +kernel, Or.inl (by decide +kernel)⟩
theorem fk_0_62 (ini : Bool) : iv_okw "RuleGraph" ini ((0, 0), .getfield 195, 6, 5, 226) := ⟨_, rfl, by decide, Or.inl (by decide +kernel)⟩
theorem fk_0_63 (ini : Bool) : iv_okw "RuleGraph" ini ((0, 0), .getfield 198, 6, 4, 224) := ⟨_, rfl, by decide, Or.inl (by decide +kernel)⟩
theorem fk_0_64 (ini : Bool) : iv_okw "RuleGraph" ini ((0, 0), .getfield 202, 11, 1, 192) := ⟨_, rfl, by decide, Or.inl (by decide +kernel)⟩
theorem fk_0_65 (ini : Bool) : iv_okw "RuleGraph" ini ((0, 0), .invokevirtual 205, 106, 3, 454) := ⟨ckv_106, by decide +kernel, Or.inl (by decide +kernel)⟩
theorem fi_0_0 : iv_okw "RuleGraph" true ((0, 0), .putfield 12, 0, 0, 276) := ⟨_, rfl, Or.inl ⟨by decide +kernel, Or.inr ⟨rfl, rfl, rfl⟩⟩⟩
theorem fi_0_1 : iv_okw "RuleGraph" true ((0, 0), .putfield 19, 0, 1, 277) := ⟨_, rfl, Or.inl ⟨by decide +kernel, Or.inr ⟨rfl, rfl, rfl⟩⟩⟩
theorem fi_0_2 : iv_okw "RuleGraph" true ((0, 0), .putfield 26, 0, 2, 278) := ⟨_, rfl, Or.inl ⟨by decide +kernel, Or.inr ⟨rfl, rfl, rfl⟩⟩⟩
theorem fi_0_3 : iv_okw "RuleGraph" true ((0, 0), .putfield 33, 0, 3, 279) := ⟨_, rfl, Or.inl ⟨by decide +kernel, Or.inr ⟨rfl, rfl, rfl⟩⟩⟩
theorem fi_0_4 : iv_okw "RuleGraph" true ((0, 0), .putfield 40, 0, 4, 280) := ⟨_, rfl, Or.inl ⟨by decide +kernel, Or.inr ⟨rfl, rfl, rfl⟩⟩⟩
theorem fi_0_5 : iv_okw "RuleGraph" true ((0, 0), .putfield 49, 0, 5, 281) := ⟨_, rfl, Or.inl ⟨by decide +kernel, Or.inr ⟨rfl, rfl, rfl⟩⟩⟩
def fl_0 : List (Instr × Nat × Nat × Nat) := [(.invokespecial 3, 0, 1, 47), (.new 9, 10, 0, 50), (.invokespecial 11, 101, 1, 52), (.new 16, 9, 0, 116), (.invokespecial 18, 97, 1, 118), (.new 23, 5, 0, 161), (.invokespecial 25, 81, 1, 163), (.new 30, 11, 0, 182), (.invokespecial 32, 110, 1, 184), (.new 37, 6, 0, 206), (.invokespecial 39, 87, 1, 208), (.new 44, 2, 0, 241), (.getfield 12, 0, 0, 276), (.getfield 19, 0, 1, 277), (.getfield 26, 0, 2, 278), (.getfield 33, 0, 3, 279), (.getfield 40, 0, 4, 280), (.invokespecial 46, 64, 6, 243), (.invokevirtual 53, 102, 2, 299), (.invokevirtual 57, 108, 2, 303), (.invokevirtual 61, 109, 3, 311), (.invokevirtual 65, 112, 3, 315), (.invokevirtual 69, 103, 2, 323), (.invokevirtual 72, 98, 2, 327), (.getfield 75, 9, 2, 153), (.invokevirtual 79, 99, 4, 331), (.invokevirtual 83, 100, 5, 354), (.invokevirtual 87, 76, 4, 384), (.putfield 93, 3, 2, 139), (.invokevirtual 97, 82, 2, 393), (.invokevirtual 100, 84, 3, 397), (.invokevirtual 104, 85, 3, 401), (.invokevirtual 107, 83, 2, 410), (.getfield 110, 5, 1, 172), (.invokevirtual 114, 95, 2, 414), (.getfield 119, 10, 2, 85), (.invokevirtual 122, 105, 2, 426), (.getfield 125, 10, 6, 94), (.getfield 129, 10, 7, 97), (.invokevirtual 133, 113, 2, 438), (.invokevirtual 136, 23, 3, 446), (.invokevirtual 139, 104, 2, 458), (.getfield 142, 10, 5, 91), (.invokevirtual 146, 111, 2, 450), (.getfield 149, 11, 2, 195), (.invokevirtual 152, 114, 4, 466), (.putfield 155, 6, 0, 217), (.getfield 49, 0, 5, 281), (.putfield 159, 2, 8, 256), (.getfield 162, 5, 2, 174), (.putfield 166, 7, 1, 72), (.invokevirtual 169, 86, 3, 478), (.getfield 166, 7, 1, 72), (.getfield 155, 6, 0, 217), (.getfield 172, 7, 0, 67), (.invokevirtual 175, 65, 3, 484), (.invokevirtual 178, 90, 2, 552), (.invokevirtual 181, 72, 4, 560), (.getfield 159, 2, 8, 256), (.invokevirtual 185, 88, 2, 573), (.getfield 188, 6, 1, 219), (.invokevirtual 191, 91, 2, 581), (.getfield 195, 6, 5, 226), (.getfield 198, 6, 4, 224), (.getfield 202, 11, 1, 192), (.invokevirtual 205, 106, 3, 454)]
def fj_0 : List (Instr × Nat × Nat × Nat) := fl_0 ++ [(.putfield 12, 0, 0, 276), (.putfield 19, 0, 1, 277), (.putfield 26, 0, 2, 278), (.putfield 33, 0, 3, 279), (.putfield 40, 0, 4, 280), (.putfield 49, 0, 5, 281)]
theorem fl_0_ok (ini : Bool) : ∀ q ∈ fl_0, ∀ a, iv_okw "RuleGraph" ini (a, q) := List.forall_mem_cons.mpr ⟨fun _ => fk_0_0 ini, List.forall_mem_cons.mpr ⟨fun _ => fk_0_1 ini, List.forall_mem_cons.mpr ⟨fun _ => fk_0_2 ini, List.forall_mem_cons.mpr ⟨fun _ => fk_0_3 ini, List.forall_mem_cons.mpr ⟨fun _ => fk_0_4 ini, List.forall_mem_cons.mpr ⟨fun _ => fk_0_5 ini, List.forall_mem_cons.mpr ⟨fun _ => fk_0_6 ini, List.forall_mem_cons.mpr ⟨fun _ => fk_0_7 ini, List.forall_mem_cons.mpr ⟨fun _ => fk_0_8 ini, List.forall_mem_cons.mpr ⟨fun _ => fk_0_9 ini, List.forall_mem_cons.mpr ⟨fun _ => fk_0_10 ini, List.forall_mem_cons.mpr ⟨fun _ => fk_0_11 ini, List.forall_mem_cons.mpr ⟨fun _ => fk_0_12 ini, List.forall_mem_cons.mpr ⟨fun _ => fk_0_13 ini, List.forall_mem_cons.mpr ⟨fun _ => fk_0_14 ini, List.forall_mem_cons.mpr ⟨fun _ => fk_0_15 ini, List.forall_mem_cons.mpr ⟨fun _ => fk_0_16 ini, List.forall_mem_cons.mpr ⟨fun _ => fk_0_17 ini, List.forall_mem_cons.mpr ⟨fun _ => fk_0_18 ini, List.forall_mem_cons.mpr ⟨fun _ => fk_0_19 ini, List.forall_mem_cons.mpr ⟨fun _ => fk_0_20 ini, List.forall_mem_cons.mpr ⟨fun _ => fk_0_21 ini, List.forall_mem_cons.mpr ⟨fun _ => fk_0_22 ini, List.forall_mem_cons.mpr ⟨fun _ => fk_0_23 ini, List.forall_mem_cons.mpr ⟨fun _ => fk_0_24 ini, List.forall_mem_cons.mpr ⟨fun _ => fk_0_25 ini, List.forall_mem_cons.mpr ⟨fun _ => fk_0_26 ini, List.forall_mem_cons.mpr ⟨fun _ => fk_0_27 ini, List.forall_mem_cons.mpr ⟨fun _ => fk_0_28 ini, List.forall_mem_cons.mpr ⟨fun _ => fk_0_29 ini, List.forall_mem_cons.mpr ⟨fun _ => fk_0_30 ini, List.forall_mem_cons.mpr ⟨fun _ => fk_0_31 ini, List.forall_mem_cons.mpr ⟨fun _ => fk_0_32 ini, List.forall_mem_cons.mpr ⟨fun _ => fk_0_33 ini, List.forall_mem_cons.mpr ⟨fun _ => fk_0_34 ini, List.forall_mem_cons.mpr ⟨fun _ => fk_0_35 ini, List.forall_mem_cons.mpr ⟨fun _ => fk_0_36 ini, List.forall_mem_cons.mpr ⟨fun _ => fk_0_37 ini, List.forall_mem_cons.mpr ⟨fun _ => fk_0_38 ini, List.forall_mem_cons.mpr ⟨fun _ => fk_0_39 ini, List.forall_mem_cons.mpr ⟨fun _ => fk_0_40 ini, List.forall_mem_cons.mpr ⟨fun _ => fk_0_41 ini, List.forall_mem_cons.mpr ⟨fun _ => fk_0_42 ini, List.forall_mem_cons.mpr ⟨fun _ => fk_0_43 ini, List.forall_mem_cons.mpr ⟨fun _ => fk_0_44 ini, List.forall_mem_cons.mpr ⟨fun _ => fk_0_45 ini, List.forall_mem_cons.mpr ⟨fun _ => fk_0_46 ini, List.forall_mem_cons.mpr ⟨fun _ => fk_0_47 ini, List.forall_mem_cons.mpr ⟨fun _ => fk_0_48 ini, List.forall_mem_cons.mpr ⟨fun _ => fk_0_49 ini, List.forall_mem_cons.mpr ⟨fun _ => fk_0_50 ini, List.forall_mem_cons.mpr ⟨fun _ => fk_0_51 ini, List.forall_mem_cons.mpr ⟨fun _ => fk_0_52 ini, List.forall_mem_cons.mpr ⟨fun _ => fk_0_53 ini, List.forall_mem_cons.mpr ⟨fun _ => fk_0_54 ini, List.forall_mem_cons.mpr ⟨fun _ => fk_0_55 ini, List.forall_mem_cons.mpr ⟨fun _ => fk_0_56 ini, List.forall_mem_cons.mpr ⟨fun _ => fk_0_57 ini, List.forall_mem_cons.mpr ⟨fun _ => fk_0_58 ini, List.forall_mem_cons.mpr ⟨fun _ => fk_0_59 ini, List.forall_mem_cons.mpr ⟨fun _ => fk_0_60 ini, List.forall_mem_cons.mpr ⟨fun _ => fk_0_61 ini, List.forall_mem_cons.mpr ⟨fun _ => fk_0_62 ini, List.forall_mem_cons.mpr ⟨fun _ => fk_0_63 ini, List.forall_mem_cons.mpr ⟨fun _ => fk_0_64 ini, List.forall_mem_cons.mpr ⟨fun _ => fk_0_65 ini, fun _ h => absurd h List.not_mem_nil⟩⟩⟩⟩⟩⟩⟩⟩⟩⟩⟩⟩⟩⟩⟩⟩⟩⟩⟩⟩⟩⟩⟩⟩⟩⟩⟩⟩⟩⟩⟩⟩⟩⟩⟩⟩⟩⟩⟩⟩⟩⟩⟩⟩⟩⟩⟩⟩⟩⟩⟩⟩⟩⟩⟩⟩⟩⟩⟩⟩⟩⟩⟩⟩⟩⟩
theorem fj_0_ok : ∀ q ∈ fj_0, ∀ a, iv_okw "RuleGraph" true (a, q) := List.forall_mem_append.mpr ⟨fl_0_ok true, List.forall_mem_cons.mpr ⟨fun _ => fi_0_0, List.forall_mem_cons.mpr ⟨fun _ => fi_0_1, List.forall_mem_cons.mpr ⟨fun _ => fi_0_2, List.forall_mem_cons.mpr ⟨fun _ => fi_0_3, List.forall_mem_cons.mpr ⟨fun _ => fi_0_4, List.forall_mem_cons.mpr ⟨fun _ => fi_0_5, fun _ h => absurd h List.not_mem_nil⟩⟩⟩⟩⟩⟩⟩
theorem fk_1_0 (ini : Bool) : iv_okw "RuleGraphModel" ini ((0, 0), .invokespecial 1, 0, 1, 598) := Or.inl ⟨rfl, by decide +kernel⟩
theorem fk_1_1 (ini : Bool) : iv_okw "RuleGraphModel" ini ((0, 0), .newarray .int, 100, 0, 78) := ⟨rfl, by decide +kernel⟩
theorem fk_1_2 (ini : Bool) : iv_okw "RuleGraphModel" ini ((0, 0), .putfield 7, 1, 1, 600) := ⟨_, rfl, Or.inl ⟨by decide +kernel, Or.inl rfl⟩⟩
theorem fk_1_3 (ini : Bool) : iv_okw "RuleGraphModel" ini ((0, 0), .putfield 13, 1, 3, 602) := ⟨_, rfl, Or.inl ⟨by decide +kernel, Or.inl rfl⟩⟩
theorem fk_1_4 (ini : Bool) : iv_okw "RuleGraphModel" ini ((0, 0), .putfield 16, 1, 4, 603) := ⟨_, rfl, Or.inl ⟨by decide +kernel, Or.inl rfl⟩⟩
theorem fk_1_5 (ini : Bool) : iv_okw "RuleGraphModel" ini ((0, 0), .newarray .boolean, 101, 0, 115) := ⟨rfl, by decide +kernel⟩
theorem fk_1_6 (ini : Bool) : iv_okw "RuleGraphModel" ini ((0, 0), .putfield 19, 1, 5, 604) := ⟨_, rfl, Or.inl ⟨by decide +kernel, Or.inl rfl⟩⟩
theorem fk_1_7 (ini : Bool) : iv_okw "RuleGraphModel" ini ((0, 0), .putfield 23, 1, 6, 605) := ⟨_, rfl, Or.inl ⟨by decide +kernel, Or.inl rfl⟩⟩
theorem fk_1_8 (ini : Bool) : iv_okw "RuleGraphModel" ini ((0, 0), .putfield 26, 1, 8, 607) := ⟨_, rfl, Or.inl ⟨by decide +kernel, Or.inl rfl⟩⟩
theorem fk_1_9 (ini : Bool) : iv_okw "RuleGraphModel" ini ((0, 0), .putfield 29, 1, 9, 608) := ⟨_, rfl, Or.inl ⟨by decide +kernel, Or.inl rfl⟩⟩
theorem fk_1_10 (ini : Bool) : iv_okw "RuleGraphModel" ini ((0, 0), .putfield 32, 1, 10, 609) := ⟨_, rfl, Or.inl ⟨by decide +kernel, Or.inl rfl⟩⟩
theorem fk_1_11 (ini : Bool) : iv_okw "RuleGraphModel" ini ((0, 0), .putfield 35, 1, 11, 610) := ⟨_, rfl, Or.inl ⟨by decide +kernel, Or.inl rfl⟩⟩
theorem fk_1_12 (ini : Bool) : iv_okw "RuleGraphModel" ini ((0, 0), .putfield 38, 1, 12, 611) := ⟨_, rfl, Or.inl ⟨by decide +kernel, Or.inl rfl⟩⟩
theorem fk_1_13 (ini : Bool) : iv_okw "RuleGraphModel" ini ((0, 0), .putfield 41, 1, 13, 612) := ⟨_, rfl, Or.inl ⟨by decide +kernel, Or.inl rfl⟩⟩
theorem fk_1_14 (ini : Bool) : iv_okw "RuleGraphModel" ini ((0, 0), .putfield 44, 1, 14, 613) := ⟨_, rfl, Or.inl ⟨by decide +kernel, Or.inl rfl⟩⟩
theorem fk_1_15 (ini : Bool) : iv_okw "RuleGraphModel" ini ((0, 0), .putfield 47, 1, 15, 614) := ⟨_, rfl, Or.inl ⟨by decide +kernel, Or.inl rfl⟩⟩
theorem fk_1_16 (ini : Bool) : iv_okw "RuleGraphModel" ini ((0, 0), .putfield 50, 1, 16, 615) := ⟨_, rfl, Or.inl ⟨by decide +kernel, Or.inl rfl⟩⟩
theorem fk_1_17 (ini : Bool) : iv_okw "RuleGraphModel" ini ((0, 0), .putfield 53, 1, 17, 616) := ⟨_, rfl, Or.inl ⟨by decide +kernel, Or.inl rfl⟩⟩
theorem fk_1_18 (ini : Bool) : iv_okw "RuleGraphModel" ini ((0, 0), .putfield 56, 1, 18, 617) := ⟨_, rfl, Or.inl ⟨by decide +kernel, Or.inl rfl⟩⟩
theorem fk_1_19 (ini : Bool) : iv_okw "RuleGraphModel" ini ((0, 0), .putfield 59, 1, 19, 618) := ⟨_, rfl, Or.inl ⟨by decide +kernel, Or.inl rfl⟩⟩
theorem fk_1_20 (ini : Bool) : iv_okw "RuleGraphModel" ini ((0, 0), .putfield 62, 1, 20, 619) := ⟨_, rfl, Or.inl ⟨by decide +kernel, Or.inl rfl⟩⟩
theorem fk_1_21 (ini : Bool) : iv_okw "RuleGraphModel" ini ((0, 0), .putfield 65, 1, 21, 620) := ⟨_, rfl, Or.inl ⟨by decide +kernel, Or.inl rfl⟩⟩
theorem fk_1_22 (ini : Bool) : iv_okw "RuleGraphModel" ini ((0, 0), .putfield 68, 1, 22, 621) := ⟨_, rfl, Or.inl ⟨by decide +kernel, Or.inl rfl⟩⟩
theorem fk_1_23 (ini : Bool) : iv_okw "RuleGraphModel" ini ((0, 0), .putfield 71, 1, 23, 622) := ⟨_, rfl, Or.inl ⟨by decide +kernel, Or.inl rfl⟩⟩
theorem fk_1_24 (ini : Bool) : iv_okw "RuleGraphModel" ini ((0, 0), .putfield 74, 1, 25, 624) := ⟨_, rfl, Or.inl ⟨by decide +kernel, Or.inl rfl⟩⟩
theorem fk_1_25 (ini : Bool) : iv_okw "RuleGraphModel" ini ((0, 0), .putfield 77, 1, 26, 625) := ⟨_, rfl, Or.inl ⟨by decide +kernel, Or.inl rfl⟩⟩
theorem fk_1_26 (ini : Bool) : iv_okw "RuleGraphModel" ini ((0, 0), .putfield 80, 1, 27, 626) := ⟨_, rfl, Or.inl ⟨by decide +kernel, Or.inl rfl⟩⟩
theorem fk_1_27 (ini : Bool) : iv_okw "RuleGraphModel" ini ((0, 0), .putfield 83, 1, 29, 628) := ⟨_, rfl, Or.inl ⟨by decide +kernel, Or.inl rfl⟩⟩
theorem fk_1_28 (ini : Bool) : iv_okw "RuleGraphModel" ini ((0, 0), .putfield 86, 1, 30, 629) := ⟨_, rfl, Or.inl ⟨by decide +kernel, Or.inl rfl⟩⟩
theorem fk_1_29 (ini : Bool) : iv_okw "RuleGraphModel" ini ((0, 0), .putfield 89, 1, 31, 630) := ⟨_, rfl, Or.inl ⟨by decide +kernel, Or.inl rfl⟩⟩
theorem fk_1_30 (ini : Bool) : iv_okw "RuleGraphModel" ini ((0, 0), .putfield 92, 1, 32, 631) := ⟨_, rfl, Or.inl ⟨by decide +kernel, Or.inl rfl⟩⟩
theorem fk_1_31 (ini : Bool) : iv_okw "RuleGraphModel" ini ((0, 0), .putfield 95, 1, 33, 632) := ⟨_, rfl, Or.inl ⟨by decide +kernel, Or.inl rfl⟩⟩
theorem fk_1_32 (ini : Bool) : iv_okw "RuleGraphModel" ini ((0, 0), .putfield 98, 1, 34, 633) := ⟨_, rfl, Or.inl ⟨by decide +kernel, Or.inl rfl⟩⟩
theorem fk_1_33 (ini : Bool) : iv_okw "RuleGraphModel" ini ((0, 0), .putfield 101, 1, 35, 634) := ⟨_, rfl, Or.inl ⟨by decide +kernel, Or.inl rfl⟩⟩
theorem fk_1_34 (ini : Bool) : iv_okw "RuleGraphModel" ini ((0, 0), .putfield 104, 1, 36, 635) := ⟨_, rfl, Or.inl ⟨by decide +kernel, Or.inl rfl⟩⟩
theorem fk_1_35 (ini : Bool) : iv_okw "RuleGraphModel" ini ((0, 0), .putfield 107, 1, 37, 636) := ⟨_, rfl, Or.inl ⟨by decide +kernel, Or.inl rfl⟩⟩
theorem fk_1_36 (ini : Bool) : iv_okw "RuleGraphModel" ini ((0, 0), .putfield 110, 1, 38, 637) := ⟨_, rfl, Or.inl ⟨by decide +kernel, Or.inl rfl⟩⟩
theorem fk_1_37 (ini : Bool) : iv_okw "RuleGraphModel" ini ((0, 0), .putfield 113, 1, 40, 639) := ⟨_, rfl, Or.inl ⟨by decide +kernel, Or.inl rfl⟩⟩
theorem fk_1_38 (ini : Bool) : iv_okw "RuleGraphModel" ini ((0, 0), .putfield 116, 1, 42, 641) := ⟨_, rfl, Or.inl ⟨by decide +kernel, Or.inl rfl⟩⟩
theorem fk_1_39 (ini : Bool) : iv_okw "RuleGraphModel" ini ((0, 0), .putfield 119, 1, 43, 642) := ⟨_, rfl, Or.inl ⟨by decide +kernel, Or.inl rfl⟩⟩
theorem fk_1_40 (ini : Bool) : iv_okw "RuleGraphModel" ini ((0, 0), .putfield 122, 1, 44, 643) := ⟨_, rfl, Or.inl ⟨by decide +kernel, Or.inl rfl⟩⟩
theorem fk_1_41 (ini : Bool) : iv_okw "RuleGraphModel" ini ((0, 0), .putfield 125, 1, 45, 644) := ⟨_, rfl, Or.inl ⟨by decide +kernel, Or.inl rfl⟩⟩
theorem fk_1_42 (ini : Bool) : iv_okw "RuleGraphModel" ini ((0, 0), .putfield 128, 1, 46, 645) := ⟨_, rfl, Or.inl ⟨by decide +kernel, Or.inl rfl⟩⟩
theorem fk_1_43 (ini : Bool) : iv_okw "RuleGraphModel" ini ((0, 0), .getfield 131, 1, 0, 599) := ⟨_, rfl, by decide, Or.inl (by decide +kernel)⟩
theorem fk_1_44 (ini : Bool) : iv_okw "RuleGraphModel" ini ((0, 0), .invokestatic 135, 25, 3, 748) := ⟨List.mem_of_getElem? (i := 749) (by decide +kernel), by decide +kernel, by decide +kernel⟩
theorem fk_1_45 (ini : Bool) : iv_okw "RuleGraphModel" ini ((0, 0), .getfield 7, 1, 1, 600) := ⟨_, rfl, by decide, Or.inl (by decide +kernel)⟩
theorem fk_1_46 (ini : Bool) : iv_okw "RuleGraphModel" ini ((0, 0), .putfield 131, 1, 0, 599) := ⟨_, rfl, Or.inl ⟨by decide +kernel, Or.inl rfl⟩⟩
theorem fk_1_47 (ini : Bool) : iv_okw "RuleGraphModel" ini ((0, 0), .getfield 139, 1, 2, 601) := ⟨_, rfl, by decide, Or.inl (by decide +kernel)⟩
theorem fk_1_48 (ini : Bool) : iv_okw "RuleGraphModel" ini ((0, 0), .getfield 13, 1, 3, 602) := ⟨_, rfl, by decide, Or.inl (by decide +kernel)⟩
theorem fk_1_49 (ini : Bool) : iv_okw "RuleGraphModel" ini ((0, 0), .getfield 16, 1, 4, 603) := ⟨_, rfl, by decide, Or.inl (by decide +kernel)⟩
theorem fk_1_50 (ini : Bool) : iv_okw "RuleGraphModel" ini ((0, 0), .putfield 139, 1, 2, 601) := ⟨_, rfl, Or.inl ⟨by decide +kernel, Or.inl rfl⟩⟩
theorem fk_1_51 (ini : Bool) : iv_okw "RuleGraphModel" ini ((0, 0), .getfield 142, 1, 7, 606) := ⟨_, rfl, by decide, Or.inl (by decide +kernel)⟩
theorem fk_1_52 (ini : Bool) : iv_okw "RuleGraphModel" ini ((0, 0), .getfield 26, 1, 8, 607) := ⟨_, rfl, by decide, Or.inl (by decide +kernel)⟩
theorem fk_1_53 (ini : Bool) : iv_okw "RuleGraphModel" ini ((0, 0), .getfield 29, 1, 9, 608) := ⟨_, rfl, by decide, Or.inl (by decide +kernel)⟩
theorem fk_1_54 (ini : Bool) : iv_okw "RuleGraphModel" ini ((0, 0), .getfield 32, 1, 10, 609) := ⟨_, rfl, by decide, Or.inl (by decide +kernel)⟩
theorem fk_1_55 (ini : Bool) : iv_okw "RuleGraphModel" ini ((0, 0), .getfield 35, 1, 11, 610) := ⟨_, rfl, by decide, Or.inl (by decide +kernel)⟩
theorem fk_1_56 (ini : Bool) : iv_okw "RuleGraphModel" ini ((0, 0), .getfield 38, 1, 12, 611) := ⟨_, rfl, by decide, Or.inl (by decide +kernel)⟩
theorem fk_1_57 (ini : Bool) : iv_okw "RuleGraphModel" ini ((0, 0), .getfield 41, 1, 13, 612) := ⟨_, rfl, by decide, Or.inl (by decide +kernel)⟩
theorem fk_1_58 (ini : Bool) : iv_okw "RuleGraphModel" ini ((0, 0), .putfield 142, 1, 7, 606) := ⟨_, rfl, Or.inl ⟨by decide +kernel, Or.inl rfl⟩⟩
theorem fk_1_59 (ini : Bool) : iv_okw "RuleGraphModel" ini ((0, 0), .getfield 44, 1, 14, 613) := ⟨_, rfl, by decide, Or.inl (by decide +kernel)⟩
theorem fk_1_60 (ini : Bool) : iv_okw "RuleGraphModel" ini ((0, 0), .getfield 47, 1, 15, 614) := ⟨_, rfl, by decide, Or.inl (by decide +kernel)⟩
theorem fk_1_61 (ini : Bool) : iv_okw "RuleGraphModel" ini ((0, 0), .getfield 50, 1, 16, 615) := ⟨_, rfl, by decide, Or.inl (by decide +kernel)⟩
theorem fk_1_62 (ini : Bool) : iv_okw "RuleGraphModel" ini ((0, 0), .getfield 53, 1, 17, 616) := ⟨_, rfl, by decide, Or.inl (by decide +kernel)⟩
theorem fk_1_63 (ini : Bool) : iv_okw "RuleGraphModel" ini ((0, 0), .getfield 56, 1, 18, 617) := ⟨_, rfl, by decide, Or.inl (by decide +kernel)⟩
theorem fk_1_64 (ini : Bool) : iv_okw "RuleGraphModel" ini ((0, 0), .getfield 59, 1, 19, 618) := ⟨_, rfl, by decide, Or.inl (by decide +kernel)⟩
theorem fk_1_65 (ini : Bool) : iv_okw "RuleGraphModel" ini ((0, 0), .invokevirtual 145, 31, 2, 771) := ⟨ckv_31, by decide +kernel, Or.inl (by decide +kernel)⟩
theorem fk_1_66 (ini : Bool) : iv_okw "RuleGraphModel" ini ((0, 0), .getfield 62, 1, 20, 619) := ⟨_, rfl, by decide, Or.inl (by decide +kernel)⟩
theorem fk_1_67 (ini : Bool) : iv_okw "RuleGraphModel" ini ((0, 0), .getfield 65, 1, 21, 620) := ⟨_, rfl, by decide, Or.inl (by decide +kernel)⟩
theorem fk_1_68 (ini : Bool) : iv_okw "RuleGraphModel" ini ((0, 0), .getfield 68, 1, 22, 621) := ⟨_, rfl, by decide, Or.inl (by decide +kernel)⟩
theorem fk_1_69 (ini : Bool) : iv_okw "RuleGraphModel" ini ((0, 0), .getfield 71, 1, 23, 622) := ⟨_, rfl, by decide, Or.inl (by decide +kernel)⟩
theorem fk_1_70 (ini : Bool) : iv_okw "RuleGraphModel" ini ((0, 0), .getfield 19, 1, 5, 604) := ⟨_, rfl, by decide, Or.inl (by decide +kernel)⟩
theorem fk_1_71 (ini : Bool) : iv_okw "RuleGraphModel" ini ((0, 0), .getfield 23, 1, 6, 605) := ⟨_, rfl, by decide, Or.inl (by decide +kernel)⟩
theorem fk_1_72 (ini : Bool) : iv_okw "RuleGraphModel" ini ((0, 0), .getfield 149, 1, 24, 623) := ⟨_, rfl, by decide, Or.inl (by decide +kernel)⟩
theorem fk_1_73 (ini : Bool) : iv_okw "RuleGraphModel" ini ((0, 0), .getfield 74, 1, 25, 624) := ⟨_, rfl, by decide, Or.inl (by decide +kernel)⟩
theorem fk_1_74 (ini : Bool) : iv_okw "RuleGraphModel" ini ((0, 0), .putfield 149, 1, 24, 623) := ⟨_, rfl, Or.inl ⟨by decide +kernel, Or.inl rfl⟩⟩
theorem fk_1_75 (ini : Bool) : iv_okw "RuleGraphModel" ini ((0, 0), .invokevirtual 152, 38, 3, 799) := ⟨ckv_38, by decide +kernel, Or.inl (by decide +kernel)⟩
theorem fk_1_76 (ini : Bool) : iv_okw "RuleGraphModel" ini ((0, 0), .getfield 77, 1, 26, 625) := ⟨_, rfl, by decide, Or.inl (by decide +kernel)⟩
theorem fk_1_77 (ini : Bool) : iv_okw "RuleGraphModel" ini ((0, 0), .getfield 80, 1, 27, 626) := ⟨_, rfl, by decide, Or.inl (by decide +kernel)⟩
theorem fk_1_78 (ini : Bool) : iv_okw "RuleGraphModel" ini ((0, 0), .invokestatic 156, 42, 3, 856) := ⟨List.mem_of_getElem? (i := 857) (by decide +kernel), by decide +kernel, by decide +kernel⟩
theorem fk_1_79 (ini : Bool) : iv_okw "RuleGraphModel" ini ((0, 0), .getfield 160, 1, 41, 640) := ⟨_, rfl, by decide, Or.inl (by decide +kernel)⟩
theorem fk_1_80 (ini : Bool) : iv_okw "RuleGraphModel" ini ((0, 0), .getfield 116, 1, 42, 641) := ⟨_, rfl, by decide, Or.inl (by decide +kernel)⟩
theorem fk_1_81 (ini : Bool) : iv_okw "RuleGraphModel" ini ((0, 0), .getfield 119, 1, 43, 642) := ⟨_, rfl, by decide, Or.inl (by decide +kernel)⟩
theorem fk_1_82 (ini : Bool) : iv_okw "RuleGraphModel" ini ((0, 0), .getfield 163, 1, 28, 627) := ⟨_, rfl, by decide, Or.inl (by decide +kernel)⟩
theorem fk_1_83 (ini : Bool) : iv_okw "RuleGraphModel" ini ((0, 0), .getfield 122, 1, 44, 643) := ⟨_, rfl, by decide, Or.inl (by decide +kernel)⟩
theorem fk_1_84 (ini : Bool) : iv_okw "RuleGraphModel" ini ((0, 0), .getfield 107, 1, 37, 636) := ⟨_, rfl, by decide, Or.inl (by decide +kernel)⟩
theorem fk_1_85 (ini : Bool) : iv_okw "RuleGraphModel" ini ((0, 0), .getfield 125, 1, 45, 644) := ⟨_, rfl, by decide, Or.inl (by decide +kernel)⟩
theorem fk_1_86 (ini : Bool) : iv_okw "RuleGraphModel" ini ((0, 0), .getfield 110, 1, 38, 637) := ⟨_, rfl, by decide, Or.inl (by decide +kernel)⟩
theorem fk_1_87 (ini : Bool) : iv_okw "RuleGraphModel" ini ((0, 0), .putfield 160, 1, 41, 640) := ⟨_, rfl, Or.inl ⟨by decide +kernel, Or.inl rfl⟩⟩
theorem fk_1_88 (ini : Bool) : iv_okw "RuleGraphModel" ini ((0, 0), .invokestatic 166, 44, 5, 863) := ⟨List.mem_of_getElem? (i := 864) (by decide +kernel), by decide +kernel, by decide +kernel⟩
theorem fk_1_89 (ini : Bool) : iv_okw "RuleGraphModel" ini ((0, 0), .invokevirtual 170, 45, 5, 866) := ⟨ckv_45, by decide +kernel, Or.inl (by decide +kernel)⟩
theorem fk_1_90 (ini : Bool) : iv_okw "RuleGraphModel" ini ((0, 0), .invokevirtual 174, 43, 2, 852) := ⟨ckv_43, by decide +kernel, Or.inl (by decide +kernel)⟩
theorem fk_1_91 (ini : Bool) : iv_okw "RuleGraphModel" ini ((0, 0), .invokevirtual 178, 46, 4, 859) := ⟨ckv_46, by decide +kernel, Or.inl (by decide +kernel)⟩
theorem fk_1_92 (ini : Bool) : iv_okw "RuleGraphModel" ini ((0, 0), .getfield 83, 1, 29, 628) := ⟨_, rfl, by decide, Or.inl (by decide +kernel)⟩
theorem fk_1_93 (ini : Bool) : iv_okw "RuleGraphModel" ini ((0, 0), .getfield 86, 1, 30, 629) := ⟨_, rfl, by decide, Or.inl (by decide +kernel)⟩
theorem fk_1_94 (ini : Bool) : iv_okw "RuleGraphModel" ini ((0, 0), .getfield 181, 1, 39, 638) := ⟨_, rfl, by decide, Or.inl (by decide +kernel)⟩
theorem fk_1_95 (ini : Bool) : iv_okw "RuleGraphModel" ini ((0, 0), .putfield 181, 1, 39, 638) := ⟨_, rfl, Or.inl ⟨by decide +kernel, Or.inl rfl⟩⟩
theorem fk_1_96 (ini : Bool) : iv_okw "RuleGraphModel" ini ((0, 0), .invokevirtual 184, 48, 2, 835) := ⟨ckv_48, by decide +kernel, Or.inl (by decide +kernel)⟩
theorem fk_1_97 (ini : Bool) : iv_okw "RuleGraphModel" ini ((0, 0), .getfield 89, 1, 31, 630) := ⟨_, rfl, by decide, Or.inl (by decide +kernel)⟩
theorem fk_1_98 (ini : Bool) : iv_okw "RuleGraphModel" ini ((0, 0), .getfield 95, 1, 33, 632) := ⟨_, rfl, by decide, Or.inl (by decide +kernel)⟩
theorem fk_1_99 (ini : Bool) : iv_okw "RuleGraphModel" ini ((0, 0), .putfield 163, 1, 28, 627) := ⟨_, rfl, Or.inl ⟨by decide +kernel, Or.inl rfl⟩⟩
theorem fk_1_100 (ini : Bool) : iv_okw "RuleGraphModel" ini ((0, 0), .getfield 92, 1, 32, 631) := ⟨_, rfl, by decide, Or.inl (by decide +kernel)⟩
theorem fk_1_101 (ini : Bool) : iv_okw "RuleGraphModel" ini ((0, 0), .getfield 104, 1, 36, 635) := ⟨_, rfl, by decide, Or.inl (by decide +kernel)⟩
theorem fk_1_102 (ini : Bool) : iv_okw "RuleGraphModel" ini ((0, 0), .getfield 98, 1, 34, 633) := ⟨_, rfl, by decide, Or.inl (by decide +kernel)⟩
theorem fk_1_103 (ini : Bool) : iv_okw "RuleGraphModel" ini ((0, 0), .getfield 101, 1, 35, 634) := ⟨_, rfl, by decide, Or.inl (by decide +kernel)⟩
theorem fk_1_104 (ini : Bool) : iv_okw "RuleGraphModel" ini ((0, 0), .invokevirtual 187, 47, 4, 848) := ⟨ckv_47, by decide +kernel, Or.inl (by decide +kernel)⟩
theorem fk_1_105 (ini : Bool) : iv_okw "RuleGraphModel" ini ((0, 0), .invokevirtual 191, 49, 3, 831) := ⟨ckv_49, by decide +kernel, Or.inl (by decide +kernel)⟩
theorem fk_1_106 (ini : Bool) : iv_okw "RuleGraphModel" ini ((0, 0), .ldc 195, 100000, 0, 839) := (show lw_tbl[839]? = some (Cond.constant "RuleGraphModel" 195 (Int32.ofNat 100000)) by decide +kernel)
theorem fk_1_107 (ini : Bool) : iv_okw "RuleGraphModel" ini ((0, 0), .invokevirtual 196, 51, 2, 840) := ⟨ckv_51, by decide +kernel, Or.inl (by decide +kernel)⟩
theorem fk_1_108 (ini : Bool) : iv_okw "RuleGraphModel" ini ((0, 0), .invokevirtual 199, 50, 2, 844) := ⟨ckv_50, by decide +kernel, Or.inl (by decide +kernel)⟩
theorem fk_1_109 (ini : Bool) : iv_okw "RuleGraphModel" ini ((0, 0), .invokevirtual 202, 53, 3, 819) := ⟨ckv_53, by decide +kernel, Or.inl (by decide +kernel)⟩
theorem fk_1_110 (ini : Bool) : iv_okw "RuleGraphModel" ini ((0, 0), .getfield 113, 1, 40, 639) := ⟨_, rfl, by decide, Or.inl (by decide +kernel)⟩
theorem fk_1_111 (ini : Bool) : iv_okw "RuleGraphModel" ini ((0, 0), .invokevirtual 205, 54, 2, 815) := ⟨ckv_54, by decide +kernel, Or.inl (by decide +kernel)⟩
theorem fk_1_112 (ini : Bool) : iv_okw "RuleGraphModel" ini ((0, 0), .invokevirtual 208, 55, 2, 823) := ⟨ckv_55, by decide +kernel, Or.inl (by decide +kernel)⟩
theorem fk_1_113 (ini : Bool) : iv_okw "RuleGraphModel" ini ((0, 0), .invokevirtual 211, 52, 3, 827) := ⟨ckv_52, by decide +kernel, Or.inl (by decide +kernel)⟩
theorem fk_1_114 (ini : Bool) : iv_okw "RuleGraphModel" ini ((0, 0), .getfield 128, 1, 46, 645) := ⟨_, rfl, by decide, Or.inl (by decide +kernel)⟩
theorem fk_1_115 (ini : Bool) : iv_okw "RuleGraphModel" ini ((0, 0), .getfield 214, 1, 47, 646) := ⟨_, rfl, by decide, Or.inl (by decide +kernel)⟩
theorem fk_1_116 (ini : Bool) : iv_okw "RuleGraphModel" ini ((0, 0), .putfield 214, 1, 47, 646) := ⟨_, rfl, Or.inl ⟨by decide +kernel, Or.inl rfl⟩⟩
theorem fk_1_117 (ini : Bool) : iv_okw "RuleGraphModel" ini ((0, 0), .invokevirtual 217, 61, 2, 894) := ⟨ckv_61, by decide +kernel, Or.inl (by decide +kernel)⟩
theorem fk_1_118 (ini : Bool) : iv_okw "RuleGraphModel" ini ((0, 0), .invokevirtual 221, 62, 3, 890) := ⟨ckv_62, by decide +kernel, Or.inl (by decide +kernel)⟩
def fl_1 : List (Instr × Nat × Nat × Nat) := [(.invokespecial 1, 0, 1, 598), (.newarray .int, 100, 0, 78), (.putfield 7, 1, 1, 600), (.putfield 13, 1, 3, 602), (.putfield 16, 1, 4, 603), (.newarray .boolean, 101, 0, 115), (.putfield 19, 1, 5, 604), (.putfield 23, 1, 6, 605), (.putfield 26, 1, 8, 607), (.putfield 29, 1, 9, 608), (.putfield 32, 1, 10, 609), (.putfield 35, 1, 11, 610), (.putfield 38, 1, 12, 611), (.putfield 41, 1, 13, 612), (.putfield 44, 1, 14, 613), (.putfield 47, 1, 15, 614), (.putfield 50, 1, 16, 615), (.putfield 53, 1, 17, 616), (.putfield 56, 1, 18, 617), (.putfield 59, 1, 19, 618), (.putfield 62, 1, 20, 619), (.putfield 65, 1, 21, 620), (.putfield 68, 1, 22, 621), (.putfield 71, 1, 23, 622), (.putfield 74, 1, 25, 624), (.putfield 77, 1, 26, 625), (.putfield 80, 1, 27, 626), (.putfield 83, 1, 29, 628), (.putfield 86, 1, 30, 629), (.putfield 89, 1, 31, 630), (.putfield 92, 1, 32, 631), (.putfield 95, 1, 33, 632), (.putfield 98, 1, 34, 633), (.putfield 101, 1, 35, 634), (.putfield 104, 1, 36, 635), (.putfield 107, 1, 37, 636), (.putfield 110, 1, 38, 637), (.putfield 113, 1, 40, 639), (.putfield 116, 1, 42, 641), (.putfield 119, 1, 43, 642), (.putfield 122, 1, 44, 643), (.putfield 125, 1, 45, 644), (.putfield 128, 1, 46, 645), (.getfield 131, 1, 0, 599), (.invokestatic 135, 25, 3, 748), (.getfield 7, 1, 1, 600), (.putfield 131, 1, 0, 599), (.getfield 139, 1, 2, 601), (.getfield 13, 1, 3, 602), (.getfield 16, 1, 4, 603), (.putfield 139, 1, 2, 601), (.getfield 142, 1, 7, 606), (.getfield 26, 1, 8, 607), (.getfield 29, 1, 9, 608), (.getfield 32, 1, 10, 609), (.getfield 35, 1, 11, 610), (.getfield 38, 1, 12, 611), (.getfield 41, 1, 13, 612), (.putfield 142, 1, 7, 606), (.getfield 44, 1, 14, 613), (.getfield 47, 1, 15, 614), (.getfield 50, 1, 16, 615), (.getfield 53, 1, 17, 616), (.getfield 56, 1, 18, 617), (.getfield 59, 1, 19, 618), (.invokevirtual 145, 31, 2, 771), (.getfield 62, 1, 20, 619), (.getfield 65, 1, 21, 620), (.getfield 68, 1, 22, 621), (.getfield 71, 1, 23, 622), (.getfield 19, 1, 5, 604), (.getfield 23, 1, 6, 605), (.getfield 149, 1, 24, 623), (.getfield 74, 1, 25, 624), (.putfield 149, 1, 24, 623), (.invokevirtual 152, 38, 3, 799), (.getfield 77, 1, 26, 625), (.getfield 80, 1, 27, 626), (.invokestatic 156, 42, 3, 856), (.getfield 160, 1, 41, 640), (.getfield 116, 1, 42, 641), (.getfield 119, 1, 43, 642), (.getfield 163, 1, 28, 627), (.getfield 122, 1, 44, 643), (.getfield 107, 1, 37, 636), (.getfield 125, 1, 45, 644), (.getfield 110, 1, 38, 637), (.putfield 160, 1, 41, 640), (.invokestatic 166, 44, 5, 863), (.invokevirtual 170, 45, 5, 866), (.invokevirtual 174, 43, 2, 852), (.invokevirtual 178, 46, 4, 859), (.getfield 83, 1, 29, 628), (.getfield 86, 1, 30, 629), (.getfield 181, 1, 39, 638), (.putfield 181, 1, 39, 638), (.invokevirtual 184, 48, 2, 835), (.getfield 89, 1, 31, 630), (.getfield 95, 1, 33, 632), (.putfield 163, 1, 28, 627), (.getfield 92, 1, 32, 631), (.getfield 104, 1, 36, 635), (.getfield 98, 1, 34, 633), (.getfield 101, 1, 35, 634), (.invokevirtual 187, 47, 4, 848), (.invokevirtual 191, 49, 3, 831), (.ldc 195, 100000, 0, 839), (.invokevirtual 196, 51, 2, 840), (.invokevirtual 199, 50, 2, 844), (.invokevirtual 202, 53, 3, 819), (.getfield 113, 1, 40, 639), (.invokevirtual 205, 54, 2, 815), (.invokevirtual 208, 55, 2, 823), (.invokevirtual 211, 52, 3, 827), (.getfield 128, 1, 46, 645), (.getfield 214, 1, 47, 646), (.putfield 214, 1, 47, 646), (.invokevirtual 217, 61, 2, 894), (.invokevirtual 221, 62, 3, 890)]
def fj_1 : List (Instr × Nat × Nat × Nat) := fl_1 ++ []
theorem fl_1_ok (ini : Bool) : ∀ q ∈ fl_1, ∀ a, iv_okw "RuleGraphModel" ini (a, q) := List.forall_mem_cons.mpr ⟨fun _ => fk_1_0 ini, List.forall_mem_cons.mpr ⟨fun _ => fk_1_1 ini, List.forall_mem_cons.mpr ⟨fun _ => fk_1_2 ini, List.forall_mem_cons.mpr ⟨fun _ => fk_1_3 ini, List.forall_mem_cons.mpr ⟨fun _ => fk_1_4 ini, List.forall_mem_cons.mpr ⟨fun _ => fk_1_5 ini, List.forall_mem_cons.mpr ⟨fun _ => fk_1_6 ini, List.forall_mem_cons.mpr ⟨fun _ => fk_1_7 ini, List.forall_mem_cons.mpr ⟨fun _ => fk_1_8 ini, List.forall_mem_cons.mpr ⟨fun _ => fk_1_9 ini, List.forall_mem_cons.mpr ⟨fun _ => fk_1_10 ini, List.forall_mem_cons.mpr ⟨fun _ => fk_1_11 ini, List.forall_mem_cons.mpr ⟨fun _ => fk_1_12 ini, List.forall_mem_cons.mpr ⟨fun _ => fk_1_13 ini, List.forall_mem_cons.mpr ⟨fun _ => fk_1_14 ini, List.forall_mem_cons.mpr ⟨fun _ => fk_1_15 ini, List.forall_mem_cons.mpr ⟨fun _ => fk_1_16 ini, List.forall_mem_cons.mpr ⟨fun _ => fk_1_17 ini, List.forall_mem_cons.mpr ⟨fun _ => fk_1_18 ini, List.forall_mem_cons.mpr ⟨fun _ => fk_1_19 ini, List.forall_mem_cons.mpr ⟨fun _ => fk_1_20 ini, List.forall_mem_cons.mpr ⟨fun _ => fk_1_21 ini, List.forall_mem_cons.mpr ⟨fun _ => fk_1_22 ini, List.forall_mem_cons.mpr ⟨fun _ => fk_1_23 ini, List.forall_mem_cons.mpr ⟨fun _ => fk_1_24 ini, List.forall_mem_cons.mpr ⟨fun _ => fk_1_25 ini, List.forall_mem_cons.mpr ⟨fun _ => fk_1_26 ini, List.forall_mem_cons.mpr ⟨fun _ => fk_1_27 ini, List.forall_mem_cons.mpr ⟨fun _ => fk_1_28 ini, List.forall_mem_cons.mpr ⟨fun _ => fk_1_29 ini, List.forall_mem_cons.mpr ⟨fun _ => fk_1_30 ini, List.forall_mem_cons.mpr ⟨fun _ => fk_1_31 ini, List.forall_mem_cons.mpr ⟨fun _ => fk_1_32 ini, List.forall_mem_cons.mpr ⟨fun _ => fk_1_33 ini, List.forall_mem_cons.mpr ⟨fun _ => fk_1_34 ini, List.forall_mem_cons.mpr ⟨fun _ => fk_1_35 ini, List.forall_mem_cons.mpr ⟨fun _ => fk_1_36 ini, List.forall_mem_cons.mpr ⟨fun _ => fk_1_37 ini, List.forall_mem_cons.mpr ⟨fun _ => fk_1_38 ini, List.forall_mem_cons.mpr ⟨fun _ => fk_1_39 ini, List.forall_mem_cons.mpr ⟨fun _ => fk_1_40 ini, List.forall_mem_cons.mpr ⟨fun _ => fk_1_41 ini, List.forall_mem_cons.mpr ⟨fun _ => fk_1_42 ini, List.forall_mem_cons.mpr ⟨fun _ => fk_1_43 ini, List.forall_mem_cons.mpr ⟨fun _ => fk_1_44 ini, List.forall_mem_cons.mpr ⟨fun _ => fk_1_45 ini, List.forall_mem_cons.mpr ⟨fun _ => fk_1_46 ini, List.forall_mem_cons.mpr ⟨fun _ => fk_1_47 ini, List.forall_mem_cons.mpr ⟨fun _ => fk_1_48 ini, List.forall_mem_cons.mpr ⟨fun _ => fk_1_49 ini, List.forall_mem_cons.mpr ⟨fun _ => fk_1_50 ini, List.forall_mem_cons.mpr ⟨fun _ => fk_1_51 ini, List.forall_mem_cons.mpr ⟨fun _ => fk_1_52 ini, List.forall_mem_cons.mpr ⟨fun _ => fk_1_53 ini, List.forall_mem_cons.mpr ⟨fun _ => fk_1_54 ini, List.forall_mem_cons.mpr ⟨fun _ => fk_1_55 ini, List.forall_mem_cons.mpr ⟨fun _ => fk_1_56 ini, List.forall_mem_cons.mpr ⟨fun _ => fk_1_57 ini, List.forall_mem_cons.mpr ⟨fun _ => fk_1_58 ini, List.forall_mem_cons.mpr ⟨fun _ => fk_1_59 ini, List.forall_mem_cons.mpr ⟨fun _ => fk_1_60 ini, List.forall_mem_cons.mpr ⟨fun _ => fk_1_61 ini, List.forall_mem_cons.mpr ⟨fun _ => fk_1_62 ini, List.forall_mem_cons.mpr ⟨fun _ => fk_1_63 ini, List.forall_mem_cons.mpr ⟨fun _ => fk_1_64 ini, List.forall_mem_cons.mpr ⟨fun _ => fk_1_65 ini, List.forall_mem_cons.mpr ⟨fun _ => fk_1_66 ini, List.forall_mem_cons.mpr ⟨fun _ => fk_1_67 ini, List.forall_mem_cons.mpr ⟨fun _ => fk_1_68 ini, List.forall_mem_cons.mpr ⟨fun _ => fk_1_69 ini, List.forall_mem_cons.mpr ⟨fun _ => fk_1_70 ini, List.forall_mem_cons.mpr ⟨fun _ => fk_1_71 ini, List.forall_mem_cons.mpr ⟨fun _ => fk_1_72 ini, List.forall_mem_cons.mpr ⟨fun _ => fk_1_73 ini, List.forall_mem_cons.mpr ⟨fun _ => fk_1_74 ini, List.forall_mem_cons.mpr ⟨fun _ => fk_1_75 ini, List.forall_mem_cons.mpr ⟨fun _ => fk_1_76 ini, List.forall_mem_cons.mpr ⟨fun _ => fk_1_77 ini, List.forall_mem_cons.mpr ⟨fun _ => fk_1_78 ini, List.forall_mem_cons.mpr ⟨fun _ => fk_1_79 ini, List.forall_mem_cons.mpr ⟨fun _ => fk_1_80 ini, List.forall_mem_cons.mpr ⟨fun _ => fk_1_81 ini, List.forall_mem_cons.mpr ⟨fun _ => fk_1_82 ini, List.forall_mem_cons.mpr ⟨fun _ => fk_1_83 ini, List.forall_mem_cons.mpr ⟨fun _ => fk_1_84 ini, List.forall_mem_cons.mpr ⟨fun _ => fk_1_85 ini, List.forall_mem_cons.mpr ⟨fun _ => fk_1_86 ini, List.forall_mem_cons.mpr ⟨fun _ => fk_1_87 ini, List.forall_mem_cons.mpr ⟨fun _ => fk_1_88 ini, List.forall_mem_cons.mpr ⟨fun _ => fk_1_89 ini, List.forall_mem_cons.mpr ⟨fun _ => fk_1_90 ini, List.forall_mem_cons.mpr ⟨fun _ => fk_1_91 ini, List.forall_mem_cons.mpr ⟨fun _ => fk_1_92 ini, List.forall_mem_cons.mpr ⟨fun _ => fk_1_93 ini, List.forall_mem_cons.mpr ⟨fun _ => fk_1_94 ini, List.forall_mem_cons.mpr ⟨fun _ => fk_1_95 ini, List.forall_mem_cons.mpr ⟨fun _ => fk_1_96 ini, List.forall_mem_cons.mpr ⟨fun _ => fk_1_97 ini, List.forall_mem_cons.mpr ⟨fun _ => fk_1_98 ini, List.forall_mem_cons.mpr ⟨fun _ => fk_1_99 ini, List.forall_mem_cons.mpr ⟨fun _ => fk_1_100 ini, List.forall_mem_cons.mpr ⟨fun _ => fk_1_101 ini, List.forall_mem_cons.mpr ⟨fun _ => fk_1_102 ini, List.forall_mem_cons.mpr ⟨fun _ => fk_1_103 ini, List.forall_mem_cons.mpr ⟨fun _ => fk_1_104 ini, List.forall_mem_cons.mpr ⟨fun _ => fk_1_105 ini, List.forall_mem_cons.mpr ⟨fun _ => fk_1_106 ini, List.forall_mem_cons.mpr ⟨fun _ => fk_1_107 ini, List.forall_mem_cons.mpr ⟨fun _ => fk_1_108 ini, List.forall_mem_cons.mpr ⟨fun _ => fk_1_109 ini, List.forall_mem_cons.mpr ⟨fun _ => fk_1_110 ini, List.forall_mem_cons.mpr ⟨fun _ => fk_1_111 ini, List.forall_mem_cons.mpr ⟨fun _ => fk_1_112 ini, List.forall_mem_cons.mpr ⟨fun _ => fk_1_113 ini, List.forall_mem_cons.mpr ⟨fun _ => fk_1_114 ini, List.forall_mem_cons.mpr ⟨fun _ => fk_1_115 ini, List.forall_mem_cons.mpr ⟨fun _ => fk_1_116 ini, List.forall_mem_cons.mpr ⟨fun _ => fk_1_117 ini, List.forall_mem_cons.mpr ⟨fun _ => fk_1_118 ini, fun _ h => absurd h List.not_mem_nil⟩⟩⟩⟩⟩⟩⟩⟩⟩⟩⟩⟩⟩⟩⟩⟩⟩⟩⟩⟩⟩⟩⟩⟩⟩⟩⟩⟩⟩⟩⟩⟩⟩⟩⟩⟩⟩⟩⟩⟩⟩⟩⟩⟩⟩⟩⟩⟩⟩⟩⟩⟩⟩⟩⟩⟩⟩⟩⟩⟩⟩⟩⟩⟩⟩⟩⟩⟩⟩⟩⟩⟩⟩⟩⟩⟩⟩⟩⟩⟩⟩⟩⟩⟩⟩⟩⟩⟩⟩⟩⟩⟩⟩⟩⟩⟩⟩⟩⟩⟩⟩⟩⟩⟩⟩⟩⟩⟩⟩⟩⟩⟩⟩⟩⟩⟩⟩⟩⟩
theorem fj_1_ok : ∀ q ∈ fj_1, ∀ a, iv_okw "RuleGraphModel" true (a, q) := List.forall_mem_append.mpr ⟨fl_1_ok true, fun _ h => absurd h List.not_mem_nil⟩
theorem fk_2_0 (ini : Bool) : iv_okw "RuleGraph$Checker" ini ((0, 0), .invokespecial 3, 0, 1, 246) := Or.inl ⟨rfl, by decide +kernel⟩
theorem fk_2_1 (ini : Bool) : iv_okw "RuleGraph$Checker" ini ((0, 0), .newarray .int, 100, 0, 78) := ⟨rfl, by decide +kernel⟩
theorem fk_2_2 (ini : Bool) : iv_okw "RuleGraph$Checker" ini ((0, 0), .putfield 38, 2, 7, 254) := ⟨_, rfl, Or.inl ⟨by decide +kernel, Or.inl rfl⟩⟩
theorem fk_2_3 (ini : Bool) : iv_okw "RuleGraph$Checker" ini ((0, 0), .putfield 42, 2, 8, 255) := ⟨_, rfl, Or.inl ⟨by decide +kernel, Or.inl rfl⟩⟩
theorem fk_2_4 (ini : Bool) : iv_okw "RuleGraph$Checker" ini ((0, 0), .invokevirtual 45, 66, 3, 488) := ⟨ckv_66, by decide +kernel, Or.inl (by decide +kernel)⟩
theorem fk_2_5 (ini : Bool) : iv_okw "RuleGraph$Checker" ini ((0, 0), .getfield 42, 2, 8, 255) := ⟨_, rfl, by decide, Or.inl (by decide +kernel)⟩
theorem fk_2_6 (ini : Bool) : iv_okw "RuleGraph$Checker" ini ((0, 0), .getfield 38, 2, 7, 254) := ⟨_, rfl, by decide, Or.inl (by decide +kernel)⟩
theorem fk_2_7 (ini : Bool) : iv_okw "RuleGraph$Checker" ini ((0, 0), .getfield 31, 2, 5, 252) := ⟨_, rfl, by decide, Or.inl (by decide +kernel)⟩
theorem fk_2_8 (ini : Bool) : iv_okw "RuleGraph$Checker" ini ((0, 0), .getfield 35, 2, 6, 253) := ⟨_, rfl, by decide, Or.inl (by decide +kernel)⟩
theorem fk_2_9 (ini : Bool) : iv_okw "RuleGraph$Checker" ini ((0, 0), .invokevirtual 49, 67, 3, 492) := ⟨ckv_67, by decide +kernel, Or.inl (by decide +kernel)⟩
theorem fk_2_10 (ini : Bool) : iv_okw "RuleGraph$Checker" ini ((0, 0), .getfield 9, 2, 0, 247) := ⟨_, rfl, by decide, Or.inl (by decide +kernel)⟩
theorem fk_2_11 (ini : Bool) : iv_okw "RuleGraph$Checker" ini ((0, 0), .getfield 53, 10, 2, 84) := ⟨_, rfl, by decide, Or.inl (by decide +kernel)⟩
theorem fk_2_12 (ini : Bool) : iv_okw "RuleGraph$Checker" ini ((0, 0), .getfield 23, 2, 3, 250) := ⟨_, rfl, by decide, Or.inl (by decide +kernel)⟩
theorem fk_2_13 (ini : Bool) : iv_okw "RuleGraph$Checker" ini ((0, 0), .getfield 59, 11, 1, 191) := ⟨_, rfl, by decide, Or.inl (by decide +kernel)⟩
theorem fk_2_14 (ini : Bool) : iv_okw "RuleGraph$Checker" ini ((0, 0), .getfield 64, 7, 1, 70) := ⟨_, rfl, by decide, Or.inl (by decide +kernel)⟩
theorem fk_2_15 (ini : Bool) : iv_okw "RuleGraph$Checker" ini ((0, 0), .invokevirtual 69, 69, 3, 496) := ⟨ckv_69, by decide +kernel, Or.inl (by decide +kernel)⟩
theorem fk_2_16 (ini : Bool) : iv_okw "RuleGraph$Checker" ini ((0, 0), .invokevirtual 72, 68, 2, 548) := ⟨ckv_68, by decide +kernel, Or.inl (by decide +kernel)⟩
theorem fk_2_17 (ini : Bool) : iv_okw "RuleGraph$Checker" ini ((0, 0), .getfield 27, 2, 4, 251) := ⟨_, rfl, by decide, Or.inl (by decide +kernel)⟩
theorem fk_2_18 (ini : Bool) : iv_okw "RuleGraph$Checker" ini ((0, 0), .getfield 76, 6, 0, 216) := ⟨_, rfl, by decide, Or.inl (by decide +kernel)⟩
theorem fk_2_19 (ini : Bool) : iv_okw "RuleGraph$Checker" ini ((0, 0), .getfield 81, 7, 0, 65) := ⟨_, rfl, by decide, Or.inl (by decide +kernel)⟩
theorem fk_2_20 (ini : Bool) : iv_okw "RuleGraph$Checker" ini ((0, 0), .invokevirtual 84, 107, 2, 500) := ⟨ckv_107, by decide +kernel, Or.inl (by decide +kernel)⟩
theorem fk_2_21 (ini : Bool) : iv_okw "RuleGraph$Checker" ini ((0, 0), .invokevirtual 88, 72, 4, 505) := ⟨ckv_72, by decide +kernel, Or.inl (by decide +kernel)⟩
theorem fk_2_22 (ini : Bool) : iv_okw "RuleGraph$Checker" ini ((0, 0), .getfield 92, 10, 3, 87) := ⟨_, rfl, by decide, Or.inl (by decide +kernel)⟩
theorem fk_2_23 (ini : Bool) : iv_okw "RuleGraph$Checker" ini ((0, 0), .getfield 95, 10, 6, 93) := ⟨_, rfl, by decide, Or.inl (by decide +kernel)⟩
theorem fk_2_24 (ini : Bool) : iv_okw "RuleGraph$Checker" ini ((0, 0), .getfield 99, 10, 7, 96) := ⟨_, rfl, by decide, Or.inl (by decide +kernel)⟩
theorem fk_2_25 (ini : Bool) : iv_okw "RuleGraph$Checker" ini ((0, 0), .invokevirtual 103, 70, 4, 538) := ⟨ckv_70, by decide +kernel, Or.inl (by decide +kernel)⟩
theorem fk_2_26 (ini : Bool) : iv_okw "RuleGraph$Checker" ini ((0, 0), .getfield 106, 11, 2, 194) := ⟨_, rfl, by decide, Or.inl (by decide +kernel)⟩
theorem fk_2_27 (ini : Bool) : iv_okw "RuleGraph$Checker" ini ((0, 0), .invokevirtual 109, 104, 2, 533) := ⟨ckv_104, by decide +kernel, Or.inl (by decide +kernel)⟩
theorem fk_2_28 (ini : Bool) : iv_okw "RuleGraph$Checker" ini ((0, 0), .invokevirtual 113, 71, 5, 542) := ⟨ckv_71, by decide +kernel, Or.inl (by decide +kernel)⟩
theorem fk_2_29 (ini : Bool) : iv_okw "RuleGraph$Checker" ini ((0, 0), .invokevirtual 117, 115, 4, 534) := ⟨ckv_115, by decide +kernel, Or.inl (by decide +kernel)⟩
theorem fk_2_30 (ini : Bool) : iv_okw "RuleGraph$Checker" ini ((0, 0), .getfield 120, 6, 3, 222) := ⟨_, rfl, by decide, Or.inl (by decide +kernel)⟩
theorem fk_2_31 (ini : Bool) : iv_okw "RuleGraph$Checker" ini ((0, 0), .invokevirtual 124, 95, 2, 546) := ⟨ckv_95, by decide +kernel, Or.inl (by decide +kernel)⟩
theorem fk_2_32 (ini : Bool) : iv_okw "RuleGraph$Checker" ini ((0, 0), .invokevirtual 127, 65, 3, 547) := ⟨ckv_65, by decide +kernel, Or.inl (by decide +kernel)⟩
theorem fk_2_33 (ini : Bool) : iv_okw "RuleGraph$Checker" ini ((0, 0), .putfield 64, 7, 1, 70) := ⟨_, rfl, Or.inl ⟨by decide +kernel, Or.inl rfl⟩⟩
theorem fk_2_34 (ini : Bool) : iv_okw "RuleGraph$Checker" ini ((0, 0), .getfield 15, 2, 1, 248) := ⟨_, rfl, by decide, Or.inl (by decide +kernel)⟩
theorem fk_2_35 (ini : Bool) : iv_okw "RuleGraph$Checker" ini ((0, 0), .getfield 130, 9, 1, 151) := ⟨_, rfl, by decide, Or.inl (by decide +kernel)⟩
theorem fk_2_36 (ini : Bool) : iv_okw "RuleGraph$Checker" ini ((0, 0), .getfield 135, 9, 0, 149) := ⟨_, rfl, by decide, Or.inl (by decide +kernel)⟩
theorem fk_2_37 (ini : Bool) : iv_okw "RuleGraph$Checker" ini ((0, 0), .getfield 139, 8, 0, 364) := ⟨_, rfl, by decide, Or.inl (by decide +kernel)⟩
theorem fk_2_38 (ini : Bool) : iv_okw "RuleGraph$Checker" ini ((0, 0), .getfield 144, 8, 3, 370) := ⟨_, rfl, by decide, Or.inl (by decide +kernel)⟩
theorem fk_2_39 (ini : Bool) : iv_okw "RuleGraph$Checker" ini ((0, 0), .getfield 19, 2, 2, 249) := ⟨_, rfl, by decide, Or.inl (by decide +kernel)⟩
theorem fk_2_40 (ini : Bool) : iv_okw "RuleGraph$Checker" ini ((0, 0), .getfield 146, 5, 0, 170) := ⟨_, rfl, by decide, Or.inl (by decide +kernel)⟩
theorem fk_2_41 (ini : Bool) : iv_okw "RuleGraph$Checker" ini ((0, 0), .invokevirtual 151, 73, 4, 509) := ⟨ckv_73, by decide +kernel, Or.inl (by decide +kernel)⟩
theorem fk_2_42 (ini : Bool) : iv_okw "RuleGraph$Checker" ini ((0, 0), .getfield 155, 8, 2, 368) := ⟨_, rfl, by decide, Or.inl (by decide +kernel)⟩
theorem fk_2_43 (ini : Bool) : iv_okw "RuleGraph$Checker" ini ((0, 0), .getfield 159, 10, 5, 90) := ⟨_, rfl, by decide, Or.inl (by decide +kernel)⟩
theorem fk_2_44 (ini : Bool) : iv_okw "RuleGraph$Checker" ini ((0, 0), .getfield 162, 8, 1, 366) := ⟨_, rfl, by decide, Or.inl (by decide +kernel)⟩
theorem fk_2_45 (ini : Bool) : iv_okw "RuleGraph$Checker" ini ((0, 0), .invokevirtual 166, 77, 3, 513) := ⟨ckv_77, by decide +kernel, Or.inl (by decide +kernel)⟩
theorem fk_2_46 (ini : Bool) : iv_okw "RuleGraph$Checker" ini ((0, 0), .invokevirtual 172, 74, 6, 521) := ⟨ckv_74, by decide +kernel, Or.inl (by decide +kernel)⟩
theorem fk_2_47 (ini : Bool) : iv_okw "RuleGraph$Checker" ini ((0, 0), .getfield 176, 3, 1, 136) := ⟨_, rfl, by decide, Or.inl (by decide +kernel)⟩
theorem fk_2_48 (ini : Bool) : iv_okw "RuleGraph$Checker" ini ((0, 0), .getfield 177, 3, 0, 134) := ⟨_, rfl, by decide, Or.inl (by decide +kernel)⟩
theorem fk_2_49 (ini : Bool) : iv_okw "RuleGraph$Checker" ini ((0, 0), .invokevirtual 181, 80, 2, 525) := ⟨ckv_80, by decide +kernel, Or.inl (by decide +kernel)⟩
theorem fk_2_50 (ini : Bool) : iv_okw "RuleGraph$Checker" ini ((0, 0), .getfield 186, 3, 2, 140) := ⟨_, rfl, by decide, Or.inl (by decide +kernel)⟩
theorem fk_2_51 (ini : Bool) : iv_okw "RuleGraph$Checker" ini ((0, 0), .invokevirtual 189, 89, 7, 529) := ⟨ckv_89, by decide +kernel, Or.inl (by decide +kernel)⟩
theorem fi_2_0 : iv_okw "RuleGraph$Checker" true ((0, 0), .putfield 9, 2, 0, 247) := ⟨_, rfl, Or.inl ⟨by decide +kernel, Or.inr ⟨rfl, rfl, rfl⟩⟩⟩
theorem fi_2_1 : iv_okw "RuleGraph$Checker" true ((0, 0), .putfield 15, 2, 1, 248) := ⟨_, rfl, Or.inl ⟨by decide +kernel, Or.inr ⟨rfl, rfl, rfl⟩⟩⟩
theorem fi_2_2 : iv_okw "RuleGraph$Checker" true ((0, 0), .putfield 19, 2, 2, 249) := ⟨_, rfl, Or.inl ⟨by decide +kernel, Or.inr ⟨rfl, rfl, rfl⟩⟩⟩
theorem fi_2_3 : iv_okw "RuleGraph$Checker" true ((0, 0), .putfield 23, 2, 3, 250) := ⟨_, rfl, Or.inl ⟨by decide +kernel, Or.inr ⟨rfl, rfl, rfl⟩⟩⟩
theorem fi_2_4 : iv_okw "RuleGraph$Checker" true ((0, 0), .putfield 27, 2, 4, 251) := ⟨_, rfl, Or.inl ⟨by decide +kernel, Or.inr ⟨rfl, rfl, rfl⟩⟩⟩
theorem fi_2_5 : iv_okw "RuleGraph$Checker" true ((0, 0), .putfield 31, 2, 5, 252) := ⟨_, rfl, Or.inl ⟨by decide +kernel, Or.inr ⟨rfl, rfl, rfl⟩⟩⟩
theorem fi_2_6 : iv_okw "RuleGraph$Checker" true ((0, 0), .putfield 35, 2, 6, 253) := ⟨_, rfl, Or.inl ⟨by decide +kernel, Or.inr ⟨rfl, rfl, rfl⟩⟩⟩
def fl_2 : List (Instr × Nat × Nat × Nat) := [(.invokespecial 3, 0, 1, 246), (.newarray .int, 100, 0, 78), (.putfield 38, 2, 7, 254), (.putfield 42, 2, 8, 255), (.invokevirtual 45, 66, 3, 488), (.getfield 42, 2, 8, 255), (.getfield 38, 2, 7, 254), (.getfield 31, 2, 5, 252), (.getfield 35, 2, 6, 253), (.invokevirtual 49, 67, 3, 492), (.getfield 9, 2, 0, 247), (.getfield 53, 10, 2, 84), (.getfield 23, 2, 3, 250), (.getfield 59, 11, 1, 191), (.getfield 64, 7, 1, 70), (.invokevirtual 69, 69, 3, 496), (.invokevirtual 72, 68, 2, 548), (.getfield 27, 2, 4, 251), (.getfield 76, 6, 0, 216), (.getfield 81, 7, 0, 65), (.invokevirtual 84, 107, 2, 500), (.invokevirtual 88, 72, 4, 505), (.getfield 92, 10, 3, 87), (.getfield 95, 10, 6, 93), (.getfield 99, 10, 7, 96), (.invokevirtual 103, 70, 4, 538), (.getfield 106, 11, 2, 194), (.invokevirtual 109, 104, 2, 533), (.invokevirtual 113, 71, 5, 542), (.invokevirtual 117, 115, 4, 534), (.getfield 120, 6, 3, 222), (.invokevirtual 124, 95, 2, 546), (.invokevirtual 127, 65, 3, 547), (.putfield 64, 7, 1, 70), (.getfield 15, 2, 1, 248), (.getfield 130, 9, 1, 151), (.getfield 135, 9, 0, 149), (.getfield 139, 8, 0, 364), (.getfield 144, 8, 3, 370), (.getfield 19, 2, 2, 249), (.getfield 146, 5, 0, 170), (.invokevirtual 151, 73, 4, 509), (.getfield 155, 8, 2, 368), (.getfield 159, 10, 5, 90), (.getfield 162, 8, 1, 366), (.invokevirtual 166, 77, 3, 513), (.invokevirtual 172, 74, 6, 521), (.getfield 176, 3, 1, 136), (.getfield 177, 3, 0, 134), (.invokevirtual 181, 80, 2, 525), (.getfield 186, 3, 2, 140), (.invokevirtual 189, 89, 7, 529)]
def fj_2 : List (Instr × Nat × Nat × Nat) := fl_2 ++ [(.putfield 9, 2, 0, 247), (.putfield 15, 2, 1, 248), (.putfield 19, 2, 2, 249), (.putfield 23, 2, 3, 250), (.putfield 27, 2, 4, 251), (.putfield 31, 2, 5, 252), (.putfield 35, 2, 6, 253)]
theorem fl_2_ok (ini : Bool) : ∀ q ∈ fl_2, ∀ a, iv_okw "RuleGraph$Checker" ini (a, q) := List.forall_mem_cons.mpr ⟨fun _ => fk_2_0 ini, List.forall_mem_cons.mpr ⟨fun _ => fk_2_1 ini, List.forall_mem_cons.mpr ⟨fun _ => fk_2_2 ini, List.forall_mem_cons.mpr ⟨fun _ => fk_2_3 ini, List.forall_mem_cons.mpr ⟨fun _ => fk_2_4 ini, List.forall_mem_cons.mpr ⟨fun _ => fk_2_5 ini, List.forall_mem_cons.mpr ⟨fun _ => fk_2_6 ini, List.forall_mem_cons.mpr ⟨fun _ => fk_2_7 ini, List.forall_mem_cons.mpr ⟨fun _ => fk_2_8 ini, List.forall_mem_cons.mpr ⟨fun _ => fk_2_9 ini, List.forall_mem_cons.mpr ⟨fun _ => fk_2_10 ini, List.forall_mem_cons.mpr ⟨fun _ => fk_2_11 ini, List.forall_mem_cons.mpr ⟨fun _ => fk_2_12 ini, List.forall_mem_cons.mpr ⟨fun _ => fk_2_13 ini, List.forall_mem_cons.mpr ⟨fun _ => fk_2_14 ini, List.forall_mem_cons.mpr ⟨fun _ => fk_2_15 ini, List.forall_mem_cons.mpr ⟨fun _ => fk_2_16 ini, List.forall_mem_cons.mpr ⟨fun _ => fk_2_17 ini, List.forall_mem_cons.mpr ⟨fun _ => fk_2_18 ini, List.forall_mem_cons.mpr ⟨fun _ => fk_2_19 ini, List.forall_mem_cons.mpr ⟨fun _ => fk_2_20 ini, List.forall_mem_cons.mpr ⟨fun _ => fk_2_21 ini, List.forall_mem_cons.mpr ⟨fun _ => fk_2_22 ini, List.forall_mem_cons.mpr ⟨fun _ => fk_2_23 ini, List.forall_mem_cons.mpr ⟨fun _ => fk_2_24 ini, List.forall_mem_cons.mpr ⟨fun _ => fk_2_25 ini, List.forall_mem_cons.mpr ⟨fun _ => fk_2_26 ini, List.forall_mem_cons.mpr ⟨fun _ => fk_2_27 ini, List.forall_mem_cons.mpr ⟨fun _ => fk_2_28 ini, List.forall_mem_cons.mpr ⟨fun _ => fk_2_29 ini, List.forall_mem_cons.mpr ⟨fun _ => fk_2_30 ini, List.forall_mem_cons.mpr ⟨fun _ => fk_2_31 ini, List.forall_mem_cons.mpr ⟨fun _ => fk_2_32 ini, List.forall_mem_cons.mpr ⟨fun _ => fk_2_33 ini, List.forall_mem_cons.mpr ⟨fun _ => fk_2_34 ini, List.forall_mem_cons.mpr ⟨fun _ => fk_2_35 ini, List.forall_mem_cons.mpr ⟨fun _ => fk_2_36 ini, List.forall_mem_cons.mpr ⟨fun _ => fk_2_37 ini, List.forall_mem_cons.mpr ⟨fun _ => fk_2_38 ini, List.forall_mem_cons.mpr ⟨fun _ => fk_2_39 ini, List.forall_mem_cons.mpr ⟨fun _ => fk_2_40 ini, List.forall_mem_cons.mpr ⟨fun _ => fk_2_41 ini, List.forall_mem_cons.mpr ⟨fun _ => fk_2_42 ini, List.forall_mem_cons.mpr ⟨fun _ => fk_2_43 ini, List.forall_mem_cons.mpr ⟨fun _ => fk_2_44 ini, List.forall_mem_cons.mpr ⟨fun _ => fk_2_45 ini, List.forall_mem_cons.mpr ⟨fun _ => fk_2_46 ini, List.forall_mem_cons.mpr ⟨fun _ => fk_2_47 ini, List.forall_mem_cons.mpr ⟨fun _ => fk_2_48 ini, List.forall_mem_cons.mpr ⟨fun _ => fk_2_49 ini, List.forall_mem_cons.mpr ⟨fun _ => fk_2_50 ini, List.forall_mem_cons.mpr ⟨fun _ => fk_2_51 ini, fun _ h => absurd h List.not_mem_nil⟩⟩⟩⟩⟩⟩⟩⟩⟩⟩⟩⟩⟩⟩⟩⟩⟩⟩⟩⟩⟩⟩⟩⟩⟩⟩⟩⟩⟩⟩⟩⟩⟩⟩⟩⟩⟩⟩⟩⟩⟩⟩⟩⟩⟩⟩⟩⟩⟩⟩⟩⟩
theorem fj_2_ok : ∀ q ∈ fj_2, ∀ a, iv_okw "RuleGraph$Checker" true (a, q) := List.forall_mem_append.mpr ⟨fl_2_ok true, List.forall_mem_cons.mpr ⟨fun _ => fi_2_0, List.forall_mem_cons.mpr ⟨fun _ => fi_2_1, List.forall_mem_cons.mpr ⟨fun _ => fi_2_2, List.forall_mem_cons.mpr ⟨fun _ => fi_2_3, List.forall_mem_cons.mpr ⟨fun _ => fi_2_4, List.forall_mem_cons.mpr ⟨fun _ => fi_2_5, List.forall_mem_cons.mpr ⟨fun _ => fi_2_6, fun _ h => absurd h List.not_mem_nil⟩⟩⟩⟩⟩⟩⟩⟩
theorem fk_3_0 (ini : Bool) : iv_okw "RuleGraph$Composition" ini ((0, 0), .invokespecial 1, 0, 1, 130) := Or.inl ⟨rfl, by decide +kernel⟩
theorem fk_3_1 (ini : Bool) : iv_okw "RuleGraph$Composition" ini ((0, 0), .anewarray 7, 105, 0, 131) := ⟨"RuleGraph$Demand", rfl, List.mem_of_getElem? (i := 132) (by decide +kernel), by decide +kernel⟩
theorem fk_3_2 (ini : Bool) : iv_okw "RuleGraph$Composition" ini ((0, 0), .putfield 15, 3, 1, 135) := ⟨_, rfl, Or.inl ⟨by decide +kernel, Or.inl rfl⟩⟩
theorem fk_3_3 (ini : Bool) : iv_okw "RuleGraph$Composition" ini ((0, 0), .putfield 19, 3, 2, 137) := ⟨_, rfl, Or.inl ⟨by decide +kernel, Or.inl rfl⟩⟩
theorem fk_3_4 (ini : Bool) : iv_okw "RuleGraph$Composition" ini ((0, 0), .getfield 15, 3, 1, 135) := ⟨_, rfl, by decide, Or.inl (by decide +kernel)⟩
theorem fk_3_5 (ini : Bool) : iv_okw "RuleGraph$Composition" ini ((0, 0), .getfield 9, 3, 0, 133) := ⟨_, rfl, by decide, Or.inl (by decide +kernel)⟩
theorem fk_3_6 (ini : Bool) : iv_okw "RuleGraph$Composition" ini ((0, 0), .new 7, 4, 0, 131) := ⟨_, rfl, by decide +kernel⟩
theorem fk_3_7 (ini : Bool) : iv_okw "RuleGraph$Composition" ini ((0, 0), .invokespecial 23, 78, 4, 340) := Or.inr ⟨by decide, cki_78, by decide +kernel, by decide +kernel⟩
theorem fk_3_8 (ini : Bool) : iv_okw "RuleGraph$Composition" ini ((0, 0), .invokevirtual 26, 79, 3, 517) := ⟨ckv_79, by decide +kernel, Or.inl (by decide +kernel)⟩
theorem fi_3_0 : iv_okw "RuleGraph$Composition" true ((0, 0), .putfield 9, 3, 0, 133) := ⟨_, rfl, Or.inl ⟨by decide +kernel, Or.inr ⟨rfl, rfl, rfl⟩⟩⟩
def fl_3 : List (Instr × Nat × Nat × Nat) := [(.invokespecial 1, 0, 1, 130), (.anewarray 7, 105, 0, 131), (.putfield 15, 3, 1, 135), (.putfield 19, 3, 2, 137), (.getfield 15, 3, 1, 135), (.getfield 9, 3, 0, 133), (.new 7, 4, 0, 131), (.invokespecial 23, 78, 4, 340), (.invokevirtual 26, 79, 3, 517)]
def fj_3 : List (Instr × Nat × Nat × Nat) := fl_3 ++ [(.putfield 9, 3, 0, 133)]
theorem fl_3_ok (ini : Bool) : ∀ q ∈ fl_3, ∀ a, iv_okw "RuleGraph$Composition" ini (a, q) := List.forall_mem_cons.mpr ⟨fun _ => fk_3_0 ini, List.forall_mem_cons.mpr ⟨fun _ => fk_3_1 ini, List.forall_mem_cons.mpr ⟨fun _ => fk_3_2 ini, List.forall_mem_cons.mpr ⟨fun _ => fk_3_3 ini, List.forall_mem_cons.mpr ⟨fun _ => fk_3_4 ini, List.forall_mem_cons.mpr ⟨fun _ => fk_3_5 ini, List.forall_mem_cons.mpr ⟨fun _ => fk_3_6 ini, List.forall_mem_cons.mpr ⟨fun _ => fk_3_7 ini, List.forall_mem_cons.mpr ⟨fun _ => fk_3_8 ini, fun _ h => absurd h List.not_mem_nil⟩⟩⟩⟩⟩⟩⟩⟩⟩
theorem fj_3_ok : ∀ q ∈ fj_3, ∀ a, iv_okw "RuleGraph$Composition" true (a, q) := List.forall_mem_append.mpr ⟨fl_3_ok true, List.forall_mem_cons.mpr ⟨fun _ => fi_3_0, fun _ h => absurd h List.not_mem_nil⟩⟩
theorem fk_4_0 (ini : Bool) : iv_okw "RuleGraph$Demand" ini ((0, 0), .invokespecial 3, 0, 1, 343) := Or.inl ⟨rfl, by decide +kernel⟩
theorem fk_4_1 (ini : Bool) : iv_okw "RuleGraph$Demand" ini ((0, 0), .getfield 9, 4, 0, 344) := ⟨_, rfl, by decide, Or.inl (by decide +kernel)⟩
theorem fk_4_2 (ini : Bool) : iv_okw "RuleGraph$Demand" ini ((0, 0), .getfield 15, 4, 1, 345) := ⟨_, rfl, by decide, Or.inl (by decide +kernel)⟩
theorem fk_4_3 (ini : Bool) : iv_okw "RuleGraph$Demand" ini ((0, 0), .getfield 18, 4, 2, 346) := ⟨_, rfl, by decide, Or.inl (by decide +kernel)⟩
theorem fi_4_0 : iv_okw "RuleGraph$Demand" true ((0, 0), .putfield 9, 4, 0, 344) := ⟨_, rfl, Or.inl ⟨by decide +kernel, Or.inr ⟨rfl, rfl, rfl⟩⟩⟩
theorem fi_4_1 : iv_okw "RuleGraph$Demand" true ((0, 0), .putfield 15, 4, 1, 345) := ⟨_, rfl, Or.inl ⟨by decide +kernel, Or.inr ⟨rfl, rfl, rfl⟩⟩⟩
theorem fi_4_2 : iv_okw "RuleGraph$Demand" true ((0, 0), .putfield 18, 4, 2, 346) := ⟨_, rfl, Or.inl ⟨by decide +kernel, Or.inr ⟨rfl, rfl, rfl⟩⟩⟩
def fl_4 : List (Instr × Nat × Nat × Nat) := [(.invokespecial 3, 0, 1, 343), (.getfield 9, 4, 0, 344), (.getfield 15, 4, 1, 345), (.getfield 18, 4, 2, 346)]
def fj_4 : List (Instr × Nat × Nat × Nat) := fl_4 ++ [(.putfield 9, 4, 0, 344), (.putfield 15, 4, 1, 345), (.putfield 18, 4, 2, 346)]
theorem fl_4_ok (ini : Bool) : ∀ q ∈ fl_4, ∀ a, iv_okw "RuleGraph$Demand" ini (a, q) := List.forall_mem_cons.mpr ⟨fun _ => fk_4_0 ini, List.forall_mem_cons.mpr ⟨fun _ => fk_4_1 ini, List.forall_mem_cons.mpr ⟨fun _ => fk_4_2 ini, List.forall_mem_cons.mpr ⟨fun _ => fk_4_3 ini, fun _ h => absurd h List.not_mem_nil⟩⟩⟩⟩
theorem fj_4_ok : ∀ q ∈ fj_4, ∀ a, iv_okw "RuleGraph$Demand" true (a, q) := List.forall_mem_append.mpr ⟨fl_4_ok true, List.forall_mem_cons.mpr ⟨fun _ => fi_4_0, List.forall_mem_cons.mpr ⟨fun _ => fi_4_1, List.forall_mem_cons.mpr ⟨fun _ => fi_4_2, fun _ h => absurd h List.not_mem_nil⟩⟩⟩⟩
theorem fk_5_0 (ini : Bool) : iv_okw "RuleGraph$Groups" ini ((0, 0), .invokespecial 3, 0, 1, 166) := Or.inl ⟨rfl, by decide +kernel⟩
theorem fk_5_1 (ini : Bool) : iv_okw "RuleGraph$Groups" ini ((0, 0), .newarray .int, 100, 0, 78) := ⟨rfl, by decide +kernel⟩
theorem fk_5_2 (ini : Bool) : iv_okw "RuleGraph$Groups" ini ((0, 0), .getfield 9, 5, 0, 169) := ⟨_, rfl, by decide, Or.inl (by decide +kernel)⟩
theorem fk_5_3 (ini : Bool) : iv_okw "RuleGraph$Groups" ini ((0, 0), .anewarray 15, 106, 0, 167) := ⟨"RuleGraph$Row", rfl, List.mem_of_getElem? (i := 57) (by decide +kernel), by decide +kernel⟩
theorem fk_5_4 (ini : Bool) : iv_okw "RuleGraph$Groups" ini ((0, 0), .getfield 17, 5, 1, 171) := ⟨_, rfl, by decide, Or.inl (by decide +kernel)⟩
theorem fk_5_5 (ini : Bool) : iv_okw "RuleGraph$Groups" ini ((0, 0), .new 15, 7, 0, 167) := ⟨_, rfl, by decide +kernel⟩
theorem fk_5_6 (ini : Bool) : iv_okw "RuleGraph$Groups" ini ((0, 0), .invokespecial 21, 94, 2, 168) := Or.inr ⟨by decide, cki_94, by decide +kernel, by decide +kernel⟩
theorem fk_5_7 (ini : Bool) : iv_okw "RuleGraph$Groups" ini ((0, 0), .invokevirtual 28, 84, 3, 405) := ⟨ckv_84, by decide +kernel, Or.inl (by decide +kernel)⟩
theorem fk_5_8 (ini : Bool) : iv_okw "RuleGraph$Groups" ini ((0, 0), .getfield 24, 5, 2, 173) := ⟨_, rfl, by decide, Or.inl (by decide +kernel)⟩
theorem fk_5_9 (ini : Bool) : iv_okw "RuleGraph$Groups" ini ((0, 0), .invokevirtual 32, 95, 2, 482) := ⟨ckv_95, by decide +kernel, Or.inl (by decide +kernel)⟩
theorem fk_5_10 (ini : Bool) : iv_okw "RuleGraph$Groups" ini ((0, 0), .getfield 36, 7, 1, 71) := ⟨_, rfl, by decide, Or.inl (by decide +kernel)⟩
theorem fk_5_11 (ini : Bool) : iv_okw "RuleGraph$Groups" ini ((0, 0), .getfield 40, 7, 0, 66) := ⟨_, rfl, by decide, Or.inl (by decide +kernel)⟩
theorem fk_5_12 (ini : Bool) : iv_okw "RuleGraph$Groups" ini ((0, 0), .invokevirtual 43, 86, 3, 483) := ⟨ckv_86, by decide +kernel, Or.inl (by decide +kernel)⟩
theorem fi_5_0 : iv_okw "RuleGraph$Groups" true ((0, 0), .putfield 9, 5, 0, 169) := ⟨_, rfl, Or.inl ⟨by decide +kernel, Or.inr ⟨rfl, rfl, rfl⟩⟩⟩
theorem fi_5_1 : iv_okw "RuleGraph$Groups" true ((0, 0), .putfield 17, 5, 1, 171) := ⟨_, rfl, Or.inl ⟨by decide +kernel, Or.inr ⟨rfl, rfl, rfl⟩⟩⟩
theorem fi_5_2 : iv_okw "RuleGraph$Groups" true ((0, 0), .putfield 24, 5, 2, 173) := ⟨_, rfl, Or.inl ⟨by decide +kernel, Or.inr ⟨rfl, rfl, rfl⟩⟩⟩
def fl_5 : List (Instr × Nat × Nat × Nat) := [(.invokespecial 3, 0, 1, 166), (.newarray .int, 100, 0, 78), (.getfield 9, 5, 0, 169), (.anewarray 15, 106, 0, 167), (.getfield 17, 5, 1, 171), (.new 15, 7, 0, 167), (.invokespecial 21, 94, 2, 168), (.invokevirtual 28, 84, 3, 405), (.getfield 24, 5, 2, 173), (.invokevirtual 32, 95, 2, 482), (.getfield 36, 7, 1, 71), (.getfield 40, 7, 0, 66), (.invokevirtual 43, 86, 3, 483)]
def fj_5 : List (Instr × Nat × Nat × Nat) := fl_5 ++ [(.putfield 9, 5, 0, 169), (.putfield 17, 5, 1, 171), (.putfield 24, 5, 2, 173)]
theorem fl_5_ok (ini : Bool) : ∀ q ∈ fl_5, ∀ a, iv_okw "RuleGraph$Groups" ini (a, q) := List.forall_mem_cons.mpr ⟨fun _ => fk_5_0 ini, List.forall_mem_cons.mpr ⟨fun _ => fk_5_1 ini, List.forall_mem_cons.mpr ⟨fun _ => fk_5_2 ini, List.forall_mem_cons.mpr ⟨fun _ => fk_5_3 ini, List.forall_mem_cons.mpr ⟨fun _ => fk_5_4 ini, List.forall_mem_cons.mpr ⟨fun _ => fk_5_5 ini, List.forall_mem_cons.mpr ⟨fun _ => fk_5_6 ini, List.forall_mem_cons.mpr ⟨fun _ => fk_5_7 ini, List.forall_mem_cons.mpr ⟨fun _ => fk_5_8 ini, List.forall_mem_cons.mpr ⟨fun _ => fk_5_9 ini, List.forall_mem_cons.mpr ⟨fun _ => fk_5_10 ini, List.forall_mem_cons.mpr ⟨fun _ => fk_5_11 ini, List.forall_mem_cons.mpr ⟨fun _ => fk_5_12 ini, fun _ h => absurd h List.not_mem_nil⟩⟩⟩⟩⟩⟩⟩⟩⟩⟩⟩⟩⟩
theorem fj_5_ok : ∀ q ∈ fj_5, ∀ a, iv_okw "RuleGraph$Groups" true (a, q) := List.forall_mem_append.mpr ⟨fl_5_ok true, List.forall_mem_cons.mpr ⟨fun _ => fi_5_0, List.forall_mem_cons.mpr ⟨fun _ => fi_5_1, List.forall_mem_cons.mpr ⟨fun _ => fi_5_2, fun _ h => absurd h List.not_mem_nil⟩⟩⟩⟩
theorem fk_6_0 (ini : Bool) : iv_okw "RuleGraph$Report" ini ((0, 0), .invokespecial 3, 0, 1, 211) := Or.inl ⟨rfl, by decide +kernel⟩
theorem fk_6_1 (ini : Bool) : iv_okw "RuleGraph$Report" ini ((0, 0), .putfield 9, 6, 0, 215) := ⟨_, rfl, Or.inl ⟨by decide +kernel, Or.inl rfl⟩⟩
theorem fk_6_2 (ini : Bool) : iv_okw "RuleGraph$Report" ini ((0, 0), .multianewarray 15 2, 103, 100, 212) := ⟨rfl, rfl, List.mem_of_getElem? (i := 80) (by decide +kernel), List.mem_of_getElem? (i := 78) (by decide +kernel), by decide +kernel⟩
theorem fk_6_3 (ini : Bool) : iv_okw "RuleGraph$Report" ini ((0, 0), .anewarray 20, 106, 0, 213) := ⟨"RuleGraph$Row", rfl, List.mem_of_getElem? (i := 57) (by decide +kernel), by decide +kernel⟩
theorem fk_6_4 (ini : Bool) : iv_okw "RuleGraph$Report" ini ((0, 0), .getfield 22, 6, 2, 220) := ⟨_, rfl, by decide, Or.inl (by decide +kernel)⟩
theorem fk_6_5 (ini : Bool) : iv_okw "RuleGraph$Report" ini ((0, 0), .new 20, 7, 0, 213) := ⟨_, rfl, by decide +kernel⟩
theorem fk_6_6 (ini : Bool) : iv_okw "RuleGraph$Report" ini ((0, 0), .invokespecial 26, 94, 2, 214) := Or.inr ⟨by decide, cki_94, by decide +kernel, by decide +kernel⟩
theorem fk_6_7 (ini : Bool) : iv_okw "RuleGraph$Report" ini ((0, 0), .newarray .char, 102, 0, 240) := ⟨rfl, by decide +kernel⟩
theorem fk_6_8 (ini : Bool) : iv_okw "RuleGraph$Report" ini ((0, 0), .putfield 37, 6, 5, 225) := ⟨_, rfl, Or.inl ⟨by decide +kernel, Or.inl rfl⟩⟩
theorem fk_6_9 (ini : Bool) : iv_okw "RuleGraph$Report" ini ((0, 0), .getfield 9, 6, 0, 215) := ⟨_, rfl, by decide, Or.inl (by decide +kernel)⟩
theorem fk_6_10 (ini : Bool) : iv_okw "RuleGraph$Report" ini ((0, 0), .getfield 17, 6, 1, 218) := ⟨_, rfl, by decide, Or.inl (by decide +kernel)⟩
theorem fk_6_11 (ini : Bool) : iv_okw "RuleGraph$Report" ini ((0, 0), .getfield 29, 6, 3, 221) := ⟨_, rfl, by decide, Or.inl (by decide +kernel)⟩
theorem fk_6_12 (ini : Bool) : iv_okw "RuleGraph$Report" ini ((0, 0), .getfield 40, 7, 1, 69) := ⟨_, rfl, by decide, Or.inl (by decide +kernel)⟩
theorem fk_6_13 (ini : Bool) : iv_okw "RuleGraph$Report" ini ((0, 0), .getfield 43, 7, 0, 64) := ⟨_, rfl, by decide, Or.inl (by decide +kernel)⟩
theorem fk_6_14 (ini : Bool) : iv_okw "RuleGraph$Report" ini ((0, 0), .putfield 40, 7, 1, 69) := ⟨_, rfl, Or.inl ⟨by decide +kernel, Or.inl rfl⟩⟩
theorem fk_6_15 (ini : Bool) : iv_okw "RuleGraph$Report" ini ((0, 0), .invokevirtual 47, 92, 3, 585) := ⟨ckv_92, by decide +kernel, Or.inl (by decide +kernel)⟩
theorem fk_6_16 (ini : Bool) : iv_okw "RuleGraph$Report" ini ((0, 0), .invokevirtual 51, 93, 2, 589) := ⟨ckv_93, by decide +kernel, Or.inl (by decide +kernel)⟩
theorem fk_6_17 (ini : Bool) : iv_okw "RuleGraph$Report" ini ((0, 0), .getfield 37, 6, 5, 225) := ⟨_, rfl, by decide, Or.inl (by decide +kernel)⟩
theorem fk_6_18 (ini : Bool) : iv_okw "RuleGraph$Report" ini ((0, 0), .getfield 33, 6, 4, 223) := ⟨_, rfl, by decide, Or.inl (by decide +kernel)⟩
theorem fi_6_0 : iv_okw "RuleGraph$Report" true ((0, 0), .putfield 17, 6, 1, 218) := ⟨_, rfl, Or.inl ⟨by decide +kernel, Or.inr ⟨rfl, rfl, rfl⟩⟩⟩
theorem fi_6_1 : iv_okw "RuleGraph$Report" true ((0, 0), .putfield 22, 6, 2, 220) := ⟨_, rfl, Or.inl ⟨by decide +kernel, Or.inr ⟨rfl, rfl, rfl⟩⟩⟩
theorem fi_6_2 : iv_okw "RuleGraph$Report" true ((0, 0), .putfield 29, 6, 3, 221) := ⟨_, rfl, Or.inl ⟨by decide +kernel, Or.inr ⟨rfl, rfl, rfl⟩⟩⟩
theorem fi_6_3 : iv_okw "RuleGraph$Report" true ((0, 0), .putfield 33, 6, 4, 223) := ⟨_, rfl, Or.inl ⟨by decide +kernel, Or.inr ⟨rfl, rfl, rfl⟩⟩⟩
def fl_6 : List (Instr × Nat × Nat × Nat) := [(.invokespecial 3, 0, 1, 211), (.putfield 9, 6, 0, 215), (.multianewarray 15 2, 103, 100, 212), (.anewarray 20, 106, 0, 213), (.getfield 22, 6, 2, 220), (.new 20, 7, 0, 213), (.invokespecial 26, 94, 2, 214), (.newarray .char, 102, 0, 240), (.putfield 37, 6, 5, 225), (.getfield 9, 6, 0, 215), (.getfield 17, 6, 1, 218), (.getfield 29, 6, 3, 221), (.getfield 40, 7, 1, 69), (.getfield 43, 7, 0, 64), (.putfield 40, 7, 1, 69), (.invokevirtual 47, 92, 3, 585), (.invokevirtual 51, 93, 2, 589), (.getfield 37, 6, 5, 225), (.getfield 33, 6, 4, 223)]
def fj_6 : List (Instr × Nat × Nat × Nat) := fl_6 ++ [(.putfield 17, 6, 1, 218), (.putfield 22, 6, 2, 220), (.putfield 29, 6, 3, 221), (.putfield 33, 6, 4, 223)]
theorem fl_6_ok (ini : Bool) : ∀ q ∈ fl_6, ∀ a, iv_okw "RuleGraph$Report" ini (a, q) := List.forall_mem_cons.mpr ⟨fun _ => fk_6_0 ini, List.forall_mem_cons.mpr ⟨fun _ => fk_6_1 ini, List.forall_mem_cons.mpr ⟨fun _ => fk_6_2 ini, List.forall_mem_cons.mpr ⟨fun _ => fk_6_3 ini, List.forall_mem_cons.mpr ⟨fun _ => fk_6_4 ini, List.forall_mem_cons.mpr ⟨fun _ => fk_6_5 ini, List.forall_mem_cons.mpr ⟨fun _ => fk_6_6 ini, List.forall_mem_cons.mpr ⟨fun _ => fk_6_7 ini, List.forall_mem_cons.mpr ⟨fun _ => fk_6_8 ini, List.forall_mem_cons.mpr ⟨fun _ => fk_6_9 ini, List.forall_mem_cons.mpr ⟨fun _ => fk_6_10 ini, List.forall_mem_cons.mpr ⟨fun _ => fk_6_11 ini, List.forall_mem_cons.mpr ⟨fun _ => fk_6_12 ini, List.forall_mem_cons.mpr ⟨fun _ => fk_6_13 ini, List.forall_mem_cons.mpr ⟨fun _ => fk_6_14 ini, List.forall_mem_cons.mpr ⟨fun _ => fk_6_15 ini, List.forall_mem_cons.mpr ⟨fun _ => fk_6_16 ini, List.forall_mem_cons.mpr ⟨fun _ => fk_6_17 ini, List.forall_mem_cons.mpr ⟨fun _ => fk_6_18 ini, fun _ h => absurd h List.not_mem_nil⟩⟩⟩⟩⟩⟩⟩⟩⟩⟩⟩⟩⟩⟩⟩⟩⟩⟩⟩
theorem fj_6_ok : ∀ q ∈ fj_6, ∀ a, iv_okw "RuleGraph$Report" true (a, q) := List.forall_mem_append.mpr ⟨fl_6_ok true, List.forall_mem_cons.mpr ⟨fun _ => fi_6_0, List.forall_mem_cons.mpr ⟨fun _ => fi_6_1, List.forall_mem_cons.mpr ⟨fun _ => fi_6_2, List.forall_mem_cons.mpr ⟨fun _ => fi_6_3, fun _ h => absurd h List.not_mem_nil⟩⟩⟩⟩⟩
theorem fk_7_0 (ini : Bool) : iv_okw "RuleGraph$Row" ini ((0, 0), .invokespecial 1, 0, 1, 62) := Or.inl ⟨rfl, by decide +kernel⟩
theorem fk_7_1 (ini : Bool) : iv_okw "RuleGraph$Row" ini ((0, 0), .newarray .int, 100, 0, 78) := ⟨rfl, by decide +kernel⟩
theorem fk_7_2 (ini : Bool) : iv_okw "RuleGraph$Row" ini ((0, 0), .putfield 13, 7, 1, 68) := ⟨_, rfl, Or.inl ⟨by decide +kernel, Or.inl rfl⟩⟩
theorem fk_7_3 (ini : Bool) : iv_okw "RuleGraph$Row" ini ((0, 0), .getfield 13, 7, 1, 68) := ⟨_, rfl, by decide, Or.inl (by decide +kernel)⟩
theorem fk_7_4 (ini : Bool) : iv_okw "RuleGraph$Row" ini ((0, 0), .getfield 7, 7, 0, 63) := ⟨_, rfl, by decide, Or.inl (by decide +kernel)⟩
theorem fi_7_0 : iv_okw "RuleGraph$Row" true ((0, 0), .putfield 7, 7, 0, 63) := ⟨_, rfl, Or.inl ⟨by decide +kernel, Or.inr ⟨rfl, rfl, rfl⟩⟩⟩
def fl_7 : List (Instr × Nat × Nat × Nat) := [(.invokespecial 1, 0, 1, 62), (.newarray .int, 100, 0, 78), (.putfield 13, 7, 1, 68), (.getfield 13, 7, 1, 68), (.getfield 7, 7, 0, 63)]
def fj_7 : List (Instr × Nat × Nat × Nat) := fl_7 ++ [(.putfield 7, 7, 0, 63)]
theorem fl_7_ok (ini : Bool) : ∀ q ∈ fl_7, ∀ a, iv_okw "RuleGraph$Row" ini (a, q) := List.forall_mem_cons.mpr ⟨fun _ => fk_7_0 ini, List.forall_mem_cons.mpr ⟨fun _ => fk_7_1 ini, List.forall_mem_cons.mpr ⟨fun _ => fk_7_2 ini, List.forall_mem_cons.mpr ⟨fun _ => fk_7_3 ini, List.forall_mem_cons.mpr ⟨fun _ => fk_7_4 ini, fun _ h => absurd h List.not_mem_nil⟩⟩⟩⟩⟩
theorem fj_7_ok : ∀ q ∈ fj_7, ∀ a, iv_okw "RuleGraph$Row" true (a, q) := List.forall_mem_append.mpr ⟨fl_7_ok true, List.forall_mem_cons.mpr ⟨fun _ => fi_7_0, fun _ h => absurd h List.not_mem_nil⟩⟩
theorem fk_8_0 (ini : Bool) : iv_okw "RuleGraph$Rule" ini ((0, 0), .invokespecial 1, 0, 1, 362) := Or.inl ⟨rfl, by decide +kernel⟩
theorem fi_8_0 : iv_okw "RuleGraph$Rule" true ((0, 0), .putfield 7, 8, 0, 363) := ⟨_, rfl, Or.inl ⟨by decide +kernel, Or.inr ⟨rfl, rfl, rfl⟩⟩⟩
theorem fi_8_1 : iv_okw "RuleGraph$Rule" true ((0, 0), .putfield 13, 8, 1, 365) := ⟨_, rfl, Or.inl ⟨by decide +kernel, Or.inr ⟨rfl, rfl, rfl⟩⟩⟩
theorem fi_8_2 : iv_okw "RuleGraph$Rule" true ((0, 0), .putfield 17, 8, 2, 367) := ⟨_, rfl, Or.inl ⟨by decide +kernel, Or.inr ⟨rfl, rfl, rfl⟩⟩⟩
theorem fi_8_3 : iv_okw "RuleGraph$Rule" true ((0, 0), .putfield 21, 8, 3, 369) := ⟨_, rfl, Or.inl ⟨by decide +kernel, Or.inr ⟨rfl, rfl, rfl⟩⟩⟩
def fl_8 : List (Instr × Nat × Nat × Nat) := [(.invokespecial 1, 0, 1, 362)]
def fj_8 : List (Instr × Nat × Nat × Nat) := fl_8 ++ [(.putfield 7, 8, 0, 363), (.putfield 13, 8, 1, 365), (.putfield 17, 8, 2, 367), (.putfield 21, 8, 3, 369)]
theorem fl_8_ok (ini : Bool) : ∀ q ∈ fl_8, ∀ a, iv_okw "RuleGraph$Rule" ini (a, q) := List.forall_mem_cons.mpr ⟨fun _ => fk_8_0 ini, fun _ h => absurd h List.not_mem_nil⟩
theorem fj_8_ok : ∀ q ∈ fj_8, ∀ a, iv_okw "RuleGraph$Rule" true (a, q) := List.forall_mem_append.mpr ⟨fl_8_ok true, List.forall_mem_cons.mpr ⟨fun _ => fi_8_0, List.forall_mem_cons.mpr ⟨fun _ => fi_8_1, List.forall_mem_cons.mpr ⟨fun _ => fi_8_2, List.forall_mem_cons.mpr ⟨fun _ => fi_8_3, fun _ h => absurd h List.not_mem_nil⟩⟩⟩⟩⟩
theorem fk_9_0 (ini : Bool) : iv_okw "RuleGraph$Rulebook" ini ((0, 0), .invokespecial 3, 0, 1, 121) := Or.inl ⟨rfl, by decide +kernel⟩
theorem fk_9_1 (ini : Bool) : iv_okw "RuleGraph$Rulebook" ini ((0, 0), .anewarray 9, 107, 0, 122) := ⟨"RuleGraph$Rule", rfl, List.mem_of_getElem? (i := 123) (by decide +kernel), by decide +kernel⟩
theorem fk_9_2 (ini : Bool) : iv_okw "RuleGraph$Rulebook" ini ((0, 0), .putfield 17, 9, 1, 150) := ⟨_, rfl, Or.inl ⟨by decide +kernel, Or.inl rfl⟩⟩
theorem fk_9_3 (ini : Bool) : iv_okw "RuleGraph$Rulebook" ini ((0, 0), .anewarray 21, 104, 0, 124) := ⟨"RuleGraph$Composition", rfl, List.mem_of_getElem? (i := 125) (by decide +kernel), by decide +kernel⟩
theorem fk_9_4 (ini : Bool) : iv_okw "RuleGraph$Rulebook" ini ((0, 0), .getfield 23, 9, 2, 152) := ⟨_, rfl, by decide, Or.inl (by decide +kernel)⟩
theorem fk_9_5 (ini : Bool) : iv_okw "RuleGraph$Rulebook" ini ((0, 0), .new 21, 3, 0, 124) := ⟨_, rfl, by decide +kernel⟩
theorem fk_9_6 (ini : Bool) : iv_okw "RuleGraph$Rulebook" ini ((0, 0), .invokespecial 27, 75, 2, 127) := Or.inr ⟨by decide, cki_75, by decide +kernel, by decide +kernel⟩
theorem fk_9_7 (ini : Bool) : iv_okw "RuleGraph$Rulebook" ini ((0, 0), .invokevirtual 30, 76, 4, 335) := ⟨ckv_76, by decide +kernel, Or.inl (by decide +kernel)⟩
theorem fk_9_8 (ini : Bool) : iv_okw "RuleGraph$Rulebook" ini ((0, 0), .putfield 34, 3, 2, 138) := ⟨_, rfl, Or.inl ⟨by decide +kernel, Or.inl rfl⟩⟩
theorem fk_9_9 (ini : Bool) : iv_okw "RuleGraph$Rulebook" ini ((0, 0), .getfield 17, 9, 1, 150) := ⟨_, rfl, by decide, Or.inl (by decide +kernel)⟩
theorem fk_9_10 (ini : Bool) : iv_okw "RuleGraph$Rulebook" ini ((0, 0), .getfield 11, 9, 0, 148) := ⟨_, rfl, by decide, Or.inl (by decide +kernel)⟩
theorem fk_9_11 (ini : Bool) : iv_okw "RuleGraph$Rulebook" ini ((0, 0), .new 9, 8, 0, 122) := ⟨_, rfl, by decide +kernel⟩
theorem fk_9_12 (ini : Bool) : iv_okw "RuleGraph$Rulebook" ini ((0, 0), .invokespecial 38, 96, 5, 359) := Or.inr ⟨by decide, cki_96, by decide +kernel, by decide +kernel⟩
theorem fi_9_0 : iv_okw "RuleGraph$Rulebook" true ((0, 0), .putfield 11, 9, 0, 148) := ⟨_, rfl, Or.inl ⟨by decide +kernel, Or.inr ⟨rfl, rfl, rfl⟩⟩⟩
theorem fi_9_1 : iv_okw "RuleGraph$Rulebook" true ((0, 0), .putfield 23, 9, 2, 152) := ⟨_, rfl, Or.inl ⟨by decide +kernel, Or.inr ⟨rfl, rfl, rfl⟩⟩⟩
def fl_9 : List (Instr × Nat × Nat × Nat) := [(.invokespecial 3, 0, 1, 121), (.anewarray 9, 107, 0, 122), (.putfield 17, 9, 1, 150), (.anewarray 21, 104, 0, 124), (.getfield 23, 9, 2, 152), (.new 21, 3, 0, 124), (.invokespecial 27, 75, 2, 127), (.invokevirtual 30, 76, 4, 335), (.putfield 34, 3, 2, 138), (.getfield 17, 9, 1, 150), (.getfield 11, 9, 0, 148), (.new 9, 8, 0, 122), (.invokespecial 38, 96, 5, 359)]
def fj_9 : List (Instr × Nat × Nat × Nat) := fl_9 ++ [(.putfield 11, 9, 0, 148), (.putfield 23, 9, 2, 152)]
theorem fl_9_ok (ini : Bool) : ∀ q ∈ fl_9, ∀ a, iv_okw "RuleGraph$Rulebook" ini (a, q) := List.forall_mem_cons.mpr ⟨fun _ => fk_9_0 ini, List.forall_mem_cons.mpr ⟨fun _ => fk_9_1 ini, List.forall_mem_cons.mpr ⟨fun _ => fk_9_2 ini, List.forall_mem_cons.mpr ⟨fun _ => fk_9_3 ini, List.forall_mem_cons.mpr ⟨fun _ => fk_9_4 ini, List.forall_mem_cons.mpr ⟨fun _ => fk_9_5 ini, List.forall_mem_cons.mpr ⟨fun _ => fk_9_6 ini, List.forall_mem_cons.mpr ⟨fun _ => fk_9_7 ini, List.forall_mem_cons.mpr ⟨fun _ => fk_9_8 ini, List.forall_mem_cons.mpr ⟨fun _ => fk_9_9 ini, List.forall_mem_cons.mpr ⟨fun _ => fk_9_10 ini, List.forall_mem_cons.mpr ⟨fun _ => fk_9_11 ini, List.forall_mem_cons.mpr ⟨fun _ => fk_9_12 ini, fun _ h => absurd h List.not_mem_nil⟩⟩⟩⟩⟩⟩⟩⟩⟩⟩⟩⟩⟩
theorem fj_9_ok : ∀ q ∈ fj_9, ∀ a, iv_okw "RuleGraph$Rulebook" true (a, q) := List.forall_mem_append.mpr ⟨fl_9_ok true, List.forall_mem_cons.mpr ⟨fun _ => fi_9_0, List.forall_mem_cons.mpr ⟨fun _ => fi_9_1, fun _ h => absurd h List.not_mem_nil⟩⟩⟩
theorem fk_10_0 (ini : Bool) : iv_okw "RuleGraph$Shape" ini ((0, 0), .invokespecial 3, 0, 1, 55) := Or.inl ⟨rfl, by decide +kernel⟩
theorem fk_10_1 (ini : Bool) : iv_okw "RuleGraph$Shape" ini ((0, 0), .putfield 9, 10, 0, 81) := ⟨_, rfl, Or.inl ⟨by decide +kernel, Or.inl rfl⟩⟩
theorem fk_10_2 (ini : Bool) : iv_okw "RuleGraph$Shape" ini ((0, 0), .newarray .int, 100, 0, 78) := ⟨rfl, by decide +kernel⟩
theorem fk_10_3 (ini : Bool) : iv_okw "RuleGraph$Shape" ini ((0, 0), .anewarray 19, 106, 0, 56) := ⟨"RuleGraph$Row", rfl, List.mem_of_getElem? (i := 57) (by decide +kernel), by decide +kernel⟩
theorem fk_10_4 (ini : Bool) : iv_okw "RuleGraph$Shape" ini ((0, 0), .getfield 21, 10, 2, 83) := ⟨_, rfl, by decide, Or.inl (by decide +kernel)⟩
theorem fk_10_5 (ini : Bool) : iv_okw "RuleGraph$Shape" ini ((0, 0), .new 19, 7, 0, 56) := ⟨_, rfl, by decide +kernel⟩
theorem fk_10_6 (ini : Bool) : iv_okw "RuleGraph$Shape" ini ((0, 0), .invokespecial 25, 94, 2, 59) := Or.inr ⟨by decide, cki_94, by decide +kernel, by decide +kernel⟩
theorem fk_10_7 (ini : Bool) : iv_okw "RuleGraph$Shape" ini ((0, 0), .putfield 28, 10, 3, 86) := ⟨_, rfl, Or.inl ⟨by decide +kernel, Or.inl rfl⟩⟩
theorem fk_10_8 (ini : Bool) : iv_okw "RuleGraph$Shape" ini ((0, 0), .newarray .boolean, 101, 0, 115) := ⟨rfl, by decide +kernel⟩
theorem fk_10_9 (ini : Bool) : iv_okw "RuleGraph$Shape" ini ((0, 0), .multianewarray 41 2, 103, 100, 79) := ⟨rfl, rfl, List.mem_of_getElem? (i := 80) (by decide +kernel), List.mem_of_getElem? (i := 78) (by decide +kernel), by decide +kernel⟩
theorem fk_10_10 (ini : Bool) : iv_okw "RuleGraph$Shape" ini ((0, 0), .getfield 9, 10, 0, 81) := ⟨_, rfl, by decide, Or.inl (by decide +kernel)⟩
theorem fk_10_11 (ini : Bool) : iv_okw "RuleGraph$Shape" ini ((0, 0), .getfield 28, 10, 3, 86) := ⟨_, rfl, by decide, Or.inl (by decide +kernel)⟩
theorem fk_10_12 (ini : Bool) : iv_okw "RuleGraph$Shape" ini ((0, 0), .getfield 34, 10, 5, 89) := ⟨_, rfl, by decide, Or.inl (by decide +kernel)⟩
theorem fk_10_13 (ini : Bool) : iv_okw "RuleGraph$Shape" ini ((0, 0), .getfield 15, 10, 1, 82) := ⟨_, rfl, by decide, Or.inl (by decide +kernel)⟩
theorem fk_10_14 (ini : Bool) : iv_okw "RuleGraph$Shape" ini ((0, 0), .getfield 31, 10, 4, 88) := ⟨_, rfl, by decide, Or.inl (by decide +kernel)⟩
theorem fk_10_15 (ini : Bool) : iv_okw "RuleGraph$Shape" ini ((0, 0), .invokevirtual 46, 106, 3, 504) := ⟨ckv_106, by decide +kernel, Or.inl (by decide +kernel)⟩
theorem fk_10_16 (ini : Bool) : iv_okw "RuleGraph$Shape" ini ((0, 0), .getfield 43, 10, 7, 95) := ⟨_, rfl, by decide, Or.inl (by decide +kernel)⟩
theorem fi_10_0 : iv_okw "RuleGraph$Shape" true ((0, 0), .putfield 15, 10, 1, 82) := ⟨_, rfl, Or.inl ⟨by decide +kernel, Or.inr ⟨rfl, rfl, rfl⟩⟩⟩
theorem fi_10_1 : iv_okw "RuleGraph$Shape" true ((0, 0), .putfield 21, 10, 2, 83) := ⟨_, rfl, Or.inl ⟨by decide +kernel, Or.inr ⟨rfl, rfl, rfl⟩⟩⟩
theorem fi_10_2 : iv_okw "RuleGraph$Shape" true ((0, 0), .putfield 31, 10, 4, 88) := ⟨_, rfl, Or.inl ⟨by decide +kernel, Or.inr ⟨rfl, rfl, rfl⟩⟩⟩
theorem fi_10_3 : iv_okw "RuleGraph$Shape" true ((0, 0), .putfield 34, 10, 5, 89) := ⟨_, rfl, Or.inl ⟨by decide +kernel, Or.inr ⟨rfl, rfl, rfl⟩⟩⟩
theorem fi_10_4 : iv_okw "RuleGraph$Shape" true ((0, 0), .putfield 37, 10, 6, 92) := ⟨_, rfl, Or.inl ⟨by decide +kernel, Or.inr ⟨rfl, rfl, rfl⟩⟩⟩
theorem fi_10_5 : iv_okw "RuleGraph$Shape" true ((0, 0), .putfield 43, 10, 7, 95) := ⟨_, rfl, Or.inl ⟨by decide +kernel, Or.inr ⟨rfl, rfl, rfl⟩⟩⟩
def fl_10 : List (Instr × Nat × Nat × Nat) := [(.invokespecial 3, 0, 1, 55), (.putfield 9, 10, 0, 81), (.newarray .int, 100, 0, 78), (.anewarray 19, 106, 0, 56), (.getfield 21, 10, 2, 83), (.new 19, 7, 0, 56), (.invokespecial 25, 94, 2, 59), (.putfield 28, 10, 3, 86), (.newarray .boolean, 101, 0, 115), (.multianewarray 41 2, 103, 100, 79), (.getfield 9, 10, 0, 81), (.getfield 28, 10, 3, 86), (.getfield 34, 10, 5, 89), (.getfield 15, 10, 1, 82), (.getfield 31, 10, 4, 88), (.invokevirtual 46, 106, 3, 504), (.getfield 43, 10, 7, 95)]
def fj_10 : List (Instr × Nat × Nat × Nat) := fl_10 ++ [(.putfield 15, 10, 1, 82), (.putfield 21, 10, 2, 83), (.putfield 31, 10, 4, 88), (.putfield 34, 10, 5, 89), (.putfield 37, 10, 6, 92), (.putfield 43, 10, 7, 95)]
theorem fl_10_ok (ini : Bool) : ∀ q ∈ fl_10, ∀ a, iv_okw "RuleGraph$Shape" ini (a, q) := List.forall_mem_cons.mpr ⟨fun _ => fk_10_0 ini, List.forall_mem_cons.mpr ⟨fun _ => fk_10_1 ini, List.forall_mem_cons.mpr ⟨fun _ => fk_10_2 ini, List.forall_mem_cons.mpr ⟨fun _ => fk_10_3 ini, List.forall_mem_cons.mpr ⟨fun _ => fk_10_4 ini, List.forall_mem_cons.mpr ⟨fun _ => fk_10_5 ini, List.forall_mem_cons.mpr ⟨fun _ => fk_10_6 ini, List.forall_mem_cons.mpr ⟨fun _ => fk_10_7 ini, List.forall_mem_cons.mpr ⟨fun _ => fk_10_8 ini, List.forall_mem_cons.mpr ⟨fun _ => fk_10_9 ini, List.forall_mem_cons.mpr ⟨fun _ => fk_10_10 ini, List.forall_mem_cons.mpr ⟨fun _ => fk_10_11 ini, List.forall_mem_cons.mpr ⟨fun _ => fk_10_12 ini, List.forall_mem_cons.mpr ⟨fun _ => fk_10_13 ini, List.forall_mem_cons.mpr ⟨fun _ => fk_10_14 ini, List.forall_mem_cons.mpr ⟨fun _ => fk_10_15 ini, List.forall_mem_cons.mpr ⟨fun _ => fk_10_16 ini, fun _ h => absurd h List.not_mem_nil⟩⟩⟩⟩⟩⟩⟩⟩⟩⟩⟩⟩⟩⟩⟩⟩⟩
theorem fj_10_ok : ∀ q ∈ fj_10, ∀ a, iv_okw "RuleGraph$Shape" true (a, q) := List.forall_mem_append.mpr ⟨fl_10_ok true, List.forall_mem_cons.mpr ⟨fun _ => fi_10_0, List.forall_mem_cons.mpr ⟨fun _ => fi_10_1, List.forall_mem_cons.mpr ⟨fun _ => fi_10_2, List.forall_mem_cons.mpr ⟨fun _ => fi_10_3, List.forall_mem_cons.mpr ⟨fun _ => fi_10_4, List.forall_mem_cons.mpr ⟨fun _ => fi_10_5, fun _ h => absurd h List.not_mem_nil⟩⟩⟩⟩⟩⟩⟩
theorem fk_11_0 (ini : Bool) : iv_okw "RuleGraph$Store" ini ((0, 0), .invokespecial 3, 0, 1, 187) := Or.inl ⟨rfl, by decide +kernel⟩
theorem fk_11_1 (ini : Bool) : iv_okw "RuleGraph$Store" ini ((0, 0), .putfield 9, 11, 0, 189) := ⟨_, rfl, Or.inl ⟨by decide +kernel, Or.inl rfl⟩⟩
theorem fk_11_2 (ini : Bool) : iv_okw "RuleGraph$Store" ini ((0, 0), .newarray .int, 100, 0, 78) := ⟨rfl, by decide +kernel⟩
theorem fk_11_3 (ini : Bool) : iv_okw "RuleGraph$Store" ini ((0, 0), .multianewarray 19 2, 103, 100, 188) := ⟨rfl, rfl, List.mem_of_getElem? (i := 80) (by decide +kernel), List.mem_of_getElem? (i := 78) (by decide +kernel), by decide +kernel⟩
theorem fk_11_4 (ini : Bool) : iv_okw "RuleGraph$Store" ini ((0, 0), .getfield 9, 11, 0, 189) := ⟨_, rfl, by decide, Or.inl (by decide +kernel)⟩
theorem fk_11_5 (ini : Bool) : iv_okw "RuleGraph$Store" ini ((0, 0), .getfield 21, 11, 2, 193) := ⟨_, rfl, by decide, Or.inl (by decide +kernel)⟩
theorem fk_11_6 (ini : Bool) : iv_okw "RuleGraph$Store" ini ((0, 0), .getfield 15, 11, 1, 190) := ⟨_, rfl, by decide, Or.inl (by decide +kernel)⟩
theorem fk_11_7 (ini : Bool) : iv_okw "RuleGraph$Store" ini ((0, 0), .getfield 24, 11, 3, 196) := ⟨_, rfl, by decide, Or.inl (by decide +kernel)⟩
theorem fi_11_0 : iv_okw "RuleGraph$Store" true ((0, 0), .putfield 15, 11, 1, 190) := ⟨_, rfl, Or.inl ⟨by decide +kernel, Or.inr ⟨rfl, rfl, rfl⟩⟩⟩
theorem fi_11_1 : iv_okw "RuleGraph$Store" true ((0, 0), .putfield 21, 11, 2, 193) := ⟨_, rfl, Or.inl ⟨by decide +kernel, Or.inr ⟨rfl, rfl, rfl⟩⟩⟩
theorem fi_11_2 : iv_okw "RuleGraph$Store" true ((0, 0), .putfield 24, 11, 3, 196) := ⟨_, rfl, Or.inl ⟨by decide +kernel, Or.inr ⟨rfl, rfl, rfl⟩⟩⟩
def fl_11 : List (Instr × Nat × Nat × Nat) := [(.invokespecial 3, 0, 1, 187), (.putfield 9, 11, 0, 189), (.newarray .int, 100, 0, 78), (.multianewarray 19 2, 103, 100, 188), (.getfield 9, 11, 0, 189), (.getfield 21, 11, 2, 193), (.getfield 15, 11, 1, 190), (.getfield 24, 11, 3, 196)]
def fj_11 : List (Instr × Nat × Nat × Nat) := fl_11 ++ [(.putfield 15, 11, 1, 190), (.putfield 21, 11, 2, 193), (.putfield 24, 11, 3, 196)]
theorem fl_11_ok (ini : Bool) : ∀ q ∈ fl_11, ∀ a, iv_okw "RuleGraph$Store" ini (a, q) := List.forall_mem_cons.mpr ⟨fun _ => fk_11_0 ini, List.forall_mem_cons.mpr ⟨fun _ => fk_11_1 ini, List.forall_mem_cons.mpr ⟨fun _ => fk_11_2 ini, List.forall_mem_cons.mpr ⟨fun _ => fk_11_3 ini, List.forall_mem_cons.mpr ⟨fun _ => fk_11_4 ini, List.forall_mem_cons.mpr ⟨fun _ => fk_11_5 ini, List.forall_mem_cons.mpr ⟨fun _ => fk_11_6 ini, List.forall_mem_cons.mpr ⟨fun _ => fk_11_7 ini, fun _ h => absurd h List.not_mem_nil⟩⟩⟩⟩⟩⟩⟩⟩
theorem fj_11_ok : ∀ q ∈ fj_11, ∀ a, iv_okw "RuleGraph$Store" true (a, q) := List.forall_mem_append.mpr ⟨fl_11_ok true, List.forall_mem_cons.mpr ⟨fun _ => fi_11_0, List.forall_mem_cons.mpr ⟨fun _ => fi_11_1, List.forall_mem_cons.mpr ⟨fun _ => fi_11_2, fun _ h => absurd h List.not_mem_nil⟩⟩⟩⟩
