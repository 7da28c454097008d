/-! each method's rows hold -/
def iv_okm (x : Nat) (code : List iv_I) : Prop := (∀ J, code[0]? = some J → J.1.1 = 0) ∧ ∀ (k : Nat) (I : iv_I), code[k]? = some I → decode (iv_N x).2 I.1.1 = .ok (I.2.1, I.1.2) ∧ iv_okb code k I = true ∧ iv_okw (iv_N x).1.cls (decide ((iv_N x).1.name = "<init>")) I
theorem iv_okm_of {x : Nat} {code : List iv_I} {fl : List (Instr × Nat × Nat × Nat)} {own : String} {ini : Bool} {cc : ByteArray} (e1 : (iv_N x).2 = cc) (e2 : (iv_N x).1.cls = own) (e3 : decide ((iv_N x).1.name = "<init>") = ini) (h0 : ∀ J, code[0]? = some J → J.1.1 = 0) (hf : ∀ q ∈ fl, ∀ a, iv_okw own ini (a, q)) (h : iv_chk cc code fl 0 code = true) : iv_okm x code := by
  subst e1; subst e2; subst e3
  refine ⟨h0, fun k I hI => ?_⟩
  have h5 := iv_chk_of hf code 0 h k I hI
  rw [Nat.zero_add] at h5
  exact h5
theorem ok_2 : iv_okm 2 mc_2 := iv_okm_of (fl := fj_0) rfl rfl (by decide +kernel) (fun J h => by cases h; rfl) fj_0_ok (by decide +kernel)
theorem ok_3 : iv_okm 3 mc_3 := iv_okm_of (fl := fl_0) rfl rfl (by decide +kernel) (fun J h => by cases h; rfl) (fl_0_ok false) (by decide +kernel)
theorem ok_4 : iv_okm 4 mc_4 := iv_okm_of (fl := fl_0) rfl rfl (by decide +kernel) (fun J h => by cases h; rfl) (fl_0_ok false) (by decide +kernel)
theorem ok_5 : iv_okm 5 mc_5 := iv_okm_of (fl := fl_0) rfl rfl (by decide +kernel) (fun J h => by cases h; rfl) (fl_0_ok false) (by decide +kernel)
theorem ok_6 : iv_okm 6 mc_6 := iv_okm_of (fl := fl_0) rfl rfl (by decide +kernel) (fun J h => by cases h; rfl) (fl_0_ok false) (by decide +kernel)
theorem ok_7 : iv_okm 7 mc_7 := iv_okm_of (fl := fl_0) rfl rfl (by decide +kernel) (fun J h => by cases h; rfl) (fl_0_ok false) (by decide +kernel)
theorem ok_8 : iv_okm 8 mc_8 := iv_okm_of (fl := fl_0) rfl rfl (by decide +kernel) (fun J h => by cases h; rfl) (fl_0_ok false) (by decide +kernel)
theorem ok_9 : iv_okm 9 mc_9 := iv_okm_of (fl := fl_0) rfl rfl (by decide +kernel) (fun J h => by cases h; rfl) (fl_0_ok false) (by decide +kernel)
theorem ok_10 : iv_okm 10 mc_10 := iv_okm_of (fl := fl_0) rfl rfl (by decide +kernel) (fun J h => by cases h; rfl) (fl_0_ok false) (by decide +kernel)
theorem ok_11 : iv_okm 11 mc_11 := iv_okm_of (fl := fl_0) rfl rfl (by decide +kernel) (fun J h => by cases h; rfl) (fl_0_ok false) (by decide +kernel)
theorem ok_12 : iv_okm 12 mc_12 := iv_okm_of (fl := fl_0) rfl rfl (by decide +kernel) (fun J h => by cases h; rfl) (fl_0_ok false) (by decide +kernel)
theorem ok_13 : iv_okm 13 mc_13 := iv_okm_of (fl := fl_0) rfl rfl (by decide +kernel) (fun J h => by cases h; rfl) (fl_0_ok false) (by decide +kernel)
theorem ok_14 : iv_okm 14 mc_14 := iv_okm_of (fl := fl_0) rfl rfl (by decide +kernel) (fun J h => by cases h; rfl) (fl_0_ok false) (by decide +kernel)
theorem ok_15 : iv_okm 15 mc_15 := iv_okm_of (fl := fl_0) rfl rfl (by decide +kernel) (fun J h => by cases h; rfl) (fl_0_ok false) (by decide +kernel)
theorem ok_16 : iv_okm 16 mc_16 := iv_okm_of (fl := fl_0) rfl rfl (by decide +kernel) (fun J h => by cases h; rfl) (fl_0_ok false) (by decide +kernel)
theorem ok_17 : iv_okm 17 mc_17 := iv_okm_of (fl := fl_0) rfl rfl (by decide +kernel) (fun J h => by cases h; rfl) (fl_0_ok false) (by decide +kernel)
theorem ok_18 : iv_okm 18 mc_18 := iv_okm_of (fl := fl_0) rfl rfl (by decide +kernel) (fun J h => by cases h; rfl) (fl_0_ok false) (by decide +kernel)
theorem ok_19 : iv_okm 19 mc_19 := iv_okm_of (fl := fl_0) rfl rfl (by decide +kernel) (fun J h => by cases h; rfl) (fl_0_ok false) (by decide +kernel)
theorem ok_20 : iv_okm 20 mc_20 := iv_okm_of (fl := fl_0) rfl rfl (by decide +kernel) (fun J h => by cases h; rfl) (fl_0_ok false) (by decide +kernel)
theorem ok_21 : iv_okm 21 mc_21 := iv_okm_of (fl := fl_0) rfl rfl (by decide +kernel) (fun J h => by cases h; rfl) (fl_0_ok false) (by decide +kernel)
theorem ok_22 : iv_okm 22 mc_22 := iv_okm_of (fl := fl_0) rfl rfl (by decide +kernel) (fun J h => by cases h; rfl) (fl_0_ok false) (by decide +kernel)
theorem ok_23 : iv_okm 23 mc_23 := iv_okm_of (fl := fl_0) rfl rfl (by decide +kernel) (fun J h => by cases h; rfl) (fl_0_ok false) (by decide +kernel)
theorem ok_24 : iv_okm 24 mc_24 := iv_okm_of (fl := fj_1) rfl rfl (by decide +kernel) (fun J h => by cases h; rfl) fj_1_ok (by decide +kernel)
