/-! the contracts of all methods at once -/
theorem iv_fit_ref {ty : FieldType} {a : Value} {r : Nat → Nat} (hA : iv_isA ty = true) (h : iv_fit ty a = true) : iv_mv r a = .null ∨ ∃ q, iv_mv r a = .ref q := by
  unfold iv_fit at h
  split at h
  · cases hA
  · cases hA
  · exact Or.inr ⟨_, rfl⟩
  · exact Or.inl rfl
  · exact Or.inr ⟨_, rfl⟩
  · exact Or.inl rfl
  · cases h
set_option maxHeartbeats 4000000 in
theorem iv_sound (l : Launch) (D : va_G) (b z : Nat) (hbz : b < z) (hok : ∀ x mL rt code, iv_M x = some (mL, rt, code) → iv_okm x code) : ∀ (d x : Nat) (as : List Value) (w : iv_S) (v : Option Value) (w' : iv_S), iv_X d x as w = some (v, w') → iv_Met l D b z d x as w v w'
  | 0, x, as, w, v, w', h => by rw [iv_X_0] at h; cases h
  | d + 1, x, as, w, v, w', h => by
    refine ⟨iv_X_le _ _ _ _ _ _ h, ?_⟩
    have hle := iv_X_le _ _ _ _ _ _ h
    rw [iv_X_s] at h
    split at h
    · rename_i mL rt code hM
      split at h
      · rename_i hlen
        split at h
        · rename_i hall
          obtain ⟨n, h⟩ := iv_V_run h
          refine ⟨mL, rt, code, hM, ?_⟩
          obtain ⟨hok0, hok1⟩ := hok _ _ _ _ hM
          have ck := ck_m _ _ _ _ hM
          refine Met.ofW (cc := (iv_N x).2) (maxL := mL) (ret := rt) ck.2.2.2.1 rfl ?_
          intro p e s m args below meth c s₁ B hml hv
          obtain ⟨rfl, hrep, hKw⟩ := hv
          have hx := B.exec
          have hb := B.bytes
          have hr := B.returns
          have hlocks := B.notSynchronized
          have hown : s.vm.findClass (iv_N x).1.cls = some m.cls := findClass_of_methodNamed B.named
          have hname : meth.name = (iv_N x).1.name := (name_of_methodNamed B.named B.method).1
          rw [lg_entry_eq]
          have key := iv_walk (R := iv_rm (d + 1) (w'.2.1 - w.2.1) (w'.2.2 - w.2.2)) (l := l) (e := e) (below := below) (args := (as.map (iv_mv (iv_r b z))).toArray) (Q := MQ below (iv_Qc D b z w' v) (as.map (iv_mv (iv_r b z))).toArray s (w'.2.1 - w.2.1) (w'.2.2 - w.2.2) (fun q => z ≤ q)) (D := D) (n0 := w.2.1) (s0 := w.2.2) (nL := mL) (d := d) (ini := decide ((iv_N x).1.name = "<init>")) (v := v) (w' := w') (rt := rt) (call := iv_X d) (code := code) hx hb hown hKw hbz (by obtain ⟨q1, q2⟩ := hle; exact ⟨by show w'.2.1 ≤ w.2.1 + (w'.2.1 - w.2.1); omega, by show w'.2.2 ≤ w.2.2 + (w'.2.2 - w.2.2); omega⟩) hml ⟨Nat.le_refl _, by show 64 * d + 64 ≤ 64 * (d + 1); omega⟩ (fun x as w u w1 h => iv_sound l D b z hbz hok d x as w u w1 h) (fun hi => by rw [hname]; exact of_decide_eq_true hi) (fun op pc L st w1 hd hf => by
            obtain ⟨rfl, hcs⟩ := iv_fin_ok hf
            refine ⟨iv_le.rf, fun H ls locs cells slots a1 a2 a3 a4 a5 => ?_⟩
            rw [show w1.2.1 - w.2.1 = cells by omega, show w1.2.2 - w.2.2 = slots by omega]
            rcases hcs with ⟨rfl, ty, x1, rfl, rfl, rfl, hfit⟩ | ⟨rfl, ty, a, rfl, rfl, rfl, hA, hfit⟩ | ⟨rfl, rfl, rfl, rfl⟩
            · exact W.zret hx hb hr (iv_fit_ok (r := iv_r b z) hfit).1 (fun t ht hwt => ⟨rfl, by rw [ht]; exact a1.moved hwt.alike⟩) a3 hd
            · refine W.aret hx hb hr ?_ ?_ (fun t ht hwt => ⟨rfl, by rw [ht]; exact a1.moved hwt.alike⟩) a3 hd
              · cases ty <;> first | exact Or.inl ⟨_, rfl⟩ | exact Or.inr ⟨_, rfl⟩ | cases hA
              · exact iv_fit_ref hA hfit
            · exact W.vret hx hb hr (fun t ht hwt => ⟨rfl, by rw [ht]; exact a1.moved hwt.alike⟩) a3 hd) hok1 n 0 _ [] w h
          obtain ⟨h1, J, hJ, h2⟩ := key
          have h3 := h2 s.heap _ [] 0 0 hrep (iv_entry (r := iv_r b z) hall hlen) (fun q h => absurd h List.not_mem_nil) rfl rfl
          rw [hok0 J hJ] at h3
          exact h3
        · cases h
      · cases h
    · cases h
