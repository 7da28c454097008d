/-! grids: 'new int[n][k]', one instruction: the outer array, then its rows -/
section IVM
variable {p : Program} {l : Launch} {e : Env} {R : Room} {s : State} {m : MethodId} {args : Array Value} {below : List Frame} {meth : Method} {c : Code} {locs : List Loc} {cells slots : Nat} {Q : State → Prop}
theorem iv_wgrid {H : Heap} {cc : ByteArray} {pc : Nat} {ls : Array Slot} {rest : List Value} (hexec : p.tables.exec = Jvm.exec) (hb : c.code = cc) {own : String} {index : Nat} (hown : s.vm.findClass own = some m.cls) (hclink : (Cond.classLink own index ("[" ++ (FieldType.array .int).toString)).before args s = true)
    (hover : (Cond.arrayOver (.array .int)).before args s = true) (harr : (Cond.arrayClass .int).before args s = true) (hdg : decode cc pc = .ok (.multianewarray index 2, 4)) {n k : Int32} (hn : ¬ n < 0) (hk : ¬ k < 0) (hb1 : n.toNatClampNeg ≤ 10000) (hb2 : k.toNatClampNeg ≤ 10000)
    (hcells : cells + (1 + n.toNatClampNeg) ≤ R.cells) (hslots : slots + (n.toNatClampNeg + n.toNatClampNeg * k.toNatClampNeg) ≤ R.slots)
    (kk : ∀ (H1 : Heap) (oc ic : Cell), va_RA s oc.cls (.array .int) → s.isArrayOf oc (.array .int) → oc.vm ≠ .unknown → oc.slots = ((List.range n.toNatClampNeg).map fun j => Value.ref (H.size + 1 + j)).toArray → s.isArrayOf ic .int → ic.vm ≠ .unknown → ic.slots = Array.replicate k.toNatClampNeg (.int 0) → H1.size = H.size + 1 + n.toNatClampNeg → (∀ q : Nat, q < H.size → H1[q]? = H[q]?) →
      H1[H.size]? = some oc → (∀ j : Nat, j < n.toNatClampNeg → H1[H.size + 1 + j]? = some ic) →
      W p l e R s m args below meth c H1 locs (cells + 1 + n.toNatClampNeg) (slots + n.toNatClampNeg + n.toNatClampNeg * k.toNatClampNeg) Q (F0 m (pc + 4) ls (.ref H.size :: rest))) : W p l e R s m args below meth c H locs cells slots Q (F0 m pc ls (.int k :: .int n :: rest)) := by
  intro T hT X
  subst hT
  obtain ⟨vm₁, cA, comp, -, fA, fC, hO, hI, X', step⟩ := X.multianewarray2F hexec hown hclink hover harr (g := F0 m pc ls (.int k :: .int n :: rest)) rfl (by rw [hb]; exact hdg) rfl hn hk (by omega) (by show k.toNatClampNeg * 4 ≤ _; omega) (by omega) rfl rfl hcells hslots
  obtain ⟨f1, f2, -, -⟩ := Jvm.Free.Multi.fill_facts (T.setVm vm₁) cA comp n.toNatClampNeg k.toNatClampNeg (defaultValue .int) n.toNatClampNeg
  obtain ⟨o1, o2, o3⟩ := Jvm.Free.Multi.outerC_facts cA n.toNatClampNeg T.heap.size n.toNatClampNeg
  obtain ⟨t', a1, b1⟩ := kk _ (Jvm.Free.Multi.outerC cA n.toNatClampNeg T.heap.size n.toNatClampNeg) (Jvm.Free.Multi.innerC comp k.toNatClampNeg (defaultValue .int)) (by rw [o1]; exact fA) (hO _ _ _).1 (hO _ _ _).2 (by
      apply Array.ext_getElem?
      intro j
      conv => rhs; rw [List.getElem?_toArray, List.getElem?_map]
      by_cases hj : j < n.toNatClampNeg
      · rw [Jvm.Free.Multi.outerC_slot _ _ _ _ _ hj, List.getElem?_range hj, if_pos hj]; rfl
      · rw [Array.getElem?_eq_none (by rw [o3]; omega), List.getElem?_eq_none (by simp; omega)]; rfl) (hI _ _).1 (hI _ _).2 rfl f1 (fun q hq => Jvm.Free.Multi.fill_old (T.setVm vm₁) cA comp _ _ _ hq _) f2 (fun j hj => Jvm.Free.Multi.fill_inner (T.setVm vm₁) cA comp _ _ _ _ j hj) _ rfl X'
  exact ⟨t', step t' a1, b1⟩
end IVM
section IVN
variable {p : Program} {l : Launch} {e : Env} {R : Room} {s : State} {m : MethodId} {args : Array Value} {below : List Frame} {meth : Method} {c : Code} {Q : State → Prop}
variable {D : va_G} {b z n0 s0 nL : Nat} {own : String} {cc : ByteArray} {code : List iv_I} {v : Option Value} {w' : iv_S} {K : iv_Q} {pc k : Nat} {L st : List Value} {w : iv_S}
theorem iv_c_multi (hx : p.tables.exec = Jvm.exec) (hb : c.code = cc) (hK : ∀ (k : Nat) (L st : List Value) (w : iv_S), K k L st w = some (v, w') → (iv_le w w' ∧ ∃ J, code[k]? = some J ∧ iv_T p l e R s m args below meth c Q D b z n0 s0 nL J.1.1 L st w)) (hown : s.vm.findClass own = some m.cls) (hW : iv_Kw D s) (hbz : b < z) (hR : w'.2.1 ≤ n0 + R.cells ∧ w'.2.2 ≤ s0 + R.slots) {index x y u : Nat}
    (hax : iv_ar x = some (.array .int)) (hay : iv_ar y = some .int) (hov : Cond.arrayOver (.array .int) ∈ lw_tbl) (hac : Cond.arrayClass .int ∈ lw_tbl) (hlink : lw_tbl[u]? = some (.classLink own index ("[" ++ (FieldType.array .int).toString))) (hd : decode cc pc = .ok (.multianewarray index 2, 4)) (hn : ∀ J, code[k + 1]? = some J → J.1.1 = pc + 4)
    (h : iv_p2 st (fun n m st' => iv_nm w x y (.int 0) n m (fun a w1 => K (k + 1) L (a :: st') w1)) = some (v, w')) : iv_le w w' ∧ iv_T p l e R s m args below meth c Q D b z n0 s0 nL pc L st w := by
  unfold iv_p2 at h
  split at h
  · rename_i k2 n2 st'
    dsimp only at h
    unfold iv_nm at h
    split at h
    · cases h
    · rename_i hn0
      split at h
      · cases h
      · rename_i hk0
        split at h
        · rename_i hn1
          split at h
          · rename_i hk1
            obtain ⟨h1, J, h2, h3⟩ := hK _ _ _ _ h
            obtain ⟨l1, l2⟩ := h1
            have l1 : w.2.1 + 1 + n2.toNatClampNeg ≤ w'.2.1 := l1
            have l2 : w.2.2 + (n2.toNatClampNeg + n2.toNatClampNeg * k2.toNatClampNeg) ≤ w'.2.2 := l2
            refine ⟨⟨by omega, by omega⟩, fun H ls locs cells slots a1 a2 a3 a4 a5 => ?_⟩
            refine iv_wgrid hx hb hown (hW.at hlink rfl) (hW.use hov rfl) (hW.use hac rfl) hd hn0 hk0 hn1 hk1 (by omega) (by omega) fun H1 oc ic c1 c2 c3 c4 c5 c6 c7 e4 e5 e6 e7 => ?_
            have hrep : iv_rep D b z s (fun j => if j = w.2.1 + 1 then some (x, (List.range n2.toNatClampNeg).map fun i => .ref (w.2.1 + 2 + i)) else if w.2.1 + 1 < j ∧ j ≤ w.2.1 + 1 + n2.toNatClampNeg then some (y, List.replicate k2.toNatClampNeg (.int 0)) else w.1 j, w.2.1 + 1 + n2.toNatClampNeg, w.2.2 + (n2.toNatClampNeg + n2.toNatClampNeg * k2.toNatClampNeg)) H1 := by
              have hsz := a1.1
              refine ⟨by rw [e4, hsz]; show z + w.2.1 + 1 + _ = z + (w.2.1 + 1 + _); omega, fun j xx hj => ?_⟩
              dsimp only at hj
              split at hj
              · rename_i hj0
                subst hj0
                cases hj
                refine ⟨Or.inr ⟨_, _, hax, by show H1[z + w.2.1]? = _; rw [← hsz]; exact e6, c2, c3, ?_, fun _ => c1⟩, fun _ => by omega⟩
                rw [c4, List.map_map]
                congr 1
                apply List.map_congr_left
                intro i hi
                rw [hsz]
                show Value.ref (z + w.2.1 + 1 + i) = Value.ref (iv_r b z (w.2.1 + 2 + i))
                rw [show w.2.1 + 2 + i = (w.2.1 + 1 + i) + 1 by omega]
                show Value.ref (z + w.2.1 + 1 + i) = Value.ref (z + (w.2.1 + 1 + i))
                rw [show z + w.2.1 + 1 + i = z + (w.2.1 + 1 + i) by omega]
              · split at hj
                · rename_i hj0 hj1
                  cases hj
                  obtain ⟨i, rfl⟩ : ∃ i, j = w.2.1 + 1 + i + 1 := ⟨j - (w.2.1 + 2), by omega⟩
                  refine ⟨Or.inr ⟨_, _, hay, by show H1[z + (w.2.1 + 1 + i)]? = _; rw [show z + (w.2.1 + 1 + i) = H.size + 1 + i by omega]; exact e7 i (by omega), c5, c6, by rw [c7, List.map_replicate]; simp [iv_mv], fun h5 => by cases h5⟩, fun _ => by omega⟩
                · obtain ⟨g1, g2⟩ := a1.2 j xx hj
                  exact ⟨g1.kept (e5 _ g1.lt), g2⟩
            have h4 := h3 H1 ls locs (cells + 1 + n2.toNatClampNeg) (slots + n2.toNatClampNeg + n2.toNatClampNeg * k2.toNatClampNeg) hrep a2 a3 (by show n0 + (cells + 1 + _) = w.2.1 + 1 + _; omega) (by show s0 + (slots + _ + _) = w.2.2 + (_ + _); omega)
            rw [hn J h2] at h4
            rw [a1.1]
            exact h4
          · cases h
        · cases h
  · cases h
end IVN
