/-! the two constructors, by counting -/
def md_A0 : Nat → Nat → Int32 := fun k j => if k = 45 then ([1, 2, 4, 8, 16, 32] : List Int32).getD j 0 else 0
def md_F0 : Nat → Nat → Int32 := fun _ _ => 0
def md_w1 : iv_S := (fun k => if k = 1 then some (0, [.null, .null, .null, .null, .null, .null]) else none, 1, 6)
def md_d0 (k : Nat) : Option iv_C := match k with
  | 36 => some (107, List.replicate 24 .null)
  | 39 => some (105, List.replicate 3 .null)
  | 41 => some (105, List.replicate 3 .null)
  | 43 => some (105, List.replicate 3 .null)
  | _ => none
def md_ck (lo hi : Nat) (r : iv_R) (n z : Nat) : Bool := match r with
  | some (none, w) => decide (w.2.1 = n) && decide (w.2.2 = z) && (List.range (hi - lo)).all (fun k => decide (w.1 (lo + k) = md_h md_A0 md_F0 md_d0 (lo + k)))
  | _ => false
theorem md_c1 : md_ck 1 158 (iv_call 1000 4 2 [.ref 1] md_w1) 157 1686 = true := by decide +kernel
