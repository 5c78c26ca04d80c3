theorem nc_ex {x : Int32} (h : 0 ≤ x.toInt) : ∃ N : Nat, x.toNatClampNeg = N ∧ (N : Int) = x.toInt ∧ ¬ x < 0 :=
  ⟨x.toNatClampNeg, rfl, nc_int h, fun q => by have := ci_lt (x := x) (y := 0) rfl (show (0 : Int32).toInt = 0 by decide) q; omega⟩
