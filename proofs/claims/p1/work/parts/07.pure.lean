def minus (n : Int) : Nat → Int32 := fun j => if (j : Int) < n then -1 else 0
theorem minus_0 : (fun _ => 0) = minus 0 := by
  funext j
  have : ¬ (j : Int) < 0 := by omega
  simp [minus, this]
theorem nc_int {x : Int32} (h : 0 ≤ x.toInt) : (x.toNatClampNeg : Int) = x.toInt := by
  show ((x.toInt.toNat : Nat) : Int) = x.toInt
  omega
theorem minus_up {i y : Int32} (h0 : 0 ≤ i.toInt) (h : y.toInt = i.toInt + 1) : upd (minus i.toInt) i.toNatClampNeg (-1) = minus y.toInt := by
  have hn := nc_int h0
  funext j
  by_cases hj : j = i.toNatClampNeg
  · subst hj
    rw [pk_us]
    have : ((i.toNatClampNeg : Nat) : Int) < y.toInt := by omega
    simp [minus, this]
  · rw [pk_un hj]
    have e : (j : Int) < i.toInt ↔ (j : Int) < y.toInt := by omega
    simp only [minus, e]
theorem minus_at {i : Int32} {n : Int} (h0 : 0 ≤ i.toInt) (h : i.toInt < n) : minus n i.toNatClampNeg = -1 := by
  have hn := nc_int h0
  have : ((i.toNatClampNeg : Nat) : Int) < n := by omega
  simp [minus, this]
theorem cl_lt {x y : Int64} {u v : Int} (hx : x.toInt = u) (hy : y.toInt = v) (h : x < y) : u < v := by rw [← hx, ← hy]; exact Int64.lt_iff_toInt_lt.mp h
theorem cl_nlt {x y : Int64} {u v : Int} (hx : x.toInt = u) (hy : y.toInt = v) (h : ¬ x < y) : ¬ u < v := by rw [← hx, ← hy]; exact fun q => h (Int64.lt_iff_toInt_lt.mpr q)
theorem cl_le {x y : Int64} {u v : Int} (hx : x.toInt = u) (hy : y.toInt = v) (h : x ≤ y) : u ≤ v := by rw [← hx, ← hy]; exact Int64.le_iff_toInt_le.mp h
theorem cl_nle {x y : Int64} {u v : Int} (hx : x.toInt = u) (hy : y.toInt = v) (h : ¬ x ≤ y) : ¬ u ≤ v := by rw [← hx, ← hy]; exact fun q => h (Int64.le_iff_toInt_le.mpr q)
theorem cl_eq {x y : Int64} {u v : Int} (hx : x.toInt = u) (hy : y.toInt = v) (h : x = y) : u = v := by rw [← hx, ← hy, h]
theorem cl_ne {x y : Int64} {u v : Int} (hx : x.toInt = u) (hy : y.toInt = v) (h : ¬ x = y) : ¬ u = v := by rw [← hx, ← hy]; exact fun q => h (Int64.toInt_inj.mp q)
theorem nar_z0 : vp_nar .boolean 0 = 0 := by decide
theorem nar_z1 : vp_nar .boolean 1 = 1 := by decide
theorem eq_add {y n c : Int32} {v : Int} (hc : c.toInt = v) (h : y.toInt = (n.toInt + v + 2147483648) % 4294967296 - 2147483648) : y = n + c := Int32.toInt_inj.mp (by rw [Int32.toInt_add, ci_bm, hc]; exact h)
