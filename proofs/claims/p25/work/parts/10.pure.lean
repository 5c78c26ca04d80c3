-- ===== strings and rows, pure =====
theorem sL_i : ∀ i, i < 8 → (nI (sLen i)).toInt = (sLen i : Int) ∧ sLen i < 6 := by decide
theorem sL_lt {i : Nat} (h : i < 8) : sLen i < 2 ^ 31 := by have := (sL_i i h).2; omega
theorem sB_ch : ∀ i, i < 8 → ∀ j, j < sLen i → ((sB i j &&& 255).toUInt32 % 65536).toInt32 = sB i j := by decide
theorem sB_rng : ∀ i, i < 8 → ∀ j, j < sLen i → 97 ≤ (sB i j).toInt ∧ (sB i j).toInt ≤ 122 := by decide
theorem sB_nar : ∀ i, i < 8 → ∀ j, j < sLen i → (((sB i j).toUInt32 % 65536).toInt32) = sB i j := by decide
theorem nc_lt {x : Int32} {n : Nat} (h0 : 0 ≤ x.toInt) (h1 : x.toInt < n) : x.toNatClampNeg < n := by have := nc_int h0; omega
def byA (f : Nat → Int32) (sz x : Int32) : Int32 := if x.toInt < sz.toInt then f x.toNatClampNeg &&& 255 else 0
theorem byA_in {f : Nat → Int32} {sz x : Int32} (h : x.toInt < sz.toInt) : f x.toNatClampNeg &&& 255 = byA f sz x := by simp [byA, h]
theorem byA_out {f : Nat → Int32} {sz x : Int32} (h : ¬ x.toInt < sz.toInt) : 0 = byA f sz x := by simp [byA, h]

