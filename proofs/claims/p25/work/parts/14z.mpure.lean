-- ===== what the reference's rows keep =====
theorem ci_mul {x y z : Int32} {u v : Int} (hx : x.toInt = u) (hy : y.toInt = v) (h : z = x * y) : z.toInt = (u * v + 2147483648) % 4294967296 - 2147483648 := by rw [h, Int32.toInt_mul, hx, hy]; exact ci_bm _
theorem cl_bm (z : Int) : z.bmod (2 ^ 64) = (z + 9223372036854775808) % 18446744073709551616 - 9223372036854775808 := by simp only [Int.bmod]; omega
theorem cl_add {x y z : Int64} {u v : Int} (hx : x.toInt = u) (hy : y.toInt = v) (h : z = x + y) : z.toInt = (u + v + 9223372036854775808) % 18446744073709551616 - 9223372036854775808 := by rw [h, Int64.toInt_add, hx, hy]; exact cl_bm _
theorem cl_sub {x y z : Int64} {u v : Int} (hx : x.toInt = u) (hy : y.toInt = v) (h : z = x - y) : z.toInt = (u - v + 9223372036854775808) % 18446744073709551616 - 9223372036854775808 := by rw [h, Int64.toInt_sub, hx, hy]; exact cl_bm _
theorem ne0_i {y : Int32} (h : 1 ≤ y.toInt) : ¬ y = 0 := by
  intro q
  rw [q] at h
  exact absurd h (by decide)
theorem ne0_j {y : Int32} (h : ¬ y = 0) : ¬ y.toInt64 = 0 := by
  intro q
  have e : y.toInt64.toInt = 0 := by rw [q]; rfl
  rw [Int32.toInt_toInt64] at e
  exact h (Int32.toInt_inj.mp e)
theorem ne0_l {y : Int64} (h : ¬ y.toInt = 0) : ¬ y = 0 := by
  intro q
  rw [q] at h
  exact h rfl
/-- the pledges' dues -/
def mPd (n : Int32) (du : Nat → Int32) : Prop := (0 ≤ n.toInt ∧ n.toInt ≤ 60) ∧ ∀ j : Nat, (j : Int) < n.toInt → 1 ≤ (du j).toInt ∧ (du j).toInt ≤ 84
/-- numbers of givers in the first n of a row -/
def mGi (n : Int32) (gi : Nat → Int32) : Prop := ∀ j : Nat, (j : Int) < n.toInt → 0 ≤ (gi j).toInt ∧ (gi j).toInt ≤ 29
/-- the sums' pence -/
def mSp (n : Int32) (sp : Nat → Int32) : Prop := (0 ≤ n.toInt ∧ n.toInt ≤ 250) ∧ ∀ j : Nat, (j : Int) < n.toInt → 1 ≤ (sp j).toInt ∧ (sp j).toInt ≤ 5000000
/-- the stages -/
def mSt (n b : Int32) (ln : Nat → Int32) : Prop := (0 ≤ b.toInt ∧ b.toInt ≤ n.toInt ∧ n.toInt ≤ 8) ∧ ∀ j : Nat, (j : Int) < n.toInt → 1 ≤ (ln j).toInt ∧ (ln j).toInt ≤ 24
theorem mPd_d {n x y : Int32} {du : Nat → Int32} (h : mPd n du) (h0 : 0 ≤ x.toInt) (h1 : x.toInt < n.toInt) (e : y = du x.toNatClampNeg) : 1 ≤ y.toInt ∧ y.toInt ≤ 84 := by
  rw [e]; exact h.2 _ (by rw [nc_int h0]; exact h1)
theorem mGi_g {n x y : Int32} {du : Nat → Int32} (h : mGi n du) (h0 : 0 ≤ x.toInt) (h1 : x.toInt < n.toInt) (e : y = du x.toNatClampNeg) : 0 ≤ y.toInt ∧ y.toInt ≤ 29 := by
  rw [e]; exact h _ (by rw [nc_int h0]; exact h1)
theorem mSp_p {n x y : Int32} {du : Nat → Int32} (h : mSp n du) (h0 : 0 ≤ x.toInt) (h1 : x.toInt < n.toInt) (e : y = du x.toNatClampNeg) : 1 ≤ y.toInt ∧ y.toInt ≤ 5000000 := by
  rw [e]; exact h.2 _ (by rw [nc_int h0]; exact h1)
theorem mSt_l {n b x y : Int32} {du : Nat → Int32} (h : mSt n b du) (h0 : 0 ≤ x.toInt) (h1 : x.toInt < n.toInt) (e : y = du x.toNatClampNeg) : 1 ≤ y.toInt ∧ y.toInt ≤ 24 := by
  rw [e]; exact h.2 _ (by rw [nc_int h0]; exact h1)
theorem row_up {P : Int32 → Prop} {n y x : Int32} {f : Nat → Int32} (h0 : 0 ≤ n.toInt) (h : ∀ j : Nat, (j : Int) < n.toInt → P (f j)) (hy : y.toInt = n.toInt + 1) (hx : P x) : ∀ j : Nat, (j : Int) < y.toInt → P (upd f n.toNatClampNeg x j) := by
  intro j hj
  have hn := nc_int h0
  by_cases e : j = n.toNatClampNeg
  · rw [e, pk_us]; exact hx
  · rw [pk_un e]; exact h j (by omega)
theorem mPd_up {n y x : Int32} {du : Nat → Int32} (h : mPd n du) (hn : n.toInt < 60) (hy : y.toInt = n.toInt + 1) (hx : 1 ≤ x.toInt ∧ x.toInt ≤ 84) : mPd y (upd du n.toNatClampNeg x) :=
  ⟨⟨by have := h.1; omega, by omega⟩, row_up (P := fun z => 1 ≤ z.toInt ∧ z.toInt ≤ 84) h.1.1 h.2 hy hx⟩
theorem mGi_up {n y x : Int32} {du : Nat → Int32} (h0 : 0 ≤ n.toInt) (h : mGi n du) (hy : y.toInt = n.toInt + 1) (hx : 0 ≤ x.toInt ∧ x.toInt ≤ 29) : mGi y (upd du n.toNatClampNeg x) :=
  row_up (P := fun z => 0 ≤ z.toInt ∧ z.toInt ≤ 29) h0 h hy hx
theorem mSp_up {n y x : Int32} {du : Nat → Int32} (h : mSp n du) (hn : n.toInt < 250) (hy : y.toInt = n.toInt + 1) (hx : 1 ≤ x.toInt ∧ x.toInt ≤ 5000000) : mSp y (upd du n.toNatClampNeg x) :=
  ⟨⟨by have := h.1; omega, by omega⟩, row_up (P := fun z => 1 ≤ z.toInt ∧ z.toInt ≤ 5000000) h.1.1 h.2 hy hx⟩
theorem mSt_up {n y b x : Int32} {du : Nat → Int32} (h : mSt n b du) (hn : n.toInt < 8) (hy : y.toInt = n.toInt + 1) (hx : 1 ≤ x.toInt ∧ x.toInt ≤ 24) : mSt y b (upd du n.toNatClampNeg x) :=
  ⟨⟨h.1.1, by have := h.1; omega, by omega⟩, row_up (P := fun z => 1 ≤ z.toInt ∧ z.toInt ≤ 24) (by have := h.1; omega) h.2 hy hx⟩
theorem mSt_go {n y b : Int32} {du : Nat → Int32} (h : mSt n b du) (hn : b.toInt < n.toInt) (hy : y.toInt = b.toInt + 1) : mSt n y du :=
  ⟨⟨by have := h.1; omega, by omega, h.1.2.2⟩, h.2⟩
/-- how many of the first g have reached t -/
def cntT (f : Nat → Int32) (t : Int) : Nat → Nat
  | 0 => 0
  | g + 1 => cntT f t g + (if t ≤ (f g).toInt then 1 else 0)
theorem cntT_le (f : Nat → Int32) (t : Int) (g : Nat) : cntT f t g ≤ g := by
  induction g with
  | zero => exact Nat.le_refl 0
  | succ g ih => simp only [cntT]; split <;> omega
theorem cntT_lt {f : Nat → Int32} {t : Int} {g q : Nat} (hq : q < g) (h : ¬ t ≤ (f q).toInt) : cntT f t g < g := by
  induction g with
  | zero => omega
  | succ g ih =>
    simp only [cntT]
    by_cases e : q = g
    · subst e
      rw [if_neg h]
      have := cntT_le f t q
      omega
    · have := ih (by omega)
      split <;> omega
theorem cntT_upd {f : Nat → Int32} {t : Int} {x : Int32} {q : Nat} (h : t ≤ (f q).toInt → t ≤ x.toInt) (g : Nat) : cntT f t g ≤ cntT (upd f q x) t g := by
  induction g with
  | zero => exact Nat.le_refl 0
  | succ g ih =>
    simp only [cntT]
    by_cases e : g = q
    · subst e
      rw [pk_us]
      by_cases e1 : t ≤ (f g).toInt
      · rw [if_pos e1, if_pos (h e1)]; omega
      · rw [if_neg e1]; split <;> omega
    · rw [pk_un e]
      split <;> omega
theorem cntT_more {f : Nat → Int32} {t : Int} {x : Int32} {q : Nat} (h0 : ¬ t ≤ (f q).toInt) (h1 : t ≤ x.toInt) (g : Nat) (hq : q < g) : cntT f t g + 1 ≤ cntT (upd f q x) t g := by
  induction g with
  | zero => omega
  | succ g ih =>
    simp only [cntT]
    by_cases e : g = q
    · subst e
      have := cntT_upd (f := f) (t := t) (x := x) (q := g) (fun q => absurd q h0) g
      rw [pk_us, if_pos h1, if_neg h0]; omega
    · have := ih (by omega)
      rw [pk_un e]
      split <;> omega
/-- where carve stands: n stones, s sums seen -/
def cvI (fs : Nat → Int32) (t : Int) (n s : Int32) : Prop := 0 ≤ n.toInt ∧ n.toInt ≤ cntT fs t 30 ∧ ∀ g : Nat, g < 30 → 0 ≤ (fs g).toInt ∧ (fs g).toInt ≤ 5000000 * s.toInt
theorem cvI_n {fs : Nat → Int32} {t : Int} {n s : Int32} (h : cvI fs t n s) : 0 ≤ n.toInt ∧ n.toInt ≤ 30 := ⟨h.1, by have := h.2.1; have := cntT_le fs t 30; omega⟩
theorem cvI_lt {fs : Nat → Int32} {t : Int} {n s g y : Int32} (h : cvI fs t n s) (hg : 0 ≤ g.toInt ∧ g.toInt ≤ 29) (e : y = fs g.toNatClampNeg) (hy : y.toInt < t) : n.toInt < 30 := by
  have := cntT_lt (f := fs) (t := t) (g := 30) (q := g.toNatClampNeg) (by have := nc_int hg.1; omega) (by rw [← e]; omega)
  have := h.2.1
  omega
theorem cvI_at {fs : Nat → Int32} {t : Int} {n s g y : Int32} (h : cvI fs t n s) (hg : 0 ≤ g.toInt ∧ g.toInt ≤ 29) (e : y = fs g.toNatClampNeg) : 0 ≤ y.toInt ∧ y.toInt ≤ 5000000 * s.toInt := by
  rw [e]; exact h.2.2 _ (by have := nc_int hg.1; omega)
theorem cvI_row {fs : Nat → Int32} {s s2 g x : Int32} (h : ∀ g : Nat, g < 30 → 0 ≤ (fs g).toInt ∧ (fs g).toInt ≤ 5000000 * s.toInt) (hs : s2.toInt = s.toInt + 1) (hx : 0 ≤ x.toInt ∧ x.toInt ≤ 5000000 * s2.toInt) : ∀ q : Nat, q < 30 → 0 ≤ (upd fs g.toNatClampNeg x q).toInt ∧ (upd fs g.toNatClampNeg x q).toInt ≤ 5000000 * s2.toInt := by
  intro q hq
  by_cases e : q = g.toNatClampNeg
  · rw [e, pk_us]; exact hx
  · rw [pk_un e]; have := h q hq; omega
theorem cvI_keep {fs : Nat → Int32} {t : Int} {n s s2 g x y : Int32} (h : cvI fs t n s) (e : y = fs g.toNatClampNeg) (hxy : y.toInt ≤ x.toInt) (hs : s2.toInt = s.toInt + 1) (hx : 0 ≤ x.toInt ∧ x.toInt ≤ 5000000 * s2.toInt) : cvI (upd fs g.toNatClampNeg x) t n s2 :=
  ⟨h.1, by have := cntT_upd (f := fs) (t := t) (x := x) (q := g.toNatClampNeg) (by rw [← e]; omega) 30; have := h.2.1; omega, cvI_row h.2.2 hs hx⟩
theorem cvI_more {fs : Nat → Int32} {t : Int} {n n2 s s2 g x y : Int32} (h : cvI fs t n s) (hg : 0 ≤ g.toInt ∧ g.toInt ≤ 29) (e : y = fs g.toNatClampNeg) (hy : y.toInt < t) (hxt : t ≤ x.toInt) (hn : n2.toInt = n.toInt + 1) (hs : s2.toInt = s.toInt + 1) (hx : 0 ≤ x.toInt ∧ x.toInt ≤ 5000000 * s2.toInt) : cvI (upd fs g.toNatClampNeg x) t n2 s2 :=
  ⟨by have := h.1; omega, by have := cntT_more (f := fs) (t := t) (x := x) (q := g.toNatClampNeg) (by rw [← e]; omega) hxt 30 (by have := nc_int hg.1; omega); have := h.2.1; omega, cvI_row h.2.2 hs hx⟩
theorem cvI_0 {fs : Nat → Int32} {t : Int} (h : ∀ g : Nat, g < 30 → fs g = 0) : cvI fs t 0 0 :=
  ⟨by decide, by rw [show (0 : Int32).toInt = 0 from by decide]; omega, fun g hg => by rw [h g hg]; exact ⟨by decide, by decide⟩⟩

