-- ===== the books, pure: sums over rows, rows written over a stretch =====
def sm (f : Nat → Int) : Nat → Int
  | 0 => 0
  | n + 1 => sm f n + f n
theorem sm_c {f g : Nat → Int} : ∀ {n : Nat}, (∀ k, k < n → f k = g k) → sm f n = sm g n
  | 0, _ => rfl
  | n + 1, h => by
    show sm f n + f n = sm g n + g n
    rw [sm_c (fun k hk => h k (by omega)), h n (by omega)]
theorem sm_x {f : Nat → Int} {n : Nat} : ∀ {m : Nat}, n ≤ m → (∀ k, n ≤ k → k < m → f k = 0) → sm f m = sm f n
  | 0, h, _ => by rw [show n = 0 by omega]
  | m + 1, h, hz => by
    by_cases q : n = m + 1
    · rw [q]
    · show sm f m + f m = sm f n
      rw [sm_x (m := m) (by omega) (fun k a b => hz k a (by omega)), hz m (by omega) (by omega)]
      omega
theorem sm_bd {f : Nat → Int} {c : Int} : ∀ {n : Nat}, (∀ k, k < n → 0 ≤ f k ∧ f k ≤ c) → 0 ≤ sm f n ∧ sm f n ≤ n * c
  | 0, _ => by
    show (0 : Int) ≤ 0 ∧ (0 : Int) ≤ ((0 : Nat) : Int) * c
    rw [show ((0 : Nat) : Int) = 0 from rfl, Int.zero_mul]
    omega
  | n + 1, h => by
    have a := sm_bd (n := n) (fun k hk => h k (by omega))
    have b := h n (by omega)
    have e : ((n + 1 : Nat) : Int) * c = n * c + c := by rw [show ((n + 1 : Nat) : Int) = (n : Int) + 1 from by omega, Int.add_mul, Int.one_mul]
    show 0 ≤ sm f n + f n ∧ sm f n + f n ≤ ((n + 1 : Nat) : Int) * c
    omega
theorem sm_mono {f : Nat → Int} {n : Nat} : ∀ {m : Nat}, n ≤ m → (∀ k, k < m → 0 ≤ f k) → sm f n ≤ sm f m
  | 0, h, _ => by rw [show n = 0 by omega]; exact Int.le_refl _
  | m + 1, h, hz => by
    by_cases q : n = m + 1
    · rw [q]; exact Int.le_refl _
    · have a := sm_mono (f := f) (n := n) (m := m) (by omega) (fun k hk => hz k (by omega))
      have b := hz m (by omega)
      show sm f n ≤ sm f m + f m
      omega
theorem sm_up {t : Nat → Int} {nn y kk k2 : Int32} (h0 : 0 ≤ kk.toInt) (h : nn.toInt = sm t kk.toNatClampNeg) (hk : k2.toInt = kk.toInt + 1) (hy : y.toInt = nn.toInt + t kk.toNatClampNeg) : y.toInt = sm t k2.toNatClampNeg := by
  rw [nc_s h0 hk]
  show _ = sm t _ + t _
  omega
theorem sm_at {t : Nat → Int} {nn kk : Int32} {N : Nat} (h : nn.toInt = sm t kk.toNatClampNeg) (hN : kk.toNatClampNeg = N) : nn.toInt = sm t N := by rw [← hN]; exact h
theorem sm_cut {t : Nat → Int} {nn kk : Int32} {N : Nat} (h : nn.toInt = sm t kk.toNatClampNeg) (hN : kk.toNatClampNeg ≤ N) (hz : ∀ k, kk.toNatClampNeg ≤ k → k < N → t k = 0) : nn.toInt = sm t N := by rw [sm_x hN hz]; exact h
/-- a row with v's values at those of lo .. n-1 where c is -/
def fU (c : Nat → Bool) (v w : Nat → Int32) (lo n k : Nat) : Int32 := if (lo ≤ k ∧ k < n) ∧ c k = true then v k else w k
section FU
variable {c : Nat → Bool} {v w : Nat → Int32} {lo n m : Nat}
theorem fU_0 : fU c v w lo lo = w := by
  funext k
  unfold fU
  rw [if_neg (by omega)]
theorem fU_y (hl : lo ≤ n) (h : c n = true) {x : Int32} (hx : x = v n) : upd (fU c v w lo n) n x = fU c v w lo (n + 1) := by
  funext k
  by_cases q : k = n
  · rw [q, pk_us]
    unfold fU
    rw [if_pos ⟨by omega, h⟩, hx]
  · rw [pk_un q]
    unfold fU
    by_cases r : (lo ≤ k ∧ k < n) ∧ c k = true
    · rw [if_pos r, if_pos ⟨by omega, r.2⟩]
    · rw [if_neg r, if_neg (fun z => r ⟨by omega, z.2⟩)]
theorem fU_n (h : c n = true → v n = w n) : fU c v w lo n = fU c v w lo (n + 1) := by
  funext k
  unfold fU
  by_cases r : (lo ≤ k ∧ k < n) ∧ c k = true
  · rw [if_pos r, if_pos ⟨by omega, r.2⟩]
  · by_cases z : (lo ≤ k ∧ k < n + 1) ∧ c k = true
    · have e : k = n := by
        by_cases q : k = n
        · exact q
        · exact absurd ⟨by omega, z.2⟩ r
      rw [if_neg r, if_pos z, e, h (by rw [← e]; exact z.2)]
    · rw [if_neg r, if_neg z]
theorem fU_stop (hm : n ≤ m) (h : ∀ k, n ≤ k → k < m → c k = true → v k = w k) : fU c v w lo n = fU c v w lo m := by
  funext k
  unfold fU
  by_cases r : (lo ≤ k ∧ k < n) ∧ c k = true
  · rw [if_pos r, if_pos ⟨by omega, r.2⟩]
  · by_cases z : (lo ≤ k ∧ k < m) ∧ c k = true
    · have e : n ≤ k := by
        by_cases q : n ≤ k
        · exact q
        · exact absurd ⟨by omega, z.2⟩ r
      rw [if_neg r, if_pos z, h k e z.1.2 z.2]
    · rw [if_neg r, if_neg z]
/-- one step, by Int32 places -/
theorem fU_Y {kk k2 x : Int32} {q : Nat → Int32} (h0 : 0 ≤ kk.toInt) (hl : lo ≤ kk.toNatClampNeg) (hq : q = fU c v w lo kk.toNatClampNeg) (hk : k2.toInt = kk.toInt + 1) (h : c kk.toNatClampNeg = true) (hx : x = v kk.toNatClampNeg) : upd q kk.toNatClampNeg x = fU c v w lo k2.toNatClampNeg := by
  rw [nc_s h0 hk, hq]; exact fU_y hl h hx
theorem fU_N {kk k2 : Int32} {q : Nat → Int32} (h0 : 0 ≤ kk.toInt) (hq : q = fU c v w lo kk.toNatClampNeg) (hk : k2.toInt = kk.toInt + 1) (h : c kk.toNatClampNeg = true → v kk.toNatClampNeg = w kk.toNatClampNeg) : q = fU c v w lo k2.toNatClampNeg := by
  rw [nc_s h0 hk, hq]; exact fU_n h
theorem fU_at {kk : Int32} {q : Nat → Int32} (hq : q = fU c v w lo kk.toNatClampNeg) (hN : kk.toNatClampNeg = n) : q = fU c v w lo n := by rw [hq, hN]
theorem fU_in {k : Nat} (hl : lo ≤ k) (hn : n ≤ k) : fU c v w lo n k = w k := by unfold fU; rw [if_neg (by omega)]
end FU
-- ----- a pledge
def mo (pf pe : Int32) (k : Nat) : Int := pf.toInt + k * pe.toInt
theorem mo_le {pf pe : Int32} {k k' : Nat} (he : 0 ≤ pe.toInt) (h : k ≤ k') : mo pf pe k ≤ mo pf pe k' := by
  unfold mo
  have := Int.mul_le_mul_of_nonneg_right (show (k : Int) ≤ k' by omega) he
  omega
theorem mul_bd {a b A B : Int} (ha : 0 ≤ a) (hA : a ≤ A) (hb : 0 ≤ b) (hB : b ≤ B) : 0 ≤ a * b ∧ a * b ≤ A * B := ⟨Int.mul_nonneg ha hb, Int.mul_le_mul hA hB hb (by omega)⟩
theorem mo_of {pf pe x y z : Int32} (hx0 : 0 ≤ x.toInt) (hx1 : x.toInt ≤ 84) (hf : 0 ≤ pf.toInt ∧ pf.toInt ≤ 119 ∧ 1 ≤ pe.toInt ∧ pe.toInt ≤ 12) (e1 : y = x * pe) (e2 : z = pf + y) : z.toInt = mo pf pe x.toNatClampNeg := by
  have b := mul_bd (A := 84) (B := 12) hx0 hx1 (b := pe.toInt) (by omega) (by omega)
  have h1 := ci_mul (x := x) (y := pe) rfl rfl e1
  have h2 := ci_add (x := pf) (y := y) rfl rfl e2
  have n := nc_int hx0
  unfold mo
  rw [n]
  omega
def wfP (pf pe : Int32) (N : Nat) (D F S : Nat → Int32) : Prop := (0 ≤ pf.toInt ∧ pf.toInt ≤ 119 ∧ 1 ≤ pe.toInt ∧ pe.toInt ≤ 12) ∧ ∀ k, k < N → (0 ≤ (F k).toInt ∧ (F k).toInt ≤ (D k).toInt ∧ 1 ≤ (D k).toInt ∧ (D k).toInt ≤ 100000) ∧ (0 ≤ (S k).toInt ∧ (S k).toInt ≤ 2) ∧ mo pf pe k ≤ 119
/-- what isn't filled of a due that is there -/
def tO (D F S : Nat → Int32) (k : Nat) : Int := if (S k).toInt = 0 then (D k).toInt - (F k).toInt else 0
def tV (pf pe : Int32) (D F S : Nat → Int32) (c : Int) (k : Nat) : Int := if (S k).toInt = 0 ∧ mo pf pe k ≤ c ∧ (F k).toInt < (D k).toInt then 1 else 0
def tW (pf pe : Int32) (D F S : Nat → Int32) (a b : Int) (k : Nat) : Int := if (S k).toInt = 0 ∧ a ≤ mo pf pe k ∧ mo pf pe k ≤ b then (D k).toInt - (F k).toInt else 0
def tC (pf pe : Int32) (S : Nat → Int32) (c : Int) (k : Nat) : Int := if (S k).toInt = 0 ∧ c < mo pf pe k then 1 else 0
def tU (pf pe : Int32) (X S : Nat → Int32) (c : Int) (k : Nat) : Int := if ¬ (S k).toInt = 2 ∧ mo pf pe k ≤ c then (X k).toInt else 0
/-- what is left of x behind the first k dues -/
def lft (x : Int) (t : Nat → Int) (k : Nat) : Int := if sm t k ≤ x then x - sm t k else 0
def vF (x : Int) (D F S : Nat → Int32) (k : Nat) : Int32 := Int32.ofInt ((F k).toInt + (if lft x (tO D F S) k ≤ tO D F S k then lft x (tO D F S) k else tO D F S k))
def cS0 (S : Nat → Int32) (k : Nat) : Bool := decide ((S k).toInt = 0)
def cCh (pf pe : Int32) (F : Nat → Int32) (c : Int) (k : Nat) : Bool := decide (c < mo pf pe k ∧ (F k).toInt = 0)
def cLa (D F S : Nat → Int32) (k : Nat) : Bool := decide ((S k).toInt = 0 ∧ (F k).toInt < (D k).toInt)
def vLa (pf pe : Int32) (c : Int) (k : Nat) : Int32 := if mo pf pe k ≤ c then 1 else 2
def cTk (pf pe : Int32) (S : Nat → Int32) (c : Int) (k : Nat) : Bool := decide (c < mo pf pe k ∧ (S k).toInt = 2)
theorem i32_of {y : Int32} {z : Int} (h : y.toInt = z) : y = Int32.ofInt z := by rw [← h, Int32.ofInt_toInt]
theorem mo_ge {pf pe : Int32} {k : Nat} (h : 0 ≤ pf.toInt) (he : 0 ≤ pe.toInt) : 0 ≤ mo pf pe k := by
  unfold mo
  have := Int.mul_nonneg (show (0 : Int) ≤ k by omega) he
  omega
theorem lft_ge (x : Int) (t : Nat → Int) (k : Nat) : 0 ≤ lft x t k := by unfold lft; split <;> omega
theorem lft_up {x : Int} {t : Nat → Int} {k : Nat} (h : 0 ≤ t k) : lft x t (k + 1) = (if lft x t k ≤ t k then 0 else lft x t k - t k) := by
  have e : sm t (k + 1) = sm t k + t k := rfl
  unfold lft
  rw [e]
  by_cases a : sm t k ≤ x
  · rw [if_pos a]
    by_cases b : sm t k + t k ≤ x
    · rw [if_pos b]
      by_cases c : x - sm t k ≤ t k
      · rw [if_pos c]; omega
      · rw [if_neg c]; omega
    · rw [if_neg b, if_pos (by omega)]
  · rw [if_neg a, if_neg (by omega), if_pos h]
theorem lft_0 {x : Int} {t : Nat → Int} {k m : Nat} (h : lft x t k = 0) (hm : k ≤ m) (ht : ∀ j, j < m → 0 ≤ t j) : lft x t m = 0 := by
  have a := sm_mono hm ht
  unfold lft at *
  split at h <;> split <;> omega
theorem tO_1 {D F S : Nat → Int32} {k : Nat} (h : (S k).toInt = 0) : tO D F S k = (D k).toInt - (F k).toInt := if_pos h
theorem tO_0 {D F S : Nat → Int32} {k : Nat} (h : ¬ (S k).toInt = 0) : tO D F S k = 0 := if_neg h
theorem tO_bd {pf pe : Int32} {N : Nat} {D F S : Nat → Int32} (hW : wfP pf pe N D F S) {k : Nat} (hk : k < N) : 0 ≤ tO D F S k ∧ tO D F S k ≤ 100000 := by
  have hq := (hW.2 k hk).1
  unfold tO
  split <;> omega
theorem vF_0 {x : Int} {D F S : Nat → Int32} {k : Nat} (h : lft x (tO D F S) k = 0) (ht : 0 ≤ tO D F S k) : vF x D F S k = F k := by
  unfold vF
  rw [h, if_pos ht, Int.add_zero, Int32.ofInt_toInt]
theorem ci_min {x y z : Int32} {u v : Int} (hx : x.toInt = u) (hy : y.toInt = v) (h : z = if y < x then y else x) : (z.toInt = u ∧ u ≤ v) ∨ (z.toInt = v ∧ v < u) := by
  rw [h]
  by_cases q : y < x
  · rw [if_pos q]; exact Or.inr ⟨hy, by have := Int32.lt_iff_toInt_lt.mp q; omega⟩
  · rw [if_neg q]; exact Or.inl ⟨hx, by have := mt Int32.lt_iff_toInt_lt.mpr q; omega⟩
theorem ci_max {x y z : Int32} {u v : Int} (hx : x.toInt = u) (hy : y.toInt = v) (h : z = if x < y then y else x) : (z.toInt = u ∧ v ≤ u) ∨ (z.toInt = v ∧ u < v) := by
  rw [h]
  by_cases q : x < y
  · rw [if_pos q]; exact Or.inr ⟨hy, by have := Int32.lt_iff_toInt_lt.mp q; omega⟩
  · rw [if_neg q]; exact Or.inl ⟨hx, by have := mt Int32.lt_iff_toInt_lt.mpr q; omega⟩
theorem cl_min {x y z : Int64} {u v : Int} (hx : x.toInt = u) (hy : y.toInt = v) (h : z = if y < x then y else x) : (z.toInt = u ∧ u ≤ v) ∨ (z.toInt = v ∧ v < u) := by
  rw [h]
  by_cases q : y < x
  · rw [if_pos q]; exact Or.inr ⟨hy, by have := Int64.lt_iff_toInt_lt.mp q; omega⟩
  · rw [if_neg q]; exact Or.inl ⟨hx, by have := mt Int64.lt_iff_toInt_lt.mpr q; omega⟩
theorem cl_max {x y z : Int64} {u v : Int} (hx : x.toInt = u) (hy : y.toInt = v) (h : z = if y < x then x else y) : (z.toInt = u ∧ v ≤ u) ∨ (z.toInt = v ∧ u < v) := by
  rw [h]
  by_cases q : y < x
  · rw [if_pos q]; exact Or.inl ⟨hx, by have := Int64.lt_iff_toInt_lt.mp q; omega⟩
  · rw [if_neg q]
    have q2 := mt Int64.lt_iff_toInt_lt.mpr q
    by_cases e : u = v
    · exact Or.inl ⟨by omega, by omega⟩
    · exact Or.inr ⟨hy, by omega⟩
theorem lft_s {x : Int} {t : Nat → Int} (h : 0 ≤ x) : x = lft x t (0 : Int32).toNatClampNeg := by
  show x = if (0 : Int) ≤ x then x - 0 else 0
  rw [if_pos h]
  omega
theorem lft_le {x : Int} {t : Nat → Int} {k : Nat} (ht : ∀ j, j < k → 0 ≤ t j) (h : 0 ≤ x) : lft x t k ≤ x := by
  have a := sm_mono (f := t) (n := 0) (m := k) (Nat.zero_le _) ht
  have b : sm t 0 = 0 := rfl
  unfold lft
  split <;> omega
-- ===== the books, pure: a pledge's dues as the reference has them =====
theorem mo_ref {pf pe x y1 y2 y3 y4 a b : Int32} (hx0 : 0 ≤ x.toInt) (hx1 : x.toInt ≤ 84) (hf : a = pf ∧ b = pe ∧ 0 ≤ pf.toInt ∧ pf.toInt ≤ 119 ∧ 1 ≤ pe.toInt ∧ pe.toInt ≤ 12) (e1 : y1 = a) (e2 : y2 = b) (e3 : y3 = x * y2) (e4 : y4 = y1 + y3) : y4.toInt = mo pf pe x.toNatClampNeg := by
  obtain ⟨ha, hb, hc⟩ := hf
  subst ha hb e1 e2
  exact mo_of hx0 hx1 hc e3 e4
/-- a row's first N, the rest are none -/
def tz (N : Nat) (t : Nat → Int) (k : Nat) : Int := if k < N then t k else 0
theorem sm_tz {N m : Nat} {t : Nat → Int} (h : N ≤ m) : sm (tz N t) m = sm t N := by
  have a : sm (tz N t) m = sm (tz N t) N := sm_x h (fun k a _ => by unfold tz; exact if_neg (by omega))
  rw [a]
  exact sm_c (fun k hk => by unfold tz; exact if_pos hk)
theorem tz_bd {N : Nat} {t : Nat → Int} {c : Int} (hc : 0 ≤ c) (h : ∀ k, k < N → 0 ≤ t k ∧ t k ≤ c) (k : Nat) : 0 ≤ tz N t k ∧ tz N t k ≤ c := by
  unfold tz
  by_cases q : k < N
  · rw [if_pos q]; exact h k q
  · rw [if_neg q]; omega
def vT (S : Nat → Int32) (k : Nat) : Int32 := if (S k).toInt = 0 then 1 else 0
def vC (S : Nat → Int32) (k : Nat) : Int32 := if (S k).toInt = 2 then 0 else 1
/-- the rows of pledge p in the reference: first, every, dues, due, filled, isThere, counts -/
def rw1 (p N : Nat) (pf pe : Int32) (D F S : Nat → Int32) (qf qe qd du fi th co : Nat → Int32) : Prop :=
  (qf p = pf ∧ qe p = pe ∧ (N : Int) ≤ (qd p).toInt ∧ (qd p).toInt ≤ 84) ∧
  (∀ j, j < N → du (84 * p + j) = D j ∧ fi (84 * p + j) = F j ∧ th (84 * p + j) = vT S j ∧ co (84 * p + j) = vC S j) ∧
  (∀ j, N ≤ j → j < 84 → fi (84 * p + j) = 0 ∧ th (84 * p + j) = 0 ∧ co (84 * p + j) = 0) ∧
  (∀ j, N ≤ j → (j : Int) < (qd p).toInt → 119 < mo pf pe j)
section RW
variable {p N : Nat} {pf pe : Int32} {D F S qf qe qd du fi th co : Nat → Int32}
theorem vT_i {k : Nat} : ((vT S k).toInt = 1 ∧ (S k).toInt = 0) ∨ ((vT S k).toInt = 0 ∧ ¬ (S k).toInt = 0) := by
  unfold vT
  by_cases q : (S k).toInt = 0
  · rw [if_pos q]; exact Or.inl ⟨by decide, q⟩
  · rw [if_neg q]; exact Or.inr ⟨by decide, q⟩
theorem vC_i {k : Nat} : ((vC S k).toInt = 0 ∧ (S k).toInt = 2) ∨ ((vC S k).toInt = 1 ∧ ¬ (S k).toInt = 2) := by
  unfold vC
  by_cases q : (S k).toInt = 2
  · rw [if_pos q]; exact Or.inl ⟨by decide, q⟩
  · rw [if_neg q]; exact Or.inr ⟨by decide, q⟩
/-- what stands at place i = 84 p + j -/
theorem rw_J (hR : rw1 p N pf pe D F S qf qe qd du fi th co) {i j : Nat} (hi : i = 84 * p + j) (hj : j < 84) : (j < N ∧ (du i).toInt = (D j).toInt ∧ (fi i).toInt = (F j).toInt ∧ (((th i).toInt = 1 ∧ (S j).toInt = 0) ∨ ((th i).toInt = 0 ∧ ¬ (S j).toInt = 0)) ∧ (((co i).toInt = 0 ∧ (S j).toInt = 2) ∨ ((co i).toInt = 1 ∧ ¬ (S j).toInt = 2))) ∨ (N ≤ j ∧ (fi i).toInt = 0 ∧ (th i).toInt = 0 ∧ (co i).toInt = 0 ∧ ((j : Int) < (qd p).toInt → 119 < mo pf pe j)) := by
  subst hi
  by_cases q : j < N
  · obtain ⟨h1, h2, h3, h4⟩ := hR.2.1 j q
    refine Or.inl ⟨q, ?_, ?_, ?_, ?_⟩
    · rw [h1]
    · rw [h2]
    · rw [h3]; exact vT_i
    · rw [h4]; exact vC_i
  · obtain ⟨h1, h2, h3⟩ := hR.2.2.1 j (by omega) hj
    refine Or.inr ⟨by omega, ?_, ?_, ?_, fun h => hR.2.2.2 j (by omega) h⟩
    · rw [h1]; decide
    · rw [h2]; decide
    · rw [h3]; decide
theorem rw_K {x kk iy : Int32} (hR : rw1 x.toNatClampNeg N pf pe D F S qf qe qd du fi th co) (h0 : 0 ≤ x.toInt) (hk : 0 ≤ kk.toInt) (hk2 : kk.toInt < 84) (hi : iy.toInt = 84 * x.toInt + kk.toInt) : ((kk.toNatClampNeg < N ∧ (du iy.toNatClampNeg).toInt = (D kk.toNatClampNeg).toInt ∧ (fi iy.toNatClampNeg).toInt = (F kk.toNatClampNeg).toInt ∧ (((th iy.toNatClampNeg).toInt = 1 ∧ (S kk.toNatClampNeg).toInt = 0) ∨ ((th iy.toNatClampNeg).toInt = 0 ∧ ¬ (S kk.toNatClampNeg).toInt = 0)) ∧ (((co iy.toNatClampNeg).toInt = 0 ∧ (S kk.toNatClampNeg).toInt = 2) ∨ ((co iy.toNatClampNeg).toInt = 1 ∧ ¬ (S kk.toNatClampNeg).toInt = 2))) ∨ (N ≤ kk.toNatClampNeg ∧ (fi iy.toNatClampNeg).toInt = 0 ∧ (th iy.toNatClampNeg).toInt = 0 ∧ (co iy.toNatClampNeg).toInt = 0 ∧ (kk.toInt < (qd x.toNatClampNeg).toInt → 119 < mo pf pe kk.toNatClampNeg))) := by
  have a := nc_int h0
  have b := nc_int hk
  have c := nc_int (x := iy) (by omega)
  have := rw_J hR (i := iy.toNatClampNeg) (j := kk.toNatClampNeg) (by omega) (by omega)
  rw [b] at this
  exact this
theorem mo_le84 {k : Nat} (hf : 0 ≤ pf.toInt ∧ pf.toInt ≤ 119 ∧ 1 ≤ pe.toInt ∧ pe.toInt ≤ 12) (hk : k ≤ 84) : 0 ≤ mo pf pe k ∧ mo pf pe k ≤ 1127 := by
  have b := mul_bd (a := (k : Int)) (A := 84) (b := pe.toInt) (B := 12) (by omega) (by omega) (by omega) (by omega)
  unfold mo
  omega
end RW
/-- a stretch 84 p .. of q: a row written over up to k (b: and none behind it); the others as in f -/
def sgI (b : Bool) (q f : Nat → Int32) (p N : Nat) (c : Nat → Bool) (v w : Nat → Int32) (k : Nat) : Prop :=
  (∀ j, j < N → q (84 * p + j) = fU c v w 0 k j) ∧ (b = true → ∀ j, N ≤ j → j < 84 → q (84 * p + j) = 0) ∧ ∀ i, (i < 84 * p ∨ 84 * p + 84 ≤ i) → q i = f i
section SG
variable {b : Bool} {q f v w : Nat → Int32} {p N k : Nat} {c : Nat → Bool}
theorem sg_0 (h : ∀ j, j < N → f (84 * p + j) = w j) (hz : b = true → ∀ j, N ≤ j → j < 84 → f (84 * p + j) = 0) : sgI b f f p N c v w 0 := ⟨fun j hj => by rw [fU_0]; exact h j hj, hz, fun i _ => rfl⟩
theorem fU_k {j : Nat} (hj : ¬ j = k) : fU c v w 0 (k + 1) j = fU c v w 0 k j := by
  unfold fU
  by_cases r : (0 ≤ j ∧ j < k) ∧ c j = true
  · rw [if_pos r, if_pos ⟨by omega, r.2⟩]
  · rw [if_neg r, if_neg (fun z2 => r ⟨by omega, z2.2⟩)]
theorem sg_n (h : sgI b q f p N c v w k) (hn : k < N → c k = true → v k = w k) : sgI b q f p N c v w (k + 1) := by
  refine ⟨fun j hj => ?_, h.2⟩
  rw [h.1 j hj]
  by_cases z : j = k
  · rw [← fU_n (hn (by omega))]
  · rw [fU_k z]
theorem sg_y {x : Int32} {i : Nat} (h : sgI b q f p N c v w k) (hi : i = 84 * p + k) (hk : k < 84) (hy : k < N → c k = true ∧ x = v k) (hz : b = true → N ≤ k → x = 0) : sgI b (upd q i x) f p N c v w (k + 1) := by
  subst hi
  refine ⟨fun j hj => ?_, fun hb j a b9 => ?_, fun i hi => ?_⟩
  · by_cases z : j = k
    · subst z
      rw [pk_us, (hy hj).2]
      unfold fU
      rw [if_pos ⟨by omega, (hy hj).1⟩]
    · rw [pk_un (by omega), h.1 j hj, fU_k z]
  · by_cases z : j = k
    · subst z
      rw [pk_us, hz hb a]
    · rw [pk_un (by omega)]; exact h.2.1 hb j a b9
  · rw [pk_un (by omega)]; exact h.2.2 i hi
/-- by Int32 places: the step's place iy = 84 x + kk -/
theorem sg_N {x kk k2 : Int32} (h0 : 0 ≤ kk.toInt) (h : sgI b q f x.toNatClampNeg N c v w kk.toNatClampNeg) (hk : k2.toInt = kk.toInt + 1) (hn : kk.toNatClampNeg < N → c kk.toNatClampNeg = true → v kk.toNatClampNeg = w kk.toNatClampNeg) : sgI b q f x.toNatClampNeg N c v w k2.toNatClampNeg := by
  rw [nc_s h0 hk]; exact sg_n h hn
theorem sg_Y {x kk k2 iy z : Int32} (hx : 0 ≤ x.toInt) (h0 : 0 ≤ kk.toInt) (h : sgI b q f x.toNatClampNeg N c v w kk.toNatClampNeg) (hk : k2.toInt = kk.toInt + 1) (hk4 : kk.toInt < 84) (hi : iy.toInt = 84 * x.toInt + kk.toInt) (hy : kk.toNatClampNeg < N → c kk.toNatClampNeg = true ∧ z = v kk.toNatClampNeg) (hz : b = true → N ≤ kk.toNatClampNeg → z = 0) : sgI b (upd q iy.toNatClampNeg z) f x.toNatClampNeg N c v w k2.toNatClampNeg := by
  have a := nc_int hx
  have b9 := nc_int h0
  have d := nc_int (x := iy) (by omega)
  rw [nc_s h0 hk]
  exact sg_y h (by omega) (by omega) hy hz
theorem sg_at {j i : Nat} (h : sgI b q f p N c v w k) (hj : j < N) (hk : k ≤ j) (hi : i = 84 * p + j) : q i = w j := by
  rw [hi, h.1 j hj, fU_in (Nat.zero_le _) hk]
theorem sg_end (h : sgI b q f p N c v w k) (hk : N ≤ k) : sgI b q f p N c v w N := by
  refine ⟨fun j hj => ?_, h.2⟩
  rw [h.1 j hj]
  unfold fU
  by_cases r : c j = true
  · rw [if_pos ⟨by omega, r⟩, if_pos ⟨by omega, r⟩]
  · rw [if_neg (fun z => r z.2), if_neg (fun z => r z.2)]
end SG
theorem sm_J {t : Nat → Int} {nn y kk k2 : Int32} {p j : Nat} (h0 : 0 ≤ kk.toInt) (hj : kk.toNatClampNeg = 84 * p + j) (h : nn.toInt = sm t j) (hk : k2.toInt = kk.toInt + 1) (hy : y.toInt = nn.toInt + t j) : y.toInt = sm t (k2.toNatClampNeg - 84 * p) := by
  rw [nc_s h0 hk, show kk.toNatClampNeg + 1 - 84 * p = j + 1 by omega]
  show _ = sm t _ + t _
  omega
theorem sm_J0 {t : Nat → Int} {y x : Int32} (hx : 0 ≤ x.toInt) (hy : y.toInt = 84 * x.toInt) : (0 : Int32).toInt = sm t (y.toNatClampNeg - 84 * x.toNatClampNeg) := by
  have a := nc_int hx
  have b := nc_int (x := y) (by omega)
  rw [show y.toNatClampNeg - 84 * x.toNatClampNeg = 0 by omega]
  rfl
/-- not filled: what a lapse takes away, as the reference looks at it -/
def cND (D F : Nat → Int32) (k : Nat) : Bool := decide (¬ (F k).toInt = (D k).toInt)
def cNC (pf pe : Int32) (D F : Nat → Int32) (c : Int) (k : Nat) : Bool := decide (¬ (F k).toInt = (D k).toInt ∧ c < mo pf pe k)
def cTu (pf pe : Int32) (c : Int) (k : Nat) : Bool := decide (c < mo pf pe k)
def sgO (g f : Nat → Int32) (p : Nat) : Prop := ∀ i, (i < 84 * p ∨ 84 * p + 84 ≤ i) → g i = f i
section RW2
variable {p N : Nat} {pf pe : Int32} {D F S qf qe qd du fi th co gth gco gdu gfi : Nat → Int32} {cl : Int}
theorem fU_p {c : Nat → Bool} {v w : Nat → Int32} {k : Nat} (hk : k < N) (h : c k = true) : fU c v w 0 N k = v k := by
  unfold fU
  exact if_pos ⟨by omega, h⟩
theorem fU_q {c : Nat → Bool} {v w : Nat → Int32} {k : Nat} (h : ¬ c k = true) : fU c v w 0 N k = w k := by
  unfold fU
  exact if_neg (fun z => h z.2)
theorem vT_1 {k : Nat} {x : Int32} (h : S k = x) (hx : x.toInt = 0) : vT S k = 1 := by
  unfold vT
  rw [h]
  exact if_pos hx
theorem vT_0 {k : Nat} {x : Int32} (h : S k = x) (hx : ¬ x.toInt = 0) : vT S k = 0 := by
  unfold vT
  rw [h]
  exact if_neg hx
theorem vC_0 {k : Nat} {x : Int32} (h : S k = x) (hx : x.toInt = 2) : vC S k = 0 := by
  unfold vC
  rw [h]
  exact if_pos hx
theorem vC_1 {k : Nat} {x : Int32} (h : S k = x) (hx : ¬ x.toInt = 2) : vC S k = 1 := by
  unfold vC
  rw [h]
  exact if_neg hx
theorem la_1 {k : Nat} (hk : k < N) (h0 : (S k).toInt = 0) (h1 : (F k).toInt < (D k).toInt) (h2 : mo pf pe k ≤ cl) : fU (cLa D F S) (vLa pf pe cl) S 0 N k = 1 := by
  rw [fU_p hk (decide_eq_true ⟨h0, h1⟩)]
  exact if_pos h2
theorem la_2 {k : Nat} (hk : k < N) (h0 : (S k).toInt = 0) (h1 : (F k).toInt < (D k).toInt) (h2 : ¬ mo pf pe k ≤ cl) : fU (cLa D F S) (vLa pf pe cl) S 0 N k = 2 := by
  rw [fU_p hk (decide_eq_true ⟨h0, h1⟩)]
  exact if_neg h2
theorem la_n {k : Nat} (h : ¬ ((S k).toInt = 0 ∧ (F k).toInt < (D k).toInt)) : fU (cLa D F S) (vLa pf pe cl) S 0 N k = S k := fU_q (fun z => h (of_decide_eq_true z))
theorem tu_y {k : Nat} (hk : k < N) (h : cl < mo pf pe k ∧ (S k).toInt = 2) : fU (cTk pf pe S cl) (fun _ => 0) S 0 N k = 0 := fU_p hk (decide_eq_true h)
theorem tu_n {k : Nat} (h : ¬ (cl < mo pf pe k ∧ (S k).toInt = 2)) : fU (cTk pf pe S cl) (fun _ => 0) S 0 N k = S k := fU_q (fun z => h (of_decide_eq_true z))
theorem la_rw (hR : rw1 p N pf pe D F S qf qe qd du fi th co) (hW : wfP pf pe N D F S) (hL : ∀ k, k < N → (S k).toInt = 1 → mo pf pe k ≤ cl) (h1 : sgI true gth th p N (cND D F) (fun _ => 0) (vT S) N) (h2 : sgI true gco co p N (cNC pf pe D F cl) (fun _ => 0) (vC S) N) : rw1 p N pf pe D F (fU (cLa D F S) (vLa pf pe cl) S 0 N) qf qe qd du fi gth gco := by
  refine ⟨hR.1, fun j hj => ?_, fun j a b => ⟨(hR.2.2.1 j a b).1, h1.2.1 rfl j a b, h2.2.1 rfl j a b⟩, hR.2.2.2⟩
  obtain ⟨e1, e2, -, -⟩ := hR.2.1 j hj
  have hw := hW.2 j hj
  have hl := hL j hj
  refine ⟨e1, e2, ?_, ?_⟩
  · rw [h1.1 j hj]
    by_cases q : ¬ (F j).toInt = (D j).toInt
    · rw [fU_p hj (decide_eq_true q)]
      by_cases s0 : (S j).toInt = 0
      · by_cases m : mo pf pe j ≤ cl
        · exact (vT_0 (la_1 hj s0 (by omega) m) (by decide)).symm
        · exact (vT_0 (la_2 hj s0 (by omega) m) (by decide)).symm
      · exact (vT_0 (la_n (fun z => s0 z.1)) s0).symm
    · rw [fU_q (fun z => q (of_decide_eq_true z))]
      have e := la_n (N := N) (pf := pf) (pe := pe) (cl := cl) (S := S) (F := F) (D := D) (k := j) (by omega)
      by_cases s0 : (S j).toInt = 0
      · rw [vT_1 e s0, vT_1 rfl s0]
      · rw [vT_0 e s0, vT_0 rfl s0]
  · rw [h2.1 j hj]
    by_cases q : ¬ (F j).toInt = (D j).toInt
    · by_cases m : mo pf pe j ≤ cl
      · rw [fU_q (fun z => by have := (of_decide_eq_true z).2; omega)]
        by_cases s0 : (S j).toInt = 0
        · rw [vC_1 rfl (by omega), vC_1 (la_1 hj s0 (by omega) m) (by decide)]
        · have e := la_n (N := N) (pf := pf) (pe := pe) (cl := cl) (S := S) (F := F) (D := D) (k := j) (by omega)
          by_cases s2 : (S j).toInt = 2
          · rw [vC_0 e s2, vC_0 rfl s2]
          · rw [vC_1 e s2, vC_1 rfl s2]
      · rw [fU_p hj (decide_eq_true ⟨q, by omega⟩)]
        by_cases s0 : (S j).toInt = 0
        · exact (vC_0 (la_2 hj s0 (by omega) m) (by decide)).symm
        · exact (vC_0 (la_n (fun z => s0 z.1)) (by omega)).symm
    · rw [fU_q (fun z => q (of_decide_eq_true z).1)]
      have e := la_n (N := N) (pf := pf) (pe := pe) (cl := cl) (S := S) (F := F) (D := D) (k := j) (by omega)
      by_cases s2 : (S j).toInt = 2
      · rw [vC_0 e s2, vC_0 rfl s2]
      · rw [vC_1 e s2, vC_1 rfl s2]
theorem ch_rw {x : Int32} (hR : rw1 p N pf pe D F S qf qe qd du fi th co) (h1 : sgI false gdu du p N (cCh pf pe F cl) (fun _ => x) D N) : rw1 p N pf pe (fU (cCh pf pe F cl) (fun _ => x) D 0 N) F S qf qe qd gdu fi th co := by
  refine ⟨hR.1, fun j hj => ?_, hR.2.2⟩
  obtain ⟨-, e2, e3, e4⟩ := hR.2.1 j hj
  exact ⟨h1.1 j hj, e2, e3, e4⟩
theorem tu_rw (hR : rw1 p N pf pe D F S qf qe qd du fi th co) (hW : wfP pf pe N D F S) (hL : ∀ k, k < N → (S k).toInt = 1 → mo pf pe k ≤ cl) (h1 : sgI true gth th p N (cTu pf pe cl) (fun _ => 1) (vT S) N) (h2 : sgI true gco co p N (cTu pf pe cl) (fun _ => 1) (vC S) N) : rw1 p N pf pe D F (fU (cTk pf pe S cl) (fun _ => 0) S 0 N) qf qe qd du fi gth gco := by
  refine ⟨hR.1, fun j hj => ?_, fun j a b => ⟨(hR.2.2.1 j a b).1, h1.2.1 rfl j a b, h2.2.1 rfl j a b⟩, hR.2.2.2⟩
  obtain ⟨e1, e2, -, -⟩ := hR.2.1 j hj
  have hw := hW.2 j hj
  have hl := hL j hj
  refine ⟨e1, e2, ?_, ?_⟩
  · rw [h1.1 j hj]
    by_cases m : cl < mo pf pe j
    · rw [fU_p hj (decide_eq_true m)]
      by_cases s2 : (S j).toInt = 2
      · exact (vT_1 (tu_y hj ⟨m, s2⟩) (by decide)).symm
      · exact (vT_1 (tu_n (fun z => s2 z.2)) (by omega)).symm
    · rw [fU_q (fun z => m (of_decide_eq_true z))]
      have e := tu_n (N := N) (pf := pf) (pe := pe) (cl := cl) (S := S) (k := j) (fun z => m z.1)
      by_cases s0 : (S j).toInt = 0
      · rw [vT_1 e s0, vT_1 rfl s0]
      · rw [vT_0 e s0, vT_0 rfl s0]
  · rw [h2.1 j hj]
    by_cases m : cl < mo pf pe j
    · rw [fU_p hj (decide_eq_true m)]
      by_cases s2 : (S j).toInt = 2
      · exact (vC_1 (tu_y hj ⟨m, s2⟩) (by decide)).symm
      · exact (vC_1 (tu_n (fun z => s2 z.2)) s2).symm
    · rw [fU_q (fun z => m (of_decide_eq_true z))]
      have e := tu_n (N := N) (pf := pf) (pe := pe) (cl := cl) (S := S) (k := j) (fun z => m z.1)
      by_cases s2 : (S j).toInt = 2
      · rw [vC_0 e s2, vC_0 rfl s2]
      · rw [vC_1 e s2, vC_1 rfl s2]
theorem tu_wf (hW : wfP pf pe N D F S) : wfP pf pe N D F (fU (cTk pf pe S cl) (fun _ => 0) S 0 N) := by
  refine ⟨hW.1, fun k hk => ⟨(hW.2 k hk).1, ?_, (hW.2 k hk).2.2⟩⟩
  by_cases q : cl < mo pf pe k ∧ (S k).toInt = 2
  · rw [tu_y hk q]; decide
  · rw [tu_n q]; exact (hW.2 k hk).2.1
end RW2
-- ===== the books, pure: the table of pledges =====
/-- a pledge: its dues that come, giver, first, every, lapsed, taken up; owed, filled, standing -/
abbrev Pl9 := Nat × Int32 × Int32 × Int32 × Int32 × Int32 × (Nat → Int32) × (Nat → Int32) × (Nat → Int32)
def tbS {α : Type} (t : Nat → α) (j : Nat) (x : α) : Nat → α := fun i => if i = j then x else t i
theorem tbS_s {α : Type} {t : Nat → α} {j : Nat} {x : α} : tbS t j x j = x := if_pos rfl
theorem tbS_n {α : Type} {t : Nat → α} {j i : Nat} {x : α} (h : ¬ i = j) : tbS t j x i = t i := if_neg h
theorem tbS_own {α : Type} {t : Nat → α} {j : Nat} {x : α} (h : t j = x) : tbS t j x = t := by
  funext i
  by_cases q : i = j
  · rw [q, tbS_s, h]
  · rw [tbS_n q]
def okE (ci : ClassId) (T : Pl9) (r : Option Nat) (b : va_W) : Prop := ∃ (h o0 o1 o2 N0 : Nat) (pg pf pe pz pp pa pl pk pb : Int32) (w0 w1 w2 : Nat → Int32), r = some h ∧ (N0 : Int) = pz.toInt ∧ N0 ≤ 84 ∧ (pl = 0 ∨ pl = 1) ∧ b = [(h, .inr (1, [.int pg, .int pf, .int pe, .int pz, .ref o0, .ref o1, .ref o2, .int pp, .int pa, .int pl, .int pk, .int pb])), (o0, .inl (ci, N0, .inl w0)), (o1, .inl (ci, N0, .inl w1)), (o2, .inl (ci, N0, .inl w2))] ∧ T = (N0, pg, pf, pe, pl, pk, w0, w1, w2)
theorem okE_set {ci : ClassId} {n j : Nat} {t : Nat → Pl9} {T : Pl9} {fa : Nat → Option Nat} {B : Nat → va_W} {b : va_W} (h : ∀ i, i < n → okE ci (t i) (fa i) (B i)) (hb : okE ci T (fa j) b) : ∀ i, i < n → okE ci (tbS t j T i) (fa i) (setB B j b i) := by
  intro i hi
  by_cases q : i = j
  · rw [q, tbS_s, setB_s]; exact hb
  · rw [tbS_n q, setB_n q]; exact h i hi
def wfT (cl : Int) : Pl9 → Prop
  | (N, pg, pf, pe, pl, pk, D, F, S) => (N ≤ 84 ∧ (0 ≤ pg.toInt ∧ pg.toInt ≤ 29) ∧ (pl = 0 ∨ pl = 1) ∧ (pk = 0 ∨ pk = 1)) ∧ wfP pf pe N D F S ∧ (∀ k, k < N → (S k).toInt = 1 → mo pf pe k ≤ cl) ∧ (pl = 1 → ∀ k, k < N → (S k).toInt = 0 → (F k).toInt = (D k).toInt)
def chT (x : Int32) (cl : Int) : Pl9 → Pl9
  | (N, pg, pf, pe, pl, pk, D, F, S) => (N, pg, pf, pe, pl, pk, fU (cCh pf pe F cl) (fun _ => x) D 0 N, F, S)
def fiT (x : Int) : Pl9 → Pl9
  | (N, pg, pf, pe, pl, pk, D, F, S) => (N, pg, pf, pe, pl, pk, D, fU (cS0 S) (vF x D F S) F 0 N, S)
def laT (cl : Int) : Pl9 → Pl9
  | (N, pg, pf, pe, _, pk, D, F, S) => (N, pg, pf, pe, 1, pk, D, F, fU (cLa D F S) (vLa pf pe cl) S 0 N)
def tuT (cl : Int) : Pl9 → Pl9
  | (N, pg, pf, pe, _, _, D, F, S) => (N, pg, pf, pe, 0, 1, D, F, fU (cTk pf pe S cl) (fun _ => 0) S 0 N)
def ovT (cl : Int) : Pl9 → Int
  | (N, _, pf, pe, _, _, D, F, S) => sm (tV pf pe D F S cl) N
def unT : Pl9 → Int
  | (N, _, _, _, _, _, D, F, S) => sm (tO D F S) N
def lsT (cl y : Int) (T : Pl9) : Pl9 := if y ≤ ovT cl T then laT cl T else T
/-- the table behind a month's lapses up to pledge n -/
def lapT (cl y : Int) (n : Nat) (t : Nat → Pl9) : Nat → Pl9 := fun i => if i < n then lsT cl y (t i) else t i
theorem lapT_0 {cl y : Int} {t : Nat → Pl9} : lapT cl y 0 t = t := by
  funext i
  exact if_neg (by omega)
theorem lapT_at {cl y : Int} {n : Nat} {t : Nat → Pl9} : lapT cl y n t n = t n := if_neg (by omega)
theorem lapT_up {cl y : Int} {n : Nat} {t : Nat → Pl9} {T : Pl9} (h : T = lsT cl y (t n)) : tbS (lapT cl y n t) n T = lapT cl y (n + 1) t := by
  funext i
  unfold lapT
  by_cases q : i = n
  · rw [q, tbS_s, if_pos (by omega), h]
  · rw [tbS_n q]
    by_cases z : i < n
    · rw [if_pos z, if_pos (by omega)]
    · rw [if_neg z, if_neg (by omega)]
section WF
variable {N : Nat} {pg pf pe pl pk : Int32} {D F S : Nat → Int32} {cl : Int}
theorem wf_cl {c2 : Int} {T : Pl9} (h : wfT cl T) (hc : cl ≤ c2) : wfT c2 T := by
  obtain ⟨N, pg, pf, pe, pl, pk, D, F, S⟩ := T
  exact ⟨h.1, h.2.1, fun k hk hs => Int.le_trans (h.2.2.1 k hk hs) hc, h.2.2.2⟩
theorem wf_ch {x : Int32} {T : Pl9} (h : wfT cl T) (hx : 1 ≤ x.toInt ∧ x.toInt ≤ 100000) (hl : T.2.2.2.2.1 = 0) : wfT cl (chT x cl T) := by
  obtain ⟨N, pg, pf, pe, pl, pk, D, F, S⟩ := T
  have hl0 : pl = 0 := hl
  refine ⟨h.1, ⟨h.2.1.1, fun k hk => ⟨?_, (h.2.1.2 k hk).2⟩⟩, h.2.2.1, fun e => absurd (hl0.symm.trans e) (by decide)⟩
  have hq := (h.2.1.2 k hk).1
  show 0 ≤ (F k).toInt ∧ (F k).toInt ≤ (fU (cCh pf pe F cl) (fun _ => x) D 0 N k).toInt ∧ 1 ≤ (fU (cCh pf pe F cl) (fun _ => x) D 0 N k).toInt ∧ (fU (cCh pf pe F cl) (fun _ => x) D 0 N k).toInt ≤ 100000
  unfold fU
  by_cases r : (0 ≤ k ∧ k < N) ∧ cCh pf pe F cl k = true
  · have r2 := (of_decide_eq_true r.2).2
    rw [if_pos r]
    show 0 ≤ (F k).toInt ∧ (F k).toInt ≤ x.toInt ∧ 1 ≤ x.toInt ∧ x.toInt ≤ 100000
    omega
  · rw [if_neg r]
    exact hq
theorem vF_bd {x : Int} {k : Nat} (hW : wfP pf pe N D F S) (hk : k < N) (hs : (S k).toInt = 0) : (F k).toInt ≤ (vF x D F S k).toInt ∧ (vF x D F S k).toInt ≤ (D k).toInt := by
  have hq := (hW.2 k hk).1
  have ht := tO_1 (D := D) (F := F) hs
  have hl := lft_ge x (tO D F S) k
  unfold vF
  by_cases z : lft x (tO D F S) k ≤ tO D F S k
  · rw [if_pos z, Int32.toInt_ofInt_of_le (by omega) (by omega)]
    omega
  · rw [if_neg z, Int32.toInt_ofInt_of_le (by omega) (by omega)]
    omega
theorem wf_fi {x : Int} {T : Pl9} (h : wfT cl T) (hl : T.2.2.2.2.1 = 0) : wfT cl (fiT x T) := by
  obtain ⟨N, pg, pf, pe, pl, pk, D, F, S⟩ := T
  have hl0 : pl = 0 := hl
  refine ⟨h.1, ⟨h.2.1.1, fun k hk => ⟨?_, (h.2.1.2 k hk).2⟩⟩, h.2.2.1, fun e => absurd (hl0.symm.trans e) (by decide)⟩
  have hq := (h.2.1.2 k hk).1
  show 0 ≤ (fU (cS0 S) (vF x D F S) F 0 N k).toInt ∧ (fU (cS0 S) (vF x D F S) F 0 N k).toInt ≤ (D k).toInt ∧ 1 ≤ (D k).toInt ∧ (D k).toInt ≤ 100000
  unfold fU
  by_cases r : (0 ≤ k ∧ k < N) ∧ cS0 S k = true
  · have r2 := vF_bd (x := x) h.2.1 hk (of_decide_eq_true r.2)
    rw [if_pos r]
    omega
  · rw [if_neg r]
    exact hq
theorem wf_la {T : Pl9} (h : wfT cl T) : wfT cl (laT cl T) := by
  obtain ⟨N, pg, pf, pe, pl, pk, D, F, S⟩ := T
  have la : ∀ k, k < N → ((S k).toInt = 0 ∧ (F k).toInt < (D k).toInt ∧ ((mo pf pe k ≤ cl ∧ (fU (cLa D F S) (vLa pf pe cl) S 0 N k).toInt = 1) ∨ (¬ mo pf pe k ≤ cl ∧ (fU (cLa D F S) (vLa pf pe cl) S 0 N k).toInt = 2))) ∨ (¬ ((S k).toInt = 0 ∧ (F k).toInt < (D k).toInt) ∧ (fU (cLa D F S) (vLa pf pe cl) S 0 N k).toInt = (S k).toInt) := by
    intro k hk
    by_cases z : (S k).toInt = 0 ∧ (F k).toInt < (D k).toInt
    · by_cases m : mo pf pe k ≤ cl
      · exact Or.inl ⟨z.1, z.2, Or.inl ⟨m, by rw [la_1 hk z.1 z.2 m]; decide⟩⟩
      · exact Or.inl ⟨z.1, z.2, Or.inr ⟨m, by rw [la_2 hk z.1 z.2 m]; decide⟩⟩
    · exact Or.inr ⟨z, by rw [la_n z]⟩
  refine ⟨⟨h.1.1, h.1.2.1, Or.inr rfl, h.1.2.2.2⟩, ⟨h.2.1.1, fun k hk => ⟨(h.2.1.2 k hk).1, ?_, (h.2.1.2 k hk).2.2⟩⟩, fun k hk hs => ?_, fun _ k hk hs => ?_⟩
  · have hq := (h.2.1.2 k hk).2.1
    have := la k hk
    omega
  · have hq := h.2.2.1 k hk
    have := la k hk
    omega
  · have hq := (h.2.1.2 k hk).1
    have := la k hk
    omega
theorem wf_ls {y : Int} {T : Pl9} (h : wfT cl T) : wfT cl (lsT cl y T) := by
  unfold lsT
  by_cases q : y ≤ ovT cl T
  · rw [if_pos q]; exact wf_la h
  · rw [if_neg q]; exact h
theorem wf_tu {T : Pl9} (h : wfT cl T) : wfT cl (tuT cl T) := by
  obtain ⟨N, pg, pf, pe, pl, pk, D, F, S⟩ := T
  refine ⟨⟨h.1.1, h.1.2.1, Or.inl rfl, Or.inr rfl⟩, tu_wf h.2.1, fun k hk hs => ?_, fun e => absurd e (by decide)⟩
  by_cases z : cl < mo pf pe k ∧ (S k).toInt = 2
  · rw [tu_y hk z] at hs; exact absurd hs (by decide)
  · rw [tu_n z] at hs; exact h.2.2.1 k hk hs
/-- a lapsed pledge has no due that is overdue -/
theorem ov_la {T : Pl9} (h : wfT cl T) (hl : T.2.2.2.2.1 = 1) : ovT cl T = 0 := by
  obtain ⟨N, pg, pf, pe, pl, pk, D, F, S⟩ := T
  have hl1 : pl = 1 := hl
  show sm (tV pf pe D F S cl) N = 0
  refine (sm_x (n := 0) (Nat.zero_le _) (fun k _ hk => ?_)).trans rfl
  have hq := h.2.2.2 hl1 k hk
  unfold tV
  by_cases z : (S k).toInt = 0 ∧ mo pf pe k ≤ cl ∧ (F k).toInt < (D k).toInt
  · have := hq z.1; omega
  · rw [if_neg z]
end WF
theorem wf_of {c : Int} {T T' : Pl9} (h : wfT c T) (e : T = T') : wfT c T' := e ▸ h
theorem ls_y {cl y : Int} {T T0 T9 : Pl9} (e : T = T0) (h : y ≤ ovT cl T0) (h9 : T9 = laT cl T0) : T9 = lsT cl y T := by
  rw [e, h9]
  exact (if_pos h).symm
theorem ls_n {cl y : Int} {T T0 : Pl9} (e : T = T0) (h : ¬ y ≤ ovT cl T0) : lsT cl y T = T := by
  rw [e]
  exact if_neg h
theorem lapT_keep {cl y : Int} {n : Nat} {t : Nat → Pl9} (h : lsT cl y (t n) = t n) : lapT cl y (n + 1) t = lapT cl y n t := by
  rw [← lapT_up (T := t n) h.symm, tbS_own lapT_at]
def wiT (a b : Int) : Pl9 → Int
  | (N, _, pf, pe, _, _, D, F, S) => sm (tW pf pe D F S a b) N
def duT (c : Int) : Pl9 → Int
  | (N, _, pf, pe, _, _, D, _, S) => sm (tU pf pe D S c) N
def flT (c : Int) : Pl9 → Int
  | (N, _, pf, pe, _, _, _, F, S) => sm (tU pf pe F S c) N
def lnT : Pl9 → Int
  | (_, _, _, _, pl, _, _, _, _) => pl.toInt
theorem wi_bd {c a b : Int} {T : Pl9} (h : wfT c T) : 0 ≤ wiT a b T ∧ wiT a b T ≤ 8400000 := by
  obtain ⟨N, pg, pf, pe, pl, pk, D, F, S⟩ := T
  have hN : N ≤ 84 := h.1.1
  have := sm_bd (f := tW pf pe D F S a b) (c := 100000) (n := N) (fun k hk => by have hq := (h.2.1.2 k hk).1; unfold tW; split <;> omega)
  show 0 ≤ sm _ _ ∧ sm _ _ ≤ 8400000
  omega
theorem du_bd {c a : Int} {T : Pl9} (h : wfT c T) : 0 ≤ duT a T ∧ duT a T ≤ 8400000 := by
  obtain ⟨N, pg, pf, pe, pl, pk, D, F, S⟩ := T
  have hN : N ≤ 84 := h.1.1
  have := sm_bd (f := tU pf pe D S a) (c := 100000) (n := N) (fun k hk => by have hq := (h.2.1.2 k hk).1; unfold tU; split <;> omega)
  show 0 ≤ sm _ _ ∧ sm _ _ ≤ 8400000
  omega
theorem fl_bd {c a : Int} {T : Pl9} (h : wfT c T) : 0 ≤ flT a T ∧ flT a T ≤ 8400000 := by
  obtain ⟨N, pg, pf, pe, pl, pk, D, F, S⟩ := T
  have hN : N ≤ 84 := h.1.1
  have := sm_bd (f := tU pf pe F S a) (c := 100000) (n := N) (fun k hk => by have hq := (h.2.1.2 k hk).1; unfold tU; split <;> omega)
  show 0 ≤ sm _ _ ∧ sm _ _ ≤ 8400000
  omega
-- ----- the reference's rows against the table
def mR1 (i : Nat) : Pl9 → (Nat → Int32) → (Nat → Int32) → (Nat → Int32) → (Nat → Int32) → (Nat → Int32) → (Nat → Int32) → (Nat → Int32) → (Nat → Int32) → (Nat → Int32) → (Nat → Int32) → Prop
  | (N, pg, pf, pe, pl, pk, D, F, S), qg, ql, qk, qf, qe, qd, du, fi, th, co => (qg i = pg ∧ ql i = pl ∧ qk i = pk) ∧ rw1 i N pf pe D F S qf qe qd du fi th co
def mR (n : Int32) (t : Nat → Pl9) (qg ql qk qf qe qd du fi th co : Nat → Int32) : Prop := (∀ i : Nat, (i : Int) < n.toInt → mR1 i (t i) qg ql qk qf qe qd du fi th co) ∧ (∀ i : Nat, n.toInt ≤ (i : Int) → ql i = 0 ∧ qk i = 0) ∧ ∀ i : Nat, 84 * n.toInt ≤ (i : Int) → fi i = 0 ∧ th i = 0 ∧ co i = 0
def wfA (n : Int32) (cl : Int) (t : Nat → Pl9) : Prop := ∀ i : Nat, (i : Int) < n.toInt → wfT cl (t i)
section MR
variable {n : Int32} {t : Nat → Pl9} {qg ql qk qf qe qd du fi th co gl gk gdu gfi gth gco : Nat → Int32} {cl : Int} {j : Nat} {T : Pl9}
theorem rw1_o {p N : Nat} {pf pe : Int32} {D F S : Nat → Int32} (h : rw1 p N pf pe D F S qf qe qd du fi th co) (hN : N ≤ 84) (hp : ¬ p = j) (o1 : sgO gdu du j) (o2 : sgO gfi fi j) (o3 : sgO gth th j) (o4 : sgO gco co j) : rw1 p N pf pe D F S qf qe qd gdu gfi gth gco := by
  have ho : ∀ k, k < 84 → (84 * p + k < 84 * j ∨ 84 * j + 84 ≤ 84 * p + k) := fun k hk => by omega
  refine ⟨h.1, fun k hk => ?_, fun k a b => ?_, h.2.2.2⟩
  · have := ho k (by omega)
    rw [o1 _ this, o2 _ this, o3 _ this, o4 _ this]
    exact h.2.1 k hk
  · have := ho k b
    rw [o2 _ this, o3 _ this, o4 _ this]
    exact h.2.2.1 k a b
theorem mR_set (h : mR n t qg ql qk qf qe qd du fi th co) (hw : wfA n cl t) (hj : (j : Int) < n.toInt) (hT : mR1 j T qg gl gk qf qe qd gdu gfi gth gco) (o1 : sgO gdu du j) (o2 : sgO gfi fi j) (o3 : sgO gth th j) (o4 : sgO gco co j) (ol : ∀ i, ¬ i = j → gl i = ql i) (ok : ∀ i, ¬ i = j → gk i = qk i) : mR n (tbS t j T) qg gl gk qf qe qd gdu gfi gth gco := by
  refine ⟨fun i hi => ?_, fun i hi => ?_, fun i hi => ?_⟩
  · by_cases q : i = j
    · rw [q, tbS_s]; exact hT
    · rw [tbS_n q]
      have a := h.1 i hi
      have b := hw i hi
      generalize t i = T9 at a b ⊢
      obtain ⟨N, pg, pf, pe, pl, pk, D, F, S⟩ := T9
      refine ⟨⟨a.1.1, ?_, ?_⟩, rw1_o a.2 b.1.1 q o1 o2 o3 o4⟩
      · rw [ol i q]; exact a.1.2.1
      · rw [ok i q]; exact a.1.2.2
  · rw [ol i (by omega), ok i (by omega)]
    exact h.2.1 i hi
  · have q : i < 84 * j ∨ 84 * j + 84 ≤ i := Or.inr (by omega)
    rw [o2 i q, o3 i q, o4 i q]
    exact h.2.2 i hi
theorem wfA_set (hw : wfA n cl t) (hT : wfT cl T) : wfA n cl (tbS t j T) := by
  intro i hi
  by_cases q : i = j
  · rw [q, tbS_s]; exact hT
  · rw [tbS_n q]; exact hw i hi
theorem sgO_r {f : Nat → Int32} : sgO f f j := fun _ _ => rfl
theorem upd_o {f : Nat → Int32} {x : Int32} : ∀ i, ¬ i = j → upd f j x i = f i := fun _ h => pk_un h
end MR
/-- dues to come -/
def tcT (cl : Int) : Pl9 → Int
  | (N, _, pf, pe, _, _, _, _, S) => sm (tC pf pe S cl) N
-- ===== the books, pure: coin =====
theorem cl_mul {x y z : Int64} {u v : Int} (hx : x.toInt = u) (hy : y.toInt = v) (h : z = x * y) : z.toInt = (u * v + 9223372036854775808) % 18446744073709551616 - 9223372036854775808 := by rw [h, Int64.toInt_mul, hx, hy]; exact cl_bm _
theorem cl_div {x y z : Int64} {u v : Int} (hx : x.toInt = u) (hy : y.toInt = v) (h : z = x / y) (h0 : 0 ≤ u) (h1 : 0 < v) : z.toInt = u / v := by
  have hr := Int64.toInt_lt x
  have hb := Int.ediv_le_self v h0
  have hn := Int.ediv_nonneg h0 (Int.le_of_lt h1)
  rw [h, Int64.toInt_div, hx, hy, Int.tdiv_eq_ediv_of_nonneg h0, cl_bm]
  omega
theorem ci_div {x y z : Int32} {u v : Int} (hx : x.toInt = u) (hy : y.toInt = v) (h : z = x / y) (h0 : 0 ≤ u) (h1 : 0 < v) : z.toInt = u / v := by
  have hr := Int32.toInt_lt x
  have hb := Int.ediv_le_self v h0
  have hn := Int.ediv_nonneg h0 (Int.le_of_lt h1)
  rw [h, Int32.toInt_div, hx, hy, Int.tdiv_eq_ediv_of_nonneg h0, ci_bm]
  omega
theorem l2i_i {x : Int64} (h : -2147483648 ≤ x.toInt ∧ x.toInt < 2147483648) : x.toInt32.toInt = x.toInt := by
  rw [Int64.toInt_toInt32, ci_bm]
  omega
/-- a product with both within bounds, as a long -/
theorem cl_mulb {x y z : Int64} {u v A B : Int} (hx : x.toInt = u) (hy : y.toInt = v) (h : z = x * y) (hu : 0 ≤ u) (hA : u ≤ A) (hv : 0 ≤ v) (hB : v ≤ B) (hAB : A * B ≤ 9000000000000000000) : z.toInt = u * v ∧ 0 ≤ u * v ∧ u * v ≤ A * B := by
  have b := mul_bd hu hA hv hB
  have m := cl_mul hx hy h
  refine ⟨?_, b⟩
  rw [m]
  omega
/-- the rules' bounds -/
def rbd (f : Nat → Int32) : Prop := (0 ≤ (f (0 : Int32).toNatClampNeg).toInt ∧ (f (0 : Int32).toNatClampNeg).toInt ≤ 100) ∧ (0 ≤ (f (1 : Int32).toNatClampNeg).toInt ∧ (f (1 : Int32).toNatClampNeg).toInt ≤ 999999) ∧ (0 ≤ (f (2 : Int32).toNatClampNeg).toInt ∧ (f (2 : Int32).toNatClampNeg).toInt ≤ 119) ∧ (0 ≤ (f (3 : Int32).toNatClampNeg).toInt ∧ (f (3 : Int32).toNatClampNeg).toInt ≤ 50) ∧ (1 ≤ (f (4 : Int32).toNatClampNeg).toInt ∧ (f (4 : Int32).toNatClampNeg).toInt ≤ 12) ∧ (0 ≤ (f (5 : Int32).toNatClampNeg).toInt ∧ (f (5 : Int32).toNatClampNeg).toInt ≤ 999999) ∧ (0 ≤ (f (6 : Int32).toNatClampNeg).toInt ∧ (f (6 : Int32).toNatClampNeg).toInt ≤ 10) ∧ (1 ≤ (f (7 : Int32).toNatClampNeg).toInt ∧ (f (7 : Int32).toNatClampNeg).toInt ≤ 999999)
/-- what is matched of x pence in month c, where m was -/
def mtV (f : Nat → Int32) (m c x : Int) : Int :=
  if c ≤ (f (2 : Int32).toNatClampNeg).toInt then (if 100 * (f (1 : Int32).toNatClampNeg).toInt ≤ m then 0 else if (f (0 : Int32).toNatClampNeg).toInt * x / 100 ≤ 100 * (f (1 : Int32).toNatClampNeg).toInt - m then (f (0 : Int32).toNatClampNeg).toInt * x / 100 else 100 * (f (1 : Int32).toNatClampNeg).toInt - m) else 0
theorem mt_of {f : Nat → Int32} {m c x w z : Int} (h0 : c ≤ (f (2 : Int32).toNatClampNeg).toInt) (hw : w = (f (0 : Int32).toNatClampNeg).toInt * x / 100) (hz : (100 * (f (1 : Int32).toNatClampNeg).toInt ≤ m ∧ z = 0) ∨ (¬ 100 * (f (1 : Int32).toNatClampNeg).toInt ≤ m ∧ ((w ≤ 100 * (f (1 : Int32).toNatClampNeg).toInt - m ∧ z = w) ∨ (¬ w ≤ 100 * (f (1 : Int32).toNatClampNeg).toInt - m ∧ z = 100 * (f (1 : Int32).toNatClampNeg).toInt - m)))) : z = mtV f m c x := by
  unfold mtV
  rw [if_pos h0, ← hw]
  rcases hz with ⟨a, b⟩ | ⟨a, ⟨b, e⟩ | ⟨b, e⟩⟩
  · rw [if_pos a, b]
  · rw [if_neg a, if_pos b, e]
  · rw [if_neg a, if_neg b, e]
theorem mt_no {f : Nat → Int32} {m c x z : Int} (h0 : ¬ c ≤ (f (2 : Int32).toNatClampNeg).toInt) (hz : z = 0) : z = mtV f m c x := by
  unfold mtV
  rw [if_neg h0, hz]
-- ===== the books, pure: sums that came =====
/-- what giver g gave, of sum k -/
def tG (u0 u1 : Nat → Int32) (g : Int) (k : Nat) : Int := if (u0 k).toInt = g then (u1 k).toInt else 0
def tA (u1 : Nat → Int32) (k : Nat) : Int := (u1 k).toInt
theorem sm_s (f : Nat → Int) (n : Nat) : sm f (n + 1) = sm f n + f n := rfl
theorem sm_0 (f : Nat → Int) : sm f 0 = 0 := rfl
theorem tG_1 {u0 u1 : Nat → Int32} {g : Int} {k : Nat} (h : (u0 k).toInt = g) : tG u0 u1 g k = (u1 k).toInt := if_pos h
theorem tG_0 {u0 u1 : Nat → Int32} {g : Int} {k : Nat} (h : ¬ (u0 k).toInt = g) : tG u0 u1 g k = 0 := if_neg h
section SUMS
variable {n : Int32} {u0 u1 : Nat → Int32}
theorem sp_bd (h : mSp n u1) {k : Nat} (hk : (k : Int) < n.toInt) : 0 ≤ tA u1 k ∧ tA u1 k ≤ 5000000 := by
  have := h.2 k hk
  unfold tA
  omega
theorem tG_bd (h : mSp n u1) {g : Int} {k : Nat} (hk : (k : Int) < n.toInt) : 0 ≤ tG u0 u1 g k ∧ tG u0 u1 g k ≤ 5000000 := by
  have := h.2 k hk
  unfold tG
  split <;> omega
theorem sA_bd (h : mSp n u1) {k : Nat} (hk : (k : Int) ≤ n.toInt) : 0 ≤ sm (tA u1) k ∧ sm (tA u1) k ≤ k * 5000000 := sm_bd (fun j hj => sp_bd h (by omega))
theorem sG_bd (h : mSp n u1) {g : Int} {k : Nat} (hk : (k : Int) ≤ n.toInt) : 0 ≤ sm (tG u0 u1 g) k ∧ sm (tG u0 u1 g) k ≤ k * 5000000 := sm_bd (fun j hj => tG_bd h (by omega))
/-- a sum more at the end: the sums before it are the same -/
theorem sm_up1 {t t' : Nat → Int} {k : Nat} (h : ∀ j, j < k → t' j = t j) : sm t' (k + 1) = sm t k + t' k := by
  rw [sm_s, sm_c h]
end SUMS
theorem tA_u {u1 : Nat → Int32} {x : Int32} {k : Nat} : sm (tA (upd u1 k x)) (k + 1) = sm (tA u1) k + x.toInt := by
  rw [sm_up1 (t := tA u1) (fun j hj => by unfold tA; rw [pk_un (by omega)])]
  unfold tA
  rw [pk_us]
theorem tG_u {u0 u1 : Nat → Int32} {x y : Int32} {g : Int} {k : Nat} : sm (tG (upd u0 k x) (upd u1 k y) g) (k + 1) = sm (tG u0 u1 g) k + (if x.toInt = g then y.toInt else 0) := by
  rw [sm_up1 (t := tG u0 u1 g) (fun j hj => by unfold tG; rw [pk_un (by omega), pk_un (by omega)])]
  unfold tG
  rw [pk_us, pk_us]
/-- the reference's row of what each gave -/
def mGv (n : Int32) (u0 u1 gv : Nat → Int32) : Prop := ∀ g : Nat, g < 30 → (gv g).toInt = sm (tG u0 u1 g) n.toNatClampNeg
theorem mGv_up {n n2 x y z : Int32} {u0 u1 gv : Nat → Int32} (h : mGv n u0 u1 gv) (hn : 0 ≤ n.toInt) (h2 : n2.toInt = n.toInt + 1) (hx : 0 ≤ x.toInt ∧ x.toInt ≤ 29) (hz : z.toInt = (gv x.toNatClampNeg).toInt + y.toInt) : mGv n2 (upd u0 n.toNatClampNeg x) (upd u1 n.toNatClampNeg y) (upd gv x.toNatClampNeg z) := by
  intro g hg
  have hx1 := nc_int hx.1
  rw [nc_s hn h2, tG_u]
  by_cases q : g = x.toNatClampNeg
  · rw [q, pk_us, hz, h _ (by omega), if_pos (by omega)]
  · rw [pk_un q, h g hg, if_neg (by omega)]
    omega
-- ----- tax
/-- sum k is claimed now -/
def cTx (u0 u2 u3 g0 g1 : Nat → Int32) (k : Nat) : Bool := decide ((u3 k).toInt = 0 ∧ ¬ (g0 (u0 k).toNatClampNeg).toInt = -1 ∧ (g0 (u0 k).toNatClampNeg).toInt ≤ (u2 k).toInt ∧ (u2 k).toInt ≤ (g1 (u0 k).toNatClampNeg).toInt)
def tTx (x : Int) (u0 u1 u2 u3 g0 g1 : Nat → Int32) (k : Nat) : Int := if cTx u0 u2 u3 g0 g1 k = true then x * (u1 k).toInt / 100 else 0
theorem tTx_1 {x : Int} {u0 u1 u2 u3 g0 g1 : Nat → Int32} {k : Nat} (h : ((u3 k).toInt = 0 ∧ ¬ (g0 (u0 k).toNatClampNeg).toInt = -1 ∧ (g0 (u0 k).toNatClampNeg).toInt ≤ (u2 k).toInt ∧ (u2 k).toInt ≤ (g1 (u0 k).toNatClampNeg).toInt)) : tTx x u0 u1 u2 u3 g0 g1 k = x * (u1 k).toInt / 100 := if_pos (decide_eq_true h)
theorem tTx_0 {x : Int} {u0 u1 u2 u3 g0 g1 : Nat → Int32} {k : Nat} (h : ¬ ((u3 k).toInt = 0 ∧ ¬ (g0 (u0 k).toNatClampNeg).toInt = -1 ∧ (g0 (u0 k).toNatClampNeg).toInt ≤ (u2 k).toInt ∧ (u2 k).toInt ≤ (g1 (u0 k).toNatClampNeg).toInt)) : tTx x u0 u1 u2 u3 g0 g1 k = 0 := if_neg (fun z => h (of_decide_eq_true z))
/-- what comes as tax, and the row of those claimed -/
def txV (x : Int) (n : Nat) (u0 u1 u2 u3 g0 g1 : Nat → Int32) : Int := if x = 0 then 0 else sm (tTx x u0 u1 u2 u3 g0 g1) n
def txR (x : Int) (n : Nat) (u0 u2 u3 g0 g1 : Nat → Int32) : Nat → Int32 := if x = 0 then u3 else fU (cTx u0 u2 u3 g0 g1) (fun _ => 1) u3 0 n
theorem tx_bd1 {x y : Int} (hx : 0 ≤ x ∧ x ≤ 50) (hy : 1 ≤ y ∧ y ≤ 5000000) : 0 ≤ x * y / 100 ∧ 2 * (x * y / 100) ≤ y := by
  have a := mul_bd (a := x) (A := 50) (b := y) (B := y) hx.1 hx.2 (by omega) (Int.le_refl _)
  omega
/-- what was claimed -/
def tK (u1 u3 : Nat → Int32) (k : Nat) : Int := if (u3 k).toInt = 0 then 0 else (u1 k).toInt
theorem tTx_bd {n : Int32} {u0 u1 u2 u3 g0 g1 : Nat → Int32} {x : Int} (hx : 0 ≤ x ∧ x ≤ 50) (h : mSp n u1) {k : Nat} (hk : (k : Int) < n.toInt) : 0 ≤ tTx x u0 u1 u2 u3 g0 g1 k ∧ tTx x u0 u1 u2 u3 g0 g1 k ≤ 2500000 := by
  have a := h.2 k hk
  have b := tx_bd1 hx a
  unfold tTx
  split <;> omega
theorem tK_tx {n : Int32} {u0 u1 u2 u3 g0 g1 : Nat → Int32} {x : Int} (hx : 0 ≤ x ∧ x ≤ 50) (h : mSp n u1) : ∀ {k m : Nat}, k ≤ m → (m : Int) ≤ n.toInt → sm (tK u1 u3) k + 2 * sm (tTx x u0 u1 u2 u3 g0 g1) k ≤ sm (tK u1 (fU (cTx u0 u2 u3 g0 g1) (fun _ => 1) u3 0 m)) k
  | 0, _, _, _ => by rw [sm_0, sm_0, sm_0]; omega
  | k + 1, m, hk, hm => by
    have ih := tK_tx (u0 := u0) (u2 := u2) (u3 := u3) (g0 := g0) (g1 := g1) hx h (k := k) (m := m) (by omega) hm
    have a := h.2 k (by omega)
    have b := tx_bd1 hx a
    rw [sm_s, sm_s, sm_s]
    have st : tK u1 u3 k + 2 * tTx x u0 u1 u2 u3 g0 g1 k ≤ tK u1 (fU (cTx u0 u2 u3 g0 g1) (fun _ => 1) u3 0 m) k := by
      unfold tK tTx
      by_cases q : cTx u0 u2 u3 g0 g1 k = true
      · have q0 := (of_decide_eq_true q).1
        have e : (fU (cTx u0 u2 u3 g0 g1) (fun _ => 1) u3 0 m k).toInt = 1 := by
          unfold fU
          rw [if_pos ⟨by omega, q⟩]
          rfl
        rw [if_pos q0, if_pos q, if_neg (by rw [e]; decide)]
        omega
      · rw [fU_q q, if_neg q]
        omega
    omega
theorem tK_le {n : Int32} {u1 u3 : Nat → Int32} (h : mSp n u1) : ∀ {k : Nat}, (k : Int) ≤ n.toInt → 0 ≤ sm (tK u1 u3) k ∧ sm (tK u1 u3) k ≤ sm (tA u1) k
  | 0, _ => by rw [sm_0, sm_0]; omega
  | k + 1, hk => by
    have ih := tK_le (u3 := u3) h (k := k) (by omega)
    have a := h.2 k (by omega)
    rw [sm_s, sm_s]
    have : 0 ≤ tK u1 u3 k ∧ tK u1 u3 k ≤ tA u1 k := by
      unfold tK tA
      split <;> omega
    omega
-- ===== the books, pure: stones =====
/-- with sum k its giver has first given t, and wishes a stone -/
def stQ (u0 u1 g2 : Nat → Int32) (t : Int) (k : Nat) : Prop := ¬ t ≤ sm (tG u0 u1 (u0 k).toInt) k ∧ t ≤ sm (tG u0 u1 (u0 k).toInt) k + (u1 k).toInt ∧ (g2 (u0 k).toNatClampNeg).toInt = 0
def stI (u0 u1 g2 : Nat → Int32) (t : Int) (k : Nat) : Int := if ¬ t ≤ sm (tG u0 u1 (u0 k).toInt) k ∧ t ≤ sm (tG u0 u1 (u0 k).toInt) k + (u1 k).toInt ∧ (g2 (u0 k).toNatClampNeg).toInt = 0 then 1 else 0
/-- how many stones by the first k sums -/
def stC (u0 u1 g2 : Nat → Int32) (t : Int) (k : Nat) : Int := sm (stI u0 u1 g2 t) k
section STONES
variable {u0 u1 g2 : Nat → Int32} {t : Int}
theorem stI_1 {k : Nat} (h : stQ u0 u1 g2 t k) : stI u0 u1 g2 t k = 1 := if_pos h
theorem stI_0 {k : Nat} (h : ¬ stQ u0 u1 g2 t k) : stI u0 u1 g2 t k = 0 := if_neg h
theorem stI_i (k : Nat) : 0 ≤ stI u0 u1 g2 t k ∧ stI u0 u1 g2 t k ≤ 1 := by
  unfold stI
  split <;> omega
theorem stC_s {k : Nat} : stC u0 u1 g2 t (k + 1) = stC u0 u1 g2 t k + stI u0 u1 g2 t k := rfl
theorem stC_mono {k m : Nat} (h : k ≤ m) : stC u0 u1 g2 t k ≤ stC u0 u1 g2 t m := sm_mono h (fun j _ => (stI_i j).1)
theorem stC_lt {k m : Nat} (h : k < m) (hq : stQ u0 u1 g2 t k) : stC u0 u1 g2 t k < stC u0 u1 g2 t m := by
  have a := stC_mono (u0 := u0) (u1 := u1) (g2 := g2) (t := t) (show k + 1 ≤ m from h)
  rw [stC_s, stI_1 hq] at a
  omega
/-- the i-th one -/
theorem stC_ex {i : Int} (h0 : 0 ≤ i) : ∀ {n : Nat}, i < stC u0 u1 g2 t n → ∃ k, k < n ∧ stQ u0 u1 g2 t k ∧ stC u0 u1 g2 t k = i
  | 0, h => by
    have e : stC u0 u1 g2 t 0 = 0 := rfl
    omega
  | n + 1, h => by
    by_cases q : i < stC u0 u1 g2 t n
    · obtain ⟨k, a, b, c⟩ := stC_ex h0 q
      exact ⟨k, by omega, b, c⟩
    · rw [stC_s] at h
      have hi := stI_i (u0 := u0) (u1 := u1) (g2 := g2) (t := t) n
      refine ⟨n, by omega, ?_, by omega⟩
      by_cases z : stQ u0 u1 g2 t n
      · exact z
      · have := stI_0 z
        omega
theorem stC_u {k m : Nat} (hk : stQ u0 u1 g2 t k) (hm : stQ u0 u1 g2 t m) (h : stC u0 u1 g2 t k = stC u0 u1 g2 t m) : k = m := by
  by_cases a : k < m
  · have := stC_lt a hk
    omega
  · by_cases b : m < k
    · have := stC_lt b hm
      omega
    · omega
/-- the answer of stone(i) -/
def stA (u0 u1 g2 : Nat → Int32) (t : Int) (n : Nat) (x r : Int32) : Prop := (¬ (0 ≤ x.toInt ∧ x.toInt < stC u0 u1 g2 t n) ∧ r = (-1)) ∨ (0 ≤ x.toInt ∧ x.toInt < stC u0 u1 g2 t n ∧ ∃ k, k < n ∧ stQ u0 u1 g2 t k ∧ stC u0 u1 g2 t k = x.toInt ∧ r = u0 k)
theorem stA_u {n : Nat} {x r r' : Int32} (h : stA u0 u1 g2 t n x r) (h' : stA u0 u1 g2 t n x r') : r = r' := by
  rcases h with ⟨a, b⟩ | ⟨a, b, k, c, e, f, g⟩ <;> rcases h' with ⟨a', b'⟩ | ⟨a', b', k', c', e', f', g'⟩
  · rw [b, b']
  · exact absurd ⟨a', b'⟩ a
  · exact absurd ⟨a, b⟩ a'
  · rw [g, g', stC_u e e' (by omega)]
/-- the rows at sum k: what each gave so far, the stones so far -/
def stR (u0 u1 g2 : Nat → Int32) (t : Int) (fs fq : Nat → Int32) (n : Int32) (k : Nat) : Prop := n.toInt = stC u0 u1 g2 t k ∧ (∀ g : Nat, g < 30 → (fs g).toInt = sm (tG u0 u1 g) k) ∧ ∀ j, j < k → stQ u0 u1 g2 t j → fq (stC u0 u1 g2 t j).toNat = u0 j
theorem stR_0 {fs fq : Nat → Int32} {n : Int32} (hn : n.toInt = 0) (h : ∀ g : Nat, g < 30 → fs g = 0) : stR u0 u1 g2 t fs fq n 0 := ⟨by rw [hn]; rfl, fun g hg => by rw [h g hg]; rfl, fun j hj => absurd hj (Nat.not_lt_zero _)⟩
theorem stR_sum {fs fq : Nat → Int32} {n z : Int32} {k : Nat} (h : stR u0 u1 g2 t fs fq n k) (hg : 0 ≤ (u0 k).toInt ∧ (u0 k).toInt ≤ 29) (hz : z.toInt = (fs (u0 k).toNatClampNeg).toInt + (u1 k).toInt) : ∀ g : Nat, g < 30 → (upd fs (u0 k).toNatClampNeg z g).toInt = sm (tG u0 u1 g) (k + 1) := by
  intro g hg2
  have e := nc_int hg.1
  rw [sm_s]
  by_cases q : g = (u0 k).toNatClampNeg
  · rw [q, pk_us, hz, h.2.1 _ (by omega), tG_1 (by omega)]
  · rw [pk_un q, h.2.1 g hg2, tG_0 (by omega)]
    omega
theorem stR_at {fs fq : Nat → Int32} {n : Int32} {k : Nat} (h : stR u0 u1 g2 t fs fq n k) (hg : 0 ≤ (u0 k).toInt ∧ (u0 k).toInt ≤ 29) : (fs (u0 k).toNatClampNeg).toInt = sm (tG u0 u1 (u0 k).toInt) k := by
  have e := nc_int hg.1
  rw [h.2.1 _ (by omega), e]
theorem stR_n {fs fq : Nat → Int32} {n z : Int32} {k : Nat} (h : stR u0 u1 g2 t fs fq n k) (hg : 0 ≤ (u0 k).toInt ∧ (u0 k).toInt ≤ 29) (hz : z.toInt = (fs (u0 k).toNatClampNeg).toInt + (u1 k).toInt) (hq : ¬ stQ u0 u1 g2 t k) : stR u0 u1 g2 t (upd fs (u0 k).toNatClampNeg z) fq n (k + 1) := by
  refine ⟨?_, stR_sum h hg hz, fun j hj hs => ?_⟩
  · rw [stC_s, stI_0 hq, h.1]
    omega
  · by_cases e : j = k
    · exact absurd (e ▸ hs) hq
    · exact h.2.2 j (by omega) hs
theorem stR_y {fs fq : Nat → Int32} {n n2 z x : Int32} {k : Nat} (h : stR u0 u1 g2 t fs fq n k) (hg : 0 ≤ (u0 k).toInt ∧ (u0 k).toInt ≤ 29) (hz : z.toInt = (fs (u0 k).toNatClampNeg).toInt + (u1 k).toInt) (hq : stQ u0 u1 g2 t k) (hn : 0 ≤ n.toInt) (hn2 : n2.toInt = n.toInt + 1) (hx : x = u0 k) : stR u0 u1 g2 t (upd fs (u0 k).toNatClampNeg z) (upd fq n.toNatClampNeg x) n2 (k + 1) := by
  refine ⟨?_, stR_sum h hg hz, fun j hj hs => ?_⟩
  · rw [stC_s, stI_1 hq, hn2, h.1]
  · have en := nc_int hn
    have e1 := h.1
    by_cases e : j = k
    · subst e
      rw [show (stC u0 u1 g2 t j).toNat = n.toNatClampNeg by omega, pk_us, hx]
    · have hlt := stC_lt (u0 := u0) (u1 := u1) (g2 := g2) (t := t) (show j < k by omega) hs
      have h0 : 0 ≤ stC u0 u1 g2 t j := stC_mono (k := 0) (Nat.zero_le j)
      rw [pk_un (by omega)]
      exact h.2.2 j (by omega) hs
theorem stR_a {fs fq : Nat → Int32} {n x y : Int32} {k : Nat} (h : stR u0 u1 g2 t fs fq n k) (h0 : 0 ≤ x.toInt) (h1 : x.toInt < n.toInt) (hy : y = fq x.toNatClampNeg) : stA u0 u1 g2 t k x y := by
  obtain ⟨j, a, b, c⟩ := stC_ex (u0 := u0) (u1 := u1) (g2 := g2) (t := t) (i := x.toInt) h0 (n := k) (by rw [← h.1]; exact h1)
  refine Or.inr ⟨h0, by rw [← h.1]; exact h1, j, a, b, c, ?_⟩
  rw [hy, ← h.2.2 j a b]
  congr 1
  have := nc_int h0
  omega
theorem stR_b {fs fq : Nat → Int32} {n x : Int32} {k : Nat} (h : stR u0 u1 g2 t fs fq n k) (h1 : ¬ (0 ≤ x.toInt ∧ x.toInt < n.toInt)) : stA u0 u1 g2 t k x (-1) := Or.inl ⟨by rw [← h.1]; exact h1, rfl⟩
end STONES
-- ===== the books, pure: a month =====
/-- coin, loan behind a stage's part pt is paid, where mx is the loan's most; is it paused? -/
def coB (co lo mx pt : Int) : Int := if co + (if lo ≤ mx then mx - lo else 0) < pt then co else if co ≤ pt then 0 else co - pt
def loB (co lo mx pt : Int) : Int := if co + (if lo ≤ mx then mx - lo else 0) < pt then lo else if co ≤ pt then lo + (pt - co) else lo
def paB (co lo mx pt : Int) : Bool := decide (co + (if lo ≤ mx then mx - lo else 0) < pt)
section PURSE
variable {co lo mx pt c2 l2 : Int}
theorem pa_y (h : (lo ≤ mx ∧ co + (mx - lo) < pt) ∨ (¬ lo ≤ mx ∧ co < pt)) : paB co lo mx pt = true ∧ coB co lo mx pt = co ∧ loB co lo mx pt = lo := by
  have e : co + (if lo ≤ mx then mx - lo else 0) < pt := by split <;> omega
  unfold paB coB loB
  rw [if_pos e, if_pos e]
  exact ⟨decide_eq_true e, rfl, rfl⟩
theorem pa_n (h : (lo ≤ mx ∧ ¬ co + (mx - lo) < pt) ∨ (¬ lo ≤ mx ∧ ¬ co < pt)) (hc : (co ≤ pt ∧ c2 = 0 ∧ l2 = lo + (pt - co)) ∨ (¬ co ≤ pt ∧ c2 = co - pt ∧ l2 = lo)) : paB co lo mx pt = false ∧ coB co lo mx pt = c2 ∧ loB co lo mx pt = l2 := by
  have e : ¬ co + (if lo ≤ mx then mx - lo else 0) < pt := by split <;> omega
  unfold paB coB loB
  rw [if_neg e, if_neg e]
  refine ⟨decide_eq_false e, ?_, ?_⟩ <;> (split <;> omega)
theorem pa_bd (hc : 0 ≤ co) (hl : 0 ≤ lo) (hp : 0 ≤ pt) : 0 ≤ coB co lo mx pt ∧ coB co lo mx pt ≤ co ∧ 0 ≤ loB co lo mx pt ∧ (loB co lo mx pt ≤ lo ∨ loB co lo mx pt ≤ mx) := by
  unfold coB loB
  by_cases a : lo ≤ mx
  · rw [if_pos a]
    by_cases b : co + (mx - lo) < pt
    · rw [if_pos b, if_pos b]; omega
    · rw [if_neg b, if_neg b]
      by_cases c : co ≤ pt
      · rw [if_pos c, if_pos c]; omega
      · rw [if_neg c, if_neg c]; omega
  · rw [if_neg a]
    by_cases b : co + 0 < pt
    · rw [if_pos b, if_pos b]; omega
    · rw [if_neg b, if_neg b]
      by_cases c : co ≤ pt
      · rw [if_pos c, if_pos c]; omega
      · rw [if_neg c, if_neg c]; omega
end PURSE
/-- the most that the loan can be in month n -/
def lB : Nat → Int
  | 0 => 99999900
  | n + 1 => lB n + lB n / 100
theorem lB_0 (n : Nat) : 99999900 ≤ lB n := by
  induction n with
  | zero => exact Int.le_refl _
  | succ n ih => show 99999900 ≤ lB n + lB n / 100; omega
theorem lB_mono {n m : Nat} (h : n ≤ m) : lB n ≤ lB m := by
  induction h with
  | refl => exact Int.le_refl _
  | step _ ih => rename_i m _; have := lB_0 m; show lB n ≤ lB m + lB m / 100; omega
theorem lB_119 : lB 119 ≤ 330000000 := by decide +kernel
theorem lB_le {n : Nat} (h : n ≤ 119) : lB n ≤ 330000000 := Int.le_trans (lB_mono h) lB_119
-- ----- stages: cost, length, parts, paid, paused as rows
/-- the next part of a stage -/
def ptS (c m k : Int) : Int := if k = m - 1 then c - c / m * k else c / m
theorem ptS_bd {c m k : Int} (hc : 1 ≤ c ∧ c ≤ 100000000) (hm : 1 ≤ m ∧ m ≤ 24) (hk : 0 ≤ k ∧ k < m) : 0 ≤ ptS c m k ∧ ptS c m k ≤ 100000000 ∧ 0 ≤ c / m * k ∧ c / m * k ≤ c ∧ 0 ≤ c / m ∧ c / m ≤ c := by
  have a : 0 ≤ c / m := Int.ediv_nonneg (by omega) (by omega)
  have b : c / m * m ≤ c := Int.ediv_mul_le c (by omega)
  have d : c / m * k ≤ c / m * m := Int.mul_le_mul_of_nonneg_left (by omega) a
  have e : 0 ≤ c / m * k := Int.mul_nonneg a hk.1
  have f : c / m ≤ c := Int.ediv_le_self m (by omega)
  unfold ptS
  split <;> omega
/-- one stage: bounds; its paid is its parts' while it isn't built -/
def wf1 (td : Int) (i : Nat) (c m k p : Int) : Prop := (1 ≤ c ∧ c ≤ 100000000) ∧ (1 ≤ m ∧ m ≤ 24) ∧ (0 ≤ k ∧ k ≤ m) ∧ (k < m → p = c / m * k) ∧ (td ≤ i → k = 0)
def wfS (n td : Int) (sc sl sk sp : Nat → Int32) : Prop := (0 ≤ td ∧ td ≤ n ∧ n ≤ 8) ∧ (∀ i : Nat, (i : Int) < n → wf1 td i (sc i).toInt (sl i).toInt (sk i).toInt (sp i).toInt) ∧ ∀ i : Nat, n ≤ (i : Int) → sk i = 0 ∧ sp i = 0
def ptA (td : Int) (sc sl sk : Nat → Int32) : Int := ptS (sc (td.toNat - 1)).toInt (sl (td.toNat - 1)).toInt (sk (td.toNat - 1)).toInt
/-- what a month does to coin, loan, grown, paid for stages, and the stages' rows -/
abbrev Mo7 := Int × Int × Int32 × Int32 × (Nat → Int32) × (Nat → Int32) × (Nat → Int32)
/-- coin pays back the loan -/
def pbM : Mo7 → Mo7
  | (co, lo, gr, pd, sk, sp, su) => (if co ≤ lo then 0 else co - lo, if co ≤ lo then lo - co else 0, gr, pd, sk, sp, su)
def grM (x : Int) : Mo7 → Mo7
  | (co, lo, gr, pd, sk, sp, su) => (co, lo + lo * x / 1000, gr + Int32.ofInt (lo * x / 1000), pd, sk, sp, su)
def byM (mx td : Int) (sc sl : Nat → Int32) : Mo7 → Mo7
  | (co, lo, gr, pd, sk, sp, su) =>
    if 1 ≤ td ∧ (sk (td.toNat - 1)).toInt < (sl (td.toNat - 1)).toInt then
      if paB co lo mx (ptA td sc sl sk) = true then (co, lo, gr, pd, sk, sp, upd su (td.toNat - 1) (su (td.toNat - 1) + 1))
      else (coB co lo mx (ptA td sc sl sk), loB co lo mx (ptA td sc sl sk), gr, pd + Int32.ofInt (ptA td sc sl sk), upd sk (td.toNat - 1) (sk (td.toNat - 1) + 1), upd sp (td.toNat - 1) (sp (td.toNat - 1) + Int32.ofInt (ptA td sc sl sk)), su)
    else (co, lo, gr, pd, sk, sp, su)
def mnM (x mx td : Int) (sc sl : Nat → Int32) (M : Mo7) : Mo7 := pbM (byM mx td sc sl (grM x M))
def mnI (x mx td : Int) (sc sl : Nat → Int32) : Nat → Mo7 → Mo7
  | 0, M => M
  | n + 1, M => mnM x mx td sc sl (mnI x mx td sc sl n M)
/-- the table of pledges behind n months' lapses -/
def lpI (y : Int) (nP : Nat) (cl : Int) : Nat → (Nat → Pl9) → (Nat → Pl9)
  | 0, t => t
  | n + 1, t => lapT (cl + n) y nP (lpI y nP cl n t)
def wfM (n td : Int) (sc sl : Nat → Int32) (cB lo9 : Int) : Mo7 → Prop
  | (co, lo, _, _, sk, sp, _) => (0 ≤ co ∧ co ≤ cB) ∧ (0 ≤ lo ∧ lo ≤ lo9) ∧ wfS n td sc sl sk sp
section MONTH
variable {x mx td n cB lo9 : Int} {sc sl : Nat → Int32} {M : Mo7}
theorem i32_add1 {k : Int32} {m : Int} (h : 0 ≤ k.toInt ∧ k.toInt < m) (hm : m ≤ 100) : (k + 1).toInt = k.toInt + 1 := by
  have := ci_add (x := k) (y := 1) (z := k + 1) rfl (show (1 : Int32).toInt = 1 by decide) rfl
  omega
theorem i32_addp {p : Int32} {y : Int} (h : 0 ≤ p.toInt ∧ p.toInt ≤ 100000000) (hy : 0 ≤ y ∧ y ≤ 100000000) : (p + Int32.ofInt y).toInt = p.toInt + y := by
  have e : (Int32.ofInt y).toInt = y := Int32.toInt_ofInt_of_le (by omega) (by omega)
  have := ci_add (x := p) (y := Int32.ofInt y) (z := p + Int32.ofInt y) rfl e rfl
  omega
theorem wfS_by {sk sp : Nat → Int32} (h : wfS n td sc sl sk sp) (hr : 1 ≤ td ∧ (sk (td.toNat - 1)).toInt < (sl (td.toNat - 1)).toInt) : wfS n td sc sl (upd sk (td.toNat - 1) (sk (td.toNat - 1) + 1)) (upd sp (td.toNat - 1) (sp (td.toNat - 1) + Int32.ofInt (ptA td sc sl sk))) := by
  have h0 := h.1
  have h1 := h.2.1 (td.toNat - 1) (by omega)
  have hb := ptS_bd h1.1 h1.2.1 (k := (sk (td.toNat - 1)).toInt) ⟨h1.2.2.1.1, hr.2⟩
  have hk := i32_add1 (k := sk (td.toNat - 1)) (m := (sl (td.toNat - 1)).toInt) ⟨h1.2.2.1.1, hr.2⟩ (by have := h1.2.1; omega)
  have hp0 := h1.2.2.2.1 hr.2
  have hp := i32_addp (p := sp (td.toNat - 1)) (y := ptA td sc sl sk) (by rw [hp0]; have := h1.1; omega) ⟨hb.1, hb.2.1⟩
  refine ⟨h0, fun i hi => ?_, fun i hi => ?_⟩
  · by_cases q : i = td.toNat - 1
    · rw [q, pk_us, pk_us, hk, hp]
      refine ⟨h1.1, h1.2.1, by have := h1.2.2.1; omega, fun hlt => ?_, fun hle => by omega⟩
      unfold ptA ptS
      rw [if_neg (by omega), hp0, Int.mul_add, Int.mul_one]
    · rw [pk_un q, pk_un q]
      exact h.2.1 i hi
  · rw [pk_un (by omega), pk_un (by omega)]
    exact h.2.2 i hi
theorem wf_gr (h : wfM n td sc sl cB lo9 M) (hx : 0 ≤ x ∧ x ≤ 10) (h9 : lo9 ≤ 330000000) : wfM n td sc sl cB (lo9 + lo9 / 100) (grM x M) := by
  obtain ⟨co, lo, gr, pd, sk, sp, su⟩ := M
  have hl := h.2.1
  have b := mul_bd (a := lo) (A := lo) (b := x) (B := 10) hl.1 (Int.le_refl _) hx.1 hx.2
  exact ⟨h.1, ⟨by omega, by omega⟩, h.2.2⟩
theorem wf_by (h : wfM n td sc sl cB lo9 M) (hm : mx ≤ 99999900) (h9 : 99999900 ≤ lo9) : wfM n td sc sl cB lo9 (byM mx td sc sl M) := by
  obtain ⟨co, lo, gr, pd, sk, sp, su⟩ := M
  obtain ⟨hc, hl, hs⟩ := h
  show wfM n td sc sl cB lo9 (if _ then _ else _)
  by_cases r : 1 ≤ td ∧ (sk (td.toNat - 1)).toInt < (sl (td.toNat - 1)).toInt
  · rw [if_pos r]
    by_cases q : paB co lo mx (ptA td sc sl sk) = true
    · rw [if_pos q]; exact ⟨hc, hl, hs⟩
    · rw [if_neg q]
      have h0 := hs.1
      have h1 := hs.2.1 (td.toNat - 1) (by omega)
      have hb := ptS_bd h1.1 h1.2.1 (k := (sk (td.toNat - 1)).toInt) ⟨h1.2.2.1.1, r.2⟩
      have hp := pa_bd (co := co) (lo := lo) (mx := mx) (pt := ptA td sc sl sk) hc.1 hl.1 hb.1
      exact ⟨⟨hp.1, by omega⟩, ⟨hp.2.2.1, by omega⟩, wfS_by hs r⟩
  · rw [if_neg r]; exact ⟨hc, hl, hs⟩
theorem wf_pb (h : wfM n td sc sl cB lo9 M) : wfM n td sc sl cB lo9 (pbM M) := by
  obtain ⟨co, lo, gr, pd, sk, sp, su⟩ := M
  obtain ⟨hc, hl, hs⟩ := h
  refine ⟨?_, ?_, hs⟩
  · show 0 ≤ (if co ≤ lo then 0 else co - lo) ∧ (if co ≤ lo then 0 else co - lo) ≤ cB
    split <;> omega
  · show 0 ≤ (if co ≤ lo then lo - co else 0) ∧ (if co ≤ lo then lo - co else 0) ≤ lo9
    split <;> omega
theorem wf_mn {k : Nat} (h : wfM n td sc sl cB (lB k) M) (hx : 0 ≤ x ∧ x ≤ 10) (hm : mx ≤ 99999900) (hk : k ≤ 119) : wfM n td sc sl cB (lB (k + 1)) (mnM x mx td sc sl M) :=
  wf_pb (wf_by (wf_gr h hx (lB_le hk)) hm (by have := lB_0 (k + 1); exact this))
theorem wf_mI {k : Nat} (h : wfM n td sc sl cB (lB k) M) (hx : 0 ≤ x ∧ x ≤ 10) (hm : mx ≤ 99999900) : ∀ {j : Nat}, k + j ≤ 119 → wfM n td sc sl cB (lB (k + j)) (mnI x mx td sc sl j M)
  | 0, _ => h
  | j + 1, hj => wf_mn (k := k + j) (wf_mI h hx hm (by omega)) hx hm (by omega)
end MONTH
theorem wf_lap {cl y : Int} {nP m : Nat} {t : Nat → Pl9} (h : ∀ i, i < nP → wfT cl (t i)) : ∀ i, i < nP → wfT (cl + 1) (lapT cl y m t i) := by
  intro i hi
  unfold lapT
  by_cases q : i < m
  · rw [if_pos q]; exact wf_cl (wf_ls (h i hi)) (by omega)
  · rw [if_neg q]; exact wf_cl (h i hi) (by omega)
theorem wf_lpI {cl y : Int} {nP : Nat} {t : Nat → Pl9} (h : ∀ i, i < nP → wfT cl (t i)) : ∀ (j : Nat), ∀ i, i < nP → wfT (cl + j) (lpI y nP cl j t i)
  | 0, i, hi => wf_cl (h i hi) (by omega)
  | j + 1, i, hi => by
    have := wf_lap (cl := cl + j) (y := y) (nP := nP) (m := nP) (wf_lpI (y := y) h j) i hi
    rw [show cl + ((j + 1 : Nat) : Int) = cl + j + 1 by omega]
    exact this
-- ===== the books: what each call answers and leaves =====
theorem upd_id {f : Nat → Int32} {i : Nat} {v : Int32} (h : f i = v) : upd f i v = f := by
  funext j
  by_cases q : j = i
  · rw [q, pk_us, h]
  · rw [pk_un q]
def tkT : Pl9 → Int
  | (_, _, _, _, _, pk, _, _, _) => pk.toInt
def pgT : Pl9 → Int32
  | (_, pg, _, _, _, _, _, _, _) => pg
def Cpl (bn x1 : Int32) : Prop := 0 ≤ x1.toInt ∧ x1.toInt < bn.toInt
def Cch (bn x1 x2 : Int32) : Prop := (0 ≤ x1.toInt ∧ x1.toInt < bn.toInt) ∧ 1 ≤ x2.toInt ∧ x2.toInt ≤ 100000
def Cpy (bn x1 x2 : Int32) : Prop := (0 ≤ x1.toInt ∧ x1.toInt < bn.toInt) ∧ 1 ≤ x2.toInt ∧ x2.toInt ≤ 5000000
def Rchg (sp bn : Int32) (cl : Int) (x1 x2 : Int32) (tP : Nat → Pl9) (r : Int32) (tP2 : Nat → Pl9) : Prop :=
  (r = (-2) ∧ ¬ Cch bn x1 x2 ∧ tP2 = tP) ∨ (r = (-4) ∧ Cch bn x1 x2 ∧ ¬ (sp.toInt = 0 ∧ lnT (tP x1.toNatClampNeg) = 0) ∧ tP2 = tP) ∨
  (r = 1 ∧ Cch bn x1 x2 ∧ (sp.toInt = 0 ∧ lnT (tP x1.toNatClampNeg) = 0) ∧ tP2 = tbS tP x1.toNatClampNeg (chT x2 cl (tP x1.toNatClampNeg)))
def Rtku (sp bn : Int32) (cl : Int) (x1 : Int32) (tP : Nat → Pl9) (r : Int32) (tP2 : Nat → Pl9) : Prop :=
  (r = (-2) ∧ ¬ Cpl bn x1 ∧ tP2 = tP) ∨ (r = (-4) ∧ Cpl bn x1 ∧ ¬ (sp.toInt = 0 ∧ lnT (tP x1.toNatClampNeg) = 1 ∧ tkT (tP x1.toNatClampNeg) = 0) ∧ tP2 = tP) ∨
  (r.toInt = tcT cl (tuT cl (tP x1.toNatClampNeg)) ∧ Cpl bn x1 ∧ (sp.toInt = 0 ∧ lnT (tP x1.toNatClampNeg) = 1 ∧ tkT (tP x1.toNatClampNeg) = 0) ∧ tP2 = tbS tP x1.toNatClampNeg (tuT cl (tP x1.toNatClampNeg)))
/-- a sum came -/
def Rcom (sn cl x1 x2 : Int32) (fr u0 u1 u2 : Nat → Int32) (ma co : Int) (r sn2 : Int32) (z0 z1 z2 : Nat → Int32) (ma2 co2 : Int) : Prop :=
  (sn2.toInt = sn.toInt + 1 ∧ z0 = upd u0 sn.toNatClampNeg x1 ∧ z1 = upd u1 sn.toNatClampNeg x2 ∧ z2 = upd u2 sn.toNatClampNeg cl) ∧ r.toInt = mtV fr ma cl.toInt x2.toInt ∧ ma2 = ma + r.toInt ∧ co2 = co + x2.toInt + r.toInt
/-- none came -/
def Rnoc (sn : Int32) (u0 u1 u2 : Nat → Int32) (ma co : Int) (sn2 : Int32) (z0 z1 z2 : Nat → Int32) (ma2 co2 : Int) : Prop := (sn2 = sn ∧ z0 = u0 ∧ z1 = u1 ∧ z2 = u2) ∧ ma2 = ma ∧ co2 = co
theorem Rnoc_r {sn : Int32} {u0 u1 u2 : Nat → Int32} {ma co : Int} : Rnoc sn u0 u1 u2 ma co sn u0 u1 u2 ma co := ⟨⟨rfl, rfl, rfl, rfl⟩, rfl, rfl⟩
def Cgf (x1 x2 : Int32) : Prop := (0 ≤ x1.toInt ∧ x1.toInt ≤ 29) ∧ 1 ≤ x2.toInt ∧ x2.toInt ≤ 5000000
def Rgif (sp sn cl x1 x2 : Int32) (fr u0 u1 u2 : Nat → Int32) (ma co : Int) (r sn2 : Int32) (z0 z1 z2 : Nat → Int32) (ma2 co2 : Int) : Prop :=
  (r = (-2) ∧ ¬ Cgf x1 x2 ∧ Rnoc sn u0 u1 u2 ma co sn2 z0 z1 z2 ma2 co2) ∨ (r = (-4) ∧ (Cgf x1 x2 ∧ ¬ sp.toInt = 0) ∧ Rnoc sn u0 u1 u2 ma co sn2 z0 z1 z2 ma2 co2) ∨ (r = (-3) ∧ (Cgf x1 x2 ∧ sp.toInt = 0 ∧ sn.toInt = 250) ∧ Rnoc sn u0 u1 u2 ma co sn2 z0 z1 z2 ma2 co2) ∨
  ((Cgf x1 x2 ∧ sp.toInt = 0 ∧ sn.toInt < 250) ∧ Rcom sn cl x1 x2 fr u0 u1 u2 ma co r sn2 z0 z1 z2 ma2 co2)
def Rpay (sp bn sn cl x1 x2 : Int32) (fr u0 u1 u2 : Nat → Int32) (ma co : Int) (tP : Nat → Pl9) (r sn2 : Int32) (z0 z1 z2 : Nat → Int32) (ma2 co2 : Int) (tP2 : Nat → Pl9) : Prop :=
  ((r = (-2) ∧ ¬ Cpy bn x1 x2) ∧ Rnoc sn u0 u1 u2 ma co sn2 z0 z1 z2 ma2 co2 ∧ tP2 = tP) ∨
  ((r = (-4) ∧ Cpy bn x1 x2 ∧ ¬ lnT (tP x1.toNatClampNeg) = 0) ∧ Rnoc sn u0 u1 u2 ma co sn2 z0 z1 z2 ma2 co2 ∧ tP2 = tP) ∨
  ((r = (-2) ∧ Cpy bn x1 x2 ∧ lnT (tP x1.toNatClampNeg) = 0 ∧ unT (tP x1.toNatClampNeg) < x2.toInt) ∧ Rnoc sn u0 u1 u2 ma co sn2 z0 z1 z2 ma2 co2 ∧ tP2 = tP) ∨
  ((r = (-4) ∧ Cpy bn x1 x2 ∧ lnT (tP x1.toNatClampNeg) = 0 ∧ x2.toInt ≤ unT (tP x1.toNatClampNeg) ∧ ¬ sp.toInt = 0) ∧ Rnoc sn u0 u1 u2 ma co sn2 z0 z1 z2 ma2 co2 ∧ tP2 = tP) ∨
  ((r = (-3) ∧ Cpy bn x1 x2 ∧ lnT (tP x1.toNatClampNeg) = 0 ∧ x2.toInt ≤ unT (tP x1.toNatClampNeg) ∧ sp.toInt = 0 ∧ sn.toInt = 250) ∧ Rnoc sn u0 u1 u2 ma co sn2 z0 z1 z2 ma2 co2 ∧ tP2 = tP) ∨
  ((Cpy bn x1 x2 ∧ lnT (tP x1.toNatClampNeg) = 0 ∧ x2.toInt ≤ unT (tP x1.toNatClampNeg) ∧ sp.toInt = 0 ∧ sn.toInt < 250) ∧ Rcom sn cl (pgT (tP x1.toNatClampNeg)) x2 fr u0 u1 u2 ma co r sn2 z0 z1 z2 ma2 co2 ∧ tP2 = tbS tP x1.toNatClampNeg (fiT x2.toInt (tP x1.toNatClampNeg)))
def Rclm (sp sn : Int32) (fr u0 u1 u2 u3 g0 g1 : Nat → Int32) (ta co : Int) (r : Int32) (z3 : Nat → Int32) (ta2 co2 : Int) : Prop :=
  (r = (-4) ∧ ¬ sp.toInt = 0 ∧ z3 = u3 ∧ ta2 = ta ∧ co2 = co) ∨ (r.toInt = txV (fr (3 : Int32).toNatClampNeg).toInt sn.toNatClampNeg u0 u1 u2 u3 g0 g1 ∧ sp.toInt = 0 ∧ z3 = txR (fr (3 : Int32).toNatClampNeg).toInt sn.toNatClampNeg u0 u2 u3 g0 g1 ∧ ta2 = ta + r.toInt ∧ co2 = co + r.toInt)
def Rbeg (sp tn td : Int32) (sl sk : Nat → Int32) (r td2 : Int32) : Prop :=
  (r = (-4) ∧ ¬ (sp.toInt = 0 ∧ ¬ (1 ≤ td.toInt ∧ (sk (td.toInt.toNat - 1)).toInt < (sl (td.toInt.toNat - 1)).toInt) ∧ td.toInt < tn.toInt) ∧ td2 = td) ∨ (r = td ∧ (sp.toInt = 0 ∧ ¬ (1 ≤ td.toInt ∧ (sk (td.toInt.toNat - 1)).toInt < (sl (td.toInt.toNat - 1)).toInt) ∧ td.toInt < tn.toInt) ∧ td2.toInt = td.toInt + 1)
def buV (td x1 x2 : Int32) (sc sl sk sq su : Nat → Int32) : Int32 :=
  if x2 = 0 then sc x1.toNatClampNeg else if x2 = 1 then sl x1.toNatClampNeg else if x2 = 2 then (if td.toInt ≤ x1.toInt then 0 else if (sk x1.toNatClampNeg).toInt < (sl x1.toNatClampNeg).toInt then 1 else 2) else if x2 = 3 then sq x1.toNatClampNeg else if x2 = 4 then su x1.toNatClampNeg else -1
def Rbui (tn td x1 x2 : Int32) (sc sl sk sq su : Nat → Int32) (r : Int32) : Prop := (¬ (0 ≤ x1.toInt ∧ x1.toInt < tn.toInt) ∧ r = (-1)) ∨ ((0 ≤ x1.toInt ∧ x1.toInt < tn.toInt) ∧ r = buV td x1 x2 sc sl sk sq su)
def Rmon (sp bn td cl x1 : Int32) (fr sc sl : Nat → Int32) (tP : Nat → Pl9) (M : Mo7) (r cl2 : Int32) (tP2 : Nat → Pl9) (M2 : Mo7) : Prop :=
  (r = (-2) ∧ ¬ ((1 ≤ x1.toInt ∧ x1.toInt ≤ 24) ∧ cl.toInt + x1.toInt ≤ 119) ∧ cl2 = cl ∧ tP2 = tP ∧ M2 = M) ∨ (r = (-4) ∧ (((1 ≤ x1.toInt ∧ x1.toInt ≤ 24) ∧ cl.toInt + x1.toInt ≤ 119) ∧ ¬ sp.toInt = 0) ∧ cl2 = cl ∧ tP2 = tP ∧ M2 = M) ∨
  (r = cl2 ∧ (((1 ≤ x1.toInt ∧ x1.toInt ≤ 24) ∧ cl.toInt + x1.toInt ≤ 119) ∧ sp.toInt = 0) ∧ cl2.toInt = cl.toInt + x1.toInt ∧ tP2 = lpI (fr (4 : Int32).toNatClampNeg).toInt bn.toNatClampNeg cl.toInt x1.toNatClampNeg tP ∧ M2 = mnI (fr (6 : Int32).toNatClampNeg).toInt (100 * (fr (5 : Int32).toNatClampNeg).toInt) td.toInt sc sl x1.toNatClampNeg M)
-- ----- they are functions
section DET
theorem det_chg {sp bn x1 x2 r r' : Int32} {cl : Int} {tP t t' : Nat → Pl9} (h : Rchg sp bn cl x1 x2 tP r t) (h' : Rchg sp bn cl x1 x2 tP r' t') : r = r' ∧ t = t' := by
  rcases h with ⟨a, b, c⟩ | ⟨a, b, e, c⟩ | ⟨a, b, e, c⟩ <;> rcases h' with ⟨a', b', c'⟩ | ⟨a', b', e', c'⟩ | ⟨a', b', e', c'⟩ <;> first | exact ⟨a.trans a'.symm, c.trans c'.symm⟩ | exact absurd b' b | exact absurd b b' | exact absurd e' e | exact absurd e e'
theorem det_tku {sp bn x1 r r' : Int32} {cl : Int} {tP t t' : Nat → Pl9} (h : Rtku sp bn cl x1 tP r t) (h' : Rtku sp bn cl x1 tP r' t') : r = r' ∧ t = t' := by
  rcases h with ⟨a, b, c⟩ | ⟨a, b, e, c⟩ | ⟨a, b, e, c⟩ <;> rcases h' with ⟨a', b', c'⟩ | ⟨a', b', e', c'⟩ | ⟨a', b', e', c'⟩ <;> first | exact ⟨a.trans a'.symm, c.trans c'.symm⟩ | exact absurd b' b | exact absurd b b' | exact absurd e' e | exact absurd e e' | exact ⟨Int32.toInt_inj.mp (a.trans a'.symm), c.trans c'.symm⟩
theorem det_com {sn cl x1 x2 r sn2 r' sn2' : Int32} {fr u0 u1 u2 z0 z1 z2 z0' z1' z2' : Nat → Int32} {ma co ma2 co2 ma2' co2' : Int} (h : Rcom sn cl x1 x2 fr u0 u1 u2 ma co r sn2 z0 z1 z2 ma2 co2) (h' : Rcom sn cl x1 x2 fr u0 u1 u2 ma co r' sn2' z0' z1' z2' ma2' co2') : r = r' ∧ sn2 = sn2' ∧ z0 = z0' ∧ z1 = z1' ∧ z2 = z2' ∧ ma2 = ma2' ∧ co2 = co2' := by
  obtain ⟨⟨a, b, c, d⟩, e, f, g⟩ := h
  obtain ⟨⟨a', b', c', d'⟩, e', f', g'⟩ := h'
  have hr : r = r' := Int32.toInt_inj.mp (e.trans e'.symm)
  subst hr
  exact ⟨rfl, Int32.toInt_inj.mp (a.trans a'.symm), b.trans b'.symm, c.trans c'.symm, d.trans d'.symm, f.trans f'.symm, g.trans g'.symm⟩
theorem det_noc {sn sn2 sn2' r : Int32} {u0 u1 u2 z0 z1 z2 z0' z1' z2' : Nat → Int32} {ma co ma2 co2 ma2' co2' : Int} (h : Rnoc sn u0 u1 u2 ma co sn2 z0 z1 z2 ma2 co2) (h' : Rnoc sn u0 u1 u2 ma co sn2' z0' z1' z2' ma2' co2') : r = r ∧ sn2 = sn2' ∧ z0 = z0' ∧ z1 = z1' ∧ z2 = z2' ∧ ma2 = ma2' ∧ co2 = co2' := by
  obtain ⟨⟨a, b, c, d⟩, f, g⟩ := h
  obtain ⟨⟨a', b', c', d'⟩, f', g'⟩ := h'
  exact ⟨rfl, a.trans a'.symm, b.trans b'.symm, c.trans c'.symm, d.trans d'.symm, f.trans f'.symm, g.trans g'.symm⟩
theorem det_gif {sp sn cl x1 x2 r sn2 r' sn2' : Int32} {fr u0 u1 u2 z0 z1 z2 z0' z1' z2' : Nat → Int32} {ma co ma2 co2 ma2' co2' : Int} (h : Rgif sp sn cl x1 x2 fr u0 u1 u2 ma co r sn2 z0 z1 z2 ma2 co2) (h' : Rgif sp sn cl x1 x2 fr u0 u1 u2 ma co r' sn2' z0' z1' z2' ma2' co2') : r = r' ∧ sn2 = sn2' ∧ z0 = z0' ∧ z1 = z1' ∧ z2 = z2' ∧ ma2 = ma2' ∧ co2 = co2' := by
  rcases h with ⟨rfl, b, c⟩ | ⟨rfl, ⟨b, e⟩, c⟩ | ⟨rfl, ⟨b, e, f⟩, c⟩ | ⟨⟨b, e, f⟩, c⟩ <;> rcases h' with ⟨rfl, b', c'⟩ | ⟨rfl, ⟨b', e'⟩, c'⟩ | ⟨rfl, ⟨b', e', f'⟩, c'⟩ | ⟨⟨b', e', f'⟩, c'⟩ <;> first | exact det_noc c c' | exact absurd b' b | exact absurd b b' | exact absurd e' e | exact absurd e e' | exact det_com c c' | (exfalso; omega)
theorem det_pay {sp bn sn cl x1 x2 r sn2 r' sn2' : Int32} {fr u0 u1 u2 z0 z1 z2 z0' z1' z2' : Nat → Int32} {ma co ma2 co2 ma2' co2' : Int} {tP t t' : Nat → Pl9} (h : Rpay sp bn sn cl x1 x2 fr u0 u1 u2 ma co tP r sn2 z0 z1 z2 ma2 co2 t) (h' : Rpay sp bn sn cl x1 x2 fr u0 u1 u2 ma co tP r' sn2' z0' z1' z2' ma2' co2' t') : (r = r' ∧ sn2 = sn2' ∧ z0 = z0' ∧ z1 = z1' ∧ z2 = z2' ∧ ma2 = ma2' ∧ co2 = co2') ∧ t = t' := by
  rcases h with ⟨⟨rfl, b⟩, c, d⟩ | ⟨⟨rfl, b, e⟩, c, d⟩ | ⟨⟨rfl, b, e, f⟩, c, d⟩ | ⟨⟨rfl, b, e, f, g⟩, c, d⟩ | ⟨⟨rfl, b, e, f, g, i⟩, c, d⟩ | ⟨⟨b, e, f, g, i⟩, c, d⟩ <;> rcases h' with ⟨⟨rfl, b'⟩, c', d'⟩ | ⟨⟨rfl, b', e'⟩, c', d'⟩ | ⟨⟨rfl, b', e', f'⟩, c', d'⟩ | ⟨⟨rfl, b', e', f', g'⟩, c', d'⟩ | ⟨⟨rfl, b', e', f', g', i'⟩, c', d'⟩ | ⟨⟨b', e', f', g', i'⟩, c', d'⟩ <;> first | exact ⟨det_noc c c', d.trans d'.symm⟩ | exact absurd b' b | exact absurd b b' | exact absurd e' e | exact absurd e e' | exact ⟨det_com c c', d.trans d'.symm⟩ | (exfalso; omega)
theorem det_clm {sp sn r r' : Int32} {fr u0 u1 u2 u3 g0 g1 z3 z3' : Nat → Int32} {ta co ta2 co2 ta2' co2' : Int} (h : Rclm sp sn fr u0 u1 u2 u3 g0 g1 ta co r z3 ta2 co2) (h' : Rclm sp sn fr u0 u1 u2 u3 g0 g1 ta co r' z3' ta2' co2') : r = r' ∧ z3 = z3' ∧ ta2 = ta2' ∧ co2 = co2' := by
  rcases h with ⟨a, b, c, d, e⟩ | ⟨a, b, c, d, e⟩ <;> rcases h' with ⟨a', b', c', d', e'⟩ | ⟨a', b', c', d', e'⟩
  · exact ⟨a.trans a'.symm, c.trans c'.symm, d.trans d'.symm, e.trans e'.symm⟩
  · exact absurd b' b
  · exact absurd b b'
  · have hr : r = r' := Int32.toInt_inj.mp (a.trans a'.symm)
    subst hr
    exact ⟨rfl, c.trans c'.symm, d.trans d'.symm, e.trans e'.symm⟩
theorem det_beg {sp tn td r td2 r' td2' : Int32} {sl sk : Nat → Int32} (h : Rbeg sp tn td sl sk r td2) (h' : Rbeg sp tn td sl sk r' td2') : r = r' ∧ td2 = td2' := by
  rcases h with ⟨a, b, c⟩ | ⟨a, b, c⟩ <;> rcases h' with ⟨a', b', c'⟩ | ⟨a', b', c'⟩ <;> first | exact absurd b' b | exact absurd b b' | exact ⟨a.trans a'.symm, c.trans c'.symm⟩ | exact ⟨a.trans a'.symm, Int32.toInt_inj.mp (c.trans c'.symm)⟩
theorem det_bui {tn td x1 x2 r r' : Int32} {sc sl sk sq su : Nat → Int32} (h : Rbui tn td x1 x2 sc sl sk sq su r) (h' : Rbui tn td x1 x2 sc sl sk sq su r') : r = r' := by
  rcases h with ⟨a, b⟩ | ⟨a, b⟩ <;> rcases h' with ⟨a', b'⟩ | ⟨a', b'⟩ <;> first | exact absurd a' a | exact absurd a a' | exact b.trans b'.symm
theorem det_mon {sp bn td cl x1 r cl2 r' cl2' : Int32} {fr sc sl : Nat → Int32} {tP t t' : Nat → Pl9} {M M2 M2' : Mo7} (h : Rmon sp bn td cl x1 fr sc sl tP M r cl2 t M2) (h' : Rmon sp bn td cl x1 fr sc sl tP M r' cl2' t' M2') : r = r' ∧ cl2 = cl2' ∧ t = t' ∧ M2 = M2' := by
  rcases h with ⟨a, b, c, d, e⟩ | ⟨a, ⟨b, b2⟩, c, d, e⟩ | ⟨a, ⟨b, b2⟩, c, d, e⟩ <;> rcases h' with ⟨a', b', c', d', e'⟩ | ⟨a', ⟨b', b2'⟩, c', d', e'⟩ | ⟨a', ⟨b', b2'⟩, c', d', e'⟩ <;> first | exact absurd b' b | exact absurd b b' | exact absurd b2' b2 | exact absurd b2 b2' | exact ⟨a.trans a'.symm, c.trans c'.symm, d.trans d'.symm, e.trans e'.symm⟩ | (have q : cl2 = cl2' := Int32.toInt_inj.mp (c.trans c'.symm); exact ⟨a.trans (q.trans a'.symm), q, d.trans d'.symm, e.trans e'.symm⟩)
theorem mo7_inj {co lo co' lo' : Int} {gr pd gr' pd' : Int32} {sk sq su sk' sq' su' : Nat → Int32} (h : (co, lo, gr, pd, sk, sq, su) = ((co', lo', gr', pd', sk', sq', su') : Mo7)) : co = co' ∧ lo = lo' ∧ gr = gr' ∧ pd = pd' ∧ sk = sk' ∧ sq = sq' ∧ su = su' := by
  injection h with h1 h
  injection h with h2 h
  injection h with h3 h
  injection h with h4 h
  injection h with h5 h
  injection h with h6 h7
  exact ⟨h1, h2, h3, h4, h5, h6, h7⟩
end DET
-- ===== the books, pure: filling, claiming =====
section PY
variable {x : Int} {t : Nat → Int} {j N : Nat} {pf pe : Int32} {D F S : Nat → Int32} {lf l2 z : Int32} {pt : Int}
theorem py_0 {x y : Int32} (hx : 0 ≤ x.toInt) (hy : y.toInt = 84 * x.toInt) : y.toNatClampNeg = 84 * x.toNatClampNeg + 0 := by
  have a := nc_int hx
  have b := nc_int (x := y) (by omega)
  omega
theorem lft_s0 (h : 0 ≤ x) : x = lft x t 0 := by
  show x = if (0 : Int) ≤ x then x - 0 else 0
  rw [if_pos h]
  omega
theorem py_k (h : lf.toInt = lft x t j) (ht : t j = 0) : lf.toInt = lft x t (j + 1) := by
  have a := lft_ge x t j
  rw [lft_up (by omega), ht, h]
  split <;> omega
theorem py_l (h : lf.toInt = lft x t j) (ht : 0 ≤ t j) (hp : (pt = lf.toInt ∧ lf.toInt ≤ t j) ∨ (pt = t j ∧ t j < lf.toInt)) (hl : l2.toInt = lf.toInt - pt) : l2.toInt = lft x t (j + 1) := by
  rw [lft_up ht, ← h]
  split <;> omega
theorem lft_tz (h : j ≤ N) : lft x (tz N t) j = lft x t j := by
  unfold lft
  rw [sm_c (f := tz N t) (g := t) (n := j) (fun k hk => by unfold tz; exact if_pos (by omega))]
theorem tz_in (h : j < N) : tz N t j = t j := if_pos h
theorem py_v (hj : j < N) (h : lf.toInt = lft x (tz N (tO D F S)) j) (hp : (pt = lf.toInt ∧ lf.toInt ≤ tO D F S j) ∨ (pt = tO D F S j ∧ tO D F S j < lf.toInt)) (hz : z.toInt = (F j).toInt + pt) : z = vF x D F S j := by
  rw [lft_tz (by omega)] at h
  refine i32_of ?_
  rw [← h]
  split <;> omega
theorem fi_rw {p : Nat} {qf qe qd du fi th co gfi : Nat → Int32} (hR : rw1 p N pf pe D F S qf qe qd du fi th co) (h1 : sgI true gfi fi p N (cS0 S) (vF x D F S) F N) : rw1 p N pf pe D (fU (cS0 S) (vF x D F S) F 0 N) S qf qe qd du gfi th co := by
  refine ⟨hR.1, fun j hj => ?_, fun j a b => ⟨h1.2.1 rfl j a b, (hR.2.2.1 j a b).2⟩, hR.2.2.2⟩
  obtain ⟨e1, -, e3, e4⟩ := hR.2.1 j hj
  exact ⟨e1, h1.1 j hj, e3, e4⟩
end PY
theorem cl_v {x : Int} {T : Nat → Int} {n : Nat} {r kk : Int32} (hz : x = 0 → kk.toInt = 0) (hs : r.toInt = sm T kk.toNatClampNeg) (he : x = 0 ∨ kk.toNatClampNeg = n) : r.toInt = if x = 0 then 0 else sm T n := by
  by_cases q : x = 0
  · rw [if_pos q, hs]
    have e := nc_int (x := kk) (by have := hz q; omega)
    rw [show kk.toNatClampNeg = 0 by have := hz q; omega]
    rfl
  · rw [if_neg q, hs, he.resolve_left q]
theorem cl_r {x : Int} {c : Nat → Bool} {v w f : Nat → Int32} {n : Nat} {kk : Int32} (hz : x = 0 → kk.toInt = 0) (hs : f = fU c v w 0 kk.toNatClampNeg) (he : x = 0 ∨ kk.toNatClampNeg = n) : f = if x = 0 then w else fU c v w 0 n := by
  by_cases q : x = 0
  · rw [if_pos q, hs]
    have e := nc_int (x := kk) (by have := hz q; omega)
    rw [show kk.toNatClampNeg = 0 by have := hz q; omega, fU_0]
  · rw [if_neg q, hs, he.resolve_left q]
-- ----- a month, as the reference does it
theorem la_tab {n : Int32} {k : Nat} {tP : Nat → Pl9} {cl y : Int} {N : Nat} {pg pf pe pl pk : Int32} {D F S qg ql qk qf qe qd du fi th co gl gth gco : Nat → Int32} (hm : mR n (lapT cl y k tP) qg ql qk qf qe qd du fi th co) (hA : wfA n cl tP) (hk : (k : Int) < n.toInt) (eT : (N, pg, pf, pe, pl, pk, D, F, S) = tP k) (hy : 1 ≤ y)
    (hf : ((gl = ql ∧ gth = th ∧ gco = co) ∧ ¬ ((ql k).toInt = 0 ∧ y ≤ sm (tV pf pe D F S cl) N)) ∨ (((ql k).toInt = 0 ∧ y ≤ sm (tV pf pe D F S cl) N) ∧ gl = upd ql k 1 ∧ rw1 k N pf pe D F (fU (cLa D F S) (vLa pf pe cl) S 0 N) qf qe qd du fi gth gco ∧ sgO gth th k ∧ sgO gco co k)) : mR n (lapT cl y (k + 1) tP) qg gl qk qf qe qd du fi gth gco := by
  have hm9 := hm.1 k hk
  have hw9 := hA k hk
  rw [lapT_at] at hm9
  rw [← eT] at hm9 hw9
  have hl := hw9.1.2.2.1
  have hA2 : wfA n cl (lapT cl y k tP) := by
    intro i hi
    unfold lapT
    by_cases q : i < k
    · rw [if_pos q]; exact wf_ls (hA i hi)
    · rw [if_neg q]; exact hA i hi
  rcases hf with ⟨⟨rfl, rfl, rfl⟩, hn⟩ | ⟨hy2, hgl, hrw, o1, o2⟩
  · rw [lapT_keep]
    · exact hm
    · rw [← eT]
      refine ls_n rfl (fun hy3 => ?_)
      have hy4 : y ≤ sm (tV pf pe D F S cl) N := hy3
      rcases hl with q | q
      · exact hn ⟨by rw [hm9.1.2.1, q]; decide, hy4⟩
      · have := ov_la (T := (N, pg, pf, pe, pl, pk, D, F, S)) hw9 q
        have h0 : sm (tV pf pe D F S cl) N = 0 := this
        omega
  · have e := lapT_up (cl := cl) (y := y) (n := k) (t := tP) (T := laT cl (N, pg, pf, pe, pl, pk, D, F, S)) (ls_y eT.symm (by show _ ≤ sm _ _; exact hy2.2) rfl)
    rw [← e, hgl]
    exact mR_set hm hA2 hk ⟨⟨hm9.1.1, pk_us, hm9.1.2.2⟩, hrw⟩ sgO_r sgO_r o1 o2 upd_o (fun _ _ => rfl)
section BY
variable {mx td co lo c2 l2 : Int} {gr pd pd2 : Int32} {sc sl sk sp su sk2 sp2 su2 : Nat → Int32}
theorem by_pause (hr : 1 ≤ td ∧ (sk (td.toNat - 1)).toInt < (sl (td.toNat - 1)).toInt) (hp : paB co lo mx (ptA td sc sl sk) = true) (hs : su2 = upd su (td.toNat - 1) (su (td.toNat - 1) + 1)) : (co, lo, gr, pd, sk, sp, su2) = byM mx td sc sl (co, lo, gr, pd, sk, sp, su) := by
  show _ = if _ then _ else _
  rw [if_pos hr, if_pos hp, hs]
theorem by_paid (hr : 1 ≤ td ∧ (sk (td.toNat - 1)).toInt < (sl (td.toNat - 1)).toInt) (hp : paB co lo mx (ptA td sc sl sk) = false ∧ coB co lo mx (ptA td sc sl sk) = c2 ∧ loB co lo mx (ptA td sc sl sk) = l2) (hd : pd2 = pd + Int32.ofInt (ptA td sc sl sk)) (hk : sk2 = upd sk (td.toNat - 1) (sk (td.toNat - 1) + 1)) (hs : sp2 = upd sp (td.toNat - 1) (sp (td.toNat - 1) + Int32.ofInt (ptA td sc sl sk))) : (c2, l2, gr, pd2, sk2, sp2, su) = byM mx td sc sl (co, lo, gr, pd, sk, sp, su) := by
  show _ = if _ then _ else _
  rw [if_pos hr, if_neg (by rw [hp.1]; decide), hp.2.1, hp.2.2, hd, hk, hs]
theorem by_none (hr : ¬ (1 ≤ td ∧ (sk (td.toNat - 1)).toInt < (sl (td.toNat - 1)).toInt)) : (co, lo, gr, pd, sk, sp, su) = byM mx td sc sl (co, lo, gr, pd, sk, sp, su) := by
  show _ = if _ then _ else _
  rw [if_neg hr]
theorem pb_of {M : Mo7} (h : (co, lo, gr, pd, sk, sp, su) = M) (hc : (co ≤ lo ∧ c2 = 0 ∧ l2 = lo - co) ∨ (¬ co ≤ lo ∧ c2 = co - lo ∧ l2 = 0)) : (c2, l2, gr, pd, sk, sp, su) = pbM M := by
  rw [← h]
  show _ = (if co ≤ lo then 0 else co - lo, if co ≤ lo then lo - co else 0, gr, pd, sk, sp, su)
  rcases hc with ⟨a, b, c⟩ | ⟨a, b, c⟩
  · rw [if_pos a, if_pos a, b, c]
  · rw [if_neg a, if_neg a, b, c]
theorem gr_of {x z : Int} {gr2 : Int32} (hz : z = lo * x / 1000) (hl : l2 = lo + z) (hg : gr2 = gr + Int32.ofInt z) : (co, l2, gr2, pd, sk, sp, su) = grM x (co, lo, gr, pd, sk, sp, su) := by
  show _ = (co, lo + lo * x / 1000, gr + Int32.ofInt (lo * x / 1000), pd, sk, sp, su)
  rw [hl, hg, hz]
end BY
theorem mn_tab {n : Int32} {c2 cl k2 y : Int} {nP k : Nat} {tP : Nat → Pl9} {qg ql qk qf qe qd du fi th co : Nat → Int32} (h : c2 = cl + k2) (nk : (k : Int) = k2) (hm : mR n (lapT c2 y nP (lpI y nP cl k tP)) qg ql qk qf qe qd du fi th co) : mR n (lpI y nP cl (k + 1) tP) qg ql qk qf qe qd du fi th co := by
  show mR n (lapT (cl + k) y nP (lpI y nP cl k tP)) qg ql qk qf qe qd du fi th co
  rw [nk, ← h]
  exact hm
theorem mn_mo {M Q W : Mo7} {x mx td : Int} {sc sl : Nat → Int32} {k : Nat} (h : Q = mnI x mx td sc sl k M) (h2 : W = mnM x mx td sc sl Q) : W = mnI x mx td sc sl (k + 1) M := by
  rw [h2, h]
  rfl
-- ===== the books, pure: a new pledge, what is sure, what is given back =====
/-- the dues that come -/
def tDu (pf pe : Int32) (k : Nat) : Int := if mo pf pe k ≤ 119 then 1 else 0
def nDu (pf pe n : Int32) : Int := sm (tDu pf pe) n.toNatClampNeg
theorem tDu_bd {pf pe : Int32} (k : Nat) : 0 ≤ tDu pf pe k ∧ tDu pf pe k ≤ 1 := by
  unfold tDu
  split <;> omega
/-- they are the first ones -/
theorem nDu_in {pf pe : Int32} (he : 0 ≤ pe.toInt) : ∀ {n k : Nat}, k < n → ((k : Int) < sm (tDu pf pe) n ↔ mo pf pe k ≤ 119)
  | 0, k, h => absurd h (Nat.not_lt_zero _)
  | n + 1, k, h => by
    have hb := sm_bd (f := tDu pf pe) (c := 1) (n := n) (fun j _ => tDu_bd j)
    have e : sm (tDu pf pe) (n + 1) = sm (tDu pf pe) n + tDu pf pe n := rfl
    by_cases q : mo pf pe n ≤ 119
    · have a : ∀ m, m ≤ n → sm (tDu pf pe) m = m := by
        intro m
        induction m with
        | zero => intro _; rfl
        | succ m ih =>
          intro hm
          have hq := mo_le (pf := pf) (pe := pe) he (show m ≤ n by omega)
          show sm (tDu pf pe) m + tDu pf pe m = _
          rw [ih (by omega)]
          unfold tDu
          rw [if_pos (by omega)]
          omega
      have hk := mo_le (pf := pf) (pe := pe) he (show k ≤ n by omega)
      rw [e, a n (Nat.le_refl _)]
      unfold tDu
      rw [if_pos q]
      constructor <;> intro _ <;> omega
    · have z : tDu pf pe n = 0 := if_neg q
      rw [e, z, Int.add_zero]
      by_cases r : k = n
      · subst r
        constructor <;> intro _ <;> omega
      · exact nDu_in he (by omega)
/-- a pledge as it is made -/
def nwT (x1 x2 x3 x4 x5 : Int32) : Pl9 := ((nDu x3 x4 x5).toNat, x1, x3, x4, 0, 0, fU (fun _ => true) (fun _ => x2) (fun _ => 0) 0 (nDu x3 x4 x5).toNat, fun _ => 0, fun _ => 0)
section NEW
variable {x1 x2 x3 x4 x5 : Int32}
theorem nDu_bd (h5 : 1 ≤ x5.toInt ∧ x5.toInt ≤ 84) : 0 ≤ nDu x3 x4 x5 ∧ nDu x3 x4 x5 ≤ x5.toInt := by
  have e := nc_int (x := x5) (by omega)
  have hb := sm_bd (f := tDu x3 x4) (c := 1) (n := x5.toNatClampNeg) (fun j _ => tDu_bd j)
  unfold nDu
  omega
theorem nw_wf {cl : Int} (h1 : 0 ≤ x1.toInt ∧ x1.toInt ≤ 29) (h2 : 1 ≤ x2.toInt ∧ x2.toInt ≤ 100000) (h3 : 0 ≤ x3.toInt ∧ x3.toInt ≤ 119) (h4 : 1 ≤ x4.toInt ∧ x4.toInt ≤ 12) (h5 : 1 ≤ x5.toInt ∧ x5.toInt ≤ 84) : wfT cl (nwT x1 x2 x3 x4 x5) := by
  have hb := nDu_bd (x3 := x3) (x4 := x4) h5
  have e5 := nc_int (x := x5) (by omega)
  refine ⟨⟨by omega, h1, Or.inl rfl, Or.inl rfl⟩, ⟨⟨h3.1, h3.2, h4.1, h4.2⟩, fun k hk => ⟨?_, (show 0 ≤ (0 : Int32).toInt ∧ (0 : Int32).toInt ≤ 2 by decide), ?_⟩⟩, fun k hk hs => absurd hs (show ¬ (0 : Int32).toInt = 1 by decide), fun e => absurd e (by decide)⟩
  · rw [fU_p hk rfl]
    show 0 ≤ (0 : Int32).toInt ∧ (0 : Int32).toInt ≤ x2.toInt ∧ 1 ≤ x2.toInt ∧ x2.toInt ≤ 100000
    have : (0 : Int32).toInt = 0 := by decide
    omega
  · have := nDu_in (pf := x3) (pe := x4) (by omega) (n := x5.toNatClampNeg) (k := k) (by omega)
    exact this.mp (by unfold nDu at hk; omega)
end NEW
theorem okE_grow {ci : ClassId} {n : Nat} {bn : Int32} {t : Nat → Pl9} {T : Pl9} {fa : Nat → Option Nat} {B : Nat → va_W} {b : va_W} {pv : Nat} (hn : (n : Int) = bn.toInt) (h : ∀ i, i < n → okE ci (t i) (fa i) (B i)) (hb : okE ci T (some pv) b) : ∀ i, i < n + 1 → okE ci (tbS t bn.toNatClampNeg T i) (va_up fa bn.toNatClampNeg (some pv) i) (setB B n b i) := by
  have e : n = bn.toNatClampNeg := by have := nc_int (x := bn) (by omega); omega
  subst e
  intro i hi
  by_cases q : i = bn.toNatClampNeg
  · rw [q, tbS_s, setB_s, show va_up fa bn.toNatClampNeg (some pv) bn.toNatClampNeg = some pv from if_pos rfl]
    exact hb
  · rw [tbS_n q, setB_n q, show va_up fa bn.toNatClampNeg (some pv) i = fa i from if_neg q]
    exact h i (by omega)
-- ----- sure
def suN (a b : Int) (tP : Nat → Pl9) (n : Nat) : Int := sm (fun i => wiT a b (tP i)) n
def suD (c : Int) (tP : Nat → Pl9) (n : Nat) : Int := sm (fun i => duT c (tP i)) n
def suF (c : Int) (tP : Nat → Pl9) (n : Nat) : Int := sm (fun i => flT c (tP i)) n
def suV (cl x : Int) (tP : Nat → Pl9) (n : Nat) : Int32 := if suD cl tP n = 0 then 0 else (Int64.ofInt (suN (cl + 1) (cl + x) tP n * suF cl tP n / suD cl tP n)).toInt32
def Rsur (bn : Int32) (cl : Int) (x1 : Int32) (tP : Nat → Pl9) (r : Int32) : Prop := (¬ (1 ≤ x1.toInt ∧ x1.toInt ≤ 84) ∧ r = (-2)) ∨ ((1 ≤ x1.toInt ∧ x1.toInt ≤ 84) ∧ r = suV cl x1.toInt tP bn.toNatClampNeg)
theorem det_sur {bn x1 r r' : Int32} {cl : Int} {tP : Nat → Pl9} (h : Rsur bn cl x1 tP r) (h' : Rsur bn cl x1 tP r') : r = r' := by
  rcases h with ⟨a, b⟩ | ⟨a, b⟩ <;> rcases h' with ⟨a', b'⟩ | ⟨a', b'⟩ <;> first | exact absurd a' a | exact absurd a a' | exact b.trans b'.symm
theorem su_bd {f : Pl9 → Int} {cl : Int} {tP : Nat → Pl9} {n k : Nat} (h : ∀ i, i < n → wfT cl (tP i)) (hf : ∀ T, wfT cl T → 0 ≤ f T ∧ f T ≤ 8400000) (hk : k ≤ n) : 0 ≤ sm (fun i => f (tP i)) k ∧ sm (fun i => f (tP i)) k ≤ k * 8400000 := sm_bd (fun i hi => hf _ (h i (by omega)))
theorem su_of {cl x : Int} {tP : Nat → Pl9} {n : Nat} {y : Int64} (h : ¬ suD cl tP n = 0) (hy : y.toInt = suN (cl + 1) (cl + x) tP n * suF cl tP n / suD cl tP n) : y.toInt32 = suV cl x tP n := by
  unfold suV
  rw [if_neg h, ← hy, Int64.ofInt_toInt]
theorem su_0 {cl x : Int} {tP : Nat → Pl9} {n : Nat} (h : suD cl tP n = 0) : (0 : Int32) = suV cl x tP n := by
  unfold suV
  rw [if_pos h]
-- ----- what is given back
def bkV (co gv al : Int) (full : Bool) : Int := if al = 0 then 0 else if full = true ∧ al ≤ co then gv else co * gv / al
def smI (f : Nat → Int32) : Nat → Int32
  | 0 => 0
  | n + 1 => smI f n + f n
theorem sm_add {f g : Nat → Int} : ∀ {n : Nat}, sm (fun k => f k + g k) n = sm f n + sm g n
  | 0 => rfl
  | n + 1 => by
    rw [sm_s, sm_s, sm_s, sm_add (n := n)]
    omega
theorem sm_one {x y : Int} : ∀ {n : Nat}, 0 ≤ x → x < n → sm (fun g : Nat => if x = g then y else 0) n = y
  | 0, h0, h1 => absurd h1 (by omega)
  | n + 1, h0, h1 => by
    rw [sm_s]
    by_cases q : x = n
    · have e : sm (fun g : Nat => if x = g then y else 0) n = 0 := (sm_x (n := 0) (Nat.zero_le _) (fun k _ hk => if_neg (by omega))).trans rfl
      rw [e, if_pos q]
      omega
    · rw [sm_one h0 (by omega), if_neg q]
      omega
/-- what all gave is what each gave -/
theorem gv_all {n : Int32} {u0 u1 : Nat → Int32} (hg : mGi n u0) : ∀ {k : Nat}, (k : Int) ≤ n.toInt → sm (fun g : Nat => sm (tG u0 u1 g) k) 30 = sm (tA u1) k
  | 0, _ => by
    show sm (fun _ : Nat => (0 : Int)) 30 = 0
    exact (sm_x (n := 0) (Nat.zero_le _) (fun _ _ _ => rfl)).trans rfl
  | k + 1, hk => by
    have h := hg k (by omega)
    have e : (fun g : Nat => sm (tG u0 u1 g) (k + 1)) = (fun g : Nat => sm (tG u0 u1 g) k + (if (u0 k).toInt = g then (u1 k).toInt else 0)) := rfl
    rw [e, sm_add, gv_all hg (by omega), sm_one h.1 (by omega), sm_s]
    rfl
theorem bk_le {co al : Int} {gv : Nat → Int} (hc : 0 ≤ co) (ha : 0 < al) (hg : ∀ k, 0 ≤ gv k) : ∀ (n : Nat), al * sm (fun k => co * gv k / al) n ≤ co * sm gv n
  | 0 => by
    rw [sm_0, sm_0]
    omega
  | n + 1 => by
    have ih := bk_le hc ha hg n
    have e := Int.mul_ediv_self_le (x := co * gv n) (k := al) (by omega)
    rw [sm_s, sm_s, Int.mul_add, Int.mul_add]
    omega
theorem sm_upL {t : Nat → Int} {nn y : Int64} {kk k2 : Int32} (h0 : 0 ≤ kk.toInt) (h : nn.toInt = sm t kk.toNatClampNeg) (hk : k2.toInt = kk.toInt + 1) (hy : y.toInt = nn.toInt + t kk.toNatClampNeg) : y.toInt = sm t k2.toNatClampNeg := by
  rw [nc_s h0 hk]
  show _ = sm t _ + t _
  omega
theorem ln_bd {c : Int} {T : Pl9} (h : wfT c T) : 0 ≤ lnT T ∧ lnT T ≤ 1 := by
  obtain ⟨N, pg, pf, pe, pl, pk, D, F, S⟩ := T
  show 0 ≤ pl.toInt ∧ pl.toInt ≤ 1
  rcases h.1.2.2.1 with q | q <;> (rw [q]; decide)
theorem z01 {x : Int32} (h : x = 0 ∨ x = 1) : x.toInt = 0 ∨ x.toInt = 1 := by
  rcases h with q | q
  · rw [q]; exact Or.inl (by decide)
  · rw [q]; exact Or.inr (by decide)
-- ===== the books, pure: the class's stages =====
abbrev Sg6 := Int32 × Int32 × Int32 × Int32 × Int32 × Int32
def okZ (T : Sg6) (r : Option Nat) (b : va_W) : Prop := ∃ (h : Nat) (s0 s1 s2 s3 s4 s5 : Int32), r = some h ∧ b = [(h, .inr (4, [.int s0, .int s1, .int s2, .int s3, .int s4, .int s5]))] ∧ T = (s0, s1, s2, s3, s4, s5)
theorem okZ_set {n j : Nat} {t : Nat → Sg6} {T : Sg6} {fa : Nat → Option Nat} {B : Nat → va_W} {b : va_W} (h : ∀ i, i < n → okZ (t i) (fa i) (B i)) (hb : okZ T (fa j) b) : ∀ i, i < n → okZ (tbS t j T i) (fa i) (setB B j b i) := by
  intro i hi
  by_cases q : i = j
  · rw [q, tbS_s, setB_s]; exact hb
  · rw [tbS_n q, setB_n q]; exact h i hi
theorem okZ_grow {n : Nat} {bn : Int32} {t : Nat → Sg6} {T : Sg6} {fa : Nat → Option Nat} {B : Nat → va_W} {b : va_W} {pv : Nat} (hn : (n : Int) = bn.toInt) (h : ∀ i, i < n → okZ (t i) (fa i) (B i)) (hb : okZ T (some pv) b) : ∀ i, i < n + 1 → okZ (tbS t bn.toNatClampNeg T i) (va_up fa bn.toNatClampNeg (some pv) i) (setB B n b i) := by
  have e : n = bn.toNatClampNeg := by have := nc_int (x := bn) (by omega); omega
  subst e
  intro i hi
  by_cases q : i = bn.toNatClampNeg
  · rw [q, tbS_s, setB_s, show va_up fa bn.toNatClampNeg (some pv) bn.toNatClampNeg = some pv from if_pos rfl]
    exact hb
  · rw [tbS_n q, setB_n q, show va_up fa bn.toNatClampNeg (some pv) i = fa i from if_neg q]
    exact h i (by omega)
/-- how far stage i is -/
def prZ (td : Int) (sl sk : Nat → Int32) (i : Nat) : Int32 := if (i : Int) < td then (if (sk i).toInt < (sl i).toInt then 1 else 2) else 0
def zT (td : Int) (sc sl sk sq su : Nat → Int32) (i : Nat) : Sg6 := (sc i, sl i, prZ td sl sk i, sk i, sq i, su i)
section ZT
variable {td n : Int} {sc sl sk sq su : Nat → Int32} {j : Nat} {s0 s1 s2 s3 s4 s5 z2 z3 z4 z5 : Int32}
theorem prZ_i : ((j : Int) < td ∧ (sk j).toInt < (sl j).toInt ∧ (prZ td sl sk j).toInt = 1) ∨ ((j : Int) < td ∧ ¬ (sk j).toInt < (sl j).toInt ∧ (prZ td sl sk j).toInt = 2) ∨ (¬ (j : Int) < td ∧ (prZ td sl sk j).toInt = 0) := by
  unfold prZ
  by_cases a : (j : Int) < td
  · by_cases b : (sk j).toInt < (sl j).toInt
    · rw [if_pos a, if_pos b]; exact Or.inl ⟨a, b, by decide⟩
    · rw [if_pos a, if_neg b]; exact Or.inr (Or.inl ⟨a, b, by decide⟩)
  · rw [if_neg a]; exact Or.inr (Or.inr ⟨a, by decide⟩)
theorem zT_at (h : zT td sc sl sk sq su j = (s0, s1, s2, s3, s4, s5)) : s0 = sc j ∧ s1 = sl j ∧ s2 = prZ td sl sk j ∧ s3 = sk j ∧ s4 = sq j ∧ s5 = su j := by
  injection h with h1 h
  injection h with h2 h
  injection h with h3 h
  injection h with h4 h
  injection h with h5 h6
  exact ⟨h1.symm, h2.symm, h3.symm, h4.symm, h5.symm, h6.symm⟩
theorem tb_ext {α : Type} {t t' : Nat → α} {j : Nat} {T : α} (hj : T = t' j) (h : ∀ i, ¬ i = j → t i = t' i) : tbS t j T = t' := by
  funext i
  by_cases q : i = j
  · rw [q, tbS_s, hj]
  · rw [tbS_n q, h i q]
/-- a part is booked -/
theorem zT_by {x : Int32} (h : zT td sc sl sk sq su j = (s0, s1, s2, s3, s4, s5)) (hj : (j : Int) < td) (hk : (sk j).toInt < (sl j).toInt) (hk0 : 0 ≤ (sk j).toInt ∧ (sl j).toInt ≤ 24) (h3 : z3 = s3 + 1) (h4 : z4 = s4 + x) (h2 : (s1.toInt ≤ s3.toInt + 1 ∧ z2 = 2) ∨ (¬ s1.toInt ≤ s3.toInt + 1 ∧ z2 = s2)) : tbS (zT td sc sl sk sq su) j (s0, s1, z2, z3, z4, s5) = zT td sc sl (upd sk j (sk j + 1)) (upd sq j (sq j + x)) su := by
  obtain ⟨a0, a1, a2, a3, a4, a5⟩ := zT_at h
  have e1 := i32_add1 (k := sk j) (m := (sl j).toInt) ⟨hk0.1, hk⟩ (by omega)
  refine tb_ext ?_ (fun i hi => ?_)
  · have e2 : z2 = prZ td sl (upd sk j (sk j + 1)) j := by
      unfold prZ
      rw [if_pos hj, pk_us, e1]
      rcases h2 with ⟨b, c⟩ | ⟨b, c⟩
      · rw [if_neg (by rw [a1, a3] at b; omega), c]
      · rw [if_pos (by rw [a1, a3] at b; omega), c, a2]
        unfold prZ
        rw [if_pos hj, if_pos hk]
    show _ = (sc j, sl j, prZ td sl (upd sk j (sk j + 1)) j, upd sk j (sk j + 1) j, upd sq j (sq j + x) j, su j)
    rw [pk_us, pk_us, ← e2, a0, a1, h3, h4, a3, a4, a5]
  · show zT td sc sl sk sq su i = (sc i, sl i, prZ td sl (upd sk j (sk j + 1)) i, upd sk j (sk j + 1) i, upd sq j (sq j + x) i, su i)
    unfold prZ
    rw [pk_un hi, pk_un hi]
    rfl
theorem zT_pa (h : zT td sc sl sk sq su j = (s0, s1, s2, s3, s4, s5)) (h5 : z5 = s5 + 1) : tbS (zT td sc sl sk sq su) j (s0, s1, s2, s3, s4, z5) = zT td sc sl sk sq (upd su j (su j + 1)) := by
  obtain ⟨a0, a1, a2, a3, a4, a5⟩ := zT_at h
  refine tb_ext ?_ (fun i hi => ?_)
  · show _ = (sc j, sl j, prZ td sl sk j, sk j, sq j, upd su j (su j + 1) j)
    rw [pk_us, a0, a1, a2, a3, a4, h5, a5]
  · show zT td sc sl sk sq su i = (sc i, sl i, prZ td sl sk i, sk i, sq i, upd su j (su j + 1) i)
    rw [pk_un hi]
    rfl
/-- the next one is begun -/
theorem zT_go {t2 : Int} (h : zT td sc sl sk sq su j = (s0, s1, s2, s3, s4, s5)) (hj : (j : Int) = td) (h2 : t2 = td + 1) (hk : (sk j).toInt < (sl j).toInt) : tbS (zT td sc sl sk sq su) j (s0, s1, 1, s3, s4, s5) = zT t2 sc sl sk sq su := by
  obtain ⟨a0, a1, a2, a3, a4, a5⟩ := zT_at h
  refine tb_ext ?_ (fun i hi => ?_)
  · have e : prZ t2 sl sk j = 1 := by
      unfold prZ
      rw [if_pos (by omega), if_pos hk]
    show _ = (sc j, sl j, prZ t2 sl sk j, sk j, sq j, su j)
    rw [e, a0, a1, a3, a4, a5]
  · have e : prZ td sl sk i = prZ t2 sl sk i := by
      unfold prZ
      by_cases q : (i : Int) < td
      · rw [if_pos q, if_pos (show (i : Int) < t2 by omega)]
      · rw [if_neg q, if_neg (show ¬ (i : Int) < t2 by omega)]
    show (sc i, sl i, prZ td sl sk i, sk i, sq i, su i) = (sc i, sl i, prZ t2 sl sk i, sk i, sq i, su i)
    rw [e]
/-- one more is told -/
theorem zT_new {c m : Int32} (hj : td ≤ (j : Int)) (hk : sk j = 0) (hq : sq j = 0) (hu : su j = 0) : tbS (zT td sc sl sk sq su) j (c, m, 0, 0, 0, 0) = zT td (upd sc j c) (upd sl j m) sk sq su := by
  refine tb_ext ?_ (fun i hi => ?_)
  · show _ = (upd sc j c j, upd sl j m j, prZ td (upd sl j m) sk j, sk j, sq j, su j)
    have e : prZ td (upd sl j m) sk j = 0 := by
      unfold prZ
      rw [if_neg (by omega)]
    rw [e, pk_us, pk_us, hk, hq, hu]
  · show (sc i, sl i, prZ td sl sk i, sk i, sq i, su i) = (upd sc j c i, upd sl j m i, prZ td (upd sl j m) sk i, sk i, sq i, su i)
    have e : prZ td (upd sl j m) sk i = prZ td sl sk i := by
      unfold prZ
      rw [pk_un hi]
    rw [e, pk_un hi, pk_un hi]
end ZT
theorem i64_add {p : Int64} {x : Int32} : (p + x.toInt64).toInt32 = p.toInt32 + x := by rw [Int64.toInt32_add, Int32.toInt32_toInt64]
-- ===== the books, pure: a new pledge in the reference; the other answers =====
def thV (x3 x4 : Int32) (j : Nat) : Int32 := if mo x3 x4 j ≤ 119 then 1 else 0
def plI (p k : Nat) (x2 x3 x4 : Int32) (du th co gd gt gc : Nat → Int32) : Prop := (∀ i, (i < 84 * p ∨ 84 * p + k ≤ i) → gd i = du i ∧ gt i = th i ∧ gc i = co i) ∧ ∀ j, j < k → gd (84 * p + j) = x2 ∧ gt (84 * p + j) = thV x3 x4 j ∧ gc (84 * p + j) = thV x3 x4 j
section PLI
variable {p k : Nat} {x2 x3 x4 v : Int32} {du th co gd gt gc : Nat → Int32}
theorem plI_0 : plI p 0 x2 x3 x4 du th co du th co := ⟨fun i _ => ⟨rfl, rfl, rfl⟩, fun j hj => absurd hj (Nat.not_lt_zero _)⟩
theorem plI_s (h : plI p k x2 x3 x4 du th co gd gt gc) (hv : v = thV x3 x4 k) : plI p (k + 1) x2 x3 x4 du th co (upd gd (84 * p + k) x2) (upd gt (84 * p + k) v) (upd gc (84 * p + k) v) := by
  refine ⟨fun i hi => ?_, fun j hj => ?_⟩
  · rw [pk_un (by omega), pk_un (by omega), pk_un (by omega)]
    exact h.1 i (by omega)
  · by_cases q : j = k
    · rw [q, pk_us, pk_us, pk_us]
      exact ⟨rfl, hv, hv⟩
    · rw [pk_un (by omega), pk_un (by omega), pk_un (by omega)]
      exact h.2 j (by omega)
theorem th_1 (h : mo x3 x4 k ≤ 119) (hv : v = 1) : v = thV x3 x4 k := by unfold thV; rw [if_pos h, hv]
theorem th_0 (h : ¬ mo x3 x4 k ≤ 119) (hv : v = 0) : v = thV x3 x4 k := by unfold thV; rw [if_neg h, hv]
end PLI
theorem mR_new {n n2 x1 x2 x3 x4 x5 : Int32} {t : Nat → Pl9} {qg ql qk qf qe qd du fi th co gd gt gc : Nat → Int32} (h : mR n t qg ql qk qf qe qd du fi th co) (hw : ∀ i : Nat, (i : Int) < n.toInt → ∃ cl, wfT cl (t i)) (hn : 0 ≤ n.toInt) (h2 : n2.toInt = n.toInt + 1) (hx : (0 ≤ x3.toInt ∧ x3.toInt ≤ 119) ∧ (1 ≤ x4.toInt ∧ x4.toInt ≤ 12) ∧ 1 ≤ x5.toInt ∧ x5.toInt ≤ 84) (hp : plI n.toNatClampNeg x5.toNatClampNeg x2 x3 x4 du th co gd gt gc) : mR n2 (tbS t n.toNatClampNeg (nwT x1 x2 x3 x4 x5)) (upd qg n.toNatClampNeg x1) ql qk (upd qf n.toNatClampNeg x3) (upd qe n.toNatClampNeg x4) (upd qd n.toNatClampNeg x5) gd fi gt gc := by
  have en := nc_int hn
  have e5 := nc_int (x := x5) (by omega)
  have hb := nDu_bd (x3 := x3) (x4 := x4) hx.2.2
  refine ⟨fun i hi => ?_, fun i hi => h.2.1 i (by omega), fun i hi => ?_⟩
  · by_cases q : i = n.toNatClampNeg
    · rw [q, tbS_s]
      have hz : ∀ j, j < 84 → fi (84 * n.toNatClampNeg + j) = 0 ∧ th (84 * n.toNatClampNeg + j) = 0 ∧ co (84 * n.toNatClampNeg + j) = 0 := fun j hj => h.2.2 _ (by omega)
      have hl := h.2.1 n.toNatClampNeg (by omega)
      refine ⟨⟨pk_us, hl.1, hl.2⟩, ⟨pk_us, pk_us, ?_, ?_⟩, fun j hj => ?_, fun j a b => ?_, fun j a b => ?_⟩
      · rw [pk_us]; omega
      · rw [pk_us]; omega
      · have hj5 : j < x5.toNatClampNeg := by omega
        have hi9 := (nDu_in (pf := x3) (pe := x4) (by omega) hj5).mp (by unfold nDu at hj; omega)
        obtain ⟨a, b, c⟩ := hp.2 j hj5
        refine ⟨?_, (hz j (by omega)).1, ?_, ?_⟩
        · rw [a, fU_p hj rfl]
        · rw [b]
          unfold thV
          rw [if_pos hi9]
          exact (vT_1 rfl (by decide)).symm
        · rw [c]
          unfold thV
          rw [if_pos hi9]
          exact (vC_1 rfl (by decide)).symm
      · refine ⟨(hz j b).1, ?_⟩
        by_cases hj5 : j < x5.toNatClampNeg
        · have hi9 : ¬ mo x3 x4 j ≤ 119 := fun z => by
            have := (nDu_in (pf := x3) (pe := x4) (by omega) hj5).mpr z
            unfold nDu at a
            omega
          obtain ⟨-, b9, c9⟩ := hp.2 j hj5
          rw [b9, c9]
          unfold thV
          rw [if_neg hi9]
          exact ⟨rfl, rfl⟩
        · obtain ⟨-, b9, c9⟩ := hp.1 (84 * n.toNatClampNeg + j) (by omega)
          rw [b9, c9]
          exact (hz j b).2
      · rw [pk_us] at b
        have := mt (nDu_in (pf := x3) (pe := x4) (by omega) (n := x5.toNatClampNeg) (k := j) (by omega)).mpr (by unfold nDu at a; omega)
        omega
    · rw [tbS_n q]
      have a := h.1 i (by omega)
      obtain ⟨cl, b⟩ := hw i (by omega)
      generalize t i = T9 at a b ⊢
      obtain ⟨N, pg, pf, pe, pl, pk, D, F, S⟩ := T9
      have hN : N ≤ 84 := b.1.1
      refine ⟨⟨by rw [pk_un q]; exact a.1.1, a.1.2⟩, ⟨by rw [pk_un q]; exact a.2.1.1, by rw [pk_un q]; exact a.2.1.2.1, by rw [pk_un q]; exact a.2.1.2.2⟩, fun j hj => ?_, fun j c d => ?_, fun j c d => a.2.2.2.2 j c (by rw [pk_un q] at d; exact d)⟩
      · obtain ⟨e1, e2, e3⟩ := hp.1 (84 * i + j) (by omega)
        rw [e1, e2, e3]
        exact a.2.2.1 j hj
      · obtain ⟨e1, e2, e3⟩ := hp.1 (84 * i + j) (by omega)
        rw [e2, e3]
        exact a.2.2.2.1 j c d
  · obtain ⟨e1, e2, e3⟩ := hp.1 i (by omega)
    rw [e2, e3]
    exact h.2.2 i (by omega)
def Cpn (cl x1 x2 x3 x4 x5 : Int32) : Prop := (0 ≤ x1.toInt ∧ x1.toInt ≤ 29) ∧ (1 ≤ x2.toInt ∧ x2.toInt ≤ 100000) ∧ (cl.toInt ≤ x3.toInt ∧ x3.toInt ≤ 119) ∧ (1 ≤ x4.toInt ∧ x4.toInt ≤ 12) ∧ 1 ≤ x5.toInt ∧ x5.toInt ≤ 84
def Rple (sp bn cl x1 x2 x3 x4 x5 : Int32) (tP : Nat → Pl9) (r bn2 : Int32) (tP2 : Nat → Pl9) : Prop :=
  (r = (-2) ∧ ¬ Cpn cl x1 x2 x3 x4 x5 ∧ bn2 = bn ∧ tP2 = tP) ∨ (r = (-4) ∧ (Cpn cl x1 x2 x3 x4 x5 ∧ ¬ sp.toInt = 0) ∧ bn2 = bn ∧ tP2 = tP) ∨ (r = (-3) ∧ (Cpn cl x1 x2 x3 x4 x5 ∧ sp.toInt = 0 ∧ bn.toInt = 60) ∧ bn2 = bn ∧ tP2 = tP) ∨
  (r = bn ∧ (Cpn cl x1 x2 x3 x4 x5 ∧ sp.toInt = 0 ∧ bn.toInt < 60) ∧ bn2.toInt = bn.toInt + 1 ∧ tP2 = tbS tP bn.toNatClampNeg (nwT x1 x2 x3 x4 x5))
theorem det_ple {sp bn cl x1 x2 x3 x4 x5 r bn2 r' bn2' : Int32} {tP t t' : Nat → Pl9} (h : Rple sp bn cl x1 x2 x3 x4 x5 tP r bn2 t) (h' : Rple sp bn cl x1 x2 x3 x4 x5 tP r' bn2' t') : r = r' ∧ bn2 = bn2' ∧ t = t' := by
  rcases h with ⟨a, b, c, d⟩ | ⟨a, ⟨b, e⟩, c, d⟩ | ⟨a, ⟨b, e, f⟩, c, d⟩ | ⟨a, ⟨b, e, f⟩, c, d⟩ <;> rcases h' with ⟨a', b', c', d'⟩ | ⟨a', ⟨b', e'⟩, c', d'⟩ | ⟨a', ⟨b', e', f'⟩, c', d'⟩ | ⟨a', ⟨b', e', f'⟩, c', d'⟩ <;> first | exact absurd b' b | exact absurd b b' | exact absurd e' e | exact absurd e e' | exact ⟨a.trans a'.symm, c.trans c'.symm, d.trans d'.symm⟩ | exact ⟨a.trans a'.symm, Int32.toInt_inj.mp (c.trans c'.symm), d.trans d'.symm⟩ | (exfalso; omega)
def Cdc (x1 x2 x3 : Int32) : Prop := (0 ≤ x1.toInt ∧ x1.toInt ≤ 29) ∧ 0 ≤ x2.toInt ∧ x2.toInt ≤ x3.toInt ∧ x3.toInt ≤ 119
def Rdec (sp x1 x2 x3 : Int32) (g0 g1 : Nat → Int32) (r : Int32) (z0 z1 : Nat → Int32) : Prop :=
  (r = (-2) ∧ ¬ Cdc x1 x2 x3 ∧ z0 = g0 ∧ z1 = g1) ∨ (r = (-4) ∧ (Cdc x1 x2 x3 ∧ ¬ sp.toInt = 0) ∧ z0 = g0 ∧ z1 = g1) ∨ (r = 1 ∧ (Cdc x1 x2 x3 ∧ sp.toInt = 0) ∧ z0 = upd g0 x1.toNatClampNeg x2 ∧ z1 = upd g1 x1.toNatClampNeg x3)
theorem det_dec {sp x1 x2 x3 r r' : Int32} {g0 g1 z0 z1 z0' z1' : Nat → Int32} (h : Rdec sp x1 x2 x3 g0 g1 r z0 z1) (h' : Rdec sp x1 x2 x3 g0 g1 r' z0' z1') : r = r' ∧ z0 = z0' ∧ z1 = z1' := by
  rcases h with ⟨a, b, c, d⟩ | ⟨a, ⟨b, e⟩, c, d⟩ | ⟨a, ⟨b, e⟩, c, d⟩ <;> rcases h' with ⟨a', b', c', d'⟩ | ⟨a', ⟨b', e'⟩, c', d'⟩ | ⟨a', ⟨b', e'⟩, c', d'⟩ <;> first | exact absurd b' b | exact absurd b b' | exact absurd e' e | exact absurd e e' | exact ⟨a.trans a'.symm, c.trans c'.symm, d.trans d'.symm⟩

