-- ===== a TRUST's text, pure: tokens, words, numbers, lines =====
def b8 (B : Nat → Int32) (j : Nat) : Int32 := B j &&& 255
def tS (c : Int32) : Bool := decide (c.toInt = 32 ∨ c.toInt = 10)
def tL (c : Int32) : Bool := decide (97 ≤ c.toInt ∧ c.toInt ≤ 122)
def tD (c : Int32) : Bool := decide (48 ≤ c.toInt ∧ c.toInt ≤ 57)
def rn (p : Int32 → Bool) (B : Nat → Int32) : Nat → Nat → Nat
  | 0, j => j
  | f + 1, j => if p (b8 B j) = true then rn p B f (j + 1) else j
/-- the first place from j on, n at most, whose byte isn't one of p -/
def rnE (p : Int32 → Bool) (B : Nat → Int32) (n j : Nat) : Nat := rn p B (n - j) j
theorem rnE_go {p : Int32 → Bool} {B : Nat → Int32} {n j : Nat} (h : j < n) (hp : p (b8 B j) = true) : rnE p B n j = rnE p B n (j + 1) := by
  have e : n - j = (n - (j + 1)) + 1 := by omega
  show rn p B (n - j) j = rn p B (n - (j + 1)) (j + 1)
  rw [e]
  show (if p (b8 B j) = true then rn p B (n - (j + 1)) (j + 1) else j) = _
  rw [if_pos hp]
theorem rnE_no {p : Int32 → Bool} {B : Nat → Int32} {n j : Nat} (hp : p (b8 B j) = false) : rnE p B n j = j := by
  show rn p B (n - j) j = j
  cases n - j with
  | zero => rfl
  | succ f =>
    show (if p (b8 B j) = true then rn p B f (j + 1) else j) = j
    rw [hp]; rfl
theorem rnE_end {p : Int32 → Bool} {B : Nat → Int32} {n j : Nat} (h : n ≤ j) : rnE p B n j = j := by
  have e : n - j = 0 := by omega
  show rn p B (n - j) j = j
  rw [e]; rfl
theorem rn_bd {p : Int32 → Bool} {B : Nat → Int32} : ∀ (f j : Nat), j ≤ rn p B f j ∧ rn p B f j ≤ j + f
  | 0, j => ⟨Nat.le_refl _, Nat.le_refl _⟩
  | f + 1, j => by
    show j ≤ (if p (b8 B j) = true then rn p B f (j + 1) else j) ∧ (if p (b8 B j) = true then rn p B f (j + 1) else j) ≤ j + (f + 1)
    have := rn_bd (p := p) (B := B) f (j + 1)
    split <;> omega
theorem rnE_bd {p : Int32 → Bool} {B : Nat → Int32} {n j : Nat} (h : j ≤ n) : j ≤ rnE p B n j ∧ rnE p B n j ≤ n := by
  have := rn_bd (p := p) (B := B) (n - j) j
  unfold rnE
  omega
/-- six digits at most, from f on -/
def vl (B : Nat → Int32) (f : Nat) : Nat → Int32
  | 0 => 0
  | i + 1 => if i < 6 then 10 * vl B f i + b8 B (f + i) - 48 else vl B f i
def tkF (B : Nat → Int32) (n j : Nat) : Nat := rnE tS B n j
def tkE (B : Nat → Int32) (n j : Nat) : Nat := if tkF B n j = n then n else if tL (b8 B (tkF B n j)) = true then rnE tL B n (tkF B n j) else if tD (b8 B (tkF B n j)) = true then rnE tD B n (tkF B n j) else tkF B n j + 1
def tkK (B : Nat → Int32) (n j : Nat) : Int32 := if tkF B n j = n then 0 else if tL (b8 B (tkF B n j)) = true then 1 else if tD (b8 B (tkF B n j)) = true then (if tkE B n j - tkF B n j ≤ 6 then 2 else 4) else if b8 B (tkF B n j) = 59 then 3 else 4
def tkV (B : Nat → Int32) (n j : Nat) : Int32 := vl B (tkF B n j) (tkE B n j - tkF B n j)
theorem tk_bd {B : Nat → Int32} {n j : Nat} (h : j ≤ n) : j ≤ tkF B n j ∧ tkF B n j ≤ tkE B n j ∧ tkE B n j ≤ n := by
  have h1 := rnE_bd (p := tS) (B := B) h
  have h2 := rnE_bd (p := tL) (B := B) (show tkF B n j ≤ n from h1.2)
  have h3 := rnE_bd (p := tD) (B := B) (show tkF B n j ≤ n from h1.2)
  unfold tkE
  unfold tkF at *
  split
  · omega
  · split
    · omega
    · split <;> omega
/-- the bytes f .. e-1 are the i-th word -/
def wd (B : Nat → Int32) (f e i : Nat) : Bool := decide (e - f = sLen i) && (List.range (sLen i)).all (fun j => decide (b8 B (f + j) = sB i j))
def lnO (B : Nat → Int32) (f e : Nat) : Int32 := if wd B f e 0 = true then 0 else if wd B f e 1 = true then 1 else if wd B f e 2 = true then 2 else if wd B f e 3 = true then 3 else if wd B f e 4 = true then 4 else if wd B f e 5 = true then 5 else (-1)
abbrev PRm := Sum (Int32 × Nat) ((Nat → Int32) × Nat)
def nums (B : Nat → Int32) (n : Nat) : Nat → Nat → (Nat → Int32) → Nat → PRm
  | 0, _, R, j => .inr (R, j)
  | c + 1, r, R, j => if tkK B n j = 2 then (if (tLeast r).toInt ≤ (tkV B n j).toInt ∧ (tkV B n j).toInt ≤ (tMost r).toInt then nums B n c (r + 1) (upd R r (tkV B n j)) (tkE B n j) else .inl (2, tkF B n j)) else .inl (1, tkF B n j)
def lnS (B : Nat → Int32) (n k : Nat) (R : Nat → Int32) (j : Nat) : PRm := if k = 5 then (if tkK B n j = 1 ∧ wd B (tkF B n j) (tkE B n j) 6 = true then .inr (upd R 8 1, tkE B n j) else if tkK B n j = 1 ∧ wd B (tkF B n j) (tkE B n j) 7 = true then .inr (upd R 8 0, tkE B n j) else .inl (1, tkF B n j)) else nums B n (tNums k).toNatClampNeg (tFirst k).toNatClampNeg R j
abbrev PRs := Sum (Int32 × Nat) ((Nat → Int32) × (Nat → Int32) × Nat)
/-- a line with its sign, from its first token at j on -/
def stp (B : Nat → Int32) (n : Nat) (T R : Nat → Int32) (j : Nat) : PRs := if tkK B n j = 1 ∧ ¬ lnO B (tkF B n j) (tkE B n j) = -1 then (if T (lnO B (tkF B n j) (tkE B n j)).toNatClampNeg = 0 then (match lnS B n (lnO B (tkF B n j) (tkE B n j)).toNatClampNeg R (tkE B n j) with
    | .inl x => .inl x
    | .inr x => if tkK B n x.2 = 3 then .inr (upd T (lnO B (tkF B n j) (tkE B n j)).toNatClampNeg 1, x.1, tkE B n x.2) else .inl (1, tkF B n x.2)) else .inl (3, tkF B n j)) else .inl (1, tkF B n j)
/-- lines, KIND, PLACE, the rules that were read -/
def prs (B : Nat → Int32) (n : Nat) : Nat → (Nat → Int32) → (Nat → Int32) → Nat → Int32 → Int32 × Int32 × Int32 × (Nat → Int32)
  | 0, _, R, _, _ => (-1, 0, -1, R)
  | f + 1, T, R, j, c => if tkK B n j = 0 then (c, 0, -1, R) else (match stp B n T R j with
      | .inl x => (-1, x.1, nI x.2, R)
      | .inr x => prs B n f x.1 x.2.1 x.2.2 (c + 1))
-- ----- the same, by Int32 places
theorem nc_s {x y : Int32} (h0 : 0 ≤ x.toInt) (h : y.toInt = x.toInt + 1) : y.toNatClampNeg = x.toNatClampNeg + 1 := by
  have h1 := nc_int h0
  have h2 := nc_int (x := y) (by omega)
  omega
/-- a run of bytes of p has come from a to b -/
def Run (p : Int32 → Bool) (B : Nat → Int32) (nn a b : Int32) : Prop := a.toInt ≤ b.toInt ∧ b.toInt ≤ nn.toInt ∧ rnE p B nn.toNatClampNeg b.toNatClampNeg = rnE p B nn.toNatClampNeg a.toNatClampNeg
theorem Run_0 {p : Int32 → Bool} {B : Nat → Int32} {nn a : Int32} (h : a.toInt ≤ nn.toInt) : Run p B nn a a := ⟨Int.le_refl _, h, rfl⟩
theorem Run_go {p : Int32 → Bool} {B : Nat → Int32} {nn a b y : Int32} (h0 : 0 ≤ a.toInt) (h : Run p B nn a b) (hl : b.toInt < nn.toInt) (hp : p (b8 B b.toNatClampNeg) = true) (hy : y.toInt = b.toInt + 1) : Run p B nn a y := by
  obtain ⟨h1, h2, h3⟩ := h
  have e := nc_s (x := b) (y := y) (by omega) hy
  have e1 := nc_int (x := b) (by omega)
  have e2 := nc_int (x := nn) (by omega)
  refine ⟨by omega, by omega, ?_⟩
  rw [e, ← rnE_go (by omega) hp]
  exact h3
theorem Run_end {p : Int32 → Bool} {B : Nat → Int32} {nn a b : Int32} (h0 : 0 ≤ a.toInt) (h : Run p B nn a b) (hs : nn.toInt ≤ b.toInt ∨ p (b8 B b.toNatClampNeg) = false) : rnE p B nn.toNatClampNeg a.toNatClampNeg = b.toNatClampNeg := by
  obtain ⟨h1, h2, h3⟩ := h
  rw [← h3]
  cases hs with
  | inl q =>
    have e1 := nc_int (x := b) (by omega)
    have e2 := nc_int (x := nn) (by omega)
    exact rnE_end (by omega)
  | inr q => exact rnE_no q
theorem vl_up {B : Nat → Int32} {f i : Nat} {v c y1 y2 y3 : Int32} (hv : v = vl B f i) (hi : i < 6) (hc : c = b8 B (f + i)) (h1 : y1 = v * 10) (h2 : y2 = y1 + c) (h3 : y3 = y2 - 48) : y3 = vl B f (i + 1) := by
  show y3 = if i < 6 then 10 * vl B f i + b8 B (f + i) - 48 else vl B f i
  rw [if_pos hi, h3, h2, h1, hv, hc, Int32.mul_comm]
theorem vl_keep {B : Nat → Int32} {f i : Nat} {v : Int32} (hv : v = vl B f i) (hi : ¬ i < 6) : v = vl B f (i + 1) := by
  show v = if i < 6 then 10 * vl B f i + b8 B (f + i) - 48 else vl B f i
  rw [if_neg hi]; exact hv
/-- the token at j: its kind, first byte, what is behind it, its value -/
def TK (B : Nat → Int32) (nn j k f e v : Int32) : Prop := k = tkK B nn.toNatClampNeg j.toNatClampNeg ∧ (0 ≤ f.toInt ∧ f.toNatClampNeg = tkF B nn.toNatClampNeg j.toNatClampNeg) ∧ (0 ≤ e.toInt ∧ e.toNatClampNeg = tkE B nn.toNatClampNeg j.toNatClampNeg) ∧ (k = 2 → v = tkV B nn.toNatClampNeg j.toNatClampNeg)
section TKs
variable {B : Nat → Int32} {nn j b : Int32}
theorem tkF_of (h0 : 0 ≤ j.toInt) (h : Run tS B nn j b) (hs : nn.toInt ≤ b.toInt ∨ tS (b8 B b.toNatClampNeg) = false) : tkF B nn.toNatClampNeg j.toNatClampNeg = b.toNatClampNeg := Run_end h0 h hs
theorem nc_ne {x y : Int32} (h0 : 0 ≤ x.toInt) (h1 : x.toInt < y.toInt) : ¬ x.toNatClampNeg = y.toNatClampNeg := by
  have e1 := nc_int h0
  have e2 := nc_int (x := y) (by omega)
  omega
theorem TK_end {v : Int32} (h0 : 0 ≤ j.toInt) (h : Run tS B nn j b) (hb : nn.toInt ≤ b.toInt) : TK B nn j 0 b b v := by
  have hF := tkF_of h0 h (Or.inl hb)
  have e1 := nc_int (x := b) (by have := h.1; omega)
  have e2 := nc_int (x := nn) (by have := h.1; have := h.2.1; omega)
  have e3 : b.toNatClampNeg = nn.toNatClampNeg := by have := h.2.1; omega
  have e4 : tkF B nn.toNatClampNeg j.toNatClampNeg = nn.toNatClampNeg := hF.trans e3
  refine ⟨?_, ⟨by have := h.1; omega, hF.symm⟩, ⟨by have := h.1; omega, ?_⟩, fun q => absurd q (by decide)⟩
  · unfold tkK; rw [if_pos e4]
  · unfold tkE; rw [if_pos e4]; exact e3
theorem TK_word {e v : Int32} (h0 : 0 ≤ j.toInt) (h : Run tS B nn j b) (hb : b.toInt < nn.toInt) (hs : tS (b8 B b.toNatClampNeg) = false) (hl : tL (b8 B b.toNatClampNeg) = true) (he0 : 0 ≤ e.toInt) (he : e.toNatClampNeg = rnE tL B nn.toNatClampNeg b.toNatClampNeg) : TK B nn j 1 b e v := by
  have hF := tkF_of h0 h (Or.inr hs)
  have hn : ¬ tkF B nn.toNatClampNeg j.toNatClampNeg = nn.toNatClampNeg := by rw [hF]; exact nc_ne (by have := h.1; omega) hb
  refine ⟨?_, ⟨by have := h.1; omega, hF.symm⟩, ⟨he0, ?_⟩, fun q => absurd q (by decide)⟩
  · unfold tkK; rw [if_neg hn, hF, if_pos hl]
  · unfold tkE; rw [if_neg hn, hF, if_pos hl]; exact he
theorem TK_num {e v k : Int32} (h0 : 0 ≤ j.toInt) (h : Run tS B nn j b) (hb : b.toInt < nn.toInt) (hs : tS (b8 B b.toNatClampNeg) = false) (hl : tL (b8 B b.toNatClampNeg) = false) (hd : tD (b8 B b.toNatClampNeg) = true) (he0 : b.toInt ≤ e.toInt) (he : e.toNatClampNeg = rnE tD B nn.toNatClampNeg b.toNatClampNeg) (hv : v = vl B b.toNatClampNeg (e.toNatClampNeg - b.toNatClampNeg)) (hk : (k = 2 ∧ e.toInt - b.toInt ≤ 6) ∨ (k = 4 ∧ ¬ e.toInt - b.toInt ≤ 6)) : TK B nn j k b e v := by
  have hF := tkF_of h0 h (Or.inr hs)
  have hb0 : 0 ≤ b.toInt := by have := h.1; omega
  have hn : ¬ tkF B nn.toNatClampNeg j.toNatClampNeg = nn.toNatClampNeg := by rw [hF]; exact nc_ne hb0 hb
  have hE : tkE B nn.toNatClampNeg j.toNatClampNeg = e.toNatClampNeg := by
    unfold tkE; rw [if_neg hn, hF, if_neg (by rw [hl]; decide), if_pos hd]; exact he.symm
  have e1 := nc_int hb0
  have e2 := nc_int (x := e) (by omega)
  refine ⟨?_, ⟨hb0, hF.symm⟩, ⟨by omega, hE.symm⟩, fun _ => ?_⟩
  · unfold tkK
    rw [if_neg hn, hF, if_neg (by rw [hl]; decide), if_pos hd, hE]
    cases hk with
    | inl q => rw [if_pos (by have := q.2; omega)]; exact q.1
    | inr q => rw [if_neg (by have := q.2; omega)]; exact q.1
  · unfold tkV; rw [hF, hE]; exact hv
theorem TK_sign {e v k : Int32} (h0 : 0 ≤ j.toInt) (h : Run tS B nn j b) (hb : b.toInt < nn.toInt) (hs : tS (b8 B b.toNatClampNeg) = false) (hl : tL (b8 B b.toNatClampNeg) = false) (hd : tD (b8 B b.toNatClampNeg) = false) (he : e.toInt = b.toInt + 1) (hk : (k = 3 ∧ b8 B b.toNatClampNeg = 59) ∨ (k = 4 ∧ ¬ b8 B b.toNatClampNeg = 59)) : TK B nn j k b e v := by
  have hF := tkF_of h0 h (Or.inr hs)
  have hb0 : 0 ≤ b.toInt := by have := h.1; omega
  have hn : ¬ tkF B nn.toNatClampNeg j.toNatClampNeg = nn.toNatClampNeg := by rw [hF]; exact nc_ne hb0 hb
  refine ⟨?_, ⟨hb0, hF.symm⟩, ⟨by omega, ?_⟩, fun q => ?_⟩
  · unfold tkK
    rw [if_neg hn, hF, if_neg (by rw [hl]; decide), if_neg (by rw [hd]; decide)]
    cases hk with
    | inl q => rw [if_pos q.2]; exact q.1
    | inr q => rw [if_neg q.2]; exact q.1
  · unfold tkE; rw [if_neg hn, hF, if_neg (by rw [hl]; decide), if_neg (by rw [hd]; decide)]; exact nc_s hb0 he
  · rcases hk with ⟨r, -⟩ | ⟨r, -⟩ <;> (rw [r] at q; exact absurd q (by decide))
end TKs
theorem b8_n (x : Int32) : ∃ k, k < 256 ∧ x &&& 255 = nI k := by
  have e : x = nI x.toBitVec.toNat := by
    apply Int32.toBitVec_inj.1
    show x.toBitVec = BitVec.ofNat 32 x.toBitVec.toNat
    simp
  have m : ∀ k : Nat, nI k &&& 255 = nI (k % 256) := by
    intro k
    apply Int32.toBitVec_inj.1
    show BitVec.ofNat 32 k &&& BitVec.ofNat 32 255 = BitVec.ofNat 32 (k % 256)
    rw [show k % 256 = k &&& 255 from (Nat.and_two_pow_sub_one_eq_mod k 8).symm]
    apply BitVec.eq_of_getLsbD_eq
    intro i hi
    simp [hi]
  exact ⟨x.toBitVec.toNat % 256, Nat.mod_lt _ (by omega), by rw [← m, ← e]⟩
theorem b8_r {B : Nat → Int32} {j : Nat} {r : Int32} (h : r = b8 B j) : 0 ≤ r.toInt ∧ r.toInt ≤ 255 := by
  obtain ⟨k, hk, e⟩ := b8_n (B j)
  have e2 : r = nI k := h.trans e
  rw [e2, nI_toInt (by omega)]
  omega
theorem tL_t {B : Nat → Int32} {j : Nat} {r : Int32} (h : r = b8 B j) (q : 97 ≤ r.toInt ∧ r.toInt ≤ 122) : tL (b8 B j) = true := by rw [← h]; exact decide_eq_true q
theorem tL_f {B : Nat → Int32} {j : Nat} {r : Int32} (h : r = b8 B j) (q : ¬ (97 ≤ r.toInt ∧ r.toInt ≤ 122)) : tL (b8 B j) = false := by rw [← h]; exact decide_eq_false q
theorem tD_t {B : Nat → Int32} {j : Nat} {r : Int32} (h : r = b8 B j) (q : 48 ≤ r.toInt ∧ r.toInt ≤ 57) : tD (b8 B j) = true := by rw [← h]; exact decide_eq_true q
theorem tD_f {B : Nat → Int32} {j : Nat} {r : Int32} (h : r = b8 B j) (q : ¬ (48 ≤ r.toInt ∧ r.toInt ≤ 57)) : tD (b8 B j) = false := by rw [← h]; exact decide_eq_false q
theorem tS_t {B : Nat → Int32} {j : Nat} {r : Int32} (h : r = b8 B j) (q : r.toInt = 32 ∨ r.toInt = 10) : tS (b8 B j) = true := by rw [← h]; exact decide_eq_true q
theorem tS_f {B : Nat → Int32} {j : Nat} {r : Int32} (h : r = b8 B j) (q : ¬ (r.toInt = 32 ∨ r.toInt = 10)) : tS (b8 B j) = false := by rw [← h]; exact decide_eq_false q
theorem wd_t {B : Nat → Int32} {f e i : Nat} (hl : e - f = sLen i) (h : ∀ j, j < sLen i → b8 B (f + j) = sB i j) : wd B f e i = true := by
  unfold wd
  rw [Bool.and_eq_true]
  exact ⟨decide_eq_true hl, List.all_eq_true.mpr (fun j hj => decide_eq_true (h j (List.mem_range.mp hj)))⟩
theorem wd_f1 {B : Nat → Int32} {f e i : Nat} (hl : ¬ e - f = sLen i) : ¬ wd B f e i = true := by
  unfold wd
  rw [Bool.and_eq_true]
  exact fun q => hl (of_decide_eq_true q.1)
theorem wd_f2 {B : Nat → Int32} {f e i j : Nat} (hj : j < sLen i) (hn : ¬ b8 B (f + j) = sB i j) : ¬ wd B f e i = true := by
  unfold wd
  rw [Bool.and_eq_true]
  exact fun q => hn (of_decide_eq_true (List.all_eq_true.mp q.2 j (List.mem_range.mpr hj)))
theorem wd_up {B : Nat → Int32} {f i : Nat} {kk y : Int32} (h0 : 0 ≤ kk.toInt) (hJ : ∀ j : Nat, (j : Int) < kk.toInt → b8 B (f + j) = sB i j) (hy : y.toInt = kk.toInt + 1) (e : b8 B (f + kk.toNatClampNeg) = sB i kk.toNatClampNeg) : ∀ j : Nat, (j : Int) < y.toInt → b8 B (f + j) = sB i j := by
  intro j hj
  by_cases q : (j : Int) < kk.toInt
  · exact hJ j q
  · have e1 := nc_int h0
    have e2 : j = kk.toNatClampNeg := by omega
    rw [e2]; exact e
section TKl
variable {B R R' T : Nat → Int32} {nn j k f e v j2 k2 f2 e2 v2 l : Int32} {c r : Nat}
theorem TK_le (h0 : 0 ≤ j.toInt) (h1 : j.toInt ≤ nn.toInt) (h : TK B nn j k f e v) : j.toInt ≤ f.toInt ∧ f.toInt ≤ e.toInt ∧ e.toInt ≤ nn.toInt := by
  obtain ⟨-, ⟨a, b⟩, ⟨c, d⟩, -⟩ := h
  have e1 := nc_int h0
  have e2 := nc_int (x := nn) (by omega)
  have q := tk_bd (B := B) (n := nn.toNatClampNeg) (j := j.toNatClampNeg) (by omega)
  have e3 := nc_int a
  have e4 := nc_int c
  omega
theorem st_all (h : TK B nn j k f e v) (hk : k = 1) (hw : wd B f.toNatClampNeg e.toNatClampNeg 6 = true) : lnS B nn.toNatClampNeg 5 R j.toNatClampNeg = .inr (upd R 8 1, e.toNatClampNeg) := by
  obtain ⟨a, ⟨-, b⟩, ⟨-, c⟩, -⟩ := h
  rw [b, c] at hw
  unfold lnS
  rw [if_pos rfl, if_pos ⟨a.symm.trans hk, hw⟩, c]
theorem st_left (h : TK B nn j k f e v) (hk : k = 1) (hw : ¬ wd B f.toNatClampNeg e.toNatClampNeg 6 = true) (hw2 : wd B f.toNatClampNeg e.toNatClampNeg 7 = true) : lnS B nn.toNatClampNeg 5 R j.toNatClampNeg = .inr (upd R 8 0, e.toNatClampNeg) := by
  obtain ⟨a, ⟨-, b⟩, ⟨-, c⟩, -⟩ := h
  rw [b, c] at hw hw2
  unfold lnS
  rw [if_pos rfl, if_neg (fun q => hw q.2), if_pos ⟨a.symm.trans hk, hw2⟩, c]
theorem st_no1 (h : TK B nn j k f e v) (hk : ¬ k = 1) : lnS B nn.toNatClampNeg 5 R j.toNatClampNeg = .inl (1, f.toNatClampNeg) := by
  obtain ⟨a, ⟨-, b⟩, -, -⟩ := h
  unfold lnS
  rw [if_pos rfl, if_neg (fun q => hk (a.trans q.1)), if_neg (fun q => hk (a.trans q.1)), b]
theorem st_no2 (h : TK B nn j k f e v) (hw : ¬ wd B f.toNatClampNeg e.toNatClampNeg 6 = true) (hw2 : ¬ wd B f.toNatClampNeg e.toNatClampNeg 7 = true) : lnS B nn.toNatClampNeg 5 R j.toNatClampNeg = .inl (1, f.toNatClampNeg) := by
  obtain ⟨a, ⟨-, b⟩, ⟨-, c⟩, -⟩ := h
  rw [b, c] at hw hw2
  unfold lnS
  rw [if_pos rfl, if_neg (fun q => hw q.2), if_neg (fun q => hw2 q.2), b]
theorem nu_ok (h : TK B nn j k f e v) (hk : k = 2) (hb : (tLeast r).toInt ≤ v.toInt ∧ v.toInt ≤ (tMost r).toInt) : nums B nn.toNatClampNeg (c + 1) r R j.toNatClampNeg = nums B nn.toNatClampNeg c (r + 1) (upd R r v) e.toNatClampNeg := by
  obtain ⟨a, -, ⟨-, d⟩, hv⟩ := h
  rw [hv hk] at hb ⊢
  rw [d]
  show (if tkK B nn.toNatClampNeg j.toNatClampNeg = 2 then _ else _) = _
  rw [if_pos (a.symm.trans hk), if_pos hb]
theorem nu_b (h : TK B nn j k f e v) (hk : k = 2) (hb : ¬ ((tLeast r).toInt ≤ v.toInt ∧ v.toInt ≤ (tMost r).toInt)) : nums B nn.toNatClampNeg (c + 1) r R j.toNatClampNeg = .inl (2, f.toNatClampNeg) := by
  obtain ⟨a, ⟨-, b⟩, -, hv⟩ := h
  rw [hv hk] at hb
  rw [b]
  show (if tkK B nn.toNatClampNeg j.toNatClampNeg = 2 then _ else _) = _
  rw [if_pos (a.symm.trans hk), if_neg hb]
theorem nu_s (h : TK B nn j k f e v) (hk : ¬ k = 2) : nums B nn.toNatClampNeg (c + 1) r R j.toNatClampNeg = .inl (1, f.toNatClampNeg) := by
  obtain ⟨a, ⟨-, b⟩, -, -⟩ := h
  rw [b]
  show (if tkK B nn.toNatClampNeg j.toNatClampNeg = 2 then _ else _) = _
  rw [if_neg (fun q => hk (a.trans q))]
theorem sp_no (h : TK B nn j k f e v) (hk : ¬ (k = 1 ∧ ¬ lnO B f.toNatClampNeg e.toNatClampNeg = -1)) : stp B nn.toNatClampNeg T R j.toNatClampNeg = .inl (1, f.toNatClampNeg) := by
  obtain ⟨a, ⟨-, b⟩, ⟨-, d⟩, -⟩ := h
  rw [b, d, a] at hk
  unfold stp
  rw [if_neg hk, b]
theorem sp_twice (h : TK B nn j k f e v) (hk : k = 1) (hl : l = lnO B f.toNatClampNeg e.toNatClampNeg) (hn : ¬ l = -1) (hT : ¬ T l.toNatClampNeg = 0) : stp B nn.toNatClampNeg T R j.toNatClampNeg = .inl (3, f.toNatClampNeg) := by
  obtain ⟨a, ⟨-, b⟩, ⟨-, d⟩, -⟩ := h
  subst hl
  rw [b, d] at hn hT
  unfold stp
  rw [if_pos ⟨a.symm.trans hk, hn⟩, if_neg hT, b]
theorem sp_bad {q : Int32} {p : Nat} (h : TK B nn j k f e v) (hk : k = 1) (hl : l = lnO B f.toNatClampNeg e.toNatClampNeg) (hn : ¬ l = -1) (hT : T l.toNatClampNeg = 0) (hS : lnS B nn.toNatClampNeg l.toNatClampNeg R e.toNatClampNeg = .inl (q, p)) : stp B nn.toNatClampNeg T R j.toNatClampNeg = .inl (q, p) := by
  obtain ⟨a, ⟨-, b⟩, ⟨-, d⟩, -⟩ := h
  subst hl
  rw [b, d] at hn hT hS
  unfold stp
  rw [if_pos ⟨a.symm.trans hk, hn⟩, if_pos hT, hS]
theorem sp_semi (h : TK B nn j k f e v) (hk : k = 1) (hl : l = lnO B f.toNatClampNeg e.toNatClampNeg) (hn : ¬ l = -1) (hT : T l.toNatClampNeg = 0) (hS : lnS B nn.toNatClampNeg l.toNatClampNeg R e.toNatClampNeg = .inr (R', j2.toNatClampNeg)) (h2 : TK B nn j2 k2 f2 e2 v2) (hk2 : ¬ k2 = 3) : stp B nn.toNatClampNeg T R j.toNatClampNeg = .inl (1, f2.toNatClampNeg) := by
  obtain ⟨a, ⟨-, b⟩, ⟨-, d⟩, -⟩ := h
  obtain ⟨a2, ⟨-, b2⟩, -, -⟩ := h2
  subst hl
  rw [b, d] at hn hT hS
  unfold stp
  rw [if_pos ⟨a.symm.trans hk, hn⟩, if_pos hT, hS]
  show (if tkK B nn.toNatClampNeg j2.toNatClampNeg = 3 then _ else _) = _
  rw [if_neg (fun q => hk2 (a2.trans q)), b2]
theorem sp_ok (h : TK B nn j k f e v) (hk : k = 1) (hl : l = lnO B f.toNatClampNeg e.toNatClampNeg) (hn : ¬ l = -1) (hT : T l.toNatClampNeg = 0) (hS : lnS B nn.toNatClampNeg l.toNatClampNeg R e.toNatClampNeg = .inr (R', j2.toNatClampNeg)) (h2 : TK B nn j2 k2 f2 e2 v2) (hk2 : k2 = 3) : stp B nn.toNatClampNeg T R j.toNatClampNeg = .inr (upd T l.toNatClampNeg 1, R', e2.toNatClampNeg) := by
  obtain ⟨a, ⟨-, b⟩, ⟨-, d⟩, -⟩ := h
  obtain ⟨a2, -, ⟨-, d2⟩, -⟩ := h2
  subst hl
  rw [b, d] at hn hT hS ⊢
  unfold stp
  rw [if_pos ⟨a.symm.trans hk, hn⟩, if_pos hT, hS]
  show (if tkK B nn.toNatClampNeg j2.toNatClampNeg = 3 then _ else _) = _
  rw [if_pos (a2.symm.trans hk2), d2]
end TKl
theorem lnO_bd (B : Nat → Int32) (f e : Nat) : (-1) ≤ (lnO B f e).toInt ∧ (lnO B f e).toInt ≤ 5 := by
  unfold lnO
  repeat' split
  all_goals decide
/-- how many of the six lines are told -/
def ct1 (x : Int32) : Nat := if x = 0 then 0 else 1
def ct (T : Nat → Int32) : Nat := ct1 (T 0) + ct1 (T 1) + ct1 (T 2) + ct1 (T 3) + ct1 (T 4) + ct1 (T 5)
theorem ct1_le (x : Int32) : ct1 x ≤ 1 := by unfold ct1; split <;> omega
theorem ct_le (T : Nat → Int32) : ct T ≤ 6 := by
  unfold ct
  have h0 := ct1_le (T 0)
  have h1 := ct1_le (T 1)
  have h2 := ct1_le (T 2)
  have h3 := ct1_le (T 3)
  have h4 := ct1_le (T 4)
  have h5 := ct1_le (T 5)
  omega
theorem ct_up {T : Nat → Int32} {k : Nat} (hk : k < 6) (h : T k = 0) : ct (upd T k 1) = ct T + 1 := by
  have e1 : ct1 1 = 1 := by decide
  have e0 : ct1 0 = 0 := by decide
  have es : upd T k 1 k = 1 := pk_us
  have hz : ct1 (T k) = 0 := by rw [h]; exact e0
  unfold ct
  have hne : ∀ j, ¬ j = k → upd T k 1 j = T j := fun j q => pk_un q
  match k, hk with
  | 0, _ => rw [es, hne 1 (by omega), hne 2 (by omega), hne 3 (by omega), hne 4 (by omega), hne 5 (by omega)]; omega
  | 1, _ => rw [es, hne 0 (by omega), hne 2 (by omega), hne 3 (by omega), hne 4 (by omega), hne 5 (by omega)]; omega
  | 2, _ => rw [es, hne 0 (by omega), hne 1 (by omega), hne 3 (by omega), hne 4 (by omega), hne 5 (by omega)]; omega
  | 3, _ => rw [es, hne 0 (by omega), hne 1 (by omega), hne 2 (by omega), hne 4 (by omega), hne 5 (by omega)]; omega
  | 4, _ => rw [es, hne 0 (by omega), hne 1 (by omega), hne 2 (by omega), hne 3 (by omega), hne 5 (by omega)]; omega
  | 5, _ => rw [es, hne 0 (by omega), hne 1 (by omega), hne 2 (by omega), hne 3 (by omega), hne 4 (by omega)]; omega
  | k + 6, q => omega
/-- what a line's rest came to: a FAULT, or the rules and the place behind it -/
def LR (P : PRm) (nn rp rk2 rp2 rh2 : Int32) (fd2 : Nat → Int32) : Prop := (∃ (q : Int32) (p : Nat), P = .inl (q, p) ∧ ¬ q = 0 ∧ rk2 = q ∧ 0 ≤ rp2.toInt ∧ rp2.toNatClampNeg = p) ∨ (∃ j : Nat, P = .inr (fd2, j) ∧ rk2 = 0 ∧ rp2 = rp ∧ (0 ≤ rh2.toInt ∧ rh2.toInt ≤ nn.toInt) ∧ rh2.toNatClampNeg = j)
theorem tF_bd : ∀ i, i < 5 → 0 ≤ (tFirst i).toInt ∧ (tFirst i).toInt + (tNums i).toInt ≤ 8 ∧ 1 ≤ (tNums i).toInt := by decide
/-- within a line's numbers: all well, and the rest from here is the whole; or a FAULT -/
def NI (P : PRm) (B : Nat → Int32) (n c r : Nat) (R : Nat → Int32) (nn rp q0 q4 q5 : Int32) : Prop := (q4 = 0 ∧ q5 = rp ∧ (0 ≤ q0.toInt ∧ q0.toInt ≤ nn.toInt) ∧ nums B n c r R q0.toNatClampNeg = P) ∨ ∃ (q : Int32) (p : Nat), P = .inl (q, p) ∧ ¬ q = 0 ∧ q4 = q ∧ 0 ≤ q5.toInt ∧ q5.toNatClampNeg = p
theorem NI_0 {P : PRm} {B R : Nat → Int32} {n c r : Nat} {nn rp q0 q4 q5 : Int32} (h : NI P B n c r R nn rp q0 q4 q5) (hz : q4 = 0) : q4 = 0 ∧ q5 = rp ∧ (0 ≤ q0.toInt ∧ q0.toInt ≤ nn.toInt) ∧ nums B n c r R q0.toNatClampNeg = P := Or.resolve_right h (fun ⟨_, _, _, a, b, _⟩ => a (b.symm.trans hz))
theorem nm_out {P : PRm} {B R : Nat → Int32} {n c r : Nat} {nn rp q0 q4 q5 : Int32} (h : NI P B n c r R nn rp q0 q4 q5) (hz : q4 = 0 → c = 0) : LR P nn rp q4 q5 q0 R := by
  rcases h with ⟨a, b, d, e⟩ | h
  · have := hz a
    subst this
    exact Or.inr ⟨_, e.symm, a, b, d, rfl⟩
  · exact Or.inl h
theorem lnS_n {B R : Nat → Int32} {n k j : Nat} (h : ¬ k = 5) : lnS B n k R j = nums B n (tNums k).toNatClampNeg (tFirst k).toNatClampNeg R j := if_neg h
/-- what a line came to -/
def SR (P : PRs) (nn rp rk2 rp2 rh2 : Int32) (ft2 fd2 : Nat → Int32) : Prop := (∃ (q : Int32) (p : Nat), P = .inl (q, p) ∧ ¬ q = 0 ∧ rk2 = q ∧ 0 ≤ rp2.toInt ∧ rp2.toNatClampNeg = p) ∨ (P = .inr (ft2, fd2, rh2.toNatClampNeg) ∧ rk2 = 0 ∧ rp2 = rp ∧ (0 ≤ rh2.toInt ∧ rh2.toInt ≤ nn.toInt))
theorem i32_m1 {x : Int32} (h : x.toInt < 0) (h1 : (-1) ≤ x.toInt) : x = -1 := Int32.toInt_inj.mp (by rw [show (-1 : Int32).toInt = -1 from by decide]; omega)
section PRS
variable {B R T : Nat → Int32} {nn j k f e v l : Int32} {c : Nat}
theorem nI_nc {x : Int32} {p : Nat} (h0 : 0 ≤ x.toInt) (h : x.toNatClampNeg = p) : x = nI p := by
  have e := nc_int h0
  have b := ci_rng x
  exact Int32.toInt_inj.mp (by rw [nI_toInt (by omega)]; omega)
theorem prs_end (h : TK B nn j k f e v) (hk : k = 0) : prs B nn.toNatClampNeg (c + 1) T R j.toNatClampNeg l = (l, 0, -1, R) := by
  show (if tkK B nn.toNatClampNeg j.toNatClampNeg = 0 then _ else _) = _
  rw [if_pos (h.1.symm.trans hk)]
theorem prs_flt {q : Int32} {p : Nat} (h : TK B nn j k f e v) (hk : ¬ k = 0) (hs : stp B nn.toNatClampNeg T R j.toNatClampNeg = .inl (q, p)) : prs B nn.toNatClampNeg (c + 1) T R j.toNatClampNeg l = (-1, q, nI p, R) := by
  show (if tkK B nn.toNatClampNeg j.toNatClampNeg = 0 then _ else _) = _
  rw [if_neg (fun q => hk (h.1.trans q)), hs]
theorem prs_go {T' R' : Nat → Int32} {j' : Nat} (h : TK B nn j k f e v) (hk : ¬ k = 0) (hs : stp B nn.toNatClampNeg T R j.toNatClampNeg = .inr (T', R', j')) : prs B nn.toNatClampNeg (c + 1) T R j.toNatClampNeg l = prs B nn.toNatClampNeg c T' R' j' (l + 1) := by
  show (if tkK B nn.toNatClampNeg j.toNatClampNeg = 0 then _ else _) = _
  rw [if_neg (fun q => hk (h.1.trans q)), hs]
theorem stp_inr {n i : Nat} {T' R' : Nat → Int32} {j' : Nat} (hs : stp B n T R i = .inr (T', R', j')) : ct T' = ct T + 1 := by
  unfold stp at hs
  split at hs
  · rename_i h1
    split at hs
    · rename_i h2
      have hb := lnO_bd B (tkF B n i) (tkE B n i)
      have h3 : 0 ≤ (lnO B (tkF B n i) (tkE B n i)).toInt := by
        by_cases q : (lnO B (tkF B n i) (tkE B n i)).toInt < 0
        · exact absurd (i32_m1 q hb.1) h1.2
        · omega
      have h4 := nc_int h3
      split at hs
      · cases hs
      · split at hs
        · cases hs
          exact ct_up (by omega) h2
        · cases hs
    · cases hs
  · cases hs
end PRS
-- ----- raw bytes (the reference looks at them without & 255), and bytes behind the text
theorem b8_v {b : Int32} (h : (-128) ≤ b.toInt ∧ b.toInt ≤ 127) : (b &&& 255).toInt = if b.toInt < 0 then b.toInt + 256 else b.toInt := by
  have e : b = nI b.toBitVec.toNat := by
    apply Int32.toBitVec_inj.1
    show b.toBitVec = BitVec.ofNat 32 b.toBitVec.toNat
    simp
  have m : nI b.toBitVec.toNat &&& 255 = nI (b.toBitVec.toNat % 256) := by
    apply Int32.toBitVec_inj.1
    show BitVec.ofNat 32 b.toBitVec.toNat &&& BitVec.ofNat 32 255 = BitVec.ofNat 32 (b.toBitVec.toNat % 256)
    rw [show b.toBitVec.toNat % 256 = b.toBitVec.toNat &&& 255 from (Nat.and_two_pow_sub_one_eq_mod _ 8).symm]
    apply BitVec.eq_of_getLsbD_eq
    intro i hi
    simp [hi]
  have t : (b &&& 255).toInt = ((b.toBitVec.toNat % 256 : Nat) : Int) := by
    rw [← e] at m
    rw [m, nI_toInt (by omega)]
  have q : b.toInt = if 2 * b.toBitVec.toNat < 2 ^ 32 then (b.toBitVec.toNat : Int) else (b.toBitVec.toNat : Int) - 2 ^ 32 := BitVec.toInt_eq_toNat_cond b.toBitVec
  have hl := b.toBitVec.isLt
  rw [t]
  split at q <;> split <;> omega
def Byt (B : Nat → Int32) : Prop := ∀ j : Nat, (-128) ≤ (B j).toInt ∧ (B j).toInt ≤ 127
theorem raw_S {B : Nat → Int32} {j : Nat} {y : Int32} (hb : Byt B) (e : y = B j) (h : y.toInt = 32 ∨ y.toInt = 10) : tS (b8 B j) = true := by
  have q := b8_v (hb j)
  rw [e] at h
  refine decide_eq_true ?_
  show (B j &&& 255).toInt = 32 ∨ (B j &&& 255).toInt = 10
  rw [q]
  split <;> omega
theorem raw_nS {B : Nat → Int32} {j : Nat} {y y2 : Int32} (hb : Byt B) (e : y = B j) (e2 : y2 = B j) (h : ¬ y.toInt = 32) (h2 : ¬ y2.toInt = 10) : tS (b8 B j) = false := by
  have q := b8_v (hb j)
  have q1 := hb j
  rw [e] at h
  rw [e2] at h2
  refine decide_eq_false ?_
  show ¬ ((B j &&& 255).toInt = 32 ∨ (B j &&& 255).toInt = 10)
  rw [q]
  split <;> omega
theorem raw_c {B : Nat → Int32} {j : Nat} {y : Int32} {i m : Nat} (hb : Byt B) (e : y = B j) (hi : i < 8) (hm : m < sLen i) : y = sB i m ↔ b8 B j = sB i m := by
  have q := b8_v (hb j)
  have q1 := hb j
  have r := sB_rng i hi m hm
  constructor
  · intro h
    rw [← h, e]
    apply Int32.toInt_inj.mp
    show (B j &&& 255).toInt = (B j).toInt
    have h2 : (B j).toInt = (sB i m).toInt := by rw [← e, h]
    rw [q]
    split <;> omega
  · intro h
    have h2 : (B j &&& 255).toInt = (sB i m).toInt := congrArg Int32.toInt h
    rw [e]
    apply Int32.toInt_inj.mp
    rw [q] at h2
    split at h2 <;> omega
theorem byA_b8 {B : Nat → Int32} {sz x r : Int32} (h : r = byA B sz x) (hl : x.toInt < sz.toInt) : r = b8 B x.toNatClampNeg := by rw [h]; exact (byA_in hl).symm
theorem Run_fin {p : Int32 → Bool} {B : Nat → Int32} {nn a b r : Int32} (h0 : 0 ≤ a.toInt) (h : Run p B nn a b) (z : r = byA B nn b) (hf : p r = false) : rnE p B nn.toNatClampNeg a.toNatClampNeg = b.toNatClampNeg := by
  by_cases q : b.toInt < nn.toInt
  · exact Run_end h0 h (Or.inr (by rw [← byA_b8 z q]; exact hf))
  · exact Run_end h0 h (Or.inl (by omega))
/-- within the reference's look at a word -/
def IsI (B : Nat → Int32) (hd fr be : Int32) (i : Nat) (kk bb : Int32) : Prop := (bb = 1 ∧ hd = 1 ∧ be.toInt - fr.toInt = sLen i ∧ ∀ j : Nat, (j : Int) < kk.toInt → b8 B (fr.toNatClampNeg + j) = sB i j) ∨ (bb = 0 ∧ ¬ (hd = 1 ∧ wd B fr.toNatClampNeg be.toNatClampNeg i = true))
section ISI
variable {B : Nat → Int32} {hd fr be kk bb y z x c : Int32} {i : Nat}
theorem IsI_nar (h : IsI B hd fr be i kk bb) : bb = 0 ∨ bb = 1 := h.elim (fun q => Or.inr q.1) (fun q => Or.inl q.1)
theorem IsI_1 (h : IsI B hd fr be i kk bb) (hb : ¬ bb = 0) : hd = 1 ∧ be.toInt - fr.toInt = sLen i ∧ ∀ j : Nat, (j : Int) < kk.toInt → b8 B (fr.toNatClampNeg + j) = sB i j := (Or.resolve_right h (fun q => hb q.1)).2
theorem IsI_out (h0 : 0 ≤ fr.toInt) (h1 : fr.toInt ≤ be.toInt) (h : IsI B hd fr be i kk bb) (hk : ¬ bb = 0 → (sLen i : Int) ≤ kk.toInt) : (bb = 1 ∧ (hd = 1 ∧ wd B fr.toNatClampNeg be.toNatClampNeg i = true)) ∨ (bb = 0 ∧ ¬ (hd = 1 ∧ wd B fr.toNatClampNeg be.toNatClampNeg i = true)) := by
  rcases h with ⟨a, b, d, e⟩ | h
  · have e1 := nc_int h0
    have e2 := nc_int (x := be) (by omega)
    have e3 := hk (by rw [a]; decide)
    exact Or.inl ⟨a, b, wd_t (by omega) (fun j hj => e j (by omega))⟩
  · exact Or.inr h
theorem IsI_go (hb : Byt B) (hi : i < 8) (h0 : 0 ≤ fr.toInt) (k0 : 0 ≤ kk.toInt) (hl : kk.toInt < sLen i) (hx : x.toInt = fr.toInt + kk.toInt) (hc : hd = 1 ∧ be.toInt - fr.toInt = sLen i ∧ ∀ j : Nat, (j : Int) < kk.toInt → b8 B (fr.toNatClampNeg + j) = sB i j) (e : z = B x.toNatClampNeg) (ec : c = sB i kk.toNatClampNeg) (hz : z = c) (hy : y.toInt = kk.toInt + 1) : IsI B hd fr be i y 1 := by
  have e1 := nc_int h0
  have e2 := nc_int k0
  have e3 := nc_int (x := x) (by omega)
  have e4 : x.toNatClampNeg = fr.toNatClampNeg + kk.toNatClampNeg := by omega
  refine Or.inl ⟨rfl, hc.1, hc.2.1, wd_up k0 hc.2.2 hy ?_⟩
  rw [← e4]
  exact (raw_c hb e hi (by omega)).mp (hz.trans ec)
theorem IsI_no (hb : Byt B) (hi : i < 8) (h0 : 0 ≤ fr.toInt) (k0 : 0 ≤ kk.toInt) (hl : kk.toInt < sLen i) (hx : x.toInt = fr.toInt + kk.toInt) (e : z = B x.toNatClampNeg) (ec : c = sB i kk.toNatClampNeg) (hz : ¬ z = c) : IsI B hd fr be i y 0 := by
  have e1 := nc_int h0
  have e2 := nc_int k0
  have e3 := nc_int (x := x) (by omega)
  have e4 : x.toNatClampNeg = fr.toNatClampNeg + kk.toNatClampNeg := by omega
  refine Or.inr ⟨rfl, fun q => wd_f2 (j := kk.toNatClampNeg) (by omega) (fun r => hz ?_) q.2⟩
  rw [← e4] at r
  exact ((raw_c hb e hi (by omega)).mpr r).trans ec.symm
end ISI

