-- ===== the reference's reader, one token ahead: pure =====
def prT (B : Nat → Int32) (n : Nat) : Int32 × Int32 × Int32 × (Nat → Int32) := prs B n 7 (fun _ => 0) untold 0 0
/-- a line's rest came to its end: the token behind it is in hand -/
def MLR (P : PRm) (B : Nat → Int32) (nn hd fr be va : Int32) (R : Nat → Int32) : Prop := ∃ j : Int32, (0 ≤ j.toInt ∧ j.toInt ≤ nn.toInt) ∧ TK B nn j hd fr be va ∧ P = .inr (R, j.toNatClampNeg)
/-- a FAULT in a line's rest -/
def MLF (P : PRm) (fl fa : Int32) : Prop := ∃ (q : Int32) (p : Nat), P = .inl (q, p) ∧ ¬ q = 0 ∧ fl = q ∧ 0 ≤ fa.toInt ∧ fa.toNatClampNeg = p
/-- a FAULT in a line -/
def MLS (P : PRs) (fl fa : Int32) : Prop := ∃ (q : Int32) (p : Nat), P = .inl (q, p) ∧ ¬ q = 0 ∧ fl = q ∧ 0 ≤ fa.toInt ∧ fa.toNatClampNeg = p
section MRD
variable {B R R' T : Nat → Int32} {nn j k f e v l wf wa : Int32} {c r n i : Nat} {P : PRm}
theorem nu_eq (h : R' = R) : nums B n c r R i = nums B n c r R' i := by rw [h]
theorem nu_thr (hz : P = nums B nn.toNatClampNeg (c + 1) r R j.toNatClampNeg) (h : TK B nn j k f e v) (hp : ((wf = 1 ∧ ¬ k = 2) ∨ (wf = 2 ∧ k = 2 ∧ ¬ ((tLeast r).toInt ≤ v.toInt ∧ v.toInt ≤ (tMost r).toInt))) ∧ wa = f) : MLF P wf wa := by
  obtain ⟨a, b⟩ := hp
  subst b
  rcases a with ⟨a, d⟩ | ⟨a, d, g⟩
  · exact ⟨1, _, hz.trans (nu_s h d), by decide, a, h.2.1.1, rfl⟩
  · exact ⟨2, _, hz.trans (nu_b h d g), by decide, a, h.2.1.1, rfl⟩
theorem st_allM (h : TK B nn j k f e v) (hw : k = 1 ∧ wd B f.toNatClampNeg e.toNatClampNeg 6 = true) : lnS B nn.toNatClampNeg 5 R j.toNatClampNeg = .inr (upd R 8 1, e.toNatClampNeg) := st_all h hw.1 hw.2
theorem st_leftM (h : TK B nn j k f e v) (hw : ¬ (k = 1 ∧ wd B f.toNatClampNeg e.toNatClampNeg 6 = true)) (hw2 : k = 1 ∧ wd B f.toNatClampNeg e.toNatClampNeg 7 = true) : lnS B nn.toNatClampNeg 5 R j.toNatClampNeg = .inr (upd R 8 0, e.toNatClampNeg) := st_left h hw2.1 (fun q => hw ⟨hw2.1, q⟩) hw2.2
theorem st_noM (h : TK B nn j k f e v) (hw : ¬ (k = 1 ∧ wd B f.toNatClampNeg e.toNatClampNeg 6 = true)) (hw2 : ¬ (k = 1 ∧ wd B f.toNatClampNeg e.toNatClampNeg 7 = true)) : lnS B nn.toNatClampNeg 5 R j.toNatClampNeg = .inl (1, f.toNatClampNeg) := by
  by_cases q : k = 1
  · exact st_no2 h (fun z => hw ⟨q, z⟩) (fun z => hw2 ⟨q, z⟩)
  · exact st_no1 h q
theorem key_ne (h : l = if k = 1 then lnO B f.toNatClampNeg e.toNatClampNeg else -1) (hn : ¬ l = -1) : k = 1 ∧ l = lnO B f.toNatClampNeg e.toNatClampNeg := by
  by_cases q : k = 1
  · rw [if_pos q] at h; exact ⟨q, h⟩
  · rw [if_neg q] at h; exact absurd h hn
theorem key_no (h : l = if k = 1 then lnO B f.toNatClampNeg e.toNatClampNeg else -1) (hn : l = -1) : ¬ (k = 1 ∧ ¬ lnO B f.toNatClampNeg e.toNatClampNeg = -1) := by
  intro q
  rw [if_pos q.1] at h
  exact q.2 (h.symm.trans hn)
theorem key_ge (hn : ¬ l = -1) (hb : (-1) ≤ l.toInt) : 0 ≤ l.toInt := by
  by_cases q : l.toInt < 0
  · exact absurd (i32_m1 q hb) hn
  · omega
theorem MLF_stp (h : TK B nn j k f e v) (hk : k = 1) (hl : l = lnO B f.toNatClampNeg e.toNatClampNeg) (hn : ¬ l = -1) (hT : T l.toNatClampNeg = 0) (hS : MLF (lnS B nn.toNatClampNeg l.toNatClampNeg R e.toNatClampNeg) wf wa) : MLS (stp B nn.toNatClampNeg T R j.toNatClampNeg) wf wa := by
  obtain ⟨q, p, a, b⟩ := hS
  exact ⟨q, p, sp_bad h hk hl hn hT a, b⟩
theorem prT_thr {X : Int32 × Int32 × Int32 × (Nat → Int32)} (hP : prs B nn.toNatClampNeg (c + 1) T R j.toNatClampNeg l = X) (h : TK B nn j k f e v) (hk : ¬ k = 0) (hs : MLS (stp B nn.toNatClampNeg T R j.toNatClampNeg) wf wa) : X.1 = -1 ∧ wf = X.2.1 ∧ wa = X.2.2.1 := by
  obtain ⟨q, p, a, -, b, d, g⟩ := hs
  have hE := (prs_flt h hk a).symm.trans hP
  rw [← hE]
  exact ⟨rfl, b, nI_nc d g⟩
end MRD
/-- a row that is g up to n -/
theorem row_upF {f g : Nat → Int32} {kk y : Int32} (h0 : 0 ≤ kk.toInt) (h : ∀ j : Nat, (j : Int) < kk.toInt → f j = g j) (hy : y.toInt = kk.toInt + 1) : ∀ j : Nat, (j : Int) < y.toInt → upd f kk.toNatClampNeg (g kk.toNatClampNeg) j = g j := by
  intro j hj
  have e := nc_int h0
  by_cases q : j = kk.toNatClampNeg
  · rw [q, pk_us]
  · rw [pk_un q]; exact h j (by omega)
-- ----- bytes that are fed
def by4 (x s : Int32) : Int32 := (x.toUInt32 >>> (s.toUInt32 &&& Int32.toUInt32 31)).toInt32.toInt8.toInt32
def lay4 (f : Nat → Int32) (n : Nat) (x : Int32) : Nat → Int32 := upd (upd (upd (upd f n (vp_nar .byte (by4 x 24))) (n + 1) (vp_nar .byte (by4 x 16))) (n + 2) (vp_nar .byte (by4 x 8))) (n + 3) (vp_nar .byte (by4 x 0))
def lay20 (f : Nat → Int32) (n : Nat) (x1 x2 x3 x4 x5 : Int32) : Nat → Int32 := lay4 (lay4 (lay4 (lay4 (lay4 f n x1) (n + 4) x2) (n + 8) x3) (n + 12) x4) (n + 16) x5
theorem by4_s (x : Int32) : ∀ s : Int32, s = 24 ∨ s = 16 ∨ s = 8 ∨ s = 0 → (x >>> (s &&& 31)).toInt8.toInt32 = by4 x s := by
  intro s hs
  unfold by4
  congr 1
  apply Int8.toBitVec_inj.1
  apply BitVec.eq_of_getLsbD_eq
  intro i hi
  have hg : ∀ k : Nat, k ≤ 24 → (BitVec.signExtend 8 (x.toBitVec.sshiftRight k))[i] = (BitVec.signExtend 8 (x.toBitVec >>> k))[i] := by
    intro k hk
    rw [BitVec.getElem_signExtend, BitVec.getElem_signExtend]
    simp only [show i < 32 from by omega, dite_true, BitVec.getElem_sshiftRight, BitVec.getElem_ushiftRight, show k + i < 32 from by omega]
    simp [BitVec.getLsbD_eq_getElem (show k + i < 32 by omega)]
  rcases hs with rfl | rfl | rfl | rfl <;> simp [Int32.toBitVec_toInt8, BitVec.getLsbD_sshiftRight, BitVec.getLsbD_setWidth, hi] <;> exact hg _ (by omega)
theorem lay4_of {f f1 f2 f3 f4 : Nat → Int32} {x n0 n1 n2 n3 b1 b2 b3 b4 : Int32} (h0 : 0 ≤ n0.toInt) (hn1 : n1.toInt = n0.toInt + 1) (hn2 : n2.toInt = n0.toInt + 2) (hn3 : n3.toInt = n0.toInt + 3) (e1 : f1 = upd f n0.toNatClampNeg (vp_nar .byte b1)) (e2 : f2 = upd f1 n1.toNatClampNeg (vp_nar .byte b2)) (e3 : f3 = upd f2 n2.toNatClampNeg (vp_nar .byte b3)) (e4 : f4 = upd f3 n3.toNatClampNeg (vp_nar .byte b4)) (g1 : b1 = by4 x 24) (g2 : b2 = by4 x 16) (g3 : b3 = by4 x 8) (g4 : b4 = by4 x 0) : f4 = lay4 f n0.toNatClampNeg x := by
  have k0 := nc_int h0
  have k1 := nc_int (x := n1) (by omega)
  have k2 := nc_int (x := n2) (by omega)
  have k3 := nc_int (x := n3) (by omega)
  have m1 : n1.toNatClampNeg = n0.toNatClampNeg + 1 := by omega
  have m2 : n2.toNatClampNeg = n0.toNatClampNeg + 2 := by omega
  have m3 : n3.toNatClampNeg = n0.toNatClampNeg + 3 := by omega
  unfold lay4
  rw [e4, e3, e2, e1, m1, m2, m3, g1, g2, g3, g4]
theorem lay20_of {f f1 f2 f3 f4 f5 : Nat → Int32} {x1 x2 x3 x4 x5 n0 n1 n2 n3 n4 : Int32} (h0 : 0 ≤ n0.toInt) (hn1 : n1.toInt = n0.toInt + 4) (hn2 : n2.toInt = n0.toInt + 8) (hn3 : n3.toInt = n0.toInt + 12) (hn4 : n4.toInt = n0.toInt + 16) (e1 : f1 = lay4 f n0.toNatClampNeg x1) (e2 : f2 = lay4 f1 n1.toNatClampNeg x2) (e3 : f3 = lay4 f2 n2.toNatClampNeg x3) (e4 : f4 = lay4 f3 n3.toNatClampNeg x4) (e5 : f5 = lay4 f4 n4.toNatClampNeg x5) : f5 = lay20 f n0.toNatClampNeg x1 x2 x3 x4 x5 := by
  have k0 := nc_int h0
  have k1 := nc_int (x := n1) (by omega)
  have k2 := nc_int (x := n2) (by omega)
  have k3 := nc_int (x := n3) (by omega)
  have k4 := nc_int (x := n4) (by omega)
  have m1 : n1.toNatClampNeg = n0.toNatClampNeg + 4 := by omega
  have m2 : n2.toNatClampNeg = n0.toNatClampNeg + 8 := by omega
  have m3 : n3.toNatClampNeg = n0.toNatClampNeg + 12 := by omega
  have m4 : n4.toNatClampNeg = n0.toNatClampNeg + 16 := by omega
  unfold lay20
  rw [e5, e4, e3, e2, e1, m1, m2, m3, m4]
theorem nar_b (x : Int32) : (-128) ≤ (vp_nar .byte x).toInt ∧ (vp_nar .byte x).toInt ≤ 127 := by
  show (-128) ≤ (x.toInt8.toInt32).toInt ∧ (x.toInt8.toInt32).toInt ≤ 127
  rw [Int8.toInt_toInt32]
  have h1 := Int8.le_toInt x.toInt8
  have h2 := Int8.toInt_lt x.toInt8
  omega
theorem Byt_upd {f : Nat → Int32} {n : Nat} {x : Int32} (h : Byt f) : Byt (upd f n (vp_nar .byte x)) := by
  intro j
  by_cases q : j = n
  · rw [q, pk_us]; exact nar_b x
  · rw [pk_un q]; exact h j
theorem Byt_lay4 {f : Nat → Int32} {n : Nat} {x : Int32} (h : Byt f) : Byt (lay4 f n x) := Byt_upd (Byt_upd (Byt_upd (Byt_upd h)))
theorem Byt_lay20 {f : Nat → Int32} {n : Nat} {x1 x2 x3 x4 x5 : Int32} (h : Byt f) : Byt (lay20 f n x1 x2 x3 x4 x5) := Byt_lay4 (Byt_lay4 (Byt_lay4 (Byt_lay4 (Byt_lay4 h))))

