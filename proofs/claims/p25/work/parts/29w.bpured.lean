-- ===== the books, pure: the end, the counts =====
theorem sm_upO {t : Nat → Int} {b : Int} {nn y : Int64} {kk k2 : Int32} (h0 : 0 ≤ kk.toInt) (h : nn.toInt = b + sm t kk.toNatClampNeg) (hk : k2.toInt = kk.toInt + 1) (hy : y.toInt = nn.toInt + t kk.toNatClampNeg) : y.toInt = b + sm t k2.toNatClampNeg := by
  rw [nc_s h0 hk, sm_s]
  omega
/-- what giver g gets back -/
def bkG (co : Int) (fr u0 u1 : Nat → Int32) (n g : Nat) : Int := bkV co (sm (tG u0 u1 g) n) (sm (tA u1) n) (decide ((fr (8 : Int32).toNatClampNeg).toInt = 1))
def bkF (co : Int) (fr u0 u1 : Nat → Int32) (n g : Nat) : Int32 := Int32.ofInt (bkG co fr u0 u1 n g)
def bkR (co : Int) (fr u0 u1 g3 : Nat → Int32) (n : Nat) : Nat → Int32 := fU (fun _ => true) (bkF co fr u0 u1 n) g3 0 30
def Rsto (sp sn : Int32) (fr u0 u1 g3 : Nat → Int32) (co : Int) (r : Int32) (z3 : Nat → Int32) (co2 : Int) : Prop :=
  (r = (-4) ∧ ¬ sp.toInt = 0 ∧ z3 = g3 ∧ co2 = co) ∨ (r = smI (bkF co fr u0 u1 sn.toNatClampNeg) 30 ∧ sp.toInt = 0 ∧ z3 = bkR co fr u0 u1 g3 sn.toNatClampNeg ∧ co2 = co - r.toInt)
theorem det_sto {sp sn r r' : Int32} {fr u0 u1 g3 z3 z3' : Nat → Int32} {co co2 co2' : Int} (h : Rsto sp sn fr u0 u1 g3 co r z3 co2) (h' : Rsto sp sn fr u0 u1 g3 co r' z3' co2') : r = r' ∧ z3 = z3' ∧ co2 = co2' := by
  rcases h with ⟨a, b, c, d⟩ | ⟨a, b, c, d⟩ <;> rcases h' with ⟨a', b', c', d'⟩ | ⟨a', b', c', d'⟩
  · exact ⟨a.trans a'.symm, c.trans c'.symm, d.trans d'.symm⟩
  · exact absurd b' b
  · exact absurd b b'
  · have hr : r = r' := a.trans a'.symm
    subst hr
    exact ⟨rfl, c.trans c'.symm, d.trans d'.symm⟩
section BK
variable {n : Int32} {fr u0 u1 g3 : Nat → Int32} {co : Int}
theorem gv_le (hs : mSp n u1) (g : Nat) : sm (tG u0 u1 g) n.toNatClampNeg ≤ sm (tA u1) n.toNatClampNeg := by
  have hsn := hs.1
  have hn := nc_int (x := n) (by omega)
  have : ∀ k : Nat, (k : Int) ≤ n.toInt → sm (tG u0 u1 g) k ≤ sm (tA u1) k := by
    intro k
    induction k with
    | zero => intro _; rw [sm_0, sm_0]; omega
    | succ k ih =>
      intro hk
      have a := ih (by omega)
      have b := hs.2 k (by omega)
      rw [sm_s, sm_s]
      unfold tG tA at *
      split <;> omega
  exact this _ (by omega)
theorem bk_full {g : Nat} (hs : mSp n u1) (hf : (fr (8 : Int32).toNatClampNeg).toInt = 1) (hc : sm (tA u1) n.toNatClampNeg ≤ co) : sm (tG u0 u1 g) n.toNatClampNeg = bkG co fr u0 u1 n.toNatClampNeg g := by
  have hsn := hs.1
  have hn := nc_int (x := n) (by omega)
  have h1 := gv_le (u0 := u0) hs g
  have h0 := (sG_bd (u0 := u0) (g := (g : Int)) hs (k := n.toNatClampNeg) (by omega)).1
  unfold bkG bkV
  by_cases q : sm (tA u1) n.toNatClampNeg = 0
  · rw [if_pos q]; omega
  · rw [if_neg q, if_pos ⟨decide_eq_true hf, hc⟩]
theorem bkG_bd (hs : mSp n u1) (hc : 0 ≤ co ∧ co ≤ 2000000000) (g : Nat) : 0 ≤ bkG co fr u0 u1 n.toNatClampNeg g ∧ bkG co fr u0 u1 n.toNatClampNeg g ≤ 2000000000 := by
  have hn := nc_int (x := n) (by have := hs.1; omega)
  have ha := sA_bd hs (k := n.toNatClampNeg) (by omega)
  have hg := sG_bd (u0 := u0) (g := (g : Int)) hs (k := n.toNatClampNeg) (by omega)
  have hsn := hs.1
  have hle : sm (tG u0 u1 g) n.toNatClampNeg ≤ sm (tA u1) n.toNatClampNeg := by
    have : ∀ k : Nat, (k : Int) ≤ n.toInt → sm (tG u0 u1 g) k ≤ sm (tA u1) k := by
      intro k
      induction k with
      | zero => intro _; rw [sm_0, sm_0]; omega
      | succ k ih =>
        intro hk
        have a := ih (by omega)
        have b := hs.2 k (by omega)
        rw [sm_s, sm_s]
        unfold tG tA at *
        split <;> omega
    exact this _ (by omega)
  unfold bkG bkV
  by_cases q : sm (tA u1) n.toNatClampNeg = 0
  · rw [if_pos q]; omega
  · rw [if_neg q]
    split
    · omega
    · have b := mul_bd (a := co) (A := co) (b := sm (tG u0 u1 g) n.toNatClampNeg) (B := sm (tA u1) n.toNatClampNeg) hc.1 (Int.le_refl _) hg.1 hle
      have d0 : 0 ≤ co * sm (tG u0 u1 g) n.toNatClampNeg / sm (tA u1) n.toNatClampNeg := Int.ediv_nonneg b.1 (by omega)
      have d1 : co * sm (tG u0 u1 g) n.toNatClampNeg / sm (tA u1) n.toNatClampNeg ≤ co := by
        have e := Int.ediv_le_ediv (c := sm (tA u1) n.toNatClampNeg) (by omega) b.2
        rw [Int.mul_ediv_cancel co q] at e
        exact e
      omega
theorem bkF_i (hs : mSp n u1) (hc : 0 ≤ co ∧ co ≤ 2000000000) (g : Nat) : (bkF co fr u0 u1 n.toNatClampNeg g).toInt = bkG co fr u0 u1 n.toNatClampNeg g := by
  have := bkG_bd (fr := fr) (u0 := u0) hs hc g
  unfold bkF
  exact Int32.toInt_ofInt_of_le (by omega) (by omega)
theorem bk_sum (hs : mSp n u1) (hg : mGi n u0) (hc : 0 ≤ co ∧ co ≤ 2000000000) : 0 ≤ sm (bkG co fr u0 u1 n.toNatClampNeg) 30 ∧ sm (bkG co fr u0 u1 n.toNatClampNeg) 30 ≤ co := by
  have hn := nc_int (x := n) (by have := hs.1; omega)
  have ha := sA_bd hs (k := n.toNatClampNeg) (by omega)
  have hv := gv_all (u1 := u1) hg (k := n.toNatClampNeg) (by omega)
  have hgv : ∀ g : Nat, 0 ≤ sm (tG u0 u1 g) n.toNatClampNeg := fun g => (sG_bd (u0 := u0) (g := (g : Int)) hs (k := n.toNatClampNeg) (by omega)).1
  refine ⟨(sm_bd (f := bkG co fr u0 u1 n.toNatClampNeg) (c := 2000000000) (n := 30) (fun g _ => bkG_bd hs hc g)).1, ?_⟩
  by_cases q : sm (tA u1) n.toNatClampNeg = 0
  · have e : sm (bkG co fr u0 u1 n.toNatClampNeg) 30 = 0 := (sm_x (n := 0) (Nat.zero_le _) (fun g _ _ => by unfold bkG bkV; exact if_pos q)).trans rfl
    omega
  · by_cases f : decide ((fr (8 : Int32).toNatClampNeg).toInt = 1) = true ∧ sm (tA u1) n.toNatClampNeg ≤ co
    · have e : sm (bkG co fr u0 u1 n.toNatClampNeg) 30 = sm (fun g : Nat => sm (tG u0 u1 g) n.toNatClampNeg) 30 := sm_c (fun g _ => by unfold bkG bkV; rw [if_neg q, if_pos f])
      omega
    · have e : sm (bkG co fr u0 u1 n.toNatClampNeg) 30 = sm (fun g : Nat => co * sm (tG u0 u1 g) n.toNatClampNeg / sm (tA u1) n.toNatClampNeg) 30 := sm_c (fun g _ => by unfold bkG bkV; rw [if_neg q, if_neg f])
      have b := bk_le (co := co) (al := sm (tA u1) n.toNatClampNeg) (gv := fun g : Nat => sm (tG u0 u1 g) n.toNatClampNeg) hc.1 (by omega) hgv 30
      rw [hv, Int.mul_comm co] at b
      rw [e]
      exact Int.le_of_mul_le_mul_left b (by omega)
theorem smI_i (hs : mSp n u1) (hg : mGi n u0) (hc : 0 ≤ co ∧ co ≤ 2000000000) : ∀ {k : Nat}, k ≤ 30 → (smI (bkF co fr u0 u1 n.toNatClampNeg) k).toInt = sm (bkG co fr u0 u1 n.toNatClampNeg) k
  | 0, _ => rfl
  | k + 1, hk => by
    have ih := smI_i hs hg hc (k := k) (by omega)
    have b := bk_sum (fr := fr) hs hg hc
    have m := sm_mono (f := bkG co fr u0 u1 n.toNatClampNeg) (n := k + 1) (m := 30) hk (fun g _ => (bkG_bd hs hc g).1)
    have m0 := sm_mono (f := bkG co fr u0 u1 n.toNatClampNeg) (n := 0) (m := k) (Nat.zero_le _) (fun g _ => (bkG_bd hs hc g).1)
    rw [sm_s] at m
    rw [sm_0] at m0
    have h0 := (bkG_bd (fr := fr) (u0 := u0) hs hc k).1
    have e := ci_add (x := smI (bkF co fr u0 u1 n.toNatClampNeg) k) (y := bkF co fr u0 u1 n.toNatClampNeg k) ih (bkF_i hs hc k) rfl
    show (smI (bkF co fr u0 u1 n.toNatClampNeg) k + bkF co fr u0 u1 n.toNatClampNeg k).toInt = sm _ _ + _
    rw [e]
    omega
theorem smI_bd (hs : mSp n u1) (hg : mGi n u0) (hc : 0 ≤ co ∧ co ≤ 2000000000) : 0 ≤ (smI (bkF co fr u0 u1 n.toNatClampNeg) 30).toInt ∧ (smI (bkF co fr u0 u1 n.toNatClampNeg) 30).toInt ≤ co := by
  rw [smI_i hs hg hc (Nat.le_refl _)]
  exact bk_sum hs hg hc
theorem smI_up {f : Nat → Int32} {gg y kk k2 : Int32} (h0 : 0 ≤ kk.toInt) (h : gg = smI f kk.toNatClampNeg) (hk : k2.toInt = kk.toInt + 1) (hy : y = gg + f kk.toNatClampNeg) : y = smI f k2.toNatClampNeg := by
  rw [nc_s h0 hk, hy, h]
  rfl
end BK
/-- the counts -/
def cnL (cl co lo al ma ta pd gr bn ln tn sn sp nn st : Int) : List Int := [cl, co, lo, al, ma, ta, pd, gr, bn, ln, tn, sn, sp, nn, st]
def Rcnt (x1 : Int32) (L : List Int) (r : Int32) : Prop := (¬ (0 ≤ x1.toInt ∧ x1.toInt ≤ 14) ∧ r = (-1)) ∨ ((0 ≤ x1.toInt ∧ x1.toInt ≤ 14) ∧ r.toInt = L.getD x1.toNatClampNeg 0)
theorem det_cnt {x1 r r' : Int32} {L : List Int} (h : Rcnt x1 L r) (h' : Rcnt x1 L r') : r = r' := by
  rcases h with ⟨a, b⟩ | ⟨a, b⟩ <;> rcases h' with ⟨a', b'⟩ | ⟨a', b'⟩ <;> first | exact absurd a' a | exact absurd a a' | exact b.trans b'.symm | exact Int32.toInt_inj.mp (b.trans b'.symm)
def Rbck (x1 : Int32) (g3 : Nat → Int32) (r : Int32) : Prop := (¬ (0 ≤ x1.toInt ∧ x1.toInt ≤ 29) ∧ r = (-2)) ∨ ((0 ≤ x1.toInt ∧ x1.toInt ≤ 29) ∧ r = g3 x1.toNatClampNeg)
theorem det_bck {x1 r r' : Int32} {g3 : Nat → Int32} (h : Rbck x1 g3 r) (h' : Rbck x1 g3 r') : r = r' := by
  rcases h with ⟨a, b⟩ | ⟨a, b⟩ <;> rcases h' with ⟨a', b'⟩ | ⟨a', b'⟩ <;> first | exact absurd a' a | exact absurd a a' | exact b.trans b'.symm
theorem wf_tb {cl : Int} {nP j : Nat} {t : Nat → Pl9} {T : Pl9} (h : ∀ i, i < nP → wfT cl (t i)) (hT : wfT cl T) : ∀ i, i < nP → wfT cl (tbS t j T i) := by
  intro i hi
  by_cases q : i = j
  · rw [q, tbS_s]; exact hT
  · rw [tbS_n q]; exact h i hi
theorem mR_ln {i : Nat} {T : Pl9} {qg ql qk qf qe qd du fi th co : Nat → Int32} (h : mR1 i T qg ql qk qf qe qd du fi th co) : (ql i).toInt = lnT T := by
  obtain ⟨N, pg, pf, pe, pl, pk, D, F, S⟩ := T
  exact congrArg Int32.toInt h.1.2.1
theorem i64_i32 (z : Int64) : z.toInt32 = Int32.ofInt z.toInt := Int32.toInt_inj.mp (by rw [Int64.toInt_toInt32, Int32.toInt_ofInt])
theorem gx_of {x : Int} {p0 p1 p4 p5 q0 q1 q4 q5 : Int64} {sk sq su : Nat → Int32} (h1 : q1.toInt = p1.toInt + p1.toInt * x / 1000) (h0 : q0 = p0) (h4 : q4 = p4) (h5 : ∃ z : Int64, z.toInt = p1.toInt * x / 1000 ∧ q5 = p5 + z) : (q0.toInt, q1.toInt, q5.toInt32, q4.toInt32, sk, sq, su) = grM x (p0.toInt, p1.toInt, p5.toInt32, p4.toInt32, sk, sq, su) := by
  obtain ⟨z, hz, rfl⟩ := h5
  rw [h0, h4]
  refine gr_of rfl h1 ?_
  rw [Int64.toInt32_add, i64_i32 z, hz]
theorem mx_tab {ci : ClassId} {c2 cl k2 y : Int} {nP k : Nat} {tP : Nat → Pl9} {fa : Nat → Option Nat} {b : Nat → va_W} (h : c2 = cl + k2) (nk : (k : Int) = k2) (hm : ∀ i, i < nP → okE ci (lapT c2 y nP (lpI y nP cl k tP) i) (fa i) (b i)) : ∀ i, i < nP → okE ci (lpI y nP cl (k + 1) tP i) (fa i) (b i) := by
  show ∀ i, i < nP → okE ci (lapT (cl + k) y nP (lpI y nP cl k tP) i) (fa i) (b i)
  rw [nk, ← h]
  exact hm
def Rstg (sp tn x1 x2 : Int32) (sc sl : Nat → Int32) (r tn2 : Int32) (sc2 sl2 : Nat → Int32) : Prop :=
  (r = (-2) ∧ ¬ ((1 ≤ x1.toInt ∧ x1.toInt ≤ 100000000) ∧ 1 ≤ x2.toInt ∧ x2.toInt ≤ 24) ∧ tn2 = tn ∧ sc2 = sc ∧ sl2 = sl) ∨
  (r = (-4) ∧ (((1 ≤ x1.toInt ∧ x1.toInt ≤ 100000000) ∧ 1 ≤ x2.toInt ∧ x2.toInt ≤ 24) ∧ ¬ sp.toInt = 0) ∧ tn2 = tn ∧ sc2 = sc ∧ sl2 = sl) ∨
  (r = (-3) ∧ (((1 ≤ x1.toInt ∧ x1.toInt ≤ 100000000) ∧ 1 ≤ x2.toInt ∧ x2.toInt ≤ 24) ∧ sp.toInt = 0 ∧ tn.toInt = 8) ∧ tn2 = tn ∧ sc2 = sc ∧ sl2 = sl) ∨
  (r = tn ∧ (((1 ≤ x1.toInt ∧ x1.toInt ≤ 100000000) ∧ 1 ≤ x2.toInt ∧ x2.toInt ≤ 24) ∧ sp.toInt = 0 ∧ tn.toInt < 8) ∧ tn2.toInt = tn.toInt + 1 ∧ sc2 = upd sc tn.toNatClampNeg x1 ∧ sl2 = upd sl tn.toNatClampNeg x2)
theorem det_stg {sp tn x1 x2 r tn2 r' tn2' : Int32} {sc sl sc2 sl2 sc2' sl2' : Nat → Int32} (h : Rstg sp tn x1 x2 sc sl r tn2 sc2 sl2) (h' : Rstg sp tn x1 x2 sc sl r' tn2' sc2' sl2') : r = r' ∧ tn2 = tn2' ∧ sc2 = sc2' ∧ sl2 = sl2' := by
  rcases h with ⟨a, b, c, d, g⟩ | ⟨a, ⟨b, e⟩, c, d, g⟩ | ⟨a, ⟨b, e, f⟩, c, d, g⟩ | ⟨a, ⟨b, e, f⟩, c, d, g⟩ <;> rcases h' with ⟨a', b', c', d', g'⟩ | ⟨a', ⟨b', e'⟩, c', d', g'⟩ | ⟨a', ⟨b', e', f'⟩, c', d', g'⟩ | ⟨a', ⟨b', e', f'⟩, c', d', g'⟩ <;> first | exact absurd b' b | exact absurd b b' | exact absurd e' e | exact absurd e e' | exact ⟨a.trans a'.symm, c.trans c'.symm, d.trans d'.symm, g.trans g'.symm⟩ | exact ⟨a.trans a'.symm, Int32.toInt_inj.mp (c.trans c'.symm), d.trans d'.symm, g.trans g'.symm⟩ | (exfalso; omega)
theorem wfA_new {n n2 : Int32} {cl : Int} {t : Nat → Pl9} {T : Pl9} (h : wfA n cl t) (hn : 0 ≤ n.toInt) (h2 : n2.toInt = n.toInt + 1) (hT : wfT cl T) : wfA n2 cl (tbS t n.toNatClampNeg T) := by
  have e := nc_int hn
  intro i hi
  by_cases q : i = n.toNatClampNeg
  · rw [q, tbS_s]; exact hT
  · rw [tbS_n q]; exact h i (by omega)
theorem wf_new {nP : Nat} {n : Int32} {cl : Int} {t : Nat → Pl9} {T : Pl9} (h : ∀ i, i < nP → wfT cl (t i)) (hn : (nP : Int) = n.toInt) (hT : wfT cl T) : ∀ i, i < nP + 1 → wfT cl (tbS t n.toNatClampNeg T i) := by
  have e := nc_int (x := n) (by omega)
  intro i hi
  by_cases q : i = n.toNatClampNeg
  · rw [q, tbS_s]; exact hT
  · rw [tbS_n q]; exact h i (by omega)
theorem prZ_b {td x : Int} {sl sk : Nat → Int32} {i : Nat} (h : (i : Int) = x) : prZ td sl sk i = if td ≤ x then 0 else if (sk i).toInt < (sl i).toInt then 1 else 2 := by
  unfold prZ
  by_cases q : td ≤ x
  · rw [if_pos q, if_neg (by omega)]
  · rw [if_neg q, if_pos (by omega)]

