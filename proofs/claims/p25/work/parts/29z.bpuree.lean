-- ===== the rules that were read are within their bounds =====
def rbA (R : Nat → Int32) : Prop := ∀ r : Nat, r < 8 → (tLeast r).toInt ≤ (R r).toInt ∧ (R r).toInt ≤ (tMost r).toInt
theorem rb_untold : rbA untold := by
  intro r hr
  match r, hr with
  | 0, _ => decide
  | 1, _ => decide
  | 2, _ => decide
  | 3, _ => decide
  | 4, _ => decide
  | 5, _ => decide
  | 6, _ => decide
  | 7, _ => decide
  | r + 8, h => exact absurd h (by omega)
theorem rb_of {R : Nat → Int32} (h : rbA R) : rbd R := by
  refine ⟨h 0 (by omega), h 1 (by omega), h 2 (by omega), h 3 (by omega), h 4 (by omega), h 5 (by omega), h 6 (by omega), h 7 (by omega)⟩
theorem rb_upd {R : Nat → Int32} {r : Nat} {v : Int32} (h : rbA R) (hv : (tLeast r).toInt ≤ v.toInt ∧ v.toInt ≤ (tMost r).toInt) : rbA (upd R r v) := by
  intro i hi
  by_cases q : i = r
  · rw [q, pk_us]; exact hv
  · rw [pk_un q]; exact h i hi
theorem rb_upd8 {R : Nat → Int32} {v : Int32} (h : rbA R) : rbA (upd R 8 v) := by
  intro i hi
  rw [pk_un (by omega)]
  exact h i hi
theorem rb_nums {B : Nat → Int32} {n : Nat} : ∀ (c r : Nat) (R : Nat → Int32) (j : Nat) (x : (Nat → Int32) × Nat), rbA R → nums B n c r R j = .inr x → rbA x.1
  | 0, r, R, j, x, h, e => by
    have : x = (R, j) := by injection e with e; exact e.symm
    rw [this]; exact h
  | c + 1, r, R, j, x, h, e => by
    rw [nums] at e
    by_cases q : tkK B n j = 2
    · rw [if_pos q] at e
      by_cases z : (tLeast r).toInt ≤ (tkV B n j).toInt ∧ (tkV B n j).toInt ≤ (tMost r).toInt
      · rw [if_pos z] at e
        exact rb_nums c (r + 1) _ _ x (rb_upd h z) e
      · rw [if_neg z] at e; exact absurd e (by simp)
    · rw [if_neg q] at e; exact absurd e (by simp)
theorem rb_lnS {B : Nat → Int32} {n k : Nat} {R : Nat → Int32} {j : Nat} {x : (Nat → Int32) × Nat} (h : rbA R) (e : lnS B n k R j = .inr x) : rbA x.1 := by
  unfold lnS at e
  by_cases q : k = 5
  · rw [if_pos q] at e
    by_cases a : tkK B n j = 1 ∧ wd B (tkF B n j) (tkE B n j) 6 = true
    · rw [if_pos a] at e
      injection e with e
      rw [← e]; exact rb_upd8 h
    · rw [if_neg a] at e
      by_cases b : tkK B n j = 1 ∧ wd B (tkF B n j) (tkE B n j) 7 = true
      · rw [if_pos b] at e
        injection e with e
        rw [← e]; exact rb_upd8 h
      · rw [if_neg b] at e; exact absurd e (by simp)
  · rw [if_neg q] at e
    exact rb_nums _ _ _ _ _ h e
theorem rb_stp {B : Nat → Int32} {n : Nat} {T R : Nat → Int32} {j : Nat} {x : (Nat → Int32) × (Nat → Int32) × Nat} (h : rbA R) (e : stp B n T R j = .inr x) : rbA x.2.1 := by
  unfold stp at e
  by_cases q : tkK B n j = 1 ∧ ¬ lnO B (tkF B n j) (tkE B n j) = -1
  · rw [if_pos q] at e
    by_cases a : T (lnO B (tkF B n j) (tkE B n j)).toNatClampNeg = 0
    · rw [if_pos a] at e
      cases hl : lnS B n (lnO B (tkF B n j) (tkE B n j)).toNatClampNeg R (tkE B n j) with
      | inl y => rw [hl] at e; exact absurd e (by simp)
      | inr y =>
        rw [hl] at e
        have e2 : (if tkK B n y.2 = 3 then Sum.inr (upd T (lnO B (tkF B n j) (tkE B n j)).toNatClampNeg 1, y.1, tkE B n y.2) else Sum.inl (1, tkF B n y.2) : PRs) = .inr x := e
        by_cases b : tkK B n y.2 = 3
        · rw [if_pos b] at e2
          injection e2 with e3
          rw [← e3]
          show rbA y.1
          exact rb_lnS h hl
        · rw [if_neg b] at e2; exact absurd e2 (by simp)
    · rw [if_neg a] at e; exact absurd e (by simp)
  · rw [if_neg q] at e; exact absurd e (by simp)
theorem rb_prs {B : Nat → Int32} {n : Nat} : ∀ (f : Nat) (T R : Nat → Int32) (j : Nat) (c : Int32), rbA R → rbA (prs B n f T R j c).2.2.2
  | 0, T, R, j, c, h => h
  | f + 1, T, R, j, c, h => by
    rw [prs]
    by_cases q : tkK B n j = 0
    · rw [if_pos q]; exact h
    · rw [if_neg q]
      cases hs : stp B n T R j with
      | inl x => exact h
      | inr x => exact rb_prs f x.1 x.2.1 x.2.2 (c + 1) (rb_stp h hs)
theorem rb_prT {B : Nat → Int32} {n : Nat} : rbA (prT B n).2.2.2 := rb_prs 7 _ _ _ _ rb_untold
-- ===== what holds of the books on both sides =====
def O1 (nn cl sp : Int32) : Prop := (0 ≤ nn.toInt ∧ nn.toInt ≤ 400) ∧ (0 ≤ cl.toInt ∧ cl.toInt ≤ 119) ∧ (sp = 0 ∨ sp = 1)
def O3 (sn : Int32) (u0 u1 u3 : Nat → Int32) : Prop := mGi sn u0 ∧ mSp sn u1 ∧ ∀ i : Nat, sn.toInt ≤ (i : Int) → u3 i = 0
def O5 (sp : Int32) (g3 : Nat → Int32) : Prop := sp.toInt = 0 → ∀ g_, g_ < 30 → g3 g_ = 0
def O6 (cl sn : Int32) (u1 u3 : Nat → Int32) (ma ta co lo : Int) : Prop := (0 ≤ ma ∧ ma ≤ 99999900) ∧ (0 ≤ ta ∧ 2 * ta ≤ sm (tK u1 u3) sn.toNatClampNeg) ∧ (0 ≤ co ∧ co ≤ sm (tA u1) sn.toNatClampNeg + ma + ta) ∧ 0 ≤ lo ∧ lo ≤ lB cl.toNatClampNeg
def O7 (tn td : Int32) (sc sl sk sq su : Nat → Int32) : Prop := wfS tn.toInt td.toInt sc sl sk sq ∧ ∀ i : Nat, tn.toInt ≤ (i : Int) → su i = 0
section OO
variable {sn cl : Int32} {u0 u1 u2 u3 fr : Nat → Int32} {ma ta co lo : Int}
theorem O6_bd (h3 : O3 sn u0 u1 u3) (h6 : O6 cl sn u1 u3 ma ta co lo) (hc : 0 ≤ cl.toInt ∧ cl.toInt ≤ 119) : (0 ≤ ma ∧ ma ≤ 99999900) ∧ (0 ≤ ta ∧ ta ≤ 625000000) ∧ (0 ≤ co ∧ co ≤ 1975000000) ∧ 0 ≤ lo ∧ lo ≤ 330000000 := by
  have hs := h3.2.1.1
  have hn := nc_int (x := sn) (by omega)
  have hk := nc_int (x := cl) (by omega)
  have a := tK_le (u3 := u3) h3.2.1 (k := sn.toNatClampNeg) (by omega)
  have b := sA_bd h3.2.1 (k := sn.toNatClampNeg) (by omega)
  have l := lB_le (n := cl.toNatClampNeg) (by omega)
  obtain ⟨q1, q2, q3, q4⟩ := h6
  omega
theorem mt_bd (hF : rbd fr) {x : Int} (hx : 1 ≤ x ∧ x ≤ 5000000) (hm : 0 ≤ ma ∧ ma ≤ 99999900) (c : Int) : 0 ≤ mtV fr ma c x ∧ ma + mtV fr ma c x ≤ 99999900 := by
  have f0 := hF.1
  have f1 := hF.2.1
  have b := mul_bd (a := (fr (0 : Int32).toNatClampNeg).toInt) (A := 100) (b := x) (B := 5000000) f0.1 f0.2 (by omega) hx.2
  unfold mtV
  split
  · split
    · omega
    · split <;> omega
  · omega
theorem O_come {x1 x2 r sn2 : Int32} {z0 z1 z2 : Nat → Int32} {ma2 co2 : Int} (hF : rbd fr) (h3 : O3 sn u0 u1 u3) (h6 : O6 cl sn u1 u3 ma ta co lo) (hx1 : 0 ≤ x1.toInt ∧ x1.toInt ≤ 29) (hx2 : 1 ≤ x2.toInt ∧ x2.toInt ≤ 5000000) (hs : sn.toInt < 250) (h : Rcom sn cl x1 x2 fr u0 u1 u2 ma co r sn2 z0 z1 z2 ma2 co2) : O3 sn2 z0 z1 u3 ∧ O6 cl sn2 z1 u3 ma2 ta co2 lo := by
  obtain ⟨⟨a, b, c, d⟩, e, f, g⟩ := h
  have hn := h3.2.1.1
  have e1 := nc_s (x := sn) (by omega) a
  have en := nc_int (x := sn) (by omega)
  have m := mt_bd (ma := ma) hF hx2 h6.1 cl.toInt
  rw [← e] at m
  have tA1 : sm (tA z1) sn2.toNatClampNeg = sm (tA u1) sn.toNatClampNeg + x2.toInt := by rw [e1, c]; exact tA_u
  have tK1 : sm (tK z1 u3) sn2.toNatClampNeg = sm (tK u1 u3) sn.toNatClampNeg := by
    rw [e1, sm_s, c, sm_c (f := tK (upd u1 sn.toNatClampNeg x2) u3) (g := tK u1 u3) (fun k hk => by unfold tK; rw [pk_un (by omega)])]
    have : tK (upd u1 sn.toNatClampNeg x2) u3 sn.toNatClampNeg = 0 := by
      unfold tK
      rw [h3.2.2 sn.toNatClampNeg (by omega)]
      exact if_pos rfl
    omega
  refine ⟨⟨?_, ?_, fun i hi => h3.2.2 i (by omega)⟩, ?_⟩
  · rw [b]; exact mGi_up (by omega) h3.1 a hx1
  · rw [c]; exact mSp_up h3.2.1 hs a hx2
  · obtain ⟨q1, q2, q3, q4⟩ := h6
    refine ⟨by omega, ?_, ?_, q4⟩
    · rw [tK1]; exact q2
    · rw [tA1]; omega
theorem O_noc {sn2 : Int32} {z0 z1 z2 : Nat → Int32} {ma2 co2 : Int} (h3 : O3 sn u0 u1 u3) (h6 : O6 cl sn u1 u3 ma ta co lo) (h : Rnoc sn u0 u1 u2 ma co sn2 z0 z1 z2 ma2 co2) : O3 sn2 z0 z1 u3 ∧ O6 cl sn2 z1 u3 ma2 ta co2 lo := by
  obtain ⟨⟨rfl, rfl, rfl, rfl⟩, rfl, rfl⟩ := h
  exact ⟨h3, h6⟩
theorem O_gif {sp x1 x2 r sn2 : Int32} {z0 z1 z2 : Nat → Int32} {ma2 co2 : Int} (hF : rbd fr) (h3 : O3 sn u0 u1 u3) (h6 : O6 cl sn u1 u3 ma ta co lo) (h : Rgif sp sn cl x1 x2 fr u0 u1 u2 ma co r sn2 z0 z1 z2 ma2 co2) : O3 sn2 z0 z1 u3 ∧ O6 cl sn2 z1 u3 ma2 ta co2 lo := by
  rcases h with ⟨-, -, c⟩ | ⟨-, -, c⟩ | ⟨-, -, c⟩ | ⟨⟨b, e, f⟩, c⟩
  · exact O_noc h3 h6 c
  · exact O_noc h3 h6 c
  · exact O_noc h3 h6 c
  · exact O_come hF h3 h6 b.1 b.2 f c
theorem O_pay {sp bn x1 x2 r sn2 : Int32} {z0 z1 z2 : Nat → Int32} {ma2 co2 : Int} {tP t : Nat → Pl9} (hF : rbd fr) (h3 : O3 sn u0 u1 u3) (h6 : O6 cl sn u1 u3 ma ta co lo) (hA : wfA bn cl.toInt tP) (h : Rpay sp bn sn cl x1 x2 fr u0 u1 u2 ma co tP r sn2 z0 z1 z2 ma2 co2 t) : O3 sn2 z0 z1 u3 ∧ O6 cl sn2 z1 u3 ma2 ta co2 lo := by
  rcases h with ⟨-, c, -⟩ | ⟨-, c, -⟩ | ⟨-, c, -⟩ | ⟨-, c, -⟩ | ⟨-, c, -⟩ | ⟨⟨b, e, f, g, i⟩, c, -⟩
  · exact O_noc h3 h6 c
  · exact O_noc h3 h6 c
  · exact O_noc h3 h6 c
  · exact O_noc h3 h6 c
  · exact O_noc h3 h6 c
  · have hw := hA x1.toNatClampNeg (by have := nc_int (x := x1) b.1.1; have := b.1.2; omega)
    refine O_come hF h3 h6 ?_ b.2 i c
    generalize tP x1.toNatClampNeg = T at hw
    obtain ⟨N, pg, pf, pe, pl, pk, D, F, S⟩ := T
    exact hw.1.2.1
theorem O_txV {x : Int} {g0 g1 : Nat → Int32} (hx : 0 ≤ x ∧ x ≤ 50) (h3 : O3 sn u0 u1 u3) (h6 : O6 cl sn u1 u3 ma ta co lo) : (0 ≤ txV x sn.toNatClampNeg u0 u1 u2 u3 g0 g1) ∧ 2 * (ta + txV x sn.toNatClampNeg u0 u1 u2 u3 g0 g1) ≤ sm (tK u1 (txR x sn.toNatClampNeg u0 u2 u3 g0 g1)) sn.toNatClampNeg := by
  have hs := h3.2.1.1
  have hn := nc_int (x := sn) (by omega)
  obtain ⟨q1, q2, q3, q4⟩ := h6
  unfold txV txR
  by_cases q : x = 0
  · rw [if_pos q, if_pos q]; omega
  · rw [if_neg q, if_neg q]
    have a := tK_tx (u0 := u0) (u2 := u2) (u3 := u3) (g0 := g0) (g1 := g1) hx h3.2.1 (k := sn.toNatClampNeg) (m := sn.toNatClampNeg) (Nat.le_refl _) (by omega)
    have b := sm_bd (f := tTx x u0 u1 u2 u3 g0 g1) (c := 2500000) (n := sn.toNatClampNeg) (fun k hk => tTx_bd hx h3.2.1 (by omega))
    omega
theorem O_clm {sp r : Int32} {g0 g1 z3 : Nat → Int32} {ta2 co2 : Int} (hF : rbd fr) (h3 : O3 sn u0 u1 u3) (h6 : O6 cl sn u1 u3 ma ta co lo) (h : Rclm sp sn fr u0 u1 u2 u3 g0 g1 ta co r z3 ta2 co2) : O3 sn u0 u1 z3 ∧ O6 cl sn u1 z3 ma ta2 co2 lo := by
  rcases h with ⟨-, -, rfl, rfl, rfl⟩ | ⟨a, -, c, d, e⟩
  · exact ⟨h3, h6⟩
  · have t := O_txV (u2 := u2) (g0 := g0) (g1 := g1) hF.2.2.2.1 h3 h6
    rw [← a, ← c] at t
    have hs := h3.2.1.1
    have hn := nc_int (x := sn) (by omega)
    refine ⟨⟨h3.1, h3.2.1, fun i hi => ?_⟩, ?_⟩
    · rw [c]
      unfold txR
      by_cases q : (fr (3 : Int32).toNatClampNeg).toInt = 0
      · rw [if_pos q]; exact h3.2.2 i hi
      · rw [if_neg q]
        unfold fU
        rw [if_neg (by omega)]
        exact h3.2.2 i hi
    · obtain ⟨q1, q2, q3, q4⟩ := h6
      exact ⟨q1, by omega, by omega, q4⟩
theorem O_clb {g0 g1 : Nat → Int32} (hF : rbd fr) (h3 : O3 sn u0 u1 u3) (h6 : O6 cl sn u1 u3 ma ta co lo) : ta + txV (fr (3 : Int32).toNatClampNeg).toInt sn.toNatClampNeg u0 u1 u2 u3 g0 g1 ≤ 700000000 ∧ co + txV (fr (3 : Int32).toNatClampNeg).toInt sn.toNatClampNeg u0 u1 u2 u3 g0 g1 ≤ 2000000000 := by
  have t := O_txV (u2 := u2) (g0 := g0) (g1 := g1) hF.2.2.2.1 h3 h6
  have hs := h3.2.1.1
  have hn := nc_int (x := sn) (by omega)
  have a := tK_le (u3 := txR (fr (3 : Int32).toNatClampNeg).toInt sn.toNatClampNeg u0 u2 u3 g0 g1) h3.2.1 (k := sn.toNatClampNeg) (by omega)
  have b := sA_bd h3.2.1 (k := sn.toNatClampNeg) (by omega)
  obtain ⟨q1, q2, q3, q4⟩ := h6
  omega
theorem O_sto {sp r : Int32} {g3 z3 : Nat → Int32} {co2 : Int} (h3 : O3 sn u0 u1 u3) (h6 : O6 cl sn u1 u3 ma ta co lo) (hc : 0 ≤ cl.toInt ∧ cl.toInt ≤ 119) (h : Rsto sp sn fr u0 u1 g3 co r z3 co2) : O6 cl sn u1 u3 ma ta co2 lo := by
  rcases h with ⟨-, -, -, rfl⟩ | ⟨a, -, -, d⟩
  · exact h6
  · have b := O6_bd h3 h6 hc
    have s := smI_bd (fr := fr) (co := co) h3.2.1 h3.1 (by omega)
    rw [← a] at s
    obtain ⟨q1, q2, q3, q4⟩ := h6
    exact ⟨q1, q2, by omega, q4⟩
end OO
section O7S
variable {tn td : Int32} {sc sl sk sq su : Nat → Int32}
theorem O7_st (h : O7 tn td sc sl sk sq su) : mSt tn td sl := ⟨h.1.1, fun j hj => (h.1.2.1 j hj).2.1⟩
theorem O_stg {sp x1 x2 r tn2 : Int32} {sc2 sl2 : Nat → Int32} (h : O7 tn td sc sl sk sq su) (hr : Rstg sp tn x1 x2 sc sl r tn2 sc2 sl2) : O7 tn2 td sc2 sl2 sk sq su := by
  rcases hr with ⟨-, -, rfl, rfl, rfl⟩ | ⟨-, -, rfl, rfl, rfl⟩ | ⟨-, -, rfl, rfl, rfl⟩ | ⟨-, ⟨⟨b1, b2⟩, -, f⟩, c, d, e⟩
  · exact h
  · exact h
  · exact h
  · obtain ⟨⟨h0, h1, h2⟩, h3⟩ := h
    have en := nc_int (x := tn) (by omega)
    refine ⟨⟨by omega, fun i hi => ?_, fun i hi => h2 i (by omega)⟩, fun i hi => h3 i (by omega)⟩
    rw [d, e]
    by_cases q : i = tn.toNatClampNeg
    · have z := h2 i (by omega)
      rw [z.1, z.2, q, pk_us, pk_us]
      have y0 : (0 : Int32).toInt = 0 := by decide
      rw [y0]
      exact ⟨b1, b2, by omega, fun _ => (Int.mul_zero _).symm, fun _ => rfl⟩
    · rw [pk_un q, pk_un q]; exact h1 i (by omega)
theorem O_beg {sp r td2 : Int32} (h : O7 tn td sc sl sk sq su) (hr : Rbeg sp tn td sl sk r td2) : O7 tn td2 sc sl sk sq su := by
  rcases hr with ⟨-, -, rfl⟩ | ⟨-, ⟨-, -, b⟩, c⟩
  · exact h
  · obtain ⟨⟨h0, h1, h2⟩, h3⟩ := h
    refine ⟨⟨by omega, fun i hi => ?_, h2⟩, h3⟩
    obtain ⟨a1, a2, a3, a4, a5⟩ := h1 i hi
    exact ⟨a1, a2, a3, a4, fun z => a5 (by omega)⟩
theorem pb_su {M : Mo7} : (pbM M).2.2.2.2.2.2 = M.2.2.2.2.2.2 := by
  obtain ⟨co, lo, gr, pd, sk, sq, su⟩ := M
  rfl
theorem gr_su {x : Int} {M : Mo7} : (grM x M).2.2.2.2.2.2 = M.2.2.2.2.2.2 := by
  obtain ⟨co, lo, gr, pd, sk, sq, su⟩ := M
  rfl
theorem by_su {n mx t : Int} {sc sl : Nat → Int32} {M : Mo7} (ht : t ≤ n) (h : ∀ i : Nat, n ≤ (i : Int) → M.2.2.2.2.2.2 i = 0) : ∀ i : Nat, n ≤ (i : Int) → (byM mx t sc sl M).2.2.2.2.2.2 i = 0 := by
  obtain ⟨co, lo, gr, pd, sk, sq, su⟩ := M
  intro i hi
  have hu : su i = 0 := h i hi
  show (if _ then _ else _ : Mo7).2.2.2.2.2.2 i = 0
  by_cases r : 1 ≤ t ∧ (sk (t.toNat - 1)).toInt < (sl (t.toNat - 1)).toInt
  · rw [if_pos r]
    by_cases q : paB co lo mx (ptA t sc sl sk) = true
    · rw [if_pos q]
      show upd su (t.toNat - 1) _ i = 0
      rw [pk_un (by omega)]
      exact hu
    · rw [if_neg q]; exact hu
  · rw [if_neg r]; exact hu
theorem mI_su {x mx t n : Int} {sc sl : Nat → Int32} {M : Mo7} (ht : t ≤ n) (h : ∀ i : Nat, n ≤ (i : Int) → M.2.2.2.2.2.2 i = 0) : ∀ (k : Nat) (i : Nat), n ≤ (i : Int) → (mnI x mx t sc sl k M).2.2.2.2.2.2 i = 0
  | 0, i, hi => h i hi
  | k + 1, i, hi => by
    show (pbM (byM mx t sc sl (grM x (mnI x mx t sc sl k M)))).2.2.2.2.2.2 i = 0
    rw [pb_su]
    exact by_su ht (fun j hj => by rw [gr_su]; exact mI_su ht h k j hj) i hi
theorem O_mon {sp bn cl sn x1 r cl2 : Int32} {u1 u3 fr : Nat → Int32} {ma ta co lo co2 lo2 : Int} {gr pd gr2 pd2 : Int32} {sk2 sq2 su2 : Nat → Int32} {tP t : Nat → Pl9} (hF : rbd fr) (hc : 0 ≤ cl.toInt ∧ cl.toInt ≤ 119) (h6 : O6 cl sn u1 u3 ma ta co lo) (h7 : O7 tn td sc sl sk sq su) (h : Rmon sp bn td cl x1 fr sc sl tP (co, lo, gr, pd, sk, sq, su) r cl2 t (co2, lo2, gr2, pd2, sk2, sq2, su2)) : (0 ≤ cl2.toInt ∧ cl2.toInt ≤ 119) ∧ O6 cl2 sn u1 u3 ma ta co2 lo2 ∧ O7 tn td sc sl sk2 sq2 su2 := by
  rcases h with ⟨-, -, rfl, -, e⟩ | ⟨-, -, rfl, -, e⟩ | ⟨-, ⟨⟨a, b⟩, -⟩, c, -, e⟩
  · obtain ⟨rfl, rfl, rfl, rfl, rfl, rfl, rfl⟩ := mo7_inj e
    exact ⟨hc, h6, h7⟩
  · obtain ⟨rfl, rfl, rfl, rfl, rfl, rfl, rfl⟩ := mo7_inj e
    exact ⟨hc, h6, h7⟩
  · obtain ⟨q1, q2, q3, q4⟩ := h6
    have e1 := nc_int (x := cl) hc.1
    have e2 := nc_int (x := x1) (by omega)
    have e3 := nc_int (x := cl2) (by omega)
    have f5 := hF.2.2.2.2.2.1
    have w0 : wfM tn.toInt td.toInt sc sl co (lB cl.toNatClampNeg) (co, lo, gr, pd, sk, sq, su) := ⟨⟨q3.1, Int.le_refl _⟩, q4, h7.1⟩
    have w := wf_mI (x := (fr (6 : Int32).toNatClampNeg).toInt) (mx := 100 * (fr (5 : Int32).toNatClampNeg).toInt) w0 hF.2.2.2.2.2.2.1 (by omega) (j := x1.toNatClampNeg) (by omega)
    have s := mI_su (x := (fr (6 : Int32).toNatClampNeg).toInt) (mx := 100 * (fr (5 : Int32).toNatClampNeg).toInt) (t := td.toInt) (n := tn.toInt) (sc := sc) (sl := sl) (M := (co, lo, gr, pd, sk, sq, su)) h7.1.1.2.1 h7.2 x1.toNatClampNeg
    rw [← e] at w s
    obtain ⟨w1, w2, w3⟩ := w
    rw [show cl.toNatClampNeg + x1.toNatClampNeg = cl2.toNatClampNeg by omega] at w2
    exact ⟨by omega, ⟨q1, q2, by omega, w2⟩, w3, s⟩
end O7S

