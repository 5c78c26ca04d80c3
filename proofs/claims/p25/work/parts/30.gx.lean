-- ===== the two whole worlds, what both show, and the relations of their answers =====
def tyX (d : Nat → ClassId) : List (ClassId × FieldType) := [((d 0), .byte), ((d 1), .int), ((d 2), .boolean), ((d 3), .int), ((d 4), .int), ((d 5), .int), ((d 6), .boolean), ((d 7), .int), ((d 8), .int), ((d 9), .int), ((d 10), .object "TowerAppeal$Pledge"), ((d 11), .int), ((d 12), .int), ((d 13), .int), ((d 14), .boolean), ((d 15), .object "TowerAppeal$Stage")]
def tyM (d : Nat → ClassId) : List (ClassId × FieldType) := [((d 0), .int), ((d 1), .int), ((d 3), .byte), ((d 4), .boolean), ((d 5), .int), ((d 6), .int), ((d 7), .int), ((d 8), .int), ((d 9), .boolean), ((d 10), .int), ((d 11), .int), ((d 12), .int), ((d 13), .int), ((d 14), .int), ((d 15), .int), ((d 16), .boolean), ((d 17), .boolean), ((d 18), .int), ((d 19), .int), ((d 20), .boolean), ((d 21), .boolean), ((d 22), .int), ((d 23), .int), ((d 24), .int), ((d 25), .boolean), ((d 26), .int), ((d 27), .int), ((d 28), .int), ((d 29), .int), ((d 30), .int), ((d 31), .int), ((d 32), .int)]
def wTop (a : Nat → Nat) (d : Nat → ClassId) (h : Nat) (cl : Int32) (sp : Int32) : va_W := [(qAAAAAAAAII h 10 (a 0) (a 2) (a 6) (a 8) (a 15) (a 17) (a 22) (a 23) cl sp)]
def wTape (a : Nat → Nat) (d : Nat → ClassId) (nn : Int32) (ft0 : Nat → Int32) : va_W := [(qAI (a 0) 6 (a 1) nn), (qarI (a 1) (d 0) 400 ft0)]
def wRead (a : Nat → Nat) (d : Nat → ClassId) (rh : Int32) (rt : Int32) (rs : Int32) (rv : Int32) (rk : Int32) (rp : Int32) (fd : Nat → Int32) (ft : Nat → Int32) : va_W := [(qAAIIIIII (a 2) 9 (a 3) (a 5) rh rt rs rv rk rp), (qA (a 3) 8 (a 4)), (qarI (a 4) (d 1) 9 fd), (qarI (a 5) (d 2) 6 ft)]
def wForce (a : Nat → Nat) (d : Nat → ClassId) (fr : Nat → Int32) : va_W := [(qA (a 6) 8 (a 7)), (qarI (a 7) (d 3) 9 fr)]
def wGiv (a : Nat → Nat) (d : Nat → ClassId) (g0 : Nat → Int32) (g1 : Nat → Int32) (g2 : Nat → Int32) (g3 : Nat → Int32) (g4 : Nat → Int32) (g5 : Nat → Int32) : va_W := [(qAAAAAA (a 8) 0 (a 9) (a 10) (a 11) (a 12) (a 13) (a 14)), (qarI (a 9) (d 4) 30 g0), (qarI (a 10) (d 5) 30 g1), (qarI (a 11) (d 6) 30 g2), (qarI (a 12) (d 7) 30 g3), (qarI (a 13) (d 8) 30 g4), (qarI (a 14) (d 9) 30 g5)]
def wPl (a : Nat → Nat) (d : Nat → ClassId) (bn : Int32) (fa : Nat → Option Nat) : va_W := [(qAI (a 15) 2 (a 16) bn), (qarQ (a 16) (d 10) 60 fa)]
def wSu (a : Nat → Nat) (d : Nat → ClassId) (sn : Int32) (st : Int64) (u0 : Nat → Int32) (u1 : Nat → Int32) (u2 : Nat → Int32) (u3 : Nat → Int32) : va_W := [(qAAAAIJ (a 17) 5 (a 18) (a 19) (a 20) (a 21) sn st), (qarI (a 18) (d 11) 250 u0), (qarI (a 19) (d 12) 250 u1), (qarI (a 20) (d 13) 250 u2), (qarI (a 21) (d 14) 250 u3)]
def wPu (a : Nat → Nat) (d : Nat → ClassId) (p0 : Int64) (p1 : Int64) (p2 : Int64) (p3 : Int64) (p4 : Int64) (p5 : Int64) : va_W := [(qJJJJJJ (a 22) 3 p0 p1 p2 p3 p4 p5)]
def wTo (a : Nat → Nat) (d : Nat → ClassId) (tn : Int32) (td : Int32) (fs : Nat → Option Nat) : va_W := [(qAII (a 23) 7 (a 24) tn td), (qarQ (a 24) (d 15) 8 fs)]
def wMo (a : Nat → Nat) (d : Nat → ClassId) (h : Nat) (nn : Int32) (v_size : Int32) (v_from : Int32) (v_behind : Int32) (v_hand : Int32) (v_value : Int32) (rk : Int32) (rp : Int32) (cl : Int32) (v_coin : Int32) (v_loan : Int32) (v_matched : Int32) (v_taxed : Int32) (pd : Int32) (gr : Int32) (bn : Int32) (sn : Int32) (tn : Int32) (sp : Int32) (td : Int32) : va_W := [(cMq a h nn v_size v_from v_behind v_hand v_value rk rp cl v_coin v_loan v_matched v_taxed pd gr bn sn tn sp td)]
def wH (a : Nat → Nat) (d : Nat → ClassId) : va_W := [((a 2), .inr (11, [.null, .null, .null, .null, .null, .int 0]))]
def wM_rule (a : Nat → Nat) (d : Nat → ClassId) (fr : Nat → Int32) : va_W := [(qarI (a 0) (d 0) 9 fr)]
def wM_read (a : Nat → Nat) (d : Nat → ClassId) (f_read : Nat → Int32) : va_W := [(qarI (a 1) (d 1) 9 f_read)]
def wM_tape (a : Nat → Nat) (d : Nat → ClassId) (ft0 : Nat → Int32) : va_W := [(qarI (a 3) (d 3) 400 ft0)]
def wM_told (a : Nat → Nat) (d : Nat → ClassId) (f_told : Nat → Int32) : va_W := [(qarI (a 4) (d 4) 6 f_told)]
def wM_declaredFrom (a : Nat → Nat) (d : Nat → ClassId) (g0 : Nat → Int32) : va_W := [(qarI (a 5) (d 5) 30 g0)]
def wM_declaredTo (a : Nat → Nat) (d : Nat → ClassId) (g1 : Nat → Int32) : va_W := [(qarI (a 6) (d 6) 30 g1)]
def wM_given (a : Nat → Nat) (d : Nat → ClassId) (f_given : Nat → Int32) : va_W := [(qarI (a 7) (d 7) 30 f_given)]
def wM_back (a : Nat → Nat) (d : Nat → ClassId) (g3 : Nat → Int32) : va_W := [(qarI (a 8) (d 8) 30 g3)]
def wM_isNameless (a : Nat → Nat) (d : Nat → ClassId) (g2 : Nat → Int32) : va_W := [(qarI (a 9) (d 9) 30 g2)]
def wM_giver (a : Nat → Nat) (d : Nat → ClassId) (f_giver : Nat → Int32) : va_W := [(qarI (a 10) (d 10) 60 f_giver)]
def wM_pence (a : Nat → Nat) (d : Nat → ClassId) (f_pence : Nat → Int32) : va_W := [(qarI (a 11) (d 11) 60 f_pence)]
def wM_first (a : Nat → Nat) (d : Nat → ClassId) (f_first : Nat → Int32) : va_W := [(qarI (a 12) (d 12) 60 f_first)]
def wM_every (a : Nat → Nat) (d : Nat → ClassId) (f_every : Nat → Int32) : va_W := [(qarI (a 13) (d 13) 60 f_every)]
def wM_dues (a : Nat → Nat) (d : Nat → ClassId) (f_dues : Nat → Int32) : va_W := [(qarI (a 14) (d 14) 60 f_dues)]
def wM_lapsedAt (a : Nat → Nat) (d : Nat → ClassId) (f_lapsedAt : Nat → Int32) : va_W := [(qarI (a 15) (d 15) 60 f_lapsedAt)]
def wM_isLapsed (a : Nat → Nat) (d : Nat → ClassId) (f_isLapsed : Nat → Int32) : va_W := [(qarI (a 16) (d 16) 60 f_isLapsed)]
def wM_wasTakenUp (a : Nat → Nat) (d : Nat → ClassId) (f_wasTakenUp : Nat → Int32) : va_W := [(qarI (a 17) (d 17) 60 f_wasTakenUp)]
def wM_due (a : Nat → Nat) (d : Nat → ClassId) (f_due : Nat → Int32) : va_W := [(qarI (a 18) (d 18) 5040 f_due)]
def wM_filled (a : Nat → Nat) (d : Nat → ClassId) (f_filled : Nat → Int32) : va_W := [(qarI (a 19) (d 19) 5040 f_filled)]
def wM_isThere (a : Nat → Nat) (d : Nat → ClassId) (f_isThere : Nat → Int32) : va_W := [(qarI (a 20) (d 20) 5040 f_isThere)]
def wM_counts (a : Nat → Nat) (d : Nat → ClassId) (f_counts : Nat → Int32) : va_W := [(qarI (a 21) (d 21) 5040 f_counts)]
def wM_sumGiver (a : Nat → Nat) (d : Nat → ClassId) (u0 : Nat → Int32) : va_W := [(qarI (a 22) (d 22) 250 u0)]
def wM_sumMonth (a : Nat → Nat) (d : Nat → ClassId) (u2 : Nat → Int32) : va_W := [(qarI (a 23) (d 23) 250 u2)]
def wM_sumPence (a : Nat → Nat) (d : Nat → ClassId) (u1 : Nat → Int32) : va_W := [(qarI (a 24) (d 24) 250 u1)]
def wM_isClaimed (a : Nat → Nat) (d : Nat → ClassId) (u3 : Nat → Int32) : va_W := [(qarI (a 25) (d 25) 250 u3)]
def wM_cost (a : Nat → Nat) (d : Nat → ClassId) (sc : Nat → Int32) : va_W := [(qarI (a 26) (d 26) 8 sc)]
def wM_length (a : Nat → Nat) (d : Nat → ClassId) (sl : Nat → Int32) : va_W := [(qarI (a 27) (d 27) 8 sl)]
def wM_parts (a : Nat → Nat) (d : Nat → ClassId) (sk : Nat → Int32) : va_W := [(qarI (a 28) (d 28) 8 sk)]
def wM_stagePaid (a : Nat → Nat) (d : Nat → ClassId) (sq : Nat → Int32) : va_W := [(qarI (a 29) (d 29) 8 sq)]
def wM_paused (a : Nat → Nat) (d : Nat → ClassId) (su : Nat → Int32) : va_W := [(qarI (a 30) (d 30) 8 su)]
def wM_sum (a : Nat → Nat) (d : Nat → ClassId) (f_sum : Nat → Int32) : va_W := [(qarI (a 31) (d 31) 30 f_sum)]
def wM_stones (a : Nat → Nat) (d : Nat → ClassId) (f_stones : Nat → Int32) : va_W := [(qarI (a 32) (d 32) 30 f_stones)]
def gO (nn : Int32) (cl : Int32) (sp : Int32) (bn : Int32) (tn : Int32) (g2 : Nat → Int32) (ft0 : Nat → Int32) (fr : Nat → Int32) (rk : Int32) (rp : Int32) (tP : Nat → Pl9) (sn : Int32) (u0 : Nat → Int32) (u1 : Nat → Int32) (u2 : Nat → Int32) (u3 : Nat → Int32) (g0 : Nat → Int32) (g1 : Nat → Int32) (g3 : Nat → Int32) (ma : Int) (ta : Int) (co : Int) (lo : Int) (gr : Int32) (pd : Int32) (td : Int32) (sc : Nat → Int32) (sl : Nat → Int32) (sk : Nat → Int32) (sq : Nat → Int32) (su : Nat → Int32) : Prop := O1 nn cl sp ∧ (Byt ft0 ∧ rbd fr) ∧ O3 sn u0 u1 u3 ∧ wfA bn cl.toInt tP ∧ O5 sp g3 ∧ O6 cl sn u1 u3 ma ta co lo ∧ O7 tn td sc sl sk sq su
def gX (h : Nat) (a : Nat → Nat) (d : Nat → ClassId) (nn : Int32) (cl : Int32) (sp : Int32) (bn : Int32) (tn : Int32) (g2 : Nat → Int32) (ft0 : Nat → Int32) (fr : Nat → Int32) (rk : Int32) (rp : Int32) (tP : Nat → Pl9) (sn : Int32) (u0 : Nat → Int32) (u1 : Nat → Int32) (u2 : Nat → Int32) (u3 : Nat → Int32) (g0 : Nat → Int32) (g1 : Nat → Int32) (g3 : Nat → Int32) (ma : Int) (ta : Int) (co : Int) (lo : Int) (gr : Int32) (pd : Int32) (td : Int32) (sc : Nat → Int32) (sl : Nat → Int32) (sk : Nat → Int32) (sq : Nat → Int32) (su : Nat → Int32) (w : va_W) : Prop := ∃ (rh : Int32) (rt : Int32) (rs : Int32) (rv : Int32) (fd : Nat → Int32) (ft : Nat → Int32) (g4 : Nat → Int32) (g5 : Nat → Int32) (fa : Nat → Option Nat) (st : Int64) (p0 : Int64) (p1 : Int64) (p2 : Int64) (p3 : Int64) (p4 : Int64) (p5 : Int64) (fs : Nat → Option Nat) (nP : Nat) (bP : Nat → va_W) (nS : Nat) (bS : Nat → va_W), (gO nn cl sp bn tn g2 ft0 fr rk rp tP sn u0 u1 u2 u3 g0 g1 g3 ma ta co lo gr pd td sc sl sk sq su ∧ ((nP : Int) = bn.toInt ∧ nP ≤ 60 ∧ ∀ i, i < nP → okE (d 3) (tP i) (fa i) (bP i)) ∧ ((nS : Int) = tn.toInt ∧ nS ≤ 8 ∧ ∀ i, i < nS → okZ (zT td.toInt sc sl sk sq su i) (fs i) (bS i)) ∧ st.toInt = sm (tA u1) sn.toNatClampNeg ∧ co = p0.toInt ∧ lo = p1.toInt ∧ ma = p2.toInt ∧ ta = p3.toInt ∧ pd = p4.toInt32 ∧ gr = p5.toInt32) ∧ w = List.flatten [wTop a d h cl sp, wTape a d nn ft0, wRead a d rh rt rs rv rk rp fd ft, wForce a d fr, wGiv a d g0 g1 g2 g3 g4 g5, wPl a d bn fa, wSu a d sn st u0 u1 u2 u3, wPu a d p0 p1 p2 p3 p4 p5, wTo a d tn td fs, PW nP bP, PW nS bS]
def gM (h : Nat) (a : Nat → Nat) (d : Nat → ClassId) (nn : Int32) (cl : Int32) (sp : Int32) (bn : Int32) (tn : Int32) (g2 : Nat → Int32) (ft0 : Nat → Int32) (fr : Nat → Int32) (rk : Int32) (rp : Int32) (tP : Nat → Pl9) (sn : Int32) (u0 : Nat → Int32) (u1 : Nat → Int32) (u2 : Nat → Int32) (u3 : Nat → Int32) (g0 : Nat → Int32) (g1 : Nat → Int32) (g3 : Nat → Int32) (ma : Int) (ta : Int) (co : Int) (lo : Int) (gr : Int32) (pd : Int32) (td : Int32) (sc : Nat → Int32) (sl : Nat → Int32) (sk : Nat → Int32) (sq : Nat → Int32) (su : Nat → Int32) (w : va_W) : Prop := ∃ (v_size : Int32) (v_from : Int32) (v_behind : Int32) (v_hand : Int32) (v_value : Int32) (v_coin : Int32) (v_loan : Int32) (v_matched : Int32) (v_taxed : Int32) (f_read : Nat → Int32) (f_told : Nat → Int32) (f_given : Nat → Int32) (f_giver : Nat → Int32) (f_pence : Nat → Int32) (f_first : Nat → Int32) (f_every : Nat → Int32) (f_dues : Nat → Int32) (f_lapsedAt : Nat → Int32) (f_isLapsed : Nat → Int32) (f_wasTakenUp : Nat → Int32) (f_due : Nat → Int32) (f_filled : Nat → Int32) (f_isThere : Nat → Int32) (f_counts : Nat → Int32) (f_sum : Nat → Int32) (f_stones : Nat → Int32), (gO nn cl sp bn tn g2 ft0 fr rk rp tP sn u0 u1 u2 u3 g0 g1 g3 ma ta co lo gr pd td sc sl sk sq su ∧ (mPd bn f_dues ∧ mGi bn f_giver) ∧ mR bn tP f_giver f_isLapsed f_wasTakenUp f_first f_every f_dues f_due f_filled f_isThere f_counts ∧ mGv sn u0 u1 f_given ∧ co = v_coin.toInt ∧ lo = v_loan.toInt ∧ ma = v_matched.toInt ∧ ta = v_taxed.toInt) ∧ w = List.flatten [wMo a d h nn v_size v_from v_behind v_hand v_value rk rp cl v_coin v_loan v_matched v_taxed pd gr bn sn tn sp td, wH a d, wM_rule a d fr, wM_read a d f_read, wM_tape a d ft0, wM_told a d f_told, wM_declaredFrom a d g0, wM_declaredTo a d g1, wM_given a d f_given, wM_back a d g3, wM_isNameless a d g2, wM_giver a d f_giver, wM_pence a d f_pence, wM_first a d f_first, wM_every a d f_every, wM_dues a d f_dues, wM_lapsedAt a d f_lapsedAt, wM_isLapsed a d f_isLapsed, wM_wasTakenUp a d f_wasTakenUp, wM_due a d f_due, wM_filled a d f_filled, wM_isThere a d f_isThere, wM_counts a d f_counts, wM_sumGiver a d u0, wM_sumMonth a d u2, wM_sumPence a d u1, wM_isClaimed a d u3, wM_cost a d sc, wM_length a d sl, wM_parts a d sk, wM_stagePaid a d sq, wM_paused a d su, wM_sum a d f_sum, wM_stones a d f_stones]
def Rfeed (nn : Int32) (ft0 : Nat → Int32) (x1 x2 x3 x4 x5 r n2 : Int32) (f2 : Nat → Int32) : Prop := (380 < nn.toInt ∧ r = (-3) ∧ n2 = nn ∧ f2 = ft0) ∨ (nn.toInt ≤ 380 ∧ r = n2 ∧ n2.toInt = nn.toInt + 20 ∧ f2 = lay20 ft0 nn.toNatClampNeg x1 x2 x3 x4 x5)
def Rtru (nn : Int32) (ft0 fr : Nat → Int32) (r rk2 rp2 : Int32) (fr2 : Nat → Int32) : Prop := r = (prT ft0 nn.toNatClampNeg).1 ∧ rk2 = (prT ft0 nn.toNatClampNeg).2.1 ∧ rp2 = (prT ft0 nn.toNatClampNeg).2.2.1 ∧ fr2 = (if r = -1 then fr else (prT ft0 nn.toNatClampNeg).2.2.2)
def Rfau (rk rp x1 r : Int32) : Prop := (x1 = 0 ∧ r = rk) ∨ (x1 = 1 ∧ r = rp) ∨ (¬ x1 = 0 ∧ ¬ x1 = 1 ∧ r = (-1))
def Rrul (fr : Nat → Int32) (x1 r : Int32) : Prop := ((0 ≤ x1.toInt ∧ x1.toInt ≤ 8) ∧ r = fr x1.toNatClampNeg) ∨ (¬ (0 ≤ x1.toInt ∧ x1.toInt ≤ 8) ∧ r = (-9))
def Rend (nn x1 r n2 : Int32) : Prop := (r = (-1) ∧ n2 = nn ∧ ¬ (0 ≤ x1.toInt ∧ x1.toInt ≤ nn.toInt)) ∨ (r = x1 ∧ n2 = x1 ∧ 0 ≤ x1.toInt ∧ x1.toInt ≤ nn.toInt)
def RnamX (g2 : Nat → Int32) (sp x1 x2 r : Int32) (z2 : Nat → Int32) : Prop := (r = (-2) ∧ ¬ (0 ≤ x1.toInt ∧ x1.toInt ≤ 29) ∧ z2 = g2) ∨ (r = (-4) ∧ (0 ≤ x1.toInt ∧ x1.toInt ≤ 29) ∧ ¬ sp.toInt = 0 ∧ z2 = g2) ∨ (r = 1 ∧ (0 ≤ x1.toInt ∧ x1.toInt ≤ 29) ∧ sp.toInt = 0 ∧ z2 = upd g2 x1.toNatClampNeg (vp_nar .boolean x2) ∧ ¬ g2 x1.toNatClampNeg = x2) ∨ (r = 0 ∧ (0 ≤ x1.toInt ∧ x1.toInt ≤ 29) ∧ sp.toInt = 0 ∧ z2 = g2 ∧ g2 x1.toNatClampNeg = x2)
def RnamM (g2 : Nat → Int32) (sp x1 x2 r : Int32) (z2 : Nat → Int32) : Prop := (r = (-2) ∧ ¬ (0 ≤ x1.toInt ∧ x1.toInt ≤ 29) ∧ z2 = g2) ∨ (r = (-4) ∧ (0 ≤ x1.toInt ∧ x1.toInt ≤ 29) ∧ ¬ sp.toInt = 0 ∧ z2 = g2) ∨ ((0 ≤ x1.toInt ∧ x1.toInt ≤ 29) ∧ sp.toInt = 0 ∧ z2 = upd g2 x1.toNatClampNeg (vp_nar .boolean x2) ∧ ((r = 0 ∧ g2 x1.toNatClampNeg = x2) ∨ (r = 1 ∧ ¬ g2 x1.toNatClampNeg = x2)))
theorem bd_feed {nn x1 x2 x3 x4 x5 r n2 : Int32} {ft0 f2 : Nat → Int32} (h : Rfeed nn ft0 x1 x2 x3 x4 x5 r n2 f2) (h0 : 0 ≤ nn.toInt) (h1 : nn.toInt ≤ 400) : 0 ≤ n2.toInt ∧ n2.toInt ≤ 400 := by
  rcases h with ⟨a, -, rfl, -⟩ | ⟨a, -, b, -⟩ <;> omega
theorem bd_byt {nn x1 x2 x3 x4 x5 r n2 : Int32} {ft0 f2 : Nat → Int32} (h : Rfeed nn ft0 x1 x2 x3 x4 x5 r n2 f2) (hb : Byt ft0) : Byt f2 := by
  rcases h with ⟨-, -, -, rfl⟩ | ⟨-, -, -, rfl⟩
  · exact hb
  · exact Byt_lay20 hb
theorem rel_trust {nn r rk2 rp2 r' rk2' rp2' : Int32} {ft0 fr fr2 fr2' : Nat → Int32} (h : Rtru nn ft0 fr r rk2 rp2 fr2) (h' : Rtru nn ft0 fr r' rk2' rp2' fr2') : r = r' ∧ rk2 = rk2' ∧ rp2 = rp2' ∧ fr2 = fr2' := by
  obtain ⟨a, b, c, d⟩ := h
  obtain ⟨a', b', c', d'⟩ := h'
  have e : r = r' := a.trans a'.symm
  refine ⟨e, b.trans b'.symm, c.trans c'.symm, ?_⟩
  rw [d, d', e]
theorem rel_fault {rk rp x1 r r' : Int32} (h : Rfau rk rp x1 r) (h' : Rfau rk rp x1 r') : r = r' := by
  rcases h with ⟨a, rfl⟩ | ⟨a, rfl⟩ | ⟨a, b, rfl⟩ <;> rcases h' with ⟨a', rfl⟩ | ⟨a', rfl⟩ | ⟨a', b', rfl⟩ <;> first | rfl | exact absurd a' a | exact absurd a a' | exact absurd a' b | exact absurd a b' | (subst a; exact absurd a' (by decide))
theorem rel_rule {fr : Nat → Int32} {x1 r r' : Int32} (h : Rrul fr x1 r) (h' : Rrul fr x1 r') : r = r' := by
  rcases h with ⟨a, rfl⟩ | ⟨a, rfl⟩ <;> rcases h' with ⟨a', rfl⟩ | ⟨a', rfl⟩ <;> first | rfl | exact absurd a' a | exact absurd a a'
theorem bd_end {nn x1 r n2 : Int32} (h : Rend nn x1 r n2) (h0 : 0 ≤ nn.toInt) (h1 : nn.toInt ≤ 400) : 0 ≤ n2.toInt ∧ n2.toInt ≤ 400 := by
  rcases h with ⟨-, rfl, -⟩ | ⟨-, rfl, b, c⟩ <;> omega
theorem bd_tru {nn r rk2 rp2 : Int32} {ft0 fr fr2 : Nat → Int32} (h : Rtru nn ft0 fr r rk2 rp2 fr2) (hF : rbd fr) : rbd fr2 := by
  rw [h.2.2.2]
  by_cases q : r = -1
  · rw [if_pos q]; exact hF
  · rw [if_neg q]; exact rb_of rb_prT
theorem rel_feed {nn x1 x2 x3 x4 x5 r n2 r' n2' : Int32} {ft0 f2 f2' : Nat → Int32} (h : Rfeed nn ft0 x1 x2 x3 x4 x5 r n2 f2) (h' : Rfeed nn ft0 x1 x2 x3 x4 x5 r' n2' f2') : r = r' ∧ n2 = n2' ∧ f2 = f2' := by
  rcases h with ⟨a, rfl, rfl, rfl⟩ | ⟨a, rfl, b, rfl⟩ <;> rcases h' with ⟨a', rfl, rfl, rfl⟩ | ⟨a', rfl, b', rfl⟩
  · exact ⟨rfl, rfl, rfl⟩
  · exfalso; omega
  · exfalso; omega
  · have : r = r' := Int32.toInt_inj.mp (by omega)
    exact ⟨this, this, rfl⟩
theorem rel_end {nn x1 r n2 r' n2' : Int32} (h : Rend nn x1 r n2) (h' : Rend nn x1 r' n2') : r = r' ∧ n2 = n2' := by
  rcases h with ⟨rfl, rfl, a⟩ | ⟨rfl, rfl, a⟩ <;> rcases h' with ⟨rfl, rfl, a'⟩ | ⟨rfl, rfl, a'⟩
  · exact ⟨rfl, rfl⟩
  · exact absurd a' a
  · exact absurd a a'
  · exact ⟨rfl, rfl⟩
theorem upd_own {f : Nat → Int32} {i : Nat} {v : Int32} (h : f i = v) : upd f i v = f := by
  funext j
  by_cases q : j = i
  · rw [q, pk_us, h]
  · rw [pk_un q]
theorem nar_own {x : Int32} (h : x = 0 ∨ x = 1) : vp_nar .boolean x = x := by
  rcases h with rfl | rfl
  · exact nar_z0
  · exact nar_z1
theorem rel_nameless {g2 z2 z2' : Nat → Int32} {sp x1 x2 r r' : Int32} (hx : x2 = 0 ∨ x2 = 1) (h : RnamX g2 sp x1 x2 r z2) (h' : RnamM g2 sp x1 x2 r' z2') : r = r' ∧ z2 = z2' := by
  rcases h with ⟨rfl, a, e⟩ | ⟨rfl, a, b, e⟩ | ⟨rfl, a, b, e, f⟩ | ⟨rfl, a, b, e, f⟩ <;> rcases h' with ⟨rfl, a', e'⟩ | ⟨rfl, a', b', e'⟩ | ⟨a', b', e', ⟨rfl, f'⟩ | ⟨rfl, f'⟩⟩ <;> first | exact absurd a' a | exact absurd a a' | exact absurd b' b | exact absurd b b' | exact absurd f' f | exact absurd f f' | exact ⟨rfl, e.trans e'.symm⟩ | exact ⟨rfl, by rw [e, e', nar_own hx, upd_own f]⟩
section LR
variable {s : State} {H : Heap} {locs : List Loc} {G : va_G} {k : Nat → Nat} {A : Nat → Prop} {tys : List (ClassId × FieldType)} {ws w' tl : va_W}
theorem cs_tn (St : cS G k ws (tys ++ []) A s H locs) : cS G k ws tys A s H locs := by rw [List.append_nil] at St; exact St
theorem cs_eqw (St : cS G k ws tys A s H locs) (h : ws = w') : cS G k w' tys A s H locs := by rw [← h]; exact St
theorem ct_ord (St : cS G k (ws ++ tl) tys A s H locs) (is : List Nat) (hw : is.map (fun i => ws[i]?) = w'.map some) (hn : va_nd is = true) : cS G k (w' ++ tl) tys A s H locs := by
  obtain ⟨hK, hP, hD, hr⟩ := St
  exact ⟨hK, hP.sub (ws' := w' ++ tl) _ (fm_of_map _ _ _ (ap_R hw)), hD.sub (ws' := w' ++ tl) _ (ap_nd hw hn) (ap_R hw), hr⟩
theorem sg_frt {sg s1 s2 : List va_W} {m9 : va_W} (St : cS G k (sg.flatten ++ m9) tys A s H locs) (n : Nat) (hl : (sg ++ [m9]).length = n) (is : List Nat) (h : is.map (fun i => (sg ++ [m9])[i]?) = (s1 ++ s2).map some) (hp : is.isPerm (List.range n) = true) : cS G k ((s1 ++ [s2.flatten]).flatten) tys A s H locs := by
  have e : sg.flatten ++ m9 = (sg ++ [m9]).flatten := by simp
  have e2 : s1.flatten ++ s2.flatten = (s1 ++ [s2.flatten]).flatten := by simp
  rw [← e2]
  exact sg_two (sg := sg ++ [m9]) (cs_eqw St e) n hl is h hp
theorem sg_bck {sg s1 s2 : List va_W} {m9 : va_W} (St : cS G k ((s1 ++ [s2.flatten]).flatten) tys A s H locs) (n : Nat) (hl : (s1 ++ s2).length = n) (is : List Nat) (h : is.map (fun i => (s1 ++ s2)[i]?) = (sg ++ [m9]).map some) (hp : is.isPerm (List.range n) = true) : cS G k (sg.flatten ++ m9) tys A s H locs := by
  have e : (sg ++ [m9]).flatten = sg.flatten ++ m9 := by simp
  have e2 : (s1 ++ [s2.flatten]).flatten = (s1 ++ s2).flatten := by simp
  have := sg_seg (sg := s1 ++ s2) (s1 := sg ++ [m9]) (cs_eqw St e2) n hl is h hp
  exact cs_eqw this e
end LR
theorem gO_0 : gO 0 0 0 0 0 (fun _ => 0) (fun _ => 0) untold 0 (-1) (fun _ => (0, 0, 0, 0, 0, 0, (fun _ => 0), (fun _ => 0), (fun _ => 0))) 0 (fun _ => 0) (fun _ => 0) (fun _ => 0) (fun _ => 0) (minus 30) (minus 30) (fun _ => 0) 0 0 0 0 0 0 0 (fun _ => 0) (fun _ => 0) (fun _ => 0) (fun _ => 0) (fun _ => 0) := by
  have y0 : (0 : Int32).toInt = 0 := by decide
  refine ⟨⟨by decide, by decide, Or.inl rfl⟩, ⟨fun _ => (by decide : (-128 : Int) ≤ (0 : Int32).toInt ∧ (0 : Int32).toInt ≤ 127), rb_of rb_untold⟩, ⟨fun j q => absurd q (by omega), ⟨by omega, fun j q => absurd q (by omega)⟩, fun _ _ => rfl⟩, fun i q => absurd q (by omega), fun _ _ _ => rfl, ⟨by decide, ?_, ?_, ?_⟩, ⟨⟨by decide, fun i q => absurd q (by omega), fun _ _ => ⟨rfl, rfl⟩⟩, fun _ _ => rfl⟩⟩
  · show (0 : Int) ≤ 0 ∧ 2 * (0 : Int) ≤ 0
    omega
  · show (0 : Int) ≤ 0 ∧ (0 : Int) ≤ 0 + 0 + 0
    omega
  · show (0 : Int) ≤ 0 ∧ (0 : Int) ≤ 99999900
    omega

