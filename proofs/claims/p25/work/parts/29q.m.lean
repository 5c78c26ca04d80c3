set_option maxHeartbeats 4000000 in
set_option maxRecDepth 100000 in
theorem e12_monthOf (l : Launch) (G : va_G) (k : Nat → Nat) (sz : Nat) (h : Nat) (a : Nat → Nat) (d : Nat → ClassId) (v_taped : Int32) (v_size : Int32) (v_from : Int32) (v_behind : Int32) (v_hand : Int32) (v_value : Int32) (v_fault : Int32) (v_faultAt : Int32) (v_clock : Int32) (v_coin : Int32) (v_loan : Int32) (v_matched : Int32) (v_taxed : Int32) (v_paidStages : Int32) (v_grown : Int32) (v_pledges : Int32) (v_sums : Int32) (v_stages : Int32) (v_isStopped : Int32) (v_begun : Int32) (f_first : Nat → Int32) (f_every : Nat → Int32) (x1 : Int32) (x2 : Int32) (pf : Int32) (pe : Int32) (hp0 : 0 ≤ x1.toInt) (hp1 : x1.toInt < 60) (hx0 : 0 ≤ x2.toInt) (hx1 : x2.toInt ≤ 84) (hF : f_first x1.toNatClampNeg = pf ∧ f_every x1.toNatClampNeg = pe ∧ 0 ≤ pf.toInt ∧ pf.toInt ≤ 119 ∧ 1 ≤ pe.toInt ∧ pe.toInt ≤ 12) : Met l yX12_monthOf (Cond.code yX12_monthOf cX12_monthOf 3 (some .int) :: tb) ({ frames := 0, cells := 0, slots := 0, locals := 0 } : Room) (va_Pc [.ref h, .int x1, .int x2] (cP G k [(cMq a h v_taped v_size v_from v_behind v_hand v_value v_fault v_faultAt v_clock v_coin v_loan v_matched v_taxed v_paidStages v_grown v_pledges v_sums v_stages v_isStopped v_begun), (qarI (a 12) (d 12) 60 f_first), (qarI (a 13) (d 13) 60 f_every)] [((d 12), .int), ((d 13), .int)] sz)) (va_Qi (fun (r : Int32) (_ : Unit) => (r.toInt = mo pf pe x2.toNatClampNeg)) (cB G (fun (_ : Unit) => [(cMq a h v_taped v_size v_from v_behind v_hand v_value v_fault v_faultAt v_clock v_coin v_loan v_matched v_taxed v_paidStages v_grown v_pledges v_sums v_stages v_isStopped v_begun), (qarI (a 12) (d 12) 60 f_first), (qarI (a 13) (d 13) 60 f_every)]) (fun (_ : Unit) => []) (va_A [(cMq a h v_taped v_size v_from v_behind v_hand v_value v_fault v_faultAt v_clock v_coin v_loan v_matched v_taxed v_paidStages v_grown v_pledges v_sums v_stages v_isStopped v_begun), (qarI (a 12) (d 12) 60 f_first), (qarI (a 13) (d 13) 60 f_every)] sz)) (va_A [(cMq a h v_taped v_size v_from v_behind v_hand v_value v_fault v_faultAt v_clock v_coin v_loan v_matched v_taxed v_paidStages v_grown v_pledges v_sums v_stages v_isStopped v_begun), (qarI (a 12) (d 12) 60 f_first), (qarI (a 13) (d 13) 60 f_every)] sz)) 0 0 (va_A [(cMq a h v_taped v_size v_from v_behind v_hand v_value v_fault v_faultAt v_clock v_coin v_loan v_matched v_taxed v_paidStages v_grown v_pledges v_sums v_stages v_isStopped v_begun), (qarI (a 12) (d 12) 60 f_first), (qarI (a 13) (d 13) 60 f_every)] sz) := by
  refine ofC_i (cc := cX12_monthOf) (maxL := 3) (ret := (some .int)) (by decide) rfl (Nat.le_of_ble_eq_true rfl) ?_
  intro p e s m args below meth c A ls Q F hr hin hlk St hl hQ
  have hx := F.1
  have hb := F.2.1
  have hl : lv_has ls 3 [(0, .ref h), (1, .int x1), (2, .int x2)] := hl
  have St : cS G k [(cMq a h v_taped v_size v_from v_behind v_hand v_value v_fault v_faultAt v_clock v_coin v_loan v_matched v_taxed v_paidStages v_grown v_pledges v_sums v_stages v_isStopped v_begun), (qarI (a 12) (d 12) 60 f_first), (qarI (a 13) (d 13) 60 f_every)] [((d 12), .int), ((d 13), .int)] A s s.heap [] := St
  refine lv_aload_n hx hb dX12_monthOf_0 rfl (lv_at hl 0 rfl) ?_
  refine cs_get F St 0 rfl rfl inX12 31 (by decide) kf_X12_141 rfl dX12_monthOf_1 ?_
  refine lv_iload_n hx hb dX12_monthOf_4 rfl (lv_at hl 1 rfl) ?_
  refine cs_ild F St 1 0 rfl rfl (vp_in_iff.mpr ⟨by omega, by omega⟩) dX12_monthOf_5 ?_
  refine lv_topi (fun y_1 ey_1 => ?_)
  have gy_1 := congrArg Int32.toInt ey_1
  refine lv_iload_n hx hb dX12_monthOf_6 rfl (lv_at hl 2 rfl) ?_
  refine lv_aload_n hx hb dX12_monthOf_7 rfl (lv_at hl 0 rfl) ?_
  refine cs_get F St 0 rfl rfl inX12 32 (by decide) kf_X12_144 rfl dX12_monthOf_8 ?_
  refine lv_iload_n hx hb dX12_monthOf_11 rfl (lv_at hl 1 rfl) ?_
  refine cs_ild F St 2 1 rfl rfl (vp_in_iff.mpr ⟨by omega, by omega⟩) dX12_monthOf_12 ?_
  refine lv_topi (fun y_2 ey_2 => ?_)
  have gy_2 := congrArg Int32.toInt ey_2
  refine lv_imul hx hb dX12_monthOf_13 ?_
  refine lv_topi (fun y_3 ey_3 => ?_)
  skip
  refine lv_iadd hx hb dX12_monthOf_14 ?_
  refine lv_topi (fun y_4 ey_4 => ?_)
  first | have jy_4 : y_4.toInt = y_1.toInt + y_3.toInt := (by have q9 := ci_add (x := y_1) (y := y_3) rfl rfl ey_4; omega) | have jy_4 := ci_add (x := y_1) (y := y_3) rfl rfl ey_4
  exact cs_iret F hr hlk hQ St () (r := y_4) (mo_ref hx0 hx1 hF ey_1 ey_2 ey_3 ey_4) [0, 1, 2] rfl (by decide) [] rfl (by decide) (by decide) dX12_monthOf_15
set_option maxHeartbeats 4000000 in
set_option maxRecDepth 100000 in
theorem e12_unfilled (l : Launch) (G : va_G) (k : Nat → Nat) (sz : Nat) (h : Nat) (a : Nat → Nat) (d : Nat → ClassId) (v_taped : Int32) (v_size : Int32) (v_from : Int32) (v_behind : Int32) (v_hand : Int32) (v_value : Int32) (v_fault : Int32) (v_faultAt : Int32) (v_clock : Int32) (v_coin : Int32) (v_loan : Int32) (v_matched : Int32) (v_taxed : Int32) (v_paidStages : Int32) (v_grown : Int32) (v_pledges : Int32) (v_sums : Int32) (v_stages : Int32) (v_isStopped : Int32) (v_begun : Int32) (f_first : Nat → Int32) (f_every : Nat → Int32) (f_dues : Nat → Int32) (f_due : Nat → Int32) (f_filled : Nat → Int32) (f_isThere : Nat → Int32) (f_counts : Nat → Int32) (x1 : Int32) (hPd : mPd v_pledges f_dues) (hp1 : 0 ≤ x1.toInt) (hp2 : x1.toInt < v_pledges.toInt) (Nn : Nat) (pf : Int32) (pe : Int32) (wD : Nat → Int32) (wF : Nat → Int32) (wS : Nat → Int32) (hW : wfP pf pe Nn wD wF wS) (hR : rw1 x1.toNatClampNeg Nn pf pe wD wF wS f_first f_every f_dues f_due f_filled f_isThere f_counts) : Met l yX12_unfilled (Cond.code yX12_unfilled cX12_unfilled 4 (some .int) :: tb) ({ frames := 0, cells := 0, slots := 0, locals := 0 } : Room) (va_Pc [.ref h, .int x1] (cP G k [(cMq a h v_taped v_size v_from v_behind v_hand v_value v_fault v_faultAt v_clock v_coin v_loan v_matched v_taxed v_paidStages v_grown v_pledges v_sums v_stages v_isStopped v_begun), (qarI (a 12) (d 12) 60 f_first), (qarI (a 13) (d 13) 60 f_every), (qarI (a 14) (d 14) 60 f_dues), (qarI (a 18) (d 18) 5040 f_due), (qarI (a 19) (d 19) 5040 f_filled), (qarI (a 20) (d 20) 5040 f_isThere), (qarI (a 21) (d 21) 5040 f_counts)] [((d 12), .int), ((d 13), .int), ((d 14), .int), ((d 18), .int), ((d 19), .int), ((d 20), .boolean), ((d 21), .boolean)] sz)) (va_Qi (fun (r : Int32) (_ : Unit) => (r.toInt = sm (tO wD wF wS) Nn)) (cB G (fun (_ : Unit) => [(cMq a h v_taped v_size v_from v_behind v_hand v_value v_fault v_faultAt v_clock v_coin v_loan v_matched v_taxed v_paidStages v_grown v_pledges v_sums v_stages v_isStopped v_begun), (qarI (a 12) (d 12) 60 f_first), (qarI (a 13) (d 13) 60 f_every), (qarI (a 14) (d 14) 60 f_dues), (qarI (a 18) (d 18) 5040 f_due), (qarI (a 19) (d 19) 5040 f_filled), (qarI (a 20) (d 20) 5040 f_isThere), (qarI (a 21) (d 21) 5040 f_counts)]) (fun (_ : Unit) => []) (va_A [(cMq a h v_taped v_size v_from v_behind v_hand v_value v_fault v_faultAt v_clock v_coin v_loan v_matched v_taxed v_paidStages v_grown v_pledges v_sums v_stages v_isStopped v_begun), (qarI (a 12) (d 12) 60 f_first), (qarI (a 13) (d 13) 60 f_every), (qarI (a 14) (d 14) 60 f_dues), (qarI (a 18) (d 18) 5040 f_due), (qarI (a 19) (d 19) 5040 f_filled), (qarI (a 20) (d 20) 5040 f_isThere), (qarI (a 21) (d 21) 5040 f_counts)] sz)) (va_A [(cMq a h v_taped v_size v_from v_behind v_hand v_value v_fault v_faultAt v_clock v_coin v_loan v_matched v_taxed v_paidStages v_grown v_pledges v_sums v_stages v_isStopped v_begun), (qarI (a 12) (d 12) 60 f_first), (qarI (a 13) (d 13) 60 f_every), (qarI (a 14) (d 14) 60 f_dues), (qarI (a 18) (d 18) 5040 f_due), (qarI (a 19) (d 19) 5040 f_filled), (qarI (a 20) (d 20) 5040 f_isThere), (qarI (a 21) (d 21) 5040 f_counts)] sz)) 0 0 (va_A [(cMq a h v_taped v_size v_from v_behind v_hand v_value v_fault v_faultAt v_clock v_coin v_loan v_matched v_taxed v_paidStages v_grown v_pledges v_sums v_stages v_isStopped v_begun), (qarI (a 12) (d 12) 60 f_first), (qarI (a 13) (d 13) 60 f_every), (qarI (a 14) (d 14) 60 f_dues), (qarI (a 18) (d 18) 5040 f_due), (qarI (a 19) (d 19) 5040 f_filled), (qarI (a 20) (d 20) 5040 f_isThere), (qarI (a 21) (d 21) 5040 f_counts)] sz) := by
  refine ofC_i (cc := cX12_unfilled) (maxL := 4) (ret := (some .int)) (by decide) rfl (Nat.le_of_ble_eq_true rfl) ?_
  intro p e s m args below meth c A ls Q F hr hin hlk St hl hQ
  have hx := F.1
  have hb := F.2.1
  have hl : lv_has ls 4 [(0, .ref h), (1, .int x1)] := hl
  have St : cS G k [(cMq a h v_taped v_size v_from v_behind v_hand v_value v_fault v_faultAt v_clock v_coin v_loan v_matched v_taxed v_paidStages v_grown v_pledges v_sums v_stages v_isStopped v_begun), (qarI (a 12) (d 12) 60 f_first), (qarI (a 13) (d 13) 60 f_every), (qarI (a 14) (d 14) 60 f_dues), (qarI (a 18) (d 18) 5040 f_due), (qarI (a 19) (d 19) 5040 f_filled), (qarI (a 20) (d 20) 5040 f_isThere), (qarI (a 21) (d 21) 5040 f_counts)] [((d 12), .int), ((d 13), .int), ((d 14), .int), ((d 18), .int), ((d 19), .int), ((d 20), .boolean), ((d 21), .boolean)] A s s.heap [] := St
  have hpd := hPd.1
  have y0 : (0 : Int32).toInt = 0 := by decide
  have hdd := hR.1.2.2
  have hn1 := nc_int hp1
  have hpf := hW.1
  refine lv_iconst (v := 0) hx hb dX12_unfilled_0 (by decide) ?_
  refine lv_istore_n (lv' := [(2, .int 0), (0, .ref h), (1, .int x1)]) hx hb dX12_unfilled_1 rfl hl (by decide) rfl (fun ls hl => ?_)
  refine lv_bipush (v := 84) hx hb dX12_unfilled_2 (by decide) ?_
  refine lv_iload_n hx hb dX12_unfilled_4 rfl (lv_at hl 2 rfl) ?_
  refine lv_imul hx hb dX12_unfilled_5 ?_
  refine lv_topi (fun y_1 ey_1 => ?_)
  first | have jy_1 : y_1.toInt = 84 * x1.toInt := (by have q9 := ci_mul (x := 84) (y := x1) (show (84 : Int32).toInt = 84 by decide) rfl ey_1; omega) | have jy_1 := ci_mul (x := 84) (y := x1) (show (84 : Int32).toInt = 84 by decide) rfl ey_1
  refine lv_istore_n (lv' := [(3, .int y_1), (2, .int 0), (0, .ref h), (1, .int x1)]) hx hb dX12_unfilled_6 rfl hl (by decide) rfl (fun ls hl => ?_)
  have lp7 : ∀ (n : Nat) (kk : Int32) (nn : Int32) (H : Heap) (locs : List Loc) (ls : Array Slot), ((84 * x1.toInt ≤ kk.toInt ∧ kk.toInt ≤ 84 * x1.toInt + (f_dues x1.toNatClampNeg).toInt) ∧ nn.toInt = sm (tz Nn (tO wD wF wS)) (kk.toNatClampNeg - 84 * x1.toNatClampNeg)) → ((6000 - kk.toInt).toNat) < n → cS G k [(cMq a h v_taped v_size v_from v_behind v_hand v_value v_fault v_faultAt v_clock v_coin v_loan v_matched v_taxed v_paidStages v_grown v_pledges v_sums v_stages v_isStopped v_begun), (qarI (a 12) (d 12) 60 f_first), (qarI (a 13) (d 13) 60 f_every), (qarI (a 14) (d 14) 60 f_dues), (qarI (a 18) (d 18) 5040 f_due), (qarI (a 19) (d 19) 5040 f_filled), (qarI (a 20) (d 20) 5040 f_isThere), (qarI (a 21) (d 21) 5040 f_counts)] [((d 12), .int), ((d 13), .int), ((d 14), .int), ((d 18), .int), ((d 19), .int), ((d 20), .boolean), ((d 21), .boolean)] A s H locs → lv_has ls 4 [(3, .int kk), (2, .int nn), (0, .ref h), (1, .int x1)] → W p l e ({ frames := 0, cells := 0, slots := 0, locals := 0 } : Room) s m args below meth c H locs 0 0 Q (F0 m 7 ls []) := by
    intro n
    induction n with
    | zero => intro kk nn H locs ls hI hn; exact absurd hn (Nat.not_lt_zero _)
    | succ n ih =>
      intro kk nn H locs ls hI hn St hl
      obtain ⟨⟨hI0, hI1⟩, hs⟩ := hI
      have hk0 : 0 ≤ kk.toInt := by omega
      have nk := nc_int hk0
      obtain ⟨jn, hj⟩ : ∃ jn : Nat, kk.toNatClampNeg = 84 * x1.toNatClampNeg + jn := ⟨kk.toNatClampNeg - 84 * x1.toNatClampNeg, by omega⟩
      rw [show kk.toNatClampNeg - 84 * x1.toNatClampNeg = jn by omega] at hs
      have hnb := sm_bd (f := tz Nn (tO wD wF wS)) (c := 100000) (n := jn) (fun k_ _ => tz_bd (by omega) (fun k2 h2 => tO_bd hW h2) k_)
      rw [← hs] at hnb
      refine lv_iload_n hx hb dX12_unfilled_7 rfl (lv_at hl 0 rfl) ?_
      refine lv_bipush (v := 84) hx hb dX12_unfilled_8 (by decide) ?_
      refine lv_iload_n hx hb dX12_unfilled_10 rfl (lv_at hl 3 rfl) ?_
      refine lv_imul hx hb dX12_unfilled_11 ?_
      refine lv_topi (fun y_2 ey_2 => ?_)
      first | have jy_2 : y_2.toInt = 84 * x1.toInt := (by have q9 := ci_mul (x := 84) (y := x1) (show (84 : Int32).toInt = 84 by decide) rfl ey_2; omega) | have jy_2 := ci_mul (x := 84) (y := x1) (show (84 : Int32).toInt = 84 by decide) rfl ey_2
      refine lv_aload_n hx hb dX12_unfilled_12 rfl (lv_at hl 2 rfl) ?_
      refine cs_get F St 0 rfl rfl inX12 33 (by decide) kf_X12_147 rfl dX12_unfilled_13 ?_
      refine lv_iload_n hx hb dX12_unfilled_16 rfl (lv_at hl 3 rfl) ?_
      refine cs_ild F St 3 2 rfl rfl (vp_in_iff.mpr ⟨by omega, by omega⟩) dX12_unfilled_17 ?_
      refine lv_topi (fun y_3 ey_3 => ?_)
      have gy_3 := congrArg Int32.toInt ey_3
      have hdy_3 := mPd_d hPd (by omega) (by omega) ey_3
      refine lv_iadd hx hb dX12_unfilled_18 ?_
      refine lv_topi (fun y_4 ey_4 => ?_)
      first | have jy_4 : y_4.toInt = y_2.toInt + y_3.toInt := (by have q9 := ci_add (x := y_2) (y := y_3) rfl rfl ey_4; omega) | have jy_4 := ci_add (x := y_2) (y := y_3) rfl rfl ey_4
      refine lv_icmp_ge (tgt := 57) hx hb dX12_unfilled_19 (by decide) (fun c19 => ?_) (fun c19 => ?_)
      ·
        have i19 := ci_le (x := y_4) (y := kk) rfl rfl c19
        refine lv_iload_n hx hb dX12_unfilled_57 rfl (lv_at hl 1 rfl) ?_
        exact cs_iret F hr hlk hQ St () (r := nn) (hs.trans (sm_tz (by omega))) [0, 1, 2, 3, 4, 5, 6, 7] rfl (by decide) [] rfl (by decide) (by decide) dX12_unfilled_58
      ·
        have i19 := ci_nle (x := y_4) (y := kk) rfl rfl c19
        refine lv_iload_n hx hb dX12_unfilled_22 rfl (lv_at hl 1 rfl) ?_
        refine lv_aload_n hx hb dX12_unfilled_23 rfl (lv_at hl 2 rfl) ?_
        refine cs_get F St 0 rfl rfl inX12 39 (by decide) kf_X12_165 rfl dX12_unfilled_24 ?_
        refine lv_iload_n hx hb dX12_unfilled_27 rfl (lv_at hl 0 rfl) ?_
        have hj9 := rw_J hR (i := kk.toNatClampNeg) (j := jn) hj (by omega)
        have hw8 : jn < Nn → 0 ≤ (wF jn).toInt ∧ (wF jn).toInt ≤ (wD jn).toInt ∧ 1 ≤ (wD jn).toInt ∧ (wD jn).toInt ≤ 100000 := fun h_ => (hW.2 jn h_).1
        refine cs_zld F St 6 5 rfl rfl (vp_in_iff.mpr ⟨by omega, by omega⟩) dX12_unfilled_28 ?_
        refine lv_topi (fun y_5 ey_5 => ?_)
        have gy_5 := congrArg Int32.toInt ey_5
        refine lv_if_eq (tgt := 48) hx hb dX12_unfilled_29 (by decide) (fun c29 => ?_) (fun c29 => ?_)
        ·
          have i29 := ci_eq (x := y_5) (y := 0) rfl (show (0 : Int32).toInt = 0 by decide) c29
          refine lv_iconst (v := 0) hx hb dX12_unfilled_48 (by decide) ?_
          refine lv_iadd hx hb dX12_unfilled_49 ?_
          refine lv_topi (fun y_6 ey_6 => ?_)
          first | have jy_6 : y_6.toInt = nn.toInt + 0 := (by have q9 := ci_add (x := nn) (y := 0) rfl (show (0 : Int32).toInt = 0 by decide) ey_6; omega) | have jy_6 := ci_add (x := nn) (y := 0) rfl (show (0 : Int32).toInt = 0 by decide) ey_6
          refine lv_istore_n (lv' := [(2, .int y_6), (3, .int kk), (0, .ref h), (1, .int x1)]) hx hb dX12_unfilled_50 rfl hl (by decide) rfl (fun ls hl => ?_)
          obtain ⟨y_7, ey_7⟩ : ∃ zz : Int32, zz = kk + 1 := ⟨_, rfl⟩
          first | have jy_7 : y_7.toInt = kk.toInt + 1 := (by have q9 := ci_add (x := kk) rfl (show (1 : Int32).toInt = 1 by decide) ey_7; omega) | have jy_7 := ci_add (x := kk) rfl (show (1 : Int32).toInt = 1 by decide) ey_7
          refine lv_iinc (v := y_7) (lv' := [(3, .int y_7), (2, .int y_6), (0, .ref h), (1, .int x1)]) hx hb dX12_unfilled_51 hl (k := 1) rfl (by rw [ey_7]; rfl) (by decide) rfl (fun ls hl => ?_)
          refine lv_goto (tgt := 7) hx hb dX12_unfilled_54 (by decide) ?_
          exact ih y_7 y_6 _ _ _ ⟨⟨by omega, by omega⟩, sm_J hk0 hj hs (by omega) (by unfold tz tO; split <;> (try split) <;> omega)⟩ (by omega) St (lv_sub hl [0, 1, 2, 3] rfl)
        ·
          have i29 := ci_ne (x := y_5) (y := 0) rfl (show (0 : Int32).toInt = 0 by decide) c29
          refine lv_aload_n hx hb dX12_unfilled_32 rfl (lv_at hl 2 rfl) ?_
          refine cs_get F St 0 rfl rfl inX12 37 (by decide) kf_X12_159 rfl dX12_unfilled_33 ?_
          refine lv_iload_n hx hb dX12_unfilled_36 rfl (lv_at hl 0 rfl) ?_
          refine cs_ild F St 4 3 rfl rfl (vp_in_iff.mpr ⟨by omega, by omega⟩) dX12_unfilled_37 ?_
          refine lv_topi (fun y_8 ey_8 => ?_)
          have gy_8 := congrArg Int32.toInt ey_8
          refine lv_aload_n hx hb dX12_unfilled_38 rfl (lv_at hl 2 rfl) ?_
          refine cs_get F St 0 rfl rfl inX12 38 (by decide) kf_X12_162 rfl dX12_unfilled_39 ?_
          refine lv_iload_n hx hb dX12_unfilled_42 rfl (lv_at hl 0 rfl) ?_
          refine cs_ild F St 5 4 rfl rfl (vp_in_iff.mpr ⟨by omega, by omega⟩) dX12_unfilled_43 ?_
          refine lv_topi (fun y_9 ey_9 => ?_)
          have gy_9 := congrArg Int32.toInt ey_9
          refine lv_isub hx hb dX12_unfilled_44 ?_
          refine lv_topi (fun y_10 ey_10 => ?_)
          first | have jy_10 : y_10.toInt = y_8.toInt - y_9.toInt := (by have q9 := ci_sub (x := y_8) (y := y_9) rfl rfl ey_10; omega) | have jy_10 := ci_sub (x := y_8) (y := y_9) rfl rfl ey_10
          refine lv_goto (tgt := 49) hx hb dX12_unfilled_45 (by decide) ?_
          refine lv_iadd hx hb dX12_unfilled_49 ?_
          refine lv_topi (fun y_11 ey_11 => ?_)
          first | have jy_11 : y_11.toInt = nn.toInt + y_10.toInt := (by have q9 := ci_add (x := nn) (y := y_10) rfl rfl ey_11; omega) | have jy_11 := ci_add (x := nn) (y := y_10) rfl rfl ey_11
          refine lv_istore_n (lv' := [(2, .int y_11), (3, .int kk), (0, .ref h), (1, .int x1)]) hx hb dX12_unfilled_50 rfl hl (by decide) rfl (fun ls hl => ?_)
          obtain ⟨y_12, ey_12⟩ : ∃ zz : Int32, zz = kk + 1 := ⟨_, rfl⟩
          first | have jy_12 : y_12.toInt = kk.toInt + 1 := (by have q9 := ci_add (x := kk) rfl (show (1 : Int32).toInt = 1 by decide) ey_12; omega) | have jy_12 := ci_add (x := kk) rfl (show (1 : Int32).toInt = 1 by decide) ey_12
          refine lv_iinc (v := y_12) (lv' := [(3, .int y_12), (2, .int y_11), (0, .ref h), (1, .int x1)]) hx hb dX12_unfilled_51 hl (k := 1) rfl (by rw [ey_12]; rfl) (by decide) rfl (fun ls hl => ?_)
          refine lv_goto (tgt := 7) hx hb dX12_unfilled_54 (by decide) ?_
          exact ih y_12 y_11 _ _ _ ⟨⟨by omega, by omega⟩, sm_J hk0 hj hs (by omega) (by unfold tz tO; split <;> (try split) <;> omega)⟩ (by omega) St (lv_sub hl [0, 1, 2, 3] rfl)
  exact lp7 6001 y_1 0 _ _ _ ⟨⟨by omega, by omega⟩, sm_J0 hp1 (by omega)⟩ (by omega) St (lv_sub hl [0, 1, 2, 3] rfl)
set_option maxHeartbeats 4000000 in
set_option maxRecDepth 100000 in
theorem e12_toCome (l : Launch) (G : va_G) (k : Nat → Nat) (sz : Nat) (h : Nat) (a : Nat → Nat) (d : Nat → ClassId) (v_taped : Int32) (v_size : Int32) (v_from : Int32) (v_behind : Int32) (v_hand : Int32) (v_value : Int32) (v_fault : Int32) (v_faultAt : Int32) (v_clock : Int32) (v_coin : Int32) (v_loan : Int32) (v_matched : Int32) (v_taxed : Int32) (v_paidStages : Int32) (v_grown : Int32) (v_pledges : Int32) (v_sums : Int32) (v_stages : Int32) (v_isStopped : Int32) (v_begun : Int32) (f_first : Nat → Int32) (f_every : Nat → Int32) (f_dues : Nat → Int32) (f_due : Nat → Int32) (f_filled : Nat → Int32) (f_isThere : Nat → Int32) (f_counts : Nat → Int32) (x1 : Int32) (hPd : mPd v_pledges f_dues) (hp1 : 0 ≤ x1.toInt) (hp2 : x1.toInt < v_pledges.toInt) (Nn : Nat) (pf : Int32) (pe : Int32) (wD : Nat → Int32) (wF : Nat → Int32) (wS : Nat → Int32) (hW : wfP pf pe Nn wD wF wS) (hR : rw1 x1.toNatClampNeg Nn pf pe wD wF wS f_first f_every f_dues f_due f_filled f_isThere f_counts) : Met l yX12_toCome (Cond.code yX12_toCome cX12_toCome 4 (some .int) :: tb) ({ frames := 1, cells := 0, slots := 0, locals := 22 } : Room) (va_Pc [.ref h, .int x1] (cP G k [(cMq a h v_taped v_size v_from v_behind v_hand v_value v_fault v_faultAt v_clock v_coin v_loan v_matched v_taxed v_paidStages v_grown v_pledges v_sums v_stages v_isStopped v_begun), (qarI (a 12) (d 12) 60 f_first), (qarI (a 13) (d 13) 60 f_every), (qarI (a 14) (d 14) 60 f_dues), (qarI (a 18) (d 18) 5040 f_due), (qarI (a 19) (d 19) 5040 f_filled), (qarI (a 20) (d 20) 5040 f_isThere), (qarI (a 21) (d 21) 5040 f_counts)] [((d 12), .int), ((d 13), .int), ((d 14), .int), ((d 18), .int), ((d 19), .int), ((d 20), .boolean), ((d 21), .boolean)] sz)) (va_Qi (fun (r : Int32) (_ : Unit) => (r.toInt = sm (tC pf pe wS v_clock.toInt) Nn)) (cB G (fun (_ : Unit) => [(cMq a h v_taped v_size v_from v_behind v_hand v_value v_fault v_faultAt v_clock v_coin v_loan v_matched v_taxed v_paidStages v_grown v_pledges v_sums v_stages v_isStopped v_begun), (qarI (a 12) (d 12) 60 f_first), (qarI (a 13) (d 13) 60 f_every), (qarI (a 14) (d 14) 60 f_dues), (qarI (a 18) (d 18) 5040 f_due), (qarI (a 19) (d 19) 5040 f_filled), (qarI (a 20) (d 20) 5040 f_isThere), (qarI (a 21) (d 21) 5040 f_counts)]) (fun (_ : Unit) => []) (va_A [(cMq a h v_taped v_size v_from v_behind v_hand v_value v_fault v_faultAt v_clock v_coin v_loan v_matched v_taxed v_paidStages v_grown v_pledges v_sums v_stages v_isStopped v_begun), (qarI (a 12) (d 12) 60 f_first), (qarI (a 13) (d 13) 60 f_every), (qarI (a 14) (d 14) 60 f_dues), (qarI (a 18) (d 18) 5040 f_due), (qarI (a 19) (d 19) 5040 f_filled), (qarI (a 20) (d 20) 5040 f_isThere), (qarI (a 21) (d 21) 5040 f_counts)] sz)) (va_A [(cMq a h v_taped v_size v_from v_behind v_hand v_value v_fault v_faultAt v_clock v_coin v_loan v_matched v_taxed v_paidStages v_grown v_pledges v_sums v_stages v_isStopped v_begun), (qarI (a 12) (d 12) 60 f_first), (qarI (a 13) (d 13) 60 f_every), (qarI (a 14) (d 14) 60 f_dues), (qarI (a 18) (d 18) 5040 f_due), (qarI (a 19) (d 19) 5040 f_filled), (qarI (a 20) (d 20) 5040 f_isThere), (qarI (a 21) (d 21) 5040 f_counts)] sz)) 0 0 (va_A [(cMq a h v_taped v_size v_from v_behind v_hand v_value v_fault v_faultAt v_clock v_coin v_loan v_matched v_taxed v_paidStages v_grown v_pledges v_sums v_stages v_isStopped v_begun), (qarI (a 12) (d 12) 60 f_first), (qarI (a 13) (d 13) 60 f_every), (qarI (a 14) (d 14) 60 f_dues), (qarI (a 18) (d 18) 5040 f_due), (qarI (a 19) (d 19) 5040 f_filled), (qarI (a 20) (d 20) 5040 f_isThere), (qarI (a 21) (d 21) 5040 f_counts)] sz) := by
  refine ofC_i (cc := cX12_toCome) (maxL := 4) (ret := (some .int)) (by decide) rfl (Nat.le_of_ble_eq_true rfl) ?_
  intro p e s m args below meth c A ls Q F hr hin hlk St hl hQ
  have hx := F.1
  have hb := F.2.1
  have hl : lv_has ls 4 [(0, .ref h), (1, .int x1)] := hl
  have St : cS G k [(cMq a h v_taped v_size v_from v_behind v_hand v_value v_fault v_faultAt v_clock v_coin v_loan v_matched v_taxed v_paidStages v_grown v_pledges v_sums v_stages v_isStopped v_begun), (qarI (a 12) (d 12) 60 f_first), (qarI (a 13) (d 13) 60 f_every), (qarI (a 14) (d 14) 60 f_dues), (qarI (a 18) (d 18) 5040 f_due), (qarI (a 19) (d 19) 5040 f_filled), (qarI (a 20) (d 20) 5040 f_isThere), (qarI (a 21) (d 21) 5040 f_counts)] [((d 12), .int), ((d 13), .int), ((d 14), .int), ((d 18), .int), ((d 19), .int), ((d 20), .boolean), ((d 21), .boolean)] A s s.heap [] := St
  have hpd := hPd.1
  have y0 : (0 : Int32).toInt = 0 := by decide
  have hdd := hR.1.2.2
  have hn1 := nc_int hp1
  have hpf := hW.1
  refine lv_iconst (v := 0) hx hb dX12_toCome_0 (by decide) ?_
  refine lv_istore_n (lv' := [(2, .int 0), (0, .ref h), (1, .int x1)]) hx hb dX12_toCome_1 rfl hl (by decide) rfl (fun ls hl => ?_)
  refine lv_iconst (v := 0) hx hb dX12_toCome_2 (by decide) ?_
  refine lv_istore_n (lv' := [(3, .int 0), (2, .int 0), (0, .ref h), (1, .int x1)]) hx hb dX12_toCome_3 rfl hl (by decide) rfl (fun ls hl => ?_)
  have lp4 : ∀ (n : Nat) (kk : Int32) (nn : Int32) (H : Heap) (locs : List Loc) (ls : Array Slot), ((0 ≤ kk.toInt ∧ kk.toInt ≤ (f_dues x1.toNatClampNeg).toInt) ∧ nn.toInt = sm (tz Nn (tC pf pe wS v_clock.toInt)) kk.toNatClampNeg) → ((85 - kk.toInt).toNat) < n → cS G k [(cMq a h v_taped v_size v_from v_behind v_hand v_value v_fault v_faultAt v_clock v_coin v_loan v_matched v_taxed v_paidStages v_grown v_pledges v_sums v_stages v_isStopped v_begun), (qarI (a 12) (d 12) 60 f_first), (qarI (a 13) (d 13) 60 f_every), (qarI (a 14) (d 14) 60 f_dues), (qarI (a 18) (d 18) 5040 f_due), (qarI (a 19) (d 19) 5040 f_filled), (qarI (a 20) (d 20) 5040 f_isThere), (qarI (a 21) (d 21) 5040 f_counts)] [((d 12), .int), ((d 13), .int), ((d 14), .int), ((d 18), .int), ((d 19), .int), ((d 20), .boolean), ((d 21), .boolean)] A s H locs → lv_has ls 4 [(3, .int kk), (2, .int nn), (0, .ref h), (1, .int x1)] → W p l e ({ frames := 1, cells := 0, slots := 0, locals := 22 } : Room) s m args below meth c H locs 0 0 Q (F0 m 4 ls []) := by
    intro n
    induction n with
    | zero => intro kk nn H locs ls hI hn; exact absurd hn (Nat.not_lt_zero _)
    | succ n ih =>
      intro kk nn H locs ls hI hn St hl
      obtain ⟨⟨hI0, hI1⟩, hs⟩ := hI
      have nk := nc_int hI0
      have hnb := sm_bd (f := tz Nn (tC pf pe wS v_clock.toInt)) (c := 1) (n := kk.toNatClampNeg) (fun k_ _ => tz_bd (by omega) (fun k2 h2 => by have hq := hW.2 k2 h2; unfold tC; split <;> omega) k_)
      rw [← hs] at hnb
      have hml := mo_le84 (k := kk.toNatClampNeg) hpf (by omega)
      refine lv_iload_n hx hb dX12_toCome_4 rfl (lv_at hl 0 rfl) ?_
      refine lv_aload_n hx hb dX12_toCome_5 rfl (lv_at hl 2 rfl) ?_
      refine cs_get F St 0 rfl rfl inX12 33 (by decide) kf_X12_147 rfl dX12_toCome_6 ?_
      refine lv_iload_n hx hb dX12_toCome_9 rfl (lv_at hl 3 rfl) ?_
      refine cs_ild F St 3 2 rfl rfl (vp_in_iff.mpr ⟨by omega, by omega⟩) dX12_toCome_10 ?_
      refine lv_topi (fun y_1 ey_1 => ?_)
      have gy_1 := congrArg Int32.toInt ey_1
      have hdy_1 := mPd_d hPd (by omega) (by omega) ey_1
      refine lv_icmp_ge (tgt := 55) hx hb dX12_toCome_11 (by decide) (fun c11 => ?_) (fun c11 => ?_)
      ·
        have i11 := ci_le (x := y_1) (y := kk) rfl rfl c11
        refine lv_iload_n hx hb dX12_toCome_55 rfl (lv_at hl 1 rfl) ?_
        exact cs_iret F hr hlk hQ St () (r := nn) ((sm_at hs rfl).trans (sm_tz (by omega))) [0, 1, 2, 3, 4, 5, 6, 7] rfl (by decide) [] rfl (by decide) (by decide) dX12_toCome_56
      ·
        have i11 := ci_nle (x := y_1) (y := kk) rfl rfl c11
        refine lv_iload_n hx hb dX12_toCome_14 rfl (lv_at hl 1 rfl) ?_
        refine lv_aload_n hx hb dX12_toCome_15 rfl (lv_at hl 2 rfl) ?_
        refine cs_get F St 0 rfl rfl inX12 39 (by decide) kf_X12_165 rfl dX12_toCome_16 ?_
        refine lv_bipush (v := 84) hx hb dX12_toCome_19 (by decide) ?_
        refine lv_iload_n hx hb dX12_toCome_21 rfl (lv_at hl 3 rfl) ?_
        refine lv_imul hx hb dX12_toCome_22 ?_
        refine lv_topi (fun y_2 ey_2 => ?_)
        first | have jy_2 : y_2.toInt = 84 * x1.toInt := (by have q9 := ci_mul (x := 84) (y := x1) (show (84 : Int32).toInt = 84 by decide) rfl ey_2; omega) | have jy_2 := ci_mul (x := 84) (y := x1) (show (84 : Int32).toInt = 84 by decide) rfl ey_2
        refine lv_iload_n hx hb dX12_toCome_23 rfl (lv_at hl 0 rfl) ?_
        refine lv_iadd hx hb dX12_toCome_24 ?_
        refine lv_topi (fun y_3 ey_3 => ?_)
        first | have jy_3 : y_3.toInt = y_2.toInt + kk.toInt := (by have q9 := ci_add (x := y_2) (y := kk) rfl rfl ey_3; omega) | have jy_3 := ci_add (x := y_2) (y := kk) rfl rfl ey_3
        have hky_3 := rw_K hR (kk := kk) (iy := y_3) (by omega) (by omega) (by omega) (by omega)
        refine cs_zld F St 6 5 rfl rfl (vp_in_iff.mpr ⟨by omega, by omega⟩) dX12_toCome_25 ?_
        refine lv_topi (fun y_4 ey_4 => ?_)
        have gy_4 := congrArg Int32.toInt ey_4
        refine lv_if_eq (tgt := 46) hx hb dX12_toCome_26 (by decide) (fun c26 => ?_) (fun c26 => ?_)
        ·
          have i26 := ci_eq (x := y_4) (y := 0) rfl (show (0 : Int32).toInt = 0 by decide) c26
          refine lv_iconst (v := 0) hx hb dX12_toCome_46 (by decide) ?_
          refine lv_iadd hx hb dX12_toCome_47 ?_
          refine lv_topi (fun y_5 ey_5 => ?_)
          first | have jy_5 : y_5.toInt = nn.toInt + 0 := (by have q9 := ci_add (x := nn) (y := 0) rfl (show (0 : Int32).toInt = 0 by decide) ey_5; omega) | have jy_5 := ci_add (x := nn) (y := 0) rfl (show (0 : Int32).toInt = 0 by decide) ey_5
          refine lv_istore_n (lv' := [(2, .int y_5), (3, .int kk), (0, .ref h), (1, .int x1)]) hx hb dX12_toCome_48 rfl hl (by decide) rfl (fun ls hl => ?_)
          obtain ⟨y_6, ey_6⟩ : ∃ zz : Int32, zz = kk + 1 := ⟨_, rfl⟩
          first | have jy_6 : y_6.toInt = kk.toInt + 1 := (by have q9 := ci_add (x := kk) rfl (show (1 : Int32).toInt = 1 by decide) ey_6; omega) | have jy_6 := ci_add (x := kk) rfl (show (1 : Int32).toInt = 1 by decide) ey_6
          refine lv_iinc (v := y_6) (lv' := [(3, .int y_6), (2, .int y_5), (0, .ref h), (1, .int x1)]) hx hb dX12_toCome_49 hl (k := 1) rfl (by rw [ey_6]; rfl) (by decide) rfl (fun ls hl => ?_)
          refine lv_goto (tgt := 4) hx hb dX12_toCome_52 (by decide) ?_
          exact ih y_6 y_5 _ _ _ ⟨⟨by omega, by omega⟩, sm_up hI0 hs (by omega) (by unfold tz tC; split <;> (try split) <;> omega)⟩ (by omega) St (lv_sub hl [0, 1, 2, 3] rfl)
        ·
          have i26 := ci_ne (x := y_4) (y := 0) rfl (show (0 : Int32).toInt = 0 by decide) c26
          refine lv_aload_n hx hb dX12_toCome_29 rfl (lv_at hl 2 rfl) ?_
          refine lv_iload_n hx hb dX12_toCome_30 rfl (lv_at hl 3 rfl) ?_
          refine lv_iload_n hx hb dX12_toCome_31 rfl (lv_at hl 0 rfl) ?_
          refine cs_i St [0, 1, 2] [3, 4, 5, 6, 7] (wc := [(cMq a h v_taped v_size v_from v_behind v_hand v_value v_fault v_faultAt v_clock v_coin v_loan v_matched v_taxed v_paidStages v_grown v_pledges v_sums v_stages v_isStopped v_begun), (qarI (a 12) (d 12) 60 f_first), (qarI (a 13) (d 13) 60 f_every)]) (wr := [(qarI (a 14) (d 14) 60 f_dues), (qarI (a 18) (d 18) 5040 f_due), (qarI (a 19) (d 19) 5040 f_filled), (qarI (a 20) (d 20) 5040 f_isThere), (qarI (a 21) (d 21) 5040 f_counts)]) rfl rfl (by decide) (by decide) (va_runV (As := [.int x1, .int kk]) (rest := [.int nn]) F (e12_monthOf l G k _ h a d v_taped v_size v_from v_behind v_hand v_value v_fault v_faultAt v_clock v_coin v_loan v_matched v_taxed v_paidStages v_grown v_pledges v_sums v_stages v_isStopped v_begun f_first f_every x1 kk pf pe (by omega) (by omega) (by omega) (by omega) (⟨hR.1.1, hR.1.2.1, hW.1⟩)) (cwVt F mf_X12_monthOf km_X12_240 rfl rfl ⟨Nat.le_of_ble_eq_true rfl, Nat.le_of_ble_eq_true rfl⟩) (cs_preV St [0, 1, 2] rfl (by decide) [0, 1] rfl (ci := 12) (q0 := 0) rfl rfl) rfl rfl hl.1 rfl (lv_room (Nat.le_of_ble_eq_true rfl)) dX12_toCome_32 ⟨Nat.le_of_ble_eq_true rfl, Nat.le_of_ble_eq_true rfl⟩) (fun r_7 u_8 H locs hw St => ?_)
          try dsimp only at hw
          have hm_9 := hw
          have St : cS G k [(qarI (a 14) (d 14) 60 f_dues), (qarI (a 18) (d 18) 5040 f_due), (qarI (a 19) (d 19) 5040 f_filled), (qarI (a 20) (d 20) 5040 f_isThere), (qarI (a 21) (d 21) 5040 f_counts), (cMq a h v_taped v_size v_from v_behind v_hand v_value v_fault v_faultAt v_clock v_coin v_loan v_matched v_taxed v_paidStages v_grown v_pledges v_sums v_stages v_isStopped v_begun), (qarI (a 12) (d 12) 60 f_first), (qarI (a 13) (d 13) 60 f_every)] [((d 12), .int), ((d 13), .int), ((d 14), .int), ((d 18), .int), ((d 19), .int), ((d 20), .boolean), ((d 21), .boolean)] A s H locs := St
          refine lv_aload_n hx hb dX12_toCome_35 rfl (lv_at hl 2 rfl) ?_
          refine cs_get F St 5 rfl rfl inX12 13 (by decide) kf_X12_230 rfl dX12_toCome_36 ?_
          refine lv_icmp_le (tgt := 46) hx hb dX12_toCome_39 (by decide) (fun c39 => ?_) (fun c39 => ?_)
          ·
            have i39 := ci_le (x := r_7) (y := v_clock) rfl rfl c39
            refine lv_iconst (v := 0) hx hb dX12_toCome_46 (by decide) ?_
            refine lv_iadd hx hb dX12_toCome_47 ?_
            refine lv_topi (fun y_10 ey_10 => ?_)
            first | have jy_10 : y_10.toInt = nn.toInt + 0 := (by have q9 := ci_add (x := nn) (y := 0) rfl (show (0 : Int32).toInt = 0 by decide) ey_10; omega) | have jy_10 := ci_add (x := nn) (y := 0) rfl (show (0 : Int32).toInt = 0 by decide) ey_10
            refine lv_istore_n (lv' := [(2, .int y_10), (3, .int kk), (0, .ref h), (1, .int x1)]) hx hb dX12_toCome_48 rfl hl (by decide) rfl (fun ls hl => ?_)
            obtain ⟨y_11, ey_11⟩ : ∃ zz : Int32, zz = kk + 1 := ⟨_, rfl⟩
            first | have jy_11 : y_11.toInt = kk.toInt + 1 := (by have q9 := ci_add (x := kk) rfl (show (1 : Int32).toInt = 1 by decide) ey_11; omega) | have jy_11 := ci_add (x := kk) rfl (show (1 : Int32).toInt = 1 by decide) ey_11
            refine lv_iinc (v := y_11) (lv' := [(3, .int y_11), (2, .int y_10), (0, .ref h), (1, .int x1)]) hx hb dX12_toCome_49 hl (k := 1) rfl (by rw [ey_11]; rfl) (by decide) rfl (fun ls hl => ?_)
            refine lv_goto (tgt := 4) hx hb dX12_toCome_52 (by decide) ?_
            exact ih y_11 y_10 _ _ _ ⟨⟨by omega, by omega⟩, sm_up hI0 hs (by omega) (by unfold tz tC; split <;> (try split) <;> omega)⟩ (by omega) (cs_pick St [5, 6, 7, 0, 1, 2, 3, 4] rfl (by decide) [0, 1, 2, 3, 4, 5, 6] rfl) (lv_sub hl [0, 1, 2, 3] rfl)
          ·
            have i39 := ci_nle (x := r_7) (y := v_clock) rfl rfl c39
            refine lv_iconst (v := 1) hx hb dX12_toCome_42 (by decide) ?_
            refine lv_goto (tgt := 47) hx hb dX12_toCome_43 (by decide) ?_
            refine lv_iadd hx hb dX12_toCome_47 ?_
            refine lv_topi (fun y_12 ey_12 => ?_)
            first | have jy_12 : y_12.toInt = nn.toInt + 1 := (by have q9 := ci_add (x := nn) (y := 1) rfl (show (1 : Int32).toInt = 1 by decide) ey_12; omega) | have jy_12 := ci_add (x := nn) (y := 1) rfl (show (1 : Int32).toInt = 1 by decide) ey_12
            refine lv_istore_n (lv' := [(2, .int y_12), (3, .int kk), (0, .ref h), (1, .int x1)]) hx hb dX12_toCome_48 rfl hl (by decide) rfl (fun ls hl => ?_)
            obtain ⟨y_13, ey_13⟩ : ∃ zz : Int32, zz = kk + 1 := ⟨_, rfl⟩
            first | have jy_13 : y_13.toInt = kk.toInt + 1 := (by have q9 := ci_add (x := kk) rfl (show (1 : Int32).toInt = 1 by decide) ey_13; omega) | have jy_13 := ci_add (x := kk) rfl (show (1 : Int32).toInt = 1 by decide) ey_13
            refine lv_iinc (v := y_13) (lv' := [(3, .int y_13), (2, .int y_12), (0, .ref h), (1, .int x1)]) hx hb dX12_toCome_49 hl (k := 1) rfl (by rw [ey_13]; rfl) (by decide) rfl (fun ls hl => ?_)
            refine lv_goto (tgt := 4) hx hb dX12_toCome_52 (by decide) ?_
            exact ih y_13 y_12 _ _ _ ⟨⟨by omega, by omega⟩, sm_up hI0 hs (by omega) (by unfold tz tC; split <;> (try split) <;> omega)⟩ (by omega) (cs_pick St [5, 6, 7, 0, 1, 2, 3, 4] rfl (by decide) [0, 1, 2, 3, 4, 5, 6] rfl) (lv_sub hl [0, 1, 2, 3] rfl)
  exact lp4 86 0 0 _ _ _ ⟨⟨by omega, by omega⟩, by rw [y0]; rfl⟩ (by omega) St (lv_sub hl [0, 1, 2, 3] rfl)
set_option maxHeartbeats 4000000 in
set_option maxRecDepth 100000 in
theorem e12_overdue (l : Launch) (G : va_G) (k : Nat → Nat) (sz : Nat) (h : Nat) (a : Nat → Nat) (d : Nat → ClassId) (v_taped : Int32) (v_size : Int32) (v_from : Int32) (v_behind : Int32) (v_hand : Int32) (v_value : Int32) (v_fault : Int32) (v_faultAt : Int32) (v_clock : Int32) (v_coin : Int32) (v_loan : Int32) (v_matched : Int32) (v_taxed : Int32) (v_paidStages : Int32) (v_grown : Int32) (v_pledges : Int32) (v_sums : Int32) (v_stages : Int32) (v_isStopped : Int32) (v_begun : Int32) (f_first : Nat → Int32) (f_every : Nat → Int32) (f_dues : Nat → Int32) (f_due : Nat → Int32) (f_filled : Nat → Int32) (f_isThere : Nat → Int32) (f_counts : Nat → Int32) (x1 : Int32) (hPd : mPd v_pledges f_dues) (hp1 : 0 ≤ x1.toInt) (hp2 : x1.toInt < v_pledges.toInt) (Nn : Nat) (pf : Int32) (pe : Int32) (wD : Nat → Int32) (wF : Nat → Int32) (wS : Nat → Int32) (hW : wfP pf pe Nn wD wF wS) (hR : rw1 x1.toNatClampNeg Nn pf pe wD wF wS f_first f_every f_dues f_due f_filled f_isThere f_counts) : Met l yX12_overdue (Cond.code yX12_overdue cX12_overdue 4 (some .int) :: tb) ({ frames := 1, cells := 0, slots := 0, locals := 22 } : Room) (va_Pc [.ref h, .int x1] (cP G k [(cMq a h v_taped v_size v_from v_behind v_hand v_value v_fault v_faultAt v_clock v_coin v_loan v_matched v_taxed v_paidStages v_grown v_pledges v_sums v_stages v_isStopped v_begun), (qarI (a 12) (d 12) 60 f_first), (qarI (a 13) (d 13) 60 f_every), (qarI (a 14) (d 14) 60 f_dues), (qarI (a 18) (d 18) 5040 f_due), (qarI (a 19) (d 19) 5040 f_filled), (qarI (a 20) (d 20) 5040 f_isThere), (qarI (a 21) (d 21) 5040 f_counts)] [((d 12), .int), ((d 13), .int), ((d 14), .int), ((d 18), .int), ((d 19), .int), ((d 20), .boolean), ((d 21), .boolean)] sz)) (va_Qi (fun (r : Int32) (_ : Unit) => (r.toInt = sm (tV pf pe wD wF wS v_clock.toInt) Nn)) (cB G (fun (_ : Unit) => [(cMq a h v_taped v_size v_from v_behind v_hand v_value v_fault v_faultAt v_clock v_coin v_loan v_matched v_taxed v_paidStages v_grown v_pledges v_sums v_stages v_isStopped v_begun), (qarI (a 12) (d 12) 60 f_first), (qarI (a 13) (d 13) 60 f_every), (qarI (a 14) (d 14) 60 f_dues), (qarI (a 18) (d 18) 5040 f_due), (qarI (a 19) (d 19) 5040 f_filled), (qarI (a 20) (d 20) 5040 f_isThere), (qarI (a 21) (d 21) 5040 f_counts)]) (fun (_ : Unit) => []) (va_A [(cMq a h v_taped v_size v_from v_behind v_hand v_value v_fault v_faultAt v_clock v_coin v_loan v_matched v_taxed v_paidStages v_grown v_pledges v_sums v_stages v_isStopped v_begun), (qarI (a 12) (d 12) 60 f_first), (qarI (a 13) (d 13) 60 f_every), (qarI (a 14) (d 14) 60 f_dues), (qarI (a 18) (d 18) 5040 f_due), (qarI (a 19) (d 19) 5040 f_filled), (qarI (a 20) (d 20) 5040 f_isThere), (qarI (a 21) (d 21) 5040 f_counts)] sz)) (va_A [(cMq a h v_taped v_size v_from v_behind v_hand v_value v_fault v_faultAt v_clock v_coin v_loan v_matched v_taxed v_paidStages v_grown v_pledges v_sums v_stages v_isStopped v_begun), (qarI (a 12) (d 12) 60 f_first), (qarI (a 13) (d 13) 60 f_every), (qarI (a 14) (d 14) 60 f_dues), (qarI (a 18) (d 18) 5040 f_due), (qarI (a 19) (d 19) 5040 f_filled), (qarI (a 20) (d 20) 5040 f_isThere), (qarI (a 21) (d 21) 5040 f_counts)] sz)) 0 0 (va_A [(cMq a h v_taped v_size v_from v_behind v_hand v_value v_fault v_faultAt v_clock v_coin v_loan v_matched v_taxed v_paidStages v_grown v_pledges v_sums v_stages v_isStopped v_begun), (qarI (a 12) (d 12) 60 f_first), (qarI (a 13) (d 13) 60 f_every), (qarI (a 14) (d 14) 60 f_dues), (qarI (a 18) (d 18) 5040 f_due), (qarI (a 19) (d 19) 5040 f_filled), (qarI (a 20) (d 20) 5040 f_isThere), (qarI (a 21) (d 21) 5040 f_counts)] sz) := by
  refine ofC_i (cc := cX12_overdue) (maxL := 4) (ret := (some .int)) (by decide) rfl (Nat.le_of_ble_eq_true rfl) ?_
  intro p e s m args below meth c A ls Q F hr hin hlk St hl hQ
  have hx := F.1
  have hb := F.2.1
  have hl : lv_has ls 4 [(0, .ref h), (1, .int x1)] := hl
  have St : cS G k [(cMq a h v_taped v_size v_from v_behind v_hand v_value v_fault v_faultAt v_clock v_coin v_loan v_matched v_taxed v_paidStages v_grown v_pledges v_sums v_stages v_isStopped v_begun), (qarI (a 12) (d 12) 60 f_first), (qarI (a 13) (d 13) 60 f_every), (qarI (a 14) (d 14) 60 f_dues), (qarI (a 18) (d 18) 5040 f_due), (qarI (a 19) (d 19) 5040 f_filled), (qarI (a 20) (d 20) 5040 f_isThere), (qarI (a 21) (d 21) 5040 f_counts)] [((d 12), .int), ((d 13), .int), ((d 14), .int), ((d 18), .int), ((d 19), .int), ((d 20), .boolean), ((d 21), .boolean)] A s s.heap [] := St
  have hpd := hPd.1
  have y0 : (0 : Int32).toInt = 0 := by decide
  have hdd := hR.1.2.2
  have hn1 := nc_int hp1
  have hpf := hW.1
  refine lv_iconst (v := 0) hx hb dX12_overdue_0 (by decide) ?_
  refine lv_istore_n (lv' := [(2, .int 0), (0, .ref h), (1, .int x1)]) hx hb dX12_overdue_1 rfl hl (by decide) rfl (fun ls hl => ?_)
  refine lv_iconst (v := 0) hx hb dX12_overdue_2 (by decide) ?_
  refine lv_istore_n (lv' := [(3, .int 0), (2, .int 0), (0, .ref h), (1, .int x1)]) hx hb dX12_overdue_3 rfl hl (by decide) rfl (fun ls hl => ?_)
  have lp4 : ∀ (n : Nat) (kk : Int32) (nn : Int32) (H : Heap) (locs : List Loc) (ls : Array Slot), ((0 ≤ kk.toInt ∧ kk.toInt ≤ (f_dues x1.toNatClampNeg).toInt) ∧ nn.toInt = sm (tz Nn (tV pf pe wD wF wS v_clock.toInt)) kk.toNatClampNeg) → ((85 - kk.toInt).toNat) < n → cS G k [(cMq a h v_taped v_size v_from v_behind v_hand v_value v_fault v_faultAt v_clock v_coin v_loan v_matched v_taxed v_paidStages v_grown v_pledges v_sums v_stages v_isStopped v_begun), (qarI (a 12) (d 12) 60 f_first), (qarI (a 13) (d 13) 60 f_every), (qarI (a 14) (d 14) 60 f_dues), (qarI (a 18) (d 18) 5040 f_due), (qarI (a 19) (d 19) 5040 f_filled), (qarI (a 20) (d 20) 5040 f_isThere), (qarI (a 21) (d 21) 5040 f_counts)] [((d 12), .int), ((d 13), .int), ((d 14), .int), ((d 18), .int), ((d 19), .int), ((d 20), .boolean), ((d 21), .boolean)] A s H locs → lv_has ls 4 [(3, .int kk), (2, .int nn), (0, .ref h), (1, .int x1)] → W p l e ({ frames := 1, cells := 0, slots := 0, locals := 22 } : Room) s m args below meth c H locs 0 0 Q (F0 m 4 ls []) := by
    intro n
    induction n with
    | zero => intro kk nn H locs ls hI hn; exact absurd hn (Nat.not_lt_zero _)
    | succ n ih =>
      intro kk nn H locs ls hI hn St hl
      obtain ⟨⟨hI0, hI1⟩, hs⟩ := hI
      have nk := nc_int hI0
      have hnb := sm_bd (f := tz Nn (tV pf pe wD wF wS v_clock.toInt)) (c := 1) (n := kk.toNatClampNeg) (fun k_ _ => tz_bd (by omega) (fun k2 h2 => by have hq := hW.2 k2 h2; unfold tV; split <;> omega) k_)
      rw [← hs] at hnb
      have hml := mo_le84 (k := kk.toNatClampNeg) hpf (by omega)
      refine lv_iload_n hx hb dX12_overdue_4 rfl (lv_at hl 0 rfl) ?_
      refine lv_aload_n hx hb dX12_overdue_5 rfl (lv_at hl 2 rfl) ?_
      refine cs_get F St 0 rfl rfl inX12 33 (by decide) kf_X12_147 rfl dX12_overdue_6 ?_
      refine lv_iload_n hx hb dX12_overdue_9 rfl (lv_at hl 3 rfl) ?_
      refine cs_ild F St 3 2 rfl rfl (vp_in_iff.mpr ⟨by omega, by omega⟩) dX12_overdue_10 ?_
      refine lv_topi (fun y_1 ey_1 => ?_)
      have gy_1 := congrArg Int32.toInt ey_1
      have hdy_1 := mPd_d hPd (by omega) (by omega) ey_1
      refine lv_icmp_ge (tgt := 80) hx hb dX12_overdue_11 (by decide) (fun c11 => ?_) (fun c11 => ?_)
      ·
        have i11 := ci_le (x := y_1) (y := kk) rfl rfl c11
        refine lv_iload_n hx hb dX12_overdue_80 rfl (lv_at hl 1 rfl) ?_
        exact cs_iret F hr hlk hQ St () (r := nn) ((sm_at hs rfl).trans (sm_tz (by omega))) [0, 1, 2, 3, 4, 5, 6, 7] rfl (by decide) [] rfl (by decide) (by decide) dX12_overdue_81
      ·
        have i11 := ci_nle (x := y_1) (y := kk) rfl rfl c11
        refine lv_iload_n hx hb dX12_overdue_14 rfl (lv_at hl 1 rfl) ?_
        refine lv_aload_n hx hb dX12_overdue_15 rfl (lv_at hl 2 rfl) ?_
        refine cs_get F St 0 rfl rfl inX12 39 (by decide) kf_X12_165 rfl dX12_overdue_16 ?_
        refine lv_bipush (v := 84) hx hb dX12_overdue_19 (by decide) ?_
        refine lv_iload_n hx hb dX12_overdue_21 rfl (lv_at hl 3 rfl) ?_
        refine lv_imul hx hb dX12_overdue_22 ?_
        refine lv_topi (fun y_2 ey_2 => ?_)
        first | have jy_2 : y_2.toInt = 84 * x1.toInt := (by have q9 := ci_mul (x := 84) (y := x1) (show (84 : Int32).toInt = 84 by decide) rfl ey_2; omega) | have jy_2 := ci_mul (x := 84) (y := x1) (show (84 : Int32).toInt = 84 by decide) rfl ey_2
        refine lv_iload_n hx hb dX12_overdue_23 rfl (lv_at hl 0 rfl) ?_
        refine lv_iadd hx hb dX12_overdue_24 ?_
        refine lv_topi (fun y_3 ey_3 => ?_)
        first | have jy_3 : y_3.toInt = y_2.toInt + kk.toInt := (by have q9 := ci_add (x := y_2) (y := kk) rfl rfl ey_3; omega) | have jy_3 := ci_add (x := y_2) (y := kk) rfl rfl ey_3
        have hky_3 := rw_K hR (kk := kk) (iy := y_3) (by omega) (by omega) (by omega) (by omega)
        refine cs_zld F St 6 5 rfl rfl (vp_in_iff.mpr ⟨by omega, by omega⟩) dX12_overdue_25 ?_
        refine lv_topi (fun y_4 ey_4 => ?_)
        have gy_4 := congrArg Int32.toInt ey_4
        refine lv_if_eq (tgt := 71) hx hb dX12_overdue_26 (by decide) (fun c26 => ?_) (fun c26 => ?_)
        ·
          have i26 := ci_eq (x := y_4) (y := 0) rfl (show (0 : Int32).toInt = 0 by decide) c26
          refine lv_iconst (v := 0) hx hb dX12_overdue_71 (by decide) ?_
          refine lv_iadd hx hb dX12_overdue_72 ?_
          refine lv_topi (fun y_5 ey_5 => ?_)
          first | have jy_5 : y_5.toInt = nn.toInt + 0 := (by have q9 := ci_add (x := nn) (y := 0) rfl (show (0 : Int32).toInt = 0 by decide) ey_5; omega) | have jy_5 := ci_add (x := nn) (y := 0) rfl (show (0 : Int32).toInt = 0 by decide) ey_5
          refine lv_istore_n (lv' := [(2, .int y_5), (3, .int kk), (0, .ref h), (1, .int x1)]) hx hb dX12_overdue_73 rfl hl (by decide) rfl (fun ls hl => ?_)
          obtain ⟨y_6, ey_6⟩ : ∃ zz : Int32, zz = kk + 1 := ⟨_, rfl⟩
          first | have jy_6 : y_6.toInt = kk.toInt + 1 := (by have q9 := ci_add (x := kk) rfl (show (1 : Int32).toInt = 1 by decide) ey_6; omega) | have jy_6 := ci_add (x := kk) rfl (show (1 : Int32).toInt = 1 by decide) ey_6
          refine lv_iinc (v := y_6) (lv' := [(3, .int y_6), (2, .int y_5), (0, .ref h), (1, .int x1)]) hx hb dX12_overdue_74 hl (k := 1) rfl (by rw [ey_6]; rfl) (by decide) rfl (fun ls hl => ?_)
          refine lv_goto (tgt := 4) hx hb dX12_overdue_77 (by decide) ?_
          exact ih y_6 y_5 _ _ _ ⟨⟨by omega, by omega⟩, sm_up hI0 hs (by omega) (by unfold tz tV; split <;> (try split) <;> omega)⟩ (by omega) St (lv_sub hl [0, 1, 2, 3] rfl)
        ·
          have i26 := ci_ne (x := y_4) (y := 0) rfl (show (0 : Int32).toInt = 0 by decide) c26
          refine lv_aload_n hx hb dX12_overdue_29 rfl (lv_at hl 2 rfl) ?_
          refine lv_iload_n hx hb dX12_overdue_30 rfl (lv_at hl 3 rfl) ?_
          refine lv_iload_n hx hb dX12_overdue_31 rfl (lv_at hl 0 rfl) ?_
          refine cs_i St [0, 1, 2] [3, 4, 5, 6, 7] (wc := [(cMq a h v_taped v_size v_from v_behind v_hand v_value v_fault v_faultAt v_clock v_coin v_loan v_matched v_taxed v_paidStages v_grown v_pledges v_sums v_stages v_isStopped v_begun), (qarI (a 12) (d 12) 60 f_first), (qarI (a 13) (d 13) 60 f_every)]) (wr := [(qarI (a 14) (d 14) 60 f_dues), (qarI (a 18) (d 18) 5040 f_due), (qarI (a 19) (d 19) 5040 f_filled), (qarI (a 20) (d 20) 5040 f_isThere), (qarI (a 21) (d 21) 5040 f_counts)]) rfl rfl (by decide) (by decide) (va_runV (As := [.int x1, .int kk]) (rest := [.int nn]) F (e12_monthOf l G k _ h a d v_taped v_size v_from v_behind v_hand v_value v_fault v_faultAt v_clock v_coin v_loan v_matched v_taxed v_paidStages v_grown v_pledges v_sums v_stages v_isStopped v_begun f_first f_every x1 kk pf pe (by omega) (by omega) (by omega) (by omega) (⟨hR.1.1, hR.1.2.1, hW.1⟩)) (cwVt F mf_X12_monthOf km_X12_240 rfl rfl ⟨Nat.le_of_ble_eq_true rfl, Nat.le_of_ble_eq_true rfl⟩) (cs_preV St [0, 1, 2] rfl (by decide) [0, 1] rfl (ci := 12) (q0 := 0) rfl rfl) rfl rfl hl.1 rfl (lv_room (Nat.le_of_ble_eq_true rfl)) dX12_overdue_32 ⟨Nat.le_of_ble_eq_true rfl, Nat.le_of_ble_eq_true rfl⟩) (fun r_7 u_8 H locs hw St => ?_)
          try dsimp only at hw
          have hm_9 := hw
          have St : cS G k [(qarI (a 14) (d 14) 60 f_dues), (qarI (a 18) (d 18) 5040 f_due), (qarI (a 19) (d 19) 5040 f_filled), (qarI (a 20) (d 20) 5040 f_isThere), (qarI (a 21) (d 21) 5040 f_counts), (cMq a h v_taped v_size v_from v_behind v_hand v_value v_fault v_faultAt v_clock v_coin v_loan v_matched v_taxed v_paidStages v_grown v_pledges v_sums v_stages v_isStopped v_begun), (qarI (a 12) (d 12) 60 f_first), (qarI (a 13) (d 13) 60 f_every)] [((d 12), .int), ((d 13), .int), ((d 14), .int), ((d 18), .int), ((d 19), .int), ((d 20), .boolean), ((d 21), .boolean)] A s H locs := St
          refine lv_aload_n hx hb dX12_overdue_35 rfl (lv_at hl 2 rfl) ?_
          refine cs_get F St 5 rfl rfl inX12 13 (by decide) kf_X12_230 rfl dX12_overdue_36 ?_
          refine lv_icmp_gt (tgt := 71) hx hb dX12_overdue_39 (by decide) (fun c39 => ?_) (fun c39 => ?_)
          ·
            have i39 := ci_lt (x := v_clock) (y := r_7) rfl rfl c39
            refine lv_iconst (v := 0) hx hb dX12_overdue_71 (by decide) ?_
            refine lv_iadd hx hb dX12_overdue_72 ?_
            refine lv_topi (fun y_10 ey_10 => ?_)
            first | have jy_10 : y_10.toInt = nn.toInt + 0 := (by have q9 := ci_add (x := nn) (y := 0) rfl (show (0 : Int32).toInt = 0 by decide) ey_10; omega) | have jy_10 := ci_add (x := nn) (y := 0) rfl (show (0 : Int32).toInt = 0 by decide) ey_10
            refine lv_istore_n (lv' := [(2, .int y_10), (3, .int kk), (0, .ref h), (1, .int x1)]) hx hb dX12_overdue_73 rfl hl (by decide) rfl (fun ls hl => ?_)
            obtain ⟨y_11, ey_11⟩ : ∃ zz : Int32, zz = kk + 1 := ⟨_, rfl⟩
            first | have jy_11 : y_11.toInt = kk.toInt + 1 := (by have q9 := ci_add (x := kk) rfl (show (1 : Int32).toInt = 1 by decide) ey_11; omega) | have jy_11 := ci_add (x := kk) rfl (show (1 : Int32).toInt = 1 by decide) ey_11
            refine lv_iinc (v := y_11) (lv' := [(3, .int y_11), (2, .int y_10), (0, .ref h), (1, .int x1)]) hx hb dX12_overdue_74 hl (k := 1) rfl (by rw [ey_11]; rfl) (by decide) rfl (fun ls hl => ?_)
            refine lv_goto (tgt := 4) hx hb dX12_overdue_77 (by decide) ?_
            exact ih y_11 y_10 _ _ _ ⟨⟨by omega, by omega⟩, sm_up hI0 hs (by omega) (by unfold tz tV; split <;> (try split) <;> omega)⟩ (by omega) (cs_pick St [5, 6, 7, 0, 1, 2, 3, 4] rfl (by decide) [0, 1, 2, 3, 4, 5, 6] rfl) (lv_sub hl [0, 1, 2, 3] rfl)
          ·
            have i39 := ci_nlt (x := v_clock) (y := r_7) rfl rfl c39
            refine lv_aload_n hx hb dX12_overdue_42 rfl (lv_at hl 2 rfl) ?_
            refine cs_get F St 5 rfl rfl inX12 38 (by decide) kf_X12_162 rfl dX12_overdue_43 ?_
            refine lv_bipush (v := 84) hx hb dX12_overdue_46 (by decide) ?_
            refine lv_iload_n hx hb dX12_overdue_48 rfl (lv_at hl 3 rfl) ?_
            refine lv_imul hx hb dX12_overdue_49 ?_
            refine lv_topi (fun y_12 ey_12 => ?_)
            first | have jy_12 : y_12.toInt = 84 * x1.toInt := (by have q9 := ci_mul (x := 84) (y := x1) (show (84 : Int32).toInt = 84 by decide) rfl ey_12; omega) | have jy_12 := ci_mul (x := 84) (y := x1) (show (84 : Int32).toInt = 84 by decide) rfl ey_12
            refine lv_iload_n hx hb dX12_overdue_50 rfl (lv_at hl 0 rfl) ?_
            refine lv_iadd hx hb dX12_overdue_51 ?_
            refine lv_topi (fun y_13 ey_13 => ?_)
            first | have jy_13 : y_13.toInt = y_12.toInt + kk.toInt := (by have q9 := ci_add (x := y_12) (y := kk) rfl rfl ey_13; omega) | have jy_13 := ci_add (x := y_12) (y := kk) rfl rfl ey_13
            have hky_13 := rw_K hR (kk := kk) (iy := y_13) (by omega) (by omega) (by omega) (by omega)
            refine cs_ild F St 2 4 rfl rfl (vp_in_iff.mpr ⟨by omega, by omega⟩) dX12_overdue_52 ?_
            refine lv_topi (fun y_14 ey_14 => ?_)
            have gy_14 := congrArg Int32.toInt ey_14
            refine lv_aload_n hx hb dX12_overdue_53 rfl (lv_at hl 2 rfl) ?_
            refine cs_get F St 5 rfl rfl inX12 37 (by decide) kf_X12_159 rfl dX12_overdue_54 ?_
            refine lv_bipush (v := 84) hx hb dX12_overdue_57 (by decide) ?_
            refine lv_iload_n hx hb dX12_overdue_59 rfl (lv_at hl 3 rfl) ?_
            refine lv_imul hx hb dX12_overdue_60 ?_
            refine lv_topi (fun y_15 ey_15 => ?_)
            first | have jy_15 : y_15.toInt = 84 * x1.toInt := (by have q9 := ci_mul (x := 84) (y := x1) (show (84 : Int32).toInt = 84 by decide) rfl ey_15; omega) | have jy_15 := ci_mul (x := 84) (y := x1) (show (84 : Int32).toInt = 84 by decide) rfl ey_15
            refine lv_iload_n hx hb dX12_overdue_61 rfl (lv_at hl 0 rfl) ?_
            refine lv_iadd hx hb dX12_overdue_62 ?_
            refine lv_topi (fun y_16 ey_16 => ?_)
            first | have jy_16 : y_16.toInt = y_15.toInt + kk.toInt := (by have q9 := ci_add (x := y_15) (y := kk) rfl rfl ey_16; omega) | have jy_16 := ci_add (x := y_15) (y := kk) rfl rfl ey_16
            have hky_16 := rw_K hR (kk := kk) (iy := y_16) (by omega) (by omega) (by omega) (by omega)
            refine cs_ild F St 1 3 rfl rfl (vp_in_iff.mpr ⟨by omega, by omega⟩) dX12_overdue_63 ?_
            refine lv_topi (fun y_17 ey_17 => ?_)
            have gy_17 := congrArg Int32.toInt ey_17
            refine lv_icmp_ge (tgt := 71) hx hb dX12_overdue_64 (by decide) (fun c64 => ?_) (fun c64 => ?_)
            ·
              have i64 := ci_le (x := y_17) (y := y_14) rfl rfl c64
              refine lv_iconst (v := 0) hx hb dX12_overdue_71 (by decide) ?_
              refine lv_iadd hx hb dX12_overdue_72 ?_
              refine lv_topi (fun y_18 ey_18 => ?_)
              first | have jy_18 : y_18.toInt = nn.toInt + 0 := (by have q9 := ci_add (x := nn) (y := 0) rfl (show (0 : Int32).toInt = 0 by decide) ey_18; omega) | have jy_18 := ci_add (x := nn) (y := 0) rfl (show (0 : Int32).toInt = 0 by decide) ey_18
              refine lv_istore_n (lv' := [(2, .int y_18), (3, .int kk), (0, .ref h), (1, .int x1)]) hx hb dX12_overdue_73 rfl hl (by decide) rfl (fun ls hl => ?_)
              obtain ⟨y_19, ey_19⟩ : ∃ zz : Int32, zz = kk + 1 := ⟨_, rfl⟩
              first | have jy_19 : y_19.toInt = kk.toInt + 1 := (by have q9 := ci_add (x := kk) rfl (show (1 : Int32).toInt = 1 by decide) ey_19; omega) | have jy_19 := ci_add (x := kk) rfl (show (1 : Int32).toInt = 1 by decide) ey_19
              refine lv_iinc (v := y_19) (lv' := [(3, .int y_19), (2, .int y_18), (0, .ref h), (1, .int x1)]) hx hb dX12_overdue_74 hl (k := 1) rfl (by rw [ey_19]; rfl) (by decide) rfl (fun ls hl => ?_)
              refine lv_goto (tgt := 4) hx hb dX12_overdue_77 (by decide) ?_
              exact ih y_19 y_18 _ _ _ ⟨⟨by omega, by omega⟩, sm_up hI0 hs (by omega) (by unfold tz tV; split <;> (try split) <;> omega)⟩ (by omega) (cs_pick St [5, 6, 7, 0, 1, 2, 3, 4] rfl (by decide) [0, 1, 2, 3, 4, 5, 6] rfl) (lv_sub hl [0, 1, 2, 3] rfl)
            ·
              have i64 := ci_nle (x := y_17) (y := y_14) rfl rfl c64
              refine lv_iconst (v := 1) hx hb dX12_overdue_67 (by decide) ?_
              refine lv_goto (tgt := 72) hx hb dX12_overdue_68 (by decide) ?_
              refine lv_iadd hx hb dX12_overdue_72 ?_
              refine lv_topi (fun y_20 ey_20 => ?_)
              first | have jy_20 : y_20.toInt = nn.toInt + 1 := (by have q9 := ci_add (x := nn) (y := 1) rfl (show (1 : Int32).toInt = 1 by decide) ey_20; omega) | have jy_20 := ci_add (x := nn) (y := 1) rfl (show (1 : Int32).toInt = 1 by decide) ey_20
              refine lv_istore_n (lv' := [(2, .int y_20), (3, .int kk), (0, .ref h), (1, .int x1)]) hx hb dX12_overdue_73 rfl hl (by decide) rfl (fun ls hl => ?_)
              obtain ⟨y_21, ey_21⟩ : ∃ zz : Int32, zz = kk + 1 := ⟨_, rfl⟩
              first | have jy_21 : y_21.toInt = kk.toInt + 1 := (by have q9 := ci_add (x := kk) rfl (show (1 : Int32).toInt = 1 by decide) ey_21; omega) | have jy_21 := ci_add (x := kk) rfl (show (1 : Int32).toInt = 1 by decide) ey_21
              refine lv_iinc (v := y_21) (lv' := [(3, .int y_21), (2, .int y_20), (0, .ref h), (1, .int x1)]) hx hb dX12_overdue_74 hl (k := 1) rfl (by rw [ey_21]; rfl) (by decide) rfl (fun ls hl => ?_)
              refine lv_goto (tgt := 4) hx hb dX12_overdue_77 (by decide) ?_
              exact ih y_21 y_20 _ _ _ ⟨⟨by omega, by omega⟩, sm_up hI0 hs (by omega) (by unfold tz tV; split <;> (try split) <;> omega)⟩ (by omega) (cs_pick St [5, 6, 7, 0, 1, 2, 3, 4] rfl (by decide) [0, 1, 2, 3, 4, 5, 6] rfl) (lv_sub hl [0, 1, 2, 3] rfl)
  exact lp4 86 0 0 _ _ _ ⟨⟨by omega, by omega⟩, by rw [y0]; rfl⟩ (by omega) St (lv_sub hl [0, 1, 2, 3] rfl)
set_option maxHeartbeats 4000000 in
set_option maxRecDepth 100000 in
theorem e12_lapse (l : Launch) (G : va_G) (k : Nat → Nat) (sz : Nat) (h : Nat) (a : Nat → Nat) (d : Nat → ClassId) (v_taped : Int32) (v_size : Int32) (v_from : Int32) (v_behind : Int32) (v_hand : Int32) (v_value : Int32) (v_fault : Int32) (v_faultAt : Int32) (v_clock : Int32) (v_coin : Int32) (v_loan : Int32) (v_matched : Int32) (v_taxed : Int32) (v_paidStages : Int32) (v_grown : Int32) (v_pledges : Int32) (v_sums : Int32) (v_stages : Int32) (v_isStopped : Int32) (v_begun : Int32) (f_first : Nat → Int32) (f_every : Nat → Int32) (f_dues : Nat → Int32) (f_due : Nat → Int32) (f_filled : Nat → Int32) (f_isThere : Nat → Int32) (f_counts : Nat → Int32) (f_rule : Nat → Int32) (f_isLapsed : Nat → Int32) (f_lapsedAt : Nat → Int32) (x1 : Int32) (hPd : mPd v_pledges f_dues) (hp1 : 0 ≤ x1.toInt) (hp2 : x1.toInt < v_pledges.toInt) (Nn : Nat) (pf : Int32) (pe : Int32) (wD : Nat → Int32) (wF : Nat → Int32) (wS : Nat → Int32) (hW : wfP pf pe Nn wD wF wS) (hR : rw1 x1.toNatClampNeg Nn pf pe wD wF wS f_first f_every f_dues f_due f_filled f_isThere f_counts) (hL : ∀ k_, k_ < Nn → (wS k_).toInt = 1 → mo pf pe k_ ≤ v_clock.toInt) : Met l yX12_lapse (Cond.code yX12_lapse cX12_lapse 4 none :: tb) ({ frames := 2, cells := 0, slots := 0, locals := 45 } : Room) (va_Pc [.ref h, .int x1] (cP G k [(cMq a h v_taped v_size v_from v_behind v_hand v_value v_fault v_faultAt v_clock v_coin v_loan v_matched v_taxed v_paidStages v_grown v_pledges v_sums v_stages v_isStopped v_begun), (qarI (a 12) (d 12) 60 f_first), (qarI (a 13) (d 13) 60 f_every), (qarI (a 14) (d 14) 60 f_dues), (qarI (a 18) (d 18) 5040 f_due), (qarI (a 19) (d 19) 5040 f_filled), (qarI (a 20) (d 20) 5040 f_isThere), (qarI (a 21) (d 21) 5040 f_counts), (qarI (a 0) (d 0) 9 f_rule), (qarI (a 16) (d 16) 60 f_isLapsed), (qarI (a 15) (d 15) 60 f_lapsedAt)] [((d 12), .int), ((d 13), .int), ((d 14), .int), ((d 18), .int), ((d 19), .int), ((d 20), .boolean), ((d 21), .boolean), ((d 0), .int), ((d 16), .boolean), ((d 15), .int)] sz)) (va_Qv (fun (u : (Nat → Int32) × (Nat → Int32) × (Nat → Int32) × (Nat → Int32)) => match u with | (g_isLapsed, g_lapsedAt, g_isThere, g_counts) => (((g_isLapsed = f_isLapsed ∧ g_isThere = f_isThere ∧ g_counts = f_counts) ∧ ¬ ((f_isLapsed x1.toNatClampNeg).toInt = 0 ∧ (f_rule (4 : Int32).toNatClampNeg).toInt ≤ sm (tV pf pe wD wF wS v_clock.toInt) Nn)) ∨ (((f_isLapsed x1.toNatClampNeg).toInt = 0 ∧ (f_rule (4 : Int32).toNatClampNeg).toInt ≤ sm (tV pf pe wD wF wS v_clock.toInt) Nn) ∧ g_isLapsed = upd f_isLapsed x1.toNatClampNeg 1 ∧ rw1 x1.toNatClampNeg Nn pf pe wD wF (fU (cLa wD wF wS) (vLa pf pe v_clock.toInt) wS 0 Nn) f_first f_every f_dues f_due f_filled g_isThere g_counts ∧ sgO g_isThere f_isThere x1.toNatClampNeg ∧ sgO g_counts f_counts x1.toNatClampNeg))) (cB G (fun u => match u with | (g_isLapsed, g_lapsedAt, g_isThere, g_counts) => [(cMq a h v_taped v_size v_from v_behind v_hand v_value v_fault v_faultAt v_clock v_coin v_loan v_matched v_taxed v_paidStages v_grown v_pledges v_sums v_stages v_isStopped v_begun), (qarI (a 12) (d 12) 60 f_first), (qarI (a 13) (d 13) 60 f_every), (qarI (a 14) (d 14) 60 f_dues), (qarI (a 18) (d 18) 5040 f_due), (qarI (a 19) (d 19) 5040 f_filled), (qarI (a 20) (d 20) 5040 g_isThere), (qarI (a 21) (d 21) 5040 g_counts), (qarI (a 0) (d 0) 9 f_rule), (qarI (a 16) (d 16) 60 g_isLapsed), (qarI (a 15) (d 15) 60 g_lapsedAt)]) (fun u => match u with | (g_isLapsed, g_lapsedAt, g_isThere, g_counts) => []) (va_A [(cMq a h v_taped v_size v_from v_behind v_hand v_value v_fault v_faultAt v_clock v_coin v_loan v_matched v_taxed v_paidStages v_grown v_pledges v_sums v_stages v_isStopped v_begun), (qarI (a 12) (d 12) 60 f_first), (qarI (a 13) (d 13) 60 f_every), (qarI (a 14) (d 14) 60 f_dues), (qarI (a 18) (d 18) 5040 f_due), (qarI (a 19) (d 19) 5040 f_filled), (qarI (a 20) (d 20) 5040 f_isThere), (qarI (a 21) (d 21) 5040 f_counts), (qarI (a 0) (d 0) 9 f_rule), (qarI (a 16) (d 16) 60 f_isLapsed), (qarI (a 15) (d 15) 60 f_lapsedAt)] sz)) (va_A [(cMq a h v_taped v_size v_from v_behind v_hand v_value v_fault v_faultAt v_clock v_coin v_loan v_matched v_taxed v_paidStages v_grown v_pledges v_sums v_stages v_isStopped v_begun), (qarI (a 12) (d 12) 60 f_first), (qarI (a 13) (d 13) 60 f_every), (qarI (a 14) (d 14) 60 f_dues), (qarI (a 18) (d 18) 5040 f_due), (qarI (a 19) (d 19) 5040 f_filled), (qarI (a 20) (d 20) 5040 f_isThere), (qarI (a 21) (d 21) 5040 f_counts), (qarI (a 0) (d 0) 9 f_rule), (qarI (a 16) (d 16) 60 f_isLapsed), (qarI (a 15) (d 15) 60 f_lapsedAt)] sz)) 0 0 (va_A [(cMq a h v_taped v_size v_from v_behind v_hand v_value v_fault v_faultAt v_clock v_coin v_loan v_matched v_taxed v_paidStages v_grown v_pledges v_sums v_stages v_isStopped v_begun), (qarI (a 12) (d 12) 60 f_first), (qarI (a 13) (d 13) 60 f_every), (qarI (a 14) (d 14) 60 f_dues), (qarI (a 18) (d 18) 5040 f_due), (qarI (a 19) (d 19) 5040 f_filled), (qarI (a 20) (d 20) 5040 f_isThere), (qarI (a 21) (d 21) 5040 f_counts), (qarI (a 0) (d 0) 9 f_rule), (qarI (a 16) (d 16) 60 f_isLapsed), (qarI (a 15) (d 15) 60 f_lapsedAt)] sz) := by
  refine ofC_v (cc := cX12_lapse) (maxL := 4) (ret := none) (by decide) rfl (Nat.le_of_ble_eq_true rfl) ?_
  intro p e s m args below meth c A ls Q F hr hin hlk St hl hQ
  have hx := F.1
  have hb := F.2.1
  have hl : lv_has ls 4 [(0, .ref h), (1, .int x1)] := hl
  have St : cS G k [(cMq a h v_taped v_size v_from v_behind v_hand v_value v_fault v_faultAt v_clock v_coin v_loan v_matched v_taxed v_paidStages v_grown v_pledges v_sums v_stages v_isStopped v_begun), (qarI (a 12) (d 12) 60 f_first), (qarI (a 13) (d 13) 60 f_every), (qarI (a 14) (d 14) 60 f_dues), (qarI (a 18) (d 18) 5040 f_due), (qarI (a 19) (d 19) 5040 f_filled), (qarI (a 20) (d 20) 5040 f_isThere), (qarI (a 21) (d 21) 5040 f_counts), (qarI (a 0) (d 0) 9 f_rule), (qarI (a 16) (d 16) 60 f_isLapsed), (qarI (a 15) (d 15) 60 f_lapsedAt)] [((d 12), .int), ((d 13), .int), ((d 14), .int), ((d 18), .int), ((d 19), .int), ((d 20), .boolean), ((d 21), .boolean), ((d 0), .int), ((d 16), .boolean), ((d 15), .int)] A s s.heap [] := St
  have hpd := hPd.1
  have y0 : (0 : Int32).toInt = 0 := by decide
  have hdd := hR.1.2.2
  have hn1 := nc_int hp1
  have hpf := hW.1
  refine lv_aload_n hx hb dX12_lapse_0 rfl (lv_at hl 0 rfl) ?_
  refine cs_get F St 0 rfl rfl inX12 35 (by decide) kf_X12_153 rfl dX12_lapse_1 ?_
  refine lv_iload_n hx hb dX12_lapse_4 rfl (lv_at hl 1 rfl) ?_
  refine cs_zld F St 9 8 rfl rfl (vp_in_iff.mpr ⟨by omega, by omega⟩) dX12_lapse_5 ?_
  refine lv_topi (fun y_1 ey_1 => ?_)
  have gy_1 := congrArg Int32.toInt ey_1
  refine lv_if_ne (tgt := 23) hx hb dX12_lapse_6 (by decide) (fun c6 => ?_) (fun c6 => ?_)
  ·
    have i6 := ci_ne (x := y_1) (y := 0) rfl (show (0 : Int32).toInt = 0 by decide) c6
    exact cs_vret F hr hlk hQ St (f_isLapsed, f_lapsedAt, f_isThere, f_counts) (Or.inl ⟨⟨rfl, rfl, rfl⟩, by omega⟩) [0, 1, 2, 3, 4, 5, 6, 7, 8, 9, 10] rfl (by decide) [] rfl (by decide) (by decide) dX12_lapse_23
  ·
    have i6 := ci_eq (x := y_1) (y := 0) rfl (show (0 : Int32).toInt = 0 by decide) c6
    refine lv_aload_n hx hb dX12_lapse_9 rfl (lv_at hl 0 rfl) ?_
    refine lv_iload_n hx hb dX12_lapse_10 rfl (lv_at hl 1 rfl) ?_
    refine cs_i St [0, 1, 2, 3, 4, 5, 6, 7] [8, 9, 10] (wc := [(cMq a h v_taped v_size v_from v_behind v_hand v_value v_fault v_faultAt v_clock v_coin v_loan v_matched v_taxed v_paidStages v_grown v_pledges v_sums v_stages v_isStopped v_begun), (qarI (a 12) (d 12) 60 f_first), (qarI (a 13) (d 13) 60 f_every), (qarI (a 14) (d 14) 60 f_dues), (qarI (a 18) (d 18) 5040 f_due), (qarI (a 19) (d 19) 5040 f_filled), (qarI (a 20) (d 20) 5040 f_isThere), (qarI (a 21) (d 21) 5040 f_counts)]) (wr := [(qarI (a 0) (d 0) 9 f_rule), (qarI (a 16) (d 16) 60 f_isLapsed), (qarI (a 15) (d 15) 60 f_lapsedAt)]) rfl rfl (by decide) (by decide) (va_runV (As := [.int x1]) (rest := []) F (e12_overdue l G k _ h a d v_taped v_size v_from v_behind v_hand v_value v_fault v_faultAt v_clock v_coin v_loan v_matched v_taxed v_paidStages v_grown v_pledges v_sums v_stages v_isStopped v_begun f_first f_every f_dues f_due f_filled f_isThere f_counts x1 hPd (by omega) (by omega) Nn pf pe wD wF wS hW hR) (cwVt F mf_X12_overdue km_X12_279 rfl rfl ⟨Nat.le_of_ble_eq_true rfl, Nat.le_of_ble_eq_true rfl⟩) (cs_preV St [0, 1, 2, 3, 4, 5, 6, 7] rfl (by decide) [0, 1, 2, 3, 4, 5, 6] rfl (ci := 12) (q0 := 0) rfl rfl) rfl rfl hl.1 rfl (lv_room (Nat.le_of_ble_eq_true rfl)) dX12_lapse_11 ⟨Nat.le_of_ble_eq_true rfl, Nat.le_of_ble_eq_true rfl⟩) (fun r_2 u_3 H locs hw St => ?_)
    try dsimp only at hw
    have hv_4 := hw
    have St : cS G k [(qarI (a 0) (d 0) 9 f_rule), (qarI (a 16) (d 16) 60 f_isLapsed), (qarI (a 15) (d 15) 60 f_lapsedAt), (cMq a h v_taped v_size v_from v_behind v_hand v_value v_fault v_faultAt v_clock v_coin v_loan v_matched v_taxed v_paidStages v_grown v_pledges v_sums v_stages v_isStopped v_begun), (qarI (a 12) (d 12) 60 f_first), (qarI (a 13) (d 13) 60 f_every), (qarI (a 14) (d 14) 60 f_dues), (qarI (a 18) (d 18) 5040 f_due), (qarI (a 19) (d 19) 5040 f_filled), (qarI (a 20) (d 20) 5040 f_isThere), (qarI (a 21) (d 21) 5040 f_counts)] [((d 12), .int), ((d 13), .int), ((d 14), .int), ((d 18), .int), ((d 19), .int), ((d 20), .boolean), ((d 21), .boolean), ((d 0), .int), ((d 16), .boolean), ((d 15), .int)] A s H locs := St
    refine lv_aload_n hx hb dX12_lapse_14 rfl (lv_at hl 0 rfl) ?_
    refine cs_get F St 3 rfl rfl inX12 0 (by decide) kf_X12_114 rfl dX12_lapse_15 ?_
    refine lv_iconst (v := 4) hx hb dX12_lapse_18 (by decide) ?_
    refine cs_ild F St 0 7 rfl rfl (vp_in_iff.mpr (by decide)) dX12_lapse_19 ?_
    refine lv_topi (fun y_5 ey_5 => ?_)
    have gy_5 := congrArg Int32.toInt ey_5
    refine lv_icmp_ge (tgt := 24) hx hb dX12_lapse_20 (by decide) (fun c20 => ?_) (fun c20 => ?_)
    ·
      have i20 := ci_le (x := y_5) (y := r_2) rfl rfl c20
      refine lv_aload_n hx hb dX12_lapse_24 rfl (lv_at hl 0 rfl) ?_
      refine cs_get F St 3 rfl rfl inX12 35 (by decide) kf_X12_153 rfl dX12_lapse_25 ?_
      refine lv_iload_n hx hb dX12_lapse_28 rfl (lv_at hl 1 rfl) ?_
      refine lv_iconst (v := 1) hx hb dX12_lapse_29 (by decide) ?_
      refine cs_zst F St 1 8 rfl rfl (vp_in_iff.mpr ⟨by omega, by omega⟩) (w' := [(qarI (a 0) (d 0) 9 f_rule), (qarI (a 16) (d 16) 60 (upd f_isLapsed (x1 : Int32).toNatClampNeg (vp_nar .boolean 1))), (qarI (a 15) (d 15) 60 f_lapsedAt), (cMq a h v_taped v_size v_from v_behind v_hand v_value v_fault v_faultAt v_clock v_coin v_loan v_matched v_taxed v_paidStages v_grown v_pledges v_sums v_stages v_isStopped v_begun), (qarI (a 12) (d 12) 60 f_first), (qarI (a 13) (d 13) 60 f_every), (qarI (a 14) (d 14) 60 f_dues), (qarI (a 18) (d 18) 5040 f_due), (qarI (a 19) (d 19) 5040 f_filled), (qarI (a 20) (d 20) 5040 f_isThere), (qarI (a 21) (d 21) 5040 f_counts)]) rfl dX12_lapse_30 (fun H locs St => ?_)
      obtain ⟨f_6, ef_6⟩ : ∃ zz : Nat → Int32, zz = upd f_isLapsed (x1 : Int32).toNatClampNeg (vp_nar .boolean 1) := ⟨_, rfl⟩
      rw [← ef_6] at St
      refine lv_aload_n hx hb dX12_lapse_31 rfl (lv_at hl 0 rfl) ?_
      refine cs_get F St 3 rfl rfl inX12 34 (by decide) kf_X12_150 rfl dX12_lapse_32 ?_
      refine lv_iload_n hx hb dX12_lapse_35 rfl (lv_at hl 1 rfl) ?_
      refine cs_ild F St 2 9 rfl rfl (vp_in_iff.mpr ⟨by omega, by omega⟩) dX12_lapse_36 ?_
      refine lv_topi (fun y_7 ey_7 => ?_)
      have gy_7 := congrArg Int32.toInt ey_7
      refine lv_iconst (v := (-1)) hx hb dX12_lapse_37 (by decide) ?_
      refine lv_icmp_ne (tgt := 51) hx hb dX12_lapse_38 (by decide) (fun c38 => ?_) (fun c38 => ?_)
      ·
        have i38 := ci_ne (x := y_7) (y := (-1)) rfl (show ((-1) : Int32).toInt = -1 by decide) c38
        refine lv_iconst (v := 0) hx hb dX12_lapse_51 (by decide) ?_
        refine lv_istore_n (lv' := [(2, .int 0), (0, .ref h), (1, .int x1)]) hx hb dX12_lapse_52 rfl hl (by decide) rfl (fun ls hl => ?_)
        have lp53 : ∀ (n : Nat) (kk : Int32) (ft : Nat → Int32) (fc : Nat → Int32) (H : Heap) (locs : List Loc) (ls : Array Slot), ((0 ≤ kk.toInt ∧ kk.toInt ≤ (f_dues x1.toNatClampNeg).toInt) ∧ sgI true ft f_isThere x1.toNatClampNeg Nn (cND wD wF) (fun _ => 0) (vT wS) kk.toNatClampNeg ∧ sgI true fc f_counts x1.toNatClampNeg Nn (cNC pf pe wD wF v_clock.toInt) (fun _ => 0) (vC wS) kk.toNatClampNeg) → ((85 - kk.toInt).toNat) < n → cS G k [(qarI (a 0) (d 0) 9 f_rule), (qarI (a 16) (d 16) 60 f_6), (qarI (a 15) (d 15) 60 f_lapsedAt), (cMq a h v_taped v_size v_from v_behind v_hand v_value v_fault v_faultAt v_clock v_coin v_loan v_matched v_taxed v_paidStages v_grown v_pledges v_sums v_stages v_isStopped v_begun), (qarI (a 12) (d 12) 60 f_first), (qarI (a 13) (d 13) 60 f_every), (qarI (a 14) (d 14) 60 f_dues), (qarI (a 18) (d 18) 5040 f_due), (qarI (a 19) (d 19) 5040 f_filled), (qarI (a 20) (d 20) 5040 ft), (qarI (a 21) (d 21) 5040 fc)] [((d 12), .int), ((d 13), .int), ((d 14), .int), ((d 18), .int), ((d 19), .int), ((d 20), .boolean), ((d 21), .boolean), ((d 0), .int), ((d 16), .boolean), ((d 15), .int)] A s H locs → lv_has ls 4 [(2, .int kk), (0, .ref h), (1, .int x1)] → W p l e ({ frames := 2, cells := 0, slots := 0, locals := 45 } : Room) s m args below meth c H locs 0 0 Q (F0 m 53 ls []) := by
          intro n
          induction n with
          | zero => intro kk ft fc H locs ls hI hn; exact absurd hn (Nat.not_lt_zero _)
          | succ n ih =>
            intro kk ft fc H locs ls hI hn St hl
            obtain ⟨⟨hI0, hI1⟩, hs1, hs2⟩ := hI
            have nk := nc_int hI0
            have hml := mo_le84 (k := kk.toNatClampNeg) hpf (by omega)
            refine lv_iload_n hx hb dX12_lapse_53 rfl (lv_at hl 0 rfl) ?_
            refine lv_aload_n hx hb dX12_lapse_54 rfl (lv_at hl 1 rfl) ?_
            refine cs_get F St 3 rfl rfl inX12 33 (by decide) kf_X12_147 rfl dX12_lapse_55 ?_
            refine lv_iload_n hx hb dX12_lapse_58 rfl (lv_at hl 2 rfl) ?_
            refine cs_ild F St 6 2 rfl rfl (vp_in_iff.mpr ⟨by omega, by omega⟩) dX12_lapse_59 ?_
            refine lv_topi (fun y_8 ey_8 => ?_)
            have gy_8 := congrArg Int32.toInt ey_8
            have hdy_8 := mPd_d hPd (by omega) (by omega) ey_8
            refine lv_icmp_ge (tgt := 121) hx hb dX12_lapse_60 (by decide) (fun c60 => ?_) (fun c60 => ?_)
            ·
              have i60 := ci_le (x := y_8) (y := kk) rfl rfl c60
              exact cs_vret F hr hlk hQ St (f_6, f_lapsedAt, ft, fc) (Or.inr ⟨by omega, by rw [ef_6, nar_z1], la_rw hR hW hL (sg_end hs1 (by omega)) (sg_end hs2 (by omega)), hs1.2.2, hs2.2.2⟩) [3, 4, 5, 6, 7, 8, 9, 10, 0, 1, 2] rfl (by decide) [] rfl (by decide) (by decide) dX12_lapse_121
            ·
              have i60 := ci_nle (x := y_8) (y := kk) rfl rfl c60
              refine lv_bipush (v := 84) hx hb dX12_lapse_63 (by decide) ?_
              refine lv_iload_n hx hb dX12_lapse_65 rfl (lv_at hl 2 rfl) ?_
              refine lv_imul hx hb dX12_lapse_66 ?_
              refine lv_topi (fun y_9 ey_9 => ?_)
              first | have jy_9 : y_9.toInt = 84 * x1.toInt := (by have q9 := ci_mul (x := 84) (y := x1) (show (84 : Int32).toInt = 84 by decide) rfl ey_9; omega) | have jy_9 := ci_mul (x := 84) (y := x1) (show (84 : Int32).toInt = 84 by decide) rfl ey_9
              refine lv_iload_n hx hb dX12_lapse_67 rfl (lv_at hl 0 rfl) ?_
              refine lv_iadd hx hb dX12_lapse_68 ?_
              refine lv_topi (fun y_10 ey_10 => ?_)
              first | have jy_10 : y_10.toInt = y_9.toInt + kk.toInt := (by have q9 := ci_add (x := y_9) (y := kk) rfl rfl ey_10; omega) | have jy_10 := ci_add (x := y_9) (y := kk) rfl rfl ey_10
              refine lv_istore_n (lv' := [(3, .int y_10), (2, .int kk), (0, .ref h), (1, .int x1)]) hx hb dX12_lapse_69 rfl hl (by decide) rfl (fun ls hl => ?_)
              refine lv_aload_n hx hb dX12_lapse_70 rfl (lv_at hl 2 rfl) ?_
              refine cs_get F St 3 rfl rfl inX12 38 (by decide) kf_X12_162 rfl dX12_lapse_71 ?_
              refine lv_iload_n hx hb dX12_lapse_74 rfl (lv_at hl 0 rfl) ?_
              have hky_10 := rw_K hR (kk := kk) (iy := y_10) (by omega) (by omega) (by omega) (by omega)
              refine cs_ild F St 8 4 rfl rfl (vp_in_iff.mpr ⟨by omega, by omega⟩) dX12_lapse_75 ?_
              refine lv_topi (fun y_11 ey_11 => ?_)
              have gy_11 := congrArg Int32.toInt ey_11
              refine lv_aload_n hx hb dX12_lapse_76 rfl (lv_at hl 2 rfl) ?_
              refine cs_get F St 3 rfl rfl inX12 37 (by decide) kf_X12_159 rfl dX12_lapse_77 ?_
              refine lv_iload_n hx hb dX12_lapse_80 rfl (lv_at hl 0 rfl) ?_
              have hky_10 := rw_K hR (kk := kk) (iy := y_10) (by omega) (by omega) (by omega) (by omega)
              refine cs_ild F St 7 3 rfl rfl (vp_in_iff.mpr ⟨by omega, by omega⟩) dX12_lapse_81 ?_
              refine lv_topi (fun y_12 ey_12 => ?_)
              have gy_12 := congrArg Int32.toInt ey_12
              refine lv_icmp_ne (tgt := 88) hx hb dX12_lapse_82 (by decide) (fun c82 => ?_) (fun c82 => ?_)
              ·
                have i82 := ci_ne (x := y_11) (y := y_12) rfl rfl c82
                refine lv_aload_n hx hb dX12_lapse_88 rfl (lv_at hl 2 rfl) ?_
                refine cs_get F St 3 rfl rfl inX12 39 (by decide) kf_X12_165 rfl dX12_lapse_89 ?_
                refine lv_iload_n hx hb dX12_lapse_92 rfl (lv_at hl 0 rfl) ?_
                refine lv_iconst (v := 0) hx hb dX12_lapse_93 (by decide) ?_
                refine cs_zst F St 9 5 rfl rfl (vp_in_iff.mpr ⟨by omega, by omega⟩) (w' := [(qarI (a 0) (d 0) 9 f_rule), (qarI (a 16) (d 16) 60 f_6), (qarI (a 15) (d 15) 60 f_lapsedAt), (cMq a h v_taped v_size v_from v_behind v_hand v_value v_fault v_faultAt v_clock v_coin v_loan v_matched v_taxed v_paidStages v_grown v_pledges v_sums v_stages v_isStopped v_begun), (qarI (a 12) (d 12) 60 f_first), (qarI (a 13) (d 13) 60 f_every), (qarI (a 14) (d 14) 60 f_dues), (qarI (a 18) (d 18) 5040 f_due), (qarI (a 19) (d 19) 5040 f_filled), (qarI (a 20) (d 20) 5040 (upd ft (y_10 : Int32).toNatClampNeg (vp_nar .boolean 0))), (qarI (a 21) (d 21) 5040 fc)]) rfl dX12_lapse_94 (fun H locs St => ?_)
                obtain ⟨f_13, ef_13⟩ : ∃ zz : Nat → Int32, zz = upd ft (y_10 : Int32).toNatClampNeg (vp_nar .boolean 0) := ⟨_, rfl⟩
                rw [← ef_13] at St
                refine lv_aload_n hx hb dX12_lapse_95 rfl (lv_at hl 2 rfl) ?_
                refine lv_iload_n hx hb dX12_lapse_96 rfl (lv_at hl 3 rfl) ?_
                refine lv_iload_n hx hb dX12_lapse_97 rfl (lv_at hl 1 rfl) ?_
                refine cs_i St [3, 4, 5] [0, 1, 2, 6, 7, 8, 9, 10] (wc := [(cMq a h v_taped v_size v_from v_behind v_hand v_value v_fault v_faultAt v_clock v_coin v_loan v_matched v_taxed v_paidStages v_grown v_pledges v_sums v_stages v_isStopped v_begun), (qarI (a 12) (d 12) 60 f_first), (qarI (a 13) (d 13) 60 f_every)]) (wr := [(qarI (a 0) (d 0) 9 f_rule), (qarI (a 16) (d 16) 60 f_6), (qarI (a 15) (d 15) 60 f_lapsedAt), (qarI (a 14) (d 14) 60 f_dues), (qarI (a 18) (d 18) 5040 f_due), (qarI (a 19) (d 19) 5040 f_filled), (qarI (a 20) (d 20) 5040 f_13), (qarI (a 21) (d 21) 5040 fc)]) rfl rfl (by decide) (by decide) (va_runV (As := [.int x1, .int kk]) (rest := []) F (e12_monthOf l G k _ h a d v_taped v_size v_from v_behind v_hand v_value v_fault v_faultAt v_clock v_coin v_loan v_matched v_taxed v_paidStages v_grown v_pledges v_sums v_stages v_isStopped v_begun f_first f_every x1 kk pf pe (by omega) (by omega) (by omega) (by omega) (⟨hR.1.1, hR.1.2.1, hW.1⟩)) (cwVt F mf_X12_monthOf km_X12_240 rfl rfl ⟨Nat.le_of_ble_eq_true rfl, Nat.le_of_ble_eq_true rfl⟩) (cs_preV St [3, 4, 5] rfl (by decide) [0, 1] rfl (ci := 12) (q0 := 3) rfl rfl) rfl rfl hl.1 rfl (lv_room (Nat.le_of_ble_eq_true rfl)) dX12_lapse_98 ⟨Nat.le_of_ble_eq_true rfl, Nat.le_of_ble_eq_true rfl⟩) (fun r_14 u_15 H locs hw St => ?_)
                try dsimp only at hw
                have hm_16 := hw
                have St : cS G k [(qarI (a 0) (d 0) 9 f_rule), (qarI (a 16) (d 16) 60 f_6), (qarI (a 15) (d 15) 60 f_lapsedAt), (qarI (a 14) (d 14) 60 f_dues), (qarI (a 18) (d 18) 5040 f_due), (qarI (a 19) (d 19) 5040 f_filled), (qarI (a 20) (d 20) 5040 f_13), (qarI (a 21) (d 21) 5040 fc), (cMq a h v_taped v_size v_from v_behind v_hand v_value v_fault v_faultAt v_clock v_coin v_loan v_matched v_taxed v_paidStages v_grown v_pledges v_sums v_stages v_isStopped v_begun), (qarI (a 12) (d 12) 60 f_first), (qarI (a 13) (d 13) 60 f_every)] [((d 12), .int), ((d 13), .int), ((d 14), .int), ((d 18), .int), ((d 19), .int), ((d 20), .boolean), ((d 21), .boolean), ((d 0), .int), ((d 16), .boolean), ((d 15), .int)] A s H locs := St
                refine lv_aload_n hx hb dX12_lapse_101 rfl (lv_at hl 2 rfl) ?_
                refine cs_get F St 8 rfl rfl inX12 13 (by decide) kf_X12_230 rfl dX12_lapse_102 ?_
                refine lv_icmp_le (tgt := 115) hx hb dX12_lapse_105 (by decide) (fun c105 => ?_) (fun c105 => ?_)
                ·
                  have i105 := ci_le (x := r_14) (y := v_clock) rfl rfl c105
                  obtain ⟨y_17, ey_17⟩ : ∃ zz : Int32, zz = kk + 1 := ⟨_, rfl⟩
                  first | have jy_17 : y_17.toInt = kk.toInt + 1 := (by have q9 := ci_add (x := kk) rfl (show (1 : Int32).toInt = 1 by decide) ey_17; omega) | have jy_17 := ci_add (x := kk) rfl (show (1 : Int32).toInt = 1 by decide) ey_17
                  refine lv_iinc (v := y_17) (lv' := [(2, .int y_17), (3, .int y_10), (0, .ref h), (1, .int x1)]) hx hb dX12_lapse_115 hl (k := 1) rfl (by rw [ey_17]; rfl) (by decide) rfl (fun ls hl => ?_)
                  refine lv_goto (tgt := 53) hx hb dX12_lapse_118 (by decide) ?_
                  exact ih y_17 f_13 fc _ _ _ ⟨⟨by omega, by omega⟩, (by rw [ef_13, nar_z0]; exact sg_Y hp1 hI0 hs1 (by omega) (by omega) (by omega) (fun a_ => ⟨decide_eq_true (by omega), rfl⟩) (fun _ _ => rfl)), sg_N hI0 hs2 (by omega) (fun a_ b_ => absurd (of_decide_eq_true b_) (by omega))⟩ (by omega) (cs_pick St [0, 1, 2, 8, 9, 10, 3, 4, 5, 6, 7] rfl (by decide) [0, 1, 2, 3, 4, 5, 6, 7, 8, 9] rfl) (lv_sub hl [0, 2, 3] rfl)
                ·
                  have i105 := ci_nle (x := r_14) (y := v_clock) rfl rfl c105
                  refine lv_aload_n hx hb dX12_lapse_108 rfl (lv_at hl 2 rfl) ?_
                  refine cs_get F St 8 rfl rfl inX12 40 (by decide) kf_X12_168 rfl dX12_lapse_109 ?_
                  refine lv_iload_n hx hb dX12_lapse_112 rfl (lv_at hl 0 rfl) ?_
                  refine lv_iconst (v := 0) hx hb dX12_lapse_113 (by decide) ?_
                  refine cs_zst F St 7 6 rfl rfl (vp_in_iff.mpr ⟨by omega, by omega⟩) (w' := [(qarI (a 0) (d 0) 9 f_rule), (qarI (a 16) (d 16) 60 f_6), (qarI (a 15) (d 15) 60 f_lapsedAt), (qarI (a 14) (d 14) 60 f_dues), (qarI (a 18) (d 18) 5040 f_due), (qarI (a 19) (d 19) 5040 f_filled), (qarI (a 20) (d 20) 5040 f_13), (qarI (a 21) (d 21) 5040 (upd fc (y_10 : Int32).toNatClampNeg (vp_nar .boolean 0))), (cMq a h v_taped v_size v_from v_behind v_hand v_value v_fault v_faultAt v_clock v_coin v_loan v_matched v_taxed v_paidStages v_grown v_pledges v_sums v_stages v_isStopped v_begun), (qarI (a 12) (d 12) 60 f_first), (qarI (a 13) (d 13) 60 f_every)]) rfl dX12_lapse_114 (fun H locs St => ?_)
                  obtain ⟨f_18, ef_18⟩ : ∃ zz : Nat → Int32, zz = upd fc (y_10 : Int32).toNatClampNeg (vp_nar .boolean 0) := ⟨_, rfl⟩
                  rw [← ef_18] at St
                  obtain ⟨y_19, ey_19⟩ : ∃ zz : Int32, zz = kk + 1 := ⟨_, rfl⟩
                  first | have jy_19 : y_19.toInt = kk.toInt + 1 := (by have q9 := ci_add (x := kk) rfl (show (1 : Int32).toInt = 1 by decide) ey_19; omega) | have jy_19 := ci_add (x := kk) rfl (show (1 : Int32).toInt = 1 by decide) ey_19
                  refine lv_iinc (v := y_19) (lv' := [(2, .int y_19), (3, .int y_10), (0, .ref h), (1, .int x1)]) hx hb dX12_lapse_115 hl (k := 1) rfl (by rw [ey_19]; rfl) (by decide) rfl (fun ls hl => ?_)
                  refine lv_goto (tgt := 53) hx hb dX12_lapse_118 (by decide) ?_
                  exact ih y_19 f_13 f_18 _ _ _ ⟨⟨by omega, by omega⟩, (by rw [ef_13, nar_z0]; exact sg_Y hp1 hI0 hs1 (by omega) (by omega) (by omega) (fun a_ => ⟨decide_eq_true (by omega), rfl⟩) (fun _ _ => rfl)), (by rw [ef_18, nar_z0]; exact sg_Y hp1 hI0 hs2 (by omega) (by omega) (by omega) (fun a_ => ⟨decide_eq_true (by omega), rfl⟩) (fun _ _ => rfl))⟩ (by omega) (cs_pick St [0, 1, 2, 8, 9, 10, 3, 4, 5, 6, 7] rfl (by decide) [0, 1, 2, 3, 4, 5, 6, 7, 8, 9] rfl) (lv_sub hl [0, 2, 3] rfl)
              ·
                have i82 := ci_eq (x := y_11) (y := y_12) rfl rfl c82
                refine lv_goto (tgt := 115) hx hb dX12_lapse_85 (by decide) ?_
                obtain ⟨y_20, ey_20⟩ : ∃ zz : Int32, zz = kk + 1 := ⟨_, rfl⟩
                first | have jy_20 : y_20.toInt = kk.toInt + 1 := (by have q9 := ci_add (x := kk) rfl (show (1 : Int32).toInt = 1 by decide) ey_20; omega) | have jy_20 := ci_add (x := kk) rfl (show (1 : Int32).toInt = 1 by decide) ey_20
                refine lv_iinc (v := y_20) (lv' := [(2, .int y_20), (3, .int y_10), (0, .ref h), (1, .int x1)]) hx hb dX12_lapse_115 hl (k := 1) rfl (by rw [ey_20]; rfl) (by decide) rfl (fun ls hl => ?_)
                refine lv_goto (tgt := 53) hx hb dX12_lapse_118 (by decide) ?_
                exact ih y_20 ft fc _ _ _ ⟨⟨by omega, by omega⟩, sg_N hI0 hs1 (by omega) (fun a_ b_ => absurd (of_decide_eq_true b_) (by omega)), sg_N hI0 hs2 (by omega) (fun a_ b_ => absurd (of_decide_eq_true b_) (by omega))⟩ (by omega) St (lv_sub hl [0, 2, 3] rfl)
        exact lp53 86 0 f_isThere f_counts _ _ _ ⟨⟨by omega, by omega⟩, sg_0 (fun j_ h_ => (hR.2.1 j_ h_).2.2.1) (fun _ j_ a_ b_ => (hR.2.2.1 j_ a_ b_).2.1), sg_0 (fun j_ h_ => (hR.2.1 j_ h_).2.2.2) (fun _ j_ a_ b_ => (hR.2.2.1 j_ a_ b_).2.2)⟩ (by omega) St (lv_sub hl [0, 1, 2] rfl)
      ·
        have i38 := ci_eq (x := y_7) (y := (-1)) rfl (show ((-1) : Int32).toInt = -1 by decide) c38
        refine lv_aload_n hx hb dX12_lapse_41 rfl (lv_at hl 0 rfl) ?_
        refine cs_get F St 3 rfl rfl inX12 34 (by decide) kf_X12_150 rfl dX12_lapse_42 ?_
        refine lv_iload_n hx hb dX12_lapse_45 rfl (lv_at hl 1 rfl) ?_
        refine lv_aload_n hx hb dX12_lapse_46 rfl (lv_at hl 0 rfl) ?_
        refine cs_get F St 3 rfl rfl inX12 13 (by decide) kf_X12_230 rfl dX12_lapse_47 ?_
        refine cs_ist F St 2 9 rfl rfl (vp_in_iff.mpr ⟨by omega, by omega⟩) (w' := [(qarI (a 0) (d 0) 9 f_rule), (qarI (a 16) (d 16) 60 f_6), (qarI (a 15) (d 15) 60 (upd f_lapsedAt (x1 : Int32).toNatClampNeg v_clock)), (cMq a h v_taped v_size v_from v_behind v_hand v_value v_fault v_faultAt v_clock v_coin v_loan v_matched v_taxed v_paidStages v_grown v_pledges v_sums v_stages v_isStopped v_begun), (qarI (a 12) (d 12) 60 f_first), (qarI (a 13) (d 13) 60 f_every), (qarI (a 14) (d 14) 60 f_dues), (qarI (a 18) (d 18) 5040 f_due), (qarI (a 19) (d 19) 5040 f_filled), (qarI (a 20) (d 20) 5040 f_isThere), (qarI (a 21) (d 21) 5040 f_counts)]) rfl dX12_lapse_50 (fun H locs St => ?_)
        obtain ⟨f_21, ef_21⟩ : ∃ zz : Nat → Int32, zz = upd f_lapsedAt (x1 : Int32).toNatClampNeg v_clock := ⟨_, rfl⟩
        rw [← ef_21] at St
        refine lv_iconst (v := 0) hx hb dX12_lapse_51 (by decide) ?_
        refine lv_istore_n (lv' := [(2, .int 0), (0, .ref h), (1, .int x1)]) hx hb dX12_lapse_52 rfl hl (by decide) rfl (fun ls hl => ?_)
        have lp53 : ∀ (n : Nat) (kk : Int32) (ft : Nat → Int32) (fc : Nat → Int32) (H : Heap) (locs : List Loc) (ls : Array Slot), ((0 ≤ kk.toInt ∧ kk.toInt ≤ (f_dues x1.toNatClampNeg).toInt) ∧ sgI true ft f_isThere x1.toNatClampNeg Nn (cND wD wF) (fun _ => 0) (vT wS) kk.toNatClampNeg ∧ sgI true fc f_counts x1.toNatClampNeg Nn (cNC pf pe wD wF v_clock.toInt) (fun _ => 0) (vC wS) kk.toNatClampNeg) → ((85 - kk.toInt).toNat) < n → cS G k [(qarI (a 0) (d 0) 9 f_rule), (qarI (a 16) (d 16) 60 f_6), (qarI (a 15) (d 15) 60 f_21), (cMq a h v_taped v_size v_from v_behind v_hand v_value v_fault v_faultAt v_clock v_coin v_loan v_matched v_taxed v_paidStages v_grown v_pledges v_sums v_stages v_isStopped v_begun), (qarI (a 12) (d 12) 60 f_first), (qarI (a 13) (d 13) 60 f_every), (qarI (a 14) (d 14) 60 f_dues), (qarI (a 18) (d 18) 5040 f_due), (qarI (a 19) (d 19) 5040 f_filled), (qarI (a 20) (d 20) 5040 ft), (qarI (a 21) (d 21) 5040 fc)] [((d 12), .int), ((d 13), .int), ((d 14), .int), ((d 18), .int), ((d 19), .int), ((d 20), .boolean), ((d 21), .boolean), ((d 0), .int), ((d 16), .boolean), ((d 15), .int)] A s H locs → lv_has ls 4 [(2, .int kk), (0, .ref h), (1, .int x1)] → W p l e ({ frames := 2, cells := 0, slots := 0, locals := 45 } : Room) s m args below meth c H locs 0 0 Q (F0 m 53 ls []) := by
          intro n
          induction n with
          | zero => intro kk ft fc H locs ls hI hn; exact absurd hn (Nat.not_lt_zero _)
          | succ n ih =>
            intro kk ft fc H locs ls hI hn St hl
            obtain ⟨⟨hI0, hI1⟩, hs1, hs2⟩ := hI
            have nk := nc_int hI0
            have hml := mo_le84 (k := kk.toNatClampNeg) hpf (by omega)
            refine lv_iload_n hx hb dX12_lapse_53 rfl (lv_at hl 0 rfl) ?_
            refine lv_aload_n hx hb dX12_lapse_54 rfl (lv_at hl 1 rfl) ?_
            refine cs_get F St 3 rfl rfl inX12 33 (by decide) kf_X12_147 rfl dX12_lapse_55 ?_
            refine lv_iload_n hx hb dX12_lapse_58 rfl (lv_at hl 2 rfl) ?_
            refine cs_ild F St 6 2 rfl rfl (vp_in_iff.mpr ⟨by omega, by omega⟩) dX12_lapse_59 ?_
            refine lv_topi (fun y_22 ey_22 => ?_)
            have gy_22 := congrArg Int32.toInt ey_22
            have hdy_22 := mPd_d hPd (by omega) (by omega) ey_22
            refine lv_icmp_ge (tgt := 121) hx hb dX12_lapse_60 (by decide) (fun c60 => ?_) (fun c60 => ?_)
            ·
              have i60 := ci_le (x := y_22) (y := kk) rfl rfl c60
              exact cs_vret F hr hlk hQ St (f_6, f_21, ft, fc) (Or.inr ⟨by omega, by rw [ef_6, nar_z1], la_rw hR hW hL (sg_end hs1 (by omega)) (sg_end hs2 (by omega)), hs1.2.2, hs2.2.2⟩) [3, 4, 5, 6, 7, 8, 9, 10, 0, 1, 2] rfl (by decide) [] rfl (by decide) (by decide) dX12_lapse_121
            ·
              have i60 := ci_nle (x := y_22) (y := kk) rfl rfl c60
              refine lv_bipush (v := 84) hx hb dX12_lapse_63 (by decide) ?_
              refine lv_iload_n hx hb dX12_lapse_65 rfl (lv_at hl 2 rfl) ?_
              refine lv_imul hx hb dX12_lapse_66 ?_
              refine lv_topi (fun y_23 ey_23 => ?_)
              first | have jy_23 : y_23.toInt = 84 * x1.toInt := (by have q9 := ci_mul (x := 84) (y := x1) (show (84 : Int32).toInt = 84 by decide) rfl ey_23; omega) | have jy_23 := ci_mul (x := 84) (y := x1) (show (84 : Int32).toInt = 84 by decide) rfl ey_23
              refine lv_iload_n hx hb dX12_lapse_67 rfl (lv_at hl 0 rfl) ?_
              refine lv_iadd hx hb dX12_lapse_68 ?_
              refine lv_topi (fun y_24 ey_24 => ?_)
              first | have jy_24 : y_24.toInt = y_23.toInt + kk.toInt := (by have q9 := ci_add (x := y_23) (y := kk) rfl rfl ey_24; omega) | have jy_24 := ci_add (x := y_23) (y := kk) rfl rfl ey_24
              refine lv_istore_n (lv' := [(3, .int y_24), (2, .int kk), (0, .ref h), (1, .int x1)]) hx hb dX12_lapse_69 rfl hl (by decide) rfl (fun ls hl => ?_)
              refine lv_aload_n hx hb dX12_lapse_70 rfl (lv_at hl 2 rfl) ?_
              refine cs_get F St 3 rfl rfl inX12 38 (by decide) kf_X12_162 rfl dX12_lapse_71 ?_
              refine lv_iload_n hx hb dX12_lapse_74 rfl (lv_at hl 0 rfl) ?_
              have hky_24 := rw_K hR (kk := kk) (iy := y_24) (by omega) (by omega) (by omega) (by omega)
              refine cs_ild F St 8 4 rfl rfl (vp_in_iff.mpr ⟨by omega, by omega⟩) dX12_lapse_75 ?_
              refine lv_topi (fun y_25 ey_25 => ?_)
              have gy_25 := congrArg Int32.toInt ey_25
              refine lv_aload_n hx hb dX12_lapse_76 rfl (lv_at hl 2 rfl) ?_
              refine cs_get F St 3 rfl rfl inX12 37 (by decide) kf_X12_159 rfl dX12_lapse_77 ?_
              refine lv_iload_n hx hb dX12_lapse_80 rfl (lv_at hl 0 rfl) ?_
              have hky_24 := rw_K hR (kk := kk) (iy := y_24) (by omega) (by omega) (by omega) (by omega)
              refine cs_ild F St 7 3 rfl rfl (vp_in_iff.mpr ⟨by omega, by omega⟩) dX12_lapse_81 ?_
              refine lv_topi (fun y_26 ey_26 => ?_)
              have gy_26 := congrArg Int32.toInt ey_26
              refine lv_icmp_ne (tgt := 88) hx hb dX12_lapse_82 (by decide) (fun c82 => ?_) (fun c82 => ?_)
              ·
                have i82 := ci_ne (x := y_25) (y := y_26) rfl rfl c82
                refine lv_aload_n hx hb dX12_lapse_88 rfl (lv_at hl 2 rfl) ?_
                refine cs_get F St 3 rfl rfl inX12 39 (by decide) kf_X12_165 rfl dX12_lapse_89 ?_
                refine lv_iload_n hx hb dX12_lapse_92 rfl (lv_at hl 0 rfl) ?_
                refine lv_iconst (v := 0) hx hb dX12_lapse_93 (by decide) ?_
                refine cs_zst F St 9 5 rfl rfl (vp_in_iff.mpr ⟨by omega, by omega⟩) (w' := [(qarI (a 0) (d 0) 9 f_rule), (qarI (a 16) (d 16) 60 f_6), (qarI (a 15) (d 15) 60 f_21), (cMq a h v_taped v_size v_from v_behind v_hand v_value v_fault v_faultAt v_clock v_coin v_loan v_matched v_taxed v_paidStages v_grown v_pledges v_sums v_stages v_isStopped v_begun), (qarI (a 12) (d 12) 60 f_first), (qarI (a 13) (d 13) 60 f_every), (qarI (a 14) (d 14) 60 f_dues), (qarI (a 18) (d 18) 5040 f_due), (qarI (a 19) (d 19) 5040 f_filled), (qarI (a 20) (d 20) 5040 (upd ft (y_24 : Int32).toNatClampNeg (vp_nar .boolean 0))), (qarI (a 21) (d 21) 5040 fc)]) rfl dX12_lapse_94 (fun H locs St => ?_)
                obtain ⟨f_27, ef_27⟩ : ∃ zz : Nat → Int32, zz = upd ft (y_24 : Int32).toNatClampNeg (vp_nar .boolean 0) := ⟨_, rfl⟩
                rw [← ef_27] at St
                refine lv_aload_n hx hb dX12_lapse_95 rfl (lv_at hl 2 rfl) ?_
                refine lv_iload_n hx hb dX12_lapse_96 rfl (lv_at hl 3 rfl) ?_
                refine lv_iload_n hx hb dX12_lapse_97 rfl (lv_at hl 1 rfl) ?_
                refine cs_i St [3, 4, 5] [0, 1, 2, 6, 7, 8, 9, 10] (wc := [(cMq a h v_taped v_size v_from v_behind v_hand v_value v_fault v_faultAt v_clock v_coin v_loan v_matched v_taxed v_paidStages v_grown v_pledges v_sums v_stages v_isStopped v_begun), (qarI (a 12) (d 12) 60 f_first), (qarI (a 13) (d 13) 60 f_every)]) (wr := [(qarI (a 0) (d 0) 9 f_rule), (qarI (a 16) (d 16) 60 f_6), (qarI (a 15) (d 15) 60 f_21), (qarI (a 14) (d 14) 60 f_dues), (qarI (a 18) (d 18) 5040 f_due), (qarI (a 19) (d 19) 5040 f_filled), (qarI (a 20) (d 20) 5040 f_27), (qarI (a 21) (d 21) 5040 fc)]) rfl rfl (by decide) (by decide) (va_runV (As := [.int x1, .int kk]) (rest := []) F (e12_monthOf l G k _ h a d v_taped v_size v_from v_behind v_hand v_value v_fault v_faultAt v_clock v_coin v_loan v_matched v_taxed v_paidStages v_grown v_pledges v_sums v_stages v_isStopped v_begun f_first f_every x1 kk pf pe (by omega) (by omega) (by omega) (by omega) (⟨hR.1.1, hR.1.2.1, hW.1⟩)) (cwVt F mf_X12_monthOf km_X12_240 rfl rfl ⟨Nat.le_of_ble_eq_true rfl, Nat.le_of_ble_eq_true rfl⟩) (cs_preV St [3, 4, 5] rfl (by decide) [0, 1] rfl (ci := 12) (q0 := 3) rfl rfl) rfl rfl hl.1 rfl (lv_room (Nat.le_of_ble_eq_true rfl)) dX12_lapse_98 ⟨Nat.le_of_ble_eq_true rfl, Nat.le_of_ble_eq_true rfl⟩) (fun r_28 u_29 H locs hw St => ?_)
                try dsimp only at hw
                have hm_30 := hw
                have St : cS G k [(qarI (a 0) (d 0) 9 f_rule), (qarI (a 16) (d 16) 60 f_6), (qarI (a 15) (d 15) 60 f_21), (qarI (a 14) (d 14) 60 f_dues), (qarI (a 18) (d 18) 5040 f_due), (qarI (a 19) (d 19) 5040 f_filled), (qarI (a 20) (d 20) 5040 f_27), (qarI (a 21) (d 21) 5040 fc), (cMq a h v_taped v_size v_from v_behind v_hand v_value v_fault v_faultAt v_clock v_coin v_loan v_matched v_taxed v_paidStages v_grown v_pledges v_sums v_stages v_isStopped v_begun), (qarI (a 12) (d 12) 60 f_first), (qarI (a 13) (d 13) 60 f_every)] [((d 12), .int), ((d 13), .int), ((d 14), .int), ((d 18), .int), ((d 19), .int), ((d 20), .boolean), ((d 21), .boolean), ((d 0), .int), ((d 16), .boolean), ((d 15), .int)] A s H locs := St
                refine lv_aload_n hx hb dX12_lapse_101 rfl (lv_at hl 2 rfl) ?_
                refine cs_get F St 8 rfl rfl inX12 13 (by decide) kf_X12_230 rfl dX12_lapse_102 ?_
                refine lv_icmp_le (tgt := 115) hx hb dX12_lapse_105 (by decide) (fun c105 => ?_) (fun c105 => ?_)
                ·
                  have i105 := ci_le (x := r_28) (y := v_clock) rfl rfl c105
                  obtain ⟨y_31, ey_31⟩ : ∃ zz : Int32, zz = kk + 1 := ⟨_, rfl⟩
                  first | have jy_31 : y_31.toInt = kk.toInt + 1 := (by have q9 := ci_add (x := kk) rfl (show (1 : Int32).toInt = 1 by decide) ey_31; omega) | have jy_31 := ci_add (x := kk) rfl (show (1 : Int32).toInt = 1 by decide) ey_31
                  refine lv_iinc (v := y_31) (lv' := [(2, .int y_31), (3, .int y_24), (0, .ref h), (1, .int x1)]) hx hb dX12_lapse_115 hl (k := 1) rfl (by rw [ey_31]; rfl) (by decide) rfl (fun ls hl => ?_)
                  refine lv_goto (tgt := 53) hx hb dX12_lapse_118 (by decide) ?_
                  exact ih y_31 f_27 fc _ _ _ ⟨⟨by omega, by omega⟩, (by rw [ef_27, nar_z0]; exact sg_Y hp1 hI0 hs1 (by omega) (by omega) (by omega) (fun a_ => ⟨decide_eq_true (by omega), rfl⟩) (fun _ _ => rfl)), sg_N hI0 hs2 (by omega) (fun a_ b_ => absurd (of_decide_eq_true b_) (by omega))⟩ (by omega) (cs_pick St [0, 1, 2, 8, 9, 10, 3, 4, 5, 6, 7] rfl (by decide) [0, 1, 2, 3, 4, 5, 6, 7, 8, 9] rfl) (lv_sub hl [0, 2, 3] rfl)
                ·
                  have i105 := ci_nle (x := r_28) (y := v_clock) rfl rfl c105
                  refine lv_aload_n hx hb dX12_lapse_108 rfl (lv_at hl 2 rfl) ?_
                  refine cs_get F St 8 rfl rfl inX12 40 (by decide) kf_X12_168 rfl dX12_lapse_109 ?_
                  refine lv_iload_n hx hb dX12_lapse_112 rfl (lv_at hl 0 rfl) ?_
                  refine lv_iconst (v := 0) hx hb dX12_lapse_113 (by decide) ?_
                  refine cs_zst F St 7 6 rfl rfl (vp_in_iff.mpr ⟨by omega, by omega⟩) (w' := [(qarI (a 0) (d 0) 9 f_rule), (qarI (a 16) (d 16) 60 f_6), (qarI (a 15) (d 15) 60 f_21), (qarI (a 14) (d 14) 60 f_dues), (qarI (a 18) (d 18) 5040 f_due), (qarI (a 19) (d 19) 5040 f_filled), (qarI (a 20) (d 20) 5040 f_27), (qarI (a 21) (d 21) 5040 (upd fc (y_24 : Int32).toNatClampNeg (vp_nar .boolean 0))), (cMq a h v_taped v_size v_from v_behind v_hand v_value v_fault v_faultAt v_clock v_coin v_loan v_matched v_taxed v_paidStages v_grown v_pledges v_sums v_stages v_isStopped v_begun), (qarI (a 12) (d 12) 60 f_first), (qarI (a 13) (d 13) 60 f_every)]) rfl dX12_lapse_114 (fun H locs St => ?_)
                  obtain ⟨f_32, ef_32⟩ : ∃ zz : Nat → Int32, zz = upd fc (y_24 : Int32).toNatClampNeg (vp_nar .boolean 0) := ⟨_, rfl⟩
                  rw [← ef_32] at St
                  obtain ⟨y_33, ey_33⟩ : ∃ zz : Int32, zz = kk + 1 := ⟨_, rfl⟩
                  first | have jy_33 : y_33.toInt = kk.toInt + 1 := (by have q9 := ci_add (x := kk) rfl (show (1 : Int32).toInt = 1 by decide) ey_33; omega) | have jy_33 := ci_add (x := kk) rfl (show (1 : Int32).toInt = 1 by decide) ey_33
                  refine lv_iinc (v := y_33) (lv' := [(2, .int y_33), (3, .int y_24), (0, .ref h), (1, .int x1)]) hx hb dX12_lapse_115 hl (k := 1) rfl (by rw [ey_33]; rfl) (by decide) rfl (fun ls hl => ?_)
                  refine lv_goto (tgt := 53) hx hb dX12_lapse_118 (by decide) ?_
                  exact ih y_33 f_27 f_32 _ _ _ ⟨⟨by omega, by omega⟩, (by rw [ef_27, nar_z0]; exact sg_Y hp1 hI0 hs1 (by omega) (by omega) (by omega) (fun a_ => ⟨decide_eq_true (by omega), rfl⟩) (fun _ _ => rfl)), (by rw [ef_32, nar_z0]; exact sg_Y hp1 hI0 hs2 (by omega) (by omega) (by omega) (fun a_ => ⟨decide_eq_true (by omega), rfl⟩) (fun _ _ => rfl))⟩ (by omega) (cs_pick St [0, 1, 2, 8, 9, 10, 3, 4, 5, 6, 7] rfl (by decide) [0, 1, 2, 3, 4, 5, 6, 7, 8, 9] rfl) (lv_sub hl [0, 2, 3] rfl)
              ·
                have i82 := ci_eq (x := y_25) (y := y_26) rfl rfl c82
                refine lv_goto (tgt := 115) hx hb dX12_lapse_85 (by decide) ?_
                obtain ⟨y_34, ey_34⟩ : ∃ zz : Int32, zz = kk + 1 := ⟨_, rfl⟩
                first | have jy_34 : y_34.toInt = kk.toInt + 1 := (by have q9 := ci_add (x := kk) rfl (show (1 : Int32).toInt = 1 by decide) ey_34; omega) | have jy_34 := ci_add (x := kk) rfl (show (1 : Int32).toInt = 1 by decide) ey_34
                refine lv_iinc (v := y_34) (lv' := [(2, .int y_34), (3, .int y_24), (0, .ref h), (1, .int x1)]) hx hb dX12_lapse_115 hl (k := 1) rfl (by rw [ey_34]; rfl) (by decide) rfl (fun ls hl => ?_)
                refine lv_goto (tgt := 53) hx hb dX12_lapse_118 (by decide) ?_
                exact ih y_34 ft fc _ _ _ ⟨⟨by omega, by omega⟩, sg_N hI0 hs1 (by omega) (fun a_ b_ => absurd (of_decide_eq_true b_) (by omega)), sg_N hI0 hs2 (by omega) (fun a_ b_ => absurd (of_decide_eq_true b_) (by omega))⟩ (by omega) St (lv_sub hl [0, 2, 3] rfl)
        exact lp53 86 0 f_isThere f_counts _ _ _ ⟨⟨by omega, by omega⟩, sg_0 (fun j_ h_ => (hR.2.1 j_ h_).2.2.1) (fun _ j_ a_ b_ => (hR.2.2.1 j_ a_ b_).2.1), sg_0 (fun j_ h_ => (hR.2.1 j_ h_).2.2.2) (fun _ j_ a_ b_ => (hR.2.2.1 j_ a_ b_).2.2)⟩ (by omega) St (lv_sub hl [0, 1, 2] rfl)
    ·
      have i20 := ci_nle (x := y_5) (y := r_2) rfl rfl c20
      exact cs_vret F hr hlk hQ St (f_isLapsed, f_lapsedAt, f_isThere, f_counts) (Or.inl ⟨⟨rfl, rfl, rfl⟩, by omega⟩) [3, 4, 5, 6, 7, 8, 9, 10, 0, 1, 2] rfl (by decide) [] rfl (by decide) (by decide) dX12_lapse_23
set_option maxHeartbeats 4000000 in
set_option maxRecDepth 100000 in
theorem e12_change (l : Launch) (G : va_G) (k : Nat → Nat) (sz : Nat) (h : Nat) (a : Nat → Nat) (d : Nat → ClassId) (v_taped : Int32) (v_size : Int32) (v_from : Int32) (v_behind : Int32) (v_hand : Int32) (v_value : Int32) (v_fault : Int32) (v_faultAt : Int32) (v_clock : Int32) (v_coin : Int32) (v_loan : Int32) (v_matched : Int32) (v_taxed : Int32) (v_paidStages : Int32) (v_grown : Int32) (v_pledges : Int32) (v_sums : Int32) (v_stages : Int32) (v_isStopped : Int32) (v_begun : Int32) (f_giver : Nat → Int32) (f_isLapsed : Nat → Int32) (f_wasTakenUp : Nat → Int32) (f_first : Nat → Int32) (f_every : Nat → Int32) (f_dues : Nat → Int32) (f_due : Nat → Int32) (f_filled : Nat → Int32) (f_isThere : Nat → Int32) (f_counts : Nat → Int32) (f_pence : Nat → Int32) (x1 : Int32) (x2 : Int32) (hPd : mPd v_pledges f_dues) (tP : Nat → Pl9) (hM : mR v_pledges (tP) f_giver f_isLapsed f_wasTakenUp f_first f_every f_dues f_due f_filled f_isThere f_counts) (hA : wfA v_pledges v_clock.toInt tP) : Met l yX12_change (Cond.code yX12_change cX12_change 4 (some .int) :: tb) ({ frames := 2, cells := 0, slots := 0, locals := 46 } : Room) (va_Pc [.ref h, .int x1, .int x2] (cP G k [(cMq a h v_taped v_size v_from v_behind v_hand v_value v_fault v_faultAt v_clock v_coin v_loan v_matched v_taxed v_paidStages v_grown v_pledges v_sums v_stages v_isStopped v_begun), (qarI (a 10) (d 10) 60 f_giver), (qarI (a 16) (d 16) 60 f_isLapsed), (qarI (a 17) (d 17) 60 f_wasTakenUp), (qarI (a 12) (d 12) 60 f_first), (qarI (a 13) (d 13) 60 f_every), (qarI (a 14) (d 14) 60 f_dues), (qarI (a 18) (d 18) 5040 f_due), (qarI (a 19) (d 19) 5040 f_filled), (qarI (a 20) (d 20) 5040 f_isThere), (qarI (a 21) (d 21) 5040 f_counts), (qarI (a 11) (d 11) 60 f_pence)] [((d 10), .int), ((d 16), .boolean), ((d 17), .boolean), ((d 12), .int), ((d 13), .int), ((d 14), .int), ((d 18), .int), ((d 19), .int), ((d 20), .boolean), ((d 21), .boolean), ((d 11), .int)] sz)) (va_Qi (fun (r : Int32) (u : (Nat → Int32) × (Nat → Int32) × (Nat → Pl9)) => match u with | (g_pence, g_due, tP2) => (Rchg v_isStopped v_pledges v_clock.toInt x1 x2 tP r tP2) ∧ (mR v_pledges (tP2) f_giver f_isLapsed f_wasTakenUp f_first f_every f_dues g_due f_filled f_isThere f_counts) ∧ (wfA v_pledges v_clock.toInt tP2)) (cB G (fun u => match u with | (g_pence, g_due, tP2) => [(cMq a h v_taped v_size v_from v_behind v_hand v_value v_fault v_faultAt v_clock v_coin v_loan v_matched v_taxed v_paidStages v_grown v_pledges v_sums v_stages v_isStopped v_begun), (qarI (a 10) (d 10) 60 f_giver), (qarI (a 16) (d 16) 60 f_isLapsed), (qarI (a 17) (d 17) 60 f_wasTakenUp), (qarI (a 12) (d 12) 60 f_first), (qarI (a 13) (d 13) 60 f_every), (qarI (a 14) (d 14) 60 f_dues), (qarI (a 18) (d 18) 5040 g_due), (qarI (a 19) (d 19) 5040 f_filled), (qarI (a 20) (d 20) 5040 f_isThere), (qarI (a 21) (d 21) 5040 f_counts), (qarI (a 11) (d 11) 60 g_pence)]) (fun u => match u with | (g_pence, g_due, tP2) => []) (va_A [(cMq a h v_taped v_size v_from v_behind v_hand v_value v_fault v_faultAt v_clock v_coin v_loan v_matched v_taxed v_paidStages v_grown v_pledges v_sums v_stages v_isStopped v_begun), (qarI (a 10) (d 10) 60 f_giver), (qarI (a 16) (d 16) 60 f_isLapsed), (qarI (a 17) (d 17) 60 f_wasTakenUp), (qarI (a 12) (d 12) 60 f_first), (qarI (a 13) (d 13) 60 f_every), (qarI (a 14) (d 14) 60 f_dues), (qarI (a 18) (d 18) 5040 f_due), (qarI (a 19) (d 19) 5040 f_filled), (qarI (a 20) (d 20) 5040 f_isThere), (qarI (a 21) (d 21) 5040 f_counts), (qarI (a 11) (d 11) 60 f_pence)] sz)) (va_A [(cMq a h v_taped v_size v_from v_behind v_hand v_value v_fault v_faultAt v_clock v_coin v_loan v_matched v_taxed v_paidStages v_grown v_pledges v_sums v_stages v_isStopped v_begun), (qarI (a 10) (d 10) 60 f_giver), (qarI (a 16) (d 16) 60 f_isLapsed), (qarI (a 17) (d 17) 60 f_wasTakenUp), (qarI (a 12) (d 12) 60 f_first), (qarI (a 13) (d 13) 60 f_every), (qarI (a 14) (d 14) 60 f_dues), (qarI (a 18) (d 18) 5040 f_due), (qarI (a 19) (d 19) 5040 f_filled), (qarI (a 20) (d 20) 5040 f_isThere), (qarI (a 21) (d 21) 5040 f_counts), (qarI (a 11) (d 11) 60 f_pence)] sz)) 0 0 (va_A [(cMq a h v_taped v_size v_from v_behind v_hand v_value v_fault v_faultAt v_clock v_coin v_loan v_matched v_taxed v_paidStages v_grown v_pledges v_sums v_stages v_isStopped v_begun), (qarI (a 10) (d 10) 60 f_giver), (qarI (a 16) (d 16) 60 f_isLapsed), (qarI (a 17) (d 17) 60 f_wasTakenUp), (qarI (a 12) (d 12) 60 f_first), (qarI (a 13) (d 13) 60 f_every), (qarI (a 14) (d 14) 60 f_dues), (qarI (a 18) (d 18) 5040 f_due), (qarI (a 19) (d 19) 5040 f_filled), (qarI (a 20) (d 20) 5040 f_isThere), (qarI (a 21) (d 21) 5040 f_counts), (qarI (a 11) (d 11) 60 f_pence)] sz) := by
  refine ofC_i (cc := cX12_change) (maxL := 4) (ret := (some .int)) (by decide) rfl (Nat.le_of_ble_eq_true rfl) ?_
  intro p e s m args below meth c A ls Q F hr hin hlk St hl hQ
  have hx := F.1
  have hb := F.2.1
  have hl : lv_has ls 4 [(0, .ref h), (1, .int x1), (2, .int x2)] := hl
  have St : cS G k [(cMq a h v_taped v_size v_from v_behind v_hand v_value v_fault v_faultAt v_clock v_coin v_loan v_matched v_taxed v_paidStages v_grown v_pledges v_sums v_stages v_isStopped v_begun), (qarI (a 10) (d 10) 60 f_giver), (qarI (a 16) (d 16) 60 f_isLapsed), (qarI (a 17) (d 17) 60 f_wasTakenUp), (qarI (a 12) (d 12) 60 f_first), (qarI (a 13) (d 13) 60 f_every), (qarI (a 14) (d 14) 60 f_dues), (qarI (a 18) (d 18) 5040 f_due), (qarI (a 19) (d 19) 5040 f_filled), (qarI (a 20) (d 20) 5040 f_isThere), (qarI (a 21) (d 21) 5040 f_counts), (qarI (a 11) (d 11) 60 f_pence)] [((d 10), .int), ((d 16), .boolean), ((d 17), .boolean), ((d 12), .int), ((d 13), .int), ((d 14), .int), ((d 18), .int), ((d 19), .int), ((d 20), .boolean), ((d 21), .boolean), ((d 11), .int)] A s s.heap [] := St
  have hpd := hPd.1
  have y0 : (0 : Int32).toInt = 0 := by decide
  refine lv_aload_n hx hb dX12_change_0 rfl (lv_at hl 0 rfl) ?_
  refine lv_iload_n hx hb dX12_change_1 rfl (lv_at hl 1 rfl) ?_
  refine cs_i St [0] [1, 2, 3, 4, 5, 6, 7, 8, 9, 10, 11] (wc := [(cMq a h v_taped v_size v_from v_behind v_hand v_value v_fault v_faultAt v_clock v_coin v_loan v_matched v_taxed v_paidStages v_grown v_pledges v_sums v_stages v_isStopped v_begun)]) (wr := [(qarI (a 10) (d 10) 60 f_giver), (qarI (a 16) (d 16) 60 f_isLapsed), (qarI (a 17) (d 17) 60 f_wasTakenUp), (qarI (a 12) (d 12) 60 f_first), (qarI (a 13) (d 13) 60 f_every), (qarI (a 14) (d 14) 60 f_dues), (qarI (a 18) (d 18) 5040 f_due), (qarI (a 19) (d 19) 5040 f_filled), (qarI (a 20) (d 20) 5040 f_isThere), (qarI (a 21) (d 21) 5040 f_counts), (qarI (a 11) (d 11) 60 f_pence)]) rfl rfl (by decide) (by decide) (va_runV (As := [.int x1]) (rest := []) F (m_isPledge l G k _ h a (fun _ => default) v_taped v_size v_from v_behind v_hand v_value v_fault v_faultAt v_clock v_coin v_loan v_matched v_taxed v_paidStages v_grown v_pledges v_sums v_stages v_isStopped v_begun x1 (by omega)) (cwVt F mf_X12_isPledge km_X12_243 rfl rfl ⟨Nat.le_of_ble_eq_true rfl, Nat.le_of_ble_eq_true rfl⟩) (cs_preV St [0] rfl (by decide) [] rfl (ci := 12) (q0 := 0) rfl rfl) rfl rfl hl.1 rfl (lv_room (Nat.le_of_ble_eq_true rfl)) dX12_change_2 ⟨Nat.le_of_ble_eq_true rfl, Nat.le_of_ble_eq_true rfl⟩) (fun r_1 u_2 H locs hw St => ?_)
  try dsimp only at hw
  rcases hw with ⟨z_3, hf_4⟩ | ⟨z_5, hf_6⟩
  ·
    subst r_1
    have St : cS G k [(qarI (a 10) (d 10) 60 f_giver), (qarI (a 16) (d 16) 60 f_isLapsed), (qarI (a 17) (d 17) 60 f_wasTakenUp), (qarI (a 12) (d 12) 60 f_first), (qarI (a 13) (d 13) 60 f_every), (qarI (a 14) (d 14) 60 f_dues), (qarI (a 18) (d 18) 5040 f_due), (qarI (a 19) (d 19) 5040 f_filled), (qarI (a 20) (d 20) 5040 f_isThere), (qarI (a 21) (d 21) 5040 f_counts), (qarI (a 11) (d 11) 60 f_pence), (cMq a h v_taped v_size v_from v_behind v_hand v_value v_fault v_faultAt v_clock v_coin v_loan v_matched v_taxed v_paidStages v_grown v_pledges v_sums v_stages v_isStopped v_begun)] [((d 10), .int), ((d 16), .boolean), ((d 17), .boolean), ((d 12), .int), ((d 13), .int), ((d 14), .int), ((d 18), .int), ((d 19), .int), ((d 20), .boolean), ((d 21), .boolean), ((d 11), .int)] A s H locs := St
    refine lv_if_eq (tgt := 20) hx hb dX12_change_5 (by decide) (fun c5 => ?_) (fun c5 => ?_)
    · exact absurd c5 (by decide)
    refine lv_iload_n hx hb dX12_change_8 rfl (lv_at hl 2 rfl) ?_
    refine lv_i2l (v := x2.toInt64) hx hb dX12_change_9 rfl ?_
    refine lv_lconst (v := 1) hx hb dX12_change_10 (by decide) ?_
    refine lv_ldc2 (v := 100000) hx hb F.2.2.2.1 (F.2.2.2.2 _ kk_X12_228) dX12_change_11 ?_
    refine cs_i St [] [0, 1, 2, 3, 4, 5, 6, 7, 8, 9, 10, 11] (wc := []) (wr := [(qarI (a 10) (d 10) 60 f_giver), (qarI (a 16) (d 16) 60 f_isLapsed), (qarI (a 17) (d 17) 60 f_wasTakenUp), (qarI (a 12) (d 12) 60 f_first), (qarI (a 13) (d 13) 60 f_every), (qarI (a 14) (d 14) 60 f_dues), (qarI (a 18) (d 18) 5040 f_due), (qarI (a 19) (d 19) 5040 f_filled), (qarI (a 20) (d 20) 5040 f_isThere), (qarI (a 21) (d 21) 5040 f_counts), (qarI (a 11) (d 11) 60 f_pence), (cMq a h v_taped v_size v_from v_behind v_hand v_value v_fault v_faultAt v_clock v_coin v_loan v_matched v_taxed v_paidStages v_grown v_pledges v_sums v_stages v_isStopped v_begun)]) rfl rfl (by decide) (by decide) (va_runS (As := [.long x2.toInt64, .long 1, .long 100000]) (rest := []) F (c12_in l G k _ x2.toInt64 1 100000 x2.toInt 1 100000 (Int32.toInt_toInt64 x2) (by decide) (by decide)) (cwSt F mf_X12_in km_X12_58 rfl rfl ⟨Nat.le_of_ble_eq_true rfl, Nat.le_of_ble_eq_true rfl⟩) (cs_pre St [] rfl (by decide) [] rfl) rfl rfl hl.1 rfl (lv_room (Nat.le_of_ble_eq_true rfl)) dX12_change_14 ⟨Nat.le_of_ble_eq_true rfl, Nat.le_of_ble_eq_true rfl⟩) (fun r_7 u_8 H locs hw St => ?_)
    try dsimp only at hw
    rcases hw with ⟨z_9, hf_10⟩ | ⟨z_11, hf_12⟩
    ·
      subst r_7
      have St : cS G k [(qarI (a 10) (d 10) 60 f_giver), (qarI (a 16) (d 16) 60 f_isLapsed), (qarI (a 17) (d 17) 60 f_wasTakenUp), (qarI (a 12) (d 12) 60 f_first), (qarI (a 13) (d 13) 60 f_every), (qarI (a 14) (d 14) 60 f_dues), (qarI (a 18) (d 18) 5040 f_due), (qarI (a 19) (d 19) 5040 f_filled), (qarI (a 20) (d 20) 5040 f_isThere), (qarI (a 21) (d 21) 5040 f_counts), (qarI (a 11) (d 11) 60 f_pence), (cMq a h v_taped v_size v_from v_behind v_hand v_value v_fault v_faultAt v_clock v_coin v_loan v_matched v_taxed v_paidStages v_grown v_pledges v_sums v_stages v_isStopped v_begun)] [((d 10), .int), ((d 16), .boolean), ((d 17), .boolean), ((d 12), .int), ((d 13), .int), ((d 14), .int), ((d 18), .int), ((d 19), .int), ((d 20), .boolean), ((d 21), .boolean), ((d 11), .int)] A s H locs := St
      refine lv_if_ne (tgt := 23) hx hb dX12_change_17 (by decide) (fun c17 => ?_) (fun c17 => ?_)
      rotate_left
      · exact absurd c17 (by decide)
      have hp1 : 0 ≤ x1.toInt := by omega
      have hn1 := nc_int hp1
      have hix : (x1.toNatClampNeg : Int) < v_pledges.toInt := by omega
      have hm9 := hM.1 _ hix
      have hw9 := hA _ hix
      obtain ⟨T9, eT9⟩ : ∃ z, z = tP x1.toNatClampNeg := ⟨_, rfl⟩
      rw [← eT9] at hm9 hw9
      obtain ⟨Nn, pg, pf, pe, pl, pk, wD, wF, wS⟩ := T9
      have hR := hm9.2
      have hW := hw9.2.1
      have hL := hw9.2.2.1
      have hdd := hR.1.2.2
      have hpf := hW.1
      have hpl := hw9.1.2.2.1
      have hpi : pl.toInt = 0 ∨ pl.toInt = 1 := hpl.elim (fun h_ => Or.inl (by rw [h_]; decide)) (fun h_ => Or.inr (by rw [h_]; decide))
      have hkl := congrArg Int32.toInt hm9.1.2.1
      have hkk := congrArg Int32.toInt hm9.1.2.2
      refine lv_aload_n hx hb dX12_change_23 rfl (lv_at hl 0 rfl) ?_
      refine cs_get F St 11 rfl rfl inX12 23 (by decide) kf_X12_224 rfl dX12_change_24 ?_
      refine lv_if_ne (tgt := 39) hx hb dX12_change_27 (by decide) (fun c27 => ?_) (fun c27 => ?_)
      ·
        have i27 := ci_ne (x := v_isStopped) (y := 0) rfl (show (0 : Int32).toInt = 0 by decide) c27
        refine lv_bipush (v := (-4)) hx hb dX12_change_39 (by decide) ?_
        exact cs_iret F hr hlk hQ St (f_pence, f_due, tP) (r := (-4)) ⟨Or.inr (Or.inl ⟨rfl, by unfold Cch; omega, (by rw [← eT9]; show ¬ (_ ∧ pl.toInt = 0); omega), rfl⟩), hM, hA⟩ [11, 0, 1, 2, 3, 4, 5, 6, 7, 8, 9, 10] rfl (by decide) [] rfl (by decide) (by decide) dX12_change_41
      ·
        have i27 := ci_eq (x := v_isStopped) (y := 0) rfl (show (0 : Int32).toInt = 0 by decide) c27
        refine lv_aload_n hx hb dX12_change_30 rfl (lv_at hl 0 rfl) ?_
        refine cs_get F St 11 rfl rfl inX12 35 (by decide) kf_X12_153 rfl dX12_change_31 ?_
        refine lv_iload_n hx hb dX12_change_34 rfl (lv_at hl 1 rfl) ?_
        refine cs_zld F St 1 1 rfl rfl (vp_in_iff.mpr ⟨by omega, by omega⟩) dX12_change_35 ?_
        refine lv_topi (fun y_13 ey_13 => ?_)
        have gy_13 := congrArg Int32.toInt ey_13
        refine lv_if_eq (tgt := 42) hx hb dX12_change_36 (by decide) (fun c36 => ?_) (fun c36 => ?_)
        ·
          have i36 := ci_eq (x := y_13) (y := 0) rfl (show (0 : Int32).toInt = 0 by decide) c36
          refine lv_aload_n hx hb dX12_change_42 rfl (lv_at hl 0 rfl) ?_
          refine cs_get F St 11 rfl rfl inX12 30 (by decide) kf_X12_138 rfl dX12_change_43 ?_
          refine lv_iload_n hx hb dX12_change_46 rfl (lv_at hl 1 rfl) ?_
          refine lv_iload_n hx hb dX12_change_47 rfl (lv_at hl 2 rfl) ?_
          refine cs_ist F St 10 10 rfl rfl (vp_in_iff.mpr ⟨by omega, by omega⟩) (w' := [(qarI (a 10) (d 10) 60 f_giver), (qarI (a 16) (d 16) 60 f_isLapsed), (qarI (a 17) (d 17) 60 f_wasTakenUp), (qarI (a 12) (d 12) 60 f_first), (qarI (a 13) (d 13) 60 f_every), (qarI (a 14) (d 14) 60 f_dues), (qarI (a 18) (d 18) 5040 f_due), (qarI (a 19) (d 19) 5040 f_filled), (qarI (a 20) (d 20) 5040 f_isThere), (qarI (a 21) (d 21) 5040 f_counts), (qarI (a 11) (d 11) 60 (upd f_pence (x1 : Int32).toNatClampNeg x2)), (cMq a h v_taped v_size v_from v_behind v_hand v_value v_fault v_faultAt v_clock v_coin v_loan v_matched v_taxed v_paidStages v_grown v_pledges v_sums v_stages v_isStopped v_begun)]) rfl dX12_change_48 (fun H locs St => ?_)
          obtain ⟨f_14, ef_14⟩ : ∃ zz : Nat → Int32, zz = upd f_pence (x1 : Int32).toNatClampNeg x2 := ⟨_, rfl⟩
          rw [← ef_14] at St
          refine lv_iconst (v := 0) hx hb dX12_change_49 (by decide) ?_
          refine lv_istore_n (lv' := [(3, .int 0), (0, .ref h), (1, .int x1), (2, .int x2)]) hx hb dX12_change_50 rfl hl (by decide) rfl (fun ls hl => ?_)
          have lp51 : ∀ (n : Nat) (kk : Int32) (fd : Nat → Int32) (H : Heap) (locs : List Loc) (ls : Array Slot), ((0 ≤ kk.toInt ∧ kk.toInt ≤ (f_dues x1.toNatClampNeg).toInt) ∧ sgI false fd f_due x1.toNatClampNeg Nn (cCh pf pe wF v_clock.toInt) (fun _ => x2) wD kk.toNatClampNeg) → ((85 - kk.toInt).toNat) < n → cS G k [(qarI (a 10) (d 10) 60 f_giver), (qarI (a 16) (d 16) 60 f_isLapsed), (qarI (a 17) (d 17) 60 f_wasTakenUp), (qarI (a 12) (d 12) 60 f_first), (qarI (a 13) (d 13) 60 f_every), (qarI (a 14) (d 14) 60 f_dues), (qarI (a 18) (d 18) 5040 fd), (qarI (a 19) (d 19) 5040 f_filled), (qarI (a 20) (d 20) 5040 f_isThere), (qarI (a 21) (d 21) 5040 f_counts), (qarI (a 11) (d 11) 60 f_14), (cMq a h v_taped v_size v_from v_behind v_hand v_value v_fault v_faultAt v_clock v_coin v_loan v_matched v_taxed v_paidStages v_grown v_pledges v_sums v_stages v_isStopped v_begun)] [((d 10), .int), ((d 16), .boolean), ((d 17), .boolean), ((d 12), .int), ((d 13), .int), ((d 14), .int), ((d 18), .int), ((d 19), .int), ((d 20), .boolean), ((d 21), .boolean), ((d 11), .int)] A s H locs → lv_has ls 4 [(3, .int kk), (0, .ref h), (1, .int x1), (2, .int x2)] → W p l e ({ frames := 2, cells := 0, slots := 0, locals := 46 } : Room) s m args below meth c H locs 0 0 Q (F0 m 51 ls []) := by
            intro n
            induction n with
            | zero => intro kk fd H locs ls hI hn; exact absurd hn (Nat.not_lt_zero _)
            | succ n ih =>
              intro kk fd H locs ls hI hn St hl
              obtain ⟨⟨hI0, hI1⟩, hs1⟩ := hI
              have nk := nc_int hI0
              have hml := mo_le84 (k := kk.toNatClampNeg) hpf (by omega)
              refine lv_iload_n hx hb dX12_change_51 rfl (lv_at hl 0 rfl) ?_
              refine lv_aload_n hx hb dX12_change_52 rfl (lv_at hl 1 rfl) ?_
              refine cs_get F St 11 rfl rfl inX12 33 (by decide) kf_X12_147 rfl dX12_change_53 ?_
              refine lv_iload_n hx hb dX12_change_56 rfl (lv_at hl 2 rfl) ?_
              refine cs_ild F St 5 5 rfl rfl (vp_in_iff.mpr ⟨by omega, by omega⟩) dX12_change_57 ?_
              refine lv_topi (fun y_15 ey_15 => ?_)
              have gy_15 := congrArg Int32.toInt ey_15
              have hdy_15 := mPd_d hPd (by omega) (by omega) ey_15
              refine lv_icmp_ge (tgt := 106) hx hb dX12_change_58 (by decide) (fun c58 => ?_) (fun c58 => ?_)
              ·
                have i58 := ci_le (x := y_15) (y := kk) rfl rfl c58
                refine lv_iconst (v := 1) hx hb dX12_change_106 (by decide) ?_
                exact cs_iret F hr hlk hQ St (f_14, fd, (tbS tP x1.toNatClampNeg (chT x2 v_clock.toInt (Nn, pg, pf, pe, pl, pk, wD, wF, wS)))) (r := 1) ⟨Or.inr (Or.inr ⟨rfl, by unfold Cch; omega, (by rw [← eT9]; show (_ ∧ pl.toInt = 0); omega), by rw [← eT9]⟩), mR_set hM hA hix (T := (chT x2 v_clock.toInt (Nn, pg, pf, pe, pl, pk, wD, wF, wS))) ⟨hm9.1, ch_rw hR (sg_end hs1 (by omega))⟩ hs1.2.2 sgO_r sgO_r sgO_r (fun _ _ => rfl) (fun _ _ => rfl), wfA_set hA (wf_ch hw9 (by omega) (by show pl = 0; exact Int32.toInt_inj.mp (by omega)))⟩ [11, 0, 1, 2, 3, 4, 5, 6, 7, 8, 9, 10] rfl (by decide) [] rfl (by decide) (by decide) dX12_change_107
              ·
                have i58 := ci_nle (x := y_15) (y := kk) rfl rfl c58
                refine lv_aload_n hx hb dX12_change_61 rfl (lv_at hl 1 rfl) ?_
                refine lv_iload_n hx hb dX12_change_62 rfl (lv_at hl 2 rfl) ?_
                refine lv_iload_n hx hb dX12_change_63 rfl (lv_at hl 0 rfl) ?_
                refine cs_i St [11, 3, 4] [0, 1, 2, 5, 6, 7, 8, 9, 10] (wc := [(cMq a h v_taped v_size v_from v_behind v_hand v_value v_fault v_faultAt v_clock v_coin v_loan v_matched v_taxed v_paidStages v_grown v_pledges v_sums v_stages v_isStopped v_begun), (qarI (a 12) (d 12) 60 f_first), (qarI (a 13) (d 13) 60 f_every)]) (wr := [(qarI (a 10) (d 10) 60 f_giver), (qarI (a 16) (d 16) 60 f_isLapsed), (qarI (a 17) (d 17) 60 f_wasTakenUp), (qarI (a 14) (d 14) 60 f_dues), (qarI (a 18) (d 18) 5040 fd), (qarI (a 19) (d 19) 5040 f_filled), (qarI (a 20) (d 20) 5040 f_isThere), (qarI (a 21) (d 21) 5040 f_counts), (qarI (a 11) (d 11) 60 f_14)]) rfl rfl (by decide) (by decide) (va_runV (As := [.int x1, .int kk]) (rest := []) F (e12_monthOf l G k _ h a d v_taped v_size v_from v_behind v_hand v_value v_fault v_faultAt v_clock v_coin v_loan v_matched v_taxed v_paidStages v_grown v_pledges v_sums v_stages v_isStopped v_begun f_first f_every x1 kk pf pe (by omega) (by omega) (by omega) (by omega) (⟨hR.1.1, hR.1.2.1, hW.1⟩)) (cwVt F mf_X12_monthOf km_X12_240 rfl rfl ⟨Nat.le_of_ble_eq_true rfl, Nat.le_of_ble_eq_true rfl⟩) (cs_preV St [11, 3, 4] rfl (by decide) [3, 4] rfl (ci := 12) (q0 := 11) rfl rfl) rfl rfl hl.1 rfl (lv_room (Nat.le_of_ble_eq_true rfl)) dX12_change_64 ⟨Nat.le_of_ble_eq_true rfl, Nat.le_of_ble_eq_true rfl⟩) (fun r_16 u_17 H locs hw St => ?_)
                try dsimp only at hw
                have hm_18 := hw
                have St : cS G k [(qarI (a 10) (d 10) 60 f_giver), (qarI (a 16) (d 16) 60 f_isLapsed), (qarI (a 17) (d 17) 60 f_wasTakenUp), (qarI (a 14) (d 14) 60 f_dues), (qarI (a 18) (d 18) 5040 fd), (qarI (a 19) (d 19) 5040 f_filled), (qarI (a 20) (d 20) 5040 f_isThere), (qarI (a 21) (d 21) 5040 f_counts), (qarI (a 11) (d 11) 60 f_14), (cMq a h v_taped v_size v_from v_behind v_hand v_value v_fault v_faultAt v_clock v_coin v_loan v_matched v_taxed v_paidStages v_grown v_pledges v_sums v_stages v_isStopped v_begun), (qarI (a 12) (d 12) 60 f_first), (qarI (a 13) (d 13) 60 f_every)] [((d 10), .int), ((d 16), .boolean), ((d 17), .boolean), ((d 12), .int), ((d 13), .int), ((d 14), .int), ((d 18), .int), ((d 19), .int), ((d 20), .boolean), ((d 21), .boolean), ((d 11), .int)] A s H locs := St
                refine lv_aload_n hx hb dX12_change_67 rfl (lv_at hl 1 rfl) ?_
                refine cs_get F St 9 rfl rfl inX12 13 (by decide) kf_X12_230 rfl dX12_change_68 ?_
                refine lv_icmp_le (tgt := 100) hx hb dX12_change_71 (by decide) (fun c71 => ?_) (fun c71 => ?_)
                ·
                  have i71 := ci_le (x := r_16) (y := v_clock) rfl rfl c71
                  obtain ⟨y_19, ey_19⟩ : ∃ zz : Int32, zz = kk + 1 := ⟨_, rfl⟩
                  first | have jy_19 : y_19.toInt = kk.toInt + 1 := (by have q9 := ci_add (x := kk) rfl (show (1 : Int32).toInt = 1 by decide) ey_19; omega) | have jy_19 := ci_add (x := kk) rfl (show (1 : Int32).toInt = 1 by decide) ey_19
                  refine lv_iinc (v := y_19) (lv' := [(3, .int y_19), (0, .ref h), (1, .int x1), (2, .int x2)]) hx hb dX12_change_100 hl (k := 0) rfl (by rw [ey_19]; rfl) (by decide) rfl (fun ls hl => ?_)
                  refine lv_goto (tgt := 51) hx hb dX12_change_103 (by decide) ?_
                  exact ih y_19 fd _ _ _ ⟨⟨by omega, by omega⟩, sg_N hI0 hs1 (by omega) (fun a_ b_ => absurd (of_decide_eq_true b_) (by omega))⟩ (by omega) (cs_pick St [0, 1, 2, 10, 11, 3, 4, 5, 6, 7, 8, 9] rfl (by decide) [0, 1, 2, 3, 4, 5, 6, 7, 8, 9, 10] rfl) (lv_sub hl [0, 1, 2, 3] rfl)
                ·
                  have i71 := ci_nle (x := r_16) (y := v_clock) rfl rfl c71
                  refine lv_aload_n hx hb dX12_change_74 rfl (lv_at hl 1 rfl) ?_
                  refine cs_get F St 9 rfl rfl inX12 38 (by decide) kf_X12_162 rfl dX12_change_75 ?_
                  refine lv_bipush (v := 84) hx hb dX12_change_78 (by decide) ?_
                  refine lv_iload_n hx hb dX12_change_80 rfl (lv_at hl 2 rfl) ?_
                  refine lv_imul hx hb dX12_change_81 ?_
                  refine lv_topi (fun y_20 ey_20 => ?_)
                  first | have jy_20 : y_20.toInt = 84 * x1.toInt := (by have q9 := ci_mul (x := 84) (y := x1) (show (84 : Int32).toInt = 84 by decide) rfl ey_20; omega) | have jy_20 := ci_mul (x := 84) (y := x1) (show (84 : Int32).toInt = 84 by decide) rfl ey_20
                  refine lv_iload_n hx hb dX12_change_82 rfl (lv_at hl 0 rfl) ?_
                  refine lv_iadd hx hb dX12_change_83 ?_
                  refine lv_topi (fun y_21 ey_21 => ?_)
                  first | have jy_21 : y_21.toInt = y_20.toInt + kk.toInt := (by have q9 := ci_add (x := y_20) (y := kk) rfl rfl ey_21; omega) | have jy_21 := ci_add (x := y_20) (y := kk) rfl rfl ey_21
                  have hky_21 := rw_K hR (kk := kk) (iy := y_21) (by omega) (by omega) (by omega) (by omega)
                  refine cs_ild F St 5 7 rfl rfl (vp_in_iff.mpr ⟨by omega, by omega⟩) dX12_change_84 ?_
                  refine lv_topi (fun y_22 ey_22 => ?_)
                  have gy_22 := congrArg Int32.toInt ey_22
                  refine lv_if_ne (tgt := 100) hx hb dX12_change_85 (by decide) (fun c85 => ?_) (fun c85 => ?_)
                  ·
                    have i85 := ci_ne (x := y_22) (y := 0) rfl (show (0 : Int32).toInt = 0 by decide) c85
                    obtain ⟨y_23, ey_23⟩ : ∃ zz : Int32, zz = kk + 1 := ⟨_, rfl⟩
                    first | have jy_23 : y_23.toInt = kk.toInt + 1 := (by have q9 := ci_add (x := kk) rfl (show (1 : Int32).toInt = 1 by decide) ey_23; omega) | have jy_23 := ci_add (x := kk) rfl (show (1 : Int32).toInt = 1 by decide) ey_23
                    refine lv_iinc (v := y_23) (lv' := [(3, .int y_23), (0, .ref h), (1, .int x1), (2, .int x2)]) hx hb dX12_change_100 hl (k := 0) rfl (by rw [ey_23]; rfl) (by decide) rfl (fun ls hl => ?_)
                    refine lv_goto (tgt := 51) hx hb dX12_change_103 (by decide) ?_
                    exact ih y_23 fd _ _ _ ⟨⟨by omega, by omega⟩, sg_N hI0 hs1 (by omega) (fun a_ b_ => absurd (of_decide_eq_true b_) (by omega))⟩ (by omega) (cs_pick St [0, 1, 2, 10, 11, 3, 4, 5, 6, 7, 8, 9] rfl (by decide) [0, 1, 2, 3, 4, 5, 6, 7, 8, 9, 10] rfl) (lv_sub hl [0, 1, 2, 3] rfl)
                  ·
                    have i85 := ci_eq (x := y_22) (y := 0) rfl (show (0 : Int32).toInt = 0 by decide) c85
                    refine lv_aload_n hx hb dX12_change_88 rfl (lv_at hl 1 rfl) ?_
                    refine cs_get F St 9 rfl rfl inX12 37 (by decide) kf_X12_159 rfl dX12_change_89 ?_
                    refine lv_bipush (v := 84) hx hb dX12_change_92 (by decide) ?_
                    refine lv_iload_n hx hb dX12_change_94 rfl (lv_at hl 2 rfl) ?_
                    refine lv_imul hx hb dX12_change_95 ?_
                    refine lv_topi (fun y_24 ey_24 => ?_)
                    first | have jy_24 : y_24.toInt = 84 * x1.toInt := (by have q9 := ci_mul (x := 84) (y := x1) (show (84 : Int32).toInt = 84 by decide) rfl ey_24; omega) | have jy_24 := ci_mul (x := 84) (y := x1) (show (84 : Int32).toInt = 84 by decide) rfl ey_24
                    refine lv_iload_n hx hb dX12_change_96 rfl (lv_at hl 0 rfl) ?_
                    refine lv_iadd hx hb dX12_change_97 ?_
                    refine lv_topi (fun y_25 ey_25 => ?_)
                    first | have jy_25 : y_25.toInt = y_24.toInt + kk.toInt := (by have q9 := ci_add (x := y_24) (y := kk) rfl rfl ey_25; omega) | have jy_25 := ci_add (x := y_24) (y := kk) rfl rfl ey_25
                    refine lv_iload_n hx hb dX12_change_98 rfl (lv_at hl 3 rfl) ?_
                    refine cs_ist F St 4 6 rfl rfl (vp_in_iff.mpr ⟨by omega, by omega⟩) (w' := [(qarI (a 10) (d 10) 60 f_giver), (qarI (a 16) (d 16) 60 f_isLapsed), (qarI (a 17) (d 17) 60 f_wasTakenUp), (qarI (a 14) (d 14) 60 f_dues), (qarI (a 18) (d 18) 5040 (upd fd (y_25 : Int32).toNatClampNeg x2)), (qarI (a 19) (d 19) 5040 f_filled), (qarI (a 20) (d 20) 5040 f_isThere), (qarI (a 21) (d 21) 5040 f_counts), (qarI (a 11) (d 11) 60 f_14), (cMq a h v_taped v_size v_from v_behind v_hand v_value v_fault v_faultAt v_clock v_coin v_loan v_matched v_taxed v_paidStages v_grown v_pledges v_sums v_stages v_isStopped v_begun), (qarI (a 12) (d 12) 60 f_first), (qarI (a 13) (d 13) 60 f_every)]) rfl dX12_change_99 (fun H locs St => ?_)
                    obtain ⟨f_26, ef_26⟩ : ∃ zz : Nat → Int32, zz = upd fd (y_25 : Int32).toNatClampNeg x2 := ⟨_, rfl⟩
                    rw [← ef_26] at St
                    obtain ⟨y_27, ey_27⟩ : ∃ zz : Int32, zz = kk + 1 := ⟨_, rfl⟩
                    first | have jy_27 : y_27.toInt = kk.toInt + 1 := (by have q9 := ci_add (x := kk) rfl (show (1 : Int32).toInt = 1 by decide) ey_27; omega) | have jy_27 := ci_add (x := kk) rfl (show (1 : Int32).toInt = 1 by decide) ey_27
                    refine lv_iinc (v := y_27) (lv' := [(3, .int y_27), (0, .ref h), (1, .int x1), (2, .int x2)]) hx hb dX12_change_100 hl (k := 0) rfl (by rw [ey_27]; rfl) (by decide) rfl (fun ls hl => ?_)
                    refine lv_goto (tgt := 51) hx hb dX12_change_103 (by decide) ?_
                    exact ih y_27 f_26 _ _ _ ⟨⟨by omega, by omega⟩, by rw [ef_26]; exact sg_Y hp1 hI0 hs1 (by omega) (by omega) (by omega) (fun a_ => ⟨decide_eq_true (by omega), rfl⟩) (fun z_ => absurd z_ (by decide))⟩ (by omega) (cs_pick St [0, 1, 2, 10, 11, 3, 4, 5, 6, 7, 8, 9] rfl (by decide) [0, 1, 2, 3, 4, 5, 6, 7, 8, 9, 10] rfl) (lv_sub hl [0, 1, 2, 3] rfl)
          exact lp51 86 0 f_due _ _ _ ⟨⟨by omega, by omega⟩, sg_0 (fun j_ h_ => (hR.2.1 j_ h_).1) (fun z_ => absurd z_ (by decide))⟩ (by omega) St (lv_sub hl [0, 1, 2, 3] rfl)
        ·
          have i36 := ci_ne (x := y_13) (y := 0) rfl (show (0 : Int32).toInt = 0 by decide) c36
          refine lv_bipush (v := (-4)) hx hb dX12_change_39 (by decide) ?_
          exact cs_iret F hr hlk hQ St (f_pence, f_due, tP) (r := (-4)) ⟨Or.inr (Or.inl ⟨rfl, by unfold Cch; omega, (by rw [← eT9]; show ¬ (_ ∧ pl.toInt = 0); omega), rfl⟩), hM, hA⟩ [11, 0, 1, 2, 3, 4, 5, 6, 7, 8, 9, 10] rfl (by decide) [] rfl (by decide) (by decide) dX12_change_41
    ·
      subst r_7
      have St : cS G k [(qarI (a 10) (d 10) 60 f_giver), (qarI (a 16) (d 16) 60 f_isLapsed), (qarI (a 17) (d 17) 60 f_wasTakenUp), (qarI (a 12) (d 12) 60 f_first), (qarI (a 13) (d 13) 60 f_every), (qarI (a 14) (d 14) 60 f_dues), (qarI (a 18) (d 18) 5040 f_due), (qarI (a 19) (d 19) 5040 f_filled), (qarI (a 20) (d 20) 5040 f_isThere), (qarI (a 21) (d 21) 5040 f_counts), (qarI (a 11) (d 11) 60 f_pence), (cMq a h v_taped v_size v_from v_behind v_hand v_value v_fault v_faultAt v_clock v_coin v_loan v_matched v_taxed v_paidStages v_grown v_pledges v_sums v_stages v_isStopped v_begun)] [((d 10), .int), ((d 16), .boolean), ((d 17), .boolean), ((d 12), .int), ((d 13), .int), ((d 14), .int), ((d 18), .int), ((d 19), .int), ((d 20), .boolean), ((d 21), .boolean), ((d 11), .int)] A s H locs := St
      refine lv_if_ne (tgt := 23) hx hb dX12_change_17 (by decide) (fun c17 => ?_) (fun c17 => ?_)
      · exact absurd c17 (by decide)
      refine lv_bipush (v := (-2)) hx hb dX12_change_20 (by decide) ?_
      exact cs_iret F hr hlk hQ St (f_pence, f_due, tP) (r := (-2)) ⟨Or.inl ⟨rfl, by unfold Cch; omega, rfl⟩, hM, hA⟩ [11, 0, 1, 2, 3, 4, 5, 6, 7, 8, 9, 10] rfl (by decide) [] rfl (by decide) (by decide) dX12_change_22
  ·
    subst r_1
    have St : cS G k [(qarI (a 10) (d 10) 60 f_giver), (qarI (a 16) (d 16) 60 f_isLapsed), (qarI (a 17) (d 17) 60 f_wasTakenUp), (qarI (a 12) (d 12) 60 f_first), (qarI (a 13) (d 13) 60 f_every), (qarI (a 14) (d 14) 60 f_dues), (qarI (a 18) (d 18) 5040 f_due), (qarI (a 19) (d 19) 5040 f_filled), (qarI (a 20) (d 20) 5040 f_isThere), (qarI (a 21) (d 21) 5040 f_counts), (qarI (a 11) (d 11) 60 f_pence), (cMq a h v_taped v_size v_from v_behind v_hand v_value v_fault v_faultAt v_clock v_coin v_loan v_matched v_taxed v_paidStages v_grown v_pledges v_sums v_stages v_isStopped v_begun)] [((d 10), .int), ((d 16), .boolean), ((d 17), .boolean), ((d 12), .int), ((d 13), .int), ((d 14), .int), ((d 18), .int), ((d 19), .int), ((d 20), .boolean), ((d 21), .boolean), ((d 11), .int)] A s H locs := St
    refine lv_if_eq (tgt := 20) hx hb dX12_change_5 (by decide) (fun c5 => ?_) (fun c5 => ?_)
    rotate_left
    · exact absurd (by decide) c5
    refine lv_bipush (v := (-2)) hx hb dX12_change_20 (by decide) ?_
    exact cs_iret F hr hlk hQ St (f_pence, f_due, tP) (r := (-2)) ⟨Or.inl ⟨rfl, by unfold Cch; omega, rfl⟩, hM, hA⟩ [11, 0, 1, 2, 3, 4, 5, 6, 7, 8, 9, 10] rfl (by decide) [] rfl (by decide) (by decide) dX12_change_22
set_option maxHeartbeats 4000000 in
set_option maxRecDepth 100000 in
theorem e12_takeUp (l : Launch) (G : va_G) (k : Nat → Nat) (sz : Nat) (h : Nat) (a : Nat → Nat) (d : Nat → ClassId) (v_taped : Int32) (v_size : Int32) (v_from : Int32) (v_behind : Int32) (v_hand : Int32) (v_value : Int32) (v_fault : Int32) (v_faultAt : Int32) (v_clock : Int32) (v_coin : Int32) (v_loan : Int32) (v_matched : Int32) (v_taxed : Int32) (v_paidStages : Int32) (v_grown : Int32) (v_pledges : Int32) (v_sums : Int32) (v_stages : Int32) (v_isStopped : Int32) (v_begun : Int32) (f_giver : Nat → Int32) (f_isLapsed : Nat → Int32) (f_wasTakenUp : Nat → Int32) (f_first : Nat → Int32) (f_every : Nat → Int32) (f_dues : Nat → Int32) (f_due : Nat → Int32) (f_filled : Nat → Int32) (f_isThere : Nat → Int32) (f_counts : Nat → Int32) (x1 : Int32) (hPd : mPd v_pledges f_dues) (tP : Nat → Pl9) (hM : mR v_pledges (tP) f_giver f_isLapsed f_wasTakenUp f_first f_every f_dues f_due f_filled f_isThere f_counts) (hA : wfA v_pledges v_clock.toInt tP) : Met l yX12_takeUp (Cond.code yX12_takeUp cX12_takeUp 3 (some .int) :: tb) ({ frames := 2, cells := 0, slots := 0, locals := 46 } : Room) (va_Pc [.ref h, .int x1] (cP G k [(cMq a h v_taped v_size v_from v_behind v_hand v_value v_fault v_faultAt v_clock v_coin v_loan v_matched v_taxed v_paidStages v_grown v_pledges v_sums v_stages v_isStopped v_begun), (qarI (a 10) (d 10) 60 f_giver), (qarI (a 16) (d 16) 60 f_isLapsed), (qarI (a 17) (d 17) 60 f_wasTakenUp), (qarI (a 12) (d 12) 60 f_first), (qarI (a 13) (d 13) 60 f_every), (qarI (a 14) (d 14) 60 f_dues), (qarI (a 18) (d 18) 5040 f_due), (qarI (a 19) (d 19) 5040 f_filled), (qarI (a 20) (d 20) 5040 f_isThere), (qarI (a 21) (d 21) 5040 f_counts)] [((d 10), .int), ((d 16), .boolean), ((d 17), .boolean), ((d 12), .int), ((d 13), .int), ((d 14), .int), ((d 18), .int), ((d 19), .int), ((d 20), .boolean), ((d 21), .boolean)] sz)) (va_Qi (fun (r : Int32) (u : (Nat → Int32) × (Nat → Int32) × (Nat → Int32) × (Nat → Int32) × (Nat → Pl9)) => match u with | (g_isLapsed, g_wasTakenUp, g_isThere, g_counts, tP2) => (Rtku v_isStopped v_pledges v_clock.toInt x1 tP r tP2) ∧ (mR v_pledges (tP2) f_giver g_isLapsed g_wasTakenUp f_first f_every f_dues f_due f_filled g_isThere g_counts) ∧ (wfA v_pledges v_clock.toInt tP2)) (cB G (fun u => match u with | (g_isLapsed, g_wasTakenUp, g_isThere, g_counts, tP2) => [(cMq a h v_taped v_size v_from v_behind v_hand v_value v_fault v_faultAt v_clock v_coin v_loan v_matched v_taxed v_paidStages v_grown v_pledges v_sums v_stages v_isStopped v_begun), (qarI (a 10) (d 10) 60 f_giver), (qarI (a 16) (d 16) 60 g_isLapsed), (qarI (a 17) (d 17) 60 g_wasTakenUp), (qarI (a 12) (d 12) 60 f_first), (qarI (a 13) (d 13) 60 f_every), (qarI (a 14) (d 14) 60 f_dues), (qarI (a 18) (d 18) 5040 f_due), (qarI (a 19) (d 19) 5040 f_filled), (qarI (a 20) (d 20) 5040 g_isThere), (qarI (a 21) (d 21) 5040 g_counts)]) (fun u => match u with | (g_isLapsed, g_wasTakenUp, g_isThere, g_counts, tP2) => []) (va_A [(cMq a h v_taped v_size v_from v_behind v_hand v_value v_fault v_faultAt v_clock v_coin v_loan v_matched v_taxed v_paidStages v_grown v_pledges v_sums v_stages v_isStopped v_begun), (qarI (a 10) (d 10) 60 f_giver), (qarI (a 16) (d 16) 60 f_isLapsed), (qarI (a 17) (d 17) 60 f_wasTakenUp), (qarI (a 12) (d 12) 60 f_first), (qarI (a 13) (d 13) 60 f_every), (qarI (a 14) (d 14) 60 f_dues), (qarI (a 18) (d 18) 5040 f_due), (qarI (a 19) (d 19) 5040 f_filled), (qarI (a 20) (d 20) 5040 f_isThere), (qarI (a 21) (d 21) 5040 f_counts)] sz)) (va_A [(cMq a h v_taped v_size v_from v_behind v_hand v_value v_fault v_faultAt v_clock v_coin v_loan v_matched v_taxed v_paidStages v_grown v_pledges v_sums v_stages v_isStopped v_begun), (qarI (a 10) (d 10) 60 f_giver), (qarI (a 16) (d 16) 60 f_isLapsed), (qarI (a 17) (d 17) 60 f_wasTakenUp), (qarI (a 12) (d 12) 60 f_first), (qarI (a 13) (d 13) 60 f_every), (qarI (a 14) (d 14) 60 f_dues), (qarI (a 18) (d 18) 5040 f_due), (qarI (a 19) (d 19) 5040 f_filled), (qarI (a 20) (d 20) 5040 f_isThere), (qarI (a 21) (d 21) 5040 f_counts)] sz)) 0 0 (va_A [(cMq a h v_taped v_size v_from v_behind v_hand v_value v_fault v_faultAt v_clock v_coin v_loan v_matched v_taxed v_paidStages v_grown v_pledges v_sums v_stages v_isStopped v_begun), (qarI (a 10) (d 10) 60 f_giver), (qarI (a 16) (d 16) 60 f_isLapsed), (qarI (a 17) (d 17) 60 f_wasTakenUp), (qarI (a 12) (d 12) 60 f_first), (qarI (a 13) (d 13) 60 f_every), (qarI (a 14) (d 14) 60 f_dues), (qarI (a 18) (d 18) 5040 f_due), (qarI (a 19) (d 19) 5040 f_filled), (qarI (a 20) (d 20) 5040 f_isThere), (qarI (a 21) (d 21) 5040 f_counts)] sz) := by
  refine ofC_i (cc := cX12_takeUp) (maxL := 3) (ret := (some .int)) (by decide) rfl (Nat.le_of_ble_eq_true rfl) ?_
  intro p e s m args below meth c A ls Q F hr hin hlk St hl hQ
  have hx := F.1
  have hb := F.2.1
  have hl : lv_has ls 3 [(0, .ref h), (1, .int x1)] := hl
  have St : cS G k [(cMq a h v_taped v_size v_from v_behind v_hand v_value v_fault v_faultAt v_clock v_coin v_loan v_matched v_taxed v_paidStages v_grown v_pledges v_sums v_stages v_isStopped v_begun), (qarI (a 10) (d 10) 60 f_giver), (qarI (a 16) (d 16) 60 f_isLapsed), (qarI (a 17) (d 17) 60 f_wasTakenUp), (qarI (a 12) (d 12) 60 f_first), (qarI (a 13) (d 13) 60 f_every), (qarI (a 14) (d 14) 60 f_dues), (qarI (a 18) (d 18) 5040 f_due), (qarI (a 19) (d 19) 5040 f_filled), (qarI (a 20) (d 20) 5040 f_isThere), (qarI (a 21) (d 21) 5040 f_counts)] [((d 10), .int), ((d 16), .boolean), ((d 17), .boolean), ((d 12), .int), ((d 13), .int), ((d 14), .int), ((d 18), .int), ((d 19), .int), ((d 20), .boolean), ((d 21), .boolean)] A s s.heap [] := St
  have hpd := hPd.1
  have y0 : (0 : Int32).toInt = 0 := by decide
  refine lv_aload_n hx hb dX12_takeUp_0 rfl (lv_at hl 0 rfl) ?_
  refine lv_iload_n hx hb dX12_takeUp_1 rfl (lv_at hl 1 rfl) ?_
  refine cs_i St [0] [1, 2, 3, 4, 5, 6, 7, 8, 9, 10] (wc := [(cMq a h v_taped v_size v_from v_behind v_hand v_value v_fault v_faultAt v_clock v_coin v_loan v_matched v_taxed v_paidStages v_grown v_pledges v_sums v_stages v_isStopped v_begun)]) (wr := [(qarI (a 10) (d 10) 60 f_giver), (qarI (a 16) (d 16) 60 f_isLapsed), (qarI (a 17) (d 17) 60 f_wasTakenUp), (qarI (a 12) (d 12) 60 f_first), (qarI (a 13) (d 13) 60 f_every), (qarI (a 14) (d 14) 60 f_dues), (qarI (a 18) (d 18) 5040 f_due), (qarI (a 19) (d 19) 5040 f_filled), (qarI (a 20) (d 20) 5040 f_isThere), (qarI (a 21) (d 21) 5040 f_counts)]) rfl rfl (by decide) (by decide) (va_runV (As := [.int x1]) (rest := []) F (m_isPledge l G k _ h a (fun _ => default) v_taped v_size v_from v_behind v_hand v_value v_fault v_faultAt v_clock v_coin v_loan v_matched v_taxed v_paidStages v_grown v_pledges v_sums v_stages v_isStopped v_begun x1 (by omega)) (cwVt F mf_X12_isPledge km_X12_243 rfl rfl ⟨Nat.le_of_ble_eq_true rfl, Nat.le_of_ble_eq_true rfl⟩) (cs_preV St [0] rfl (by decide) [] rfl (ci := 12) (q0 := 0) rfl rfl) rfl rfl hl.1 rfl (lv_room (Nat.le_of_ble_eq_true rfl)) dX12_takeUp_2 ⟨Nat.le_of_ble_eq_true rfl, Nat.le_of_ble_eq_true rfl⟩) (fun r_1 u_2 H locs hw St => ?_)
  try dsimp only at hw
  rcases hw with ⟨z_3, hf_4⟩ | ⟨z_5, hf_6⟩
  ·
    subst r_1
    have St : cS G k [(qarI (a 10) (d 10) 60 f_giver), (qarI (a 16) (d 16) 60 f_isLapsed), (qarI (a 17) (d 17) 60 f_wasTakenUp), (qarI (a 12) (d 12) 60 f_first), (qarI (a 13) (d 13) 60 f_every), (qarI (a 14) (d 14) 60 f_dues), (qarI (a 18) (d 18) 5040 f_due), (qarI (a 19) (d 19) 5040 f_filled), (qarI (a 20) (d 20) 5040 f_isThere), (qarI (a 21) (d 21) 5040 f_counts), (cMq a h v_taped v_size v_from v_behind v_hand v_value v_fault v_faultAt v_clock v_coin v_loan v_matched v_taxed v_paidStages v_grown v_pledges v_sums v_stages v_isStopped v_begun)] [((d 10), .int), ((d 16), .boolean), ((d 17), .boolean), ((d 12), .int), ((d 13), .int), ((d 14), .int), ((d 18), .int), ((d 19), .int), ((d 20), .boolean), ((d 21), .boolean)] A s H locs := St
    refine lv_if_ne (tgt := 11) hx hb dX12_takeUp_5 (by decide) (fun c5 => ?_) (fun c5 => ?_)
    rotate_left
    · exact absurd c5 (by decide)
    have hp1 : 0 ≤ x1.toInt := by omega
    have hn1 := nc_int hp1
    have hix : (x1.toNatClampNeg : Int) < v_pledges.toInt := by omega
    have hm9 := hM.1 _ hix
    have hw9 := hA _ hix
    obtain ⟨T9, eT9⟩ : ∃ z, z = tP x1.toNatClampNeg := ⟨_, rfl⟩
    rw [← eT9] at hm9 hw9
    obtain ⟨Nn, pg, pf, pe, pl, pk, wD, wF, wS⟩ := T9
    have hR := hm9.2
    have hW := hw9.2.1
    have hL := hw9.2.2.1
    have hdd := hR.1.2.2
    have hpf := hW.1
    have hpl := hw9.1.2.2.1
    have hpi : pl.toInt = 0 ∨ pl.toInt = 1 := hpl.elim (fun h_ => Or.inl (by rw [h_]; decide)) (fun h_ => Or.inr (by rw [h_]; decide))
    have hkl := congrArg Int32.toInt hm9.1.2.1
    have hkk := congrArg Int32.toInt hm9.1.2.2
    have hpki : pk.toInt = 0 ∨ pk.toInt = 1 := hw9.1.2.2.2.elim (fun h_ => Or.inl (by rw [h_]; decide)) (fun h_ => Or.inr (by rw [h_]; decide))
    refine lv_aload_n hx hb dX12_takeUp_11 rfl (lv_at hl 0 rfl) ?_
    refine cs_get F St 10 rfl rfl inX12 23 (by decide) kf_X12_224 rfl dX12_takeUp_12 ?_
    refine lv_if_ne (tgt := 36) hx hb dX12_takeUp_15 (by decide) (fun c15 => ?_) (fun c15 => ?_)
    ·
      have i15 := ci_ne (x := v_isStopped) (y := 0) rfl (show (0 : Int32).toInt = 0 by decide) c15
      refine lv_bipush (v := (-4)) hx hb dX12_takeUp_36 (by decide) ?_
      exact cs_iret F hr hlk hQ St (f_isLapsed, f_wasTakenUp, f_isThere, f_counts, tP) (r := (-4)) ⟨Or.inr (Or.inl ⟨rfl, by unfold Cpl; omega, (by rw [← eT9]; show ¬ (_ ∧ pl.toInt = 1 ∧ pk.toInt = 0); omega), rfl⟩), hM, hA⟩ [10, 0, 1, 2, 3, 4, 5, 6, 7, 8, 9] rfl (by decide) [] rfl (by decide) (by decide) dX12_takeUp_38
    ·
      have i15 := ci_eq (x := v_isStopped) (y := 0) rfl (show (0 : Int32).toInt = 0 by decide) c15
      refine lv_aload_n hx hb dX12_takeUp_18 rfl (lv_at hl 0 rfl) ?_
      refine cs_get F St 10 rfl rfl inX12 35 (by decide) kf_X12_153 rfl dX12_takeUp_19 ?_
      refine lv_iload_n hx hb dX12_takeUp_22 rfl (lv_at hl 1 rfl) ?_
      refine cs_zld F St 1 1 rfl rfl (vp_in_iff.mpr ⟨by omega, by omega⟩) dX12_takeUp_23 ?_
      refine lv_topi (fun y_7 ey_7 => ?_)
      have gy_7 := congrArg Int32.toInt ey_7
      refine lv_if_eq (tgt := 36) hx hb dX12_takeUp_24 (by decide) (fun c24 => ?_) (fun c24 => ?_)
      ·
        have i24 := ci_eq (x := y_7) (y := 0) rfl (show (0 : Int32).toInt = 0 by decide) c24
        refine lv_bipush (v := (-4)) hx hb dX12_takeUp_36 (by decide) ?_
        exact cs_iret F hr hlk hQ St (f_isLapsed, f_wasTakenUp, f_isThere, f_counts, tP) (r := (-4)) ⟨Or.inr (Or.inl ⟨rfl, by unfold Cpl; omega, (by rw [← eT9]; show ¬ (_ ∧ pl.toInt = 1 ∧ pk.toInt = 0); omega), rfl⟩), hM, hA⟩ [10, 0, 1, 2, 3, 4, 5, 6, 7, 8, 9] rfl (by decide) [] rfl (by decide) (by decide) dX12_takeUp_38
      ·
        have i24 := ci_ne (x := y_7) (y := 0) rfl (show (0 : Int32).toInt = 0 by decide) c24
        refine lv_aload_n hx hb dX12_takeUp_27 rfl (lv_at hl 0 rfl) ?_
        refine cs_get F St 10 rfl rfl inX12 36 (by decide) kf_X12_156 rfl dX12_takeUp_28 ?_
        refine lv_iload_n hx hb dX12_takeUp_31 rfl (lv_at hl 1 rfl) ?_
        refine cs_zld F St 2 2 rfl rfl (vp_in_iff.mpr ⟨by omega, by omega⟩) dX12_takeUp_32 ?_
        refine lv_topi (fun y_8 ey_8 => ?_)
        have gy_8 := congrArg Int32.toInt ey_8
        refine lv_if_eq (tgt := 39) hx hb dX12_takeUp_33 (by decide) (fun c33 => ?_) (fun c33 => ?_)
        ·
          have i33 := ci_eq (x := y_8) (y := 0) rfl (show (0 : Int32).toInt = 0 by decide) c33
          refine lv_aload_n hx hb dX12_takeUp_39 rfl (lv_at hl 0 rfl) ?_
          refine cs_get F St 10 rfl rfl inX12 35 (by decide) kf_X12_153 rfl dX12_takeUp_40 ?_
          refine lv_iload_n hx hb dX12_takeUp_43 rfl (lv_at hl 1 rfl) ?_
          refine lv_iconst (v := 0) hx hb dX12_takeUp_44 (by decide) ?_
          refine cs_zst F St 1 1 rfl rfl (vp_in_iff.mpr ⟨by omega, by omega⟩) (w' := [(qarI (a 10) (d 10) 60 f_giver), (qarI (a 16) (d 16) 60 (upd f_isLapsed (x1 : Int32).toNatClampNeg (vp_nar .boolean 0))), (qarI (a 17) (d 17) 60 f_wasTakenUp), (qarI (a 12) (d 12) 60 f_first), (qarI (a 13) (d 13) 60 f_every), (qarI (a 14) (d 14) 60 f_dues), (qarI (a 18) (d 18) 5040 f_due), (qarI (a 19) (d 19) 5040 f_filled), (qarI (a 20) (d 20) 5040 f_isThere), (qarI (a 21) (d 21) 5040 f_counts), (cMq a h v_taped v_size v_from v_behind v_hand v_value v_fault v_faultAt v_clock v_coin v_loan v_matched v_taxed v_paidStages v_grown v_pledges v_sums v_stages v_isStopped v_begun)]) rfl dX12_takeUp_45 (fun H locs St => ?_)
          obtain ⟨f_9, ef_9⟩ : ∃ zz : Nat → Int32, zz = upd f_isLapsed (x1 : Int32).toNatClampNeg (vp_nar .boolean 0) := ⟨_, rfl⟩
          rw [← ef_9] at St
          refine lv_aload_n hx hb dX12_takeUp_46 rfl (lv_at hl 0 rfl) ?_
          refine cs_get F St 10 rfl rfl inX12 36 (by decide) kf_X12_156 rfl dX12_takeUp_47 ?_
          refine lv_iload_n hx hb dX12_takeUp_50 rfl (lv_at hl 1 rfl) ?_
          refine lv_iconst (v := 1) hx hb dX12_takeUp_51 (by decide) ?_
          refine cs_zst F St 2 2 rfl rfl (vp_in_iff.mpr ⟨by omega, by omega⟩) (w' := [(qarI (a 10) (d 10) 60 f_giver), (qarI (a 16) (d 16) 60 f_9), (qarI (a 17) (d 17) 60 (upd f_wasTakenUp (x1 : Int32).toNatClampNeg (vp_nar .boolean 1))), (qarI (a 12) (d 12) 60 f_first), (qarI (a 13) (d 13) 60 f_every), (qarI (a 14) (d 14) 60 f_dues), (qarI (a 18) (d 18) 5040 f_due), (qarI (a 19) (d 19) 5040 f_filled), (qarI (a 20) (d 20) 5040 f_isThere), (qarI (a 21) (d 21) 5040 f_counts), (cMq a h v_taped v_size v_from v_behind v_hand v_value v_fault v_faultAt v_clock v_coin v_loan v_matched v_taxed v_paidStages v_grown v_pledges v_sums v_stages v_isStopped v_begun)]) rfl dX12_takeUp_52 (fun H locs St => ?_)
          obtain ⟨f_10, ef_10⟩ : ∃ zz : Nat → Int32, zz = upd f_wasTakenUp (x1 : Int32).toNatClampNeg (vp_nar .boolean 1) := ⟨_, rfl⟩
          rw [← ef_10] at St
          refine lv_iconst (v := 0) hx hb dX12_takeUp_53 (by decide) ?_
          refine lv_istore_n (lv' := [(2, .int 0), (0, .ref h), (1, .int x1)]) hx hb dX12_takeUp_54 rfl hl (by decide) rfl (fun ls hl => ?_)
          have lp55 : ∀ (n : Nat) (kk : Int32) (ft : Nat → Int32) (fc : Nat → Int32) (H : Heap) (locs : List Loc) (ls : Array Slot), ((0 ≤ kk.toInt ∧ kk.toInt ≤ (f_dues x1.toNatClampNeg).toInt) ∧ sgI true ft f_isThere x1.toNatClampNeg Nn (cTu pf pe v_clock.toInt) (fun _ => 1) (vT wS) kk.toNatClampNeg ∧ sgI true fc f_counts x1.toNatClampNeg Nn (cTu pf pe v_clock.toInt) (fun _ => 1) (vC wS) kk.toNatClampNeg) → ((85 - kk.toInt).toNat) < n → cS G k [(qarI (a 10) (d 10) 60 f_giver), (qarI (a 16) (d 16) 60 f_9), (qarI (a 17) (d 17) 60 f_10), (qarI (a 12) (d 12) 60 f_first), (qarI (a 13) (d 13) 60 f_every), (qarI (a 14) (d 14) 60 f_dues), (qarI (a 18) (d 18) 5040 f_due), (qarI (a 19) (d 19) 5040 f_filled), (qarI (a 20) (d 20) 5040 ft), (qarI (a 21) (d 21) 5040 fc), (cMq a h v_taped v_size v_from v_behind v_hand v_value v_fault v_faultAt v_clock v_coin v_loan v_matched v_taxed v_paidStages v_grown v_pledges v_sums v_stages v_isStopped v_begun)] [((d 10), .int), ((d 16), .boolean), ((d 17), .boolean), ((d 12), .int), ((d 13), .int), ((d 14), .int), ((d 18), .int), ((d 19), .int), ((d 20), .boolean), ((d 21), .boolean)] A s H locs → lv_has ls 3 [(2, .int kk), (0, .ref h), (1, .int x1)] → W p l e ({ frames := 2, cells := 0, slots := 0, locals := 46 } : Room) s m args below meth c H locs 0 0 Q (F0 m 55 ls []) := by
            intro n
            induction n with
            | zero => intro kk ft fc H locs ls hI hn; exact absurd hn (Nat.not_lt_zero _)
            | succ n ih =>
              intro kk ft fc H locs ls hI hn St hl
              obtain ⟨⟨hI0, hI1⟩, hs1, hs2⟩ := hI
              have nk := nc_int hI0
              have hml := mo_le84 (k := kk.toNatClampNeg) hpf (by omega)
              refine lv_iload_n hx hb dX12_takeUp_55 rfl (lv_at hl 0 rfl) ?_
              refine lv_aload_n hx hb dX12_takeUp_56 rfl (lv_at hl 1 rfl) ?_
              refine cs_get F St 10 rfl rfl inX12 33 (by decide) kf_X12_147 rfl dX12_takeUp_57 ?_
              refine lv_iload_n hx hb dX12_takeUp_60 rfl (lv_at hl 2 rfl) ?_
              refine cs_ild F St 5 5 rfl rfl (vp_in_iff.mpr ⟨by omega, by omega⟩) dX12_takeUp_61 ?_
              refine lv_topi (fun y_11 ey_11 => ?_)
              have gy_11 := congrArg Int32.toInt ey_11
              have hdy_11 := mPd_d hPd (by omega) (by omega) ey_11
              refine lv_icmp_ge (tgt := 121) hx hb dX12_takeUp_62 (by decide) (fun c62 => ?_) (fun c62 => ?_)
              ·
                have i62 := ci_le (x := y_11) (y := kk) rfl rfl c62
                refine lv_aload_n hx hb dX12_takeUp_121 rfl (lv_at hl 1 rfl) ?_
                refine lv_iload_n hx hb dX12_takeUp_122 rfl (lv_at hl 2 rfl) ?_
                refine cs_i St [10, 3, 4, 5, 6, 7, 8, 9] [0, 1, 2] (wc := [(cMq a h v_taped v_size v_from v_behind v_hand v_value v_fault v_faultAt v_clock v_coin v_loan v_matched v_taxed v_paidStages v_grown v_pledges v_sums v_stages v_isStopped v_begun), (qarI (a 12) (d 12) 60 f_first), (qarI (a 13) (d 13) 60 f_every), (qarI (a 14) (d 14) 60 f_dues), (qarI (a 18) (d 18) 5040 f_due), (qarI (a 19) (d 19) 5040 f_filled), (qarI (a 20) (d 20) 5040 ft), (qarI (a 21) (d 21) 5040 fc)]) (wr := [(qarI (a 10) (d 10) 60 f_giver), (qarI (a 16) (d 16) 60 f_9), (qarI (a 17) (d 17) 60 f_10)]) rfl rfl (by decide) (by decide) (va_runV (As := [.int x1]) (rest := []) F (e12_toCome l G k _ h a d v_taped v_size v_from v_behind v_hand v_value v_fault v_faultAt v_clock v_coin v_loan v_matched v_taxed v_paidStages v_grown v_pledges v_sums v_stages v_isStopped v_begun f_first f_every f_dues f_due f_filled ft fc x1 hPd (by omega) (by omega) Nn pf pe wD wF (fU (cTk pf pe wS v_clock.toInt) (fun _ => 0) wS 0 Nn) (tu_wf hW) (tu_rw hR hW hL (sg_end hs1 (by omega)) (sg_end hs2 (by omega)))) (cwVt F mf_X12_toCome km_X12_273 rfl rfl ⟨Nat.le_of_ble_eq_true rfl, Nat.le_of_ble_eq_true rfl⟩) (cs_preV St [10, 3, 4, 5, 6, 7, 8, 9] rfl (by decide) [3, 4, 5, 6, 7, 8, 9] rfl (ci := 12) (q0 := 10) rfl rfl) rfl rfl hl.1 rfl (lv_room (Nat.le_of_ble_eq_true rfl)) dX12_takeUp_123 ⟨Nat.le_of_ble_eq_true rfl, Nat.le_of_ble_eq_true rfl⟩) (fun r_12 u_13 H locs hw St => ?_)
                try dsimp only at hw
                have hv_14 := hw
                have St : cS G k [(qarI (a 10) (d 10) 60 f_giver), (qarI (a 16) (d 16) 60 f_9), (qarI (a 17) (d 17) 60 f_10), (cMq a h v_taped v_size v_from v_behind v_hand v_value v_fault v_faultAt v_clock v_coin v_loan v_matched v_taxed v_paidStages v_grown v_pledges v_sums v_stages v_isStopped v_begun), (qarI (a 12) (d 12) 60 f_first), (qarI (a 13) (d 13) 60 f_every), (qarI (a 14) (d 14) 60 f_dues), (qarI (a 18) (d 18) 5040 f_due), (qarI (a 19) (d 19) 5040 f_filled), (qarI (a 20) (d 20) 5040 ft), (qarI (a 21) (d 21) 5040 fc)] [((d 10), .int), ((d 16), .boolean), ((d 17), .boolean), ((d 12), .int), ((d 13), .int), ((d 14), .int), ((d 18), .int), ((d 19), .int), ((d 20), .boolean), ((d 21), .boolean)] A s H locs := St
                exact cs_iret F hr hlk hQ St (f_9, f_10, ft, fc, (tbS tP x1.toNatClampNeg (tuT v_clock.toInt (Nn, pg, pf, pe, pl, pk, wD, wF, wS)))) (r := r_12) ⟨Or.inr (Or.inr ⟨by rw [← eT9]; exact hv_14, by unfold Cpl; omega, (by rw [← eT9]; show (_ ∧ pl.toInt = 1 ∧ pk.toInt = 0); omega), by rw [← eT9]⟩), mR_set hM hA hix (T := (tuT v_clock.toInt (Nn, pg, pf, pe, pl, pk, wD, wF, wS))) ⟨⟨hm9.1.1, by rw [ef_9, nar_z0]; exact pk_us, by rw [ef_10, nar_z1]; exact pk_us⟩, tu_rw hR hW hL (sg_end hs1 (by omega)) (sg_end hs2 (by omega))⟩ sgO_r sgO_r hs1.2.2 hs2.2.2 (by rw [ef_9]; exact upd_o) (by rw [ef_10]; exact upd_o), wfA_set hA (wf_tu hw9)⟩ [3, 0, 1, 2, 4, 5, 6, 7, 8, 9, 10] rfl (by decide) [] rfl (by decide) (by decide) dX12_takeUp_126
              ·
                have i62 := ci_nle (x := y_11) (y := kk) rfl rfl c62
                refine lv_aload_n hx hb dX12_takeUp_65 rfl (lv_at hl 1 rfl) ?_
                refine lv_iload_n hx hb dX12_takeUp_66 rfl (lv_at hl 2 rfl) ?_
                refine lv_iload_n hx hb dX12_takeUp_67 rfl (lv_at hl 0 rfl) ?_
                refine cs_i St [10, 3, 4] [0, 1, 2, 5, 6, 7, 8, 9] (wc := [(cMq a h v_taped v_size v_from v_behind v_hand v_value v_fault v_faultAt v_clock v_coin v_loan v_matched v_taxed v_paidStages v_grown v_pledges v_sums v_stages v_isStopped v_begun), (qarI (a 12) (d 12) 60 f_first), (qarI (a 13) (d 13) 60 f_every)]) (wr := [(qarI (a 10) (d 10) 60 f_giver), (qarI (a 16) (d 16) 60 f_9), (qarI (a 17) (d 17) 60 f_10), (qarI (a 14) (d 14) 60 f_dues), (qarI (a 18) (d 18) 5040 f_due), (qarI (a 19) (d 19) 5040 f_filled), (qarI (a 20) (d 20) 5040 ft), (qarI (a 21) (d 21) 5040 fc)]) rfl rfl (by decide) (by decide) (va_runV (As := [.int x1, .int kk]) (rest := []) F (e12_monthOf l G k _ h a d v_taped v_size v_from v_behind v_hand v_value v_fault v_faultAt v_clock v_coin v_loan v_matched v_taxed v_paidStages v_grown v_pledges v_sums v_stages v_isStopped v_begun f_first f_every x1 kk pf pe (by omega) (by omega) (by omega) (by omega) (⟨hR.1.1, hR.1.2.1, hW.1⟩)) (cwVt F mf_X12_monthOf km_X12_240 rfl rfl ⟨Nat.le_of_ble_eq_true rfl, Nat.le_of_ble_eq_true rfl⟩) (cs_preV St [10, 3, 4] rfl (by decide) [3, 4] rfl (ci := 12) (q0 := 10) rfl rfl) rfl rfl hl.1 rfl (lv_room (Nat.le_of_ble_eq_true rfl)) dX12_takeUp_68 ⟨Nat.le_of_ble_eq_true rfl, Nat.le_of_ble_eq_true rfl⟩) (fun r_15 u_16 H locs hw St => ?_)
                try dsimp only at hw
                have hm_17 := hw
                have St : cS G k [(qarI (a 10) (d 10) 60 f_giver), (qarI (a 16) (d 16) 60 f_9), (qarI (a 17) (d 17) 60 f_10), (qarI (a 14) (d 14) 60 f_dues), (qarI (a 18) (d 18) 5040 f_due), (qarI (a 19) (d 19) 5040 f_filled), (qarI (a 20) (d 20) 5040 ft), (qarI (a 21) (d 21) 5040 fc), (cMq a h v_taped v_size v_from v_behind v_hand v_value v_fault v_faultAt v_clock v_coin v_loan v_matched v_taxed v_paidStages v_grown v_pledges v_sums v_stages v_isStopped v_begun), (qarI (a 12) (d 12) 60 f_first), (qarI (a 13) (d 13) 60 f_every)] [((d 10), .int), ((d 16), .boolean), ((d 17), .boolean), ((d 12), .int), ((d 13), .int), ((d 14), .int), ((d 18), .int), ((d 19), .int), ((d 20), .boolean), ((d 21), .boolean)] A s H locs := St
                refine lv_i2l (v := r_15.toInt64) hx hb dX12_takeUp_71 rfl ?_
                refine lv_aload_n hx hb dX12_takeUp_72 rfl (lv_at hl 1 rfl) ?_
                refine cs_get F St 8 rfl rfl inX12 13 (by decide) kf_X12_230 rfl dX12_takeUp_73 ?_
                refine lv_i2l (v := v_clock.toInt64) hx hb dX12_takeUp_76 rfl ?_
                refine lv_lconst (v := 1) hx hb dX12_takeUp_77 (by decide) ?_
                refine lv_ladd hx hb dX12_takeUp_78 ?_
                refine lv_topl (fun y_18 ey_18 => ?_)
                first | have jy_18 : y_18.toInt = v_clock.toInt + 1 := (by have q7 := ci_rng v_clock; have q9 := cl_add (x := v_clock.toInt64) (y := 1) (u := v_clock.toInt) (v := 1) (Int32.toInt_toInt64 v_clock) (by decide) ey_18; omega) | have jy_18 := cl_add (x := v_clock.toInt64) (y := 1) (u := v_clock.toInt) (v := 1) (Int32.toInt_toInt64 v_clock) (by decide) ey_18
                refine lv_ldc2 (v := 119) hx hb F.2.2.2.1 (F.2.2.2.2 _ kk_X12_216) dX12_takeUp_79 ?_
                refine cs_i St [] [0, 1, 2, 3, 4, 5, 6, 7, 8, 9, 10] (wc := []) (wr := [(qarI (a 10) (d 10) 60 f_giver), (qarI (a 16) (d 16) 60 f_9), (qarI (a 17) (d 17) 60 f_10), (qarI (a 14) (d 14) 60 f_dues), (qarI (a 18) (d 18) 5040 f_due), (qarI (a 19) (d 19) 5040 f_filled), (qarI (a 20) (d 20) 5040 ft), (qarI (a 21) (d 21) 5040 fc), (cMq a h v_taped v_size v_from v_behind v_hand v_value v_fault v_faultAt v_clock v_coin v_loan v_matched v_taxed v_paidStages v_grown v_pledges v_sums v_stages v_isStopped v_begun), (qarI (a 12) (d 12) 60 f_first), (qarI (a 13) (d 13) 60 f_every)]) rfl rfl (by decide) (by decide) (va_runS (As := [.long r_15.toInt64, .long y_18, .long 119]) (rest := []) F (c12_in l G k _ r_15.toInt64 y_18 119 r_15.toInt y_18.toInt 119 (Int32.toInt_toInt64 r_15) rfl (by decide)) (cwSt F mf_X12_in km_X12_58 rfl rfl ⟨Nat.le_of_ble_eq_true rfl, Nat.le_of_ble_eq_true rfl⟩) (cs_pre St [] rfl (by decide) [] rfl) rfl rfl hl.1 rfl (lv_room (Nat.le_of_ble_eq_true rfl)) dX12_takeUp_82 ⟨Nat.le_of_ble_eq_true rfl, Nat.le_of_ble_eq_true rfl⟩) (fun r_19 u_20 H locs hw St => ?_)
                try dsimp only at hw
                rcases hw with ⟨z_21, hf_22⟩ | ⟨z_23, hf_24⟩
                ·
                  subst r_19
                  have St : cS G k [(qarI (a 10) (d 10) 60 f_giver), (qarI (a 16) (d 16) 60 f_9), (qarI (a 17) (d 17) 60 f_10), (qarI (a 14) (d 14) 60 f_dues), (qarI (a 18) (d 18) 5040 f_due), (qarI (a 19) (d 19) 5040 f_filled), (qarI (a 20) (d 20) 5040 ft), (qarI (a 21) (d 21) 5040 fc), (cMq a h v_taped v_size v_from v_behind v_hand v_value v_fault v_faultAt v_clock v_coin v_loan v_matched v_taxed v_paidStages v_grown v_pledges v_sums v_stages v_isStopped v_begun), (qarI (a 12) (d 12) 60 f_first), (qarI (a 13) (d 13) 60 f_every)] [((d 10), .int), ((d 16), .boolean), ((d 17), .boolean), ((d 12), .int), ((d 13), .int), ((d 14), .int), ((d 18), .int), ((d 19), .int), ((d 20), .boolean), ((d 21), .boolean)] A s H locs := St
                  refine lv_if_ne (tgt := 91) hx hb dX12_takeUp_85 (by decide) (fun c85 => ?_) (fun c85 => ?_)
                  rotate_left
                  · exact absurd c85 (by decide)
                  refine lv_aload_n hx hb dX12_takeUp_91 rfl (lv_at hl 1 rfl) ?_
                  refine cs_get F St 8 rfl rfl inX12 39 (by decide) kf_X12_165 rfl dX12_takeUp_92 ?_
                  refine lv_bipush (v := 84) hx hb dX12_takeUp_95 (by decide) ?_
                  refine lv_iload_n hx hb dX12_takeUp_97 rfl (lv_at hl 2 rfl) ?_
                  refine lv_imul hx hb dX12_takeUp_98 ?_
                  refine lv_topi (fun y_25 ey_25 => ?_)
                  first | have jy_25 : y_25.toInt = 84 * x1.toInt := (by have q9 := ci_mul (x := 84) (y := x1) (show (84 : Int32).toInt = 84 by decide) rfl ey_25; omega) | have jy_25 := ci_mul (x := 84) (y := x1) (show (84 : Int32).toInt = 84 by decide) rfl ey_25
                  refine lv_iload_n hx hb dX12_takeUp_99 rfl (lv_at hl 0 rfl) ?_
                  refine lv_iadd hx hb dX12_takeUp_100 ?_
                  refine lv_topi (fun y_26 ey_26 => ?_)
                  first | have jy_26 : y_26.toInt = y_25.toInt + kk.toInt := (by have q9 := ci_add (x := y_25) (y := kk) rfl rfl ey_26; omega) | have jy_26 := ci_add (x := y_25) (y := kk) rfl rfl ey_26
                  refine lv_iconst (v := 1) hx hb dX12_takeUp_101 (by decide) ?_
                  refine cs_zst F St 6 8 rfl rfl (vp_in_iff.mpr ⟨by omega, by omega⟩) (w' := [(qarI (a 10) (d 10) 60 f_giver), (qarI (a 16) (d 16) 60 f_9), (qarI (a 17) (d 17) 60 f_10), (qarI (a 14) (d 14) 60 f_dues), (qarI (a 18) (d 18) 5040 f_due), (qarI (a 19) (d 19) 5040 f_filled), (qarI (a 20) (d 20) 5040 (upd ft (y_26 : Int32).toNatClampNeg (vp_nar .boolean 1))), (qarI (a 21) (d 21) 5040 fc), (cMq a h v_taped v_size v_from v_behind v_hand v_value v_fault v_faultAt v_clock v_coin v_loan v_matched v_taxed v_paidStages v_grown v_pledges v_sums v_stages v_isStopped v_begun), (qarI (a 12) (d 12) 60 f_first), (qarI (a 13) (d 13) 60 f_every)]) rfl dX12_takeUp_102 (fun H locs St => ?_)
                  obtain ⟨f_27, ef_27⟩ : ∃ zz : Nat → Int32, zz = upd ft (y_26 : Int32).toNatClampNeg (vp_nar .boolean 1) := ⟨_, rfl⟩
                  rw [← ef_27] at St
                  refine lv_aload_n hx hb dX12_takeUp_103 rfl (lv_at hl 1 rfl) ?_
                  refine cs_get F St 8 rfl rfl inX12 40 (by decide) kf_X12_168 rfl dX12_takeUp_104 ?_
                  refine lv_bipush (v := 84) hx hb dX12_takeUp_107 (by decide) ?_
                  refine lv_iload_n hx hb dX12_takeUp_109 rfl (lv_at hl 2 rfl) ?_
                  refine lv_imul hx hb dX12_takeUp_110 ?_
                  refine lv_topi (fun y_28 ey_28 => ?_)
                  first | have jy_28 : y_28.toInt = 84 * x1.toInt := (by have q9 := ci_mul (x := 84) (y := x1) (show (84 : Int32).toInt = 84 by decide) rfl ey_28; omega) | have jy_28 := ci_mul (x := 84) (y := x1) (show (84 : Int32).toInt = 84 by decide) rfl ey_28
                  refine lv_iload_n hx hb dX12_takeUp_111 rfl (lv_at hl 0 rfl) ?_
                  refine lv_iadd hx hb dX12_takeUp_112 ?_
                  refine lv_topi (fun y_29 ey_29 => ?_)
                  first | have jy_29 : y_29.toInt = y_28.toInt + kk.toInt := (by have q9 := ci_add (x := y_28) (y := kk) rfl rfl ey_29; omega) | have jy_29 := ci_add (x := y_28) (y := kk) rfl rfl ey_29
                  refine lv_iconst (v := 1) hx hb dX12_takeUp_113 (by decide) ?_
                  refine cs_zst F St 7 9 rfl rfl (vp_in_iff.mpr ⟨by omega, by omega⟩) (w' := [(qarI (a 10) (d 10) 60 f_giver), (qarI (a 16) (d 16) 60 f_9), (qarI (a 17) (d 17) 60 f_10), (qarI (a 14) (d 14) 60 f_dues), (qarI (a 18) (d 18) 5040 f_due), (qarI (a 19) (d 19) 5040 f_filled), (qarI (a 20) (d 20) 5040 f_27), (qarI (a 21) (d 21) 5040 (upd fc (y_29 : Int32).toNatClampNeg (vp_nar .boolean 1))), (cMq a h v_taped v_size v_from v_behind v_hand v_value v_fault v_faultAt v_clock v_coin v_loan v_matched v_taxed v_paidStages v_grown v_pledges v_sums v_stages v_isStopped v_begun), (qarI (a 12) (d 12) 60 f_first), (qarI (a 13) (d 13) 60 f_every)]) rfl dX12_takeUp_114 (fun H locs St => ?_)
                  obtain ⟨f_30, ef_30⟩ : ∃ zz : Nat → Int32, zz = upd fc (y_29 : Int32).toNatClampNeg (vp_nar .boolean 1) := ⟨_, rfl⟩
                  rw [← ef_30] at St
                  obtain ⟨y_31, ey_31⟩ : ∃ zz : Int32, zz = kk + 1 := ⟨_, rfl⟩
                  first | have jy_31 : y_31.toInt = kk.toInt + 1 := (by have q9 := ci_add (x := kk) rfl (show (1 : Int32).toInt = 1 by decide) ey_31; omega) | have jy_31 := ci_add (x := kk) rfl (show (1 : Int32).toInt = 1 by decide) ey_31
                  refine lv_iinc (v := y_31) (lv' := [(2, .int y_31), (0, .ref h), (1, .int x1)]) hx hb dX12_takeUp_115 hl (k := 0) rfl (by rw [ey_31]; rfl) (by decide) rfl (fun ls hl => ?_)
                  refine lv_goto (tgt := 55) hx hb dX12_takeUp_118 (by decide) ?_
                  exact ih y_31 f_27 f_30 _ _ _ ⟨⟨by omega, by omega⟩, (by rw [ef_27, nar_z1]; exact sg_Y hp1 hI0 hs1 (by omega) (by omega) (by omega) (fun a_ => ⟨decide_eq_true (by omega), rfl⟩) (fun _ a_ => absurd (hR.2.2.2 _ a_ (by omega)) (by omega))), (by rw [ef_30, nar_z1]; exact sg_Y hp1 hI0 hs2 (by omega) (by omega) (by omega) (fun a_ => ⟨decide_eq_true (by omega), rfl⟩) (fun _ a_ => absurd (hR.2.2.2 _ a_ (by omega)) (by omega)))⟩ (by omega) (cs_pick St [0, 1, 2, 9, 10, 3, 4, 5, 6, 7, 8] rfl (by decide) [0, 1, 2, 3, 4, 5, 6, 7, 8, 9] rfl) (lv_sub hl [0, 1, 2] rfl)
                ·
                  subst r_19
                  have St : cS G k [(qarI (a 10) (d 10) 60 f_giver), (qarI (a 16) (d 16) 60 f_9), (qarI (a 17) (d 17) 60 f_10), (qarI (a 14) (d 14) 60 f_dues), (qarI (a 18) (d 18) 5040 f_due), (qarI (a 19) (d 19) 5040 f_filled), (qarI (a 20) (d 20) 5040 ft), (qarI (a 21) (d 21) 5040 fc), (cMq a h v_taped v_size v_from v_behind v_hand v_value v_fault v_faultAt v_clock v_coin v_loan v_matched v_taxed v_paidStages v_grown v_pledges v_sums v_stages v_isStopped v_begun), (qarI (a 12) (d 12) 60 f_first), (qarI (a 13) (d 13) 60 f_every)] [((d 10), .int), ((d 16), .boolean), ((d 17), .boolean), ((d 12), .int), ((d 13), .int), ((d 14), .int), ((d 18), .int), ((d 19), .int), ((d 20), .boolean), ((d 21), .boolean)] A s H locs := St
                  refine lv_if_ne (tgt := 91) hx hb dX12_takeUp_85 (by decide) (fun c85 => ?_) (fun c85 => ?_)
                  · exact absurd c85 (by decide)
                  refine lv_goto (tgt := 115) hx hb dX12_takeUp_88 (by decide) ?_
                  obtain ⟨y_32, ey_32⟩ : ∃ zz : Int32, zz = kk + 1 := ⟨_, rfl⟩
                  first | have jy_32 : y_32.toInt = kk.toInt + 1 := (by have q9 := ci_add (x := kk) rfl (show (1 : Int32).toInt = 1 by decide) ey_32; omega) | have jy_32 := ci_add (x := kk) rfl (show (1 : Int32).toInt = 1 by decide) ey_32
                  refine lv_iinc (v := y_32) (lv' := [(2, .int y_32), (0, .ref h), (1, .int x1)]) hx hb dX12_takeUp_115 hl (k := 0) rfl (by rw [ey_32]; rfl) (by decide) rfl (fun ls hl => ?_)
                  refine lv_goto (tgt := 55) hx hb dX12_takeUp_118 (by decide) ?_
                  exact ih y_32 ft fc _ _ _ ⟨⟨by omega, by omega⟩, sg_N hI0 hs1 (by omega) (fun a_ b_ => absurd (of_decide_eq_true b_) (by have hq_ := (hW.2 _ a_).2.2; omega)), sg_N hI0 hs2 (by omega) (fun a_ b_ => absurd (of_decide_eq_true b_) (by have hq_ := (hW.2 _ a_).2.2; omega))⟩ (by omega) (cs_pick St [0, 1, 2, 9, 10, 3, 4, 5, 6, 7, 8] rfl (by decide) [0, 1, 2, 3, 4, 5, 6, 7, 8, 9] rfl) (lv_sub hl [0, 1, 2] rfl)
          exact lp55 86 0 f_isThere f_counts _ _ _ ⟨⟨by omega, by omega⟩, sg_0 (fun j_ h_ => (hR.2.1 j_ h_).2.2.1) (fun _ j_ a_ b_ => (hR.2.2.1 j_ a_ b_).2.1), sg_0 (fun j_ h_ => (hR.2.1 j_ h_).2.2.2) (fun _ j_ a_ b_ => (hR.2.2.1 j_ a_ b_).2.2)⟩ (by omega) St (lv_sub hl [0, 1, 2] rfl)
        ·
          have i33 := ci_ne (x := y_8) (y := 0) rfl (show (0 : Int32).toInt = 0 by decide) c33
          refine lv_bipush (v := (-4)) hx hb dX12_takeUp_36 (by decide) ?_
          exact cs_iret F hr hlk hQ St (f_isLapsed, f_wasTakenUp, f_isThere, f_counts, tP) (r := (-4)) ⟨Or.inr (Or.inl ⟨rfl, by unfold Cpl; omega, (by rw [← eT9]; show ¬ (_ ∧ pl.toInt = 1 ∧ pk.toInt = 0); omega), rfl⟩), hM, hA⟩ [10, 0, 1, 2, 3, 4, 5, 6, 7, 8, 9] rfl (by decide) [] rfl (by decide) (by decide) dX12_takeUp_38
  ·
    subst r_1
    have St : cS G k [(qarI (a 10) (d 10) 60 f_giver), (qarI (a 16) (d 16) 60 f_isLapsed), (qarI (a 17) (d 17) 60 f_wasTakenUp), (qarI (a 12) (d 12) 60 f_first), (qarI (a 13) (d 13) 60 f_every), (qarI (a 14) (d 14) 60 f_dues), (qarI (a 18) (d 18) 5040 f_due), (qarI (a 19) (d 19) 5040 f_filled), (qarI (a 20) (d 20) 5040 f_isThere), (qarI (a 21) (d 21) 5040 f_counts), (cMq a h v_taped v_size v_from v_behind v_hand v_value v_fault v_faultAt v_clock v_coin v_loan v_matched v_taxed v_paidStages v_grown v_pledges v_sums v_stages v_isStopped v_begun)] [((d 10), .int), ((d 16), .boolean), ((d 17), .boolean), ((d 12), .int), ((d 13), .int), ((d 14), .int), ((d 18), .int), ((d 19), .int), ((d 20), .boolean), ((d 21), .boolean)] A s H locs := St
    refine lv_if_ne (tgt := 11) hx hb dX12_takeUp_5 (by decide) (fun c5 => ?_) (fun c5 => ?_)
    · exact absurd c5 (by decide)
    refine lv_bipush (v := (-2)) hx hb dX12_takeUp_8 (by decide) ?_
    exact cs_iret F hr hlk hQ St (f_isLapsed, f_wasTakenUp, f_isThere, f_counts, tP) (r := (-2)) ⟨Or.inl ⟨rfl, by unfold Cpl; omega, rfl⟩, hM, hA⟩ [10, 0, 1, 2, 3, 4, 5, 6, 7, 8, 9] rfl (by decide) [] rfl (by decide) (by decide) dX12_takeUp_10

