set_option maxHeartbeats 4000000 in
set_option maxRecDepth 100000 in
theorem e12_declare (l : Launch) (G : va_G) (k : Nat → Nat) (sz : Nat) (h : Nat) (a : Nat → Nat) (d : Nat → ClassId) (v_taped : Int32) (v_size : Int32) (v_from : Int32) (v_behind : Int32) (v_hand : Int32) (v_value : Int32) (v_fault : Int32) (v_faultAt : Int32) (v_clock : Int32) (v_coin : Int32) (v_loan : Int32) (v_matched : Int32) (v_taxed : Int32) (v_paidStages : Int32) (v_grown : Int32) (v_pledges : Int32) (v_sums : Int32) (v_stages : Int32) (v_isStopped : Int32) (v_begun : Int32) (f_declaredFrom : Nat → Int32) (f_declaredTo : Nat → Int32) (x1 : Int32) (x2 : Int32) (x3 : Int32) : Met l yX12_declare (Cond.code yX12_declare cX12_declare 4 (some .int) :: tb) ({ frames := 2, cells := 0, slots := 0, locals := 45 } : Room) (va_Pc [.ref h, .int x1, .int x2, .int x3] (cP G k [(cMq a h v_taped v_size v_from v_behind v_hand v_value v_fault v_faultAt v_clock v_coin v_loan v_matched v_taxed v_paidStages v_grown v_pledges v_sums v_stages v_isStopped v_begun), (qarI (a 5) (d 5) 30 f_declaredFrom), (qarI (a 6) (d 6) 30 f_declaredTo)] [((d 5), .int), ((d 6), .int)] sz)) (va_Qi (fun (r : Int32) (u : (Nat → Int32) × (Nat → Int32)) => match u with | (g_declaredFrom, g_declaredTo) => (Rdec v_isStopped x1 x2 x3 f_declaredFrom f_declaredTo r g_declaredFrom g_declaredTo)) (cB G (fun u => match u with | (g_declaredFrom, g_declaredTo) => [(cMq a h v_taped v_size v_from v_behind v_hand v_value v_fault v_faultAt v_clock v_coin v_loan v_matched v_taxed v_paidStages v_grown v_pledges v_sums v_stages v_isStopped v_begun), (qarI (a 5) (d 5) 30 g_declaredFrom), (qarI (a 6) (d 6) 30 g_declaredTo)]) (fun u => match u with | (g_declaredFrom, g_declaredTo) => []) (va_A [(cMq a h v_taped v_size v_from v_behind v_hand v_value v_fault v_faultAt v_clock v_coin v_loan v_matched v_taxed v_paidStages v_grown v_pledges v_sums v_stages v_isStopped v_begun), (qarI (a 5) (d 5) 30 f_declaredFrom), (qarI (a 6) (d 6) 30 f_declaredTo)] sz)) (va_A [(cMq a h v_taped v_size v_from v_behind v_hand v_value v_fault v_faultAt v_clock v_coin v_loan v_matched v_taxed v_paidStages v_grown v_pledges v_sums v_stages v_isStopped v_begun), (qarI (a 5) (d 5) 30 f_declaredFrom), (qarI (a 6) (d 6) 30 f_declaredTo)] sz)) 0 0 (va_A [(cMq a h v_taped v_size v_from v_behind v_hand v_value v_fault v_faultAt v_clock v_coin v_loan v_matched v_taxed v_paidStages v_grown v_pledges v_sums v_stages v_isStopped v_begun), (qarI (a 5) (d 5) 30 f_declaredFrom), (qarI (a 6) (d 6) 30 f_declaredTo)] sz) := by
  refine ofC_i (cc := cX12_declare) (maxL := 4) (ret := (some .int)) (by decide) rfl (Nat.le_of_ble_eq_true rfl) ?_
  intro p e s m args below meth c A ls Q F hr hin hlk St hl hQ
  have hx := F.1
  have hb := F.2.1
  have hl : lv_has ls 4 [(0, .ref h), (1, .int x1), (2, .int x2), (3, .int x3)] := hl
  have St : cS G k [(cMq a h v_taped v_size v_from v_behind v_hand v_value v_fault v_faultAt v_clock v_coin v_loan v_matched v_taxed v_paidStages v_grown v_pledges v_sums v_stages v_isStopped v_begun), (qarI (a 5) (d 5) 30 f_declaredFrom), (qarI (a 6) (d 6) 30 f_declaredTo)] [((d 5), .int), ((d 6), .int)] A s s.heap [] := St
  have y0 : (0 : Int32).toInt = 0 := by decide
  refine lv_iload_n hx hb dX12_declare_0 rfl (lv_at hl 1 rfl) ?_
  refine cs_i St [] [0, 1, 2] (wc := []) (wr := [(cMq a h v_taped v_size v_from v_behind v_hand v_value v_fault v_faultAt v_clock v_coin v_loan v_matched v_taxed v_paidStages v_grown v_pledges v_sums v_stages v_isStopped v_begun), (qarI (a 5) (d 5) 30 f_declaredFrom), (qarI (a 6) (d 6) 30 f_declaredTo)]) rfl rfl (by decide) (by decide) (va_runS (As := [.int x1]) (rest := []) F (c12_isGiver l G k _ x1) (cwSt F mf_X12_isGiver km_X12_218 rfl rfl ⟨Nat.le_of_ble_eq_true rfl, Nat.le_of_ble_eq_true rfl⟩) (cs_pre St [] rfl (by decide) [] rfl) rfl rfl hl.1 rfl (lv_room (Nat.le_of_ble_eq_true rfl)) dX12_declare_1 ⟨Nat.le_of_ble_eq_true rfl, Nat.le_of_ble_eq_true rfl⟩) (fun r_1 u_2 H locs hw St => ?_)
  try dsimp only at hw
  rcases hw with ⟨z_3, hf_4⟩ | ⟨z_5, hf_6⟩
  ·
    subst r_1
    have St : cS G k [(cMq a h v_taped v_size v_from v_behind v_hand v_value v_fault v_faultAt v_clock v_coin v_loan v_matched v_taxed v_paidStages v_grown v_pledges v_sums v_stages v_isStopped v_begun), (qarI (a 5) (d 5) 30 f_declaredFrom), (qarI (a 6) (d 6) 30 f_declaredTo)] [((d 5), .int), ((d 6), .int)] A s H locs := St
    refine lv_if_eq (tgt := 27) hx hb dX12_declare_4 (by decide) (fun c4 => ?_) (fun c4 => ?_)
    · exact absurd c4 (by decide)
    refine lv_iload_n hx hb dX12_declare_7 rfl (lv_at hl 2 rfl) ?_
    refine cs_i St [] [0, 1, 2] (wc := []) (wr := [(cMq a h v_taped v_size v_from v_behind v_hand v_value v_fault v_faultAt v_clock v_coin v_loan v_matched v_taxed v_paidStages v_grown v_pledges v_sums v_stages v_isStopped v_begun), (qarI (a 5) (d 5) 30 f_declaredFrom), (qarI (a 6) (d 6) 30 f_declaredTo)]) rfl rfl (by decide) (by decide) (va_runS (As := [.int x2]) (rest := []) F (c12_isMonth l G k _ x2) (cwSt F mf_X12_isMonth km_X12_221 rfl rfl ⟨Nat.le_of_ble_eq_true rfl, Nat.le_of_ble_eq_true rfl⟩) (cs_pre St [] rfl (by decide) [] rfl) rfl rfl hl.1 rfl (lv_room (Nat.le_of_ble_eq_true rfl)) dX12_declare_8 ⟨Nat.le_of_ble_eq_true rfl, Nat.le_of_ble_eq_true rfl⟩) (fun r_7 u_8 H locs hw St => ?_)
    try dsimp only at hw
    rcases hw with ⟨z_9, hf_10⟩ | ⟨z_11, hf_12⟩
    ·
      subst r_7
      have St : cS G k [(cMq a h v_taped v_size v_from v_behind v_hand v_value v_fault v_faultAt v_clock v_coin v_loan v_matched v_taxed v_paidStages v_grown v_pledges v_sums v_stages v_isStopped v_begun), (qarI (a 5) (d 5) 30 f_declaredFrom), (qarI (a 6) (d 6) 30 f_declaredTo)] [((d 5), .int), ((d 6), .int)] A s H locs := St
      refine lv_if_eq (tgt := 27) hx hb dX12_declare_11 (by decide) (fun c11 => ?_) (fun c11 => ?_)
      · exact absurd c11 (by decide)
      refine lv_iload_n hx hb dX12_declare_14 rfl (lv_at hl 3 rfl) ?_
      refine lv_i2l (v := x3.toInt64) hx hb dX12_declare_15 rfl ?_
      refine lv_iload_n hx hb dX12_declare_16 rfl (lv_at hl 2 rfl) ?_
      refine lv_i2l (v := x2.toInt64) hx hb dX12_declare_17 rfl ?_
      refine lv_ldc2 (v := 119) hx hb F.2.2.2.1 (F.2.2.2.2 _ kk_X12_216) dX12_declare_18 ?_
      refine cs_i St [] [0, 1, 2] (wc := []) (wr := [(cMq a h v_taped v_size v_from v_behind v_hand v_value v_fault v_faultAt v_clock v_coin v_loan v_matched v_taxed v_paidStages v_grown v_pledges v_sums v_stages v_isStopped v_begun), (qarI (a 5) (d 5) 30 f_declaredFrom), (qarI (a 6) (d 6) 30 f_declaredTo)]) rfl rfl (by decide) (by decide) (va_runS (As := [.long x3.toInt64, .long x2.toInt64, .long 119]) (rest := []) F (c12_in l G k _ x3.toInt64 x2.toInt64 119 x3.toInt x2.toInt 119 (Int32.toInt_toInt64 x3) (Int32.toInt_toInt64 x2) (by decide)) (cwSt F mf_X12_in km_X12_58 rfl rfl ⟨Nat.le_of_ble_eq_true rfl, Nat.le_of_ble_eq_true rfl⟩) (cs_pre St [] rfl (by decide) [] rfl) rfl rfl hl.1 rfl (lv_room (Nat.le_of_ble_eq_true rfl)) dX12_declare_21 ⟨Nat.le_of_ble_eq_true rfl, Nat.le_of_ble_eq_true rfl⟩) (fun r_13 u_14 H locs hw St => ?_)
      try dsimp only at hw
      rcases hw with ⟨z_15, hf_16⟩ | ⟨z_17, hf_18⟩
      ·
        subst r_13
        have St : cS G k [(cMq a h v_taped v_size v_from v_behind v_hand v_value v_fault v_faultAt v_clock v_coin v_loan v_matched v_taxed v_paidStages v_grown v_pledges v_sums v_stages v_isStopped v_begun), (qarI (a 5) (d 5) 30 f_declaredFrom), (qarI (a 6) (d 6) 30 f_declaredTo)] [((d 5), .int), ((d 6), .int)] A s H locs := St
        refine lv_if_ne (tgt := 30) hx hb dX12_declare_24 (by decide) (fun c24 => ?_) (fun c24 => ?_)
        rotate_left
        · exact absurd c24 (by decide)
        refine lv_aload_n hx hb dX12_declare_30 rfl (lv_at hl 0 rfl) ?_
        refine cs_get F St 0 rfl rfl inX12 23 (by decide) kf_X12_224 rfl dX12_declare_31 ?_
        refine lv_if_eq (tgt := 40) hx hb dX12_declare_34 (by decide) (fun c34 => ?_) (fun c34 => ?_)
        ·
          have i34 := ci_eq (x := v_isStopped) (y := 0) rfl (show (0 : Int32).toInt = 0 by decide) c34
          refine lv_aload_n hx hb dX12_declare_40 rfl (lv_at hl 0 rfl) ?_
          refine cs_get F St 0 rfl rfl inX12 24 (by decide) kf_X12_120 rfl dX12_declare_41 ?_
          refine lv_iload_n hx hb dX12_declare_44 rfl (lv_at hl 1 rfl) ?_
          refine lv_iload_n hx hb dX12_declare_45 rfl (lv_at hl 2 rfl) ?_
          refine cs_ist F St 1 0 rfl rfl (vp_in_iff.mpr ⟨by omega, by omega⟩) (w' := [(cMq a h v_taped v_size v_from v_behind v_hand v_value v_fault v_faultAt v_clock v_coin v_loan v_matched v_taxed v_paidStages v_grown v_pledges v_sums v_stages v_isStopped v_begun), (qarI (a 5) (d 5) 30 (upd f_declaredFrom (x1 : Int32).toNatClampNeg x2)), (qarI (a 6) (d 6) 30 f_declaredTo)]) rfl dX12_declare_46 (fun H locs St => ?_)
          obtain ⟨f_19, ef_19⟩ : ∃ zz : Nat → Int32, zz = upd f_declaredFrom (x1 : Int32).toNatClampNeg x2 := ⟨_, rfl⟩
          rw [← ef_19] at St
          refine lv_aload_n hx hb dX12_declare_47 rfl (lv_at hl 0 rfl) ?_
          refine cs_get F St 0 rfl rfl inX12 25 (by decide) kf_X12_123 rfl dX12_declare_48 ?_
          refine lv_iload_n hx hb dX12_declare_51 rfl (lv_at hl 1 rfl) ?_
          refine lv_iload_n hx hb dX12_declare_52 rfl (lv_at hl 3 rfl) ?_
          refine cs_ist F St 2 1 rfl rfl (vp_in_iff.mpr ⟨by omega, by omega⟩) (w' := [(cMq a h v_taped v_size v_from v_behind v_hand v_value v_fault v_faultAt v_clock v_coin v_loan v_matched v_taxed v_paidStages v_grown v_pledges v_sums v_stages v_isStopped v_begun), (qarI (a 5) (d 5) 30 f_19), (qarI (a 6) (d 6) 30 (upd f_declaredTo (x1 : Int32).toNatClampNeg x3))]) rfl dX12_declare_53 (fun H locs St => ?_)
          obtain ⟨f_20, ef_20⟩ : ∃ zz : Nat → Int32, zz = upd f_declaredTo (x1 : Int32).toNatClampNeg x3 := ⟨_, rfl⟩
          rw [← ef_20] at St
          refine lv_iconst (v := 1) hx hb dX12_declare_54 (by decide) ?_
          exact cs_iret F hr hlk hQ St (f_19, f_20) (r := 1) (Or.inr (Or.inr ⟨rfl, ⟨by unfold Cdc; omega, by omega⟩, ef_19, ef_20⟩)) [0, 1, 2] rfl (by decide) [] rfl (by decide) (by decide) dX12_declare_55
        ·
          have i34 := ci_ne (x := v_isStopped) (y := 0) rfl (show (0 : Int32).toInt = 0 by decide) c34
          refine lv_bipush (v := (-4)) hx hb dX12_declare_37 (by decide) ?_
          exact cs_iret F hr hlk hQ St (f_declaredFrom, f_declaredTo) (r := (-4)) (Or.inr (Or.inl ⟨rfl, ⟨by unfold Cdc; omega, by omega⟩, rfl, rfl⟩)) [0, 1, 2] rfl (by decide) [] rfl (by decide) (by decide) dX12_declare_39
      ·
        subst r_13
        have St : cS G k [(cMq a h v_taped v_size v_from v_behind v_hand v_value v_fault v_faultAt v_clock v_coin v_loan v_matched v_taxed v_paidStages v_grown v_pledges v_sums v_stages v_isStopped v_begun), (qarI (a 5) (d 5) 30 f_declaredFrom), (qarI (a 6) (d 6) 30 f_declaredTo)] [((d 5), .int), ((d 6), .int)] A s H locs := St
        refine lv_if_ne (tgt := 30) hx hb dX12_declare_24 (by decide) (fun c24 => ?_) (fun c24 => ?_)
        · exact absurd c24 (by decide)
        refine lv_bipush (v := (-2)) hx hb dX12_declare_27 (by decide) ?_
        exact cs_iret F hr hlk hQ St (f_declaredFrom, f_declaredTo) (r := (-2)) (Or.inl ⟨rfl, by unfold Cdc; omega, rfl, rfl⟩) [0, 1, 2] rfl (by decide) [] rfl (by decide) (by decide) dX12_declare_29
    ·
      subst r_7
      have St : cS G k [(cMq a h v_taped v_size v_from v_behind v_hand v_value v_fault v_faultAt v_clock v_coin v_loan v_matched v_taxed v_paidStages v_grown v_pledges v_sums v_stages v_isStopped v_begun), (qarI (a 5) (d 5) 30 f_declaredFrom), (qarI (a 6) (d 6) 30 f_declaredTo)] [((d 5), .int), ((d 6), .int)] A s H locs := St
      refine lv_if_eq (tgt := 27) hx hb dX12_declare_11 (by decide) (fun c11 => ?_) (fun c11 => ?_)
      rotate_left
      · exact absurd (by decide) c11
      refine lv_bipush (v := (-2)) hx hb dX12_declare_27 (by decide) ?_
      exact cs_iret F hr hlk hQ St (f_declaredFrom, f_declaredTo) (r := (-2)) (Or.inl ⟨rfl, by unfold Cdc; omega, rfl, rfl⟩) [0, 1, 2] rfl (by decide) [] rfl (by decide) (by decide) dX12_declare_29
  ·
    subst r_1
    have St : cS G k [(cMq a h v_taped v_size v_from v_behind v_hand v_value v_fault v_faultAt v_clock v_coin v_loan v_matched v_taxed v_paidStages v_grown v_pledges v_sums v_stages v_isStopped v_begun), (qarI (a 5) (d 5) 30 f_declaredFrom), (qarI (a 6) (d 6) 30 f_declaredTo)] [((d 5), .int), ((d 6), .int)] A s H locs := St
    refine lv_if_eq (tgt := 27) hx hb dX12_declare_4 (by decide) (fun c4 => ?_) (fun c4 => ?_)
    rotate_left
    · exact absurd (by decide) c4
    refine lv_bipush (v := (-2)) hx hb dX12_declare_27 (by decide) ?_
    exact cs_iret F hr hlk hQ St (f_declaredFrom, f_declaredTo) (r := (-2)) (Or.inl ⟨rfl, by unfold Cdc; omega, rfl, rfl⟩) [0, 1, 2] rfl (by decide) [] rfl (by decide) (by decide) dX12_declare_29
set_option maxHeartbeats 4000000 in
set_option maxRecDepth 100000 in
theorem e12_pledge (l : Launch) (G : va_G) (k : Nat → Nat) (sz : Nat) (h : Nat) (a : Nat → Nat) (d : Nat → ClassId) (v_taped : Int32) (v_size : Int32) (v_from : Int32) (v_behind : Int32) (v_hand : Int32) (v_value : Int32) (v_fault : Int32) (v_faultAt : Int32) (v_clock : Int32) (v_coin : Int32) (v_loan : Int32) (v_matched : Int32) (v_taxed : Int32) (v_paidStages : Int32) (v_grown : Int32) (v_pledges : Int32) (v_sums : Int32) (v_stages : Int32) (v_isStopped : Int32) (v_begun : Int32) (f_giver : Nat → Int32) (f_pence : Nat → Int32) (f_first : Nat → Int32) (f_every : Nat → Int32) (f_dues : Nat → Int32) (f_lapsedAt : Nat → Int32) (f_due : Nat → Int32) (f_isThere : Nat → Int32) (f_counts : Nat → Int32) (f_isLapsed : Nat → Int32) (f_wasTakenUp : Nat → Int32) (f_filled : Nat → Int32) (x1 : Int32) (x2 : Int32) (x3 : Int32) (x4 : Int32) (x5 : Int32) (hPd : mPd v_pledges f_dues) (hPg : mGi v_pledges f_giver) (hc0 : 0 ≤ v_clock.toInt) (hc1 : v_clock.toInt ≤ 119) (tP : Nat → Pl9) (hM : mR v_pledges (tP) f_giver f_isLapsed f_wasTakenUp f_first f_every f_dues f_due f_filled f_isThere f_counts) (hA : wfA v_pledges v_clock.toInt tP) : Met l yX12_pledge (Cond.code yX12_pledge cX12_pledge 8 (some .int) :: tb) ({ frames := 2, cells := 0, slots := 0, locals := 45 } : Room) (va_Pc [.ref h, .int x1, .int x2, .int x3, .int x4, .int x5] (cP G k [(cMq a h v_taped v_size v_from v_behind v_hand v_value v_fault v_faultAt v_clock v_coin v_loan v_matched v_taxed v_paidStages v_grown v_pledges v_sums v_stages v_isStopped v_begun), (qarI (a 10) (d 10) 60 f_giver), (qarI (a 11) (d 11) 60 f_pence), (qarI (a 12) (d 12) 60 f_first), (qarI (a 13) (d 13) 60 f_every), (qarI (a 14) (d 14) 60 f_dues), (qarI (a 15) (d 15) 60 f_lapsedAt), (qarI (a 18) (d 18) 5040 f_due), (qarI (a 20) (d 20) 5040 f_isThere), (qarI (a 21) (d 21) 5040 f_counts), (qarI (a 16) (d 16) 60 f_isLapsed), (qarI (a 17) (d 17) 60 f_wasTakenUp), (qarI (a 19) (d 19) 5040 f_filled)] [((d 10), .int), ((d 11), .int), ((d 12), .int), ((d 13), .int), ((d 14), .int), ((d 15), .int), ((d 18), .int), ((d 20), .boolean), ((d 21), .boolean), ((d 16), .boolean), ((d 17), .boolean), ((d 19), .int)] sz)) (va_Qi (fun (r : Int32) (u : Int32 × (Nat → Int32) × (Nat → Int32) × (Nat → Int32) × (Nat → Int32) × (Nat → Int32) × (Nat → Int32) × (Nat → Int32) × (Nat → Int32) × (Nat → Int32) × (Nat → Pl9)) => match u with | (w_pledges, g_giver, g_pence, g_first, g_every, g_dues, g_lapsedAt, g_due, g_isThere, g_counts, tP2) => (Rple v_isStopped v_pledges v_clock x1 x2 x3 x4 x5 tP r w_pledges tP2) ∧ (mPd w_pledges g_dues) ∧ (mGi w_pledges g_giver) ∧ (mR w_pledges tP2 g_giver f_isLapsed f_wasTakenUp g_first g_every g_dues g_due f_filled g_isThere g_counts) ∧ (wfA w_pledges v_clock.toInt tP2)) (cB G (fun u => match u with | (w_pledges, g_giver, g_pence, g_first, g_every, g_dues, g_lapsedAt, g_due, g_isThere, g_counts, tP2) => [(cMq a h v_taped v_size v_from v_behind v_hand v_value v_fault v_faultAt v_clock v_coin v_loan v_matched v_taxed v_paidStages v_grown w_pledges v_sums v_stages v_isStopped v_begun), (qarI (a 10) (d 10) 60 g_giver), (qarI (a 11) (d 11) 60 g_pence), (qarI (a 12) (d 12) 60 g_first), (qarI (a 13) (d 13) 60 g_every), (qarI (a 14) (d 14) 60 g_dues), (qarI (a 15) (d 15) 60 g_lapsedAt), (qarI (a 18) (d 18) 5040 g_due), (qarI (a 20) (d 20) 5040 g_isThere), (qarI (a 21) (d 21) 5040 g_counts), (qarI (a 16) (d 16) 60 f_isLapsed), (qarI (a 17) (d 17) 60 f_wasTakenUp), (qarI (a 19) (d 19) 5040 f_filled)]) (fun u => match u with | (w_pledges, g_giver, g_pence, g_first, g_every, g_dues, g_lapsedAt, g_due, g_isThere, g_counts, tP2) => []) (va_A [(cMq a h v_taped v_size v_from v_behind v_hand v_value v_fault v_faultAt v_clock v_coin v_loan v_matched v_taxed v_paidStages v_grown v_pledges v_sums v_stages v_isStopped v_begun), (qarI (a 10) (d 10) 60 f_giver), (qarI (a 11) (d 11) 60 f_pence), (qarI (a 12) (d 12) 60 f_first), (qarI (a 13) (d 13) 60 f_every), (qarI (a 14) (d 14) 60 f_dues), (qarI (a 15) (d 15) 60 f_lapsedAt), (qarI (a 18) (d 18) 5040 f_due), (qarI (a 20) (d 20) 5040 f_isThere), (qarI (a 21) (d 21) 5040 f_counts), (qarI (a 16) (d 16) 60 f_isLapsed), (qarI (a 17) (d 17) 60 f_wasTakenUp), (qarI (a 19) (d 19) 5040 f_filled)] sz)) (va_A [(cMq a h v_taped v_size v_from v_behind v_hand v_value v_fault v_faultAt v_clock v_coin v_loan v_matched v_taxed v_paidStages v_grown v_pledges v_sums v_stages v_isStopped v_begun), (qarI (a 10) (d 10) 60 f_giver), (qarI (a 11) (d 11) 60 f_pence), (qarI (a 12) (d 12) 60 f_first), (qarI (a 13) (d 13) 60 f_every), (qarI (a 14) (d 14) 60 f_dues), (qarI (a 15) (d 15) 60 f_lapsedAt), (qarI (a 18) (d 18) 5040 f_due), (qarI (a 20) (d 20) 5040 f_isThere), (qarI (a 21) (d 21) 5040 f_counts), (qarI (a 16) (d 16) 60 f_isLapsed), (qarI (a 17) (d 17) 60 f_wasTakenUp), (qarI (a 19) (d 19) 5040 f_filled)] sz)) 0 0 (va_A [(cMq a h v_taped v_size v_from v_behind v_hand v_value v_fault v_faultAt v_clock v_coin v_loan v_matched v_taxed v_paidStages v_grown v_pledges v_sums v_stages v_isStopped v_begun), (qarI (a 10) (d 10) 60 f_giver), (qarI (a 11) (d 11) 60 f_pence), (qarI (a 12) (d 12) 60 f_first), (qarI (a 13) (d 13) 60 f_every), (qarI (a 14) (d 14) 60 f_dues), (qarI (a 15) (d 15) 60 f_lapsedAt), (qarI (a 18) (d 18) 5040 f_due), (qarI (a 20) (d 20) 5040 f_isThere), (qarI (a 21) (d 21) 5040 f_counts), (qarI (a 16) (d 16) 60 f_isLapsed), (qarI (a 17) (d 17) 60 f_wasTakenUp), (qarI (a 19) (d 19) 5040 f_filled)] sz) := by
  refine ofC_i (cc := cX12_pledge) (maxL := 8) (ret := (some .int)) (by decide) rfl (Nat.le_of_ble_eq_true rfl) ?_
  intro p e s m args below meth c A ls Q F hr hin hlk St hl hQ
  have hx := F.1
  have hb := F.2.1
  have hl : lv_has ls 8 [(0, .ref h), (1, .int x1), (2, .int x2), (3, .int x3), (4, .int x4), (5, .int x5)] := hl
  have St : cS G k [(cMq a h v_taped v_size v_from v_behind v_hand v_value v_fault v_faultAt v_clock v_coin v_loan v_matched v_taxed v_paidStages v_grown v_pledges v_sums v_stages v_isStopped v_begun), (qarI (a 10) (d 10) 60 f_giver), (qarI (a 11) (d 11) 60 f_pence), (qarI (a 12) (d 12) 60 f_first), (qarI (a 13) (d 13) 60 f_every), (qarI (a 14) (d 14) 60 f_dues), (qarI (a 15) (d 15) 60 f_lapsedAt), (qarI (a 18) (d 18) 5040 f_due), (qarI (a 20) (d 20) 5040 f_isThere), (qarI (a 21) (d 21) 5040 f_counts), (qarI (a 16) (d 16) 60 f_isLapsed), (qarI (a 17) (d 17) 60 f_wasTakenUp), (qarI (a 19) (d 19) 5040 f_filled)] [((d 10), .int), ((d 11), .int), ((d 12), .int), ((d 13), .int), ((d 14), .int), ((d 15), .int), ((d 18), .int), ((d 20), .boolean), ((d 21), .boolean), ((d 16), .boolean), ((d 17), .boolean), ((d 19), .int)] A s s.heap [] := St
  have hpd := hPd.1
  have y0 : (0 : Int32).toInt = 0 := by decide
  have hn5 := nc_int (x := v_pledges) (by omega)
  refine lv_iload_n hx hb dX12_pledge_0 rfl (lv_at hl 1 rfl) ?_
  refine cs_i St [] [0, 1, 2, 3, 4, 5, 6, 7, 8, 9, 10, 11, 12] (wc := []) (wr := [(cMq a h v_taped v_size v_from v_behind v_hand v_value v_fault v_faultAt v_clock v_coin v_loan v_matched v_taxed v_paidStages v_grown v_pledges v_sums v_stages v_isStopped v_begun), (qarI (a 10) (d 10) 60 f_giver), (qarI (a 11) (d 11) 60 f_pence), (qarI (a 12) (d 12) 60 f_first), (qarI (a 13) (d 13) 60 f_every), (qarI (a 14) (d 14) 60 f_dues), (qarI (a 15) (d 15) 60 f_lapsedAt), (qarI (a 18) (d 18) 5040 f_due), (qarI (a 20) (d 20) 5040 f_isThere), (qarI (a 21) (d 21) 5040 f_counts), (qarI (a 16) (d 16) 60 f_isLapsed), (qarI (a 17) (d 17) 60 f_wasTakenUp), (qarI (a 19) (d 19) 5040 f_filled)]) rfl rfl (by decide) (by decide) (va_runS (As := [.int x1]) (rest := []) F (c12_isGiver l G k _ x1) (cwSt F mf_X12_isGiver km_X12_218 rfl rfl ⟨Nat.le_of_ble_eq_true rfl, Nat.le_of_ble_eq_true rfl⟩) (cs_pre St [] rfl (by decide) [] rfl) rfl rfl hl.1 rfl (lv_room (Nat.le_of_ble_eq_true rfl)) dX12_pledge_1 ⟨Nat.le_of_ble_eq_true rfl, Nat.le_of_ble_eq_true rfl⟩) (fun r_1 u_2 H locs hw St => ?_)
  try dsimp only at hw
  rcases hw with ⟨z_3, hf_4⟩ | ⟨z_5, hf_6⟩
  ·
    subst r_1
    have St : cS G k [(cMq a h v_taped v_size v_from v_behind v_hand v_value v_fault v_faultAt v_clock v_coin v_loan v_matched v_taxed v_paidStages v_grown v_pledges v_sums v_stages v_isStopped v_begun), (qarI (a 10) (d 10) 60 f_giver), (qarI (a 11) (d 11) 60 f_pence), (qarI (a 12) (d 12) 60 f_first), (qarI (a 13) (d 13) 60 f_every), (qarI (a 14) (d 14) 60 f_dues), (qarI (a 15) (d 15) 60 f_lapsedAt), (qarI (a 18) (d 18) 5040 f_due), (qarI (a 20) (d 20) 5040 f_isThere), (qarI (a 21) (d 21) 5040 f_counts), (qarI (a 16) (d 16) 60 f_isLapsed), (qarI (a 17) (d 17) 60 f_wasTakenUp), (qarI (a 19) (d 19) 5040 f_filled)] [((d 10), .int), ((d 11), .int), ((d 12), .int), ((d 13), .int), ((d 14), .int), ((d 15), .int), ((d 18), .int), ((d 20), .boolean), ((d 21), .boolean), ((d 16), .boolean), ((d 17), .boolean), ((d 19), .int)] A s H locs := St
    refine lv_if_eq (tgt := 61) hx hb dX12_pledge_4 (by decide) (fun c4 => ?_) (fun c4 => ?_)
    · exact absurd c4 (by decide)
    refine lv_iload_n hx hb dX12_pledge_7 rfl (lv_at hl 2 rfl) ?_
    refine lv_i2l (v := x2.toInt64) hx hb dX12_pledge_8 rfl ?_
    refine lv_lconst (v := 1) hx hb dX12_pledge_9 (by decide) ?_
    refine lv_ldc2 (v := 100000) hx hb F.2.2.2.1 (F.2.2.2.2 _ kk_X12_228) dX12_pledge_10 ?_
    refine cs_i St [] [0, 1, 2, 3, 4, 5, 6, 7, 8, 9, 10, 11, 12] (wc := []) (wr := [(cMq a h v_taped v_size v_from v_behind v_hand v_value v_fault v_faultAt v_clock v_coin v_loan v_matched v_taxed v_paidStages v_grown v_pledges v_sums v_stages v_isStopped v_begun), (qarI (a 10) (d 10) 60 f_giver), (qarI (a 11) (d 11) 60 f_pence), (qarI (a 12) (d 12) 60 f_first), (qarI (a 13) (d 13) 60 f_every), (qarI (a 14) (d 14) 60 f_dues), (qarI (a 15) (d 15) 60 f_lapsedAt), (qarI (a 18) (d 18) 5040 f_due), (qarI (a 20) (d 20) 5040 f_isThere), (qarI (a 21) (d 21) 5040 f_counts), (qarI (a 16) (d 16) 60 f_isLapsed), (qarI (a 17) (d 17) 60 f_wasTakenUp), (qarI (a 19) (d 19) 5040 f_filled)]) rfl rfl (by decide) (by decide) (va_runS (As := [.long x2.toInt64, .long 1, .long 100000]) (rest := []) F (c12_in l G k _ x2.toInt64 1 100000 x2.toInt 1 100000 (Int32.toInt_toInt64 x2) (by decide) (by decide)) (cwSt F mf_X12_in km_X12_58 rfl rfl ⟨Nat.le_of_ble_eq_true rfl, Nat.le_of_ble_eq_true rfl⟩) (cs_pre St [] rfl (by decide) [] rfl) rfl rfl hl.1 rfl (lv_room (Nat.le_of_ble_eq_true rfl)) dX12_pledge_13 ⟨Nat.le_of_ble_eq_true rfl, Nat.le_of_ble_eq_true rfl⟩) (fun r_7 u_8 H locs hw St => ?_)
    try dsimp only at hw
    rcases hw with ⟨z_9, hf_10⟩ | ⟨z_11, hf_12⟩
    ·
      subst r_7
      have St : cS G k [(cMq a h v_taped v_size v_from v_behind v_hand v_value v_fault v_faultAt v_clock v_coin v_loan v_matched v_taxed v_paidStages v_grown v_pledges v_sums v_stages v_isStopped v_begun), (qarI (a 10) (d 10) 60 f_giver), (qarI (a 11) (d 11) 60 f_pence), (qarI (a 12) (d 12) 60 f_first), (qarI (a 13) (d 13) 60 f_every), (qarI (a 14) (d 14) 60 f_dues), (qarI (a 15) (d 15) 60 f_lapsedAt), (qarI (a 18) (d 18) 5040 f_due), (qarI (a 20) (d 20) 5040 f_isThere), (qarI (a 21) (d 21) 5040 f_counts), (qarI (a 16) (d 16) 60 f_isLapsed), (qarI (a 17) (d 17) 60 f_wasTakenUp), (qarI (a 19) (d 19) 5040 f_filled)] [((d 10), .int), ((d 11), .int), ((d 12), .int), ((d 13), .int), ((d 14), .int), ((d 15), .int), ((d 18), .int), ((d 20), .boolean), ((d 21), .boolean), ((d 16), .boolean), ((d 17), .boolean), ((d 19), .int)] A s H locs := St
      refine lv_if_eq (tgt := 61) hx hb dX12_pledge_16 (by decide) (fun c16 => ?_) (fun c16 => ?_)
      · exact absurd c16 (by decide)
      refine lv_iload_n hx hb dX12_pledge_19 rfl (lv_at hl 3 rfl) ?_
      refine lv_i2l (v := x3.toInt64) hx hb dX12_pledge_20 rfl ?_
      refine lv_aload_n hx hb dX12_pledge_21 rfl (lv_at hl 0 rfl) ?_
      refine cs_get F St 0 rfl rfl inX12 13 (by decide) kf_X12_230 rfl dX12_pledge_22 ?_
      refine lv_i2l (v := v_clock.toInt64) hx hb dX12_pledge_25 rfl ?_
      refine lv_ldc2 (v := 119) hx hb F.2.2.2.1 (F.2.2.2.2 _ kk_X12_216) dX12_pledge_26 ?_
      refine cs_i St [] [0, 1, 2, 3, 4, 5, 6, 7, 8, 9, 10, 11, 12] (wc := []) (wr := [(cMq a h v_taped v_size v_from v_behind v_hand v_value v_fault v_faultAt v_clock v_coin v_loan v_matched v_taxed v_paidStages v_grown v_pledges v_sums v_stages v_isStopped v_begun), (qarI (a 10) (d 10) 60 f_giver), (qarI (a 11) (d 11) 60 f_pence), (qarI (a 12) (d 12) 60 f_first), (qarI (a 13) (d 13) 60 f_every), (qarI (a 14) (d 14) 60 f_dues), (qarI (a 15) (d 15) 60 f_lapsedAt), (qarI (a 18) (d 18) 5040 f_due), (qarI (a 20) (d 20) 5040 f_isThere), (qarI (a 21) (d 21) 5040 f_counts), (qarI (a 16) (d 16) 60 f_isLapsed), (qarI (a 17) (d 17) 60 f_wasTakenUp), (qarI (a 19) (d 19) 5040 f_filled)]) rfl rfl (by decide) (by decide) (va_runS (As := [.long x3.toInt64, .long v_clock.toInt64, .long 119]) (rest := []) F (c12_in l G k _ x3.toInt64 v_clock.toInt64 119 x3.toInt v_clock.toInt 119 (Int32.toInt_toInt64 x3) (Int32.toInt_toInt64 v_clock) (by decide)) (cwSt F mf_X12_in km_X12_58 rfl rfl ⟨Nat.le_of_ble_eq_true rfl, Nat.le_of_ble_eq_true rfl⟩) (cs_pre St [] rfl (by decide) [] rfl) rfl rfl hl.1 rfl (lv_room (Nat.le_of_ble_eq_true rfl)) dX12_pledge_29 ⟨Nat.le_of_ble_eq_true rfl, Nat.le_of_ble_eq_true rfl⟩) (fun r_13 u_14 H locs hw St => ?_)
      try dsimp only at hw
      rcases hw with ⟨z_15, hf_16⟩ | ⟨z_17, hf_18⟩
      ·
        subst r_13
        have St : cS G k [(cMq a h v_taped v_size v_from v_behind v_hand v_value v_fault v_faultAt v_clock v_coin v_loan v_matched v_taxed v_paidStages v_grown v_pledges v_sums v_stages v_isStopped v_begun), (qarI (a 10) (d 10) 60 f_giver), (qarI (a 11) (d 11) 60 f_pence), (qarI (a 12) (d 12) 60 f_first), (qarI (a 13) (d 13) 60 f_every), (qarI (a 14) (d 14) 60 f_dues), (qarI (a 15) (d 15) 60 f_lapsedAt), (qarI (a 18) (d 18) 5040 f_due), (qarI (a 20) (d 20) 5040 f_isThere), (qarI (a 21) (d 21) 5040 f_counts), (qarI (a 16) (d 16) 60 f_isLapsed), (qarI (a 17) (d 17) 60 f_wasTakenUp), (qarI (a 19) (d 19) 5040 f_filled)] [((d 10), .int), ((d 11), .int), ((d 12), .int), ((d 13), .int), ((d 14), .int), ((d 15), .int), ((d 18), .int), ((d 20), .boolean), ((d 21), .boolean), ((d 16), .boolean), ((d 17), .boolean), ((d 19), .int)] A s H locs := St
        refine lv_if_eq (tgt := 61) hx hb dX12_pledge_32 (by decide) (fun c32 => ?_) (fun c32 => ?_)
        · exact absurd c32 (by decide)
        refine lv_iload hx hb dX12_pledge_35 (lv_at hl 4 rfl) ?_
        refine lv_i2l (v := x4.toInt64) hx hb dX12_pledge_37 rfl ?_
        refine lv_lconst (v := 1) hx hb dX12_pledge_38 (by decide) ?_
        refine lv_ldc2 (v := 12) hx hb F.2.2.2.1 (F.2.2.2.2 _ kk_X12_233) dX12_pledge_39 ?_
        refine cs_i St [] [0, 1, 2, 3, 4, 5, 6, 7, 8, 9, 10, 11, 12] (wc := []) (wr := [(cMq a h v_taped v_size v_from v_behind v_hand v_value v_fault v_faultAt v_clock v_coin v_loan v_matched v_taxed v_paidStages v_grown v_pledges v_sums v_stages v_isStopped v_begun), (qarI (a 10) (d 10) 60 f_giver), (qarI (a 11) (d 11) 60 f_pence), (qarI (a 12) (d 12) 60 f_first), (qarI (a 13) (d 13) 60 f_every), (qarI (a 14) (d 14) 60 f_dues), (qarI (a 15) (d 15) 60 f_lapsedAt), (qarI (a 18) (d 18) 5040 f_due), (qarI (a 20) (d 20) 5040 f_isThere), (qarI (a 21) (d 21) 5040 f_counts), (qarI (a 16) (d 16) 60 f_isLapsed), (qarI (a 17) (d 17) 60 f_wasTakenUp), (qarI (a 19) (d 19) 5040 f_filled)]) rfl rfl (by decide) (by decide) (va_runS (As := [.long x4.toInt64, .long 1, .long 12]) (rest := []) F (c12_in l G k _ x4.toInt64 1 12 x4.toInt 1 12 (Int32.toInt_toInt64 x4) (by decide) (by decide)) (cwSt F mf_X12_in km_X12_58 rfl rfl ⟨Nat.le_of_ble_eq_true rfl, Nat.le_of_ble_eq_true rfl⟩) (cs_pre St [] rfl (by decide) [] rfl) rfl rfl hl.1 rfl (lv_room (Nat.le_of_ble_eq_true rfl)) dX12_pledge_42 ⟨Nat.le_of_ble_eq_true rfl, Nat.le_of_ble_eq_true rfl⟩) (fun r_19 u_20 H locs hw St => ?_)
        try dsimp only at hw
        rcases hw with ⟨z_21, hf_22⟩ | ⟨z_23, hf_24⟩
        ·
          subst r_19
          have St : cS G k [(cMq a h v_taped v_size v_from v_behind v_hand v_value v_fault v_faultAt v_clock v_coin v_loan v_matched v_taxed v_paidStages v_grown v_pledges v_sums v_stages v_isStopped v_begun), (qarI (a 10) (d 10) 60 f_giver), (qarI (a 11) (d 11) 60 f_pence), (qarI (a 12) (d 12) 60 f_first), (qarI (a 13) (d 13) 60 f_every), (qarI (a 14) (d 14) 60 f_dues), (qarI (a 15) (d 15) 60 f_lapsedAt), (qarI (a 18) (d 18) 5040 f_due), (qarI (a 20) (d 20) 5040 f_isThere), (qarI (a 21) (d 21) 5040 f_counts), (qarI (a 16) (d 16) 60 f_isLapsed), (qarI (a 17) (d 17) 60 f_wasTakenUp), (qarI (a 19) (d 19) 5040 f_filled)] [((d 10), .int), ((d 11), .int), ((d 12), .int), ((d 13), .int), ((d 14), .int), ((d 15), .int), ((d 18), .int), ((d 20), .boolean), ((d 21), .boolean), ((d 16), .boolean), ((d 17), .boolean), ((d 19), .int)] A s H locs := St
          refine lv_if_eq (tgt := 61) hx hb dX12_pledge_45 (by decide) (fun c45 => ?_) (fun c45 => ?_)
          · exact absurd c45 (by decide)
          refine lv_iload hx hb dX12_pledge_48 (lv_at hl 5 rfl) ?_
          refine lv_i2l (v := x5.toInt64) hx hb dX12_pledge_50 rfl ?_
          refine lv_lconst (v := 1) hx hb dX12_pledge_51 (by decide) ?_
          refine lv_ldc2 (v := 84) hx hb F.2.2.2.1 (F.2.2.2.2 _ kk_X12_235) dX12_pledge_52 ?_
          refine cs_i St [] [0, 1, 2, 3, 4, 5, 6, 7, 8, 9, 10, 11, 12] (wc := []) (wr := [(cMq a h v_taped v_size v_from v_behind v_hand v_value v_fault v_faultAt v_clock v_coin v_loan v_matched v_taxed v_paidStages v_grown v_pledges v_sums v_stages v_isStopped v_begun), (qarI (a 10) (d 10) 60 f_giver), (qarI (a 11) (d 11) 60 f_pence), (qarI (a 12) (d 12) 60 f_first), (qarI (a 13) (d 13) 60 f_every), (qarI (a 14) (d 14) 60 f_dues), (qarI (a 15) (d 15) 60 f_lapsedAt), (qarI (a 18) (d 18) 5040 f_due), (qarI (a 20) (d 20) 5040 f_isThere), (qarI (a 21) (d 21) 5040 f_counts), (qarI (a 16) (d 16) 60 f_isLapsed), (qarI (a 17) (d 17) 60 f_wasTakenUp), (qarI (a 19) (d 19) 5040 f_filled)]) rfl rfl (by decide) (by decide) (va_runS (As := [.long x5.toInt64, .long 1, .long 84]) (rest := []) F (c12_in l G k _ x5.toInt64 1 84 x5.toInt 1 84 (Int32.toInt_toInt64 x5) (by decide) (by decide)) (cwSt F mf_X12_in km_X12_58 rfl rfl ⟨Nat.le_of_ble_eq_true rfl, Nat.le_of_ble_eq_true rfl⟩) (cs_pre St [] rfl (by decide) [] rfl) rfl rfl hl.1 rfl (lv_room (Nat.le_of_ble_eq_true rfl)) dX12_pledge_55 ⟨Nat.le_of_ble_eq_true rfl, Nat.le_of_ble_eq_true rfl⟩) (fun r_25 u_26 H locs hw St => ?_)
          try dsimp only at hw
          rcases hw with ⟨z_27, hf_28⟩ | ⟨z_29, hf_30⟩
          ·
            subst r_25
            have St : cS G k [(cMq a h v_taped v_size v_from v_behind v_hand v_value v_fault v_faultAt v_clock v_coin v_loan v_matched v_taxed v_paidStages v_grown v_pledges v_sums v_stages v_isStopped v_begun), (qarI (a 10) (d 10) 60 f_giver), (qarI (a 11) (d 11) 60 f_pence), (qarI (a 12) (d 12) 60 f_first), (qarI (a 13) (d 13) 60 f_every), (qarI (a 14) (d 14) 60 f_dues), (qarI (a 15) (d 15) 60 f_lapsedAt), (qarI (a 18) (d 18) 5040 f_due), (qarI (a 20) (d 20) 5040 f_isThere), (qarI (a 21) (d 21) 5040 f_counts), (qarI (a 16) (d 16) 60 f_isLapsed), (qarI (a 17) (d 17) 60 f_wasTakenUp), (qarI (a 19) (d 19) 5040 f_filled)] [((d 10), .int), ((d 11), .int), ((d 12), .int), ((d 13), .int), ((d 14), .int), ((d 15), .int), ((d 18), .int), ((d 20), .boolean), ((d 21), .boolean), ((d 16), .boolean), ((d 17), .boolean), ((d 19), .int)] A s H locs := St
            refine lv_if_ne (tgt := 64) hx hb dX12_pledge_58 (by decide) (fun c58 => ?_) (fun c58 => ?_)
            rotate_left
            · exact absurd c58 (by decide)
            refine lv_aload_n hx hb dX12_pledge_64 rfl (lv_at hl 0 rfl) ?_
            refine cs_get F St 0 rfl rfl inX12 23 (by decide) kf_X12_224 rfl dX12_pledge_65 ?_
            refine lv_if_eq (tgt := 74) hx hb dX12_pledge_68 (by decide) (fun c68 => ?_) (fun c68 => ?_)
            ·
              have i68 := ci_eq (x := v_isStopped) (y := 0) rfl (show (0 : Int32).toInt = 0 by decide) c68
              refine lv_aload_n hx hb dX12_pledge_74 rfl (lv_at hl 0 rfl) ?_
              refine cs_get F St 0 rfl rfl inX12 20 (by decide) kf_X12_237 rfl dX12_pledge_75 ?_
              refine lv_bipush (v := 60) hx hb dX12_pledge_78 (by decide) ?_
              refine lv_icmp_ne (tgt := 86) hx hb dX12_pledge_80 (by decide) (fun c80 => ?_) (fun c80 => ?_)
              ·
                have i80 := ci_ne (x := v_pledges) (y := 60) rfl (show (60 : Int32).toInt = 60 by decide) c80
                refine lv_aload_n hx hb dX12_pledge_86 rfl (lv_at hl 0 rfl) ?_
                refine cs_get F St 0 rfl rfl inX12 20 (by decide) kf_X12_237 rfl dX12_pledge_87 ?_
                refine lv_istore (lv' := [(6, .int v_pledges), (0, .ref h), (1, .int x1), (2, .int x2), (3, .int x3), (4, .int x4), (5, .int x5)]) hx hb dX12_pledge_90 hl (by decide) rfl (fun ls hl => ?_)
                refine lv_aload_n hx hb dX12_pledge_92 rfl (lv_at hl 1 rfl) ?_
                refine cs_get F St 0 rfl rfl inX12 29 (by decide) kf_X12_135 rfl dX12_pledge_93 ?_
                refine lv_iload hx hb dX12_pledge_96 (lv_at hl 0 rfl) ?_
                refine lv_iload_n hx hb dX12_pledge_98 rfl (lv_at hl 2 rfl) ?_
                refine cs_ist F St 1 0 rfl rfl (vp_in_iff.mpr ⟨by omega, by omega⟩) (w' := [(cMq a h v_taped v_size v_from v_behind v_hand v_value v_fault v_faultAt v_clock v_coin v_loan v_matched v_taxed v_paidStages v_grown v_pledges v_sums v_stages v_isStopped v_begun), (qarI (a 10) (d 10) 60 (upd f_giver (v_pledges : Int32).toNatClampNeg x1)), (qarI (a 11) (d 11) 60 f_pence), (qarI (a 12) (d 12) 60 f_first), (qarI (a 13) (d 13) 60 f_every), (qarI (a 14) (d 14) 60 f_dues), (qarI (a 15) (d 15) 60 f_lapsedAt), (qarI (a 18) (d 18) 5040 f_due), (qarI (a 20) (d 20) 5040 f_isThere), (qarI (a 21) (d 21) 5040 f_counts), (qarI (a 16) (d 16) 60 f_isLapsed), (qarI (a 17) (d 17) 60 f_wasTakenUp), (qarI (a 19) (d 19) 5040 f_filled)]) rfl dX12_pledge_99 (fun H locs St => ?_)
                obtain ⟨f_31, ef_31⟩ : ∃ zz : Nat → Int32, zz = upd f_giver (v_pledges : Int32).toNatClampNeg x1 := ⟨_, rfl⟩
                rw [← ef_31] at St
                refine lv_aload_n hx hb dX12_pledge_100 rfl (lv_at hl 1 rfl) ?_
                refine cs_get F St 0 rfl rfl inX12 30 (by decide) kf_X12_138 rfl dX12_pledge_101 ?_
                refine lv_iload hx hb dX12_pledge_104 (lv_at hl 0 rfl) ?_
                refine lv_iload_n hx hb dX12_pledge_106 rfl (lv_at hl 3 rfl) ?_
                refine cs_ist F St 2 1 rfl rfl (vp_in_iff.mpr ⟨by omega, by omega⟩) (w' := [(cMq a h v_taped v_size v_from v_behind v_hand v_value v_fault v_faultAt v_clock v_coin v_loan v_matched v_taxed v_paidStages v_grown v_pledges v_sums v_stages v_isStopped v_begun), (qarI (a 10) (d 10) 60 f_31), (qarI (a 11) (d 11) 60 (upd f_pence (v_pledges : Int32).toNatClampNeg x2)), (qarI (a 12) (d 12) 60 f_first), (qarI (a 13) (d 13) 60 f_every), (qarI (a 14) (d 14) 60 f_dues), (qarI (a 15) (d 15) 60 f_lapsedAt), (qarI (a 18) (d 18) 5040 f_due), (qarI (a 20) (d 20) 5040 f_isThere), (qarI (a 21) (d 21) 5040 f_counts), (qarI (a 16) (d 16) 60 f_isLapsed), (qarI (a 17) (d 17) 60 f_wasTakenUp), (qarI (a 19) (d 19) 5040 f_filled)]) rfl dX12_pledge_107 (fun H locs St => ?_)
                obtain ⟨f_32, ef_32⟩ : ∃ zz : Nat → Int32, zz = upd f_pence (v_pledges : Int32).toNatClampNeg x2 := ⟨_, rfl⟩
                rw [← ef_32] at St
                refine lv_aload_n hx hb dX12_pledge_108 rfl (lv_at hl 1 rfl) ?_
                refine cs_get F St 0 rfl rfl inX12 31 (by decide) kf_X12_141 rfl dX12_pledge_109 ?_
                refine lv_iload hx hb dX12_pledge_112 (lv_at hl 0 rfl) ?_
                refine lv_iload_n hx hb dX12_pledge_114 rfl (lv_at hl 4 rfl) ?_
                refine cs_ist F St 3 2 rfl rfl (vp_in_iff.mpr ⟨by omega, by omega⟩) (w' := [(cMq a h v_taped v_size v_from v_behind v_hand v_value v_fault v_faultAt v_clock v_coin v_loan v_matched v_taxed v_paidStages v_grown v_pledges v_sums v_stages v_isStopped v_begun), (qarI (a 10) (d 10) 60 f_31), (qarI (a 11) (d 11) 60 f_32), (qarI (a 12) (d 12) 60 (upd f_first (v_pledges : Int32).toNatClampNeg x3)), (qarI (a 13) (d 13) 60 f_every), (qarI (a 14) (d 14) 60 f_dues), (qarI (a 15) (d 15) 60 f_lapsedAt), (qarI (a 18) (d 18) 5040 f_due), (qarI (a 20) (d 20) 5040 f_isThere), (qarI (a 21) (d 21) 5040 f_counts), (qarI (a 16) (d 16) 60 f_isLapsed), (qarI (a 17) (d 17) 60 f_wasTakenUp), (qarI (a 19) (d 19) 5040 f_filled)]) rfl dX12_pledge_115 (fun H locs St => ?_)
                obtain ⟨f_33, ef_33⟩ : ∃ zz : Nat → Int32, zz = upd f_first (v_pledges : Int32).toNatClampNeg x3 := ⟨_, rfl⟩
                rw [← ef_33] at St
                refine lv_aload_n hx hb dX12_pledge_116 rfl (lv_at hl 1 rfl) ?_
                refine cs_get F St 0 rfl rfl inX12 32 (by decide) kf_X12_144 rfl dX12_pledge_117 ?_
                refine lv_iload hx hb dX12_pledge_120 (lv_at hl 0 rfl) ?_
                refine lv_iload hx hb dX12_pledge_122 (lv_at hl 5 rfl) ?_
                refine cs_ist F St 4 3 rfl rfl (vp_in_iff.mpr ⟨by omega, by omega⟩) (w' := [(cMq a h v_taped v_size v_from v_behind v_hand v_value v_fault v_faultAt v_clock v_coin v_loan v_matched v_taxed v_paidStages v_grown v_pledges v_sums v_stages v_isStopped v_begun), (qarI (a 10) (d 10) 60 f_31), (qarI (a 11) (d 11) 60 f_32), (qarI (a 12) (d 12) 60 f_33), (qarI (a 13) (d 13) 60 (upd f_every (v_pledges : Int32).toNatClampNeg x4)), (qarI (a 14) (d 14) 60 f_dues), (qarI (a 15) (d 15) 60 f_lapsedAt), (qarI (a 18) (d 18) 5040 f_due), (qarI (a 20) (d 20) 5040 f_isThere), (qarI (a 21) (d 21) 5040 f_counts), (qarI (a 16) (d 16) 60 f_isLapsed), (qarI (a 17) (d 17) 60 f_wasTakenUp), (qarI (a 19) (d 19) 5040 f_filled)]) rfl dX12_pledge_124 (fun H locs St => ?_)
                obtain ⟨f_34, ef_34⟩ : ∃ zz : Nat → Int32, zz = upd f_every (v_pledges : Int32).toNatClampNeg x4 := ⟨_, rfl⟩
                rw [← ef_34] at St
                refine lv_aload_n hx hb dX12_pledge_125 rfl (lv_at hl 1 rfl) ?_
                refine cs_get F St 0 rfl rfl inX12 33 (by decide) kf_X12_147 rfl dX12_pledge_126 ?_
                refine lv_iload hx hb dX12_pledge_129 (lv_at hl 0 rfl) ?_
                refine lv_iload hx hb dX12_pledge_131 (lv_at hl 6 rfl) ?_
                refine cs_ist F St 5 4 rfl rfl (vp_in_iff.mpr ⟨by omega, by omega⟩) (w' := [(cMq a h v_taped v_size v_from v_behind v_hand v_value v_fault v_faultAt v_clock v_coin v_loan v_matched v_taxed v_paidStages v_grown v_pledges v_sums v_stages v_isStopped v_begun), (qarI (a 10) (d 10) 60 f_31), (qarI (a 11) (d 11) 60 f_32), (qarI (a 12) (d 12) 60 f_33), (qarI (a 13) (d 13) 60 f_34), (qarI (a 14) (d 14) 60 (upd f_dues (v_pledges : Int32).toNatClampNeg x5)), (qarI (a 15) (d 15) 60 f_lapsedAt), (qarI (a 18) (d 18) 5040 f_due), (qarI (a 20) (d 20) 5040 f_isThere), (qarI (a 21) (d 21) 5040 f_counts), (qarI (a 16) (d 16) 60 f_isLapsed), (qarI (a 17) (d 17) 60 f_wasTakenUp), (qarI (a 19) (d 19) 5040 f_filled)]) rfl dX12_pledge_133 (fun H locs St => ?_)
                obtain ⟨f_35, ef_35⟩ : ∃ zz : Nat → Int32, zz = upd f_dues (v_pledges : Int32).toNatClampNeg x5 := ⟨_, rfl⟩
                rw [← ef_35] at St
                refine lv_aload_n hx hb dX12_pledge_134 rfl (lv_at hl 1 rfl) ?_
                refine cs_get F St 0 rfl rfl inX12 34 (by decide) kf_X12_150 rfl dX12_pledge_135 ?_
                refine lv_iload hx hb dX12_pledge_138 (lv_at hl 0 rfl) ?_
                refine lv_iconst (v := (-1)) hx hb dX12_pledge_140 (by decide) ?_
                refine cs_ist F St 6 5 rfl rfl (vp_in_iff.mpr ⟨by omega, by omega⟩) (w' := [(cMq a h v_taped v_size v_from v_behind v_hand v_value v_fault v_faultAt v_clock v_coin v_loan v_matched v_taxed v_paidStages v_grown v_pledges v_sums v_stages v_isStopped v_begun), (qarI (a 10) (d 10) 60 f_31), (qarI (a 11) (d 11) 60 f_32), (qarI (a 12) (d 12) 60 f_33), (qarI (a 13) (d 13) 60 f_34), (qarI (a 14) (d 14) 60 f_35), (qarI (a 15) (d 15) 60 (upd f_lapsedAt (v_pledges : Int32).toNatClampNeg (-1))), (qarI (a 18) (d 18) 5040 f_due), (qarI (a 20) (d 20) 5040 f_isThere), (qarI (a 21) (d 21) 5040 f_counts), (qarI (a 16) (d 16) 60 f_isLapsed), (qarI (a 17) (d 17) 60 f_wasTakenUp), (qarI (a 19) (d 19) 5040 f_filled)]) rfl dX12_pledge_141 (fun H locs St => ?_)
                obtain ⟨f_36, ef_36⟩ : ∃ zz : Nat → Int32, zz = upd f_lapsedAt (v_pledges : Int32).toNatClampNeg (-1) := ⟨_, rfl⟩
                rw [← ef_36] at St
                refine lv_iconst (v := 0) hx hb dX12_pledge_142 (by decide) ?_
                refine lv_istore (lv' := [(7, .int 0), (6, .int v_pledges), (0, .ref h), (1, .int x1), (2, .int x2), (3, .int x3), (4, .int x4), (5, .int x5)]) hx hb dX12_pledge_143 hl (by decide) rfl (fun ls hl => ?_)
                have lp145 : ∀ (n : Nat) (kk : Int32) (gd : Nat → Int32) (gt : Nat → Int32) (gc : Nat → Int32) (H : Heap) (locs : List Loc) (ls : Array Slot), ((0 ≤ kk.toInt ∧ kk.toInt ≤ x5.toInt) ∧ plI v_pledges.toNatClampNeg kk.toNatClampNeg x2 x3 x4 f_due f_isThere f_counts gd gt gc) → ((84 - kk.toInt).toNat) < n → cS G k [(cMq a h v_taped v_size v_from v_behind v_hand v_value v_fault v_faultAt v_clock v_coin v_loan v_matched v_taxed v_paidStages v_grown v_pledges v_sums v_stages v_isStopped v_begun), (qarI (a 10) (d 10) 60 f_31), (qarI (a 11) (d 11) 60 f_32), (qarI (a 12) (d 12) 60 f_33), (qarI (a 13) (d 13) 60 f_34), (qarI (a 14) (d 14) 60 f_35), (qarI (a 15) (d 15) 60 f_36), (qarI (a 18) (d 18) 5040 gd), (qarI (a 20) (d 20) 5040 gt), (qarI (a 21) (d 21) 5040 gc), (qarI (a 16) (d 16) 60 f_isLapsed), (qarI (a 17) (d 17) 60 f_wasTakenUp), (qarI (a 19) (d 19) 5040 f_filled)] [((d 10), .int), ((d 11), .int), ((d 12), .int), ((d 13), .int), ((d 14), .int), ((d 15), .int), ((d 18), .int), ((d 20), .boolean), ((d 21), .boolean), ((d 16), .boolean), ((d 17), .boolean), ((d 19), .int)] A s H locs → lv_has ls 8 [(7, .int kk), (6, .int v_pledges), (0, .ref h), (1, .int x1), (2, .int x2), (3, .int x3), (4, .int x4), (5, .int x5)] → W p l e ({ frames := 2, cells := 0, slots := 0, locals := 45 } : Room) s m args below meth c H locs 0 0 Q (F0 m 145 ls []) := by
                  intro n
                  induction n with
                  | zero => intro kk gd gt gc H locs ls hI hn; exact absurd hn (Nat.not_lt_zero _)
                  | succ n ih =>
                    intro kk gd gt gc H locs ls hI hn St hl
                    obtain ⟨⟨hI0, hI1⟩, hPI⟩ := hI
                    have nk := nc_int hI0
                    refine lv_iload hx hb dX12_pledge_145 (lv_at hl 0 rfl) ?_
                    refine lv_iload hx hb dX12_pledge_147 (lv_at hl 7 rfl) ?_
                    refine lv_icmp_ge (tgt := 229) hx hb dX12_pledge_149 (by decide) (fun c149 => ?_) (fun c149 => ?_)
                    ·
                      have i149 := ci_le (x := x5) (y := kk) rfl rfl c149
                      refine lv_aload_n hx hb dX12_pledge_229 rfl (lv_at hl 2 rfl) ?_
                      refine lv_dup hx hb dX12_pledge_230 rfl ?_
                      refine cs_get F St 0 rfl rfl inX12 20 (by decide) kf_X12_237 rfl dX12_pledge_231 ?_
                      refine lv_iconst (v := 1) hx hb dX12_pledge_234 (by decide) ?_
                      refine lv_iadd hx hb dX12_pledge_235 ?_
                      refine lv_topi (fun y_37 ey_37 => ?_)
                      first | have jy_37 : y_37.toInt = v_pledges.toInt + 1 := (by have q9 := ci_add (x := v_pledges) (y := 1) rfl (show (1 : Int32).toInt = 1 by decide) ey_37; omega) | have jy_37 := ci_add (x := v_pledges) (y := 1) rfl (show (1 : Int32).toInt = 1 by decide) ey_37
                      refine cs_put F St 0 rfl rfl inX12 tyX12_ok nmX12 20 (by decide) kf_X12_237 rfl rfl rfl (Nat.le_of_ble_eq_true rfl) (w' := [(cMq a h v_taped v_size v_from v_behind v_hand v_value v_fault v_faultAt v_clock v_coin v_loan v_matched v_taxed v_paidStages v_grown y_37 v_sums v_stages v_isStopped v_begun), (qarI (a 10) (d 10) 60 f_31), (qarI (a 11) (d 11) 60 f_32), (qarI (a 12) (d 12) 60 f_33), (qarI (a 13) (d 13) 60 f_34), (qarI (a 14) (d 14) 60 f_35), (qarI (a 15) (d 15) 60 f_36), (qarI (a 18) (d 18) 5040 gd), (qarI (a 20) (d 20) 5040 gt), (qarI (a 21) (d 21) 5040 gc), (qarI (a 16) (d 16) 60 f_isLapsed), (qarI (a 17) (d 17) 60 f_wasTakenUp), (qarI (a 19) (d 19) 5040 f_filled)]) rfl dX12_pledge_236 (fun H locs St => ?_)
                      refine lv_iload hx hb dX12_pledge_239 (lv_at hl 1 rfl) ?_
                      have hkx : kk.toNatClampNeg = x5.toNatClampNeg := by have q9 := nc_int (x := x5) (by omega); omega
                      rw [hkx] at hPI
                      have hMn := mR_new (x1 := x1) (n2 := y_37) hM (fun i_ h_ => ⟨_, hA i_ h_⟩) (by omega) (by omega) (by omega) hPI
                      exact cs_iret F hr hlk hQ St (y_37, f_31, f_32, f_33, f_34, f_35, f_36, gd, gt, gc, (tbS tP v_pledges.toNatClampNeg (nwT x1 x2 x3 x4 x5))) (r := v_pledges) ⟨Or.inr (Or.inr (Or.inr (⟨rfl, ⟨by unfold Cpn; omega, by omega, by omega⟩, by omega, rfl⟩))), by rw [ef_35]; exact mPd_up hPd (by omega) (by omega) (by omega), by rw [ef_31]; exact mGi_up (by omega) hPg (by omega) (by omega), by rw [ef_31, ef_33, ef_34, ef_35]; exact hMn, wfA_new hA (by omega) (by omega) (nw_wf (by omega) (by omega) (by omega) (by omega) (by omega))⟩ [0, 1, 2, 3, 4, 5, 6, 7, 8, 9, 10, 11, 12] rfl (by decide) [] rfl (by decide) (by decide) dX12_pledge_241
                    ·
                      have i149 := ci_nle (x := x5) (y := kk) rfl rfl c149
                      refine lv_aload_n hx hb dX12_pledge_152 rfl (lv_at hl 2 rfl) ?_
                      refine cs_get F St 0 rfl rfl inX12 37 (by decide) kf_X12_159 rfl dX12_pledge_153 ?_
                      refine lv_bipush (v := 84) hx hb dX12_pledge_156 (by decide) ?_
                      refine lv_iload hx hb dX12_pledge_158 (lv_at hl 1 rfl) ?_
                      refine lv_imul hx hb dX12_pledge_160 ?_
                      refine lv_topi (fun y_38 ey_38 => ?_)
                      first | have jy_38 : y_38.toInt = 84 * v_pledges.toInt := (by have q9 := ci_mul (x := 84) (y := v_pledges) (show (84 : Int32).toInt = 84 by decide) rfl ey_38; omega) | have jy_38 := ci_mul (x := 84) (y := v_pledges) (show (84 : Int32).toInt = 84 by decide) rfl ey_38
                      refine lv_iload hx hb dX12_pledge_161 (lv_at hl 0 rfl) ?_
                      refine lv_iadd hx hb dX12_pledge_163 ?_
                      refine lv_topi (fun y_39 ey_39 => ?_)
                      first | have jy_39 : y_39.toInt = y_38.toInt + kk.toInt := (by have q9 := ci_add (x := y_38) (y := kk) rfl rfl ey_39; omega) | have jy_39 := ci_add (x := y_38) (y := kk) rfl rfl ey_39
                      refine lv_iload_n hx hb dX12_pledge_164 rfl (lv_at hl 4 rfl) ?_
                      have hia : y_39.toNatClampNeg = 84 * v_pledges.toNatClampNeg + kk.toNatClampNeg := by have q9 := nc_int (x := y_39) (by omega); omega
                      refine cs_ist F St 7 6 rfl rfl (vp_in_iff.mpr ⟨by omega, by omega⟩) (w' := [(cMq a h v_taped v_size v_from v_behind v_hand v_value v_fault v_faultAt v_clock v_coin v_loan v_matched v_taxed v_paidStages v_grown v_pledges v_sums v_stages v_isStopped v_begun), (qarI (a 10) (d 10) 60 f_31), (qarI (a 11) (d 11) 60 f_32), (qarI (a 12) (d 12) 60 f_33), (qarI (a 13) (d 13) 60 f_34), (qarI (a 14) (d 14) 60 f_35), (qarI (a 15) (d 15) 60 f_36), (qarI (a 18) (d 18) 5040 (upd gd (y_39 : Int32).toNatClampNeg x2)), (qarI (a 20) (d 20) 5040 gt), (qarI (a 21) (d 21) 5040 gc), (qarI (a 16) (d 16) 60 f_isLapsed), (qarI (a 17) (d 17) 60 f_wasTakenUp), (qarI (a 19) (d 19) 5040 f_filled)]) rfl dX12_pledge_165 (fun H locs St => ?_)
                      obtain ⟨f_40, ef_40⟩ : ∃ zz : Nat → Int32, zz = upd gd (y_39 : Int32).toNatClampNeg x2 := ⟨_, rfl⟩
                      rw [← ef_40] at St
                      refine lv_aload_n hx hb dX12_pledge_166 rfl (lv_at hl 2 rfl) ?_
                      refine cs_get F St 0 rfl rfl inX12 39 (by decide) kf_X12_165 rfl dX12_pledge_167 ?_
                      refine lv_bipush (v := 84) hx hb dX12_pledge_170 (by decide) ?_
                      refine lv_iload hx hb dX12_pledge_172 (lv_at hl 1 rfl) ?_
                      refine lv_imul hx hb dX12_pledge_174 ?_
                      refine lv_topi (fun y_41 ey_41 => ?_)
                      first | have jy_41 : y_41.toInt = 84 * v_pledges.toInt := (by have q9 := ci_mul (x := 84) (y := v_pledges) (show (84 : Int32).toInt = 84 by decide) rfl ey_41; omega) | have jy_41 := ci_mul (x := 84) (y := v_pledges) (show (84 : Int32).toInt = 84 by decide) rfl ey_41
                      refine lv_iload hx hb dX12_pledge_175 (lv_at hl 0 rfl) ?_
                      refine lv_iadd hx hb dX12_pledge_177 ?_
                      refine lv_topi (fun y_42 ey_42 => ?_)
                      first | have jy_42 : y_42.toInt = y_41.toInt + kk.toInt := (by have q9 := ci_add (x := y_41) (y := kk) rfl rfl ey_42; omega) | have jy_42 := ci_add (x := y_41) (y := kk) rfl rfl ey_42
                      refine lv_aload_n hx hb dX12_pledge_178 rfl (lv_at hl 2 rfl) ?_
                      refine lv_iload hx hb dX12_pledge_179 (lv_at hl 1 rfl) ?_
                      refine lv_iload hx hb dX12_pledge_181 (lv_at hl 0 rfl) ?_
                      refine cs_i St [0, 3, 4] [1, 2, 5, 6, 7, 8, 9, 10, 11, 12] (wc := [(cMq a h v_taped v_size v_from v_behind v_hand v_value v_fault v_faultAt v_clock v_coin v_loan v_matched v_taxed v_paidStages v_grown v_pledges v_sums v_stages v_isStopped v_begun), (qarI (a 12) (d 12) 60 f_33), (qarI (a 13) (d 13) 60 f_34)]) (wr := [(qarI (a 10) (d 10) 60 f_31), (qarI (a 11) (d 11) 60 f_32), (qarI (a 14) (d 14) 60 f_35), (qarI (a 15) (d 15) 60 f_36), (qarI (a 18) (d 18) 5040 f_40), (qarI (a 20) (d 20) 5040 gt), (qarI (a 21) (d 21) 5040 gc), (qarI (a 16) (d 16) 60 f_isLapsed), (qarI (a 17) (d 17) 60 f_wasTakenUp), (qarI (a 19) (d 19) 5040 f_filled)]) rfl rfl (by decide) (by decide) (va_runV (As := [.int v_pledges, .int kk]) (rest := [.int y_42, .ref (a 20)]) F (e12_monthOf l G k _ h a d v_taped v_size v_from v_behind v_hand v_value v_fault v_faultAt v_clock v_coin v_loan v_matched v_taxed v_paidStages v_grown v_pledges v_sums v_stages v_isStopped v_begun f_33 f_34 v_pledges kk x3 x4 (by omega) (by omega) (by omega) (by omega) (⟨by rw [ef_33]; exact pk_us, by rw [ef_34]; exact pk_us, by omega, by omega, by omega, by omega⟩)) (cwVt F mf_X12_monthOf km_X12_240 rfl rfl ⟨Nat.le_of_ble_eq_true rfl, Nat.le_of_ble_eq_true rfl⟩) (cs_preV St [0, 3, 4] rfl (by decide) [2, 3] rfl (ci := 12) (q0 := 0) rfl rfl) rfl rfl hl.1 rfl (lv_room (Nat.le_of_ble_eq_true rfl)) dX12_pledge_183 ⟨Nat.le_of_ble_eq_true rfl, Nat.le_of_ble_eq_true rfl⟩) (fun r_43 u_44 H locs hw St => ?_)
                      try dsimp only at hw
                      have hm_45 := hw
                      have St : cS G k [(qarI (a 10) (d 10) 60 f_31), (qarI (a 11) (d 11) 60 f_32), (qarI (a 14) (d 14) 60 f_35), (qarI (a 15) (d 15) 60 f_36), (qarI (a 18) (d 18) 5040 f_40), (qarI (a 20) (d 20) 5040 gt), (qarI (a 21) (d 21) 5040 gc), (qarI (a 16) (d 16) 60 f_isLapsed), (qarI (a 17) (d 17) 60 f_wasTakenUp), (qarI (a 19) (d 19) 5040 f_filled), (cMq a h v_taped v_size v_from v_behind v_hand v_value v_fault v_faultAt v_clock v_coin v_loan v_matched v_taxed v_paidStages v_grown v_pledges v_sums v_stages v_isStopped v_begun), (qarI (a 12) (d 12) 60 f_33), (qarI (a 13) (d 13) 60 f_34)] [((d 10), .int), ((d 11), .int), ((d 12), .int), ((d 13), .int), ((d 14), .int), ((d 15), .int), ((d 18), .int), ((d 20), .boolean), ((d 21), .boolean), ((d 16), .boolean), ((d 17), .boolean), ((d 19), .int)] A s H locs := St
                      refine lv_bipush (v := 119) hx hb dX12_pledge_186 (by decide) ?_
                      refine lv_icmp_gt (tgt := 195) hx hb dX12_pledge_188 (by decide) (fun c188 => ?_) (fun c188 => ?_)
                      ·
                        have i188 := ci_lt (x := 119) (y := r_43) (show (119 : Int32).toInt = 119 by decide) rfl c188
                        refine lv_iconst (v := 0) hx hb dX12_pledge_195 (by decide) ?_
                        have hib : y_42.toNatClampNeg = 84 * v_pledges.toNatClampNeg + kk.toNatClampNeg := by have q9 := nc_int (x := y_42) (by omega); omega
                        skip
                        refine cs_zst F St 5 7 rfl rfl (vp_in_iff.mpr ⟨by omega, by omega⟩) (w' := [(qarI (a 10) (d 10) 60 f_31), (qarI (a 11) (d 11) 60 f_32), (qarI (a 14) (d 14) 60 f_35), (qarI (a 15) (d 15) 60 f_36), (qarI (a 18) (d 18) 5040 f_40), (qarI (a 20) (d 20) 5040 (upd gt (y_42 : Int32).toNatClampNeg (vp_nar .boolean 0))), (qarI (a 21) (d 21) 5040 gc), (qarI (a 16) (d 16) 60 f_isLapsed), (qarI (a 17) (d 17) 60 f_wasTakenUp), (qarI (a 19) (d 19) 5040 f_filled), (cMq a h v_taped v_size v_from v_behind v_hand v_value v_fault v_faultAt v_clock v_coin v_loan v_matched v_taxed v_paidStages v_grown v_pledges v_sums v_stages v_isStopped v_begun), (qarI (a 12) (d 12) 60 f_33), (qarI (a 13) (d 13) 60 f_34)]) rfl dX12_pledge_196 (fun H locs St => ?_)
                        obtain ⟨f_46, ef_46⟩ : ∃ zz : Nat → Int32, zz = upd gt (y_42 : Int32).toNatClampNeg (vp_nar .boolean 0) := ⟨_, rfl⟩
                        rw [← ef_46] at St
                        refine lv_aload_n hx hb dX12_pledge_197 rfl (lv_at hl 2 rfl) ?_
                        refine cs_get F St 10 rfl rfl inX12 40 (by decide) kf_X12_168 rfl dX12_pledge_198 ?_
                        refine lv_bipush (v := 84) hx hb dX12_pledge_201 (by decide) ?_
                        refine lv_iload hx hb dX12_pledge_203 (lv_at hl 1 rfl) ?_
                        refine lv_imul hx hb dX12_pledge_205 ?_
                        refine lv_topi (fun y_47 ey_47 => ?_)
                        first | have jy_47 : y_47.toInt = 84 * v_pledges.toInt := (by have q9 := ci_mul (x := 84) (y := v_pledges) (show (84 : Int32).toInt = 84 by decide) rfl ey_47; omega) | have jy_47 := ci_mul (x := 84) (y := v_pledges) (show (84 : Int32).toInt = 84 by decide) rfl ey_47
                        refine lv_iload hx hb dX12_pledge_206 (lv_at hl 0 rfl) ?_
                        refine lv_iadd hx hb dX12_pledge_208 ?_
                        refine lv_topi (fun y_48 ey_48 => ?_)
                        first | have jy_48 : y_48.toInt = y_47.toInt + kk.toInt := (by have q9 := ci_add (x := y_47) (y := kk) rfl rfl ey_48; omega) | have jy_48 := ci_add (x := y_47) (y := kk) rfl rfl ey_48
                        refine lv_aload_n hx hb dX12_pledge_209 rfl (lv_at hl 2 rfl) ?_
                        refine cs_get F St 10 rfl rfl inX12 39 (by decide) kf_X12_165 rfl dX12_pledge_210 ?_
                        refine lv_bipush (v := 84) hx hb dX12_pledge_213 (by decide) ?_
                        refine lv_iload hx hb dX12_pledge_215 (lv_at hl 1 rfl) ?_
                        refine lv_imul hx hb dX12_pledge_217 ?_
                        refine lv_topi (fun y_49 ey_49 => ?_)
                        first | have jy_49 : y_49.toInt = 84 * v_pledges.toInt := (by have q9 := ci_mul (x := 84) (y := v_pledges) (show (84 : Int32).toInt = 84 by decide) rfl ey_49; omega) | have jy_49 := ci_mul (x := 84) (y := v_pledges) (show (84 : Int32).toInt = 84 by decide) rfl ey_49
                        refine lv_iload hx hb dX12_pledge_218 (lv_at hl 0 rfl) ?_
                        refine lv_iadd hx hb dX12_pledge_220 ?_
                        refine lv_topi (fun y_50 ey_50 => ?_)
                        first | have jy_50 : y_50.toInt = y_49.toInt + kk.toInt := (by have q9 := ci_add (x := y_49) (y := kk) rfl rfl ey_50; omega) | have jy_50 := ci_add (x := y_49) (y := kk) rfl rfl ey_50
                        have hid : y_50.toNatClampNeg = 84 * v_pledges.toNatClampNeg + kk.toNatClampNeg := by have q9 := nc_int (x := y_50) (by omega); omega
                        refine cs_zld F St 5 7 rfl rfl (vp_in_iff.mpr ⟨by omega, by omega⟩) dX12_pledge_221 ?_
                        refine lv_topi (fun y_51 ey_51 => ?_)
                        have gy_51 := congrArg Int32.toInt ey_51
                        have hic : y_48.toNatClampNeg = 84 * v_pledges.toNatClampNeg + kk.toNatClampNeg := by have q9 := nc_int (x := y_48) (by omega); omega
                        have hyv : y_51 = 0 := by rw [ey_51, ef_46, hid, hib, nar_z0]; exact pk_us
                        refine cs_zst F St 6 8 rfl rfl (vp_in_iff.mpr ⟨by omega, by omega⟩) (w' := [(qarI (a 10) (d 10) 60 f_31), (qarI (a 11) (d 11) 60 f_32), (qarI (a 14) (d 14) 60 f_35), (qarI (a 15) (d 15) 60 f_36), (qarI (a 18) (d 18) 5040 f_40), (qarI (a 20) (d 20) 5040 f_46), (qarI (a 21) (d 21) 5040 (upd gc (y_48 : Int32).toNatClampNeg (vp_nar .boolean y_51))), (qarI (a 16) (d 16) 60 f_isLapsed), (qarI (a 17) (d 17) 60 f_wasTakenUp), (qarI (a 19) (d 19) 5040 f_filled), (cMq a h v_taped v_size v_from v_behind v_hand v_value v_fault v_faultAt v_clock v_coin v_loan v_matched v_taxed v_paidStages v_grown v_pledges v_sums v_stages v_isStopped v_begun), (qarI (a 12) (d 12) 60 f_33), (qarI (a 13) (d 13) 60 f_34)]) rfl dX12_pledge_222 (fun H locs St => ?_)
                        obtain ⟨f_52, ef_52⟩ : ∃ zz : Nat → Int32, zz = upd gc (y_48 : Int32).toNatClampNeg (vp_nar .boolean y_51) := ⟨_, rfl⟩
                        rw [← ef_52] at St
                        obtain ⟨y_53, ey_53⟩ : ∃ zz : Int32, zz = kk + 1 := ⟨_, rfl⟩
                        first | have jy_53 : y_53.toInt = kk.toInt + 1 := (by have q9 := ci_add (x := kk) rfl (show (1 : Int32).toInt = 1 by decide) ey_53; omega) | have jy_53 := ci_add (x := kk) rfl (show (1 : Int32).toInt = 1 by decide) ey_53
                        refine lv_iinc (v := y_53) (lv' := [(7, .int y_53), (6, .int v_pledges), (0, .ref h), (1, .int x1), (2, .int x2), (3, .int x3), (4, .int x4), (5, .int x5)]) hx hb dX12_pledge_223 hl (k := 0) rfl (by rw [ey_53]; rfl) (by decide) rfl (fun ls hl => ?_)
                        refine lv_goto (tgt := 145) hx hb dX12_pledge_226 (by decide) ?_
                        exact ih y_53 f_40 f_46 f_52 _ _ _ ⟨⟨by omega, by omega⟩, by rw [nc_s hI0 (show y_53.toInt = kk.toInt + 1 by omega), ef_40, ef_46, ef_52, hia, hib, hic, hyv, nar_z0]; exact plI_s hPI (th_0 (by omega) rfl)⟩ (by omega) (cs_pick St [10, 0, 1, 11, 12, 2, 3, 4, 5, 6, 7, 8, 9] rfl (by decide) [0, 1, 2, 3, 4, 5, 6, 7, 8, 9, 10, 11] rfl) (lv_sub hl [0, 1, 2, 3, 4, 5, 6, 7] rfl)
                      ·
                        have i188 := ci_nlt (x := 119) (y := r_43) (show (119 : Int32).toInt = 119 by decide) rfl c188
                        refine lv_iconst (v := 1) hx hb dX12_pledge_191 (by decide) ?_
                        refine lv_goto (tgt := 196) hx hb dX12_pledge_192 (by decide) ?_
                        have hib : y_42.toNatClampNeg = 84 * v_pledges.toNatClampNeg + kk.toNatClampNeg := by have q9 := nc_int (x := y_42) (by omega); omega
                        skip
                        refine cs_zst F St 5 7 rfl rfl (vp_in_iff.mpr ⟨by omega, by omega⟩) (w' := [(qarI (a 10) (d 10) 60 f_31), (qarI (a 11) (d 11) 60 f_32), (qarI (a 14) (d 14) 60 f_35), (qarI (a 15) (d 15) 60 f_36), (qarI (a 18) (d 18) 5040 f_40), (qarI (a 20) (d 20) 5040 (upd gt (y_42 : Int32).toNatClampNeg (vp_nar .boolean 1))), (qarI (a 21) (d 21) 5040 gc), (qarI (a 16) (d 16) 60 f_isLapsed), (qarI (a 17) (d 17) 60 f_wasTakenUp), (qarI (a 19) (d 19) 5040 f_filled), (cMq a h v_taped v_size v_from v_behind v_hand v_value v_fault v_faultAt v_clock v_coin v_loan v_matched v_taxed v_paidStages v_grown v_pledges v_sums v_stages v_isStopped v_begun), (qarI (a 12) (d 12) 60 f_33), (qarI (a 13) (d 13) 60 f_34)]) rfl dX12_pledge_196 (fun H locs St => ?_)
                        obtain ⟨f_54, ef_54⟩ : ∃ zz : Nat → Int32, zz = upd gt (y_42 : Int32).toNatClampNeg (vp_nar .boolean 1) := ⟨_, rfl⟩
                        rw [← ef_54] at St
                        refine lv_aload_n hx hb dX12_pledge_197 rfl (lv_at hl 2 rfl) ?_
                        refine cs_get F St 10 rfl rfl inX12 40 (by decide) kf_X12_168 rfl dX12_pledge_198 ?_
                        refine lv_bipush (v := 84) hx hb dX12_pledge_201 (by decide) ?_
                        refine lv_iload hx hb dX12_pledge_203 (lv_at hl 1 rfl) ?_
                        refine lv_imul hx hb dX12_pledge_205 ?_
                        refine lv_topi (fun y_55 ey_55 => ?_)
                        first | have jy_55 : y_55.toInt = 84 * v_pledges.toInt := (by have q9 := ci_mul (x := 84) (y := v_pledges) (show (84 : Int32).toInt = 84 by decide) rfl ey_55; omega) | have jy_55 := ci_mul (x := 84) (y := v_pledges) (show (84 : Int32).toInt = 84 by decide) rfl ey_55
                        refine lv_iload hx hb dX12_pledge_206 (lv_at hl 0 rfl) ?_
                        refine lv_iadd hx hb dX12_pledge_208 ?_
                        refine lv_topi (fun y_56 ey_56 => ?_)
                        first | have jy_56 : y_56.toInt = y_55.toInt + kk.toInt := (by have q9 := ci_add (x := y_55) (y := kk) rfl rfl ey_56; omega) | have jy_56 := ci_add (x := y_55) (y := kk) rfl rfl ey_56
                        refine lv_aload_n hx hb dX12_pledge_209 rfl (lv_at hl 2 rfl) ?_
                        refine cs_get F St 10 rfl rfl inX12 39 (by decide) kf_X12_165 rfl dX12_pledge_210 ?_
                        refine lv_bipush (v := 84) hx hb dX12_pledge_213 (by decide) ?_
                        refine lv_iload hx hb dX12_pledge_215 (lv_at hl 1 rfl) ?_
                        refine lv_imul hx hb dX12_pledge_217 ?_
                        refine lv_topi (fun y_57 ey_57 => ?_)
                        first | have jy_57 : y_57.toInt = 84 * v_pledges.toInt := (by have q9 := ci_mul (x := 84) (y := v_pledges) (show (84 : Int32).toInt = 84 by decide) rfl ey_57; omega) | have jy_57 := ci_mul (x := 84) (y := v_pledges) (show (84 : Int32).toInt = 84 by decide) rfl ey_57
                        refine lv_iload hx hb dX12_pledge_218 (lv_at hl 0 rfl) ?_
                        refine lv_iadd hx hb dX12_pledge_220 ?_
                        refine lv_topi (fun y_58 ey_58 => ?_)
                        first | have jy_58 : y_58.toInt = y_57.toInt + kk.toInt := (by have q9 := ci_add (x := y_57) (y := kk) rfl rfl ey_58; omega) | have jy_58 := ci_add (x := y_57) (y := kk) rfl rfl ey_58
                        have hid : y_58.toNatClampNeg = 84 * v_pledges.toNatClampNeg + kk.toNatClampNeg := by have q9 := nc_int (x := y_58) (by omega); omega
                        refine cs_zld F St 5 7 rfl rfl (vp_in_iff.mpr ⟨by omega, by omega⟩) dX12_pledge_221 ?_
                        refine lv_topi (fun y_59 ey_59 => ?_)
                        have gy_59 := congrArg Int32.toInt ey_59
                        have hic : y_56.toNatClampNeg = 84 * v_pledges.toNatClampNeg + kk.toNatClampNeg := by have q9 := nc_int (x := y_56) (by omega); omega
                        have hyv : y_59 = 1 := by rw [ey_59, ef_54, hid, hib, nar_z1]; exact pk_us
                        refine cs_zst F St 6 8 rfl rfl (vp_in_iff.mpr ⟨by omega, by omega⟩) (w' := [(qarI (a 10) (d 10) 60 f_31), (qarI (a 11) (d 11) 60 f_32), (qarI (a 14) (d 14) 60 f_35), (qarI (a 15) (d 15) 60 f_36), (qarI (a 18) (d 18) 5040 f_40), (qarI (a 20) (d 20) 5040 f_54), (qarI (a 21) (d 21) 5040 (upd gc (y_56 : Int32).toNatClampNeg (vp_nar .boolean y_59))), (qarI (a 16) (d 16) 60 f_isLapsed), (qarI (a 17) (d 17) 60 f_wasTakenUp), (qarI (a 19) (d 19) 5040 f_filled), (cMq a h v_taped v_size v_from v_behind v_hand v_value v_fault v_faultAt v_clock v_coin v_loan v_matched v_taxed v_paidStages v_grown v_pledges v_sums v_stages v_isStopped v_begun), (qarI (a 12) (d 12) 60 f_33), (qarI (a 13) (d 13) 60 f_34)]) rfl dX12_pledge_222 (fun H locs St => ?_)
                        obtain ⟨f_60, ef_60⟩ : ∃ zz : Nat → Int32, zz = upd gc (y_56 : Int32).toNatClampNeg (vp_nar .boolean y_59) := ⟨_, rfl⟩
                        rw [← ef_60] at St
                        obtain ⟨y_61, ey_61⟩ : ∃ zz : Int32, zz = kk + 1 := ⟨_, rfl⟩
                        first | have jy_61 : y_61.toInt = kk.toInt + 1 := (by have q9 := ci_add (x := kk) rfl (show (1 : Int32).toInt = 1 by decide) ey_61; omega) | have jy_61 := ci_add (x := kk) rfl (show (1 : Int32).toInt = 1 by decide) ey_61
                        refine lv_iinc (v := y_61) (lv' := [(7, .int y_61), (6, .int v_pledges), (0, .ref h), (1, .int x1), (2, .int x2), (3, .int x3), (4, .int x4), (5, .int x5)]) hx hb dX12_pledge_223 hl (k := 0) rfl (by rw [ey_61]; rfl) (by decide) rfl (fun ls hl => ?_)
                        refine lv_goto (tgt := 145) hx hb dX12_pledge_226 (by decide) ?_
                        exact ih y_61 f_40 f_54 f_60 _ _ _ ⟨⟨by omega, by omega⟩, by rw [nc_s hI0 (show y_61.toInt = kk.toInt + 1 by omega), ef_40, ef_54, ef_60, hia, hib, hic, hyv, nar_z1]; exact plI_s hPI (th_1 (by omega) rfl)⟩ (by omega) (cs_pick St [10, 0, 1, 11, 12, 2, 3, 4, 5, 6, 7, 8, 9] rfl (by decide) [0, 1, 2, 3, 4, 5, 6, 7, 8, 9, 10, 11] rfl) (lv_sub hl [0, 1, 2, 3, 4, 5, 6, 7] rfl)
                exact lp145 85 0 f_due f_isThere f_counts _ _ _ ⟨⟨by omega, by omega⟩, plI_0⟩ (by omega) St (lv_sub hl [0, 1, 2, 3, 4, 5, 6, 7] rfl)
              ·
                have i80 := ci_eq (x := v_pledges) (y := 60) rfl (show (60 : Int32).toInt = 60 by decide) c80
                refine lv_bipush (v := (-3)) hx hb dX12_pledge_83 (by decide) ?_
                exact cs_iret F hr hlk hQ St (v_pledges, f_giver, f_pence, f_first, f_every, f_dues, f_lapsedAt, f_due, f_isThere, f_counts, tP) (r := (-3)) ⟨Or.inr (Or.inr (Or.inl ⟨rfl, ⟨by unfold Cpn; omega, by omega, by omega⟩, rfl, rfl⟩)), hPd, hPg, hM, hA⟩ [0, 1, 2, 3, 4, 5, 6, 7, 8, 9, 10, 11, 12] rfl (by decide) [] rfl (by decide) (by decide) dX12_pledge_85
            ·
              have i68 := ci_ne (x := v_isStopped) (y := 0) rfl (show (0 : Int32).toInt = 0 by decide) c68
              refine lv_bipush (v := (-4)) hx hb dX12_pledge_71 (by decide) ?_
              exact cs_iret F hr hlk hQ St (v_pledges, f_giver, f_pence, f_first, f_every, f_dues, f_lapsedAt, f_due, f_isThere, f_counts, tP) (r := (-4)) ⟨Or.inr (Or.inl ⟨rfl, ⟨by unfold Cpn; omega, by omega⟩, rfl, rfl⟩), hPd, hPg, hM, hA⟩ [0, 1, 2, 3, 4, 5, 6, 7, 8, 9, 10, 11, 12] rfl (by decide) [] rfl (by decide) (by decide) dX12_pledge_73
          ·
            subst r_25
            have St : cS G k [(cMq a h v_taped v_size v_from v_behind v_hand v_value v_fault v_faultAt v_clock v_coin v_loan v_matched v_taxed v_paidStages v_grown v_pledges v_sums v_stages v_isStopped v_begun), (qarI (a 10) (d 10) 60 f_giver), (qarI (a 11) (d 11) 60 f_pence), (qarI (a 12) (d 12) 60 f_first), (qarI (a 13) (d 13) 60 f_every), (qarI (a 14) (d 14) 60 f_dues), (qarI (a 15) (d 15) 60 f_lapsedAt), (qarI (a 18) (d 18) 5040 f_due), (qarI (a 20) (d 20) 5040 f_isThere), (qarI (a 21) (d 21) 5040 f_counts), (qarI (a 16) (d 16) 60 f_isLapsed), (qarI (a 17) (d 17) 60 f_wasTakenUp), (qarI (a 19) (d 19) 5040 f_filled)] [((d 10), .int), ((d 11), .int), ((d 12), .int), ((d 13), .int), ((d 14), .int), ((d 15), .int), ((d 18), .int), ((d 20), .boolean), ((d 21), .boolean), ((d 16), .boolean), ((d 17), .boolean), ((d 19), .int)] A s H locs := St
            refine lv_if_ne (tgt := 64) hx hb dX12_pledge_58 (by decide) (fun c58 => ?_) (fun c58 => ?_)
            · exact absurd c58 (by decide)
            refine lv_bipush (v := (-2)) hx hb dX12_pledge_61 (by decide) ?_
            exact cs_iret F hr hlk hQ St (v_pledges, f_giver, f_pence, f_first, f_every, f_dues, f_lapsedAt, f_due, f_isThere, f_counts, tP) (r := (-2)) ⟨Or.inl ⟨rfl, by unfold Cpn; omega, rfl, rfl⟩, hPd, hPg, hM, hA⟩ [0, 1, 2, 3, 4, 5, 6, 7, 8, 9, 10, 11, 12] rfl (by decide) [] rfl (by decide) (by decide) dX12_pledge_63
        ·
          subst r_19
          have St : cS G k [(cMq a h v_taped v_size v_from v_behind v_hand v_value v_fault v_faultAt v_clock v_coin v_loan v_matched v_taxed v_paidStages v_grown v_pledges v_sums v_stages v_isStopped v_begun), (qarI (a 10) (d 10) 60 f_giver), (qarI (a 11) (d 11) 60 f_pence), (qarI (a 12) (d 12) 60 f_first), (qarI (a 13) (d 13) 60 f_every), (qarI (a 14) (d 14) 60 f_dues), (qarI (a 15) (d 15) 60 f_lapsedAt), (qarI (a 18) (d 18) 5040 f_due), (qarI (a 20) (d 20) 5040 f_isThere), (qarI (a 21) (d 21) 5040 f_counts), (qarI (a 16) (d 16) 60 f_isLapsed), (qarI (a 17) (d 17) 60 f_wasTakenUp), (qarI (a 19) (d 19) 5040 f_filled)] [((d 10), .int), ((d 11), .int), ((d 12), .int), ((d 13), .int), ((d 14), .int), ((d 15), .int), ((d 18), .int), ((d 20), .boolean), ((d 21), .boolean), ((d 16), .boolean), ((d 17), .boolean), ((d 19), .int)] A s H locs := St
          refine lv_if_eq (tgt := 61) hx hb dX12_pledge_45 (by decide) (fun c45 => ?_) (fun c45 => ?_)
          rotate_left
          · exact absurd (by decide) c45
          refine lv_bipush (v := (-2)) hx hb dX12_pledge_61 (by decide) ?_
          exact cs_iret F hr hlk hQ St (v_pledges, f_giver, f_pence, f_first, f_every, f_dues, f_lapsedAt, f_due, f_isThere, f_counts, tP) (r := (-2)) ⟨Or.inl ⟨rfl, by unfold Cpn; omega, rfl, rfl⟩, hPd, hPg, hM, hA⟩ [0, 1, 2, 3, 4, 5, 6, 7, 8, 9, 10, 11, 12] rfl (by decide) [] rfl (by decide) (by decide) dX12_pledge_63
      ·
        subst r_13
        have St : cS G k [(cMq a h v_taped v_size v_from v_behind v_hand v_value v_fault v_faultAt v_clock v_coin v_loan v_matched v_taxed v_paidStages v_grown v_pledges v_sums v_stages v_isStopped v_begun), (qarI (a 10) (d 10) 60 f_giver), (qarI (a 11) (d 11) 60 f_pence), (qarI (a 12) (d 12) 60 f_first), (qarI (a 13) (d 13) 60 f_every), (qarI (a 14) (d 14) 60 f_dues), (qarI (a 15) (d 15) 60 f_lapsedAt), (qarI (a 18) (d 18) 5040 f_due), (qarI (a 20) (d 20) 5040 f_isThere), (qarI (a 21) (d 21) 5040 f_counts), (qarI (a 16) (d 16) 60 f_isLapsed), (qarI (a 17) (d 17) 60 f_wasTakenUp), (qarI (a 19) (d 19) 5040 f_filled)] [((d 10), .int), ((d 11), .int), ((d 12), .int), ((d 13), .int), ((d 14), .int), ((d 15), .int), ((d 18), .int), ((d 20), .boolean), ((d 21), .boolean), ((d 16), .boolean), ((d 17), .boolean), ((d 19), .int)] A s H locs := St
        refine lv_if_eq (tgt := 61) hx hb dX12_pledge_32 (by decide) (fun c32 => ?_) (fun c32 => ?_)
        rotate_left
        · exact absurd (by decide) c32
        refine lv_bipush (v := (-2)) hx hb dX12_pledge_61 (by decide) ?_
        exact cs_iret F hr hlk hQ St (v_pledges, f_giver, f_pence, f_first, f_every, f_dues, f_lapsedAt, f_due, f_isThere, f_counts, tP) (r := (-2)) ⟨Or.inl ⟨rfl, by unfold Cpn; omega, rfl, rfl⟩, hPd, hPg, hM, hA⟩ [0, 1, 2, 3, 4, 5, 6, 7, 8, 9, 10, 11, 12] rfl (by decide) [] rfl (by decide) (by decide) dX12_pledge_63
    ·
      subst r_7
      have St : cS G k [(cMq a h v_taped v_size v_from v_behind v_hand v_value v_fault v_faultAt v_clock v_coin v_loan v_matched v_taxed v_paidStages v_grown v_pledges v_sums v_stages v_isStopped v_begun), (qarI (a 10) (d 10) 60 f_giver), (qarI (a 11) (d 11) 60 f_pence), (qarI (a 12) (d 12) 60 f_first), (qarI (a 13) (d 13) 60 f_every), (qarI (a 14) (d 14) 60 f_dues), (qarI (a 15) (d 15) 60 f_lapsedAt), (qarI (a 18) (d 18) 5040 f_due), (qarI (a 20) (d 20) 5040 f_isThere), (qarI (a 21) (d 21) 5040 f_counts), (qarI (a 16) (d 16) 60 f_isLapsed), (qarI (a 17) (d 17) 60 f_wasTakenUp), (qarI (a 19) (d 19) 5040 f_filled)] [((d 10), .int), ((d 11), .int), ((d 12), .int), ((d 13), .int), ((d 14), .int), ((d 15), .int), ((d 18), .int), ((d 20), .boolean), ((d 21), .boolean), ((d 16), .boolean), ((d 17), .boolean), ((d 19), .int)] A s H locs := St
      refine lv_if_eq (tgt := 61) hx hb dX12_pledge_16 (by decide) (fun c16 => ?_) (fun c16 => ?_)
      rotate_left
      · exact absurd (by decide) c16
      refine lv_bipush (v := (-2)) hx hb dX12_pledge_61 (by decide) ?_
      exact cs_iret F hr hlk hQ St (v_pledges, f_giver, f_pence, f_first, f_every, f_dues, f_lapsedAt, f_due, f_isThere, f_counts, tP) (r := (-2)) ⟨Or.inl ⟨rfl, by unfold Cpn; omega, rfl, rfl⟩, hPd, hPg, hM, hA⟩ [0, 1, 2, 3, 4, 5, 6, 7, 8, 9, 10, 11, 12] rfl (by decide) [] rfl (by decide) (by decide) dX12_pledge_63
  ·
    subst r_1
    have St : cS G k [(cMq a h v_taped v_size v_from v_behind v_hand v_value v_fault v_faultAt v_clock v_coin v_loan v_matched v_taxed v_paidStages v_grown v_pledges v_sums v_stages v_isStopped v_begun), (qarI (a 10) (d 10) 60 f_giver), (qarI (a 11) (d 11) 60 f_pence), (qarI (a 12) (d 12) 60 f_first), (qarI (a 13) (d 13) 60 f_every), (qarI (a 14) (d 14) 60 f_dues), (qarI (a 15) (d 15) 60 f_lapsedAt), (qarI (a 18) (d 18) 5040 f_due), (qarI (a 20) (d 20) 5040 f_isThere), (qarI (a 21) (d 21) 5040 f_counts), (qarI (a 16) (d 16) 60 f_isLapsed), (qarI (a 17) (d 17) 60 f_wasTakenUp), (qarI (a 19) (d 19) 5040 f_filled)] [((d 10), .int), ((d 11), .int), ((d 12), .int), ((d 13), .int), ((d 14), .int), ((d 15), .int), ((d 18), .int), ((d 20), .boolean), ((d 21), .boolean), ((d 16), .boolean), ((d 17), .boolean), ((d 19), .int)] A s H locs := St
    refine lv_if_eq (tgt := 61) hx hb dX12_pledge_4 (by decide) (fun c4 => ?_) (fun c4 => ?_)
    rotate_left
    · exact absurd (by decide) c4
    refine lv_bipush (v := (-2)) hx hb dX12_pledge_61 (by decide) ?_
    exact cs_iret F hr hlk hQ St (v_pledges, f_giver, f_pence, f_first, f_every, f_dues, f_lapsedAt, f_due, f_isThere, f_counts, tP) (r := (-2)) ⟨Or.inl ⟨rfl, by unfold Cpn; omega, rfl, rfl⟩, hPd, hPg, hM, hA⟩ [0, 1, 2, 3, 4, 5, 6, 7, 8, 9, 10, 11, 12] rfl (by decide) [] rfl (by decide) (by decide) dX12_pledge_63
set_option maxHeartbeats 4000000 in
set_option maxRecDepth 100000 in
theorem e12_allGiven (l : Launch) (G : va_G) (k : Nat → Nat) (sz : Nat) (h : Nat) (a : Nat → Nat) (d : Nat → ClassId) (v_taped : Int32) (v_size : Int32) (v_from : Int32) (v_behind : Int32) (v_hand : Int32) (v_value : Int32) (v_fault : Int32) (v_faultAt : Int32) (v_clock : Int32) (v_coin : Int32) (v_loan : Int32) (v_matched : Int32) (v_taxed : Int32) (v_paidStages : Int32) (v_grown : Int32) (v_pledges : Int32) (v_sums : Int32) (v_stages : Int32) (v_isStopped : Int32) (v_begun : Int32) (f_sumPence : Nat → Int32) (hSp : mSp v_sums f_sumPence) : Met l yX12_allGiven (Cond.code yX12_allGiven cX12_allGiven 3 (some .int) :: tb) ({ frames := 0, cells := 0, slots := 0, locals := 0 } : Room) (va_Pc [.ref h] (cP G k [(cMq a h v_taped v_size v_from v_behind v_hand v_value v_fault v_faultAt v_clock v_coin v_loan v_matched v_taxed v_paidStages v_grown v_pledges v_sums v_stages v_isStopped v_begun), (qarI (a 24) (d 24) 250 f_sumPence)] [((d 24), .int)] sz)) (va_Qi (fun (r : Int32) (_ : Unit) => (r.toInt = sm (tA f_sumPence) v_sums.toNatClampNeg)) (cB G (fun (_ : Unit) => [(cMq a h v_taped v_size v_from v_behind v_hand v_value v_fault v_faultAt v_clock v_coin v_loan v_matched v_taxed v_paidStages v_grown v_pledges v_sums v_stages v_isStopped v_begun), (qarI (a 24) (d 24) 250 f_sumPence)]) (fun (_ : Unit) => []) (va_A [(cMq a h v_taped v_size v_from v_behind v_hand v_value v_fault v_faultAt v_clock v_coin v_loan v_matched v_taxed v_paidStages v_grown v_pledges v_sums v_stages v_isStopped v_begun), (qarI (a 24) (d 24) 250 f_sumPence)] sz)) (va_A [(cMq a h v_taped v_size v_from v_behind v_hand v_value v_fault v_faultAt v_clock v_coin v_loan v_matched v_taxed v_paidStages v_grown v_pledges v_sums v_stages v_isStopped v_begun), (qarI (a 24) (d 24) 250 f_sumPence)] sz)) 0 0 (va_A [(cMq a h v_taped v_size v_from v_behind v_hand v_value v_fault v_faultAt v_clock v_coin v_loan v_matched v_taxed v_paidStages v_grown v_pledges v_sums v_stages v_isStopped v_begun), (qarI (a 24) (d 24) 250 f_sumPence)] sz) := by
  refine ofC_i (cc := cX12_allGiven) (maxL := 3) (ret := (some .int)) (by decide) rfl (Nat.le_of_ble_eq_true rfl) ?_
  intro p e s m args below meth c A ls Q F hr hin hlk St hl hQ
  have hx := F.1
  have hb := F.2.1
  have hl : lv_has ls 3 [(0, .ref h)] := hl
  have St : cS G k [(cMq a h v_taped v_size v_from v_behind v_hand v_value v_fault v_faultAt v_clock v_coin v_loan v_matched v_taxed v_paidStages v_grown v_pledges v_sums v_stages v_isStopped v_begun), (qarI (a 24) (d 24) 250 f_sumPence)] [((d 24), .int)] A s s.heap [] := St
  have hsd := hSp.1
  have y0 : (0 : Int32).toInt = 0 := by decide
  have hn5 := nc_int (x := v_sums) (by omega)
  refine lv_iconst (v := 0) hx hb dX12_allGiven_0 (by decide) ?_
  refine lv_istore_n (lv' := [(1, .int 0), (0, .ref h)]) hx hb dX12_allGiven_1 rfl hl (by decide) rfl (fun ls hl => ?_)
  refine lv_iconst (v := 0) hx hb dX12_allGiven_2 (by decide) ?_
  refine lv_istore_n (lv' := [(2, .int 0), (1, .int 0), (0, .ref h)]) hx hb dX12_allGiven_3 rfl hl (by decide) rfl (fun ls hl => ?_)
  have lp4 : ∀ (n : Nat) (kk : Int32) (nn : Int32) (H : Heap) (locs : List Loc) (ls : Array Slot), ((0 ≤ kk.toInt ∧ kk.toInt ≤ v_sums.toInt) ∧ nn.toInt = sm (tA f_sumPence) kk.toNatClampNeg) → ((250 - kk.toInt).toNat) < n → cS G k [(cMq a h v_taped v_size v_from v_behind v_hand v_value v_fault v_faultAt v_clock v_coin v_loan v_matched v_taxed v_paidStages v_grown v_pledges v_sums v_stages v_isStopped v_begun), (qarI (a 24) (d 24) 250 f_sumPence)] [((d 24), .int)] A s H locs → lv_has ls 3 [(2, .int kk), (1, .int nn), (0, .ref h)] → W p l e ({ frames := 0, cells := 0, slots := 0, locals := 0 } : Room) s m args below meth c H locs 0 0 Q (F0 m 4 ls []) := by
    intro n
    induction n with
    | zero => intro kk nn H locs ls hI hn; exact absurd hn (Nat.not_lt_zero _)
    | succ n ih =>
      intro kk nn H locs ls hI hn St hl
      obtain ⟨⟨hI0, hI1⟩, hs⟩ := hI
      have nk := nc_int hI0
      have hnb := sA_bd (k := kk.toNatClampNeg) hSp (by omega)
      rw [← hs] at hnb
      refine lv_iload_n hx hb dX12_allGiven_4 rfl (lv_at hl 0 rfl) ?_
      refine lv_aload_n hx hb dX12_allGiven_5 rfl (lv_at hl 2 rfl) ?_
      refine cs_get F St 0 rfl rfl inX12 21 (by decide) kf_X12_246 rfl dX12_allGiven_6 ?_
      refine lv_icmp_ge (tgt := 27) hx hb dX12_allGiven_9 (by decide) (fun c9 => ?_) (fun c9 => ?_)
      ·
        have i9 := ci_le (x := v_sums) (y := kk) rfl rfl c9
        refine lv_iload_n hx hb dX12_allGiven_27 rfl (lv_at hl 1 rfl) ?_
        exact cs_iret F hr hlk hQ St () (r := nn) (sm_at hs (by omega)) [0, 1] rfl (by decide) [] rfl (by decide) (by decide) dX12_allGiven_28
      ·
        have i9 := ci_nle (x := v_sums) (y := kk) rfl rfl c9
        refine lv_iload_n hx hb dX12_allGiven_12 rfl (lv_at hl 1 rfl) ?_
        refine lv_aload_n hx hb dX12_allGiven_13 rfl (lv_at hl 2 rfl) ?_
        refine cs_get F St 0 rfl rfl inX12 43 (by decide) kf_X12_177 rfl dX12_allGiven_14 ?_
        refine lv_iload_n hx hb dX12_allGiven_17 rfl (lv_at hl 0 rfl) ?_
        refine cs_ild F St 1 0 rfl rfl (vp_in_iff.mpr ⟨by omega, by omega⟩) dX12_allGiven_18 ?_
        refine lv_topi (fun y_1 ey_1 => ?_)
        have gy_1 := congrArg Int32.toInt ey_1
        have hdy_1 := mSp_p hSp (by omega) (by omega) ey_1
        refine lv_iadd hx hb dX12_allGiven_19 ?_
        refine lv_topi (fun y_2 ey_2 => ?_)
        first | have jy_2 : y_2.toInt = nn.toInt + y_1.toInt := (by have q9 := ci_add (x := nn) (y := y_1) rfl rfl ey_2; omega) | have jy_2 := ci_add (x := nn) (y := y_1) rfl rfl ey_2
        refine lv_istore_n (lv' := [(1, .int y_2), (2, .int kk), (0, .ref h)]) hx hb dX12_allGiven_20 rfl hl (by decide) rfl (fun ls hl => ?_)
        obtain ⟨y_3, ey_3⟩ : ∃ zz : Int32, zz = kk + 1 := ⟨_, rfl⟩
        first | have jy_3 : y_3.toInt = kk.toInt + 1 := (by have q9 := ci_add (x := kk) rfl (show (1 : Int32).toInt = 1 by decide) ey_3; omega) | have jy_3 := ci_add (x := kk) rfl (show (1 : Int32).toInt = 1 by decide) ey_3
        refine lv_iinc (v := y_3) (lv' := [(2, .int y_3), (1, .int y_2), (0, .ref h)]) hx hb dX12_allGiven_21 hl (k := 1) rfl (by rw [ey_3]; rfl) (by decide) rfl (fun ls hl => ?_)
        refine lv_goto (tgt := 4) hx hb dX12_allGiven_24 (by decide) ?_
        exact ih y_3 y_2 _ _ _ ⟨⟨by omega, by omega⟩, sm_up hI0 hs (by omega) (by unfold tA; omega)⟩ (by omega) St (lv_sub hl [0, 1, 2] rfl)
  exact lp4 251 0 0 _ _ _ ⟨⟨by omega, by omega⟩, by rw [y0]; rfl⟩ (by omega) St (lv_sub hl [0, 1, 2] rfl)
set_option maxHeartbeats 4000000 in
set_option maxRecDepth 100000 in
theorem e12_back (l : Launch) (G : va_G) (k : Nat → Nat) (sz : Nat) (h : Nat) (a : Nat → Nat) (d : Nat → ClassId) (v_taped : Int32) (v_size : Int32) (v_from : Int32) (v_behind : Int32) (v_hand : Int32) (v_value : Int32) (v_fault : Int32) (v_faultAt : Int32) (v_clock : Int32) (v_coin : Int32) (v_loan : Int32) (v_matched : Int32) (v_taxed : Int32) (v_paidStages : Int32) (v_grown : Int32) (v_pledges : Int32) (v_sums : Int32) (v_stages : Int32) (v_isStopped : Int32) (v_begun : Int32) (f_back : Nat → Int32) (x1 : Int32) : Met l yX12_back (Cond.code yX12_back cX12_back 2 (some .int) :: tb) ({ frames := 2, cells := 0, slots := 0, locals := 45 } : Room) (va_Pc [.ref h, .int x1] (cP G k [(cMq a h v_taped v_size v_from v_behind v_hand v_value v_fault v_faultAt v_clock v_coin v_loan v_matched v_taxed v_paidStages v_grown v_pledges v_sums v_stages v_isStopped v_begun), (qarI (a 8) (d 8) 30 f_back)] [((d 8), .int)] sz)) (va_Qi (fun (r : Int32) (_ : Unit) => (Rbck x1 f_back r)) (cB G (fun (_ : Unit) => [(cMq a h v_taped v_size v_from v_behind v_hand v_value v_fault v_faultAt v_clock v_coin v_loan v_matched v_taxed v_paidStages v_grown v_pledges v_sums v_stages v_isStopped v_begun), (qarI (a 8) (d 8) 30 f_back)]) (fun (_ : Unit) => []) (va_A [(cMq a h v_taped v_size v_from v_behind v_hand v_value v_fault v_faultAt v_clock v_coin v_loan v_matched v_taxed v_paidStages v_grown v_pledges v_sums v_stages v_isStopped v_begun), (qarI (a 8) (d 8) 30 f_back)] sz)) (va_A [(cMq a h v_taped v_size v_from v_behind v_hand v_value v_fault v_faultAt v_clock v_coin v_loan v_matched v_taxed v_paidStages v_grown v_pledges v_sums v_stages v_isStopped v_begun), (qarI (a 8) (d 8) 30 f_back)] sz)) 0 0 (va_A [(cMq a h v_taped v_size v_from v_behind v_hand v_value v_fault v_faultAt v_clock v_coin v_loan v_matched v_taxed v_paidStages v_grown v_pledges v_sums v_stages v_isStopped v_begun), (qarI (a 8) (d 8) 30 f_back)] sz) := by
  refine ofC_i (cc := cX12_back) (maxL := 2) (ret := (some .int)) (by decide) rfl (Nat.le_of_ble_eq_true rfl) ?_
  intro p e s m args below meth c A ls Q F hr hin hlk St hl hQ
  have hx := F.1
  have hb := F.2.1
  have hl : lv_has ls 2 [(0, .ref h), (1, .int x1)] := hl
  have St : cS G k [(cMq a h v_taped v_size v_from v_behind v_hand v_value v_fault v_faultAt v_clock v_coin v_loan v_matched v_taxed v_paidStages v_grown v_pledges v_sums v_stages v_isStopped v_begun), (qarI (a 8) (d 8) 30 f_back)] [((d 8), .int)] A s s.heap [] := St
  refine lv_iload_n hx hb dX12_back_0 rfl (lv_at hl 1 rfl) ?_
  refine cs_i St [] [0, 1] (wc := []) (wr := [(cMq a h v_taped v_size v_from v_behind v_hand v_value v_fault v_faultAt v_clock v_coin v_loan v_matched v_taxed v_paidStages v_grown v_pledges v_sums v_stages v_isStopped v_begun), (qarI (a 8) (d 8) 30 f_back)]) rfl rfl (by decide) (by decide) (va_runS (As := [.int x1]) (rest := []) F (c12_isGiver l G k _ x1) (cwSt F mf_X12_isGiver km_X12_218 rfl rfl ⟨Nat.le_of_ble_eq_true rfl, Nat.le_of_ble_eq_true rfl⟩) (cs_pre St [] rfl (by decide) [] rfl) rfl rfl hl.1 rfl (lv_room (Nat.le_of_ble_eq_true rfl)) dX12_back_1 ⟨Nat.le_of_ble_eq_true rfl, Nat.le_of_ble_eq_true rfl⟩) (fun r_1 u_2 H locs hw St => ?_)
  try dsimp only at hw
  rcases hw with ⟨z_3, hf_4⟩ | ⟨z_5, hf_6⟩
  ·
    subst r_1
    have St : cS G k [(cMq a h v_taped v_size v_from v_behind v_hand v_value v_fault v_faultAt v_clock v_coin v_loan v_matched v_taxed v_paidStages v_grown v_pledges v_sums v_stages v_isStopped v_begun), (qarI (a 8) (d 8) 30 f_back)] [((d 8), .int)] A s H locs := St
    refine lv_if_eq (tgt := 16) hx hb dX12_back_4 (by decide) (fun c4 => ?_) (fun c4 => ?_)
    · exact absurd c4 (by decide)
    refine lv_aload_n hx hb dX12_back_7 rfl (lv_at hl 0 rfl) ?_
    refine cs_get F St 0 rfl rfl inX12 27 (by decide) kf_X12_129 rfl dX12_back_8 ?_
    refine lv_iload_n hx hb dX12_back_11 rfl (lv_at hl 1 rfl) ?_
    refine cs_ild F St 1 0 rfl rfl (vp_in_iff.mpr ⟨by omega, by omega⟩) dX12_back_12 ?_
    refine lv_topi (fun y_7 ey_7 => ?_)
    have gy_7 := congrArg Int32.toInt ey_7
    refine lv_goto (tgt := 18) hx hb dX12_back_13 (by decide) ?_
    exact cs_iret F hr hlk hQ St () (r := y_7) (Or.inr ⟨by omega, ey_7⟩) [0, 1] rfl (by decide) [] rfl (by decide) (by decide) dX12_back_18
  ·
    subst r_1
    have St : cS G k [(cMq a h v_taped v_size v_from v_behind v_hand v_value v_fault v_faultAt v_clock v_coin v_loan v_matched v_taxed v_paidStages v_grown v_pledges v_sums v_stages v_isStopped v_begun), (qarI (a 8) (d 8) 30 f_back)] [((d 8), .int)] A s H locs := St
    refine lv_if_eq (tgt := 16) hx hb dX12_back_4 (by decide) (fun c4 => ?_) (fun c4 => ?_)
    rotate_left
    · exact absurd (by decide) c4
    refine lv_bipush (v := (-2)) hx hb dX12_back_16 (by decide) ?_
    exact cs_iret F hr hlk hQ St () (r := (-2)) (Or.inl ⟨by omega, rfl⟩) [0, 1] rfl (by decide) [] rfl (by decide) (by decide) dX12_back_18
set_option maxHeartbeats 4000000 in
set_option maxRecDepth 100000 in
theorem e12_carve (l : Launch) (G : va_G) (k : Nat → Nat) (sz : Nat) (h : Nat) (a : Nat → Nat) (d : Nat → ClassId) (v_taped : Int32) (v_size : Int32) (v_from : Int32) (v_behind : Int32) (v_hand : Int32) (v_value : Int32) (v_fault : Int32) (v_faultAt : Int32) (v_clock : Int32) (v_coin : Int32) (v_loan : Int32) (v_matched : Int32) (v_taxed : Int32) (v_paidStages : Int32) (v_grown : Int32) (v_pledges : Int32) (v_sums : Int32) (v_stages : Int32) (v_isStopped : Int32) (v_begun : Int32) (f_sum : Nat → Int32) (f_stones : Nat → Int32) (f_sumGiver : Nat → Int32) (f_sumPence : Nat → Int32) (f_isNameless : Nat → Int32) (f_rule : Nat → Int32) (hSg : mGi v_sums f_sumGiver) (hSp : mSp v_sums f_sumPence) (hF : rbd f_rule) : Met l yX12_carve (Cond.code yX12_carve cX12_carve 5 (some .int) :: tb) ({ frames := 0, cells := 0, slots := 0, locals := 0 } : Room) (va_Pc [.ref h] (cP G k [(cMq a h v_taped v_size v_from v_behind v_hand v_value v_fault v_faultAt v_clock v_coin v_loan v_matched v_taxed v_paidStages v_grown v_pledges v_sums v_stages v_isStopped v_begun), (qarI (a 31) (d 31) 30 f_sum), (qarI (a 32) (d 32) 30 f_stones), (qarI (a 22) (d 22) 250 f_sumGiver), (qarI (a 24) (d 24) 250 f_sumPence), (qarI (a 9) (d 9) 30 f_isNameless), (qarI (a 0) (d 0) 9 f_rule)] [((d 31), .int), ((d 32), .int), ((d 22), .int), ((d 24), .int), ((d 9), .boolean), ((d 0), .int)] sz)) (va_Qi (fun (r : Int32) (u : (Nat → Int32) × (Nat → Int32)) => match u with | (g_sum, g_stones) => (stR f_sumGiver f_sumPence f_isNameless (100 * (f_rule (7 : Int32).toNatClampNeg).toInt) g_sum g_stones r v_sums.toNatClampNeg) ∧ (0 ≤ r.toInt ∧ r.toInt ≤ 30)) (cB G (fun u => match u with | (g_sum, g_stones) => [(cMq a h v_taped v_size v_from v_behind v_hand v_value v_fault v_faultAt v_clock v_coin v_loan v_matched v_taxed v_paidStages v_grown v_pledges v_sums v_stages v_isStopped v_begun), (qarI (a 31) (d 31) 30 g_sum), (qarI (a 32) (d 32) 30 g_stones), (qarI (a 22) (d 22) 250 f_sumGiver), (qarI (a 24) (d 24) 250 f_sumPence), (qarI (a 9) (d 9) 30 f_isNameless), (qarI (a 0) (d 0) 9 f_rule)]) (fun u => match u with | (g_sum, g_stones) => []) (va_A [(cMq a h v_taped v_size v_from v_behind v_hand v_value v_fault v_faultAt v_clock v_coin v_loan v_matched v_taxed v_paidStages v_grown v_pledges v_sums v_stages v_isStopped v_begun), (qarI (a 31) (d 31) 30 f_sum), (qarI (a 32) (d 32) 30 f_stones), (qarI (a 22) (d 22) 250 f_sumGiver), (qarI (a 24) (d 24) 250 f_sumPence), (qarI (a 9) (d 9) 30 f_isNameless), (qarI (a 0) (d 0) 9 f_rule)] sz)) (va_A [(cMq a h v_taped v_size v_from v_behind v_hand v_value v_fault v_faultAt v_clock v_coin v_loan v_matched v_taxed v_paidStages v_grown v_pledges v_sums v_stages v_isStopped v_begun), (qarI (a 31) (d 31) 30 f_sum), (qarI (a 32) (d 32) 30 f_stones), (qarI (a 22) (d 22) 250 f_sumGiver), (qarI (a 24) (d 24) 250 f_sumPence), (qarI (a 9) (d 9) 30 f_isNameless), (qarI (a 0) (d 0) 9 f_rule)] sz)) 0 0 (va_A [(cMq a h v_taped v_size v_from v_behind v_hand v_value v_fault v_faultAt v_clock v_coin v_loan v_matched v_taxed v_paidStages v_grown v_pledges v_sums v_stages v_isStopped v_begun), (qarI (a 31) (d 31) 30 f_sum), (qarI (a 32) (d 32) 30 f_stones), (qarI (a 22) (d 22) 250 f_sumGiver), (qarI (a 24) (d 24) 250 f_sumPence), (qarI (a 9) (d 9) 30 f_isNameless), (qarI (a 0) (d 0) 9 f_rule)] sz) := by
  refine ofC_i (cc := cX12_carve) (maxL := 5) (ret := (some .int)) (by decide) rfl (Nat.le_of_ble_eq_true rfl) ?_
  intro p e s m args below meth c A ls Q F hr hin hlk St hl hQ
  have hx := F.1
  have hb := F.2.1
  have hl : lv_has ls 5 [(0, .ref h)] := hl
  have St : cS G k [(cMq a h v_taped v_size v_from v_behind v_hand v_value v_fault v_faultAt v_clock v_coin v_loan v_matched v_taxed v_paidStages v_grown v_pledges v_sums v_stages v_isStopped v_begun), (qarI (a 31) (d 31) 30 f_sum), (qarI (a 32) (d 32) 30 f_stones), (qarI (a 22) (d 22) 250 f_sumGiver), (qarI (a 24) (d 24) 250 f_sumPence), (qarI (a 9) (d 9) 30 f_isNameless), (qarI (a 0) (d 0) 9 f_rule)] [((d 31), .int), ((d 32), .int), ((d 22), .int), ((d 24), .int), ((d 9), .boolean), ((d 0), .int)] A s s.heap [] := St
  have hsd := hSp.1
  have y0 : (0 : Int32).toInt = 0 := by decide
  have hF0 := hF.1
  have hF1 := hF.2.1
  have hF2 := hF.2.2.1
  have hF3 := hF.2.2.2.1
  have hF4 := hF.2.2.2.2.1
  have hF5 := hF.2.2.2.2.2.1
  have hF6 := hF.2.2.2.2.2.2.1
  have hF7 := hF.2.2.2.2.2.2.2
  have hn5 := nc_int (x := v_sums) (by omega)
  refine lv_iconst (v := 0) hx hb dX12_carve_0 (by decide) ?_
  refine lv_istore_n (lv' := [(1, .int 0), (0, .ref h)]) hx hb dX12_carve_1 rfl hl (by decide) rfl (fun ls hl => ?_)
  have lp2 : ∀ (n : Nat) (i : Int32) (fs : Nat → Int32) (H : Heap) (locs : List Loc) (ls : Array Slot), ((0 ≤ i.toInt ∧ i.toInt ≤ 30) ∧ ∀ g : Nat, (g : Int) < i.toInt → fs g = 0) → ((30 - i.toInt).toNat) < n → cS G k [(cMq a h v_taped v_size v_from v_behind v_hand v_value v_fault v_faultAt v_clock v_coin v_loan v_matched v_taxed v_paidStages v_grown v_pledges v_sums v_stages v_isStopped v_begun), (qarI (a 31) (d 31) 30 fs), (qarI (a 32) (d 32) 30 f_stones), (qarI (a 22) (d 22) 250 f_sumGiver), (qarI (a 24) (d 24) 250 f_sumPence), (qarI (a 9) (d 9) 30 f_isNameless), (qarI (a 0) (d 0) 9 f_rule)] [((d 31), .int), ((d 32), .int), ((d 22), .int), ((d 24), .int), ((d 9), .boolean), ((d 0), .int)] A s H locs → lv_has ls 5 [(1, .int i), (0, .ref h)] → W p l e ({ frames := 0, cells := 0, slots := 0, locals := 0 } : Room) s m args below meth c H locs 0 0 Q (F0 m 2 ls []) := by
    intro n
    induction n with
    | zero => intro i fs H locs ls hI hn; exact absurd hn (Nat.not_lt_zero _)
    | succ n ih =>
      intro i fs H locs ls hI hn St hl
      obtain ⟨hI0, hI1⟩ := hI
      refine lv_iload_n hx hb dX12_carve_2 rfl (lv_at hl 0 rfl) ?_
      refine lv_bipush (v := 30) hx hb dX12_carve_3 (by decide) ?_
      refine lv_icmp_ge (tgt := 21) hx hb dX12_carve_5 (by decide) (fun c5 => ?_) (fun c5 => ?_)
      ·
        have i5 := ci_le (x := 30) (y := i) (show (30 : Int32).toInt = 30 by decide) rfl c5
        refine lv_iconst (v := 0) hx hb dX12_carve_21 (by decide) ?_
        refine lv_istore_n (lv' := [(1, .int 0), (0, .ref h)]) hx hb dX12_carve_22 rfl hl (by decide) rfl (fun ls hl => ?_)
        refine lv_iconst (v := 0) hx hb dX12_carve_23 (by decide) ?_
        refine lv_istore_n (lv' := [(2, .int 0), (1, .int 0), (0, .ref h)]) hx hb dX12_carve_24 rfl hl (by decide) rfl (fun ls hl => ?_)
        have lp25 : ∀ (n : Nat) (nn : Int32) (kk : Int32) (fs2 : Nat → Int32) (ft2 : Nat → Int32) (H : Heap) (locs : List Loc) (ls : Array Slot), ((0 ≤ kk.toInt ∧ kk.toInt ≤ v_sums.toInt) ∧ stR f_sumGiver f_sumPence f_isNameless (100 * (f_rule (7 : Int32).toNatClampNeg).toInt) fs2 ft2 nn kk.toNatClampNeg ∧ cvI fs2 (100 * (f_rule (7 : Int32).toNatClampNeg).toInt) nn kk) → ((250 - kk.toInt).toNat) < n → cS G k [(cMq a h v_taped v_size v_from v_behind v_hand v_value v_fault v_faultAt v_clock v_coin v_loan v_matched v_taxed v_paidStages v_grown v_pledges v_sums v_stages v_isStopped v_begun), (qarI (a 31) (d 31) 30 fs2), (qarI (a 32) (d 32) 30 ft2), (qarI (a 22) (d 22) 250 f_sumGiver), (qarI (a 24) (d 24) 250 f_sumPence), (qarI (a 9) (d 9) 30 f_isNameless), (qarI (a 0) (d 0) 9 f_rule)] [((d 31), .int), ((d 32), .int), ((d 22), .int), ((d 24), .int), ((d 9), .boolean), ((d 0), .int)] A s H locs → lv_has ls 5 [(2, .int kk), (1, .int nn), (0, .ref h)] → W p l e ({ frames := 0, cells := 0, slots := 0, locals := 0 } : Room) s m args below meth c H locs 0 0 Q (F0 m 25 ls []) := by
          intro n
          induction n with
          | zero => intro nn kk fs2 ft2 H locs ls hI hn; exact absurd hn (Nat.not_lt_zero _)
          | succ n ih25 =>
            intro nn kk fs2 ft2 H locs ls hI hn St hl
            obtain ⟨⟨hJ0, hJ1⟩, hR, hcv⟩ := hI
            have nk := nc_int hJ0
            have hn30 := cvI_n hcv
            refine lv_iload_n hx hb dX12_carve_25 rfl (lv_at hl 0 rfl) ?_
            refine lv_aload_n hx hb dX12_carve_26 rfl (lv_at hl 2 rfl) ?_
            refine cs_get F St 0 rfl rfl inX12 21 (by decide) kf_X12_246 rfl dX12_carve_27 ?_
            refine lv_icmp_ge (tgt := 133) hx hb dX12_carve_30 (by decide) (fun c30 => ?_) (fun c30 => ?_)
            ·
              have i30 := ci_le (x := v_sums) (y := kk) rfl rfl c30
              refine lv_iload_n hx hb dX12_carve_133 rfl (lv_at hl 1 rfl) ?_
              exact cs_iret F hr hlk hQ St (fs2, ft2) (r := nn) ⟨by rw [show v_sums.toNatClampNeg = kk.toNatClampNeg by omega]; exact hR, cvI_n hcv⟩ [0, 1, 2, 3, 4, 5, 6] rfl (by decide) [] rfl (by decide) (by decide) dX12_carve_134
            ·
              have i30 := ci_nle (x := v_sums) (y := kk) rfl rfl c30
              refine lv_aload_n hx hb dX12_carve_33 rfl (lv_at hl 2 rfl) ?_
              refine cs_get F St 0 rfl rfl inX12 41 (by decide) kf_X12_171 rfl dX12_carve_34 ?_
              refine lv_iload_n hx hb dX12_carve_37 rfl (lv_at hl 0 rfl) ?_
              refine cs_ild F St 3 2 rfl rfl (vp_in_iff.mpr ⟨by omega, by omega⟩) dX12_carve_38 ?_
              refine lv_topi (fun y_1 ey_1 => ?_)
              have gy_1 := congrArg Int32.toInt ey_1
              have hdy_1 := mGi_g hSg (by omega) (by omega) ey_1
              have hgv := ey_1
              refine lv_istore_n (lv' := [(3, .int y_1), (2, .int kk), (1, .int nn), (0, .ref h)]) hx hb dX12_carve_39 rfl hl (by decide) rfl (fun ls hl => ?_)
              refine lv_aload_n hx hb dX12_carve_40 rfl (lv_at hl 3 rfl) ?_
              refine cs_get F St 0 rfl rfl inX12 51 (by decide) kf_X12_197 rfl dX12_carve_41 ?_
              refine lv_iload_n hx hb dX12_carve_44 rfl (lv_at hl 0 rfl) ?_
              refine cs_ild F St 1 0 rfl rfl (vp_in_iff.mpr ⟨by omega, by omega⟩) dX12_carve_45 ?_
              refine lv_topi (fun y_2 ey_2 => ?_)
              have gy_2 := congrArg Int32.toInt ey_2
              have hat : y_2.toInt = sm (tG f_sumGiver f_sumPence (f_sumGiver kk.toNatClampNeg).toInt) kk.toNatClampNeg := by rw [ey_2, hgv]; exact stR_at hR (by rw [← hgv]; omega)
              have hq46 := cvI_at hcv hdy_1 ey_2
              refine lv_bipush (v := 100) hx hb dX12_carve_46 (by decide) ?_
              refine lv_aload_n hx hb dX12_carve_48 rfl (lv_at hl 3 rfl) ?_
              refine cs_get F St 0 rfl rfl inX12 0 (by decide) kf_X12_114 rfl dX12_carve_49 ?_
              refine lv_bipush (v := 7) hx hb dX12_carve_52 (by decide) ?_
              refine cs_ild F St 6 5 rfl rfl (vp_in_iff.mpr (by decide)) dX12_carve_54 ?_
              refine lv_topi (fun y_3 ey_3 => ?_)
              have gy_3 := congrArg Int32.toInt ey_3
              refine lv_imul hx hb dX12_carve_55 ?_
              refine lv_topi (fun y_4 ey_4 => ?_)
              first | have jy_4 : y_4.toInt = 100 * y_3.toInt := (by have q9 := ci_mul (x := 100) (y := y_3) (show (100 : Int32).toInt = 100 by decide) rfl ey_4; omega) | have jy_4 := ci_mul (x := 100) (y := y_3) (show (100 : Int32).toInt = 100 by decide) rfl ey_4
              refine lv_icmp_lt (tgt := 63) hx hb dX12_carve_56 (by decide) (fun c56 => ?_) (fun c56 => ?_)
              ·
                have i56 := ci_lt (x := y_2) (y := y_4) rfl rfl c56
                refine lv_iconst (v := 0) hx hb dX12_carve_63 (by decide) ?_
                refine lv_istore (lv' := [(4, .int 0), (3, .int y_1), (2, .int kk), (1, .int nn), (0, .ref h)]) hx hb dX12_carve_64 hl (by decide) rfl (fun ls hl => ?_)
                refine lv_aload_n hx hb dX12_carve_66 rfl (lv_at hl 4 rfl) ?_
                refine cs_get F St 0 rfl rfl inX12 51 (by decide) kf_X12_197 rfl dX12_carve_67 ?_
                refine lv_iload_n hx hb dX12_carve_70 rfl (lv_at hl 1 rfl) ?_
                refine lv_dup2_11 hx hb dX12_carve_71 rfl rfl ?_
                refine cs_ild F St 1 0 rfl rfl (vp_in_iff.mpr ⟨by omega, by omega⟩) dX12_carve_72 ?_
                refine lv_topi (fun y_5 ey_5 => ?_)
                have gy_5 := congrArg Int32.toInt ey_5
                have hq73 : y_5.toInt = y_2.toInt := congrArg _ (ey_5.trans ey_2.symm)
                refine lv_aload_n hx hb dX12_carve_73 rfl (lv_at hl 4 rfl) ?_
                refine cs_get F St 0 rfl rfl inX12 43 (by decide) kf_X12_177 rfl dX12_carve_74 ?_
                refine lv_iload_n hx hb dX12_carve_77 rfl (lv_at hl 2 rfl) ?_
                refine cs_ild F St 4 3 rfl rfl (vp_in_iff.mpr ⟨by omega, by omega⟩) dX12_carve_78 ?_
                refine lv_topi (fun y_6 ey_6 => ?_)
                have gy_6 := congrArg Int32.toInt ey_6
                have hdy_6 := mSp_p hSp (by omega) (by omega) ey_6
                refine lv_iadd hx hb dX12_carve_79 ?_
                refine lv_topi (fun y_7 ey_7 => ?_)
                first | have jy_7 : y_7.toInt = y_5.toInt + y_6.toInt := (by have q9 := ci_add (x := y_5) (y := y_6) rfl rfl ey_7; omega) | have jy_7 := ci_add (x := y_5) (y := y_6) rfl rfl ey_7
                skip
                refine cs_ist F St 1 0 rfl rfl (vp_in_iff.mpr ⟨by omega, by omega⟩) (w' := [(cMq a h v_taped v_size v_from v_behind v_hand v_value v_fault v_faultAt v_clock v_coin v_loan v_matched v_taxed v_paidStages v_grown v_pledges v_sums v_stages v_isStopped v_begun), (qarI (a 31) (d 31) 30 (upd fs2 (y_1 : Int32).toNatClampNeg y_7)), (qarI (a 32) (d 32) 30 ft2), (qarI (a 22) (d 22) 250 f_sumGiver), (qarI (a 24) (d 24) 250 f_sumPence), (qarI (a 9) (d 9) 30 f_isNameless), (qarI (a 0) (d 0) 9 f_rule)]) rfl dX12_carve_80 (fun H locs St => ?_)
                obtain ⟨f_8, ef_8⟩ : ∃ zz : Nat → Int32, zz = upd fs2 (y_1 : Int32).toNatClampNeg y_7 := ⟨_, rfl⟩
                rw [← ef_8] at St
                refine lv_iload hx hb dX12_carve_81 (lv_at hl 0 rfl) ?_
                refine lv_if_ne (tgt := 127) hx hb dX12_carve_83 (by decide) (fun c83 => ?_) (fun c83 => ?_)
                · exact absurd c83 (by decide)
                refine lv_aload_n hx hb dX12_carve_86 rfl (lv_at hl 4 rfl) ?_
                refine cs_get F St 0 rfl rfl inX12 51 (by decide) kf_X12_197 rfl dX12_carve_87 ?_
                refine lv_iload_n hx hb dX12_carve_90 rfl (lv_at hl 1 rfl) ?_
                refine cs_ild F St 1 0 rfl rfl (vp_in_iff.mpr ⟨by omega, by omega⟩) dX12_carve_91 ?_
                refine lv_topi (fun y_9 ey_9 => ?_)
                have gy_9 := congrArg Int32.toInt ey_9
                have hq92 : y_9.toInt = y_7.toInt := by rw [ey_9, ef_8, pk_us]
                refine lv_bipush (v := 100) hx hb dX12_carve_92 (by decide) ?_
                refine lv_aload_n hx hb dX12_carve_94 rfl (lv_at hl 4 rfl) ?_
                refine cs_get F St 0 rfl rfl inX12 0 (by decide) kf_X12_114 rfl dX12_carve_95 ?_
                refine lv_bipush (v := 7) hx hb dX12_carve_98 (by decide) ?_
                refine cs_ild F St 6 5 rfl rfl (vp_in_iff.mpr (by decide)) dX12_carve_100 ?_
                refine lv_topi (fun y_10 ey_10 => ?_)
                have gy_10 := congrArg Int32.toInt ey_10
                refine lv_imul hx hb dX12_carve_101 ?_
                refine lv_topi (fun y_11 ey_11 => ?_)
                first | have jy_11 : y_11.toInt = 100 * y_10.toInt := (by have q9 := ci_mul (x := 100) (y := y_10) (show (100 : Int32).toInt = 100 by decide) rfl ey_11; omega) | have jy_11 := ci_mul (x := 100) (y := y_10) (show (100 : Int32).toInt = 100 by decide) rfl ey_11
                refine lv_icmp_lt (tgt := 127) hx hb dX12_carve_102 (by decide) (fun c102 => ?_) (fun c102 => ?_)
                ·
                  have i102 := ci_lt (x := y_9) (y := y_11) rfl rfl c102
                  obtain ⟨y_12, ey_12⟩ : ∃ zz : Int32, zz = kk + 1 := ⟨_, rfl⟩
                  first | have jy_12 : y_12.toInt = kk.toInt + 1 := (by have q9 := ci_add (x := kk) rfl (show (1 : Int32).toInt = 1 by decide) ey_12; omega) | have jy_12 := ci_add (x := kk) rfl (show (1 : Int32).toInt = 1 by decide) ey_12
                  refine lv_iinc (v := y_12) (lv' := [(2, .int y_12), (4, .int 0), (3, .int y_1), (1, .int nn), (0, .ref h)]) hx hb dX12_carve_127 hl (k := 2) rfl (by rw [ey_12]; rfl) (by decide) rfl (fun ls hl => ?_)
                  refine lv_goto (tgt := 25) hx hb dX12_carve_130 (by decide) ?_
                  exact ih25 nn y_12 f_8 ft2 _ _ _ ⟨⟨by omega, by omega⟩, (by rw [nc_s hJ0 (show y_12.toInt = kk.toInt + 1 by omega), ef_8, hgv]; exact stR_n hR (by rw [← hgv]; omega) (by rw [← hgv, ← ey_2]; omega) (by unfold stQ; omega)), (by rw [ef_8]; exact cvI_keep hcv ey_2 (by omega) (by omega) (by omega))⟩ (by omega) St (lv_sub hl [0, 3, 4] rfl)
                ·
                  have i102 := ci_nlt (x := y_9) (y := y_11) rfl rfl c102
                  refine lv_aload_n hx hb dX12_carve_105 rfl (lv_at hl 4 rfl) ?_
                  refine cs_get F St 0 rfl rfl inX12 28 (by decide) kf_X12_132 rfl dX12_carve_106 ?_
                  refine lv_iload_n hx hb dX12_carve_109 rfl (lv_at hl 1 rfl) ?_
                  refine cs_zld F St 5 4 rfl rfl (vp_in_iff.mpr ⟨by omega, by omega⟩) dX12_carve_110 ?_
                  refine lv_topi (fun y_13 ey_13 => ?_)
                  have gy_13 := congrArg Int32.toInt ey_13
                  have hnm : y_13.toInt = (f_isNameless (f_sumGiver kk.toNatClampNeg).toNatClampNeg).toInt := by rw [ey_13, hgv]
                  refine lv_if_eq (tgt := 117) hx hb dX12_carve_111 (by decide) (fun c111 => ?_) (fun c111 => ?_)
                  ·
                    have i111 := ci_eq (x := y_13) (y := 0) rfl (show (0 : Int32).toInt = 0 by decide) c111
                    have hq117 := cvI_lt hcv hdy_1 ey_2 (by omega)
                    have hq118 := cvI_n hcv
                    refine lv_aload_n hx hb dX12_carve_117 rfl (lv_at hl 4 rfl) ?_
                    refine cs_get F St 0 rfl rfl inX12 52 (by decide) kf_X12_200 rfl dX12_carve_118 ?_
                    refine lv_iload_n hx hb dX12_carve_121 rfl (lv_at hl 3 rfl) ?_
                    refine lv_iload_n hx hb dX12_carve_122 rfl (lv_at hl 1 rfl) ?_
                    refine cs_ist F St 2 1 rfl rfl (vp_in_iff.mpr ⟨by omega, by omega⟩) (w' := [(cMq a h v_taped v_size v_from v_behind v_hand v_value v_fault v_faultAt v_clock v_coin v_loan v_matched v_taxed v_paidStages v_grown v_pledges v_sums v_stages v_isStopped v_begun), (qarI (a 31) (d 31) 30 f_8), (qarI (a 32) (d 32) 30 (upd ft2 (nn : Int32).toNatClampNeg y_1)), (qarI (a 22) (d 22) 250 f_sumGiver), (qarI (a 24) (d 24) 250 f_sumPence), (qarI (a 9) (d 9) 30 f_isNameless), (qarI (a 0) (d 0) 9 f_rule)]) rfl dX12_carve_123 (fun H locs St => ?_)
                    obtain ⟨f_14, ef_14⟩ : ∃ zz : Nat → Int32, zz = upd ft2 (nn : Int32).toNatClampNeg y_1 := ⟨_, rfl⟩
                    rw [← ef_14] at St
                    obtain ⟨y_15, ey_15⟩ : ∃ zz : Int32, zz = nn + 1 := ⟨_, rfl⟩
                    first | have jy_15 : y_15.toInt = nn.toInt + 1 := (by have q9 := ci_add (x := nn) rfl (show (1 : Int32).toInt = 1 by decide) ey_15; omega) | have jy_15 := ci_add (x := nn) rfl (show (1 : Int32).toInt = 1 by decide) ey_15
                    refine lv_iinc (v := y_15) (lv' := [(1, .int y_15), (4, .int 0), (3, .int y_1), (2, .int kk), (0, .ref h)]) hx hb dX12_carve_124 hl (k := 3) rfl (by rw [ey_15]; rfl) (by decide) rfl (fun ls hl => ?_)
                    obtain ⟨y_16, ey_16⟩ : ∃ zz : Int32, zz = kk + 1 := ⟨_, rfl⟩
                    first | have jy_16 : y_16.toInt = kk.toInt + 1 := (by have q9 := ci_add (x := kk) rfl (show (1 : Int32).toInt = 1 by decide) ey_16; omega) | have jy_16 := ci_add (x := kk) rfl (show (1 : Int32).toInt = 1 by decide) ey_16
                    refine lv_iinc (v := y_16) (lv' := [(2, .int y_16), (1, .int y_15), (4, .int 0), (3, .int y_1), (0, .ref h)]) hx hb dX12_carve_127 hl (k := 3) rfl (by rw [ey_16]; rfl) (by decide) rfl (fun ls hl => ?_)
                    refine lv_goto (tgt := 25) hx hb dX12_carve_130 (by decide) ?_
                    exact ih25 y_15 y_16 f_8 f_14 _ _ _ ⟨⟨by omega, by omega⟩, (by rw [nc_s hJ0 (show y_16.toInt = kk.toInt + 1 by omega), ef_8, hgv]; rw [ef_14]; exact stR_y hR (by rw [← hgv]; omega) (by rw [← hgv, ← ey_2]; omega) (by unfold stQ; omega) (by omega) (by omega) hgv), (by rw [ef_8]; exact cvI_more hcv hdy_1 ey_2 (by omega) (by omega) (by omega) (by omega) (by omega))⟩ (by omega) St (lv_sub hl [0, 1, 4] rfl)
                  ·
                    have i111 := ci_ne (x := y_13) (y := 0) rfl (show (0 : Int32).toInt = 0 by decide) c111
                    refine lv_goto (tgt := 127) hx hb dX12_carve_114 (by decide) ?_
                    obtain ⟨y_17, ey_17⟩ : ∃ zz : Int32, zz = kk + 1 := ⟨_, rfl⟩
                    first | have jy_17 : y_17.toInt = kk.toInt + 1 := (by have q9 := ci_add (x := kk) rfl (show (1 : Int32).toInt = 1 by decide) ey_17; omega) | have jy_17 := ci_add (x := kk) rfl (show (1 : Int32).toInt = 1 by decide) ey_17
                    refine lv_iinc (v := y_17) (lv' := [(2, .int y_17), (4, .int 0), (3, .int y_1), (1, .int nn), (0, .ref h)]) hx hb dX12_carve_127 hl (k := 2) rfl (by rw [ey_17]; rfl) (by decide) rfl (fun ls hl => ?_)
                    refine lv_goto (tgt := 25) hx hb dX12_carve_130 (by decide) ?_
                    exact ih25 nn y_17 f_8 ft2 _ _ _ ⟨⟨by omega, by omega⟩, (by rw [nc_s hJ0 (show y_17.toInt = kk.toInt + 1 by omega), ef_8, hgv]; exact stR_n hR (by rw [← hgv]; omega) (by rw [← hgv, ← ey_2]; omega) (by unfold stQ; omega)), (by rw [ef_8]; exact cvI_keep hcv ey_2 (by omega) (by omega) (by omega))⟩ (by omega) St (lv_sub hl [0, 3, 4] rfl)
              ·
                have i56 := ci_nlt (x := y_2) (y := y_4) rfl rfl c56
                refine lv_iconst (v := 1) hx hb dX12_carve_59 (by decide) ?_
                refine lv_goto (tgt := 64) hx hb dX12_carve_60 (by decide) ?_
                refine lv_istore (lv' := [(4, .int 1), (3, .int y_1), (2, .int kk), (1, .int nn), (0, .ref h)]) hx hb dX12_carve_64 hl (by decide) rfl (fun ls hl => ?_)
                refine lv_aload_n hx hb dX12_carve_66 rfl (lv_at hl 4 rfl) ?_
                refine cs_get F St 0 rfl rfl inX12 51 (by decide) kf_X12_197 rfl dX12_carve_67 ?_
                refine lv_iload_n hx hb dX12_carve_70 rfl (lv_at hl 1 rfl) ?_
                refine lv_dup2_11 hx hb dX12_carve_71 rfl rfl ?_
                refine cs_ild F St 1 0 rfl rfl (vp_in_iff.mpr ⟨by omega, by omega⟩) dX12_carve_72 ?_
                refine lv_topi (fun y_18 ey_18 => ?_)
                have gy_18 := congrArg Int32.toInt ey_18
                have hq73 : y_18.toInt = y_2.toInt := congrArg _ (ey_18.trans ey_2.symm)
                refine lv_aload_n hx hb dX12_carve_73 rfl (lv_at hl 4 rfl) ?_
                refine cs_get F St 0 rfl rfl inX12 43 (by decide) kf_X12_177 rfl dX12_carve_74 ?_
                refine lv_iload_n hx hb dX12_carve_77 rfl (lv_at hl 2 rfl) ?_
                refine cs_ild F St 4 3 rfl rfl (vp_in_iff.mpr ⟨by omega, by omega⟩) dX12_carve_78 ?_
                refine lv_topi (fun y_19 ey_19 => ?_)
                have gy_19 := congrArg Int32.toInt ey_19
                have hdy_19 := mSp_p hSp (by omega) (by omega) ey_19
                refine lv_iadd hx hb dX12_carve_79 ?_
                refine lv_topi (fun y_20 ey_20 => ?_)
                first | have jy_20 : y_20.toInt = y_18.toInt + y_19.toInt := (by have q9 := ci_add (x := y_18) (y := y_19) rfl rfl ey_20; omega) | have jy_20 := ci_add (x := y_18) (y := y_19) rfl rfl ey_20
                skip
                refine cs_ist F St 1 0 rfl rfl (vp_in_iff.mpr ⟨by omega, by omega⟩) (w' := [(cMq a h v_taped v_size v_from v_behind v_hand v_value v_fault v_faultAt v_clock v_coin v_loan v_matched v_taxed v_paidStages v_grown v_pledges v_sums v_stages v_isStopped v_begun), (qarI (a 31) (d 31) 30 (upd fs2 (y_1 : Int32).toNatClampNeg y_20)), (qarI (a 32) (d 32) 30 ft2), (qarI (a 22) (d 22) 250 f_sumGiver), (qarI (a 24) (d 24) 250 f_sumPence), (qarI (a 9) (d 9) 30 f_isNameless), (qarI (a 0) (d 0) 9 f_rule)]) rfl dX12_carve_80 (fun H locs St => ?_)
                obtain ⟨f_21, ef_21⟩ : ∃ zz : Nat → Int32, zz = upd fs2 (y_1 : Int32).toNatClampNeg y_20 := ⟨_, rfl⟩
                rw [← ef_21] at St
                refine lv_iload hx hb dX12_carve_81 (lv_at hl 0 rfl) ?_
                refine lv_if_ne (tgt := 127) hx hb dX12_carve_83 (by decide) (fun c83 => ?_) (fun c83 => ?_)
                rotate_left
                · exact absurd c83 (by decide)
                obtain ⟨y_22, ey_22⟩ : ∃ zz : Int32, zz = kk + 1 := ⟨_, rfl⟩
                first | have jy_22 : y_22.toInt = kk.toInt + 1 := (by have q9 := ci_add (x := kk) rfl (show (1 : Int32).toInt = 1 by decide) ey_22; omega) | have jy_22 := ci_add (x := kk) rfl (show (1 : Int32).toInt = 1 by decide) ey_22
                refine lv_iinc (v := y_22) (lv' := [(2, .int y_22), (4, .int 1), (3, .int y_1), (1, .int nn), (0, .ref h)]) hx hb dX12_carve_127 hl (k := 2) rfl (by rw [ey_22]; rfl) (by decide) rfl (fun ls hl => ?_)
                refine lv_goto (tgt := 25) hx hb dX12_carve_130 (by decide) ?_
                exact ih25 nn y_22 f_21 ft2 _ _ _ ⟨⟨by omega, by omega⟩, (by rw [nc_s hJ0 (show y_22.toInt = kk.toInt + 1 by omega), ef_21, hgv]; exact stR_n hR (by rw [← hgv]; omega) (by rw [← hgv, ← ey_2]; omega) (by unfold stQ; omega)), (by rw [ef_21]; exact cvI_keep hcv ey_2 (by omega) (by omega) (by omega))⟩ (by omega) St (lv_sub hl [0, 3, 4] rfl)
        exact lp25 251 0 0 fs f_stones _ _ _ ⟨⟨by omega, by omega⟩, stR_0 y0 (fun g_ h_ => hI1 g_ (by omega)), cvI_0 (fun g_ h_ => hI1 g_ (by omega))⟩ (by omega) St (lv_sub hl [0, 1, 2] rfl)
      ·
        have i5 := ci_nle (x := 30) (y := i) (show (30 : Int32).toInt = 30 by decide) rfl c5
        refine lv_aload_n hx hb dX12_carve_8 rfl (lv_at hl 1 rfl) ?_
        refine cs_get F St 0 rfl rfl inX12 51 (by decide) kf_X12_197 rfl dX12_carve_9 ?_
        refine lv_iload_n hx hb dX12_carve_12 rfl (lv_at hl 0 rfl) ?_
        refine lv_iconst (v := 0) hx hb dX12_carve_13 (by decide) ?_
        refine cs_ist F St 1 0 rfl rfl (vp_in_iff.mpr ⟨by omega, by omega⟩) (w' := [(cMq a h v_taped v_size v_from v_behind v_hand v_value v_fault v_faultAt v_clock v_coin v_loan v_matched v_taxed v_paidStages v_grown v_pledges v_sums v_stages v_isStopped v_begun), (qarI (a 31) (d 31) 30 (upd fs (i : Int32).toNatClampNeg 0)), (qarI (a 32) (d 32) 30 f_stones), (qarI (a 22) (d 22) 250 f_sumGiver), (qarI (a 24) (d 24) 250 f_sumPence), (qarI (a 9) (d 9) 30 f_isNameless), (qarI (a 0) (d 0) 9 f_rule)]) rfl dX12_carve_14 (fun H locs St => ?_)
        obtain ⟨f_23, ef_23⟩ : ∃ zz : Nat → Int32, zz = upd fs (i : Int32).toNatClampNeg 0 := ⟨_, rfl⟩
        rw [← ef_23] at St
        obtain ⟨y_24, ey_24⟩ : ∃ zz : Int32, zz = i + 1 := ⟨_, rfl⟩
        first | have jy_24 : y_24.toInt = i.toInt + 1 := (by have q9 := ci_add (x := i) rfl (show (1 : Int32).toInt = 1 by decide) ey_24; omega) | have jy_24 := ci_add (x := i) rfl (show (1 : Int32).toInt = 1 by decide) ey_24
        refine lv_iinc (v := y_24) (lv' := [(1, .int y_24), (0, .ref h)]) hx hb dX12_carve_15 hl (k := 0) rfl (by rw [ey_24]; rfl) (by decide) rfl (fun ls hl => ?_)
        refine lv_goto (tgt := 2) hx hb dX12_carve_18 (by decide) ?_
        exact ih y_24 f_23 _ _ _ ⟨⟨by omega, by omega⟩, by rw [ef_23]; exact row_up (P := fun z => z = 0) hI0.1 hI1 (by omega) rfl⟩ (by omega) St (lv_sub hl [0, 1] rfl)
  exact lp2 31 0 f_sum _ _ _ ⟨⟨by decide, by decide⟩, fun g q => absurd q (by omega)⟩ (by decide) St (lv_sub hl [0, 1] rfl)
set_option maxHeartbeats 4000000 in
set_option maxRecDepth 100000 in
theorem e12_stone (l : Launch) (G : va_G) (k : Nat → Nat) (sz : Nat) (h : Nat) (a : Nat → Nat) (d : Nat → ClassId) (v_taped : Int32) (v_size : Int32) (v_from : Int32) (v_behind : Int32) (v_hand : Int32) (v_value : Int32) (v_fault : Int32) (v_faultAt : Int32) (v_clock : Int32) (v_coin : Int32) (v_loan : Int32) (v_matched : Int32) (v_taxed : Int32) (v_paidStages : Int32) (v_grown : Int32) (v_pledges : Int32) (v_sums : Int32) (v_stages : Int32) (v_isStopped : Int32) (v_begun : Int32) (f_sum : Nat → Int32) (f_stones : Nat → Int32) (f_sumGiver : Nat → Int32) (f_sumPence : Nat → Int32) (f_isNameless : Nat → Int32) (f_rule : Nat → Int32) (x1 : Int32) (hSg : mGi v_sums f_sumGiver) (hSp : mSp v_sums f_sumPence) (hF : rbd f_rule) : Met l yX12_stone (Cond.code yX12_stone cX12_stone 2 (some .int) :: tb) ({ frames := 1, cells := 0, slots := 0, locals := 25 } : Room) (va_Pc [.ref h, .int x1] (cP G k [(cMq a h v_taped v_size v_from v_behind v_hand v_value v_fault v_faultAt v_clock v_coin v_loan v_matched v_taxed v_paidStages v_grown v_pledges v_sums v_stages v_isStopped v_begun), (qarI (a 31) (d 31) 30 f_sum), (qarI (a 32) (d 32) 30 f_stones), (qarI (a 22) (d 22) 250 f_sumGiver), (qarI (a 24) (d 24) 250 f_sumPence), (qarI (a 9) (d 9) 30 f_isNameless), (qarI (a 0) (d 0) 9 f_rule)] [((d 31), .int), ((d 32), .int), ((d 22), .int), ((d 24), .int), ((d 9), .boolean), ((d 0), .int)] sz)) (va_Qi (fun (r : Int32) (u : (Nat → Int32) × (Nat → Int32)) => match u with | (g_sum, g_stones) => (stA f_sumGiver f_sumPence f_isNameless (100 * (f_rule (7 : Int32).toNatClampNeg).toInt) v_sums.toNatClampNeg x1 r)) (cB G (fun u => match u with | (g_sum, g_stones) => [(cMq a h v_taped v_size v_from v_behind v_hand v_value v_fault v_faultAt v_clock v_coin v_loan v_matched v_taxed v_paidStages v_grown v_pledges v_sums v_stages v_isStopped v_begun), (qarI (a 31) (d 31) 30 g_sum), (qarI (a 32) (d 32) 30 g_stones), (qarI (a 22) (d 22) 250 f_sumGiver), (qarI (a 24) (d 24) 250 f_sumPence), (qarI (a 9) (d 9) 30 f_isNameless), (qarI (a 0) (d 0) 9 f_rule)]) (fun u => match u with | (g_sum, g_stones) => []) (va_A [(cMq a h v_taped v_size v_from v_behind v_hand v_value v_fault v_faultAt v_clock v_coin v_loan v_matched v_taxed v_paidStages v_grown v_pledges v_sums v_stages v_isStopped v_begun), (qarI (a 31) (d 31) 30 f_sum), (qarI (a 32) (d 32) 30 f_stones), (qarI (a 22) (d 22) 250 f_sumGiver), (qarI (a 24) (d 24) 250 f_sumPence), (qarI (a 9) (d 9) 30 f_isNameless), (qarI (a 0) (d 0) 9 f_rule)] sz)) (va_A [(cMq a h v_taped v_size v_from v_behind v_hand v_value v_fault v_faultAt v_clock v_coin v_loan v_matched v_taxed v_paidStages v_grown v_pledges v_sums v_stages v_isStopped v_begun), (qarI (a 31) (d 31) 30 f_sum), (qarI (a 32) (d 32) 30 f_stones), (qarI (a 22) (d 22) 250 f_sumGiver), (qarI (a 24) (d 24) 250 f_sumPence), (qarI (a 9) (d 9) 30 f_isNameless), (qarI (a 0) (d 0) 9 f_rule)] sz)) 0 0 (va_A [(cMq a h v_taped v_size v_from v_behind v_hand v_value v_fault v_faultAt v_clock v_coin v_loan v_matched v_taxed v_paidStages v_grown v_pledges v_sums v_stages v_isStopped v_begun), (qarI (a 31) (d 31) 30 f_sum), (qarI (a 32) (d 32) 30 f_stones), (qarI (a 22) (d 22) 250 f_sumGiver), (qarI (a 24) (d 24) 250 f_sumPence), (qarI (a 9) (d 9) 30 f_isNameless), (qarI (a 0) (d 0) 9 f_rule)] sz) := by
  refine ofC_i (cc := cX12_stone) (maxL := 2) (ret := (some .int)) (by decide) rfl (Nat.le_of_ble_eq_true rfl) ?_
  intro p e s m args below meth c A ls Q F hr hin hlk St hl hQ
  have hx := F.1
  have hb := F.2.1
  have hl : lv_has ls 2 [(0, .ref h), (1, .int x1)] := hl
  have St : cS G k [(cMq a h v_taped v_size v_from v_behind v_hand v_value v_fault v_faultAt v_clock v_coin v_loan v_matched v_taxed v_paidStages v_grown v_pledges v_sums v_stages v_isStopped v_begun), (qarI (a 31) (d 31) 30 f_sum), (qarI (a 32) (d 32) 30 f_stones), (qarI (a 22) (d 22) 250 f_sumGiver), (qarI (a 24) (d 24) 250 f_sumPence), (qarI (a 9) (d 9) 30 f_isNameless), (qarI (a 0) (d 0) 9 f_rule)] [((d 31), .int), ((d 32), .int), ((d 22), .int), ((d 24), .int), ((d 9), .boolean), ((d 0), .int)] A s s.heap [] := St
  have y0 : (0 : Int32).toInt = 0 := by decide
  refine lv_iload_n hx hb dX12_stone_0 rfl (lv_at hl 1 rfl) ?_
  refine lv_i2l (v := x1.toInt64) hx hb dX12_stone_1 rfl ?_
  refine lv_lconst (v := 0) hx hb dX12_stone_2 (by decide) ?_
  refine lv_aload_n hx hb dX12_stone_3 rfl (lv_at hl 0 rfl) ?_
  refine cs_i St [0, 1, 2, 3, 4, 5, 6] [] (wc := [(cMq a h v_taped v_size v_from v_behind v_hand v_value v_fault v_faultAt v_clock v_coin v_loan v_matched v_taxed v_paidStages v_grown v_pledges v_sums v_stages v_isStopped v_begun), (qarI (a 31) (d 31) 30 f_sum), (qarI (a 32) (d 32) 30 f_stones), (qarI (a 22) (d 22) 250 f_sumGiver), (qarI (a 24) (d 24) 250 f_sumPence), (qarI (a 9) (d 9) 30 f_isNameless), (qarI (a 0) (d 0) 9 f_rule)]) (wr := []) rfl rfl (by decide) (by decide) (va_runV (As := []) (rest := [.long 0, .long x1.toInt64]) F (e12_carve l G k _ h a d v_taped v_size v_from v_behind v_hand v_value v_fault v_faultAt v_clock v_coin v_loan v_matched v_taxed v_paidStages v_grown v_pledges v_sums v_stages v_isStopped v_begun f_sum f_stones f_sumGiver f_sumPence f_isNameless f_rule hSg hSp hF) (cwVt F mf_X12_carve km_X12_314 rfl rfl ⟨Nat.le_of_ble_eq_true rfl, Nat.le_of_ble_eq_true rfl⟩) (cs_preV St [0, 1, 2, 3, 4, 5, 6] rfl (by decide) [0, 1, 2, 3, 4, 5] rfl (ci := 12) (q0 := 0) rfl rfl) rfl rfl hl.1 rfl (lv_room (Nat.le_of_ble_eq_true rfl)) dX12_stone_4 ⟨Nat.le_of_ble_eq_true rfl, Nat.le_of_ble_eq_true rfl⟩) (fun r_1 u_2 H locs hw St => ?_)
  obtain ⟨g_sum_3, g_stones_4⟩ := u_2
  try dsimp only at hw
  obtain ⟨hr_5, hr30_6⟩ := hw
  have St : cS G k [(cMq a h v_taped v_size v_from v_behind v_hand v_value v_fault v_faultAt v_clock v_coin v_loan v_matched v_taxed v_paidStages v_grown v_pledges v_sums v_stages v_isStopped v_begun), (qarI (a 31) (d 31) 30 g_sum_3), (qarI (a 32) (d 32) 30 g_stones_4), (qarI (a 22) (d 22) 250 f_sumGiver), (qarI (a 24) (d 24) 250 f_sumPence), (qarI (a 9) (d 9) 30 f_isNameless), (qarI (a 0) (d 0) 9 f_rule)] [((d 31), .int), ((d 32), .int), ((d 22), .int), ((d 24), .int), ((d 9), .boolean), ((d 0), .int)] A s H locs := St
  refine lv_i2l (v := r_1.toInt64) hx hb dX12_stone_7 rfl ?_
  refine lv_lconst (v := 1) hx hb dX12_stone_8 (by decide) ?_
  refine lv_lsub hx hb dX12_stone_9 ?_
  refine lv_topl (fun y_7 ey_7 => ?_)
  first | have jy_7 : y_7.toInt = r_1.toInt - 1 := (by have q7 := ci_rng r_1; have q9 := cl_sub (x := r_1.toInt64) (y := 1) (u := r_1.toInt) (v := 1) (Int32.toInt_toInt64 r_1) (by decide) ey_7; omega) | have jy_7 := cl_sub (x := r_1.toInt64) (y := 1) (u := r_1.toInt) (v := 1) (Int32.toInt_toInt64 r_1) (by decide) ey_7
  refine cs_i St [] [0, 1, 2, 3, 4, 5, 6] (wc := []) (wr := [(cMq a h v_taped v_size v_from v_behind v_hand v_value v_fault v_faultAt v_clock v_coin v_loan v_matched v_taxed v_paidStages v_grown v_pledges v_sums v_stages v_isStopped v_begun), (qarI (a 31) (d 31) 30 g_sum_3), (qarI (a 32) (d 32) 30 g_stones_4), (qarI (a 22) (d 22) 250 f_sumGiver), (qarI (a 24) (d 24) 250 f_sumPence), (qarI (a 9) (d 9) 30 f_isNameless), (qarI (a 0) (d 0) 9 f_rule)]) rfl rfl (by decide) (by decide) (va_runS (As := [.long x1.toInt64, .long 0, .long y_7]) (rest := []) F (c12_in l G k _ x1.toInt64 0 y_7 x1.toInt 0 y_7.toInt (Int32.toInt_toInt64 x1) (by decide) rfl) (cwSt F mf_X12_in km_X12_58 rfl rfl ⟨Nat.le_of_ble_eq_true rfl, Nat.le_of_ble_eq_true rfl⟩) (cs_pre St [] rfl (by decide) [] rfl) rfl rfl hl.1 rfl (lv_room (Nat.le_of_ble_eq_true rfl)) dX12_stone_10 ⟨Nat.le_of_ble_eq_true rfl, Nat.le_of_ble_eq_true rfl⟩) (fun r_8 u_9 H locs hw St => ?_)
  try dsimp only at hw
  rcases hw with ⟨z_10, hf_11⟩ | ⟨z_12, hf_13⟩
  ·
    subst r_8
    have St : cS G k [(cMq a h v_taped v_size v_from v_behind v_hand v_value v_fault v_faultAt v_clock v_coin v_loan v_matched v_taxed v_paidStages v_grown v_pledges v_sums v_stages v_isStopped v_begun), (qarI (a 31) (d 31) 30 g_sum_3), (qarI (a 32) (d 32) 30 g_stones_4), (qarI (a 22) (d 22) 250 f_sumGiver), (qarI (a 24) (d 24) 250 f_sumPence), (qarI (a 9) (d 9) 30 f_isNameless), (qarI (a 0) (d 0) 9 f_rule)] [((d 31), .int), ((d 32), .int), ((d 22), .int), ((d 24), .int), ((d 9), .boolean), ((d 0), .int)] A s H locs := St
    refine lv_if_eq (tgt := 25) hx hb dX12_stone_13 (by decide) (fun c13 => ?_) (fun c13 => ?_)
    · exact absurd c13 (by decide)
    refine lv_aload_n hx hb dX12_stone_16 rfl (lv_at hl 0 rfl) ?_
    refine cs_get F St 0 rfl rfl inX12 52 (by decide) kf_X12_200 rfl dX12_stone_17 ?_
    refine lv_iload_n hx hb dX12_stone_20 rfl (lv_at hl 1 rfl) ?_
    refine cs_ild F St 2 1 rfl rfl (vp_in_iff.mpr ⟨by omega, by omega⟩) dX12_stone_21 ?_
    refine lv_topi (fun y_14 ey_14 => ?_)
    have gy_14 := congrArg Int32.toInt ey_14
    refine lv_goto (tgt := 26) hx hb dX12_stone_22 (by decide) ?_
    exact cs_iret F hr hlk hQ St (g_sum_3, g_stones_4) (r := y_14) (stR_a hr_5 (by omega) (by omega) ey_14) [0, 1, 2, 3, 4, 5, 6] rfl (by decide) [] rfl (by decide) (by decide) dX12_stone_26
  ·
    subst r_8
    have St : cS G k [(cMq a h v_taped v_size v_from v_behind v_hand v_value v_fault v_faultAt v_clock v_coin v_loan v_matched v_taxed v_paidStages v_grown v_pledges v_sums v_stages v_isStopped v_begun), (qarI (a 31) (d 31) 30 g_sum_3), (qarI (a 32) (d 32) 30 g_stones_4), (qarI (a 22) (d 22) 250 f_sumGiver), (qarI (a 24) (d 24) 250 f_sumPence), (qarI (a 9) (d 9) 30 f_isNameless), (qarI (a 0) (d 0) 9 f_rule)] [((d 31), .int), ((d 32), .int), ((d 22), .int), ((d 24), .int), ((d 9), .boolean), ((d 0), .int)] A s H locs := St
    refine lv_if_eq (tgt := 25) hx hb dX12_stone_13 (by decide) (fun c13 => ?_) (fun c13 => ?_)
    rotate_left
    · exact absurd (by decide) c13
    refine lv_iconst (v := (-1)) hx hb dX12_stone_25 (by decide) ?_
    exact cs_iret F hr hlk hQ St (g_sum_3, g_stones_4) (r := (-1)) (stR_b hr_5 (by omega)) [0, 1, 2, 3, 4, 5, 6] rfl (by decide) [] rfl (by decide) (by decide) dX12_stone_26

