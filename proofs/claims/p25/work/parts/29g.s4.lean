set_option maxHeartbeats 4000000 in
set_option maxRecDepth 100000 in
theorem mr_readLine (l : Launch) (G : va_G) (k : Nat → Nat) (sz : Nat) (h : Nat) (a : Nat → Nat) (d : Nat → ClassId) (v_taped : Int32) (v_size : Int32) (v_from : Int32) (v_behind : Int32) (v_hand : Int32) (v_value : Int32) (v_fault : Int32) (v_faultAt : Int32) (v_clock : Int32) (v_coin : Int32) (v_loan : Int32) (v_matched : Int32) (v_taxed : Int32) (v_paidStages : Int32) (v_grown : Int32) (v_pledges : Int32) (v_sums : Int32) (v_stages : Int32) (v_isStopped : Int32) (v_begun : Int32) (f_tape : Nat → Int32) (f_read : Nat → Int32) (x : Int32) (j0 : Int32) (hs0 : 0 ≤ v_size.toInt) (hs1 : v_size.toInt ≤ 400) (hby9 : Byt f_tape) (hj0 : 0 ≤ j0.toInt) (hj1 : j0.toInt ≤ v_size.toInt) (ht0 : TK f_tape v_size j0 v_hand v_from v_behind v_value) (hx0 : 0 ≤ x.toInt) (hx5 : x.toInt ≤ 5) : MetT l yX12_readLine (Cond.code yX12_readLine cX12_readLine 2 none :: tb) ({ frames := 5, cells := 0, slots := 0, locals := 108 } : Room) (va_Pc [.ref h, .int x] (cP G k [(cMq a h v_taped v_size v_from v_behind v_hand v_value v_fault v_faultAt v_clock v_coin v_loan v_matched v_taxed v_paidStages v_grown v_pledges v_sums v_stages v_isStopped v_begun), (qarI (a 3) (d 3) 400 f_tape), (qarI (a 1) (d 1) 9 f_read)] [((d 3), .byte), ((d 1), .int)] sz)) (QT (fun _ => none) (fun (r : Int32) (u : Int32 × Int32 × Int32 × Int32 × Int32 × Int32 × (Nat → Int32)) => match u with | (w_from, w_behind, w_hand, w_value, w_fault, w_faultAt, g_read) => (MLR (lnS f_tape v_size.toNatClampNeg x.toNatClampNeg f_read j0.toNatClampNeg) f_tape v_size w_hand w_from w_behind w_value g_read) ∧ (w_fault = v_fault ∧ w_faultAt = v_faultAt)) (fun (u : Int32 × Int32 × Int32 × Int32 × Int32 × Int32 × (Nat → Int32)) => match u with | (w_from, w_behind, w_hand, w_value, w_fault, w_faultAt, g_read) => (MLF (lnS f_tape v_size.toNatClampNeg x.toNatClampNeg f_read j0.toNatClampNeg) w_fault w_faultAt)) (a 2) (cB G (fun u => match u with | (w_from, w_behind, w_hand, w_value, w_fault, w_faultAt, g_read) => [(cMq a h v_taped v_size w_from w_behind w_hand w_value w_fault w_faultAt v_clock v_coin v_loan v_matched v_taxed v_paidStages v_grown v_pledges v_sums v_stages v_isStopped v_begun), (qarI (a 3) (d 3) 400 f_tape), (qarI (a 1) (d 1) 9 g_read)]) (fun u => match u with | (w_from, w_behind, w_hand, w_value, w_fault, w_faultAt, g_read) => []) (va_A [(cMq a h v_taped v_size v_from v_behind v_hand v_value v_fault v_faultAt v_clock v_coin v_loan v_matched v_taxed v_paidStages v_grown v_pledges v_sums v_stages v_isStopped v_begun), (qarI (a 3) (d 3) 400 f_tape), (qarI (a 1) (d 1) 9 f_read)] sz)) (va_A [(cMq a h v_taped v_size v_from v_behind v_hand v_value v_fault v_faultAt v_clock v_coin v_loan v_matched v_taxed v_paidStages v_grown v_pledges v_sums v_stages v_isStopped v_begun), (qarI (a 3) (d 3) 400 f_tape), (qarI (a 1) (d 1) 9 f_read)] sz)) 0 0 (va_A [(cMq a h v_taped v_size v_from v_behind v_hand v_value v_fault v_faultAt v_clock v_coin v_loan v_matched v_taxed v_paidStages v_grown v_pledges v_sums v_stages v_isStopped v_begun), (qarI (a 3) (d 3) 400 f_tape), (qarI (a 1) (d 1) 9 f_read)] sz) := by
  refine ofCT (cc := cX12_readLine) (maxL := 2) (ret := none) (by decide) rfl (Nat.le_of_ble_eq_true rfl) ?_
  intro p e s m args below meth c A ls Q F hr hin hlk hex St hl hQ
  have hx := F.1
  have hb := F.2.1
  have hl : lv_has ls 2 [(0, .ref h), (1, .int x)] := hl
  have St : cS G k [(cMq a h v_taped v_size v_from v_behind v_hand v_value v_fault v_faultAt v_clock v_coin v_loan v_matched v_taxed v_paidStages v_grown v_pledges v_sums v_stages v_isStopped v_begun), (qarI (a 3) (d 3) 400 f_tape), (qarI (a 1) (d 1) 9 f_read)] [((d 3), .byte), ((d 1), .int)] A s s.heap [] := St
  have hb9 := TK_le hj0 hj1 ht0
  have y5 : (5 : Int32).toInt = 5 := by decide
  skip
  refine lv_iload_n hx hb dX12_readLine_0 rfl (lv_at hl 1 rfl) ?_
  by_cases w1_0 : x = 0
  ·
    subst w1_0
    refine lv_tableIn (tgt := 36) (off := 35) hx hb dX12_readLine_1 (by decide) (by decide) (by decide) (by decide) ?_
    have hz0 : lnS f_tape v_size.toNatClampNeg (0 : Int32).toNatClampNeg f_read j0.toNatClampNeg = nums f_tape v_size.toNatClampNeg 3 0 f_read j0.toNatClampNeg := rfl
    refine lv_aload_n hx hb dX12_readLine_36 rfl (lv_at hl 0 rfl) ?_
    refine cs_get F St 0 rfl rfl inX12 1 (by decide) kf_X12_82 rfl dX12_readLine_37 ?_
    refine lv_iconst (v := 0) hx hb dX12_readLine_40 (by decide) ?_
    refine lv_aload_n hx hb dX12_readLine_41 rfl (lv_at hl 0 rfl) ?_
    refine lv_iconst (v := 0) hx hb dX12_readLine_42 (by decide) ?_
    refine lv_bipush (v := 100) hx hb dX12_readLine_43 (by decide) ?_
    refine cs_T St [0, 1] [2] (wc := [(cMq a h v_taped v_size v_from v_behind v_hand v_value v_fault v_faultAt v_clock v_coin v_loan v_matched v_taxed v_paidStages v_grown v_pledges v_sums v_stages v_isStopped v_begun), (qarI (a 3) (d 3) 400 f_tape)]) (wr := [(qarI (a 1) (d 1) 9 f_read)]) rfl rfl (by decide) (by decide) (runVT (As := [.int 0, .int 100]) (rest := [.int 0, .ref (a 1)]) F (mr_number l G k _ h a d v_taped v_size v_from v_behind v_hand v_value v_fault v_faultAt v_clock v_coin v_loan v_matched v_taxed v_paidStages v_grown v_pledges v_sums v_stages v_isStopped v_begun f_tape 0 100 (by omega) (by omega) (by omega) (by omega) (by omega) hby9) mf_X12_number km_X12_100 rfl rfl ⟨Nat.le_of_ble_eq_true rfl, Nat.le_of_ble_eq_true rfl⟩ (cs_preV St [0, 1] rfl (by decide) [0] rfl (ci := 12) (q0 := 0) rfl rfl) rfl rfl hl.1 rfl (lv_room (Nat.le_of_ble_eq_true rfl)) dX12_readLine_45 ⟨Nat.le_of_ble_eq_true rfl, Nat.le_of_ble_eq_true rfl⟩) (fun r_ u_ H locs hw St => ?_) (fun u_ H locs hw St => ?_)
    ·
      obtain ⟨r_9, rfl⟩ : ∃ z, z = r_ := ⟨_, rfl⟩
      obtain ⟨w_from_3, w_behind_4, w_hand_5, w_value_6, w_fault_7, w_faultAt_8⟩ := u_
      try dsimp only at hw
      obtain ⟨hn_10, ht_11, hfu_12⟩ := hw
      have St : cS G k [(qarI (a 1) (d 1) 9 f_read), (cMq a h v_taped v_size w_from_3 w_behind_4 w_hand_5 w_value_6 w_fault_7 w_faultAt_8 v_clock v_coin v_loan v_matched v_taxed v_paidStages v_grown v_pledges v_sums v_stages v_isStopped v_begun), (qarI (a 3) (d 3) 400 f_tape)] [((d 3), .byte), ((d 1), .int)] A s H locs := St
      have ht_11b := TK_le (by omega) (by omega) ht_11
      refine W.eq (g2 := F0 m 48 ls [.int r_9, .int 0, .ref (a 1)]) rfl ?_
      refine cs_ist F St 0 1 rfl rfl (vp_in_iff.mpr (by decide)) (w' := [(qarI (a 1) (d 1) 9 (upd f_read (0 : Int32).toNatClampNeg r_9)), (cMq a h v_taped v_size w_from_3 w_behind_4 w_hand_5 w_value_6 w_fault_7 w_faultAt_8 v_clock v_coin v_loan v_matched v_taxed v_paidStages v_grown v_pledges v_sums v_stages v_isStopped v_begun), (qarI (a 3) (d 3) 400 f_tape)]) rfl dX12_readLine_48 (fun H locs St => ?_)
      obtain ⟨f_13, ef_13⟩ : ∃ zz : Nat → Int32, zz = upd f_read (0 : Int32).toNatClampNeg r_9 := ⟨_, rfl⟩
      rw [← ef_13] at St
      have hz2_0 : lnS f_tape v_size.toNatClampNeg (0 : Int32).toNatClampNeg f_read j0.toNatClampNeg = nums f_tape v_size.toNatClampNeg 2 1 f_13 v_behind.toNatClampNeg := hz0.trans ((nu_ok (r := 0) (c := 2) ht0 hn_10.1 hn_10.2.1).trans (nu_eq (by rw [ef_13, hn_10.2.2]; rfl)))
      refine lv_aload_n hx hb dX12_readLine_49 rfl (lv_at hl 0 rfl) ?_
      refine cs_get F St 1 rfl rfl inX12 1 (by decide) kf_X12_82 rfl dX12_readLine_50 ?_
      refine lv_iconst (v := 1) hx hb dX12_readLine_53 (by decide) ?_
      refine lv_aload_n hx hb dX12_readLine_54 rfl (lv_at hl 0 rfl) ?_
      refine lv_iconst (v := 0) hx hb dX12_readLine_55 (by decide) ?_
      refine lv_ldc (v := 999999) hx hb F.2.2.2.1 (F.2.2.2.2 _ kk_X12_104) dX12_readLine_56 ?_
      refine cs_T St [1, 2] [0] (wc := [(cMq a h v_taped v_size w_from_3 w_behind_4 w_hand_5 w_value_6 w_fault_7 w_faultAt_8 v_clock v_coin v_loan v_matched v_taxed v_paidStages v_grown v_pledges v_sums v_stages v_isStopped v_begun), (qarI (a 3) (d 3) 400 f_tape)]) (wr := [(qarI (a 1) (d 1) 9 f_13)]) rfl rfl (by decide) (by decide) (runVT (As := [.int 0, .int 999999]) (rest := [.int 1, .ref (a 1)]) F (mr_number l G k _ h a d v_taped v_size w_from_3 w_behind_4 w_hand_5 w_value_6 w_fault_7 w_faultAt_8 v_clock v_coin v_loan v_matched v_taxed v_paidStages v_grown v_pledges v_sums v_stages v_isStopped v_begun f_tape 0 999999 (by omega) (by omega) (by omega) (by omega) (by omega) hby9) mf_X12_number km_X12_100 rfl rfl ⟨Nat.le_of_ble_eq_true rfl, Nat.le_of_ble_eq_true rfl⟩ (cs_preV St [1, 2] rfl (by decide) [0] rfl (ci := 12) (q0 := 1) rfl rfl) rfl rfl hl.1 rfl (lv_room (Nat.le_of_ble_eq_true rfl)) dX12_readLine_58 ⟨Nat.le_of_ble_eq_true rfl, Nat.le_of_ble_eq_true rfl⟩) (fun r_ u_ H locs hw St => ?_) (fun u_ H locs hw St => ?_)
      ·
        obtain ⟨r_22, rfl⟩ : ∃ z, z = r_ := ⟨_, rfl⟩
        obtain ⟨w_from_16, w_behind_17, w_hand_18, w_value_19, w_fault_20, w_faultAt_21⟩ := u_
        try dsimp only at hw
        obtain ⟨hn_23, ht_24, hfu_25⟩ := hw
        have St : cS G k [(qarI (a 1) (d 1) 9 f_13), (cMq a h v_taped v_size w_from_16 w_behind_17 w_hand_18 w_value_19 w_fault_20 w_faultAt_21 v_clock v_coin v_loan v_matched v_taxed v_paidStages v_grown v_pledges v_sums v_stages v_isStopped v_begun), (qarI (a 3) (d 3) 400 f_tape)] [((d 3), .byte), ((d 1), .int)] A s H locs := St
        have ht_24b := TK_le (by omega) (by omega) ht_24
        refine W.eq (g2 := F0 m 61 ls [.int r_22, .int 1, .ref (a 1)]) rfl ?_
        refine cs_ist F St 0 1 rfl rfl (vp_in_iff.mpr (by decide)) (w' := [(qarI (a 1) (d 1) 9 (upd f_13 (1 : Int32).toNatClampNeg r_22)), (cMq a h v_taped v_size w_from_16 w_behind_17 w_hand_18 w_value_19 w_fault_20 w_faultAt_21 v_clock v_coin v_loan v_matched v_taxed v_paidStages v_grown v_pledges v_sums v_stages v_isStopped v_begun), (qarI (a 3) (d 3) 400 f_tape)]) rfl dX12_readLine_61 (fun H locs St => ?_)
        obtain ⟨f_26, ef_26⟩ : ∃ zz : Nat → Int32, zz = upd f_13 (1 : Int32).toNatClampNeg r_22 := ⟨_, rfl⟩
        rw [← ef_26] at St
        have hz1_1 : lnS f_tape v_size.toNatClampNeg (0 : Int32).toNatClampNeg f_read j0.toNatClampNeg = nums f_tape v_size.toNatClampNeg 1 2 f_26 w_behind_4.toNatClampNeg := hz2_0.trans ((nu_ok (r := 1) (c := 1) ht_11 hn_23.1 hn_23.2.1).trans (nu_eq (by rw [ef_26, hn_23.2.2]; rfl)))
        refine lv_aload_n hx hb dX12_readLine_62 rfl (lv_at hl 0 rfl) ?_
        refine cs_get F St 1 rfl rfl inX12 1 (by decide) kf_X12_82 rfl dX12_readLine_63 ?_
        refine lv_iconst (v := 2) hx hb dX12_readLine_66 (by decide) ?_
        refine lv_aload_n hx hb dX12_readLine_67 rfl (lv_at hl 0 rfl) ?_
        refine lv_iconst (v := 0) hx hb dX12_readLine_68 (by decide) ?_
        refine lv_bipush (v := 119) hx hb dX12_readLine_69 (by decide) ?_
        refine cs_T St [1, 2] [0] (wc := [(cMq a h v_taped v_size w_from_16 w_behind_17 w_hand_18 w_value_19 w_fault_20 w_faultAt_21 v_clock v_coin v_loan v_matched v_taxed v_paidStages v_grown v_pledges v_sums v_stages v_isStopped v_begun), (qarI (a 3) (d 3) 400 f_tape)]) (wr := [(qarI (a 1) (d 1) 9 f_26)]) rfl rfl (by decide) (by decide) (runVT (As := [.int 0, .int 119]) (rest := [.int 2, .ref (a 1)]) F (mr_number l G k _ h a d v_taped v_size w_from_16 w_behind_17 w_hand_18 w_value_19 w_fault_20 w_faultAt_21 v_clock v_coin v_loan v_matched v_taxed v_paidStages v_grown v_pledges v_sums v_stages v_isStopped v_begun f_tape 0 119 (by omega) (by omega) (by omega) (by omega) (by omega) hby9) mf_X12_number km_X12_100 rfl rfl ⟨Nat.le_of_ble_eq_true rfl, Nat.le_of_ble_eq_true rfl⟩ (cs_preV St [1, 2] rfl (by decide) [0] rfl (ci := 12) (q0 := 1) rfl rfl) rfl rfl hl.1 rfl (lv_room (Nat.le_of_ble_eq_true rfl)) dX12_readLine_71 ⟨Nat.le_of_ble_eq_true rfl, Nat.le_of_ble_eq_true rfl⟩) (fun r_ u_ H locs hw St => ?_) (fun u_ H locs hw St => ?_)
        ·
          obtain ⟨r_35, rfl⟩ : ∃ z, z = r_ := ⟨_, rfl⟩
          obtain ⟨w_from_29, w_behind_30, w_hand_31, w_value_32, w_fault_33, w_faultAt_34⟩ := u_
          try dsimp only at hw
          obtain ⟨hn_36, ht_37, hfu_38⟩ := hw
          have St : cS G k [(qarI (a 1) (d 1) 9 f_26), (cMq a h v_taped v_size w_from_29 w_behind_30 w_hand_31 w_value_32 w_fault_33 w_faultAt_34 v_clock v_coin v_loan v_matched v_taxed v_paidStages v_grown v_pledges v_sums v_stages v_isStopped v_begun), (qarI (a 3) (d 3) 400 f_tape)] [((d 3), .byte), ((d 1), .int)] A s H locs := St
          have ht_37b := TK_le (by omega) (by omega) ht_37
          refine W.eq (g2 := F0 m 74 ls [.int r_35, .int 2, .ref (a 1)]) rfl ?_
          refine cs_ist F St 0 1 rfl rfl (vp_in_iff.mpr (by decide)) (w' := [(qarI (a 1) (d 1) 9 (upd f_26 (2 : Int32).toNatClampNeg r_35)), (cMq a h v_taped v_size w_from_29 w_behind_30 w_hand_31 w_value_32 w_fault_33 w_faultAt_34 v_clock v_coin v_loan v_matched v_taxed v_paidStages v_grown v_pledges v_sums v_stages v_isStopped v_begun), (qarI (a 3) (d 3) 400 f_tape)]) rfl dX12_readLine_74 (fun H locs St => ?_)
          obtain ⟨f_39, ef_39⟩ : ∃ zz : Nat → Int32, zz = upd f_26 (2 : Int32).toNatClampNeg r_35 := ⟨_, rfl⟩
          rw [← ef_39] at St
          have hz0_2 : lnS f_tape v_size.toNatClampNeg (0 : Int32).toNatClampNeg f_read j0.toNatClampNeg = nums f_tape v_size.toNatClampNeg 0 3 f_39 w_behind_17.toNatClampNeg := hz1_1.trans ((nu_ok (r := 2) (c := 0) ht_24 hn_36.1 hn_36.2.1).trans (nu_eq (by rw [ef_39, hn_36.2.2]; rfl)))
          refine lv_goto (tgt := 206) hx hb dX12_readLine_75 (by decide) ?_
          exact cs_vretT F hr hlk hQ St (w_from_29, w_behind_30, w_hand_31, w_value_32, w_fault_33, w_faultAt_34, f_39) ⟨⟨_, ⟨by omega, by omega⟩, ht_37, hz0_2⟩, ⟨hfu_38.1.trans (hfu_25.1.trans (hfu_12.1)), hfu_38.2.trans (hfu_25.2.trans (hfu_12.2))⟩⟩ [1, 2, 0] rfl (by decide) [] rfl (by decide) (by decide) dX12_readLine_206
        ·
          obtain ⟨w_from_40, w_behind_41, w_hand_42, w_value_43, w_fault_44, w_faultAt_45⟩ := u_
          try dsimp only at hw
          have hpx_47 := hw
          have St : cS G k [(qarI (a 1) (d 1) 9 f_26), (cMq a h v_taped v_size w_from_40 w_behind_41 w_hand_42 w_value_43 w_fault_44 w_faultAt_45 v_clock v_coin v_loan v_matched v_taxed v_paidStages v_grown v_pledges v_sums v_stages v_isStopped v_begun), (qarI (a 3) (d 3) 400 f_tape)] [((d 3), .byte), ((d 1), .int)] A s H locs := St
          exact cs_leave rfl rfl hex hlk hQ St (w_from_40, w_behind_41, w_hand_42, w_value_43, w_fault_44, w_faultAt_45, f_26) (nu_thr (r := 2) hz1_1 ht_24 hpx_47) [1, 2, 0] rfl (by decide) [] rfl
      ·
        obtain ⟨w_from_48, w_behind_49, w_hand_50, w_value_51, w_fault_52, w_faultAt_53⟩ := u_
        try dsimp only at hw
        have hpx_55 := hw
        have St : cS G k [(qarI (a 1) (d 1) 9 f_13), (cMq a h v_taped v_size w_from_48 w_behind_49 w_hand_50 w_value_51 w_fault_52 w_faultAt_53 v_clock v_coin v_loan v_matched v_taxed v_paidStages v_grown v_pledges v_sums v_stages v_isStopped v_begun), (qarI (a 3) (d 3) 400 f_tape)] [((d 3), .byte), ((d 1), .int)] A s H locs := St
        exact cs_leave rfl rfl hex hlk hQ St (w_from_48, w_behind_49, w_hand_50, w_value_51, w_fault_52, w_faultAt_53, f_13) (nu_thr (r := 1) hz2_0 ht_11 hpx_55) [1, 2, 0] rfl (by decide) [] rfl
    ·
      obtain ⟨w_from_56, w_behind_57, w_hand_58, w_value_59, w_fault_60, w_faultAt_61⟩ := u_
      try dsimp only at hw
      have hpx_63 := hw
      have St : cS G k [(qarI (a 1) (d 1) 9 f_read), (cMq a h v_taped v_size w_from_56 w_behind_57 w_hand_58 w_value_59 w_fault_60 w_faultAt_61 v_clock v_coin v_loan v_matched v_taxed v_paidStages v_grown v_pledges v_sums v_stages v_isStopped v_begun), (qarI (a 3) (d 3) 400 f_tape)] [((d 3), .byte), ((d 1), .int)] A s H locs := St
      exact cs_leave rfl rfl hex hlk hQ St (w_from_56, w_behind_57, w_hand_58, w_value_59, w_fault_60, w_faultAt_61, f_read) (nu_thr (r := 0) hz0 ht0 hpx_63) [1, 2, 0] rfl (by decide) [] rfl
  by_cases w1_1 : x = 1
  ·
    subst w1_1
    refine lv_tableIn (tgt := 78) (off := 77) hx hb dX12_readLine_1 (by decide) (by decide) (by decide) (by decide) ?_
    have hz0 : lnS f_tape v_size.toNatClampNeg (1 : Int32).toNatClampNeg f_read j0.toNatClampNeg = nums f_tape v_size.toNatClampNeg 1 3 f_read j0.toNatClampNeg := rfl
    refine lv_aload_n hx hb dX12_readLine_78 rfl (lv_at hl 0 rfl) ?_
    refine cs_get F St 0 rfl rfl inX12 1 (by decide) kf_X12_82 rfl dX12_readLine_79 ?_
    refine lv_iconst (v := 3) hx hb dX12_readLine_82 (by decide) ?_
    refine lv_aload_n hx hb dX12_readLine_83 rfl (lv_at hl 0 rfl) ?_
    refine lv_iconst (v := 0) hx hb dX12_readLine_84 (by decide) ?_
    refine lv_bipush (v := 50) hx hb dX12_readLine_85 (by decide) ?_
    refine cs_T St [0, 1] [2] (wc := [(cMq a h v_taped v_size v_from v_behind v_hand v_value v_fault v_faultAt v_clock v_coin v_loan v_matched v_taxed v_paidStages v_grown v_pledges v_sums v_stages v_isStopped v_begun), (qarI (a 3) (d 3) 400 f_tape)]) (wr := [(qarI (a 1) (d 1) 9 f_read)]) rfl rfl (by decide) (by decide) (runVT (As := [.int 0, .int 50]) (rest := [.int 3, .ref (a 1)]) F (mr_number l G k _ h a d v_taped v_size v_from v_behind v_hand v_value v_fault v_faultAt v_clock v_coin v_loan v_matched v_taxed v_paidStages v_grown v_pledges v_sums v_stages v_isStopped v_begun f_tape 0 50 (by omega) (by omega) (by omega) (by omega) (by omega) hby9) mf_X12_number km_X12_100 rfl rfl ⟨Nat.le_of_ble_eq_true rfl, Nat.le_of_ble_eq_true rfl⟩ (cs_preV St [0, 1] rfl (by decide) [0] rfl (ci := 12) (q0 := 0) rfl rfl) rfl rfl hl.1 rfl (lv_room (Nat.le_of_ble_eq_true rfl)) dX12_readLine_87 ⟨Nat.le_of_ble_eq_true rfl, Nat.le_of_ble_eq_true rfl⟩) (fun r_ u_ H locs hw St => ?_) (fun u_ H locs hw St => ?_)
    ·
      obtain ⟨r_72, rfl⟩ : ∃ z, z = r_ := ⟨_, rfl⟩
      obtain ⟨w_from_66, w_behind_67, w_hand_68, w_value_69, w_fault_70, w_faultAt_71⟩ := u_
      try dsimp only at hw
      obtain ⟨hn_73, ht_74, hfu_75⟩ := hw
      have St : cS G k [(qarI (a 1) (d 1) 9 f_read), (cMq a h v_taped v_size w_from_66 w_behind_67 w_hand_68 w_value_69 w_fault_70 w_faultAt_71 v_clock v_coin v_loan v_matched v_taxed v_paidStages v_grown v_pledges v_sums v_stages v_isStopped v_begun), (qarI (a 3) (d 3) 400 f_tape)] [((d 3), .byte), ((d 1), .int)] A s H locs := St
      have ht_74b := TK_le (by omega) (by omega) ht_74
      refine W.eq (g2 := F0 m 90 ls [.int r_72, .int 3, .ref (a 1)]) rfl ?_
      refine cs_ist F St 0 1 rfl rfl (vp_in_iff.mpr (by decide)) (w' := [(qarI (a 1) (d 1) 9 (upd f_read (3 : Int32).toNatClampNeg r_72)), (cMq a h v_taped v_size w_from_66 w_behind_67 w_hand_68 w_value_69 w_fault_70 w_faultAt_71 v_clock v_coin v_loan v_matched v_taxed v_paidStages v_grown v_pledges v_sums v_stages v_isStopped v_begun), (qarI (a 3) (d 3) 400 f_tape)]) rfl dX12_readLine_90 (fun H locs St => ?_)
      obtain ⟨f_76, ef_76⟩ : ∃ zz : Nat → Int32, zz = upd f_read (3 : Int32).toNatClampNeg r_72 := ⟨_, rfl⟩
      rw [← ef_76] at St
      have hz0_3 : lnS f_tape v_size.toNatClampNeg (1 : Int32).toNatClampNeg f_read j0.toNatClampNeg = nums f_tape v_size.toNatClampNeg 0 4 f_76 v_behind.toNatClampNeg := hz0.trans ((nu_ok (r := 3) (c := 0) ht0 hn_73.1 hn_73.2.1).trans (nu_eq (by rw [ef_76, hn_73.2.2]; rfl)))
      refine lv_goto (tgt := 206) hx hb dX12_readLine_91 (by decide) ?_
      exact cs_vretT F hr hlk hQ St (w_from_66, w_behind_67, w_hand_68, w_value_69, w_fault_70, w_faultAt_71, f_76) ⟨⟨_, ⟨by omega, by omega⟩, ht_74, hz0_3⟩, hfu_75⟩ [1, 2, 0] rfl (by decide) [] rfl (by decide) (by decide) dX12_readLine_206
    ·
      obtain ⟨w_from_77, w_behind_78, w_hand_79, w_value_80, w_fault_81, w_faultAt_82⟩ := u_
      try dsimp only at hw
      have hpx_84 := hw
      have St : cS G k [(qarI (a 1) (d 1) 9 f_read), (cMq a h v_taped v_size w_from_77 w_behind_78 w_hand_79 w_value_80 w_fault_81 w_faultAt_82 v_clock v_coin v_loan v_matched v_taxed v_paidStages v_grown v_pledges v_sums v_stages v_isStopped v_begun), (qarI (a 3) (d 3) 400 f_tape)] [((d 3), .byte), ((d 1), .int)] A s H locs := St
      exact cs_leave rfl rfl hex hlk hQ St (w_from_77, w_behind_78, w_hand_79, w_value_80, w_fault_81, w_faultAt_82, f_read) (nu_thr (r := 3) hz0 ht0 hpx_84) [1, 2, 0] rfl (by decide) [] rfl
  by_cases w1_2 : x = 2
  ·
    subst w1_2
    refine lv_tableIn (tgt := 94) (off := 93) hx hb dX12_readLine_1 (by decide) (by decide) (by decide) (by decide) ?_
    have hz0 : lnS f_tape v_size.toNatClampNeg (2 : Int32).toNatClampNeg f_read j0.toNatClampNeg = nums f_tape v_size.toNatClampNeg 1 4 f_read j0.toNatClampNeg := rfl
    refine lv_aload_n hx hb dX12_readLine_94 rfl (lv_at hl 0 rfl) ?_
    refine cs_get F St 0 rfl rfl inX12 1 (by decide) kf_X12_82 rfl dX12_readLine_95 ?_
    refine lv_iconst (v := 4) hx hb dX12_readLine_98 (by decide) ?_
    refine lv_aload_n hx hb dX12_readLine_99 rfl (lv_at hl 0 rfl) ?_
    refine lv_iconst (v := 1) hx hb dX12_readLine_100 (by decide) ?_
    refine lv_bipush (v := 12) hx hb dX12_readLine_101 (by decide) ?_
    refine cs_T St [0, 1] [2] (wc := [(cMq a h v_taped v_size v_from v_behind v_hand v_value v_fault v_faultAt v_clock v_coin v_loan v_matched v_taxed v_paidStages v_grown v_pledges v_sums v_stages v_isStopped v_begun), (qarI (a 3) (d 3) 400 f_tape)]) (wr := [(qarI (a 1) (d 1) 9 f_read)]) rfl rfl (by decide) (by decide) (runVT (As := [.int 1, .int 12]) (rest := [.int 4, .ref (a 1)]) F (mr_number l G k _ h a d v_taped v_size v_from v_behind v_hand v_value v_fault v_faultAt v_clock v_coin v_loan v_matched v_taxed v_paidStages v_grown v_pledges v_sums v_stages v_isStopped v_begun f_tape 1 12 (by omega) (by omega) (by omega) (by omega) (by omega) hby9) mf_X12_number km_X12_100 rfl rfl ⟨Nat.le_of_ble_eq_true rfl, Nat.le_of_ble_eq_true rfl⟩ (cs_preV St [0, 1] rfl (by decide) [0] rfl (ci := 12) (q0 := 0) rfl rfl) rfl rfl hl.1 rfl (lv_room (Nat.le_of_ble_eq_true rfl)) dX12_readLine_103 ⟨Nat.le_of_ble_eq_true rfl, Nat.le_of_ble_eq_true rfl⟩) (fun r_ u_ H locs hw St => ?_) (fun u_ H locs hw St => ?_)
    ·
      obtain ⟨r_93, rfl⟩ : ∃ z, z = r_ := ⟨_, rfl⟩
      obtain ⟨w_from_87, w_behind_88, w_hand_89, w_value_90, w_fault_91, w_faultAt_92⟩ := u_
      try dsimp only at hw
      obtain ⟨hn_94, ht_95, hfu_96⟩ := hw
      have St : cS G k [(qarI (a 1) (d 1) 9 f_read), (cMq a h v_taped v_size w_from_87 w_behind_88 w_hand_89 w_value_90 w_fault_91 w_faultAt_92 v_clock v_coin v_loan v_matched v_taxed v_paidStages v_grown v_pledges v_sums v_stages v_isStopped v_begun), (qarI (a 3) (d 3) 400 f_tape)] [((d 3), .byte), ((d 1), .int)] A s H locs := St
      have ht_95b := TK_le (by omega) (by omega) ht_95
      refine W.eq (g2 := F0 m 106 ls [.int r_93, .int 4, .ref (a 1)]) rfl ?_
      refine cs_ist F St 0 1 rfl rfl (vp_in_iff.mpr (by decide)) (w' := [(qarI (a 1) (d 1) 9 (upd f_read (4 : Int32).toNatClampNeg r_93)), (cMq a h v_taped v_size w_from_87 w_behind_88 w_hand_89 w_value_90 w_fault_91 w_faultAt_92 v_clock v_coin v_loan v_matched v_taxed v_paidStages v_grown v_pledges v_sums v_stages v_isStopped v_begun), (qarI (a 3) (d 3) 400 f_tape)]) rfl dX12_readLine_106 (fun H locs St => ?_)
      obtain ⟨f_97, ef_97⟩ : ∃ zz : Nat → Int32, zz = upd f_read (4 : Int32).toNatClampNeg r_93 := ⟨_, rfl⟩
      rw [← ef_97] at St
      have hz0_4 : lnS f_tape v_size.toNatClampNeg (2 : Int32).toNatClampNeg f_read j0.toNatClampNeg = nums f_tape v_size.toNatClampNeg 0 5 f_97 v_behind.toNatClampNeg := hz0.trans ((nu_ok (r := 4) (c := 0) ht0 hn_94.1 hn_94.2.1).trans (nu_eq (by rw [ef_97, hn_94.2.2]; rfl)))
      refine lv_goto (tgt := 206) hx hb dX12_readLine_107 (by decide) ?_
      exact cs_vretT F hr hlk hQ St (w_from_87, w_behind_88, w_hand_89, w_value_90, w_fault_91, w_faultAt_92, f_97) ⟨⟨_, ⟨by omega, by omega⟩, ht_95, hz0_4⟩, hfu_96⟩ [1, 2, 0] rfl (by decide) [] rfl (by decide) (by decide) dX12_readLine_206
    ·
      obtain ⟨w_from_98, w_behind_99, w_hand_100, w_value_101, w_fault_102, w_faultAt_103⟩ := u_
      try dsimp only at hw
      have hpx_105 := hw
      have St : cS G k [(qarI (a 1) (d 1) 9 f_read), (cMq a h v_taped v_size w_from_98 w_behind_99 w_hand_100 w_value_101 w_fault_102 w_faultAt_103 v_clock v_coin v_loan v_matched v_taxed v_paidStages v_grown v_pledges v_sums v_stages v_isStopped v_begun), (qarI (a 3) (d 3) 400 f_tape)] [((d 3), .byte), ((d 1), .int)] A s H locs := St
      exact cs_leave rfl rfl hex hlk hQ St (w_from_98, w_behind_99, w_hand_100, w_value_101, w_fault_102, w_faultAt_103, f_read) (nu_thr (r := 4) hz0 ht0 hpx_105) [1, 2, 0] rfl (by decide) [] rfl
  by_cases w1_3 : x = 3
  ·
    subst w1_3
    refine lv_tableIn (tgt := 110) (off := 109) hx hb dX12_readLine_1 (by decide) (by decide) (by decide) (by decide) ?_
    have hz0 : lnS f_tape v_size.toNatClampNeg (3 : Int32).toNatClampNeg f_read j0.toNatClampNeg = nums f_tape v_size.toNatClampNeg 2 5 f_read j0.toNatClampNeg := rfl
    refine lv_aload_n hx hb dX12_readLine_110 rfl (lv_at hl 0 rfl) ?_
    refine cs_get F St 0 rfl rfl inX12 1 (by decide) kf_X12_82 rfl dX12_readLine_111 ?_
    refine lv_iconst (v := 5) hx hb dX12_readLine_114 (by decide) ?_
    refine lv_aload_n hx hb dX12_readLine_115 rfl (lv_at hl 0 rfl) ?_
    refine lv_iconst (v := 0) hx hb dX12_readLine_116 (by decide) ?_
    refine lv_ldc (v := 999999) hx hb F.2.2.2.1 (F.2.2.2.2 _ kk_X12_104) dX12_readLine_117 ?_
    refine cs_T St [0, 1] [2] (wc := [(cMq a h v_taped v_size v_from v_behind v_hand v_value v_fault v_faultAt v_clock v_coin v_loan v_matched v_taxed v_paidStages v_grown v_pledges v_sums v_stages v_isStopped v_begun), (qarI (a 3) (d 3) 400 f_tape)]) (wr := [(qarI (a 1) (d 1) 9 f_read)]) rfl rfl (by decide) (by decide) (runVT (As := [.int 0, .int 999999]) (rest := [.int 5, .ref (a 1)]) F (mr_number l G k _ h a d v_taped v_size v_from v_behind v_hand v_value v_fault v_faultAt v_clock v_coin v_loan v_matched v_taxed v_paidStages v_grown v_pledges v_sums v_stages v_isStopped v_begun f_tape 0 999999 (by omega) (by omega) (by omega) (by omega) (by omega) hby9) mf_X12_number km_X12_100 rfl rfl ⟨Nat.le_of_ble_eq_true rfl, Nat.le_of_ble_eq_true rfl⟩ (cs_preV St [0, 1] rfl (by decide) [0] rfl (ci := 12) (q0 := 0) rfl rfl) rfl rfl hl.1 rfl (lv_room (Nat.le_of_ble_eq_true rfl)) dX12_readLine_119 ⟨Nat.le_of_ble_eq_true rfl, Nat.le_of_ble_eq_true rfl⟩) (fun r_ u_ H locs hw St => ?_) (fun u_ H locs hw St => ?_)
    ·
      obtain ⟨r_114, rfl⟩ : ∃ z, z = r_ := ⟨_, rfl⟩
      obtain ⟨w_from_108, w_behind_109, w_hand_110, w_value_111, w_fault_112, w_faultAt_113⟩ := u_
      try dsimp only at hw
      obtain ⟨hn_115, ht_116, hfu_117⟩ := hw
      have St : cS G k [(qarI (a 1) (d 1) 9 f_read), (cMq a h v_taped v_size w_from_108 w_behind_109 w_hand_110 w_value_111 w_fault_112 w_faultAt_113 v_clock v_coin v_loan v_matched v_taxed v_paidStages v_grown v_pledges v_sums v_stages v_isStopped v_begun), (qarI (a 3) (d 3) 400 f_tape)] [((d 3), .byte), ((d 1), .int)] A s H locs := St
      have ht_116b := TK_le (by omega) (by omega) ht_116
      refine W.eq (g2 := F0 m 122 ls [.int r_114, .int 5, .ref (a 1)]) rfl ?_
      refine cs_ist F St 0 1 rfl rfl (vp_in_iff.mpr (by decide)) (w' := [(qarI (a 1) (d 1) 9 (upd f_read (5 : Int32).toNatClampNeg r_114)), (cMq a h v_taped v_size w_from_108 w_behind_109 w_hand_110 w_value_111 w_fault_112 w_faultAt_113 v_clock v_coin v_loan v_matched v_taxed v_paidStages v_grown v_pledges v_sums v_stages v_isStopped v_begun), (qarI (a 3) (d 3) 400 f_tape)]) rfl dX12_readLine_122 (fun H locs St => ?_)
      obtain ⟨f_118, ef_118⟩ : ∃ zz : Nat → Int32, zz = upd f_read (5 : Int32).toNatClampNeg r_114 := ⟨_, rfl⟩
      rw [← ef_118] at St
      have hz1_5 : lnS f_tape v_size.toNatClampNeg (3 : Int32).toNatClampNeg f_read j0.toNatClampNeg = nums f_tape v_size.toNatClampNeg 1 6 f_118 v_behind.toNatClampNeg := hz0.trans ((nu_ok (r := 5) (c := 1) ht0 hn_115.1 hn_115.2.1).trans (nu_eq (by rw [ef_118, hn_115.2.2]; rfl)))
      refine lv_aload_n hx hb dX12_readLine_123 rfl (lv_at hl 0 rfl) ?_
      refine cs_get F St 1 rfl rfl inX12 1 (by decide) kf_X12_82 rfl dX12_readLine_124 ?_
      refine lv_bipush (v := 6) hx hb dX12_readLine_127 (by decide) ?_
      refine lv_aload_n hx hb dX12_readLine_129 rfl (lv_at hl 0 rfl) ?_
      refine lv_iconst (v := 0) hx hb dX12_readLine_130 (by decide) ?_
      refine lv_bipush (v := 10) hx hb dX12_readLine_131 (by decide) ?_
      refine cs_T St [1, 2] [0] (wc := [(cMq a h v_taped v_size w_from_108 w_behind_109 w_hand_110 w_value_111 w_fault_112 w_faultAt_113 v_clock v_coin v_loan v_matched v_taxed v_paidStages v_grown v_pledges v_sums v_stages v_isStopped v_begun), (qarI (a 3) (d 3) 400 f_tape)]) (wr := [(qarI (a 1) (d 1) 9 f_118)]) rfl rfl (by decide) (by decide) (runVT (As := [.int 0, .int 10]) (rest := [.int 6, .ref (a 1)]) F (mr_number l G k _ h a d v_taped v_size w_from_108 w_behind_109 w_hand_110 w_value_111 w_fault_112 w_faultAt_113 v_clock v_coin v_loan v_matched v_taxed v_paidStages v_grown v_pledges v_sums v_stages v_isStopped v_begun f_tape 0 10 (by omega) (by omega) (by omega) (by omega) (by omega) hby9) mf_X12_number km_X12_100 rfl rfl ⟨Nat.le_of_ble_eq_true rfl, Nat.le_of_ble_eq_true rfl⟩ (cs_preV St [1, 2] rfl (by decide) [0] rfl (ci := 12) (q0 := 1) rfl rfl) rfl rfl hl.1 rfl (lv_room (Nat.le_of_ble_eq_true rfl)) dX12_readLine_133 ⟨Nat.le_of_ble_eq_true rfl, Nat.le_of_ble_eq_true rfl⟩) (fun r_ u_ H locs hw St => ?_) (fun u_ H locs hw St => ?_)
      ·
        obtain ⟨r_127, rfl⟩ : ∃ z, z = r_ := ⟨_, rfl⟩
        obtain ⟨w_from_121, w_behind_122, w_hand_123, w_value_124, w_fault_125, w_faultAt_126⟩ := u_
        try dsimp only at hw
        obtain ⟨hn_128, ht_129, hfu_130⟩ := hw
        have St : cS G k [(qarI (a 1) (d 1) 9 f_118), (cMq a h v_taped v_size w_from_121 w_behind_122 w_hand_123 w_value_124 w_fault_125 w_faultAt_126 v_clock v_coin v_loan v_matched v_taxed v_paidStages v_grown v_pledges v_sums v_stages v_isStopped v_begun), (qarI (a 3) (d 3) 400 f_tape)] [((d 3), .byte), ((d 1), .int)] A s H locs := St
        have ht_129b := TK_le (by omega) (by omega) ht_129
        refine W.eq (g2 := F0 m 136 ls [.int r_127, .int 6, .ref (a 1)]) rfl ?_
        refine cs_ist F St 0 1 rfl rfl (vp_in_iff.mpr (by decide)) (w' := [(qarI (a 1) (d 1) 9 (upd f_118 (6 : Int32).toNatClampNeg r_127)), (cMq a h v_taped v_size w_from_121 w_behind_122 w_hand_123 w_value_124 w_fault_125 w_faultAt_126 v_clock v_coin v_loan v_matched v_taxed v_paidStages v_grown v_pledges v_sums v_stages v_isStopped v_begun), (qarI (a 3) (d 3) 400 f_tape)]) rfl dX12_readLine_136 (fun H locs St => ?_)
        obtain ⟨f_131, ef_131⟩ : ∃ zz : Nat → Int32, zz = upd f_118 (6 : Int32).toNatClampNeg r_127 := ⟨_, rfl⟩
        rw [← ef_131] at St
        have hz0_6 : lnS f_tape v_size.toNatClampNeg (3 : Int32).toNatClampNeg f_read j0.toNatClampNeg = nums f_tape v_size.toNatClampNeg 0 7 f_131 w_behind_109.toNatClampNeg := hz1_5.trans ((nu_ok (r := 6) (c := 0) ht_116 hn_128.1 hn_128.2.1).trans (nu_eq (by rw [ef_131, hn_128.2.2]; rfl)))
        refine lv_goto (tgt := 206) hx hb dX12_readLine_137 (by decide) ?_
        exact cs_vretT F hr hlk hQ St (w_from_121, w_behind_122, w_hand_123, w_value_124, w_fault_125, w_faultAt_126, f_131) ⟨⟨_, ⟨by omega, by omega⟩, ht_129, hz0_6⟩, ⟨hfu_130.1.trans (hfu_117.1), hfu_130.2.trans (hfu_117.2)⟩⟩ [1, 2, 0] rfl (by decide) [] rfl (by decide) (by decide) dX12_readLine_206
      ·
        obtain ⟨w_from_132, w_behind_133, w_hand_134, w_value_135, w_fault_136, w_faultAt_137⟩ := u_
        try dsimp only at hw
        have hpx_139 := hw
        have St : cS G k [(qarI (a 1) (d 1) 9 f_118), (cMq a h v_taped v_size w_from_132 w_behind_133 w_hand_134 w_value_135 w_fault_136 w_faultAt_137 v_clock v_coin v_loan v_matched v_taxed v_paidStages v_grown v_pledges v_sums v_stages v_isStopped v_begun), (qarI (a 3) (d 3) 400 f_tape)] [((d 3), .byte), ((d 1), .int)] A s H locs := St
        exact cs_leave rfl rfl hex hlk hQ St (w_from_132, w_behind_133, w_hand_134, w_value_135, w_fault_136, w_faultAt_137, f_118) (nu_thr (r := 6) hz1_5 ht_116 hpx_139) [1, 2, 0] rfl (by decide) [] rfl
    ·
      obtain ⟨w_from_140, w_behind_141, w_hand_142, w_value_143, w_fault_144, w_faultAt_145⟩ := u_
      try dsimp only at hw
      have hpx_147 := hw
      have St : cS G k [(qarI (a 1) (d 1) 9 f_read), (cMq a h v_taped v_size w_from_140 w_behind_141 w_hand_142 w_value_143 w_fault_144 w_faultAt_145 v_clock v_coin v_loan v_matched v_taxed v_paidStages v_grown v_pledges v_sums v_stages v_isStopped v_begun), (qarI (a 3) (d 3) 400 f_tape)] [((d 3), .byte), ((d 1), .int)] A s H locs := St
      exact cs_leave rfl rfl hex hlk hQ St (w_from_140, w_behind_141, w_hand_142, w_value_143, w_fault_144, w_faultAt_145, f_read) (nu_thr (r := 5) hz0 ht0 hpx_147) [1, 2, 0] rfl (by decide) [] rfl
  by_cases w1_4 : x = 4
  ·
    subst w1_4
    refine lv_tableIn (tgt := 140) (off := 139) hx hb dX12_readLine_1 (by decide) (by decide) (by decide) (by decide) ?_
    have hz0 : lnS f_tape v_size.toNatClampNeg (4 : Int32).toNatClampNeg f_read j0.toNatClampNeg = nums f_tape v_size.toNatClampNeg 1 7 f_read j0.toNatClampNeg := rfl
    refine lv_aload_n hx hb dX12_readLine_140 rfl (lv_at hl 0 rfl) ?_
    refine cs_get F St 0 rfl rfl inX12 1 (by decide) kf_X12_82 rfl dX12_readLine_141 ?_
    refine lv_bipush (v := 7) hx hb dX12_readLine_144 (by decide) ?_
    refine lv_aload_n hx hb dX12_readLine_146 rfl (lv_at hl 0 rfl) ?_
    refine lv_iconst (v := 1) hx hb dX12_readLine_147 (by decide) ?_
    refine lv_ldc (v := 999999) hx hb F.2.2.2.1 (F.2.2.2.2 _ kk_X12_104) dX12_readLine_148 ?_
    refine cs_T St [0, 1] [2] (wc := [(cMq a h v_taped v_size v_from v_behind v_hand v_value v_fault v_faultAt v_clock v_coin v_loan v_matched v_taxed v_paidStages v_grown v_pledges v_sums v_stages v_isStopped v_begun), (qarI (a 3) (d 3) 400 f_tape)]) (wr := [(qarI (a 1) (d 1) 9 f_read)]) rfl rfl (by decide) (by decide) (runVT (As := [.int 1, .int 999999]) (rest := [.int 7, .ref (a 1)]) F (mr_number l G k _ h a d v_taped v_size v_from v_behind v_hand v_value v_fault v_faultAt v_clock v_coin v_loan v_matched v_taxed v_paidStages v_grown v_pledges v_sums v_stages v_isStopped v_begun f_tape 1 999999 (by omega) (by omega) (by omega) (by omega) (by omega) hby9) mf_X12_number km_X12_100 rfl rfl ⟨Nat.le_of_ble_eq_true rfl, Nat.le_of_ble_eq_true rfl⟩ (cs_preV St [0, 1] rfl (by decide) [0] rfl (ci := 12) (q0 := 0) rfl rfl) rfl rfl hl.1 rfl (lv_room (Nat.le_of_ble_eq_true rfl)) dX12_readLine_150 ⟨Nat.le_of_ble_eq_true rfl, Nat.le_of_ble_eq_true rfl⟩) (fun r_ u_ H locs hw St => ?_) (fun u_ H locs hw St => ?_)
    ·
      obtain ⟨r_156, rfl⟩ : ∃ z, z = r_ := ⟨_, rfl⟩
      obtain ⟨w_from_150, w_behind_151, w_hand_152, w_value_153, w_fault_154, w_faultAt_155⟩ := u_
      try dsimp only at hw
      obtain ⟨hn_157, ht_158, hfu_159⟩ := hw
      have St : cS G k [(qarI (a 1) (d 1) 9 f_read), (cMq a h v_taped v_size w_from_150 w_behind_151 w_hand_152 w_value_153 w_fault_154 w_faultAt_155 v_clock v_coin v_loan v_matched v_taxed v_paidStages v_grown v_pledges v_sums v_stages v_isStopped v_begun), (qarI (a 3) (d 3) 400 f_tape)] [((d 3), .byte), ((d 1), .int)] A s H locs := St
      have ht_158b := TK_le (by omega) (by omega) ht_158
      refine W.eq (g2 := F0 m 153 ls [.int r_156, .int 7, .ref (a 1)]) rfl ?_
      refine cs_ist F St 0 1 rfl rfl (vp_in_iff.mpr (by decide)) (w' := [(qarI (a 1) (d 1) 9 (upd f_read (7 : Int32).toNatClampNeg r_156)), (cMq a h v_taped v_size w_from_150 w_behind_151 w_hand_152 w_value_153 w_fault_154 w_faultAt_155 v_clock v_coin v_loan v_matched v_taxed v_paidStages v_grown v_pledges v_sums v_stages v_isStopped v_begun), (qarI (a 3) (d 3) 400 f_tape)]) rfl dX12_readLine_153 (fun H locs St => ?_)
      obtain ⟨f_160, ef_160⟩ : ∃ zz : Nat → Int32, zz = upd f_read (7 : Int32).toNatClampNeg r_156 := ⟨_, rfl⟩
      rw [← ef_160] at St
      have hz0_7 : lnS f_tape v_size.toNatClampNeg (4 : Int32).toNatClampNeg f_read j0.toNatClampNeg = nums f_tape v_size.toNatClampNeg 0 8 f_160 v_behind.toNatClampNeg := hz0.trans ((nu_ok (r := 7) (c := 0) ht0 hn_157.1 hn_157.2.1).trans (nu_eq (by rw [ef_160, hn_157.2.2]; rfl)))
      refine lv_goto (tgt := 206) hx hb dX12_readLine_154 (by decide) ?_
      exact cs_vretT F hr hlk hQ St (w_from_150, w_behind_151, w_hand_152, w_value_153, w_fault_154, w_faultAt_155, f_160) ⟨⟨_, ⟨by omega, by omega⟩, ht_158, hz0_7⟩, hfu_159⟩ [1, 2, 0] rfl (by decide) [] rfl (by decide) (by decide) dX12_readLine_206
    ·
      obtain ⟨w_from_161, w_behind_162, w_hand_163, w_value_164, w_fault_165, w_faultAt_166⟩ := u_
      try dsimp only at hw
      have hpx_168 := hw
      have St : cS G k [(qarI (a 1) (d 1) 9 f_read), (cMq a h v_taped v_size w_from_161 w_behind_162 w_hand_163 w_value_164 w_fault_165 w_faultAt_166 v_clock v_coin v_loan v_matched v_taxed v_paidStages v_grown v_pledges v_sums v_stages v_isStopped v_begun), (qarI (a 3) (d 3) 400 f_tape)] [((d 3), .byte), ((d 1), .int)] A s H locs := St
      exact cs_leave rfl rfl hex hlk hQ St (w_from_161, w_behind_162, w_hand_163, w_value_164, w_fault_165, w_faultAt_166, f_read) (nu_thr (r := 7) hz0 ht0 hpx_168) [1, 2, 0] rfl (by decide) [] rfl
  have iw1_0 := lv_neT w1_0 (show (0 : Int32).toInt = 0 by decide)
  have iw1_1 := lv_neT w1_1 (show (1 : Int32).toInt = 1 by decide)
  have iw1_2 := lv_neT w1_2 (show (2 : Int32).toInt = 2 by decide)
  have iw1_3 := lv_neT w1_3 (show (3 : Int32).toInt = 3 by decide)
  have iw1_4 := lv_neT w1_4 (show (4 : Int32).toInt = 4 by decide)
  refine lv_tableOut (tgt := 157) hx hb dX12_readLine_1 (by omega) (by decide) ?_
  obtain rfl : x = 5 := Int32.toInt_inj.mp (by omega)
  refine lv_aload_n hx hb dX12_readLine_157 rfl (lv_at hl 0 rfl) ?_
  refine va_ldcS hx hb F.2.2.2.1 St.2.2.2.2.2.1.2.2.2.2.2.2.2.2.2.2.2.2.2.2.2.2.2.2.2.2.2.2.2.1 dX12_readLine_158 ?_
  refine cs_i St [0, 1] [2] (wc := [(cMq a h v_taped v_size v_from v_behind v_hand v_value v_fault v_faultAt v_clock v_coin v_loan v_matched v_taxed v_paidStages v_grown v_pledges v_sums v_stages v_isStopped v_begun), (qarI (a 3) (d 3) 400 f_tape)]) (wr := [(qarI (a 1) (d 1) 9 f_read)]) rfl rfl (by decide) (by decide) (va_runV (As := [.ref (k 16)]) (rest := []) F (mr_is l G k _ h a d v_taped v_size v_from v_behind v_hand v_value v_fault v_faultAt v_clock v_coin v_loan v_matched v_taxed v_paidStages v_grown v_pledges v_sums v_stages v_isStopped v_begun f_tape 6 (by first | assumption | decide) (by omega) (by omega) (by omega) (by omega) (by omega) hby9) (cwVt F mf_X12_is km_X12_68 rfl rfl ⟨Nat.le_of_ble_eq_true rfl, Nat.le_of_ble_eq_true rfl⟩) (cs_preV St [0, 1] rfl (by decide) [0] rfl (ci := 12) (q0 := 0) rfl rfl) rfl rfl hl.1 rfl (lv_room (Nat.le_of_ble_eq_true rfl)) dX12_readLine_160 ⟨Nat.le_of_ble_eq_true rfl, Nat.le_of_ble_eq_true rfl⟩) (fun r_169 u_170 H locs hw St => ?_)
  try dsimp only at hw
  rcases hw with ⟨z_171, hf_172⟩ | ⟨z_173, hf_174⟩
  ·
    subst r_169
    have St : cS G k [(qarI (a 1) (d 1) 9 f_read), (cMq a h v_taped v_size v_from v_behind v_hand v_value v_fault v_faultAt v_clock v_coin v_loan v_matched v_taxed v_paidStages v_grown v_pledges v_sums v_stages v_isStopped v_begun), (qarI (a 3) (d 3) 400 f_tape)] [((d 3), .byte), ((d 1), .int)] A s H locs := St
    refine lv_if_ne (tgt := 181) hx hb dX12_readLine_163 (by decide) (fun c163 => ?_) (fun c163 => ?_)
    rotate_left
    · exact absurd c163 (by decide)
    refine lv_aload_n hx hb dX12_readLine_181 rfl (lv_at hl 0 rfl) ?_
    refine cs_get F St 1 rfl rfl inX12 1 (by decide) kf_X12_82 rfl dX12_readLine_182 ?_
    refine lv_bipush (v := 8) hx hb dX12_readLine_185 (by decide) ?_
    refine lv_aload_n hx hb dX12_readLine_187 rfl (lv_at hl 0 rfl) ?_
    refine va_ldcS hx hb F.2.2.2.1 St.2.2.2.2.2.1.2.2.2.2.2.2.2.2.2.2.2.2.2.2.2.2.2.2.2.2.2.2.2.1 dX12_readLine_188 ?_
    refine cs_i St [1, 2] [0] (wc := [(cMq a h v_taped v_size v_from v_behind v_hand v_value v_fault v_faultAt v_clock v_coin v_loan v_matched v_taxed v_paidStages v_grown v_pledges v_sums v_stages v_isStopped v_begun), (qarI (a 3) (d 3) 400 f_tape)]) (wr := [(qarI (a 1) (d 1) 9 f_read)]) rfl rfl (by decide) (by decide) (va_runV (As := [.ref (k 16)]) (rest := [.int 8, .ref (a 1)]) F (mr_is l G k _ h a d v_taped v_size v_from v_behind v_hand v_value v_fault v_faultAt v_clock v_coin v_loan v_matched v_taxed v_paidStages v_grown v_pledges v_sums v_stages v_isStopped v_begun f_tape 6 (by first | assumption | decide) (by omega) (by omega) (by omega) (by omega) (by omega) hby9) (cwVt F mf_X12_is km_X12_68 rfl rfl ⟨Nat.le_of_ble_eq_true rfl, Nat.le_of_ble_eq_true rfl⟩) (cs_preV St [1, 2] rfl (by decide) [0] rfl (ci := 12) (q0 := 1) rfl rfl) rfl rfl hl.1 rfl (lv_room (Nat.le_of_ble_eq_true rfl)) dX12_readLine_190 ⟨Nat.le_of_ble_eq_true rfl, Nat.le_of_ble_eq_true rfl⟩) (fun r_175 u_176 H locs hw St => ?_)
    try dsimp only at hw
    rcases hw with ⟨z_177, hf_178⟩ | ⟨z_179, hf_180⟩
    ·
      subst r_175
      have St : cS G k [(qarI (a 1) (d 1) 9 f_read), (cMq a h v_taped v_size v_from v_behind v_hand v_value v_fault v_faultAt v_clock v_coin v_loan v_matched v_taxed v_paidStages v_grown v_pledges v_sums v_stages v_isStopped v_begun), (qarI (a 3) (d 3) 400 f_tape)] [((d 3), .byte), ((d 1), .int)] A s H locs := St
      refine lv_if_eq (tgt := 200) hx hb dX12_readLine_193 (by decide) (fun c193 => ?_) (fun c193 => ?_)
      · exact absurd c193 (by decide)
      refine lv_iconst (v := 1) hx hb dX12_readLine_196 (by decide) ?_
      refine lv_goto (tgt := 201) hx hb dX12_readLine_197 (by decide) ?_
      refine cs_ist F St 0 1 rfl rfl (vp_in_iff.mpr (by decide)) (w' := [(qarI (a 1) (d 1) 9 (upd f_read (8 : Int32).toNatClampNeg 1)), (cMq a h v_taped v_size v_from v_behind v_hand v_value v_fault v_faultAt v_clock v_coin v_loan v_matched v_taxed v_paidStages v_grown v_pledges v_sums v_stages v_isStopped v_begun), (qarI (a 3) (d 3) 400 f_tape)]) rfl dX12_readLine_201 (fun H locs St => ?_)
      obtain ⟨f_181, ef_181⟩ : ∃ zz : Nat → Int32, zz = upd f_read (8 : Int32).toNatClampNeg 1 := ⟨_, rfl⟩
      rw [← ef_181] at St
      refine lv_aload_n hx hb dX12_readLine_202 rfl (lv_at hl 0 rfl) ?_
      refine cs_v St [1, 2] [0] (wc := [(cMq a h v_taped v_size v_from v_behind v_hand v_value v_fault v_faultAt v_clock v_coin v_loan v_matched v_taxed v_paidStages v_grown v_pledges v_sums v_stages v_isStopped v_begun), (qarI (a 3) (d 3) 400 f_tape)]) (wr := [(qarI (a 1) (d 1) 9 f_181)]) rfl rfl (by decide) (by decide) (va_runV (As := []) (rest := []) F (mr_scan l G k _ h a d v_taped v_size v_from v_behind v_hand v_value v_fault v_faultAt v_clock v_coin v_loan v_matched v_taxed v_paidStages v_grown v_pledges v_sums v_stages v_isStopped v_begun f_tape (by omega) (by omega) (by omega) (by omega) hby9) (cwVt F mf_X12_scan km_X12_62 rfl rfl ⟨Nat.le_of_ble_eq_true rfl, Nat.le_of_ble_eq_true rfl⟩) (cs_preV St [1, 2] rfl (by decide) [0] rfl (ci := 12) (q0 := 1) rfl rfl) rfl rfl hl.1 rfl (lv_room (Nat.le_of_ble_eq_true rfl)) dX12_readLine_203 ⟨Nat.le_of_ble_eq_true rfl, Nat.le_of_ble_eq_true rfl⟩) (fun u_183 H locs hw St => ?_)
      obtain ⟨w_from_184, w_behind_185, w_hand_186, w_value_187⟩ := u_183
      try dsimp only at hw
      have ht_188 := hw
      have St : cS G k [(qarI (a 1) (d 1) 9 f_181), (cMq a h v_taped v_size w_from_184 w_behind_185 w_hand_186 w_value_187 v_fault v_faultAt v_clock v_coin v_loan v_matched v_taxed v_paidStages v_grown v_pledges v_sums v_stages v_isStopped v_begun), (qarI (a 3) (d 3) 400 f_tape)] [((d 3), .byte), ((d 1), .int)] A s H locs := St
      exact cs_vretT F hr hlk hQ St (w_from_184, w_behind_185, w_hand_186, w_value_187, v_fault, v_faultAt, f_181) ⟨⟨v_behind, ⟨by omega, by omega⟩, ht_188, ((st_allM ht0 hf_172)).trans (by rw [ef_181]; rfl)⟩, ⟨rfl, rfl⟩⟩ [1, 2, 0] rfl (by decide) [] rfl (by decide) (by decide) dX12_readLine_206
    ·
      exact False.elim (by contradiction)
  ·
    subst r_169
    have St : cS G k [(qarI (a 1) (d 1) 9 f_read), (cMq a h v_taped v_size v_from v_behind v_hand v_value v_fault v_faultAt v_clock v_coin v_loan v_matched v_taxed v_paidStages v_grown v_pledges v_sums v_stages v_isStopped v_begun), (qarI (a 3) (d 3) 400 f_tape)] [((d 3), .byte), ((d 1), .int)] A s H locs := St
    refine lv_if_ne (tgt := 181) hx hb dX12_readLine_163 (by decide) (fun c163 => ?_) (fun c163 => ?_)
    · exact absurd c163 (by decide)
    refine lv_aload_n hx hb dX12_readLine_166 rfl (lv_at hl 0 rfl) ?_
    refine va_ldcS hx hb F.2.2.2.1 St.2.2.2.2.2.1.2.2.2.2.2.2.2.2.2.2.2.2.2.2.2.2.2.2.2.2.2.2.2.2 dX12_readLine_167 ?_
    refine cs_i St [1, 2] [0] (wc := [(cMq a h v_taped v_size v_from v_behind v_hand v_value v_fault v_faultAt v_clock v_coin v_loan v_matched v_taxed v_paidStages v_grown v_pledges v_sums v_stages v_isStopped v_begun), (qarI (a 3) (d 3) 400 f_tape)]) (wr := [(qarI (a 1) (d 1) 9 f_read)]) rfl rfl (by decide) (by decide) (va_runV (As := [.ref (k 17)]) (rest := []) F (mr_is l G k _ h a d v_taped v_size v_from v_behind v_hand v_value v_fault v_faultAt v_clock v_coin v_loan v_matched v_taxed v_paidStages v_grown v_pledges v_sums v_stages v_isStopped v_begun f_tape 7 (by first | assumption | decide) (by omega) (by omega) (by omega) (by omega) (by omega) hby9) (cwVt F mf_X12_is km_X12_68 rfl rfl ⟨Nat.le_of_ble_eq_true rfl, Nat.le_of_ble_eq_true rfl⟩) (cs_preV St [1, 2] rfl (by decide) [0] rfl (ci := 12) (q0 := 1) rfl rfl) rfl rfl hl.1 rfl (lv_room (Nat.le_of_ble_eq_true rfl)) dX12_readLine_169 ⟨Nat.le_of_ble_eq_true rfl, Nat.le_of_ble_eq_true rfl⟩) (fun r_189 u_190 H locs hw St => ?_)
    try dsimp only at hw
    rcases hw with ⟨z_191, hf_192⟩ | ⟨z_193, hf_194⟩
    ·
      subst r_189
      have St : cS G k [(qarI (a 1) (d 1) 9 f_read), (cMq a h v_taped v_size v_from v_behind v_hand v_value v_fault v_faultAt v_clock v_coin v_loan v_matched v_taxed v_paidStages v_grown v_pledges v_sums v_stages v_isStopped v_begun), (qarI (a 3) (d 3) 400 f_tape)] [((d 3), .byte), ((d 1), .int)] A s H locs := St
      refine lv_if_ne (tgt := 181) hx hb dX12_readLine_172 (by decide) (fun c172 => ?_) (fun c172 => ?_)
      rotate_left
      · exact absurd c172 (by decide)
      refine lv_aload_n hx hb dX12_readLine_181 rfl (lv_at hl 0 rfl) ?_
      refine cs_get F St 1 rfl rfl inX12 1 (by decide) kf_X12_82 rfl dX12_readLine_182 ?_
      refine lv_bipush (v := 8) hx hb dX12_readLine_185 (by decide) ?_
      refine lv_aload_n hx hb dX12_readLine_187 rfl (lv_at hl 0 rfl) ?_
      refine va_ldcS hx hb F.2.2.2.1 St.2.2.2.2.2.1.2.2.2.2.2.2.2.2.2.2.2.2.2.2.2.2.2.2.2.2.2.2.2.1 dX12_readLine_188 ?_
      refine cs_i St [1, 2] [0] (wc := [(cMq a h v_taped v_size v_from v_behind v_hand v_value v_fault v_faultAt v_clock v_coin v_loan v_matched v_taxed v_paidStages v_grown v_pledges v_sums v_stages v_isStopped v_begun), (qarI (a 3) (d 3) 400 f_tape)]) (wr := [(qarI (a 1) (d 1) 9 f_read)]) rfl rfl (by decide) (by decide) (va_runV (As := [.ref (k 16)]) (rest := [.int 8, .ref (a 1)]) F (mr_is l G k _ h a d v_taped v_size v_from v_behind v_hand v_value v_fault v_faultAt v_clock v_coin v_loan v_matched v_taxed v_paidStages v_grown v_pledges v_sums v_stages v_isStopped v_begun f_tape 6 (by first | assumption | decide) (by omega) (by omega) (by omega) (by omega) (by omega) hby9) (cwVt F mf_X12_is km_X12_68 rfl rfl ⟨Nat.le_of_ble_eq_true rfl, Nat.le_of_ble_eq_true rfl⟩) (cs_preV St [1, 2] rfl (by decide) [0] rfl (ci := 12) (q0 := 1) rfl rfl) rfl rfl hl.1 rfl (lv_room (Nat.le_of_ble_eq_true rfl)) dX12_readLine_190 ⟨Nat.le_of_ble_eq_true rfl, Nat.le_of_ble_eq_true rfl⟩) (fun r_195 u_196 H locs hw St => ?_)
      try dsimp only at hw
      rcases hw with ⟨z_197, hf_198⟩ | ⟨z_199, hf_200⟩
      ·
        exact False.elim (by contradiction)
      ·
        subst r_195
        have St : cS G k [(qarI (a 1) (d 1) 9 f_read), (cMq a h v_taped v_size v_from v_behind v_hand v_value v_fault v_faultAt v_clock v_coin v_loan v_matched v_taxed v_paidStages v_grown v_pledges v_sums v_stages v_isStopped v_begun), (qarI (a 3) (d 3) 400 f_tape)] [((d 3), .byte), ((d 1), .int)] A s H locs := St
        refine lv_if_eq (tgt := 200) hx hb dX12_readLine_193 (by decide) (fun c193 => ?_) (fun c193 => ?_)
        rotate_left
        · exact absurd (by decide) c193
        refine lv_iconst (v := 0) hx hb dX12_readLine_200 (by decide) ?_
        refine cs_ist F St 0 1 rfl rfl (vp_in_iff.mpr (by decide)) (w' := [(qarI (a 1) (d 1) 9 (upd f_read (8 : Int32).toNatClampNeg 0)), (cMq a h v_taped v_size v_from v_behind v_hand v_value v_fault v_faultAt v_clock v_coin v_loan v_matched v_taxed v_paidStages v_grown v_pledges v_sums v_stages v_isStopped v_begun), (qarI (a 3) (d 3) 400 f_tape)]) rfl dX12_readLine_201 (fun H locs St => ?_)
        obtain ⟨f_201, ef_201⟩ : ∃ zz : Nat → Int32, zz = upd f_read (8 : Int32).toNatClampNeg 0 := ⟨_, rfl⟩
        rw [← ef_201] at St
        refine lv_aload_n hx hb dX12_readLine_202 rfl (lv_at hl 0 rfl) ?_
        refine cs_v St [1, 2] [0] (wc := [(cMq a h v_taped v_size v_from v_behind v_hand v_value v_fault v_faultAt v_clock v_coin v_loan v_matched v_taxed v_paidStages v_grown v_pledges v_sums v_stages v_isStopped v_begun), (qarI (a 3) (d 3) 400 f_tape)]) (wr := [(qarI (a 1) (d 1) 9 f_201)]) rfl rfl (by decide) (by decide) (va_runV (As := []) (rest := []) F (mr_scan l G k _ h a d v_taped v_size v_from v_behind v_hand v_value v_fault v_faultAt v_clock v_coin v_loan v_matched v_taxed v_paidStages v_grown v_pledges v_sums v_stages v_isStopped v_begun f_tape (by omega) (by omega) (by omega) (by omega) hby9) (cwVt F mf_X12_scan km_X12_62 rfl rfl ⟨Nat.le_of_ble_eq_true rfl, Nat.le_of_ble_eq_true rfl⟩) (cs_preV St [1, 2] rfl (by decide) [0] rfl (ci := 12) (q0 := 1) rfl rfl) rfl rfl hl.1 rfl (lv_room (Nat.le_of_ble_eq_true rfl)) dX12_readLine_203 ⟨Nat.le_of_ble_eq_true rfl, Nat.le_of_ble_eq_true rfl⟩) (fun u_203 H locs hw St => ?_)
        obtain ⟨w_from_204, w_behind_205, w_hand_206, w_value_207⟩ := u_203
        try dsimp only at hw
        have ht_208 := hw
        have St : cS G k [(qarI (a 1) (d 1) 9 f_201), (cMq a h v_taped v_size w_from_204 w_behind_205 w_hand_206 w_value_207 v_fault v_faultAt v_clock v_coin v_loan v_matched v_taxed v_paidStages v_grown v_pledges v_sums v_stages v_isStopped v_begun), (qarI (a 3) (d 3) 400 f_tape)] [((d 3), .byte), ((d 1), .int)] A s H locs := St
        exact cs_vretT F hr hlk hQ St (w_from_204, w_behind_205, w_hand_206, w_value_207, v_fault, v_faultAt, f_201) ⟨⟨v_behind, ⟨by omega, by omega⟩, ht_208, ((st_leftM ht0 hf_174 hf_192)).trans (by rw [ef_201]; rfl)⟩, ⟨rfl, rfl⟩⟩ [1, 2, 0] rfl (by decide) [] rfl (by decide) (by decide) dX12_readLine_206
    ·
      subst r_189
      have St : cS G k [(qarI (a 1) (d 1) 9 f_read), (cMq a h v_taped v_size v_from v_behind v_hand v_value v_fault v_faultAt v_clock v_coin v_loan v_matched v_taxed v_paidStages v_grown v_pledges v_sums v_stages v_isStopped v_begun), (qarI (a 3) (d 3) 400 f_tape)] [((d 3), .byte), ((d 1), .int)] A s H locs := St
      refine lv_if_ne (tgt := 181) hx hb dX12_readLine_172 (by decide) (fun c172 => ?_) (fun c172 => ?_)
      · exact absurd c172 (by decide)
      refine lv_aload_n hx hb dX12_readLine_175 rfl (lv_at hl 0 rfl) ?_
      refine lv_iconst (v := 1) hx hb dX12_readLine_176 (by decide) ?_
      refine cs_q St [1] [0, 2] (wc := [(cMq a h v_taped v_size v_from v_behind v_hand v_value v_fault v_faultAt v_clock v_coin v_loan v_matched v_taxed v_paidStages v_grown v_pledges v_sums v_stages v_isStopped v_begun)]) (wr := [(qarI (a 1) (d 1) 9 f_read), (qarI (a 3) (d 3) 400 f_tape)]) rfl rfl (by decide) (by decide) (va_runV (As := [.int 1]) (rest := []) F (m_wrong l G k _ h a (fun _ => default) v_taped v_size v_from v_behind v_hand v_value v_fault v_faultAt v_clock v_coin v_loan v_matched v_taxed v_paidStages v_grown v_pledges v_sums v_stages v_isStopped v_begun 1) (cwVt F mf_X12_wrong km_X12_54 rfl rfl ⟨Nat.le_of_ble_eq_true rfl, Nat.le_of_ble_eq_true rfl⟩) (cs_preV St [1] rfl (by decide) [] rfl (ci := 12) (q0 := 1) rfl rfl) rfl rfl hl.1 rfl (lv_room (Nat.le_of_ble_eq_true rfl)) dX12_readLine_177 ⟨Nat.le_of_ble_eq_true rfl, Nat.le_of_ble_eq_true rfl⟩) (fun r_209 u_210 H locs hw St => ?_)
      try dsimp only at hw
      have z_211 := hw
      subst r_209
      have St : cS G k [(qarI (a 1) (d 1) 9 f_read), (qarI (a 3) (d 3) 400 f_tape), (cMq a h v_taped v_size v_from v_behind v_hand v_value 1 v_from v_clock v_coin v_loan v_matched v_taxed v_paidStages v_grown v_pledges v_sums v_stages v_isStopped v_begun)] [((d 3), .byte), ((d 1), .int)] A s H locs := St
      show W _ _ _ _ _ _ _ _ _ _ _ _ _ _ _ (F0 m 180 ls [.ref (a 2)])
      exact cs_athrow F hex hlk hQ St (v_from, v_behind, v_hand, v_value, 1, v_from, f_read) ⟨1, _, st_noM ht0 hf_174 hf_194, by decide, rfl, by omega, rfl⟩ [2, 1, 0] rfl (by decide) [] rfl dX12_readLine_180

