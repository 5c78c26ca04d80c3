set_option maxHeartbeats 4000000 in
set_option maxRecDepth 100000 in
theorem e12_runs (l : Launch) (G : va_G) (k : Nat → Nat) (sz : Nat) (h : Nat) (a : Nat → Nat) (d : Nat → ClassId) (v_taped : Int32) (v_size : Int32) (v_from : Int32) (v_behind : Int32) (v_hand : Int32) (v_value : Int32) (v_fault : Int32) (v_faultAt : Int32) (v_clock : Int32) (v_coin : Int32) (v_loan : Int32) (v_matched : Int32) (v_taxed : Int32) (v_paidStages : Int32) (v_grown : Int32) (v_pledges : Int32) (v_sums : Int32) (v_stages : Int32) (v_isStopped : Int32) (v_begun : Int32) (f_parts : Nat → Int32) (f_length : Nat → Int32) (hSt : mSt v_stages v_begun f_length) : Met l yX12_runs (Cond.code yX12_runs cX12_runs 1 (some .boolean) :: tb) ({ frames := 0, cells := 0, slots := 0, locals := 0 } : Room) (va_Pc [.ref h] (cP G k [(cMq a h v_taped v_size v_from v_behind v_hand v_value v_fault v_faultAt v_clock v_coin v_loan v_matched v_taxed v_paidStages v_grown v_pledges v_sums v_stages v_isStopped v_begun), (qarI (a 28) (d 28) 8 f_parts), (qarI (a 27) (d 27) 8 f_length)] [((d 28), .int), ((d 27), .int)] sz)) (va_Qi (fun (r : Int32) (_ : Unit) => ((r = 1) ∧ ((1 ≤ v_begun.toInt ∧ (f_parts (v_begun.toInt.toNat - 1)).toInt < (f_length (v_begun.toInt.toNat - 1)).toInt))) ∨ ((r = 0) ∧ (¬ ((1 ≤ v_begun.toInt ∧ (f_parts (v_begun.toInt.toNat - 1)).toInt < (f_length (v_begun.toInt.toNat - 1)).toInt))))) (cB G (fun (_ : Unit) => [(cMq a h v_taped v_size v_from v_behind v_hand v_value v_fault v_faultAt v_clock v_coin v_loan v_matched v_taxed v_paidStages v_grown v_pledges v_sums v_stages v_isStopped v_begun), (qarI (a 28) (d 28) 8 f_parts), (qarI (a 27) (d 27) 8 f_length)]) (fun (_ : Unit) => []) (va_A [(cMq a h v_taped v_size v_from v_behind v_hand v_value v_fault v_faultAt v_clock v_coin v_loan v_matched v_taxed v_paidStages v_grown v_pledges v_sums v_stages v_isStopped v_begun), (qarI (a 28) (d 28) 8 f_parts), (qarI (a 27) (d 27) 8 f_length)] sz)) (va_A [(cMq a h v_taped v_size v_from v_behind v_hand v_value v_fault v_faultAt v_clock v_coin v_loan v_matched v_taxed v_paidStages v_grown v_pledges v_sums v_stages v_isStopped v_begun), (qarI (a 28) (d 28) 8 f_parts), (qarI (a 27) (d 27) 8 f_length)] sz)) 0 0 (va_A [(cMq a h v_taped v_size v_from v_behind v_hand v_value v_fault v_faultAt v_clock v_coin v_loan v_matched v_taxed v_paidStages v_grown v_pledges v_sums v_stages v_isStopped v_begun), (qarI (a 28) (d 28) 8 f_parts), (qarI (a 27) (d 27) 8 f_length)] sz) := by
  refine ofC_i (cc := cX12_runs) (maxL := 1) (ret := (some .boolean)) (by decide) rfl (Nat.le_of_ble_eq_true rfl) ?_
  intro p e s m args below meth c A ls Q F hr hin hlk St hl hQ
  have hx := F.1
  have hb := F.2.1
  have hl : lv_has ls 1 [(0, .ref h)] := hl
  have St : cS G k [(cMq a h v_taped v_size v_from v_behind v_hand v_value v_fault v_faultAt v_clock v_coin v_loan v_matched v_taxed v_paidStages v_grown v_pledges v_sums v_stages v_isStopped v_begun), (qarI (a 28) (d 28) 8 f_parts), (qarI (a 27) (d 27) 8 f_length)] [((d 28), .int), ((d 27), .int)] A s s.heap [] := St
  have htd := hSt.1
  have y0 : (0 : Int32).toInt = 0 := by decide
  refine lv_aload_n hx hb dX12_runs_0 rfl (lv_at hl 0 rfl) ?_
  refine cs_get F St 0 rfl rfl inX12 50 (by decide) kf_X12_289 rfl dX12_runs_1 ?_
  refine lv_if_le (tgt := 36) hx hb dX12_runs_4 (by decide) (fun c4 => ?_) (fun c4 => ?_)
  ·
    have i4 := ci_le (x := v_begun) (y := 0) rfl (show (0 : Int32).toInt = 0 by decide) c4
    refine lv_iconst (v := 0) hx hb dX12_runs_36 (by decide) ?_
    exact cs_zret F hr hlk hQ St () (r := 0) rfl (Or.inr ⟨rfl, by omega⟩) [0, 1, 2] rfl (by decide) [] rfl (by decide) (by decide) dX12_runs_37
  ·
    have i4 := ci_nle (x := v_begun) (y := 0) rfl (show (0 : Int32).toInt = 0 by decide) c4
    refine lv_aload_n hx hb dX12_runs_7 rfl (lv_at hl 0 rfl) ?_
    refine cs_get F St 0 rfl rfl inX12 47 (by decide) kf_X12_188 rfl dX12_runs_8 ?_
    refine lv_aload_n hx hb dX12_runs_11 rfl (lv_at hl 0 rfl) ?_
    refine cs_get F St 0 rfl rfl inX12 50 (by decide) kf_X12_289 rfl dX12_runs_12 ?_
    refine lv_iconst (v := 1) hx hb dX12_runs_15 (by decide) ?_
    refine lv_isub hx hb dX12_runs_16 ?_
    refine lv_topi (fun y_1 ey_1 => ?_)
    first | have jy_1 : y_1.toInt = v_begun.toInt - 1 := (by have q9 := ci_sub (x := v_begun) (y := 1) rfl (show (1 : Int32).toInt = 1 by decide) ey_1; omega) | have jy_1 := ci_sub (x := v_begun) (y := 1) rfl (show (1 : Int32).toInt = 1 by decide) ey_1
    have hiy : y_1.toNatClampNeg = v_begun.toInt.toNat - 1 := by have q9 := nc_int (x := y_1) (by omega); omega
    refine cs_ild F St 1 0 rfl rfl (vp_in_iff.mpr ⟨by omega, by omega⟩) dX12_runs_17 ?_
    refine lv_topi (fun y_2 ey_2 => ?_)
    have gy_2 := congrArg Int32.toInt ey_2
    rw [hiy] at gy_2
    refine lv_aload_n hx hb dX12_runs_18 rfl (lv_at hl 0 rfl) ?_
    refine cs_get F St 0 rfl rfl inX12 46 (by decide) kf_X12_186 rfl dX12_runs_19 ?_
    refine lv_aload_n hx hb dX12_runs_22 rfl (lv_at hl 0 rfl) ?_
    refine cs_get F St 0 rfl rfl inX12 50 (by decide) kf_X12_289 rfl dX12_runs_23 ?_
    refine lv_iconst (v := 1) hx hb dX12_runs_26 (by decide) ?_
    refine lv_isub hx hb dX12_runs_27 ?_
    refine lv_topi (fun y_3 ey_3 => ?_)
    first | have jy_3 : y_3.toInt = v_begun.toInt - 1 := (by have q9 := ci_sub (x := v_begun) (y := 1) rfl (show (1 : Int32).toInt = 1 by decide) ey_3; omega) | have jy_3 := ci_sub (x := v_begun) (y := 1) rfl (show (1 : Int32).toInt = 1 by decide) ey_3
    have hiy : y_3.toNatClampNeg = v_begun.toInt.toNat - 1 := by have q9 := nc_int (x := y_3) (by omega); omega
    refine cs_ild F St 2 1 rfl rfl (vp_in_iff.mpr ⟨by omega, by omega⟩) dX12_runs_28 ?_
    refine lv_topi (fun y_4 ey_4 => ?_)
    have gy_4 := congrArg Int32.toInt ey_4
    have hdy_4 := mSt_l hSt (by omega) (by omega) ey_4
    rw [hiy] at gy_4
    refine lv_icmp_ge (tgt := 36) hx hb dX12_runs_29 (by decide) (fun c29 => ?_) (fun c29 => ?_)
    ·
      have i29 := ci_le (x := y_4) (y := y_2) rfl rfl c29
      refine lv_iconst (v := 0) hx hb dX12_runs_36 (by decide) ?_
      exact cs_zret F hr hlk hQ St () (r := 0) rfl (Or.inr ⟨rfl, by omega⟩) [0, 1, 2] rfl (by decide) [] rfl (by decide) (by decide) dX12_runs_37
    ·
      have i29 := ci_nle (x := y_4) (y := y_2) rfl rfl c29
      refine lv_iconst (v := 1) hx hb dX12_runs_32 (by decide) ?_
      refine lv_goto (tgt := 37) hx hb dX12_runs_33 (by decide) ?_
      exact cs_zret F hr hlk hQ St () (r := 1) rfl (Or.inl ⟨rfl, by omega⟩) [0, 1, 2] rfl (by decide) [] rfl (by decide) (by decide) dX12_runs_37
set_option maxHeartbeats 4000000 in
set_option maxRecDepth 100000 in
theorem e12_begin (l : Launch) (G : va_G) (k : Nat → Nat) (sz : Nat) (h : Nat) (a : Nat → Nat) (d : Nat → ClassId) (v_taped : Int32) (v_size : Int32) (v_from : Int32) (v_behind : Int32) (v_hand : Int32) (v_value : Int32) (v_fault : Int32) (v_faultAt : Int32) (v_clock : Int32) (v_coin : Int32) (v_loan : Int32) (v_matched : Int32) (v_taxed : Int32) (v_paidStages : Int32) (v_grown : Int32) (v_pledges : Int32) (v_sums : Int32) (v_stages : Int32) (v_isStopped : Int32) (v_begun : Int32) (f_parts : Nat → Int32) (f_length : Nat → Int32) (hSt : mSt v_stages v_begun f_length) : Met l yX12_begin (Cond.code yX12_begin cX12_begin 1 (some .int) :: tb) ({ frames := 1, cells := 0, slots := 0, locals := 20 } : Room) (va_Pc [.ref h] (cP G k [(cMq a h v_taped v_size v_from v_behind v_hand v_value v_fault v_faultAt v_clock v_coin v_loan v_matched v_taxed v_paidStages v_grown v_pledges v_sums v_stages v_isStopped v_begun), (qarI (a 28) (d 28) 8 f_parts), (qarI (a 27) (d 27) 8 f_length)] [((d 28), .int), ((d 27), .int)] sz)) (va_Qi (fun (r : Int32) (w_begun : Int32) => (Rbeg v_isStopped v_stages v_begun f_length f_parts r w_begun) ∧ (mSt v_stages w_begun f_length)) (cB G (fun (w_begun : Int32) => [(cMq a h v_taped v_size v_from v_behind v_hand v_value v_fault v_faultAt v_clock v_coin v_loan v_matched v_taxed v_paidStages v_grown v_pledges v_sums v_stages v_isStopped w_begun), (qarI (a 28) (d 28) 8 f_parts), (qarI (a 27) (d 27) 8 f_length)]) (fun (w_begun : Int32) => []) (va_A [(cMq a h v_taped v_size v_from v_behind v_hand v_value v_fault v_faultAt v_clock v_coin v_loan v_matched v_taxed v_paidStages v_grown v_pledges v_sums v_stages v_isStopped v_begun), (qarI (a 28) (d 28) 8 f_parts), (qarI (a 27) (d 27) 8 f_length)] sz)) (va_A [(cMq a h v_taped v_size v_from v_behind v_hand v_value v_fault v_faultAt v_clock v_coin v_loan v_matched v_taxed v_paidStages v_grown v_pledges v_sums v_stages v_isStopped v_begun), (qarI (a 28) (d 28) 8 f_parts), (qarI (a 27) (d 27) 8 f_length)] sz)) 0 0 (va_A [(cMq a h v_taped v_size v_from v_behind v_hand v_value v_fault v_faultAt v_clock v_coin v_loan v_matched v_taxed v_paidStages v_grown v_pledges v_sums v_stages v_isStopped v_begun), (qarI (a 28) (d 28) 8 f_parts), (qarI (a 27) (d 27) 8 f_length)] sz) := by
  refine ofC_i (cc := cX12_begin) (maxL := 1) (ret := (some .int)) (by decide) rfl (Nat.le_of_ble_eq_true rfl) ?_
  intro p e s m args below meth c A ls Q F hr hin hlk St hl hQ
  have hx := F.1
  have hb := F.2.1
  have hl : lv_has ls 1 [(0, .ref h)] := hl
  have St : cS G k [(cMq a h v_taped v_size v_from v_behind v_hand v_value v_fault v_faultAt v_clock v_coin v_loan v_matched v_taxed v_paidStages v_grown v_pledges v_sums v_stages v_isStopped v_begun), (qarI (a 28) (d 28) 8 f_parts), (qarI (a 27) (d 27) 8 f_length)] [((d 28), .int), ((d 27), .int)] A s s.heap [] := St
  have htd := hSt.1
  have y0 : (0 : Int32).toInt = 0 := by decide
  refine lv_aload_n hx hb dX12_begin_0 rfl (lv_at hl 0 rfl) ?_
  refine cs_get F St 0 rfl rfl inX12 23 (by decide) kf_X12_224 rfl dX12_begin_1 ?_
  refine lv_if_ne (tgt := 25) hx hb dX12_begin_4 (by decide) (fun c4 => ?_) (fun c4 => ?_)
  ·
    have i4 := ci_ne (x := v_isStopped) (y := 0) rfl (show (0 : Int32).toInt = 0 by decide) c4
    refine lv_bipush (v := (-4)) hx hb dX12_begin_25 (by decide) ?_
    exact cs_iret F hr hlk hQ St v_begun (r := (-4)) ⟨Or.inl ⟨rfl, by omega, rfl⟩, hSt⟩ [0, 1, 2] rfl (by decide) [] rfl (by decide) (by decide) dX12_begin_27
  ·
    have i4 := ci_eq (x := v_isStopped) (y := 0) rfl (show (0 : Int32).toInt = 0 by decide) c4
    refine lv_aload_n hx hb dX12_begin_7 rfl (lv_at hl 0 rfl) ?_
    refine cs_i St [0, 1, 2] [] (wc := [(cMq a h v_taped v_size v_from v_behind v_hand v_value v_fault v_faultAt v_clock v_coin v_loan v_matched v_taxed v_paidStages v_grown v_pledges v_sums v_stages v_isStopped v_begun), (qarI (a 28) (d 28) 8 f_parts), (qarI (a 27) (d 27) 8 f_length)]) (wr := []) rfl rfl (by decide) (by decide) (va_runV (As := []) (rest := []) F (e12_runs l G k _ h a d v_taped v_size v_from v_behind v_hand v_value v_fault v_faultAt v_clock v_coin v_loan v_matched v_taxed v_paidStages v_grown v_pledges v_sums v_stages v_isStopped v_begun f_parts f_length hSt) (cwVt F mf_X12_runs km_X12_292 rfl rfl ⟨Nat.le_of_ble_eq_true rfl, Nat.le_of_ble_eq_true rfl⟩) (cs_preV St [0, 1, 2] rfl (by decide) [0, 1] rfl (ci := 12) (q0 := 0) rfl rfl) rfl rfl hl.1 rfl (lv_room (Nat.le_of_ble_eq_true rfl)) dX12_begin_8 ⟨Nat.le_of_ble_eq_true rfl, Nat.le_of_ble_eq_true rfl⟩) (fun r_1 u_2 H locs hw St => ?_)
    try dsimp only at hw
    rcases hw with ⟨z_3, hf_4⟩ | ⟨z_5, hf_6⟩
    ·
      subst r_1
      have St : cS G k [(cMq a h v_taped v_size v_from v_behind v_hand v_value v_fault v_faultAt v_clock v_coin v_loan v_matched v_taxed v_paidStages v_grown v_pledges v_sums v_stages v_isStopped v_begun), (qarI (a 28) (d 28) 8 f_parts), (qarI (a 27) (d 27) 8 f_length)] [((d 28), .int), ((d 27), .int)] A s H locs := St
      refine lv_if_ne (tgt := 25) hx hb dX12_begin_11 (by decide) (fun c11 => ?_) (fun c11 => ?_)
      rotate_left
      · exact absurd c11 (by decide)
      refine lv_bipush (v := (-4)) hx hb dX12_begin_25 (by decide) ?_
      exact cs_iret F hr hlk hQ St v_begun (r := (-4)) ⟨Or.inl ⟨rfl, by omega, rfl⟩, hSt⟩ [0, 1, 2] rfl (by decide) [] rfl (by decide) (by decide) dX12_begin_27
    ·
      subst r_1
      have St : cS G k [(cMq a h v_taped v_size v_from v_behind v_hand v_value v_fault v_faultAt v_clock v_coin v_loan v_matched v_taxed v_paidStages v_grown v_pledges v_sums v_stages v_isStopped v_begun), (qarI (a 28) (d 28) 8 f_parts), (qarI (a 27) (d 27) 8 f_length)] [((d 28), .int), ((d 27), .int)] A s H locs := St
      refine lv_if_ne (tgt := 25) hx hb dX12_begin_11 (by decide) (fun c11 => ?_) (fun c11 => ?_)
      · exact absurd c11 (by decide)
      refine lv_aload_n hx hb dX12_begin_14 rfl (lv_at hl 0 rfl) ?_
      refine cs_get F St 0 rfl rfl inX12 50 (by decide) kf_X12_289 rfl dX12_begin_15 ?_
      refine lv_aload_n hx hb dX12_begin_18 rfl (lv_at hl 0 rfl) ?_
      refine cs_get F St 0 rfl rfl inX12 22 (by decide) kf_X12_286 rfl dX12_begin_19 ?_
      refine lv_icmp_ne (tgt := 28) hx hb dX12_begin_22 (by decide) (fun c22 => ?_) (fun c22 => ?_)
      ·
        have i22 := ci_ne (x := v_begun) (y := v_stages) rfl rfl c22
        refine lv_aload_n hx hb dX12_begin_28 rfl (lv_at hl 0 rfl) ?_
        refine lv_dup hx hb dX12_begin_29 rfl ?_
        refine cs_get F St 0 rfl rfl inX12 50 (by decide) kf_X12_289 rfl dX12_begin_30 ?_
        refine lv_iconst (v := 1) hx hb dX12_begin_33 (by decide) ?_
        refine lv_iadd hx hb dX12_begin_34 ?_
        refine lv_topi (fun y_7 ey_7 => ?_)
        first | have jy_7 : y_7.toInt = v_begun.toInt + 1 := (by have q9 := ci_add (x := v_begun) (y := 1) rfl (show (1 : Int32).toInt = 1 by decide) ey_7; omega) | have jy_7 := ci_add (x := v_begun) (y := 1) rfl (show (1 : Int32).toInt = 1 by decide) ey_7
        refine cs_put F St 0 rfl rfl inX12 tyX12_ok nmX12 50 (by decide) kf_X12_289 rfl rfl rfl (Nat.le_of_ble_eq_true rfl) (w' := [(cMq a h v_taped v_size v_from v_behind v_hand v_value v_fault v_faultAt v_clock v_coin v_loan v_matched v_taxed v_paidStages v_grown v_pledges v_sums v_stages v_isStopped y_7), (qarI (a 28) (d 28) 8 f_parts), (qarI (a 27) (d 27) 8 f_length)]) rfl dX12_begin_35 (fun H locs St => ?_)
        refine lv_aload_n hx hb dX12_begin_38 rfl (lv_at hl 0 rfl) ?_
        refine cs_get F St 0 rfl rfl inX12 50 (by decide) kf_X12_289 rfl dX12_begin_39 ?_
        refine lv_iconst (v := 1) hx hb dX12_begin_42 (by decide) ?_
        refine lv_isub hx hb dX12_begin_43 ?_
        refine lv_topi (fun y_8 ey_8 => ?_)
        first | have jy_8 : y_8.toInt = y_7.toInt - 1 := (by have q9 := ci_sub (x := y_7) (y := 1) rfl (show (1 : Int32).toInt = 1 by decide) ey_8; omega) | have jy_8 := ci_sub (x := y_7) (y := 1) rfl (show (1 : Int32).toInt = 1 by decide) ey_8
        exact cs_iret F hr hlk hQ St y_7 (r := y_8) ⟨Or.inr ⟨Int32.toInt_inj.mp (by omega), by omega, by omega⟩, mSt_go hSt (by omega) (by omega)⟩ [0, 1, 2] rfl (by decide) [] rfl (by decide) (by decide) dX12_begin_44
      ·
        have i22 := ci_eq (x := v_begun) (y := v_stages) rfl rfl c22
        refine lv_bipush (v := (-4)) hx hb dX12_begin_25 (by decide) ?_
        exact cs_iret F hr hlk hQ St v_begun (r := (-4)) ⟨Or.inl ⟨rfl, by omega, rfl⟩, hSt⟩ [0, 1, 2] rfl (by decide) [] rfl (by decide) (by decide) dX12_begin_27
set_option maxHeartbeats 4000000 in
set_option maxRecDepth 100000 in
theorem e12_built (l : Launch) (G : va_G) (k : Nat → Nat) (sz : Nat) (h : Nat) (a : Nat → Nat) (d : Nat → ClassId) (v_taped : Int32) (v_size : Int32) (v_from : Int32) (v_behind : Int32) (v_hand : Int32) (v_value : Int32) (v_fault : Int32) (v_faultAt : Int32) (v_clock : Int32) (v_coin : Int32) (v_loan : Int32) (v_matched : Int32) (v_taxed : Int32) (v_paidStages : Int32) (v_grown : Int32) (v_pledges : Int32) (v_sums : Int32) (v_stages : Int32) (v_isStopped : Int32) (v_begun : Int32) (f_cost : Nat → Int32) (f_length : Nat → Int32) (f_parts : Nat → Int32) (f_stagePaid : Nat → Int32) (f_paused : Nat → Int32) (x1 : Int32) (x2 : Int32) (hSt : mSt v_stages v_begun f_length) : Met l yX12_built (Cond.code yX12_built cX12_built 3 (some .int) :: tb) ({ frames := 1, cells := 0, slots := 0, locals := 25 } : Room) (va_Pc [.ref h, .int x1, .int x2] (cP G k [(cMq a h v_taped v_size v_from v_behind v_hand v_value v_fault v_faultAt v_clock v_coin v_loan v_matched v_taxed v_paidStages v_grown v_pledges v_sums v_stages v_isStopped v_begun), (qarI (a 26) (d 26) 8 f_cost), (qarI (a 27) (d 27) 8 f_length), (qarI (a 28) (d 28) 8 f_parts), (qarI (a 29) (d 29) 8 f_stagePaid), (qarI (a 30) (d 30) 8 f_paused)] [((d 26), .int), ((d 27), .int), ((d 28), .int), ((d 29), .int), ((d 30), .int)] sz)) (va_Qi (fun (r : Int32) (_ : Unit) => (Rbui v_stages v_begun x1 x2 f_cost f_length f_parts f_stagePaid f_paused r)) (cB G (fun (_ : Unit) => [(cMq a h v_taped v_size v_from v_behind v_hand v_value v_fault v_faultAt v_clock v_coin v_loan v_matched v_taxed v_paidStages v_grown v_pledges v_sums v_stages v_isStopped v_begun), (qarI (a 26) (d 26) 8 f_cost), (qarI (a 27) (d 27) 8 f_length), (qarI (a 28) (d 28) 8 f_parts), (qarI (a 29) (d 29) 8 f_stagePaid), (qarI (a 30) (d 30) 8 f_paused)]) (fun (_ : Unit) => []) (va_A [(cMq a h v_taped v_size v_from v_behind v_hand v_value v_fault v_faultAt v_clock v_coin v_loan v_matched v_taxed v_paidStages v_grown v_pledges v_sums v_stages v_isStopped v_begun), (qarI (a 26) (d 26) 8 f_cost), (qarI (a 27) (d 27) 8 f_length), (qarI (a 28) (d 28) 8 f_parts), (qarI (a 29) (d 29) 8 f_stagePaid), (qarI (a 30) (d 30) 8 f_paused)] sz)) (va_A [(cMq a h v_taped v_size v_from v_behind v_hand v_value v_fault v_faultAt v_clock v_coin v_loan v_matched v_taxed v_paidStages v_grown v_pledges v_sums v_stages v_isStopped v_begun), (qarI (a 26) (d 26) 8 f_cost), (qarI (a 27) (d 27) 8 f_length), (qarI (a 28) (d 28) 8 f_parts), (qarI (a 29) (d 29) 8 f_stagePaid), (qarI (a 30) (d 30) 8 f_paused)] sz)) 0 0 (va_A [(cMq a h v_taped v_size v_from v_behind v_hand v_value v_fault v_faultAt v_clock v_coin v_loan v_matched v_taxed v_paidStages v_grown v_pledges v_sums v_stages v_isStopped v_begun), (qarI (a 26) (d 26) 8 f_cost), (qarI (a 27) (d 27) 8 f_length), (qarI (a 28) (d 28) 8 f_parts), (qarI (a 29) (d 29) 8 f_stagePaid), (qarI (a 30) (d 30) 8 f_paused)] sz) := by
  refine ofC_i (cc := cX12_built) (maxL := 3) (ret := (some .int)) (by decide) rfl (Nat.le_of_ble_eq_true rfl) ?_
  intro p e s m args below meth c A ls Q F hr hin hlk St hl hQ
  have hx := F.1
  have hb := F.2.1
  have hl : lv_has ls 3 [(0, .ref h), (1, .int x1), (2, .int x2)] := hl
  have St : cS G k [(cMq a h v_taped v_size v_from v_behind v_hand v_value v_fault v_faultAt v_clock v_coin v_loan v_matched v_taxed v_paidStages v_grown v_pledges v_sums v_stages v_isStopped v_begun), (qarI (a 26) (d 26) 8 f_cost), (qarI (a 27) (d 27) 8 f_length), (qarI (a 28) (d 28) 8 f_parts), (qarI (a 29) (d 29) 8 f_stagePaid), (qarI (a 30) (d 30) 8 f_paused)] [((d 26), .int), ((d 27), .int), ((d 28), .int), ((d 29), .int), ((d 30), .int)] A s s.heap [] := St
  have htd := hSt.1
  have y0 : (0 : Int32).toInt = 0 := by decide
  refine lv_iload_n hx hb dX12_built_0 rfl (lv_at hl 1 rfl) ?_
  refine lv_i2l (v := x1.toInt64) hx hb dX12_built_1 rfl ?_
  refine lv_lconst (v := 0) hx hb dX12_built_2 (by decide) ?_
  refine lv_aload_n hx hb dX12_built_3 rfl (lv_at hl 0 rfl) ?_
  refine cs_get F St 0 rfl rfl inX12 22 (by decide) kf_X12_286 rfl dX12_built_4 ?_
  refine lv_i2l (v := v_stages.toInt64) hx hb dX12_built_7 rfl ?_
  refine lv_lconst (v := 1) hx hb dX12_built_8 (by decide) ?_
  refine lv_lsub hx hb dX12_built_9 ?_
  refine lv_topl (fun y_1 ey_1 => ?_)
  first | have jy_1 : y_1.toInt = v_stages.toInt - 1 := (by have q7 := ci_rng v_stages; have q9 := cl_sub (x := v_stages.toInt64) (y := 1) (u := v_stages.toInt) (v := 1) (Int32.toInt_toInt64 v_stages) (by decide) ey_1; omega) | have jy_1 := cl_sub (x := v_stages.toInt64) (y := 1) (u := v_stages.toInt) (v := 1) (Int32.toInt_toInt64 v_stages) (by decide) ey_1
  refine cs_i St [] [0, 1, 2, 3, 4, 5] (wc := []) (wr := [(cMq a h v_taped v_size v_from v_behind v_hand v_value v_fault v_faultAt v_clock v_coin v_loan v_matched v_taxed v_paidStages v_grown v_pledges v_sums v_stages v_isStopped v_begun), (qarI (a 26) (d 26) 8 f_cost), (qarI (a 27) (d 27) 8 f_length), (qarI (a 28) (d 28) 8 f_parts), (qarI (a 29) (d 29) 8 f_stagePaid), (qarI (a 30) (d 30) 8 f_paused)]) rfl rfl (by decide) (by decide) (va_runS (As := [.long x1.toInt64, .long 0, .long y_1]) (rest := []) F (c12_in l G k _ x1.toInt64 0 y_1 x1.toInt 0 y_1.toInt (Int32.toInt_toInt64 x1) (by decide) rfl) (cwSt F mf_X12_in km_X12_58 rfl rfl ⟨Nat.le_of_ble_eq_true rfl, Nat.le_of_ble_eq_true rfl⟩) (cs_pre St [] rfl (by decide) [] rfl) rfl rfl hl.1 rfl (lv_room (Nat.le_of_ble_eq_true rfl)) dX12_built_10 ⟨Nat.le_of_ble_eq_true rfl, Nat.le_of_ble_eq_true rfl⟩) (fun r_2 u_3 H locs hw St => ?_)
  try dsimp only at hw
  rcases hw with ⟨z_4, hf_5⟩ | ⟨z_6, hf_7⟩
  ·
    subst r_2
    have St : cS G k [(cMq a h v_taped v_size v_from v_behind v_hand v_value v_fault v_faultAt v_clock v_coin v_loan v_matched v_taxed v_paidStages v_grown v_pledges v_sums v_stages v_isStopped v_begun), (qarI (a 26) (d 26) 8 f_cost), (qarI (a 27) (d 27) 8 f_length), (qarI (a 28) (d 28) 8 f_parts), (qarI (a 29) (d 29) 8 f_stagePaid), (qarI (a 30) (d 30) 8 f_paused)] [((d 26), .int), ((d 27), .int), ((d 28), .int), ((d 29), .int), ((d 30), .int)] A s H locs := St
    refine lv_if_ne (tgt := 18) hx hb dX12_built_13 (by decide) (fun c13 => ?_) (fun c13 => ?_)
    rotate_left
    · exact absurd c13 (by decide)
    refine lv_iload_n hx hb dX12_built_18 rfl (lv_at hl 2 rfl) ?_
    by_cases w19_0 : x2 = 0
    ·
      subst w19_0
      refine lv_tableIn (tgt := 52) (off := 33) hx hb dX12_built_19 (by decide) (by decide) (by decide) (by decide) ?_
      refine lv_aload_n hx hb dX12_built_52 rfl (lv_at hl 0 rfl) ?_
      refine cs_get F St 0 rfl rfl inX12 45 (by decide) kf_X12_183 rfl dX12_built_53 ?_
      refine lv_iload_n hx hb dX12_built_56 rfl (lv_at hl 1 rfl) ?_
      refine cs_ild F St 1 0 rfl rfl (vp_in_iff.mpr ⟨by omega, by omega⟩) dX12_built_57 ?_
      refine lv_topi (fun y_8 ey_8 => ?_)
      have gy_8 := congrArg Int32.toInt ey_8
      exact cs_iret F hr hlk hQ St () (r := y_8) (Or.inr ⟨by omega, by show _ = buV _ _ _ _ _ _ _ _; unfold buV; rw [if_pos rfl]; exact ey_8⟩) [0, 1, 2, 3, 4, 5] rfl (by decide) [] rfl (by decide) (by decide) dX12_built_58
    by_cases w19_1 : x2 = 1
    ·
      subst w19_1
      refine lv_tableIn (tgt := 59) (off := 40) hx hb dX12_built_19 (by decide) (by decide) (by decide) (by decide) ?_
      refine lv_aload_n hx hb dX12_built_59 rfl (lv_at hl 0 rfl) ?_
      refine cs_get F St 0 rfl rfl inX12 46 (by decide) kf_X12_186 rfl dX12_built_60 ?_
      refine lv_iload_n hx hb dX12_built_63 rfl (lv_at hl 1 rfl) ?_
      refine cs_ild F St 2 1 rfl rfl (vp_in_iff.mpr ⟨by omega, by omega⟩) dX12_built_64 ?_
      refine lv_topi (fun y_9 ey_9 => ?_)
      have gy_9 := congrArg Int32.toInt ey_9
      have hdy_9 := mSt_l hSt (by omega) (by omega) ey_9
      exact cs_iret F hr hlk hQ St () (r := y_9) (Or.inr ⟨by omega, by show _ = buV _ _ _ _ _ _ _ _; unfold buV; rw [if_neg (by decide), if_pos rfl]; exact ey_9⟩) [0, 1, 2, 3, 4, 5] rfl (by decide) [] rfl (by decide) (by decide) dX12_built_65
    by_cases w19_2 : x2 = 2
    ·
      subst w19_2
      refine lv_tableIn (tgt := 66) (off := 47) hx hb dX12_built_19 (by decide) (by decide) (by decide) (by decide) ?_
      refine lv_iload_n hx hb dX12_built_66 rfl (lv_at hl 1 rfl) ?_
      refine lv_aload_n hx hb dX12_built_67 rfl (lv_at hl 0 rfl) ?_
      refine cs_get F St 0 rfl rfl inX12 50 (by decide) kf_X12_289 rfl dX12_built_68 ?_
      refine lv_icmp_lt (tgt := 78) hx hb dX12_built_71 (by decide) (fun c71 => ?_) (fun c71 => ?_)
      ·
        have i71 := ci_lt (x := x1) (y := v_begun) rfl rfl c71
        refine lv_aload_n hx hb dX12_built_78 rfl (lv_at hl 0 rfl) ?_
        refine cs_get F St 0 rfl rfl inX12 47 (by decide) kf_X12_188 rfl dX12_built_79 ?_
        refine lv_iload_n hx hb dX12_built_82 rfl (lv_at hl 1 rfl) ?_
        refine cs_ild F St 3 2 rfl rfl (vp_in_iff.mpr ⟨by omega, by omega⟩) dX12_built_83 ?_
        refine lv_topi (fun y_10 ey_10 => ?_)
        have gy_10 := congrArg Int32.toInt ey_10
        refine lv_aload_n hx hb dX12_built_84 rfl (lv_at hl 0 rfl) ?_
        refine cs_get F St 0 rfl rfl inX12 46 (by decide) kf_X12_186 rfl dX12_built_85 ?_
        refine lv_iload_n hx hb dX12_built_88 rfl (lv_at hl 1 rfl) ?_
        refine cs_ild F St 2 1 rfl rfl (vp_in_iff.mpr ⟨by omega, by omega⟩) dX12_built_89 ?_
        refine lv_topi (fun y_11 ey_11 => ?_)
        have gy_11 := congrArg Int32.toInt ey_11
        have hdy_11 := mSt_l hSt (by omega) (by omega) ey_11
        refine lv_icmp_ge (tgt := 97) hx hb dX12_built_90 (by decide) (fun c90 => ?_) (fun c90 => ?_)
        ·
          have i90 := ci_le (x := y_11) (y := y_10) rfl rfl c90
          refine lv_iconst (v := 2) hx hb dX12_built_97 (by decide) ?_
          exact cs_iret F hr hlk hQ St () (r := 2) (Or.inr ⟨by omega, by show _ = buV _ _ _ _ _ _ _ _; unfold buV; rw [if_neg (by decide), if_neg (by decide), if_pos rfl]; rw [if_neg (by omega), if_neg (by omega)]⟩) [0, 1, 2, 3, 4, 5] rfl (by decide) [] rfl (by decide) (by decide) dX12_built_98
        ·
          have i90 := ci_nle (x := y_11) (y := y_10) rfl rfl c90
          refine lv_iconst (v := 1) hx hb dX12_built_93 (by decide) ?_
          refine lv_goto (tgt := 98) hx hb dX12_built_94 (by decide) ?_
          exact cs_iret F hr hlk hQ St () (r := 1) (Or.inr ⟨by omega, by show _ = buV _ _ _ _ _ _ _ _; unfold buV; rw [if_neg (by decide), if_neg (by decide), if_pos rfl]; rw [if_neg (by omega), if_pos (by omega)]⟩) [0, 1, 2, 3, 4, 5] rfl (by decide) [] rfl (by decide) (by decide) dX12_built_98
      ·
        have i71 := ci_nlt (x := x1) (y := v_begun) rfl rfl c71
        refine lv_iconst (v := 0) hx hb dX12_built_74 (by decide) ?_
        refine lv_goto (tgt := 98) hx hb dX12_built_75 (by decide) ?_
        exact cs_iret F hr hlk hQ St () (r := 0) (Or.inr ⟨by omega, by show _ = buV _ _ _ _ _ _ _ _; unfold buV; rw [if_neg (by decide), if_neg (by decide), if_pos rfl]; rw [if_pos (by omega)]⟩) [0, 1, 2, 3, 4, 5] rfl (by decide) [] rfl (by decide) (by decide) dX12_built_98
    by_cases w19_3 : x2 = 3
    ·
      subst w19_3
      refine lv_tableIn (tgt := 99) (off := 80) hx hb dX12_built_19 (by decide) (by decide) (by decide) (by decide) ?_
      refine lv_aload_n hx hb dX12_built_99 rfl (lv_at hl 0 rfl) ?_
      refine cs_get F St 0 rfl rfl inX12 48 (by decide) kf_X12_191 rfl dX12_built_100 ?_
      refine lv_iload_n hx hb dX12_built_103 rfl (lv_at hl 1 rfl) ?_
      refine cs_ild F St 4 3 rfl rfl (vp_in_iff.mpr ⟨by omega, by omega⟩) dX12_built_104 ?_
      refine lv_topi (fun y_12 ey_12 => ?_)
      have gy_12 := congrArg Int32.toInt ey_12
      exact cs_iret F hr hlk hQ St () (r := y_12) (Or.inr ⟨by omega, by show _ = buV _ _ _ _ _ _ _ _; unfold buV; rw [if_neg (by decide), if_neg (by decide), if_neg (by decide), if_pos rfl]; exact ey_12⟩) [0, 1, 2, 3, 4, 5] rfl (by decide) [] rfl (by decide) (by decide) dX12_built_105
    by_cases w19_4 : x2 = 4
    ·
      subst w19_4
      refine lv_tableIn (tgt := 106) (off := 87) hx hb dX12_built_19 (by decide) (by decide) (by decide) (by decide) ?_
      refine lv_aload_n hx hb dX12_built_106 rfl (lv_at hl 0 rfl) ?_
      refine cs_get F St 0 rfl rfl inX12 49 (by decide) kf_X12_194 rfl dX12_built_107 ?_
      refine lv_iload_n hx hb dX12_built_110 rfl (lv_at hl 1 rfl) ?_
      refine cs_ild F St 5 4 rfl rfl (vp_in_iff.mpr ⟨by omega, by omega⟩) dX12_built_111 ?_
      refine lv_topi (fun y_13 ey_13 => ?_)
      have gy_13 := congrArg Int32.toInt ey_13
      exact cs_iret F hr hlk hQ St () (r := y_13) (Or.inr ⟨by omega, by show _ = buV _ _ _ _ _ _ _ _; unfold buV; rw [if_neg (by decide), if_neg (by decide), if_neg (by decide), if_neg (by decide), if_pos rfl]; exact ey_13⟩) [0, 1, 2, 3, 4, 5] rfl (by decide) [] rfl (by decide) (by decide) dX12_built_112
    have iw19_0 := lv_neT w19_0 (show (0 : Int32).toInt = 0 by decide)
    have iw19_1 := lv_neT w19_1 (show (1 : Int32).toInt = 1 by decide)
    have iw19_2 := lv_neT w19_2 (show (2 : Int32).toInt = 2 by decide)
    have iw19_3 := lv_neT w19_3 (show (3 : Int32).toInt = 3 by decide)
    have iw19_4 := lv_neT w19_4 (show (4 : Int32).toInt = 4 by decide)
    refine lv_tableOut (tgt := 113) hx hb dX12_built_19 (by omega) (by decide) ?_
    refine lv_iconst (v := (-1)) hx hb dX12_built_113 (by decide) ?_
    exact cs_iret F hr hlk hQ St () (r := (-1)) (Or.inr ⟨by omega, by show _ = buV _ _ _ _ _ _ _ _; unfold buV; rw [if_neg w19_0, if_neg w19_1, if_neg w19_2, if_neg w19_3, if_neg w19_4]⟩) [0, 1, 2, 3, 4, 5] rfl (by decide) [] rfl (by decide) (by decide) dX12_built_114
  ·
    subst r_2
    have St : cS G k [(cMq a h v_taped v_size v_from v_behind v_hand v_value v_fault v_faultAt v_clock v_coin v_loan v_matched v_taxed v_paidStages v_grown v_pledges v_sums v_stages v_isStopped v_begun), (qarI (a 26) (d 26) 8 f_cost), (qarI (a 27) (d 27) 8 f_length), (qarI (a 28) (d 28) 8 f_parts), (qarI (a 29) (d 29) 8 f_stagePaid), (qarI (a 30) (d 30) 8 f_paused)] [((d 26), .int), ((d 27), .int), ((d 28), .int), ((d 29), .int), ((d 30), .int)] A s H locs := St
    refine lv_if_ne (tgt := 18) hx hb dX12_built_13 (by decide) (fun c13 => ?_) (fun c13 => ?_)
    · exact absurd c13 (by decide)
    refine lv_iconst (v := (-1)) hx hb dX12_built_16 (by decide) ?_
    exact cs_iret F hr hlk hQ St () (r := (-1)) (Or.inl ⟨by omega, rfl⟩) [0, 1, 2, 3, 4, 5] rfl (by decide) [] rfl (by decide) (by decide) dX12_built_17
set_option maxHeartbeats 4000000 in
set_option maxRecDepth 100000 in
theorem e12_build (l : Launch) (G : va_G) (k : Nat → Nat) (sz : Nat) (h : Nat) (a : Nat → Nat) (d : Nat → ClassId) (v_taped : Int32) (v_size : Int32) (v_from : Int32) (v_behind : Int32) (v_hand : Int32) (v_value : Int32) (v_fault : Int32) (v_faultAt : Int32) (v_clock : Int32) (v_coin : Int32) (v_loan : Int32) (v_matched : Int32) (v_taxed : Int32) (v_paidStages : Int32) (v_grown : Int32) (v_pledges : Int32) (v_sums : Int32) (v_stages : Int32) (v_isStopped : Int32) (v_begun : Int32) (f_cost : Nat → Int32) (f_length : Nat → Int32) (f_rule : Nat → Int32) (f_paused : Nat → Int32) (f_stagePaid : Nat → Int32) (f_parts : Nat → Int32) (hSt : mSt v_stages v_begun f_length) (hF : rbd f_rule) (cbd : Int) (lo9 : Int) (hcbd : cbd ≤ 2000000000) (hl9 : lo9 ≤ 400000000) (hwM : wfM v_stages.toInt v_begun.toInt f_cost f_length cbd lo9 (v_coin.toInt, v_loan.toInt, v_grown, v_paidStages, f_parts, f_stagePaid, f_paused)) (hrn : (1 ≤ v_begun.toInt ∧ (f_parts (v_begun.toInt.toNat - 1)).toInt < (f_length (v_begun.toInt.toNat - 1)).toInt)) : Met l yX12_build (Cond.code yX12_build cX12_build 6 none :: tb) ({ frames := 1, cells := 0, slots := 0, locals := 23 } : Room) (va_Pc [.ref h] (cP G k [(cMq a h v_taped v_size v_from v_behind v_hand v_value v_fault v_faultAt v_clock v_coin v_loan v_matched v_taxed v_paidStages v_grown v_pledges v_sums v_stages v_isStopped v_begun), (qarI (a 26) (d 26) 8 f_cost), (qarI (a 27) (d 27) 8 f_length), (qarI (a 0) (d 0) 9 f_rule), (qarI (a 30) (d 30) 8 f_paused), (qarI (a 29) (d 29) 8 f_stagePaid), (qarI (a 28) (d 28) 8 f_parts)] [((d 26), .int), ((d 27), .int), ((d 0), .int), ((d 30), .int), ((d 29), .int), ((d 28), .int)] sz)) (va_Qv (fun (u : Int32 × Int32 × Int32 × (Nat → Int32) × (Nat → Int32) × (Nat → Int32)) => match u with | (w_coin, w_loan, w_paidStages, g_paused, g_stagePaid, g_parts) => ((w_coin.toInt, w_loan.toInt, v_grown, w_paidStages, g_parts, g_stagePaid, g_paused) = byM (100 * (f_rule (5 : Int32).toNatClampNeg).toInt) v_begun.toInt f_cost f_length (v_coin.toInt, v_loan.toInt, v_grown, v_paidStages, f_parts, f_stagePaid, f_paused))) (cB G (fun u => match u with | (w_coin, w_loan, w_paidStages, g_paused, g_stagePaid, g_parts) => [(cMq a h v_taped v_size v_from v_behind v_hand v_value v_fault v_faultAt v_clock w_coin w_loan v_matched v_taxed w_paidStages v_grown v_pledges v_sums v_stages v_isStopped v_begun), (qarI (a 26) (d 26) 8 f_cost), (qarI (a 27) (d 27) 8 f_length), (qarI (a 0) (d 0) 9 f_rule), (qarI (a 30) (d 30) 8 g_paused), (qarI (a 29) (d 29) 8 g_stagePaid), (qarI (a 28) (d 28) 8 g_parts)]) (fun u => match u with | (w_coin, w_loan, w_paidStages, g_paused, g_stagePaid, g_parts) => []) (va_A [(cMq a h v_taped v_size v_from v_behind v_hand v_value v_fault v_faultAt v_clock v_coin v_loan v_matched v_taxed v_paidStages v_grown v_pledges v_sums v_stages v_isStopped v_begun), (qarI (a 26) (d 26) 8 f_cost), (qarI (a 27) (d 27) 8 f_length), (qarI (a 0) (d 0) 9 f_rule), (qarI (a 30) (d 30) 8 f_paused), (qarI (a 29) (d 29) 8 f_stagePaid), (qarI (a 28) (d 28) 8 f_parts)] sz)) (va_A [(cMq a h v_taped v_size v_from v_behind v_hand v_value v_fault v_faultAt v_clock v_coin v_loan v_matched v_taxed v_paidStages v_grown v_pledges v_sums v_stages v_isStopped v_begun), (qarI (a 26) (d 26) 8 f_cost), (qarI (a 27) (d 27) 8 f_length), (qarI (a 0) (d 0) 9 f_rule), (qarI (a 30) (d 30) 8 f_paused), (qarI (a 29) (d 29) 8 f_stagePaid), (qarI (a 28) (d 28) 8 f_parts)] sz)) 0 0 (va_A [(cMq a h v_taped v_size v_from v_behind v_hand v_value v_fault v_faultAt v_clock v_coin v_loan v_matched v_taxed v_paidStages v_grown v_pledges v_sums v_stages v_isStopped v_begun), (qarI (a 26) (d 26) 8 f_cost), (qarI (a 27) (d 27) 8 f_length), (qarI (a 0) (d 0) 9 f_rule), (qarI (a 30) (d 30) 8 f_paused), (qarI (a 29) (d 29) 8 f_stagePaid), (qarI (a 28) (d 28) 8 f_parts)] sz) := by
  refine ofC_v (cc := cX12_build) (maxL := 6) (ret := none) (by decide) rfl (Nat.le_of_ble_eq_true rfl) ?_
  intro p e s m args below meth c A ls Q F hr hin hlk St hl hQ
  have hx := F.1
  have hb := F.2.1
  have hl : lv_has ls 6 [(0, .ref h)] := hl
  have St : cS G k [(cMq a h v_taped v_size v_from v_behind v_hand v_value v_fault v_faultAt v_clock v_coin v_loan v_matched v_taxed v_paidStages v_grown v_pledges v_sums v_stages v_isStopped v_begun), (qarI (a 26) (d 26) 8 f_cost), (qarI (a 27) (d 27) 8 f_length), (qarI (a 0) (d 0) 9 f_rule), (qarI (a 30) (d 30) 8 f_paused), (qarI (a 29) (d 29) 8 f_stagePaid), (qarI (a 28) (d 28) 8 f_parts)] [((d 26), .int), ((d 27), .int), ((d 0), .int), ((d 30), .int), ((d 29), .int), ((d 28), .int)] A s s.heap [] := St
  have htd := hSt.1
  have y0 : (0 : Int32).toInt = 0 := by decide
  have hF0 := hF.1
  have hF1 := hF.2.1
  have hF2 := hF.2.2.1
  have hF3 := hF.2.2.2.1
  have hF4 := hF.2.2.2.2.1
  have hF5 := hF.2.2.2.2.2.1
  have hF6 := hF.2.2.2.2.2.2.1
  have hF7 := hF.2.2.2.2.2.2.2
  obtain ⟨hM0, hM1, hM2⟩ := id hwM
  have hs0 := hM2.1
  have hs1 := hM2.2.1 (v_begun.toInt.toNat - 1) (by omega)
  have hpb := ptS_bd hs1.1 hs1.2.1 ⟨hs1.2.2.1.1, hrn.2⟩
  have hq1 := hs1.1
  have hq2 := hs1.2.1
  have hbA : 0 ≤ ptA v_begun.toInt f_cost f_length f_parts ∧ ptA v_begun.toInt f_cost f_length f_parts ≤ 100000000 := ⟨hpb.1, hpb.2.1⟩
  refine lv_aload_n hx hb dX12_build_0 rfl (lv_at hl 0 rfl) ?_
  refine cs_get F St 0 rfl rfl inX12 50 (by decide) kf_X12_289 rfl dX12_build_1 ?_
  refine lv_iconst (v := 1) hx hb dX12_build_4 (by decide) ?_
  refine lv_isub hx hb dX12_build_5 ?_
  refine lv_topi (fun y_1 ey_1 => ?_)
  first | have jy_1 : y_1.toInt = v_begun.toInt - 1 := (by have q9 := ci_sub (x := v_begun) (y := 1) rfl (show (1 : Int32).toInt = 1 by decide) ey_1; omega) | have jy_1 := ci_sub (x := v_begun) (y := 1) rfl (show (1 : Int32).toInt = 1 by decide) ey_1
  have hiy : y_1.toNatClampNeg = v_begun.toInt.toNat - 1 := by have q9 := nc_int (x := y_1) (by omega); omega
  refine lv_istore_n (lv' := [(1, .int y_1), (0, .ref h)]) hx hb dX12_build_6 rfl hl (by decide) rfl (fun ls hl => ?_)
  refine lv_aload_n hx hb dX12_build_7 rfl (lv_at hl 1 rfl) ?_
  refine cs_get F St 0 rfl rfl inX12 45 (by decide) kf_X12_183 rfl dX12_build_8 ?_
  refine lv_iload_n hx hb dX12_build_11 rfl (lv_at hl 0 rfl) ?_
  refine cs_ild F St 1 0 rfl rfl (vp_in_iff.mpr ⟨by omega, by omega⟩) dX12_build_12 ?_
  refine lv_topi (fun y_2 ey_2 => ?_)
  have gy_2 := congrArg Int32.toInt ey_2
  rw [hiy] at gy_2
  refine lv_aload_n hx hb dX12_build_13 rfl (lv_at hl 1 rfl) ?_
  refine cs_get F St 0 rfl rfl inX12 46 (by decide) kf_X12_186 rfl dX12_build_14 ?_
  refine lv_iload_n hx hb dX12_build_17 rfl (lv_at hl 0 rfl) ?_
  refine cs_ild F St 2 1 rfl rfl (vp_in_iff.mpr ⟨by omega, by omega⟩) dX12_build_18 ?_
  refine lv_topi (fun y_3 ey_3 => ?_)
  have gy_3 := congrArg Int32.toInt ey_3
  have hdy_3 := mSt_l hSt (by omega) (by omega) ey_3
  rw [hiy] at gy_3
  refine lv_idiv hx hb dX12_build_19 (ne0_i hdy_3.1) ?_
  refine lv_topi (fun y_4 ey_4 => ?_)
  have jdv := ci_div (u := (f_cost (v_begun.toInt.toNat - 1)).toInt) (v := (f_length (v_begun.toInt.toNat - 1)).toInt) gy_2 gy_3 ey_4 (by omega) (by omega)
  refine lv_istore_n (lv' := [(2, .int y_4), (1, .int y_1), (0, .ref h)]) hx hb dX12_build_20 rfl hl (by decide) rfl (fun ls hl => ?_)
  refine lv_aload_n hx hb dX12_build_21 rfl (lv_at hl 2 rfl) ?_
  refine cs_get F St 0 rfl rfl inX12 47 (by decide) kf_X12_188 rfl dX12_build_22 ?_
  refine lv_iload_n hx hb dX12_build_25 rfl (lv_at hl 1 rfl) ?_
  refine cs_ild F St 6 5 rfl rfl (vp_in_iff.mpr ⟨by omega, by omega⟩) dX12_build_26 ?_
  refine lv_topi (fun y_5 ey_5 => ?_)
  have gy_5 := congrArg Int32.toInt ey_5
  rw [hiy] at gy_5
  refine lv_aload_n hx hb dX12_build_27 rfl (lv_at hl 2 rfl) ?_
  refine cs_get F St 0 rfl rfl inX12 46 (by decide) kf_X12_186 rfl dX12_build_28 ?_
  refine lv_iload_n hx hb dX12_build_31 rfl (lv_at hl 1 rfl) ?_
  refine cs_ild F St 2 1 rfl rfl (vp_in_iff.mpr ⟨by omega, by omega⟩) dX12_build_32 ?_
  refine lv_topi (fun y_6 ey_6 => ?_)
  have gy_6 := congrArg Int32.toInt ey_6
  have hdy_6 := mSt_l hSt (by omega) (by omega) ey_6
  rw [hiy] at gy_6
  refine lv_iconst (v := 1) hx hb dX12_build_33 (by decide) ?_
  refine lv_isub hx hb dX12_build_34 ?_
  refine lv_topi (fun y_7 ey_7 => ?_)
  first | have jy_7 : y_7.toInt = y_6.toInt - 1 := (by have q9 := ci_sub (x := y_6) (y := 1) rfl (show (1 : Int32).toInt = 1 by decide) ey_7; omega) | have jy_7 := ci_sub (x := y_6) (y := 1) rfl (show (1 : Int32).toInt = 1 by decide) ey_7
  refine lv_icmp_ne (tgt := 56) hx hb dX12_build_35 (by decide) (fun c35 => ?_) (fun c35 => ?_)
  ·
    have i35 := ci_ne (x := y_5) (y := y_7) rfl rfl c35
    refine lv_iload_n hx hb dX12_build_56 rfl (lv_at hl 0 rfl) ?_
    have hpt : y_4.toInt = ptA v_begun.toInt f_cost f_length f_parts := by
        show _ = ptS _ _ _
        unfold ptS
        first | (rw [if_pos (by omega)]; omega) | (rw [if_neg (by omega)]; omega)
    have hpe := i32_of hpt
    refine lv_istore_n (lv' := [(3, .int y_4), (2, .int y_4), (1, .int y_1), (0, .ref h)]) hx hb dX12_build_57 rfl hl (by decide) rfl (fun ls hl => ?_)
    refine lv_iconst (v := 0) hx hb dX12_build_58 (by decide) ?_
    refine lv_bipush (v := 100) hx hb dX12_build_59 (by decide) ?_
    refine lv_aload_n hx hb dX12_build_61 rfl (lv_at hl 3 rfl) ?_
    refine cs_get F St 0 rfl rfl inX12 0 (by decide) kf_X12_114 rfl dX12_build_62 ?_
    refine lv_iconst (v := 5) hx hb dX12_build_65 (by decide) ?_
    refine cs_ild F St 3 2 rfl rfl (vp_in_iff.mpr (by decide)) dX12_build_66 ?_
    refine lv_topi (fun y_8 ey_8 => ?_)
    have gy_8 := congrArg Int32.toInt ey_8
    refine lv_imul hx hb dX12_build_67 ?_
    refine lv_topi (fun y_9 ey_9 => ?_)
    first | have jy_9 : y_9.toInt = 100 * y_8.toInt := (by have q9 := ci_mul (x := 100) (y := y_8) (show (100 : Int32).toInt = 100 by decide) rfl ey_9; omega) | have jy_9 := ci_mul (x := 100) (y := y_8) (show (100 : Int32).toInt = 100 by decide) rfl ey_9
    refine lv_aload_n hx hb dX12_build_68 rfl (lv_at hl 3 rfl) ?_
    refine cs_get F St 0 rfl rfl inX12 15 (by decide) kf_X12_296 rfl dX12_build_69 ?_
    refine lv_isub hx hb dX12_build_72 ?_
    refine lv_topi (fun y_10 ey_10 => ?_)
    first | have jy_10 : y_10.toInt = y_9.toInt - v_loan.toInt := (by have q9 := ci_sub (x := y_9) (y := v_loan) rfl rfl ey_10; omega) | have jy_10 := ci_sub (x := y_9) (y := v_loan) rfl rfl ey_10
    refine va_mmax hx hb (F.2.2.1.trans hl.1.symm) F.2.2.2.1 (F.2.2.2.2 _ km_X12_259) (F.2.2.2.2 _ ks_J9_max_7cf53) (F.2.2.2.2 _ ki_J9) (F.2.2.2.2 _ kd_J9_max_7cf53) (Nat.le_of_ble_eq_true rfl) (Nat.le_of_ble_eq_true rfl) (Nat.le_of_ble_eq_true rfl) (Nat.le_of_ble_eq_true rfl) dX12_build_73 ?_
    refine lv_topi (fun y_11 ey_11 => ?_)
    have jy_11 := ci_max (x := 0) (y := y_10) (u := 0) (v := y_10.toInt) (by decide) rfl ey_11
    refine lv_istore (lv' := [(4, .int y_11), (3, .int y_4), (2, .int y_4), (1, .int y_1), (0, .ref h)]) hx hb dX12_build_76 hl (by decide) rfl (fun ls hl => ?_)
    refine lv_aload_n hx hb dX12_build_78 rfl (lv_at hl 4 rfl) ?_
    refine cs_get F St 0 rfl rfl inX12 14 (by decide) kf_X12_262 rfl dX12_build_79 ?_
    refine lv_i2l (v := v_coin.toInt64) hx hb dX12_build_82 rfl ?_
    refine lv_iload hx hb dX12_build_83 (lv_at hl 0 rfl) ?_
    refine lv_i2l (v := y_11.toInt64) hx hb dX12_build_85 rfl ?_
    refine lv_ladd hx hb dX12_build_86 ?_
    refine lv_topl (fun y_12 ey_12 => ?_)
    first | have jy_12 : y_12.toInt = v_coin.toInt + y_11.toInt := (by have q7 := ci_rng v_coin; have q8 := ci_rng y_11; have q9 := cl_add (x := v_coin.toInt64) (y := y_11.toInt64) (u := v_coin.toInt) (v := y_11.toInt) (Int32.toInt_toInt64 v_coin) (Int32.toInt_toInt64 y_11) ey_12; omega) | have jy_12 := cl_add (x := v_coin.toInt64) (y := y_11.toInt64) (u := v_coin.toInt) (v := y_11.toInt) (Int32.toInt_toInt64 v_coin) (Int32.toInt_toInt64 y_11) ey_12
    refine lv_iload_n hx hb dX12_build_87 rfl (lv_at hl 1 rfl) ?_
    refine lv_i2l (v := y_4.toInt64) hx hb dX12_build_88 rfl ?_
    refine W.lcmp hx hb dX12_build_89 ?_
    refine lv_if_ge (tgt := 104) hx hb dX12_build_90 (by decide) (fun c90 => ?_) (fun c90 => ?_)
    ·
      have i90 := cl_le (x := y_4.toInt64) (y := y_12) (u := y_4.toInt) (v := y_12.toInt) (Int32.toInt_toInt64 y_4) rfl ((lg_cmp_ge _ _).mp c90)
      refine lv_aload_n hx hb dX12_build_104 rfl (lv_at hl 4 rfl) ?_
      refine cs_get F St 0 rfl rfl inX12 14 (by decide) kf_X12_262 rfl dX12_build_105 ?_
      refine lv_iload_n hx hb dX12_build_108 rfl (lv_at hl 1 rfl) ?_
      refine va_mmin hx hb (F.2.2.1.trans hl.1.symm) F.2.2.2.1 (F.2.2.2.2 _ km_X12_254) (F.2.2.2.2 _ ks_J9_min_7cf53) (F.2.2.2.2 _ ki_J9) (F.2.2.2.2 _ kd_J9_min_7cf53) (Nat.le_of_ble_eq_true rfl) (Nat.le_of_ble_eq_true rfl) (Nat.le_of_ble_eq_true rfl) (Nat.le_of_ble_eq_true rfl) dX12_build_109 ?_
      refine lv_topi (fun y_13 ey_13 => ?_)
      have jy_13 := ci_min (x := v_coin) (y := y_4) (u := v_coin.toInt) (v := y_4.toInt) rfl rfl ey_13
      refine lv_istore (lv' := [(5, .int y_13), (4, .int y_11), (3, .int y_4), (2, .int y_4), (1, .int y_1), (0, .ref h)]) hx hb dX12_build_112 hl (by decide) rfl (fun ls hl => ?_)
      refine lv_aload_n hx hb dX12_build_114 rfl (lv_at hl 5 rfl) ?_
      refine lv_dup hx hb dX12_build_115 rfl ?_
      refine cs_get F St 0 rfl rfl inX12 14 (by decide) kf_X12_262 rfl dX12_build_116 ?_
      refine lv_iload hx hb dX12_build_119 (lv_at hl 0 rfl) ?_
      refine lv_isub hx hb dX12_build_121 ?_
      refine lv_topi (fun y_14 ey_14 => ?_)
      first | have jy_14 : y_14.toInt = v_coin.toInt - y_13.toInt := (by have q9 := ci_sub (x := v_coin) (y := y_13) rfl rfl ey_14; omega) | have jy_14 := ci_sub (x := v_coin) (y := y_13) rfl rfl ey_14
      refine cs_put F St 0 rfl rfl inX12 tyX12_ok nmX12 14 (by decide) kf_X12_262 rfl rfl rfl (Nat.le_of_ble_eq_true rfl) (w' := [(cMq a h v_taped v_size v_from v_behind v_hand v_value v_fault v_faultAt v_clock y_14 v_loan v_matched v_taxed v_paidStages v_grown v_pledges v_sums v_stages v_isStopped v_begun), (qarI (a 26) (d 26) 8 f_cost), (qarI (a 27) (d 27) 8 f_length), (qarI (a 0) (d 0) 9 f_rule), (qarI (a 30) (d 30) 8 f_paused), (qarI (a 29) (d 29) 8 f_stagePaid), (qarI (a 28) (d 28) 8 f_parts)]) rfl dX12_build_122 (fun H locs St => ?_)
      refine lv_aload_n hx hb dX12_build_125 rfl (lv_at hl 5 rfl) ?_
      refine lv_dup hx hb dX12_build_126 rfl ?_
      refine cs_get F St 0 rfl rfl inX12 15 (by decide) kf_X12_296 rfl dX12_build_127 ?_
      refine lv_iload_n hx hb dX12_build_130 rfl (lv_at hl 2 rfl) ?_
      refine lv_iload hx hb dX12_build_131 (lv_at hl 0 rfl) ?_
      refine lv_isub hx hb dX12_build_133 ?_
      refine lv_topi (fun y_15 ey_15 => ?_)
      first | have jy_15 : y_15.toInt = y_4.toInt - y_13.toInt := (by have q9 := ci_sub (x := y_4) (y := y_13) rfl rfl ey_15; omega) | have jy_15 := ci_sub (x := y_4) (y := y_13) rfl rfl ey_15
      refine lv_iadd hx hb dX12_build_134 ?_
      refine lv_topi (fun y_16 ey_16 => ?_)
      first | have jy_16 : y_16.toInt = v_loan.toInt + y_15.toInt := (by have q9 := ci_add (x := v_loan) (y := y_15) rfl rfl ey_16; omega) | have jy_16 := ci_add (x := v_loan) (y := y_15) rfl rfl ey_16
      refine cs_put F St 0 rfl rfl inX12 tyX12_ok nmX12 15 (by decide) kf_X12_296 rfl rfl rfl (Nat.le_of_ble_eq_true rfl) (w' := [(cMq a h v_taped v_size v_from v_behind v_hand v_value v_fault v_faultAt v_clock y_14 y_16 v_matched v_taxed v_paidStages v_grown v_pledges v_sums v_stages v_isStopped v_begun), (qarI (a 26) (d 26) 8 f_cost), (qarI (a 27) (d 27) 8 f_length), (qarI (a 0) (d 0) 9 f_rule), (qarI (a 30) (d 30) 8 f_paused), (qarI (a 29) (d 29) 8 f_stagePaid), (qarI (a 28) (d 28) 8 f_parts)]) rfl dX12_build_135 (fun H locs St => ?_)
      refine lv_aload_n hx hb dX12_build_138 rfl (lv_at hl 5 rfl) ?_
      refine lv_dup hx hb dX12_build_139 rfl ?_
      refine cs_get F St 0 rfl rfl inX12 18 (by decide) kf_X12_298 rfl dX12_build_140 ?_
      refine lv_iload_n hx hb dX12_build_143 rfl (lv_at hl 2 rfl) ?_
      refine lv_iadd hx hb dX12_build_144 ?_
      refine lv_topi (fun y_17 ey_17 => ?_)
      first | have jy_17 : y_17.toInt = v_paidStages.toInt + y_4.toInt := (by have q9 := ci_add (x := v_paidStages) (y := y_4) rfl rfl ey_17; omega) | have jy_17 := ci_add (x := v_paidStages) (y := y_4) rfl rfl ey_17
      skip
      refine cs_put F St 0 rfl rfl inX12 tyX12_ok nmX12 18 (by decide) kf_X12_298 rfl rfl rfl (Nat.le_of_ble_eq_true rfl) (w' := [(cMq a h v_taped v_size v_from v_behind v_hand v_value v_fault v_faultAt v_clock y_14 y_16 v_matched v_taxed y_17 v_grown v_pledges v_sums v_stages v_isStopped v_begun), (qarI (a 26) (d 26) 8 f_cost), (qarI (a 27) (d 27) 8 f_length), (qarI (a 0) (d 0) 9 f_rule), (qarI (a 30) (d 30) 8 f_paused), (qarI (a 29) (d 29) 8 f_stagePaid), (qarI (a 28) (d 28) 8 f_parts)]) rfl dX12_build_145 (fun H locs St => ?_)
      refine lv_aload_n hx hb dX12_build_148 rfl (lv_at hl 5 rfl) ?_
      refine cs_get F St 0 rfl rfl inX12 48 (by decide) kf_X12_191 rfl dX12_build_149 ?_
      refine lv_iload_n hx hb dX12_build_152 rfl (lv_at hl 4 rfl) ?_
      refine lv_dup2_11 hx hb dX12_build_153 rfl rfl ?_
      refine cs_ild F St 5 4 rfl rfl (vp_in_iff.mpr ⟨by omega, by omega⟩) dX12_build_154 ?_
      refine lv_topi (fun y_18 ey_18 => ?_)
      have gy_18 := congrArg Int32.toInt ey_18
      refine lv_iload_n hx hb dX12_build_155 rfl (lv_at hl 2 rfl) ?_
      refine lv_iadd hx hb dX12_build_156 ?_
      refine lv_topi (fun y_19 ey_19 => ?_)
      first | have jy_19 : y_19.toInt = y_18.toInt + y_4.toInt := (by have q9 := ci_add (x := y_18) (y := y_4) rfl rfl ey_19; omega) | have jy_19 := ci_add (x := y_18) (y := y_4) rfl rfl ey_19
      skip
      refine cs_ist F St 5 4 rfl rfl (vp_in_iff.mpr ⟨by omega, by omega⟩) (w' := [(cMq a h v_taped v_size v_from v_behind v_hand v_value v_fault v_faultAt v_clock y_14 y_16 v_matched v_taxed y_17 v_grown v_pledges v_sums v_stages v_isStopped v_begun), (qarI (a 26) (d 26) 8 f_cost), (qarI (a 27) (d 27) 8 f_length), (qarI (a 0) (d 0) 9 f_rule), (qarI (a 30) (d 30) 8 f_paused), (qarI (a 29) (d 29) 8 (upd f_stagePaid (y_1 : Int32).toNatClampNeg y_19)), (qarI (a 28) (d 28) 8 f_parts)]) rfl dX12_build_157 (fun H locs St => ?_)
      obtain ⟨f_20, ef_20⟩ : ∃ zz : Nat → Int32, zz = upd f_stagePaid (y_1 : Int32).toNatClampNeg y_19 := ⟨_, rfl⟩
      rw [← ef_20] at St
      refine lv_aload_n hx hb dX12_build_158 rfl (lv_at hl 5 rfl) ?_
      refine cs_get F St 0 rfl rfl inX12 47 (by decide) kf_X12_188 rfl dX12_build_159 ?_
      refine lv_iload_n hx hb dX12_build_162 rfl (lv_at hl 4 rfl) ?_
      refine lv_dup2_11 hx hb dX12_build_163 rfl rfl ?_
      refine cs_ild F St 6 5 rfl rfl (vp_in_iff.mpr ⟨by omega, by omega⟩) dX12_build_164 ?_
      refine lv_topi (fun y_21 ey_21 => ?_)
      have gy_21 := congrArg Int32.toInt ey_21
      refine lv_iconst (v := 1) hx hb dX12_build_165 (by decide) ?_
      refine lv_iadd hx hb dX12_build_166 ?_
      refine lv_topi (fun y_22 ey_22 => ?_)
      first | have jy_22 : y_22.toInt = y_21.toInt + 1 := (by have q9 := ci_add (x := y_21) (y := 1) rfl (show (1 : Int32).toInt = 1 by decide) ey_22; omega) | have jy_22 := ci_add (x := y_21) (y := 1) rfl (show (1 : Int32).toInt = 1 by decide) ey_22
      skip
      refine cs_ist F St 6 5 rfl rfl (vp_in_iff.mpr ⟨by omega, by omega⟩) (w' := [(cMq a h v_taped v_size v_from v_behind v_hand v_value v_fault v_faultAt v_clock y_14 y_16 v_matched v_taxed y_17 v_grown v_pledges v_sums v_stages v_isStopped v_begun), (qarI (a 26) (d 26) 8 f_cost), (qarI (a 27) (d 27) 8 f_length), (qarI (a 0) (d 0) 9 f_rule), (qarI (a 30) (d 30) 8 f_paused), (qarI (a 29) (d 29) 8 f_20), (qarI (a 28) (d 28) 8 (upd f_parts (y_1 : Int32).toNatClampNeg y_22))]) rfl dX12_build_167 (fun H locs St => ?_)
      obtain ⟨f_23, ef_23⟩ : ∃ zz : Nat → Int32, zz = upd f_parts (y_1 : Int32).toNatClampNeg y_22 := ⟨_, rfl⟩
      rw [← ef_23] at St
      exact cs_vret F hr hlk hQ St (y_14, y_16, y_17, f_paused, f_20, f_23) (by_paid hrn (pa_n (by omega) (by omega)) (by rw [ey_17, hpe]) (by rw [ef_23, ey_22, ey_21, hiy]) (by rw [ef_20, ey_19, ey_18, hiy, hpe])) [0, 1, 2, 3, 4, 5, 6] rfl (by decide) [] rfl (by decide) (by decide) dX12_build_168
    ·
      have i90 := cl_nle (x := y_4.toInt64) (y := y_12) (u := y_4.toInt) (v := y_12.toInt) (Int32.toInt_toInt64 y_4) rfl (fun q => c90 ((lg_cmp_ge _ _).mpr q))
      refine lv_aload_n hx hb dX12_build_93 rfl (lv_at hl 4 rfl) ?_
      refine cs_get F St 0 rfl rfl inX12 49 (by decide) kf_X12_194 rfl dX12_build_94 ?_
      refine lv_iload_n hx hb dX12_build_97 rfl (lv_at hl 3 rfl) ?_
      refine lv_dup2_11 hx hb dX12_build_98 rfl rfl ?_
      refine cs_ild F St 4 3 rfl rfl (vp_in_iff.mpr ⟨by omega, by omega⟩) dX12_build_99 ?_
      refine lv_topi (fun y_24 ey_24 => ?_)
      have gy_24 := congrArg Int32.toInt ey_24
      refine lv_iconst (v := 1) hx hb dX12_build_100 (by decide) ?_
      refine lv_iadd hx hb dX12_build_101 ?_
      refine lv_topi (fun y_25 ey_25 => ?_)
      first | have jy_25 : y_25.toInt = y_24.toInt + 1 := (by have q9 := ci_add (x := y_24) (y := 1) rfl (show (1 : Int32).toInt = 1 by decide) ey_25; omega) | have jy_25 := ci_add (x := y_24) (y := 1) rfl (show (1 : Int32).toInt = 1 by decide) ey_25
      skip
      refine cs_ist F St 4 3 rfl rfl (vp_in_iff.mpr ⟨by omega, by omega⟩) (w' := [(cMq a h v_taped v_size v_from v_behind v_hand v_value v_fault v_faultAt v_clock v_coin v_loan v_matched v_taxed v_paidStages v_grown v_pledges v_sums v_stages v_isStopped v_begun), (qarI (a 26) (d 26) 8 f_cost), (qarI (a 27) (d 27) 8 f_length), (qarI (a 0) (d 0) 9 f_rule), (qarI (a 30) (d 30) 8 (upd f_paused (y_1 : Int32).toNatClampNeg y_25)), (qarI (a 29) (d 29) 8 f_stagePaid), (qarI (a 28) (d 28) 8 f_parts)]) rfl dX12_build_102 (fun H locs St => ?_)
      obtain ⟨f_26, ef_26⟩ : ∃ zz : Nat → Int32, zz = upd f_paused (y_1 : Int32).toNatClampNeg y_25 := ⟨_, rfl⟩
      rw [← ef_26] at St
      exact cs_vret F hr hlk hQ St (v_coin, v_loan, v_paidStages, f_26, f_stagePaid, f_parts) (by_pause hrn (pa_y (by omega)).1 (by rw [ef_26, ey_25, ey_24, hiy])) [0, 1, 2, 3, 4, 5, 6] rfl (by decide) [] rfl (by decide) (by decide) dX12_build_103
  ·
    have i35 := ci_eq (x := y_5) (y := y_7) rfl rfl c35
    refine lv_aload_n hx hb dX12_build_38 rfl (lv_at hl 2 rfl) ?_
    refine cs_get F St 0 rfl rfl inX12 45 (by decide) kf_X12_183 rfl dX12_build_39 ?_
    refine lv_iload_n hx hb dX12_build_42 rfl (lv_at hl 1 rfl) ?_
    refine cs_ild F St 1 0 rfl rfl (vp_in_iff.mpr ⟨by omega, by omega⟩) dX12_build_43 ?_
    refine lv_topi (fun y_27 ey_27 => ?_)
    have gy_27 := congrArg Int32.toInt ey_27
    rw [hiy] at gy_27
    refine lv_iload_n hx hb dX12_build_44 rfl (lv_at hl 0 rfl) ?_
    refine lv_aload_n hx hb dX12_build_45 rfl (lv_at hl 2 rfl) ?_
    refine cs_get F St 0 rfl rfl inX12 47 (by decide) kf_X12_188 rfl dX12_build_46 ?_
    refine lv_iload_n hx hb dX12_build_49 rfl (lv_at hl 1 rfl) ?_
    refine cs_ild F St 6 5 rfl rfl (vp_in_iff.mpr ⟨by omega, by omega⟩) dX12_build_50 ?_
    refine lv_topi (fun y_28 ey_28 => ?_)
    have gy_28 := congrArg Int32.toInt ey_28
    rw [hiy] at gy_28
    refine lv_imul hx hb dX12_build_51 ?_
    refine lv_topi (fun y_29 ey_29 => ?_)
    have jmu : y_29.toInt = (f_cost (v_begun.toInt.toNat - 1)).toInt / (f_length (v_begun.toInt.toNat - 1)).toInt * (f_parts (v_begun.toInt.toNat - 1)).toInt := by have q9 := ci_mul (u := (f_cost (v_begun.toInt.toNat - 1)).toInt / (f_length (v_begun.toInt.toNat - 1)).toInt) (v := (f_parts (v_begun.toInt.toNat - 1)).toInt) jdv gy_28 ey_29; omega
    refine lv_isub hx hb dX12_build_52 ?_
    refine lv_topi (fun y_30 ey_30 => ?_)
    first | have jy_30 : y_30.toInt = y_27.toInt - y_29.toInt := (by have q9 := ci_sub (x := y_27) (y := y_29) rfl rfl ey_30; omega) | have jy_30 := ci_sub (x := y_27) (y := y_29) rfl rfl ey_30
    refine lv_goto (tgt := 57) hx hb dX12_build_53 (by decide) ?_
    have hpt : y_30.toInt = ptA v_begun.toInt f_cost f_length f_parts := by
        show _ = ptS _ _ _
        unfold ptS
        first | (rw [if_pos (by omega)]; omega) | (rw [if_neg (by omega)]; omega)
    have hpe := i32_of hpt
    refine lv_istore_n (lv' := [(3, .int y_30), (2, .int y_4), (1, .int y_1), (0, .ref h)]) hx hb dX12_build_57 rfl hl (by decide) rfl (fun ls hl => ?_)
    refine lv_iconst (v := 0) hx hb dX12_build_58 (by decide) ?_
    refine lv_bipush (v := 100) hx hb dX12_build_59 (by decide) ?_
    refine lv_aload_n hx hb dX12_build_61 rfl (lv_at hl 3 rfl) ?_
    refine cs_get F St 0 rfl rfl inX12 0 (by decide) kf_X12_114 rfl dX12_build_62 ?_
    refine lv_iconst (v := 5) hx hb dX12_build_65 (by decide) ?_
    refine cs_ild F St 3 2 rfl rfl (vp_in_iff.mpr (by decide)) dX12_build_66 ?_
    refine lv_topi (fun y_31 ey_31 => ?_)
    have gy_31 := congrArg Int32.toInt ey_31
    refine lv_imul hx hb dX12_build_67 ?_
    refine lv_topi (fun y_32 ey_32 => ?_)
    first | have jy_32 : y_32.toInt = 100 * y_31.toInt := (by have q9 := ci_mul (x := 100) (y := y_31) (show (100 : Int32).toInt = 100 by decide) rfl ey_32; omega) | have jy_32 := ci_mul (x := 100) (y := y_31) (show (100 : Int32).toInt = 100 by decide) rfl ey_32
    refine lv_aload_n hx hb dX12_build_68 rfl (lv_at hl 3 rfl) ?_
    refine cs_get F St 0 rfl rfl inX12 15 (by decide) kf_X12_296 rfl dX12_build_69 ?_
    refine lv_isub hx hb dX12_build_72 ?_
    refine lv_topi (fun y_33 ey_33 => ?_)
    first | have jy_33 : y_33.toInt = y_32.toInt - v_loan.toInt := (by have q9 := ci_sub (x := y_32) (y := v_loan) rfl rfl ey_33; omega) | have jy_33 := ci_sub (x := y_32) (y := v_loan) rfl rfl ey_33
    refine va_mmax hx hb (F.2.2.1.trans hl.1.symm) F.2.2.2.1 (F.2.2.2.2 _ km_X12_259) (F.2.2.2.2 _ ks_J9_max_7cf53) (F.2.2.2.2 _ ki_J9) (F.2.2.2.2 _ kd_J9_max_7cf53) (Nat.le_of_ble_eq_true rfl) (Nat.le_of_ble_eq_true rfl) (Nat.le_of_ble_eq_true rfl) (Nat.le_of_ble_eq_true rfl) dX12_build_73 ?_
    refine lv_topi (fun y_34 ey_34 => ?_)
    have jy_34 := ci_max (x := 0) (y := y_33) (u := 0) (v := y_33.toInt) (by decide) rfl ey_34
    refine lv_istore (lv' := [(4, .int y_34), (3, .int y_30), (2, .int y_4), (1, .int y_1), (0, .ref h)]) hx hb dX12_build_76 hl (by decide) rfl (fun ls hl => ?_)
    refine lv_aload_n hx hb dX12_build_78 rfl (lv_at hl 4 rfl) ?_
    refine cs_get F St 0 rfl rfl inX12 14 (by decide) kf_X12_262 rfl dX12_build_79 ?_
    refine lv_i2l (v := v_coin.toInt64) hx hb dX12_build_82 rfl ?_
    refine lv_iload hx hb dX12_build_83 (lv_at hl 0 rfl) ?_
    refine lv_i2l (v := y_34.toInt64) hx hb dX12_build_85 rfl ?_
    refine lv_ladd hx hb dX12_build_86 ?_
    refine lv_topl (fun y_35 ey_35 => ?_)
    first | have jy_35 : y_35.toInt = v_coin.toInt + y_34.toInt := (by have q7 := ci_rng v_coin; have q8 := ci_rng y_34; have q9 := cl_add (x := v_coin.toInt64) (y := y_34.toInt64) (u := v_coin.toInt) (v := y_34.toInt) (Int32.toInt_toInt64 v_coin) (Int32.toInt_toInt64 y_34) ey_35; omega) | have jy_35 := cl_add (x := v_coin.toInt64) (y := y_34.toInt64) (u := v_coin.toInt) (v := y_34.toInt) (Int32.toInt_toInt64 v_coin) (Int32.toInt_toInt64 y_34) ey_35
    refine lv_iload_n hx hb dX12_build_87 rfl (lv_at hl 1 rfl) ?_
    refine lv_i2l (v := y_30.toInt64) hx hb dX12_build_88 rfl ?_
    refine W.lcmp hx hb dX12_build_89 ?_
    refine lv_if_ge (tgt := 104) hx hb dX12_build_90 (by decide) (fun c90 => ?_) (fun c90 => ?_)
    ·
      have i90 := cl_le (x := y_30.toInt64) (y := y_35) (u := y_30.toInt) (v := y_35.toInt) (Int32.toInt_toInt64 y_30) rfl ((lg_cmp_ge _ _).mp c90)
      refine lv_aload_n hx hb dX12_build_104 rfl (lv_at hl 4 rfl) ?_
      refine cs_get F St 0 rfl rfl inX12 14 (by decide) kf_X12_262 rfl dX12_build_105 ?_
      refine lv_iload_n hx hb dX12_build_108 rfl (lv_at hl 1 rfl) ?_
      refine va_mmin hx hb (F.2.2.1.trans hl.1.symm) F.2.2.2.1 (F.2.2.2.2 _ km_X12_254) (F.2.2.2.2 _ ks_J9_min_7cf53) (F.2.2.2.2 _ ki_J9) (F.2.2.2.2 _ kd_J9_min_7cf53) (Nat.le_of_ble_eq_true rfl) (Nat.le_of_ble_eq_true rfl) (Nat.le_of_ble_eq_true rfl) (Nat.le_of_ble_eq_true rfl) dX12_build_109 ?_
      refine lv_topi (fun y_36 ey_36 => ?_)
      have jy_36 := ci_min (x := v_coin) (y := y_30) (u := v_coin.toInt) (v := y_30.toInt) rfl rfl ey_36
      refine lv_istore (lv' := [(5, .int y_36), (4, .int y_34), (3, .int y_30), (2, .int y_4), (1, .int y_1), (0, .ref h)]) hx hb dX12_build_112 hl (by decide) rfl (fun ls hl => ?_)
      refine lv_aload_n hx hb dX12_build_114 rfl (lv_at hl 5 rfl) ?_
      refine lv_dup hx hb dX12_build_115 rfl ?_
      refine cs_get F St 0 rfl rfl inX12 14 (by decide) kf_X12_262 rfl dX12_build_116 ?_
      refine lv_iload hx hb dX12_build_119 (lv_at hl 0 rfl) ?_
      refine lv_isub hx hb dX12_build_121 ?_
      refine lv_topi (fun y_37 ey_37 => ?_)
      first | have jy_37 : y_37.toInt = v_coin.toInt - y_36.toInt := (by have q9 := ci_sub (x := v_coin) (y := y_36) rfl rfl ey_37; omega) | have jy_37 := ci_sub (x := v_coin) (y := y_36) rfl rfl ey_37
      refine cs_put F St 0 rfl rfl inX12 tyX12_ok nmX12 14 (by decide) kf_X12_262 rfl rfl rfl (Nat.le_of_ble_eq_true rfl) (w' := [(cMq a h v_taped v_size v_from v_behind v_hand v_value v_fault v_faultAt v_clock y_37 v_loan v_matched v_taxed v_paidStages v_grown v_pledges v_sums v_stages v_isStopped v_begun), (qarI (a 26) (d 26) 8 f_cost), (qarI (a 27) (d 27) 8 f_length), (qarI (a 0) (d 0) 9 f_rule), (qarI (a 30) (d 30) 8 f_paused), (qarI (a 29) (d 29) 8 f_stagePaid), (qarI (a 28) (d 28) 8 f_parts)]) rfl dX12_build_122 (fun H locs St => ?_)
      refine lv_aload_n hx hb dX12_build_125 rfl (lv_at hl 5 rfl) ?_
      refine lv_dup hx hb dX12_build_126 rfl ?_
      refine cs_get F St 0 rfl rfl inX12 15 (by decide) kf_X12_296 rfl dX12_build_127 ?_
      refine lv_iload_n hx hb dX12_build_130 rfl (lv_at hl 2 rfl) ?_
      refine lv_iload hx hb dX12_build_131 (lv_at hl 0 rfl) ?_
      refine lv_isub hx hb dX12_build_133 ?_
      refine lv_topi (fun y_38 ey_38 => ?_)
      first | have jy_38 : y_38.toInt = y_30.toInt - y_36.toInt := (by have q9 := ci_sub (x := y_30) (y := y_36) rfl rfl ey_38; omega) | have jy_38 := ci_sub (x := y_30) (y := y_36) rfl rfl ey_38
      refine lv_iadd hx hb dX12_build_134 ?_
      refine lv_topi (fun y_39 ey_39 => ?_)
      first | have jy_39 : y_39.toInt = v_loan.toInt + y_38.toInt := (by have q9 := ci_add (x := v_loan) (y := y_38) rfl rfl ey_39; omega) | have jy_39 := ci_add (x := v_loan) (y := y_38) rfl rfl ey_39
      refine cs_put F St 0 rfl rfl inX12 tyX12_ok nmX12 15 (by decide) kf_X12_296 rfl rfl rfl (Nat.le_of_ble_eq_true rfl) (w' := [(cMq a h v_taped v_size v_from v_behind v_hand v_value v_fault v_faultAt v_clock y_37 y_39 v_matched v_taxed v_paidStages v_grown v_pledges v_sums v_stages v_isStopped v_begun), (qarI (a 26) (d 26) 8 f_cost), (qarI (a 27) (d 27) 8 f_length), (qarI (a 0) (d 0) 9 f_rule), (qarI (a 30) (d 30) 8 f_paused), (qarI (a 29) (d 29) 8 f_stagePaid), (qarI (a 28) (d 28) 8 f_parts)]) rfl dX12_build_135 (fun H locs St => ?_)
      refine lv_aload_n hx hb dX12_build_138 rfl (lv_at hl 5 rfl) ?_
      refine lv_dup hx hb dX12_build_139 rfl ?_
      refine cs_get F St 0 rfl rfl inX12 18 (by decide) kf_X12_298 rfl dX12_build_140 ?_
      refine lv_iload_n hx hb dX12_build_143 rfl (lv_at hl 2 rfl) ?_
      refine lv_iadd hx hb dX12_build_144 ?_
      refine lv_topi (fun y_40 ey_40 => ?_)
      first | have jy_40 : y_40.toInt = v_paidStages.toInt + y_30.toInt := (by have q9 := ci_add (x := v_paidStages) (y := y_30) rfl rfl ey_40; omega) | have jy_40 := ci_add (x := v_paidStages) (y := y_30) rfl rfl ey_40
      skip
      refine cs_put F St 0 rfl rfl inX12 tyX12_ok nmX12 18 (by decide) kf_X12_298 rfl rfl rfl (Nat.le_of_ble_eq_true rfl) (w' := [(cMq a h v_taped v_size v_from v_behind v_hand v_value v_fault v_faultAt v_clock y_37 y_39 v_matched v_taxed y_40 v_grown v_pledges v_sums v_stages v_isStopped v_begun), (qarI (a 26) (d 26) 8 f_cost), (qarI (a 27) (d 27) 8 f_length), (qarI (a 0) (d 0) 9 f_rule), (qarI (a 30) (d 30) 8 f_paused), (qarI (a 29) (d 29) 8 f_stagePaid), (qarI (a 28) (d 28) 8 f_parts)]) rfl dX12_build_145 (fun H locs St => ?_)
      refine lv_aload_n hx hb dX12_build_148 rfl (lv_at hl 5 rfl) ?_
      refine cs_get F St 0 rfl rfl inX12 48 (by decide) kf_X12_191 rfl dX12_build_149 ?_
      refine lv_iload_n hx hb dX12_build_152 rfl (lv_at hl 4 rfl) ?_
      refine lv_dup2_11 hx hb dX12_build_153 rfl rfl ?_
      refine cs_ild F St 5 4 rfl rfl (vp_in_iff.mpr ⟨by omega, by omega⟩) dX12_build_154 ?_
      refine lv_topi (fun y_41 ey_41 => ?_)
      have gy_41 := congrArg Int32.toInt ey_41
      refine lv_iload_n hx hb dX12_build_155 rfl (lv_at hl 2 rfl) ?_
      refine lv_iadd hx hb dX12_build_156 ?_
      refine lv_topi (fun y_42 ey_42 => ?_)
      first | have jy_42 : y_42.toInt = y_41.toInt + y_30.toInt := (by have q9 := ci_add (x := y_41) (y := y_30) rfl rfl ey_42; omega) | have jy_42 := ci_add (x := y_41) (y := y_30) rfl rfl ey_42
      skip
      refine cs_ist F St 5 4 rfl rfl (vp_in_iff.mpr ⟨by omega, by omega⟩) (w' := [(cMq a h v_taped v_size v_from v_behind v_hand v_value v_fault v_faultAt v_clock y_37 y_39 v_matched v_taxed y_40 v_grown v_pledges v_sums v_stages v_isStopped v_begun), (qarI (a 26) (d 26) 8 f_cost), (qarI (a 27) (d 27) 8 f_length), (qarI (a 0) (d 0) 9 f_rule), (qarI (a 30) (d 30) 8 f_paused), (qarI (a 29) (d 29) 8 (upd f_stagePaid (y_1 : Int32).toNatClampNeg y_42)), (qarI (a 28) (d 28) 8 f_parts)]) rfl dX12_build_157 (fun H locs St => ?_)
      obtain ⟨f_43, ef_43⟩ : ∃ zz : Nat → Int32, zz = upd f_stagePaid (y_1 : Int32).toNatClampNeg y_42 := ⟨_, rfl⟩
      rw [← ef_43] at St
      refine lv_aload_n hx hb dX12_build_158 rfl (lv_at hl 5 rfl) ?_
      refine cs_get F St 0 rfl rfl inX12 47 (by decide) kf_X12_188 rfl dX12_build_159 ?_
      refine lv_iload_n hx hb dX12_build_162 rfl (lv_at hl 4 rfl) ?_
      refine lv_dup2_11 hx hb dX12_build_163 rfl rfl ?_
      refine cs_ild F St 6 5 rfl rfl (vp_in_iff.mpr ⟨by omega, by omega⟩) dX12_build_164 ?_
      refine lv_topi (fun y_44 ey_44 => ?_)
      have gy_44 := congrArg Int32.toInt ey_44
      refine lv_iconst (v := 1) hx hb dX12_build_165 (by decide) ?_
      refine lv_iadd hx hb dX12_build_166 ?_
      refine lv_topi (fun y_45 ey_45 => ?_)
      first | have jy_45 : y_45.toInt = y_44.toInt + 1 := (by have q9 := ci_add (x := y_44) (y := 1) rfl (show (1 : Int32).toInt = 1 by decide) ey_45; omega) | have jy_45 := ci_add (x := y_44) (y := 1) rfl (show (1 : Int32).toInt = 1 by decide) ey_45
      skip
      refine cs_ist F St 6 5 rfl rfl (vp_in_iff.mpr ⟨by omega, by omega⟩) (w' := [(cMq a h v_taped v_size v_from v_behind v_hand v_value v_fault v_faultAt v_clock y_37 y_39 v_matched v_taxed y_40 v_grown v_pledges v_sums v_stages v_isStopped v_begun), (qarI (a 26) (d 26) 8 f_cost), (qarI (a 27) (d 27) 8 f_length), (qarI (a 0) (d 0) 9 f_rule), (qarI (a 30) (d 30) 8 f_paused), (qarI (a 29) (d 29) 8 f_43), (qarI (a 28) (d 28) 8 (upd f_parts (y_1 : Int32).toNatClampNeg y_45))]) rfl dX12_build_167 (fun H locs St => ?_)
      obtain ⟨f_46, ef_46⟩ : ∃ zz : Nat → Int32, zz = upd f_parts (y_1 : Int32).toNatClampNeg y_45 := ⟨_, rfl⟩
      rw [← ef_46] at St
      exact cs_vret F hr hlk hQ St (y_37, y_39, y_40, f_paused, f_43, f_46) (by_paid hrn (pa_n (by omega) (by omega)) (by rw [ey_40, hpe]) (by rw [ef_46, ey_45, ey_44, hiy]) (by rw [ef_43, ey_42, ey_41, hiy, hpe])) [0, 1, 2, 3, 4, 5, 6] rfl (by decide) [] rfl (by decide) (by decide) dX12_build_168
    ·
      have i90 := cl_nle (x := y_30.toInt64) (y := y_35) (u := y_30.toInt) (v := y_35.toInt) (Int32.toInt_toInt64 y_30) rfl (fun q => c90 ((lg_cmp_ge _ _).mpr q))
      refine lv_aload_n hx hb dX12_build_93 rfl (lv_at hl 4 rfl) ?_
      refine cs_get F St 0 rfl rfl inX12 49 (by decide) kf_X12_194 rfl dX12_build_94 ?_
      refine lv_iload_n hx hb dX12_build_97 rfl (lv_at hl 3 rfl) ?_
      refine lv_dup2_11 hx hb dX12_build_98 rfl rfl ?_
      refine cs_ild F St 4 3 rfl rfl (vp_in_iff.mpr ⟨by omega, by omega⟩) dX12_build_99 ?_
      refine lv_topi (fun y_47 ey_47 => ?_)
      have gy_47 := congrArg Int32.toInt ey_47
      refine lv_iconst (v := 1) hx hb dX12_build_100 (by decide) ?_
      refine lv_iadd hx hb dX12_build_101 ?_
      refine lv_topi (fun y_48 ey_48 => ?_)
      first | have jy_48 : y_48.toInt = y_47.toInt + 1 := (by have q9 := ci_add (x := y_47) (y := 1) rfl (show (1 : Int32).toInt = 1 by decide) ey_48; omega) | have jy_48 := ci_add (x := y_47) (y := 1) rfl (show (1 : Int32).toInt = 1 by decide) ey_48
      skip
      refine cs_ist F St 4 3 rfl rfl (vp_in_iff.mpr ⟨by omega, by omega⟩) (w' := [(cMq a h v_taped v_size v_from v_behind v_hand v_value v_fault v_faultAt v_clock v_coin v_loan v_matched v_taxed v_paidStages v_grown v_pledges v_sums v_stages v_isStopped v_begun), (qarI (a 26) (d 26) 8 f_cost), (qarI (a 27) (d 27) 8 f_length), (qarI (a 0) (d 0) 9 f_rule), (qarI (a 30) (d 30) 8 (upd f_paused (y_1 : Int32).toNatClampNeg y_48)), (qarI (a 29) (d 29) 8 f_stagePaid), (qarI (a 28) (d 28) 8 f_parts)]) rfl dX12_build_102 (fun H locs St => ?_)
      obtain ⟨f_49, ef_49⟩ : ∃ zz : Nat → Int32, zz = upd f_paused (y_1 : Int32).toNatClampNeg y_48 := ⟨_, rfl⟩
      rw [← ef_49] at St
      exact cs_vret F hr hlk hQ St (v_coin, v_loan, v_paidStages, f_49, f_stagePaid, f_parts) (by_pause hrn (pa_y (by omega)).1 (by rw [ef_49, ey_48, ey_47, hiy])) [0, 1, 2, 3, 4, 5, 6] rfl (by decide) [] rfl (by decide) (by decide) dX12_build_103
set_option maxHeartbeats 4000000 in
set_option maxRecDepth 100000 in
theorem e12_endMonth (l : Launch) (G : va_G) (k : Nat → Nat) (sz : Nat) (h : Nat) (a : Nat → Nat) (d : Nat → ClassId) (v_taped : Int32) (v_size : Int32) (v_from : Int32) (v_behind : Int32) (v_hand : Int32) (v_value : Int32) (v_fault : Int32) (v_faultAt : Int32) (v_clock : Int32) (v_coin : Int32) (v_loan : Int32) (v_matched : Int32) (v_taxed : Int32) (v_paidStages : Int32) (v_grown : Int32) (v_pledges : Int32) (v_sums : Int32) (v_stages : Int32) (v_isStopped : Int32) (v_begun : Int32) (f_rule : Nat → Int32) (f_cost : Nat → Int32) (f_length : Nat → Int32) (f_giver : Nat → Int32) (f_isLapsed : Nat → Int32) (f_wasTakenUp : Nat → Int32) (f_first : Nat → Int32) (f_every : Nat → Int32) (f_dues : Nat → Int32) (f_due : Nat → Int32) (f_filled : Nat → Int32) (f_isThere : Nat → Int32) (f_counts : Nat → Int32) (f_lapsedAt : Nat → Int32) (f_paused : Nat → Int32) (f_stagePaid : Nat → Int32) (f_parts : Nat → Int32) (hPd : mPd v_pledges f_dues) (hSt : mSt v_stages v_begun f_length) (hc0 : 0 ≤ v_clock.toInt) (hc1 : v_clock.toInt ≤ 119) (hF : rbd f_rule) (cbd : Int) (lo9 : Int) (hcbd : cbd ≤ 2000000000) (hl9 : lo9 ≤ 400000000) (hwM : wfM v_stages.toInt v_begun.toInt f_cost f_length cbd lo9 (v_coin.toInt, v_loan.toInt, v_grown, v_paidStages, f_parts, f_stagePaid, f_paused)) (hl8 : 99999900 ≤ lo9) (hl7 : lo9 ≤ 330000000) (tP : Nat → Pl9) (hM : mR v_pledges (tP) f_giver f_isLapsed f_wasTakenUp f_first f_every f_dues f_due f_filled f_isThere f_counts) (hA : wfA v_pledges v_clock.toInt tP) : Met l yX12_endMonth (Cond.code yX12_endMonth cX12_endMonth 3 none :: tb) ({ frames := 3, cells := 0, slots := 0, locals := 68 } : Room) (va_Pc [.ref h] (cP G k [(cMq a h v_taped v_size v_from v_behind v_hand v_value v_fault v_faultAt v_clock v_coin v_loan v_matched v_taxed v_paidStages v_grown v_pledges v_sums v_stages v_isStopped v_begun), (qarI (a 0) (d 0) 9 f_rule), (qarI (a 26) (d 26) 8 f_cost), (qarI (a 27) (d 27) 8 f_length), (qarI (a 10) (d 10) 60 f_giver), (qarI (a 16) (d 16) 60 f_isLapsed), (qarI (a 17) (d 17) 60 f_wasTakenUp), (qarI (a 12) (d 12) 60 f_first), (qarI (a 13) (d 13) 60 f_every), (qarI (a 14) (d 14) 60 f_dues), (qarI (a 18) (d 18) 5040 f_due), (qarI (a 19) (d 19) 5040 f_filled), (qarI (a 20) (d 20) 5040 f_isThere), (qarI (a 21) (d 21) 5040 f_counts), (qarI (a 15) (d 15) 60 f_lapsedAt), (qarI (a 30) (d 30) 8 f_paused), (qarI (a 29) (d 29) 8 f_stagePaid), (qarI (a 28) (d 28) 8 f_parts)] [((d 0), .int), ((d 26), .int), ((d 27), .int), ((d 10), .int), ((d 16), .boolean), ((d 17), .boolean), ((d 12), .int), ((d 13), .int), ((d 14), .int), ((d 18), .int), ((d 19), .int), ((d 20), .boolean), ((d 21), .boolean), ((d 15), .int), ((d 30), .int), ((d 29), .int), ((d 28), .int)] sz)) (va_Qv (fun (u : Int32 × Int32 × Int32 × Int32 × Int32 × (Nat → Int32) × (Nat → Int32) × (Nat → Int32) × (Nat → Int32) × (Nat → Int32) × (Nat → Int32) × (Nat → Int32)) => match u with | (w_coin, w_loan, w_grown, w_paidStages, w_clock, g_isLapsed, g_lapsedAt, g_isThere, g_counts, g_paused, g_stagePaid, g_parts) => (w_clock.toInt = v_clock.toInt + 1) ∧ ((w_coin.toInt, w_loan.toInt, w_grown, w_paidStages, g_parts, g_stagePaid, g_paused) = mnM (f_rule (6 : Int32).toNatClampNeg).toInt (100 * (f_rule (5 : Int32).toNatClampNeg).toInt) v_begun.toInt f_cost f_length (v_coin.toInt, v_loan.toInt, v_grown, v_paidStages, f_parts, f_stagePaid, f_paused)) ∧ (mR v_pledges (lapT v_clock.toInt (f_rule (4 : Int32).toNatClampNeg).toInt v_pledges.toNatClampNeg tP) f_giver g_isLapsed f_wasTakenUp f_first f_every f_dues f_due f_filled g_isThere g_counts)) (cB G (fun u => match u with | (w_coin, w_loan, w_grown, w_paidStages, w_clock, g_isLapsed, g_lapsedAt, g_isThere, g_counts, g_paused, g_stagePaid, g_parts) => [(cMq a h v_taped v_size v_from v_behind v_hand v_value v_fault v_faultAt w_clock w_coin w_loan v_matched v_taxed w_paidStages w_grown v_pledges v_sums v_stages v_isStopped v_begun), (qarI (a 0) (d 0) 9 f_rule), (qarI (a 26) (d 26) 8 f_cost), (qarI (a 27) (d 27) 8 f_length), (qarI (a 10) (d 10) 60 f_giver), (qarI (a 16) (d 16) 60 g_isLapsed), (qarI (a 17) (d 17) 60 f_wasTakenUp), (qarI (a 12) (d 12) 60 f_first), (qarI (a 13) (d 13) 60 f_every), (qarI (a 14) (d 14) 60 f_dues), (qarI (a 18) (d 18) 5040 f_due), (qarI (a 19) (d 19) 5040 f_filled), (qarI (a 20) (d 20) 5040 g_isThere), (qarI (a 21) (d 21) 5040 g_counts), (qarI (a 15) (d 15) 60 g_lapsedAt), (qarI (a 30) (d 30) 8 g_paused), (qarI (a 29) (d 29) 8 g_stagePaid), (qarI (a 28) (d 28) 8 g_parts)]) (fun u => match u with | (w_coin, w_loan, w_grown, w_paidStages, w_clock, g_isLapsed, g_lapsedAt, g_isThere, g_counts, g_paused, g_stagePaid, g_parts) => []) (va_A [(cMq a h v_taped v_size v_from v_behind v_hand v_value v_fault v_faultAt v_clock v_coin v_loan v_matched v_taxed v_paidStages v_grown v_pledges v_sums v_stages v_isStopped v_begun), (qarI (a 0) (d 0) 9 f_rule), (qarI (a 26) (d 26) 8 f_cost), (qarI (a 27) (d 27) 8 f_length), (qarI (a 10) (d 10) 60 f_giver), (qarI (a 16) (d 16) 60 f_isLapsed), (qarI (a 17) (d 17) 60 f_wasTakenUp), (qarI (a 12) (d 12) 60 f_first), (qarI (a 13) (d 13) 60 f_every), (qarI (a 14) (d 14) 60 f_dues), (qarI (a 18) (d 18) 5040 f_due), (qarI (a 19) (d 19) 5040 f_filled), (qarI (a 20) (d 20) 5040 f_isThere), (qarI (a 21) (d 21) 5040 f_counts), (qarI (a 15) (d 15) 60 f_lapsedAt), (qarI (a 30) (d 30) 8 f_paused), (qarI (a 29) (d 29) 8 f_stagePaid), (qarI (a 28) (d 28) 8 f_parts)] sz)) (va_A [(cMq a h v_taped v_size v_from v_behind v_hand v_value v_fault v_faultAt v_clock v_coin v_loan v_matched v_taxed v_paidStages v_grown v_pledges v_sums v_stages v_isStopped v_begun), (qarI (a 0) (d 0) 9 f_rule), (qarI (a 26) (d 26) 8 f_cost), (qarI (a 27) (d 27) 8 f_length), (qarI (a 10) (d 10) 60 f_giver), (qarI (a 16) (d 16) 60 f_isLapsed), (qarI (a 17) (d 17) 60 f_wasTakenUp), (qarI (a 12) (d 12) 60 f_first), (qarI (a 13) (d 13) 60 f_every), (qarI (a 14) (d 14) 60 f_dues), (qarI (a 18) (d 18) 5040 f_due), (qarI (a 19) (d 19) 5040 f_filled), (qarI (a 20) (d 20) 5040 f_isThere), (qarI (a 21) (d 21) 5040 f_counts), (qarI (a 15) (d 15) 60 f_lapsedAt), (qarI (a 30) (d 30) 8 f_paused), (qarI (a 29) (d 29) 8 f_stagePaid), (qarI (a 28) (d 28) 8 f_parts)] sz)) 0 0 (va_A [(cMq a h v_taped v_size v_from v_behind v_hand v_value v_fault v_faultAt v_clock v_coin v_loan v_matched v_taxed v_paidStages v_grown v_pledges v_sums v_stages v_isStopped v_begun), (qarI (a 0) (d 0) 9 f_rule), (qarI (a 26) (d 26) 8 f_cost), (qarI (a 27) (d 27) 8 f_length), (qarI (a 10) (d 10) 60 f_giver), (qarI (a 16) (d 16) 60 f_isLapsed), (qarI (a 17) (d 17) 60 f_wasTakenUp), (qarI (a 12) (d 12) 60 f_first), (qarI (a 13) (d 13) 60 f_every), (qarI (a 14) (d 14) 60 f_dues), (qarI (a 18) (d 18) 5040 f_due), (qarI (a 19) (d 19) 5040 f_filled), (qarI (a 20) (d 20) 5040 f_isThere), (qarI (a 21) (d 21) 5040 f_counts), (qarI (a 15) (d 15) 60 f_lapsedAt), (qarI (a 30) (d 30) 8 f_paused), (qarI (a 29) (d 29) 8 f_stagePaid), (qarI (a 28) (d 28) 8 f_parts)] sz) := by
  refine ofC_v (cc := cX12_endMonth) (maxL := 3) (ret := none) (by decide) rfl (Nat.le_of_ble_eq_true rfl) ?_
  intro p e s m args below meth c A ls Q F hr hin hlk St hl hQ
  have hx := F.1
  have hb := F.2.1
  have hl : lv_has ls 3 [(0, .ref h)] := hl
  have St : cS G k [(cMq a h v_taped v_size v_from v_behind v_hand v_value v_fault v_faultAt v_clock v_coin v_loan v_matched v_taxed v_paidStages v_grown v_pledges v_sums v_stages v_isStopped v_begun), (qarI (a 0) (d 0) 9 f_rule), (qarI (a 26) (d 26) 8 f_cost), (qarI (a 27) (d 27) 8 f_length), (qarI (a 10) (d 10) 60 f_giver), (qarI (a 16) (d 16) 60 f_isLapsed), (qarI (a 17) (d 17) 60 f_wasTakenUp), (qarI (a 12) (d 12) 60 f_first), (qarI (a 13) (d 13) 60 f_every), (qarI (a 14) (d 14) 60 f_dues), (qarI (a 18) (d 18) 5040 f_due), (qarI (a 19) (d 19) 5040 f_filled), (qarI (a 20) (d 20) 5040 f_isThere), (qarI (a 21) (d 21) 5040 f_counts), (qarI (a 15) (d 15) 60 f_lapsedAt), (qarI (a 30) (d 30) 8 f_paused), (qarI (a 29) (d 29) 8 f_stagePaid), (qarI (a 28) (d 28) 8 f_parts)] [((d 0), .int), ((d 26), .int), ((d 27), .int), ((d 10), .int), ((d 16), .boolean), ((d 17), .boolean), ((d 12), .int), ((d 13), .int), ((d 14), .int), ((d 18), .int), ((d 19), .int), ((d 20), .boolean), ((d 21), .boolean), ((d 15), .int), ((d 30), .int), ((d 29), .int), ((d 28), .int)] A s s.heap [] := St
  have hpd := hPd.1
  have htd := hSt.1
  have y0 : (0 : Int32).toInt = 0 := by decide
  have hF0 := hF.1
  have hF1 := hF.2.1
  have hF2 := hF.2.2.1
  have hF3 := hF.2.2.2.1
  have hF4 := hF.2.2.2.2.1
  have hF5 := hF.2.2.2.2.2.1
  have hF6 := hF.2.2.2.2.2.2.1
  have hF7 := hF.2.2.2.2.2.2.2
  obtain ⟨hM0, hM1, hM2⟩ := id hwM
  have hs0 := hM2.1
  have hn5 := nc_int (x := v_pledges) (by omega)
  refine lv_iconst (v := 0) hx hb dX12_endMonth_0 (by decide) ?_
  refine lv_istore_n (lv' := [(1, .int 0), (0, .ref h)]) hx hb dX12_endMonth_1 rfl hl (by decide) rfl (fun ls hl => ?_)
  have lp2 : ∀ (n : Nat) (kk : Int32) (q_isLapsed : Nat → Int32) (q_lapsedAt : Nat → Int32) (q_isThere : Nat → Int32) (q_counts : Nat → Int32) (H : Heap) (locs : List Loc) (ls : Array Slot), ((0 ≤ kk.toInt ∧ kk.toInt ≤ v_pledges.toInt) ∧ mR v_pledges (lapT v_clock.toInt (f_rule (4 : Int32).toNatClampNeg).toInt kk.toNatClampNeg tP) f_giver q_isLapsed f_wasTakenUp f_first f_every f_dues f_due f_filled q_isThere q_counts) → ((60 - kk.toInt).toNat) < n → cS G k [(cMq a h v_taped v_size v_from v_behind v_hand v_value v_fault v_faultAt v_clock v_coin v_loan v_matched v_taxed v_paidStages v_grown v_pledges v_sums v_stages v_isStopped v_begun), (qarI (a 0) (d 0) 9 f_rule), (qarI (a 26) (d 26) 8 f_cost), (qarI (a 27) (d 27) 8 f_length), (qarI (a 10) (d 10) 60 f_giver), (qarI (a 16) (d 16) 60 q_isLapsed), (qarI (a 17) (d 17) 60 f_wasTakenUp), (qarI (a 12) (d 12) 60 f_first), (qarI (a 13) (d 13) 60 f_every), (qarI (a 14) (d 14) 60 f_dues), (qarI (a 18) (d 18) 5040 f_due), (qarI (a 19) (d 19) 5040 f_filled), (qarI (a 20) (d 20) 5040 q_isThere), (qarI (a 21) (d 21) 5040 q_counts), (qarI (a 15) (d 15) 60 q_lapsedAt), (qarI (a 30) (d 30) 8 f_paused), (qarI (a 29) (d 29) 8 f_stagePaid), (qarI (a 28) (d 28) 8 f_parts)] [((d 0), .int), ((d 26), .int), ((d 27), .int), ((d 10), .int), ((d 16), .boolean), ((d 17), .boolean), ((d 12), .int), ((d 13), .int), ((d 14), .int), ((d 18), .int), ((d 19), .int), ((d 20), .boolean), ((d 21), .boolean), ((d 15), .int), ((d 30), .int), ((d 29), .int), ((d 28), .int)] A s H locs → lv_has ls 3 [(1, .int kk), (0, .ref h)] → W p l e ({ frames := 3, cells := 0, slots := 0, locals := 68 } : Room) s m args below meth c H locs 0 0 Q (F0 m 2 ls []) := by
    intro n
    induction n with
    | zero => intro kk q_isLapsed q_lapsedAt q_isThere q_counts H locs ls hI hn; exact absurd hn (Nat.not_lt_zero _)
    | succ n ih =>
      intro kk q_isLapsed q_lapsedAt q_isThere q_counts H locs ls hI hn St hl
      obtain ⟨⟨hI0, hI1⟩, hMq⟩ := hI
      have nk := nc_int hI0
      refine lv_iload_n hx hb dX12_endMonth_2 rfl (lv_at hl 0 rfl) ?_
      refine lv_aload_n hx hb dX12_endMonth_3 rfl (lv_at hl 1 rfl) ?_
      refine cs_get F St 0 rfl rfl inX12 20 (by decide) kf_X12_237 rfl dX12_endMonth_4 ?_
      refine lv_icmp_ge (tgt := 21) hx hb dX12_endMonth_7 (by decide) (fun c7 => ?_) (fun c7 => ?_)
      ·
        have i7 := ci_le (x := v_pledges) (y := kk) rfl rfl c7
        refine lv_aload_n hx hb dX12_endMonth_21 rfl (lv_at hl 1 rfl) ?_
        refine cs_get F St 0 rfl rfl inX12 15 (by decide) kf_X12_296 rfl dX12_endMonth_22 ?_
        refine lv_i2l (v := v_loan.toInt64) hx hb dX12_endMonth_25 rfl ?_
        refine lv_aload_n hx hb dX12_endMonth_26 rfl (lv_at hl 1 rfl) ?_
        refine cs_get F St 0 rfl rfl inX12 0 (by decide) kf_X12_114 rfl dX12_endMonth_27 ?_
        refine lv_bipush (v := 6) hx hb dX12_endMonth_30 (by decide) ?_
        refine cs_ild F St 1 0 rfl rfl (vp_in_iff.mpr (by decide)) dX12_endMonth_32 ?_
        refine lv_topi (fun y_1 ey_1 => ?_)
        have gy_1 := congrArg Int32.toInt ey_1
        refine lv_i2l (v := y_1.toInt64) hx hb dX12_endMonth_33 rfl ?_
        refine lv_lmul hx hb dX12_endMonth_34 ?_
        refine lv_topl (fun y_2 ey_2 => ?_)
        obtain ⟨jm1, jm2, jm3⟩ := cl_mulb (u := v_loan.toInt) (v := (f_rule (6 : Int32).toNatClampNeg).toInt) (A := 400000000) (B := 10) (Int32.toInt_toInt64 _) (by rw [Int32.toInt_toInt64, ey_1]) ey_2 (by omega) (by omega) hF6.1 hF6.2 (by decide)
        refine lv_ldc2 (v := 1000) hx hb F.2.2.2.1 (F.2.2.2.2 _ kk_X12_303) dX12_endMonth_35 ?_
        refine lv_ldiv hx hb dX12_endMonth_38 (by decide) ?_
        refine lv_topl (fun y_3 ey_3 => ?_)
        have jd := cl_div (u := v_loan.toInt * (f_rule (6 : Int32).toNatClampNeg).toInt) (v := 1000) jm1 (by decide) ey_3 jm2 (by decide)
        refine lv_l2i (v := y_3.toInt32) hx hb dX12_endMonth_39 rfl ?_
        have jl := l2i_i (x := y_3) (by omega)
        refine lv_istore_n (lv' := [(1, .int y_3.toInt32), (0, .ref h)]) hx hb dX12_endMonth_40 rfl hl (by decide) rfl (fun ls hl => ?_)
        have hze : y_3.toInt32 = Int32.ofInt (v_loan.toInt * (f_rule (6 : Int32).toNatClampNeg).toInt / 1000) := i32_of (by omega)
        refine lv_aload_n hx hb dX12_endMonth_41 rfl (lv_at hl 1 rfl) ?_
        refine lv_dup hx hb dX12_endMonth_42 rfl ?_
        refine cs_get F St 0 rfl rfl inX12 15 (by decide) kf_X12_296 rfl dX12_endMonth_43 ?_
        refine lv_iload_n hx hb dX12_endMonth_46 rfl (lv_at hl 0 rfl) ?_
        refine lv_iadd hx hb dX12_endMonth_47 ?_
        refine lv_topi (fun y_4 ey_4 => ?_)
        first | have jy_4 : y_4.toInt = v_loan.toInt + y_3.toInt32.toInt := (by have q9 := ci_add (x := v_loan) (y := y_3.toInt32) rfl rfl ey_4; omega) | have jy_4 := ci_add (x := v_loan) (y := y_3.toInt32) rfl rfl ey_4
        refine cs_put F St 0 rfl rfl inX12 tyX12_ok nmX12 15 (by decide) kf_X12_296 rfl rfl rfl (Nat.le_of_ble_eq_true rfl) (w' := [(cMq a h v_taped v_size v_from v_behind v_hand v_value v_fault v_faultAt v_clock v_coin y_4 v_matched v_taxed v_paidStages v_grown v_pledges v_sums v_stages v_isStopped v_begun), (qarI (a 0) (d 0) 9 f_rule), (qarI (a 26) (d 26) 8 f_cost), (qarI (a 27) (d 27) 8 f_length), (qarI (a 10) (d 10) 60 f_giver), (qarI (a 16) (d 16) 60 q_isLapsed), (qarI (a 17) (d 17) 60 f_wasTakenUp), (qarI (a 12) (d 12) 60 f_first), (qarI (a 13) (d 13) 60 f_every), (qarI (a 14) (d 14) 60 f_dues), (qarI (a 18) (d 18) 5040 f_due), (qarI (a 19) (d 19) 5040 f_filled), (qarI (a 20) (d 20) 5040 q_isThere), (qarI (a 21) (d 21) 5040 q_counts), (qarI (a 15) (d 15) 60 q_lapsedAt), (qarI (a 30) (d 30) 8 f_paused), (qarI (a 29) (d 29) 8 f_stagePaid), (qarI (a 28) (d 28) 8 f_parts)]) rfl dX12_endMonth_48 (fun H locs St => ?_)
        refine lv_aload_n hx hb dX12_endMonth_51 rfl (lv_at hl 1 rfl) ?_
        refine lv_dup hx hb dX12_endMonth_52 rfl ?_
        refine cs_get F St 0 rfl rfl inX12 19 (by decide) kf_X12_305 rfl dX12_endMonth_53 ?_
        refine lv_iload_n hx hb dX12_endMonth_56 rfl (lv_at hl 0 rfl) ?_
        refine lv_iadd hx hb dX12_endMonth_57 ?_
        refine lv_topi (fun y_5 ey_5 => ?_)
        first | have jy_5 : y_5.toInt = v_grown.toInt + y_3.toInt32.toInt := (by have q9 := ci_add (x := v_grown) (y := y_3.toInt32) rfl rfl ey_5; omega) | have jy_5 := ci_add (x := v_grown) (y := y_3.toInt32) rfl rfl ey_5
        refine cs_put F St 0 rfl rfl inX12 tyX12_ok nmX12 19 (by decide) kf_X12_305 rfl rfl rfl (Nat.le_of_ble_eq_true rfl) (w' := [(cMq a h v_taped v_size v_from v_behind v_hand v_value v_fault v_faultAt v_clock v_coin y_4 v_matched v_taxed v_paidStages y_5 v_pledges v_sums v_stages v_isStopped v_begun), (qarI (a 0) (d 0) 9 f_rule), (qarI (a 26) (d 26) 8 f_cost), (qarI (a 27) (d 27) 8 f_length), (qarI (a 10) (d 10) 60 f_giver), (qarI (a 16) (d 16) 60 q_isLapsed), (qarI (a 17) (d 17) 60 f_wasTakenUp), (qarI (a 12) (d 12) 60 f_first), (qarI (a 13) (d 13) 60 f_every), (qarI (a 14) (d 14) 60 f_dues), (qarI (a 18) (d 18) 5040 f_due), (qarI (a 19) (d 19) 5040 f_filled), (qarI (a 20) (d 20) 5040 q_isThere), (qarI (a 21) (d 21) 5040 q_counts), (qarI (a 15) (d 15) 60 q_lapsedAt), (qarI (a 30) (d 30) 8 f_paused), (qarI (a 29) (d 29) 8 f_stagePaid), (qarI (a 28) (d 28) 8 f_parts)]) rfl dX12_endMonth_58 (fun H locs St => ?_)
        have hgE : (v_coin.toInt, y_4.toInt, y_5, v_paidStages, f_parts, f_stagePaid, f_paused) = grM (f_rule (6 : Int32).toNatClampNeg).toInt (v_coin.toInt, v_loan.toInt, v_grown, v_paidStages, f_parts, f_stagePaid, f_paused) := gr_of rfl (by omega) (by rw [ey_5, hze])
        refine lv_aload_n hx hb dX12_endMonth_61 rfl (lv_at hl 1 rfl) ?_
        refine cs_i St [0, 17, 3] [1, 2, 4, 5, 6, 7, 8, 9, 10, 11, 12, 13, 14, 15, 16] (wc := [(cMq a h v_taped v_size v_from v_behind v_hand v_value v_fault v_faultAt v_clock v_coin y_4 v_matched v_taxed v_paidStages y_5 v_pledges v_sums v_stages v_isStopped v_begun), (qarI (a 28) (d 28) 8 f_parts), (qarI (a 27) (d 27) 8 f_length)]) (wr := [(qarI (a 0) (d 0) 9 f_rule), (qarI (a 26) (d 26) 8 f_cost), (qarI (a 10) (d 10) 60 f_giver), (qarI (a 16) (d 16) 60 q_isLapsed), (qarI (a 17) (d 17) 60 f_wasTakenUp), (qarI (a 12) (d 12) 60 f_first), (qarI (a 13) (d 13) 60 f_every), (qarI (a 14) (d 14) 60 f_dues), (qarI (a 18) (d 18) 5040 f_due), (qarI (a 19) (d 19) 5040 f_filled), (qarI (a 20) (d 20) 5040 q_isThere), (qarI (a 21) (d 21) 5040 q_counts), (qarI (a 15) (d 15) 60 q_lapsedAt), (qarI (a 30) (d 30) 8 f_paused), (qarI (a 29) (d 29) 8 f_stagePaid)]) rfl rfl (by decide) (by decide) (va_runV (As := []) (rest := []) F (e12_runs l G k _ h a d v_taped v_size v_from v_behind v_hand v_value v_fault v_faultAt v_clock v_coin y_4 v_matched v_taxed v_paidStages y_5 v_pledges v_sums v_stages v_isStopped v_begun f_parts f_length hSt) (cwVt F mf_X12_runs km_X12_292 rfl rfl ⟨Nat.le_of_ble_eq_true rfl, Nat.le_of_ble_eq_true rfl⟩) (cs_preV St [0, 17, 3] rfl (by decide) [16, 2] rfl (ci := 12) (q0 := 0) rfl rfl) rfl rfl hl.1 rfl (lv_room (Nat.le_of_ble_eq_true rfl)) dX12_endMonth_62 ⟨Nat.le_of_ble_eq_true rfl, Nat.le_of_ble_eq_true rfl⟩) (fun r_6 u_7 H locs hw St => ?_)
        try dsimp only at hw
        rcases hw with ⟨z_8, hf_9⟩ | ⟨z_10, hf_11⟩
        ·
          subst r_6
          have St : cS G k [(qarI (a 0) (d 0) 9 f_rule), (qarI (a 26) (d 26) 8 f_cost), (qarI (a 10) (d 10) 60 f_giver), (qarI (a 16) (d 16) 60 q_isLapsed), (qarI (a 17) (d 17) 60 f_wasTakenUp), (qarI (a 12) (d 12) 60 f_first), (qarI (a 13) (d 13) 60 f_every), (qarI (a 14) (d 14) 60 f_dues), (qarI (a 18) (d 18) 5040 f_due), (qarI (a 19) (d 19) 5040 f_filled), (qarI (a 20) (d 20) 5040 q_isThere), (qarI (a 21) (d 21) 5040 q_counts), (qarI (a 15) (d 15) 60 q_lapsedAt), (qarI (a 30) (d 30) 8 f_paused), (qarI (a 29) (d 29) 8 f_stagePaid), (cMq a h v_taped v_size v_from v_behind v_hand v_value v_fault v_faultAt v_clock v_coin y_4 v_matched v_taxed v_paidStages y_5 v_pledges v_sums v_stages v_isStopped v_begun), (qarI (a 28) (d 28) 8 f_parts), (qarI (a 27) (d 27) 8 f_length)] [((d 0), .int), ((d 26), .int), ((d 27), .int), ((d 10), .int), ((d 16), .boolean), ((d 17), .boolean), ((d 12), .int), ((d 13), .int), ((d 14), .int), ((d 18), .int), ((d 19), .int), ((d 20), .boolean), ((d 21), .boolean), ((d 15), .int), ((d 30), .int), ((d 29), .int), ((d 28), .int)] A s H locs := St
          have hrn := hf_9
          refine lv_if_eq (tgt := 72) hx hb dX12_endMonth_65 (by decide) (fun c65 => ?_) (fun c65 => ?_)
          · exact absurd c65 (by decide)
          refine lv_aload_n hx hb dX12_endMonth_68 rfl (lv_at hl 1 rfl) ?_
          refine cs_v St [15, 1, 17, 0, 13, 14, 16] [2, 3, 4, 5, 6, 7, 8, 9, 10, 11, 12] (wc := [(cMq a h v_taped v_size v_from v_behind v_hand v_value v_fault v_faultAt v_clock v_coin y_4 v_matched v_taxed v_paidStages y_5 v_pledges v_sums v_stages v_isStopped v_begun), (qarI (a 26) (d 26) 8 f_cost), (qarI (a 27) (d 27) 8 f_length), (qarI (a 0) (d 0) 9 f_rule), (qarI (a 30) (d 30) 8 f_paused), (qarI (a 29) (d 29) 8 f_stagePaid), (qarI (a 28) (d 28) 8 f_parts)]) (wr := [(qarI (a 10) (d 10) 60 f_giver), (qarI (a 16) (d 16) 60 q_isLapsed), (qarI (a 17) (d 17) 60 f_wasTakenUp), (qarI (a 12) (d 12) 60 f_first), (qarI (a 13) (d 13) 60 f_every), (qarI (a 14) (d 14) 60 f_dues), (qarI (a 18) (d 18) 5040 f_due), (qarI (a 19) (d 19) 5040 f_filled), (qarI (a 20) (d 20) 5040 q_isThere), (qarI (a 21) (d 21) 5040 q_counts), (qarI (a 15) (d 15) 60 q_lapsedAt)]) rfl rfl (by decide) (by decide) (va_runV (As := []) (rest := []) F (e12_build l G k _ h a d v_taped v_size v_from v_behind v_hand v_value v_fault v_faultAt v_clock v_coin y_4 v_matched v_taxed v_paidStages y_5 v_pledges v_sums v_stages v_isStopped v_begun f_cost f_length f_rule f_paused f_stagePaid f_parts hSt hF cbd (lo9 + lo9 / 100) (by omega) (by omega) (by rw [hgE]; exact wf_gr hwM hF6 (by omega)) hrn) (cwVt F mf_X12_build km_X12_308 rfl rfl ⟨Nat.le_of_ble_eq_true rfl, Nat.le_of_ble_eq_true rfl⟩) (cs_preV St [15, 1, 17, 0, 13, 14, 16] rfl (by decide) [1, 2, 0, 14, 15, 16] rfl (ci := 12) (q0 := 15) rfl rfl) rfl rfl hl.1 rfl (lv_room (Nat.le_of_ble_eq_true rfl)) dX12_endMonth_69 ⟨Nat.le_of_ble_eq_true rfl, Nat.le_of_ble_eq_true rfl⟩) (fun u_13 H locs hw St => ?_)
          obtain ⟨w_coin_14, w_loan_15, w_paidStages_16, g_paused_17, g_stagePaid_18, g_parts_19⟩ := u_13
          try dsimp only at hw
          have hB_20 := hw
          have St : cS G k [(qarI (a 10) (d 10) 60 f_giver), (qarI (a 16) (d 16) 60 q_isLapsed), (qarI (a 17) (d 17) 60 f_wasTakenUp), (qarI (a 12) (d 12) 60 f_first), (qarI (a 13) (d 13) 60 f_every), (qarI (a 14) (d 14) 60 f_dues), (qarI (a 18) (d 18) 5040 f_due), (qarI (a 19) (d 19) 5040 f_filled), (qarI (a 20) (d 20) 5040 q_isThere), (qarI (a 21) (d 21) 5040 q_counts), (qarI (a 15) (d 15) 60 q_lapsedAt), (cMq a h v_taped v_size v_from v_behind v_hand v_value v_fault v_faultAt v_clock w_coin_14 w_loan_15 v_matched v_taxed w_paidStages_16 y_5 v_pledges v_sums v_stages v_isStopped v_begun), (qarI (a 26) (d 26) 8 f_cost), (qarI (a 27) (d 27) 8 f_length), (qarI (a 0) (d 0) 9 f_rule), (qarI (a 30) (d 30) 8 g_paused_17), (qarI (a 29) (d 29) 8 g_stagePaid_18), (qarI (a 28) (d 28) 8 g_parts_19)] [((d 0), .int), ((d 26), .int), ((d 27), .int), ((d 10), .int), ((d 16), .boolean), ((d 17), .boolean), ((d 12), .int), ((d 13), .int), ((d 14), .int), ((d 18), .int), ((d 19), .int), ((d 20), .boolean), ((d 21), .boolean), ((d 15), .int), ((d 30), .int), ((d 29), .int), ((d 28), .int)] A s H locs := St
          have hY : (w_coin_14.toInt, w_loan_15.toInt, y_5, w_paidStages_16, g_parts_19, g_stagePaid_18, g_paused_17) = byM (100 * (f_rule (5 : Int32).toNatClampNeg).toInt) v_begun.toInt f_cost f_length (grM (f_rule (6 : Int32).toNatClampNeg).toInt (v_coin.toInt, v_loan.toInt, v_grown, v_paidStages, f_parts, f_stagePaid, f_paused)) := by rw [← hgE]; exact hB_20
          have hwY := wf_by (mx := (100 * (f_rule (5 : Int32).toNatClampNeg).toInt)) (wf_gr hwM hF6 (by omega)) (by omega) (by omega)
          rw [← hY] at hwY
          obtain ⟨hY0, hY1, -⟩ := id hwY
          refine lv_aload_n hx hb dX12_endMonth_72 rfl (lv_at hl 1 rfl) ?_
          refine cs_get F St 11 rfl rfl inX12 14 (by decide) kf_X12_262 rfl dX12_endMonth_73 ?_
          refine lv_aload_n hx hb dX12_endMonth_76 rfl (lv_at hl 1 rfl) ?_
          refine cs_get F St 11 rfl rfl inX12 15 (by decide) kf_X12_296 rfl dX12_endMonth_77 ?_
          refine va_mmin hx hb (F.2.2.1.trans hl.1.symm) F.2.2.2.1 (F.2.2.2.2 _ km_X12_254) (F.2.2.2.2 _ ks_J9_min_7cf53) (F.2.2.2.2 _ ki_J9) (F.2.2.2.2 _ kd_J9_min_7cf53) (Nat.le_of_ble_eq_true rfl) (Nat.le_of_ble_eq_true rfl) (Nat.le_of_ble_eq_true rfl) (Nat.le_of_ble_eq_true rfl) dX12_endMonth_80 ?_
          refine lv_topi (fun y_21 ey_21 => ?_)
          have jy_21 := ci_min (x := w_coin_14) (y := w_loan_15) (u := w_coin_14.toInt) (v := w_loan_15.toInt) rfl rfl ey_21
          refine lv_istore_n (lv' := [(2, .int y_21), (1, .int y_3.toInt32), (0, .ref h)]) hx hb dX12_endMonth_83 rfl hl (by decide) rfl (fun ls hl => ?_)
          refine lv_aload_n hx hb dX12_endMonth_84 rfl (lv_at hl 2 rfl) ?_
          refine lv_dup hx hb dX12_endMonth_85 rfl ?_
          refine cs_get F St 11 rfl rfl inX12 14 (by decide) kf_X12_262 rfl dX12_endMonth_86 ?_
          refine lv_iload_n hx hb dX12_endMonth_89 rfl (lv_at hl 0 rfl) ?_
          refine lv_isub hx hb dX12_endMonth_90 ?_
          refine lv_topi (fun y_22 ey_22 => ?_)
          first | have jy_22 : y_22.toInt = w_coin_14.toInt - y_21.toInt := (by have q9 := ci_sub (x := w_coin_14) (y := y_21) rfl rfl ey_22; omega) | have jy_22 := ci_sub (x := w_coin_14) (y := y_21) rfl rfl ey_22
          refine cs_put F St 11 rfl rfl inX12 tyX12_ok nmX12 14 (by decide) kf_X12_262 rfl rfl rfl (Nat.le_of_ble_eq_true rfl) (w' := [(qarI (a 10) (d 10) 60 f_giver), (qarI (a 16) (d 16) 60 q_isLapsed), (qarI (a 17) (d 17) 60 f_wasTakenUp), (qarI (a 12) (d 12) 60 f_first), (qarI (a 13) (d 13) 60 f_every), (qarI (a 14) (d 14) 60 f_dues), (qarI (a 18) (d 18) 5040 f_due), (qarI (a 19) (d 19) 5040 f_filled), (qarI (a 20) (d 20) 5040 q_isThere), (qarI (a 21) (d 21) 5040 q_counts), (qarI (a 15) (d 15) 60 q_lapsedAt), (cMq a h v_taped v_size v_from v_behind v_hand v_value v_fault v_faultAt v_clock y_22 w_loan_15 v_matched v_taxed w_paidStages_16 y_5 v_pledges v_sums v_stages v_isStopped v_begun), (qarI (a 26) (d 26) 8 f_cost), (qarI (a 27) (d 27) 8 f_length), (qarI (a 0) (d 0) 9 f_rule), (qarI (a 30) (d 30) 8 g_paused_17), (qarI (a 29) (d 29) 8 g_stagePaid_18), (qarI (a 28) (d 28) 8 g_parts_19)]) rfl dX12_endMonth_91 (fun H locs St => ?_)
          refine lv_aload_n hx hb dX12_endMonth_94 rfl (lv_at hl 2 rfl) ?_
          refine lv_dup hx hb dX12_endMonth_95 rfl ?_
          refine cs_get F St 11 rfl rfl inX12 15 (by decide) kf_X12_296 rfl dX12_endMonth_96 ?_
          refine lv_iload_n hx hb dX12_endMonth_99 rfl (lv_at hl 0 rfl) ?_
          refine lv_isub hx hb dX12_endMonth_100 ?_
          refine lv_topi (fun y_23 ey_23 => ?_)
          first | have jy_23 : y_23.toInt = w_loan_15.toInt - y_21.toInt := (by have q9 := ci_sub (x := w_loan_15) (y := y_21) rfl rfl ey_23; omega) | have jy_23 := ci_sub (x := w_loan_15) (y := y_21) rfl rfl ey_23
          refine cs_put F St 11 rfl rfl inX12 tyX12_ok nmX12 15 (by decide) kf_X12_296 rfl rfl rfl (Nat.le_of_ble_eq_true rfl) (w' := [(qarI (a 10) (d 10) 60 f_giver), (qarI (a 16) (d 16) 60 q_isLapsed), (qarI (a 17) (d 17) 60 f_wasTakenUp), (qarI (a 12) (d 12) 60 f_first), (qarI (a 13) (d 13) 60 f_every), (qarI (a 14) (d 14) 60 f_dues), (qarI (a 18) (d 18) 5040 f_due), (qarI (a 19) (d 19) 5040 f_filled), (qarI (a 20) (d 20) 5040 q_isThere), (qarI (a 21) (d 21) 5040 q_counts), (qarI (a 15) (d 15) 60 q_lapsedAt), (cMq a h v_taped v_size v_from v_behind v_hand v_value v_fault v_faultAt v_clock y_22 y_23 v_matched v_taxed w_paidStages_16 y_5 v_pledges v_sums v_stages v_isStopped v_begun), (qarI (a 26) (d 26) 8 f_cost), (qarI (a 27) (d 27) 8 f_length), (qarI (a 0) (d 0) 9 f_rule), (qarI (a 30) (d 30) 8 g_paused_17), (qarI (a 29) (d 29) 8 g_stagePaid_18), (qarI (a 28) (d 28) 8 g_parts_19)]) rfl dX12_endMonth_101 (fun H locs St => ?_)
          refine lv_aload_n hx hb dX12_endMonth_104 rfl (lv_at hl 2 rfl) ?_
          refine lv_dup hx hb dX12_endMonth_105 rfl ?_
          refine cs_get F St 11 rfl rfl inX12 13 (by decide) kf_X12_230 rfl dX12_endMonth_106 ?_
          refine lv_iconst (v := 1) hx hb dX12_endMonth_109 (by decide) ?_
          refine lv_iadd hx hb dX12_endMonth_110 ?_
          refine lv_topi (fun y_24 ey_24 => ?_)
          first | have jy_24 : y_24.toInt = v_clock.toInt + 1 := (by have q9 := ci_add (x := v_clock) (y := 1) rfl (show (1 : Int32).toInt = 1 by decide) ey_24; omega) | have jy_24 := ci_add (x := v_clock) (y := 1) rfl (show (1 : Int32).toInt = 1 by decide) ey_24
          refine cs_put F St 11 rfl rfl inX12 tyX12_ok nmX12 13 (by decide) kf_X12_230 rfl rfl rfl (Nat.le_of_ble_eq_true rfl) (w' := [(qarI (a 10) (d 10) 60 f_giver), (qarI (a 16) (d 16) 60 q_isLapsed), (qarI (a 17) (d 17) 60 f_wasTakenUp), (qarI (a 12) (d 12) 60 f_first), (qarI (a 13) (d 13) 60 f_every), (qarI (a 14) (d 14) 60 f_dues), (qarI (a 18) (d 18) 5040 f_due), (qarI (a 19) (d 19) 5040 f_filled), (qarI (a 20) (d 20) 5040 q_isThere), (qarI (a 21) (d 21) 5040 q_counts), (qarI (a 15) (d 15) 60 q_lapsedAt), (cMq a h v_taped v_size v_from v_behind v_hand v_value v_fault v_faultAt y_24 y_22 y_23 v_matched v_taxed w_paidStages_16 y_5 v_pledges v_sums v_stages v_isStopped v_begun), (qarI (a 26) (d 26) 8 f_cost), (qarI (a 27) (d 27) 8 f_length), (qarI (a 0) (d 0) 9 f_rule), (qarI (a 30) (d 30) 8 g_paused_17), (qarI (a 29) (d 29) 8 g_stagePaid_18), (qarI (a 28) (d 28) 8 g_parts_19)]) rfl dX12_endMonth_111 (fun H locs St => ?_)
          exact cs_vret F hr hlk hQ St (y_22, y_23, y_5, w_paidStages_16, y_24, q_isLapsed, q_lapsedAt, q_isThere, q_counts, g_paused_17, g_stagePaid_18, g_parts_19) ⟨by omega, pb_of hY (by omega), by rw [show v_pledges.toNatClampNeg = kk.toNatClampNeg by omega]; exact hMq⟩ [11, 14, 12, 13, 0, 1, 2, 3, 4, 5, 6, 7, 8, 9, 10, 15, 16, 17] rfl (by decide) [] rfl (by decide) (by decide) dX12_endMonth_114
        ·
          subst r_6
          have St : cS G k [(qarI (a 0) (d 0) 9 f_rule), (qarI (a 26) (d 26) 8 f_cost), (qarI (a 10) (d 10) 60 f_giver), (qarI (a 16) (d 16) 60 q_isLapsed), (qarI (a 17) (d 17) 60 f_wasTakenUp), (qarI (a 12) (d 12) 60 f_first), (qarI (a 13) (d 13) 60 f_every), (qarI (a 14) (d 14) 60 f_dues), (qarI (a 18) (d 18) 5040 f_due), (qarI (a 19) (d 19) 5040 f_filled), (qarI (a 20) (d 20) 5040 q_isThere), (qarI (a 21) (d 21) 5040 q_counts), (qarI (a 15) (d 15) 60 q_lapsedAt), (qarI (a 30) (d 30) 8 f_paused), (qarI (a 29) (d 29) 8 f_stagePaid), (cMq a h v_taped v_size v_from v_behind v_hand v_value v_fault v_faultAt v_clock v_coin y_4 v_matched v_taxed v_paidStages y_5 v_pledges v_sums v_stages v_isStopped v_begun), (qarI (a 28) (d 28) 8 f_parts), (qarI (a 27) (d 27) 8 f_length)] [((d 0), .int), ((d 26), .int), ((d 27), .int), ((d 10), .int), ((d 16), .boolean), ((d 17), .boolean), ((d 12), .int), ((d 13), .int), ((d 14), .int), ((d 18), .int), ((d 19), .int), ((d 20), .boolean), ((d 21), .boolean), ((d 15), .int), ((d 30), .int), ((d 29), .int), ((d 28), .int)] A s H locs := St
          have hrn0 := hf_11
          refine lv_if_eq (tgt := 72) hx hb dX12_endMonth_65 (by decide) (fun c65 => ?_) (fun c65 => ?_)
          rotate_left
          · exact absurd (by decide) c65
          have hY : (v_coin.toInt, y_4.toInt, y_5, v_paidStages, f_parts, f_stagePaid, f_paused) = byM (100 * (f_rule (5 : Int32).toNatClampNeg).toInt) v_begun.toInt f_cost f_length (grM (f_rule (6 : Int32).toNatClampNeg).toInt (v_coin.toInt, v_loan.toInt, v_grown, v_paidStages, f_parts, f_stagePaid, f_paused)) := by rw [← hgE]; exact by_none hrn0
          have hwY := wf_by (mx := (100 * (f_rule (5 : Int32).toNatClampNeg).toInt)) (wf_gr hwM hF6 (by omega)) (by omega) (by omega)
          rw [← hY] at hwY
          obtain ⟨hY0, hY1, -⟩ := id hwY
          refine lv_aload_n hx hb dX12_endMonth_72 rfl (lv_at hl 1 rfl) ?_
          refine cs_get F St 15 rfl rfl inX12 14 (by decide) kf_X12_262 rfl dX12_endMonth_73 ?_
          refine lv_aload_n hx hb dX12_endMonth_76 rfl (lv_at hl 1 rfl) ?_
          refine cs_get F St 15 rfl rfl inX12 15 (by decide) kf_X12_296 rfl dX12_endMonth_77 ?_
          refine va_mmin hx hb (F.2.2.1.trans hl.1.symm) F.2.2.2.1 (F.2.2.2.2 _ km_X12_254) (F.2.2.2.2 _ ks_J9_min_7cf53) (F.2.2.2.2 _ ki_J9) (F.2.2.2.2 _ kd_J9_min_7cf53) (Nat.le_of_ble_eq_true rfl) (Nat.le_of_ble_eq_true rfl) (Nat.le_of_ble_eq_true rfl) (Nat.le_of_ble_eq_true rfl) dX12_endMonth_80 ?_
          refine lv_topi (fun y_25 ey_25 => ?_)
          have jy_25 := ci_min (x := v_coin) (y := y_4) (u := v_coin.toInt) (v := y_4.toInt) rfl rfl ey_25
          refine lv_istore_n (lv' := [(2, .int y_25), (1, .int y_3.toInt32), (0, .ref h)]) hx hb dX12_endMonth_83 rfl hl (by decide) rfl (fun ls hl => ?_)
          refine lv_aload_n hx hb dX12_endMonth_84 rfl (lv_at hl 2 rfl) ?_
          refine lv_dup hx hb dX12_endMonth_85 rfl ?_
          refine cs_get F St 15 rfl rfl inX12 14 (by decide) kf_X12_262 rfl dX12_endMonth_86 ?_
          refine lv_iload_n hx hb dX12_endMonth_89 rfl (lv_at hl 0 rfl) ?_
          refine lv_isub hx hb dX12_endMonth_90 ?_
          refine lv_topi (fun y_26 ey_26 => ?_)
          first | have jy_26 : y_26.toInt = v_coin.toInt - y_25.toInt := (by have q9 := ci_sub (x := v_coin) (y := y_25) rfl rfl ey_26; omega) | have jy_26 := ci_sub (x := v_coin) (y := y_25) rfl rfl ey_26
          refine cs_put F St 15 rfl rfl inX12 tyX12_ok nmX12 14 (by decide) kf_X12_262 rfl rfl rfl (Nat.le_of_ble_eq_true rfl) (w' := [(qarI (a 0) (d 0) 9 f_rule), (qarI (a 26) (d 26) 8 f_cost), (qarI (a 10) (d 10) 60 f_giver), (qarI (a 16) (d 16) 60 q_isLapsed), (qarI (a 17) (d 17) 60 f_wasTakenUp), (qarI (a 12) (d 12) 60 f_first), (qarI (a 13) (d 13) 60 f_every), (qarI (a 14) (d 14) 60 f_dues), (qarI (a 18) (d 18) 5040 f_due), (qarI (a 19) (d 19) 5040 f_filled), (qarI (a 20) (d 20) 5040 q_isThere), (qarI (a 21) (d 21) 5040 q_counts), (qarI (a 15) (d 15) 60 q_lapsedAt), (qarI (a 30) (d 30) 8 f_paused), (qarI (a 29) (d 29) 8 f_stagePaid), (cMq a h v_taped v_size v_from v_behind v_hand v_value v_fault v_faultAt v_clock y_26 y_4 v_matched v_taxed v_paidStages y_5 v_pledges v_sums v_stages v_isStopped v_begun), (qarI (a 28) (d 28) 8 f_parts), (qarI (a 27) (d 27) 8 f_length)]) rfl dX12_endMonth_91 (fun H locs St => ?_)
          refine lv_aload_n hx hb dX12_endMonth_94 rfl (lv_at hl 2 rfl) ?_
          refine lv_dup hx hb dX12_endMonth_95 rfl ?_
          refine cs_get F St 15 rfl rfl inX12 15 (by decide) kf_X12_296 rfl dX12_endMonth_96 ?_
          refine lv_iload_n hx hb dX12_endMonth_99 rfl (lv_at hl 0 rfl) ?_
          refine lv_isub hx hb dX12_endMonth_100 ?_
          refine lv_topi (fun y_27 ey_27 => ?_)
          first | have jy_27 : y_27.toInt = y_4.toInt - y_25.toInt := (by have q9 := ci_sub (x := y_4) (y := y_25) rfl rfl ey_27; omega) | have jy_27 := ci_sub (x := y_4) (y := y_25) rfl rfl ey_27
          refine cs_put F St 15 rfl rfl inX12 tyX12_ok nmX12 15 (by decide) kf_X12_296 rfl rfl rfl (Nat.le_of_ble_eq_true rfl) (w' := [(qarI (a 0) (d 0) 9 f_rule), (qarI (a 26) (d 26) 8 f_cost), (qarI (a 10) (d 10) 60 f_giver), (qarI (a 16) (d 16) 60 q_isLapsed), (qarI (a 17) (d 17) 60 f_wasTakenUp), (qarI (a 12) (d 12) 60 f_first), (qarI (a 13) (d 13) 60 f_every), (qarI (a 14) (d 14) 60 f_dues), (qarI (a 18) (d 18) 5040 f_due), (qarI (a 19) (d 19) 5040 f_filled), (qarI (a 20) (d 20) 5040 q_isThere), (qarI (a 21) (d 21) 5040 q_counts), (qarI (a 15) (d 15) 60 q_lapsedAt), (qarI (a 30) (d 30) 8 f_paused), (qarI (a 29) (d 29) 8 f_stagePaid), (cMq a h v_taped v_size v_from v_behind v_hand v_value v_fault v_faultAt v_clock y_26 y_27 v_matched v_taxed v_paidStages y_5 v_pledges v_sums v_stages v_isStopped v_begun), (qarI (a 28) (d 28) 8 f_parts), (qarI (a 27) (d 27) 8 f_length)]) rfl dX12_endMonth_101 (fun H locs St => ?_)
          refine lv_aload_n hx hb dX12_endMonth_104 rfl (lv_at hl 2 rfl) ?_
          refine lv_dup hx hb dX12_endMonth_105 rfl ?_
          refine cs_get F St 15 rfl rfl inX12 13 (by decide) kf_X12_230 rfl dX12_endMonth_106 ?_
          refine lv_iconst (v := 1) hx hb dX12_endMonth_109 (by decide) ?_
          refine lv_iadd hx hb dX12_endMonth_110 ?_
          refine lv_topi (fun y_28 ey_28 => ?_)
          first | have jy_28 : y_28.toInt = v_clock.toInt + 1 := (by have q9 := ci_add (x := v_clock) (y := 1) rfl (show (1 : Int32).toInt = 1 by decide) ey_28; omega) | have jy_28 := ci_add (x := v_clock) (y := 1) rfl (show (1 : Int32).toInt = 1 by decide) ey_28
          refine cs_put F St 15 rfl rfl inX12 tyX12_ok nmX12 13 (by decide) kf_X12_230 rfl rfl rfl (Nat.le_of_ble_eq_true rfl) (w' := [(qarI (a 0) (d 0) 9 f_rule), (qarI (a 26) (d 26) 8 f_cost), (qarI (a 10) (d 10) 60 f_giver), (qarI (a 16) (d 16) 60 q_isLapsed), (qarI (a 17) (d 17) 60 f_wasTakenUp), (qarI (a 12) (d 12) 60 f_first), (qarI (a 13) (d 13) 60 f_every), (qarI (a 14) (d 14) 60 f_dues), (qarI (a 18) (d 18) 5040 f_due), (qarI (a 19) (d 19) 5040 f_filled), (qarI (a 20) (d 20) 5040 q_isThere), (qarI (a 21) (d 21) 5040 q_counts), (qarI (a 15) (d 15) 60 q_lapsedAt), (qarI (a 30) (d 30) 8 f_paused), (qarI (a 29) (d 29) 8 f_stagePaid), (cMq a h v_taped v_size v_from v_behind v_hand v_value v_fault v_faultAt y_28 y_26 y_27 v_matched v_taxed v_paidStages y_5 v_pledges v_sums v_stages v_isStopped v_begun), (qarI (a 28) (d 28) 8 f_parts), (qarI (a 27) (d 27) 8 f_length)]) rfl dX12_endMonth_111 (fun H locs St => ?_)
          exact cs_vret F hr hlk hQ St (y_26, y_27, y_5, v_paidStages, y_28, q_isLapsed, q_lapsedAt, q_isThere, q_counts, f_paused, f_stagePaid, f_parts) ⟨by omega, pb_of hY (by omega), by rw [show v_pledges.toNatClampNeg = kk.toNatClampNeg by omega]; exact hMq⟩ [15, 0, 1, 17, 2, 3, 4, 5, 6, 7, 8, 9, 10, 11, 12, 13, 14, 16] rfl (by decide) [] rfl (by decide) (by decide) dX12_endMonth_114
      ·
        have i7 := ci_nle (x := v_pledges) (y := kk) rfl rfl c7
        have hix : (kk.toNatClampNeg : Int) < v_pledges.toInt := by omega
        have hm9 := hMq.1 _ hix
        rw [lapT_at] at hm9
        have hw9 := hA _ hix
        obtain ⟨T9, eT9⟩ : ∃ z, z = tP kk.toNatClampNeg := ⟨_, rfl⟩
        rw [← eT9] at hm9 hw9
        obtain ⟨Nn, pg, pf, pe, pl, pk, wD, wF, wS⟩ := T9
        have hR := hm9.2
        have hW := hw9.2.1
        have hL := hw9.2.2.1
        refine lv_aload_n hx hb dX12_endMonth_10 rfl (lv_at hl 1 rfl) ?_
        refine lv_iload_n hx hb dX12_endMonth_11 rfl (lv_at hl 0 rfl) ?_
        refine cs_v St [0, 7, 8, 9, 10, 11, 12, 13, 1, 5, 14] [2, 3, 4, 6, 15, 16, 17] (wc := [(cMq a h v_taped v_size v_from v_behind v_hand v_value v_fault v_faultAt v_clock v_coin v_loan v_matched v_taxed v_paidStages v_grown v_pledges v_sums v_stages v_isStopped v_begun), (qarI (a 12) (d 12) 60 f_first), (qarI (a 13) (d 13) 60 f_every), (qarI (a 14) (d 14) 60 f_dues), (qarI (a 18) (d 18) 5040 f_due), (qarI (a 19) (d 19) 5040 f_filled), (qarI (a 20) (d 20) 5040 q_isThere), (qarI (a 21) (d 21) 5040 q_counts), (qarI (a 0) (d 0) 9 f_rule), (qarI (a 16) (d 16) 60 q_isLapsed), (qarI (a 15) (d 15) 60 q_lapsedAt)]) (wr := [(qarI (a 26) (d 26) 8 f_cost), (qarI (a 27) (d 27) 8 f_length), (qarI (a 10) (d 10) 60 f_giver), (qarI (a 17) (d 17) 60 f_wasTakenUp), (qarI (a 30) (d 30) 8 f_paused), (qarI (a 29) (d 29) 8 f_stagePaid), (qarI (a 28) (d 28) 8 f_parts)]) rfl rfl (by decide) (by decide) (va_runV (As := [.int kk]) (rest := []) F (e12_lapse l G k _ h a d v_taped v_size v_from v_behind v_hand v_value v_fault v_faultAt v_clock v_coin v_loan v_matched v_taxed v_paidStages v_grown v_pledges v_sums v_stages v_isStopped v_begun f_first f_every f_dues f_due f_filled q_isThere q_counts f_rule q_isLapsed q_lapsedAt kk hPd (by omega) (by omega) Nn pf pe wD wF wS hW hR hL) (cwVt F mf_X12_lapse km_X12_301 rfl rfl ⟨Nat.le_of_ble_eq_true rfl, Nat.le_of_ble_eq_true rfl⟩) (cs_preV St [0, 7, 8, 9, 10, 11, 12, 13, 1, 5, 14] rfl (by decide) [6, 7, 8, 9, 10, 11, 12, 0, 4, 13] rfl (ci := 12) (q0 := 0) rfl rfl) rfl rfl hl.1 rfl (lv_room (Nat.le_of_ble_eq_true rfl)) dX12_endMonth_12 ⟨Nat.le_of_ble_eq_true rfl, Nat.le_of_ble_eq_true rfl⟩) (fun u_30 H locs hw St => ?_)
        obtain ⟨g_isLapsed_31, g_lapsedAt_32, g_isThere_33, g_counts_34⟩ := u_30
        try dsimp only at hw
        have hf_35 := hw
        have St : cS G k [(qarI (a 26) (d 26) 8 f_cost), (qarI (a 27) (d 27) 8 f_length), (qarI (a 10) (d 10) 60 f_giver), (qarI (a 17) (d 17) 60 f_wasTakenUp), (qarI (a 30) (d 30) 8 f_paused), (qarI (a 29) (d 29) 8 f_stagePaid), (qarI (a 28) (d 28) 8 f_parts), (cMq a h v_taped v_size v_from v_behind v_hand v_value v_fault v_faultAt v_clock v_coin v_loan v_matched v_taxed v_paidStages v_grown v_pledges v_sums v_stages v_isStopped v_begun), (qarI (a 12) (d 12) 60 f_first), (qarI (a 13) (d 13) 60 f_every), (qarI (a 14) (d 14) 60 f_dues), (qarI (a 18) (d 18) 5040 f_due), (qarI (a 19) (d 19) 5040 f_filled), (qarI (a 20) (d 20) 5040 g_isThere_33), (qarI (a 21) (d 21) 5040 g_counts_34), (qarI (a 0) (d 0) 9 f_rule), (qarI (a 16) (d 16) 60 g_isLapsed_31), (qarI (a 15) (d 15) 60 g_lapsedAt_32)] [((d 0), .int), ((d 26), .int), ((d 27), .int), ((d 10), .int), ((d 16), .boolean), ((d 17), .boolean), ((d 12), .int), ((d 13), .int), ((d 14), .int), ((d 18), .int), ((d 19), .int), ((d 20), .boolean), ((d 21), .boolean), ((d 15), .int), ((d 30), .int), ((d 29), .int), ((d 28), .int)] A s H locs := St
        obtain ⟨y_36, ey_36⟩ : ∃ zz : Int32, zz = kk + 1 := ⟨_, rfl⟩
        first | have jy_36 : y_36.toInt = kk.toInt + 1 := (by have q9 := ci_add (x := kk) rfl (show (1 : Int32).toInt = 1 by decide) ey_36; omega) | have jy_36 := ci_add (x := kk) rfl (show (1 : Int32).toInt = 1 by decide) ey_36
        refine lv_iinc (v := y_36) (lv' := [(1, .int y_36), (0, .ref h)]) hx hb dX12_endMonth_15 hl (k := 0) rfl (by rw [ey_36]; rfl) (by decide) rfl (fun ls hl => ?_)
        refine lv_goto (tgt := 2) hx hb dX12_endMonth_18 (by decide) ?_
        exact ih y_36 g_isLapsed_31 g_lapsedAt_32 g_isThere_33 g_counts_34 _ _ _ ⟨⟨by omega, by omega⟩, by rw [nc_s hI0 (show y_36.toInt = kk.toInt + 1 by omega)]; exact la_tab hMq hA hix eT9 hF4.1 hf_35⟩ (by omega) (cs_pick St [7, 15, 0, 1, 2, 16, 3, 8, 9, 10, 11, 12, 13, 14, 17, 4, 5, 6] rfl (by decide) [0, 1, 2, 3, 4, 5, 6, 7, 8, 9, 10, 11, 12, 13, 14, 15, 16] rfl) (lv_sub hl [0, 1] rfl)
  exact lp2 61 0 f_isLapsed f_lapsedAt f_isThere f_counts _ _ _ ⟨⟨by omega, by omega⟩, by rw [show (0 : Int32).toNatClampNeg = 0 from rfl, lapT_0]; exact hM⟩ (by omega) St (lv_sub hl [0, 1] rfl)
set_option maxHeartbeats 4000000 in
set_option maxRecDepth 100000 in
theorem e12_months (l : Launch) (G : va_G) (k : Nat → Nat) (sz : Nat) (h : Nat) (a : Nat → Nat) (d : Nat → ClassId) (v_taped : Int32) (v_size : Int32) (v_from : Int32) (v_behind : Int32) (v_hand : Int32) (v_value : Int32) (v_fault : Int32) (v_faultAt : Int32) (v_clock : Int32) (v_coin : Int32) (v_loan : Int32) (v_matched : Int32) (v_taxed : Int32) (v_paidStages : Int32) (v_grown : Int32) (v_pledges : Int32) (v_sums : Int32) (v_stages : Int32) (v_isStopped : Int32) (v_begun : Int32) (f_rule : Nat → Int32) (f_cost : Nat → Int32) (f_length : Nat → Int32) (f_giver : Nat → Int32) (f_isLapsed : Nat → Int32) (f_wasTakenUp : Nat → Int32) (f_first : Nat → Int32) (f_every : Nat → Int32) (f_dues : Nat → Int32) (f_due : Nat → Int32) (f_filled : Nat → Int32) (f_isThere : Nat → Int32) (f_counts : Nat → Int32) (f_lapsedAt : Nat → Int32) (f_paused : Nat → Int32) (f_stagePaid : Nat → Int32) (f_parts : Nat → Int32) (x1 : Int32) (hPd : mPd v_pledges f_dues) (hSt : mSt v_stages v_begun f_length) (hc0 : 0 ≤ v_clock.toInt) (hc1 : v_clock.toInt ≤ 119) (hF : rbd f_rule) (cbd : Int) (hcbd : cbd ≤ 2000000000) (hwM : wfM v_stages.toInt v_begun.toInt f_cost f_length cbd (lB v_clock.toNatClampNeg) (v_coin.toInt, v_loan.toInt, v_grown, v_paidStages, f_parts, f_stagePaid, f_paused)) (tP : Nat → Pl9) (hM : mR v_pledges (tP) f_giver f_isLapsed f_wasTakenUp f_first f_every f_dues f_due f_filled f_isThere f_counts) (hA : wfA v_pledges v_clock.toInt tP) : Met l yX12_months (Cond.code yX12_months cX12_months 3 (some .int) :: tb) ({ frames := 4, cells := 0, slots := 0, locals := 90 } : Room) (va_Pc [.ref h, .int x1] (cP G k [(cMq a h v_taped v_size v_from v_behind v_hand v_value v_fault v_faultAt v_clock v_coin v_loan v_matched v_taxed v_paidStages v_grown v_pledges v_sums v_stages v_isStopped v_begun), (qarI (a 0) (d 0) 9 f_rule), (qarI (a 26) (d 26) 8 f_cost), (qarI (a 27) (d 27) 8 f_length), (qarI (a 10) (d 10) 60 f_giver), (qarI (a 16) (d 16) 60 f_isLapsed), (qarI (a 17) (d 17) 60 f_wasTakenUp), (qarI (a 12) (d 12) 60 f_first), (qarI (a 13) (d 13) 60 f_every), (qarI (a 14) (d 14) 60 f_dues), (qarI (a 18) (d 18) 5040 f_due), (qarI (a 19) (d 19) 5040 f_filled), (qarI (a 20) (d 20) 5040 f_isThere), (qarI (a 21) (d 21) 5040 f_counts), (qarI (a 15) (d 15) 60 f_lapsedAt), (qarI (a 30) (d 30) 8 f_paused), (qarI (a 29) (d 29) 8 f_stagePaid), (qarI (a 28) (d 28) 8 f_parts)] [((d 0), .int), ((d 26), .int), ((d 27), .int), ((d 10), .int), ((d 16), .boolean), ((d 17), .boolean), ((d 12), .int), ((d 13), .int), ((d 14), .int), ((d 18), .int), ((d 19), .int), ((d 20), .boolean), ((d 21), .boolean), ((d 15), .int), ((d 30), .int), ((d 29), .int), ((d 28), .int)] sz)) (va_Qi (fun (r : Int32) (u : Int32 × Int32 × Int32 × Int32 × Int32 × (Nat → Int32) × (Nat → Int32) × (Nat → Int32) × (Nat → Int32) × (Nat → Int32) × (Nat → Int32) × (Nat → Int32) × (Nat → Pl9)) => match u with | (w_coin, w_loan, w_grown, w_paidStages, w_clock, g_isLapsed, g_lapsedAt, g_isThere, g_counts, g_paused, g_stagePaid, g_parts, tP2) => (Rmon v_isStopped v_pledges v_begun v_clock x1 f_rule f_cost f_length tP (v_coin.toInt, v_loan.toInt, v_grown, v_paidStages, f_parts, f_stagePaid, f_paused) r w_clock tP2 (w_coin.toInt, w_loan.toInt, w_grown, w_paidStages, g_parts, g_stagePaid, g_paused)) ∧ (mR v_pledges (tP2) f_giver g_isLapsed f_wasTakenUp f_first f_every f_dues f_due f_filled g_isThere g_counts) ∧ (wfA v_pledges w_clock.toInt tP2)) (cB G (fun u => match u with | (w_coin, w_loan, w_grown, w_paidStages, w_clock, g_isLapsed, g_lapsedAt, g_isThere, g_counts, g_paused, g_stagePaid, g_parts, tP2) => [(cMq a h v_taped v_size v_from v_behind v_hand v_value v_fault v_faultAt w_clock w_coin w_loan v_matched v_taxed w_paidStages w_grown v_pledges v_sums v_stages v_isStopped v_begun), (qarI (a 0) (d 0) 9 f_rule), (qarI (a 26) (d 26) 8 f_cost), (qarI (a 27) (d 27) 8 f_length), (qarI (a 10) (d 10) 60 f_giver), (qarI (a 16) (d 16) 60 g_isLapsed), (qarI (a 17) (d 17) 60 f_wasTakenUp), (qarI (a 12) (d 12) 60 f_first), (qarI (a 13) (d 13) 60 f_every), (qarI (a 14) (d 14) 60 f_dues), (qarI (a 18) (d 18) 5040 f_due), (qarI (a 19) (d 19) 5040 f_filled), (qarI (a 20) (d 20) 5040 g_isThere), (qarI (a 21) (d 21) 5040 g_counts), (qarI (a 15) (d 15) 60 g_lapsedAt), (qarI (a 30) (d 30) 8 g_paused), (qarI (a 29) (d 29) 8 g_stagePaid), (qarI (a 28) (d 28) 8 g_parts)]) (fun u => match u with | (w_coin, w_loan, w_grown, w_paidStages, w_clock, g_isLapsed, g_lapsedAt, g_isThere, g_counts, g_paused, g_stagePaid, g_parts, tP2) => []) (va_A [(cMq a h v_taped v_size v_from v_behind v_hand v_value v_fault v_faultAt v_clock v_coin v_loan v_matched v_taxed v_paidStages v_grown v_pledges v_sums v_stages v_isStopped v_begun), (qarI (a 0) (d 0) 9 f_rule), (qarI (a 26) (d 26) 8 f_cost), (qarI (a 27) (d 27) 8 f_length), (qarI (a 10) (d 10) 60 f_giver), (qarI (a 16) (d 16) 60 f_isLapsed), (qarI (a 17) (d 17) 60 f_wasTakenUp), (qarI (a 12) (d 12) 60 f_first), (qarI (a 13) (d 13) 60 f_every), (qarI (a 14) (d 14) 60 f_dues), (qarI (a 18) (d 18) 5040 f_due), (qarI (a 19) (d 19) 5040 f_filled), (qarI (a 20) (d 20) 5040 f_isThere), (qarI (a 21) (d 21) 5040 f_counts), (qarI (a 15) (d 15) 60 f_lapsedAt), (qarI (a 30) (d 30) 8 f_paused), (qarI (a 29) (d 29) 8 f_stagePaid), (qarI (a 28) (d 28) 8 f_parts)] sz)) (va_A [(cMq a h v_taped v_size v_from v_behind v_hand v_value v_fault v_faultAt v_clock v_coin v_loan v_matched v_taxed v_paidStages v_grown v_pledges v_sums v_stages v_isStopped v_begun), (qarI (a 0) (d 0) 9 f_rule), (qarI (a 26) (d 26) 8 f_cost), (qarI (a 27) (d 27) 8 f_length), (qarI (a 10) (d 10) 60 f_giver), (qarI (a 16) (d 16) 60 f_isLapsed), (qarI (a 17) (d 17) 60 f_wasTakenUp), (qarI (a 12) (d 12) 60 f_first), (qarI (a 13) (d 13) 60 f_every), (qarI (a 14) (d 14) 60 f_dues), (qarI (a 18) (d 18) 5040 f_due), (qarI (a 19) (d 19) 5040 f_filled), (qarI (a 20) (d 20) 5040 f_isThere), (qarI (a 21) (d 21) 5040 f_counts), (qarI (a 15) (d 15) 60 f_lapsedAt), (qarI (a 30) (d 30) 8 f_paused), (qarI (a 29) (d 29) 8 f_stagePaid), (qarI (a 28) (d 28) 8 f_parts)] sz)) 0 0 (va_A [(cMq a h v_taped v_size v_from v_behind v_hand v_value v_fault v_faultAt v_clock v_coin v_loan v_matched v_taxed v_paidStages v_grown v_pledges v_sums v_stages v_isStopped v_begun), (qarI (a 0) (d 0) 9 f_rule), (qarI (a 26) (d 26) 8 f_cost), (qarI (a 27) (d 27) 8 f_length), (qarI (a 10) (d 10) 60 f_giver), (qarI (a 16) (d 16) 60 f_isLapsed), (qarI (a 17) (d 17) 60 f_wasTakenUp), (qarI (a 12) (d 12) 60 f_first), (qarI (a 13) (d 13) 60 f_every), (qarI (a 14) (d 14) 60 f_dues), (qarI (a 18) (d 18) 5040 f_due), (qarI (a 19) (d 19) 5040 f_filled), (qarI (a 20) (d 20) 5040 f_isThere), (qarI (a 21) (d 21) 5040 f_counts), (qarI (a 15) (d 15) 60 f_lapsedAt), (qarI (a 30) (d 30) 8 f_paused), (qarI (a 29) (d 29) 8 f_stagePaid), (qarI (a 28) (d 28) 8 f_parts)] sz) := by
  refine ofC_i (cc := cX12_months) (maxL := 3) (ret := (some .int)) (by decide) rfl (Nat.le_of_ble_eq_true rfl) ?_
  intro p e s m args below meth c A ls Q F hr hin hlk St hl hQ
  have hx := F.1
  have hb := F.2.1
  have hl : lv_has ls 3 [(0, .ref h), (1, .int x1)] := hl
  have St : cS G k [(cMq a h v_taped v_size v_from v_behind v_hand v_value v_fault v_faultAt v_clock v_coin v_loan v_matched v_taxed v_paidStages v_grown v_pledges v_sums v_stages v_isStopped v_begun), (qarI (a 0) (d 0) 9 f_rule), (qarI (a 26) (d 26) 8 f_cost), (qarI (a 27) (d 27) 8 f_length), (qarI (a 10) (d 10) 60 f_giver), (qarI (a 16) (d 16) 60 f_isLapsed), (qarI (a 17) (d 17) 60 f_wasTakenUp), (qarI (a 12) (d 12) 60 f_first), (qarI (a 13) (d 13) 60 f_every), (qarI (a 14) (d 14) 60 f_dues), (qarI (a 18) (d 18) 5040 f_due), (qarI (a 19) (d 19) 5040 f_filled), (qarI (a 20) (d 20) 5040 f_isThere), (qarI (a 21) (d 21) 5040 f_counts), (qarI (a 15) (d 15) 60 f_lapsedAt), (qarI (a 30) (d 30) 8 f_paused), (qarI (a 29) (d 29) 8 f_stagePaid), (qarI (a 28) (d 28) 8 f_parts)] [((d 0), .int), ((d 26), .int), ((d 27), .int), ((d 10), .int), ((d 16), .boolean), ((d 17), .boolean), ((d 12), .int), ((d 13), .int), ((d 14), .int), ((d 18), .int), ((d 19), .int), ((d 20), .boolean), ((d 21), .boolean), ((d 15), .int), ((d 30), .int), ((d 29), .int), ((d 28), .int)] A s s.heap [] := St
  have hpd := hPd.1
  have htd := hSt.1
  have y0 : (0 : Int32).toInt = 0 := by decide
  have hF0 := hF.1
  have hF1 := hF.2.1
  have hF2 := hF.2.2.1
  have hF3 := hF.2.2.2.1
  have hF4 := hF.2.2.2.2.1
  have hF5 := hF.2.2.2.2.2.1
  have hF6 := hF.2.2.2.2.2.2.1
  have hF7 := hF.2.2.2.2.2.2.2
  have hn5 := nc_int (x := v_pledges) (by omega)
  have hn6 := nc_int (x := v_clock) (by omega)
  have hA9 : ∀ i_, i_ < v_pledges.toNatClampNeg → wfT v_clock.toInt (tP i_) := fun i_ h_ => hA i_ (by omega)
  refine lv_iload_n hx hb dX12_months_0 rfl (lv_at hl 1 rfl) ?_
  refine lv_i2l (v := x1.toInt64) hx hb dX12_months_1 rfl ?_
  refine lv_lconst (v := 1) hx hb dX12_months_2 (by decide) ?_
  refine lv_ldc2 (v := 24) hx hb F.2.2.2.1 (F.2.2.2.2 _ kk_X12_284) dX12_months_3 ?_
  refine cs_i St [] [0, 1, 2, 3, 4, 5, 6, 7, 8, 9, 10, 11, 12, 13, 14, 15, 16, 17] (wc := []) (wr := [(cMq a h v_taped v_size v_from v_behind v_hand v_value v_fault v_faultAt v_clock v_coin v_loan v_matched v_taxed v_paidStages v_grown v_pledges v_sums v_stages v_isStopped v_begun), (qarI (a 0) (d 0) 9 f_rule), (qarI (a 26) (d 26) 8 f_cost), (qarI (a 27) (d 27) 8 f_length), (qarI (a 10) (d 10) 60 f_giver), (qarI (a 16) (d 16) 60 f_isLapsed), (qarI (a 17) (d 17) 60 f_wasTakenUp), (qarI (a 12) (d 12) 60 f_first), (qarI (a 13) (d 13) 60 f_every), (qarI (a 14) (d 14) 60 f_dues), (qarI (a 18) (d 18) 5040 f_due), (qarI (a 19) (d 19) 5040 f_filled), (qarI (a 20) (d 20) 5040 f_isThere), (qarI (a 21) (d 21) 5040 f_counts), (qarI (a 15) (d 15) 60 f_lapsedAt), (qarI (a 30) (d 30) 8 f_paused), (qarI (a 29) (d 29) 8 f_stagePaid), (qarI (a 28) (d 28) 8 f_parts)]) rfl rfl (by decide) (by decide) (va_runS (As := [.long x1.toInt64, .long 1, .long 24]) (rest := []) F (c12_in l G k _ x1.toInt64 1 24 x1.toInt 1 24 (Int32.toInt_toInt64 x1) (by decide) (by decide)) (cwSt F mf_X12_in km_X12_58 rfl rfl ⟨Nat.le_of_ble_eq_true rfl, Nat.le_of_ble_eq_true rfl⟩) (cs_pre St [] rfl (by decide) [] rfl) rfl rfl hl.1 rfl (lv_room (Nat.le_of_ble_eq_true rfl)) dX12_months_6 ⟨Nat.le_of_ble_eq_true rfl, Nat.le_of_ble_eq_true rfl⟩) (fun r_1 u_2 H locs hw St => ?_)
  try dsimp only at hw
  rcases hw with ⟨z_3, hf_4⟩ | ⟨z_5, hf_6⟩
  ·
    subst r_1
    have St : cS G k [(cMq a h v_taped v_size v_from v_behind v_hand v_value v_fault v_faultAt v_clock v_coin v_loan v_matched v_taxed v_paidStages v_grown v_pledges v_sums v_stages v_isStopped v_begun), (qarI (a 0) (d 0) 9 f_rule), (qarI (a 26) (d 26) 8 f_cost), (qarI (a 27) (d 27) 8 f_length), (qarI (a 10) (d 10) 60 f_giver), (qarI (a 16) (d 16) 60 f_isLapsed), (qarI (a 17) (d 17) 60 f_wasTakenUp), (qarI (a 12) (d 12) 60 f_first), (qarI (a 13) (d 13) 60 f_every), (qarI (a 14) (d 14) 60 f_dues), (qarI (a 18) (d 18) 5040 f_due), (qarI (a 19) (d 19) 5040 f_filled), (qarI (a 20) (d 20) 5040 f_isThere), (qarI (a 21) (d 21) 5040 f_counts), (qarI (a 15) (d 15) 60 f_lapsedAt), (qarI (a 30) (d 30) 8 f_paused), (qarI (a 29) (d 29) 8 f_stagePaid), (qarI (a 28) (d 28) 8 f_parts)] [((d 0), .int), ((d 26), .int), ((d 27), .int), ((d 10), .int), ((d 16), .boolean), ((d 17), .boolean), ((d 12), .int), ((d 13), .int), ((d 14), .int), ((d 18), .int), ((d 19), .int), ((d 20), .boolean), ((d 21), .boolean), ((d 15), .int), ((d 30), .int), ((d 29), .int), ((d 28), .int)] A s H locs := St
    refine lv_if_eq (tgt := 23) hx hb dX12_months_9 (by decide) (fun c9 => ?_) (fun c9 => ?_)
    · exact absurd c9 (by decide)
    refine lv_aload_n hx hb dX12_months_12 rfl (lv_at hl 0 rfl) ?_
    refine cs_get F St 0 rfl rfl inX12 13 (by decide) kf_X12_230 rfl dX12_months_13 ?_
    refine lv_iload_n hx hb dX12_months_16 rfl (lv_at hl 1 rfl) ?_
    refine lv_iadd hx hb dX12_months_17 ?_
    refine lv_topi (fun y_7 ey_7 => ?_)
    first | have jy_7 : y_7.toInt = v_clock.toInt + x1.toInt := (by have q9 := ci_add (x := v_clock) (y := x1) rfl rfl ey_7; omega) | have jy_7 := ci_add (x := v_clock) (y := x1) rfl rfl ey_7
    refine lv_bipush (v := 119) hx hb dX12_months_18 (by decide) ?_
    refine lv_icmp_le (tgt := 26) hx hb dX12_months_20 (by decide) (fun c20 => ?_) (fun c20 => ?_)
    ·
      have i20 := ci_le (x := y_7) (y := 119) rfl (show (119 : Int32).toInt = 119 by decide) c20
      refine lv_aload_n hx hb dX12_months_26 rfl (lv_at hl 0 rfl) ?_
      refine cs_get F St 0 rfl rfl inX12 23 (by decide) kf_X12_224 rfl dX12_months_27 ?_
      refine lv_if_eq (tgt := 36) hx hb dX12_months_30 (by decide) (fun c30 => ?_) (fun c30 => ?_)
      ·
        have i30 := ci_eq (x := v_isStopped) (y := 0) rfl (show (0 : Int32).toInt = 0 by decide) c30
        refine lv_iconst (v := 0) hx hb dX12_months_36 (by decide) ?_
        refine lv_istore_n (lv' := [(2, .int 0), (0, .ref h), (1, .int x1)]) hx hb dX12_months_37 rfl hl (by decide) rfl (fun ls hl => ?_)
        have lp38 : ∀ (n : Nat) (kk : Int32) (q_coin : Int32) (q_loan : Int32) (q_grown : Int32) (q_paidStages : Int32) (q_clock : Int32) (q_isLapsed : Nat → Int32) (q_lapsedAt : Nat → Int32) (q_isThere : Nat → Int32) (q_counts : Nat → Int32) (q_paused : Nat → Int32) (q_stagePaid : Nat → Int32) (q_parts : Nat → Int32) (H : Heap) (locs : List Loc) (ls : Array Slot), (((0 ≤ kk.toInt ∧ kk.toInt ≤ x1.toInt) ∧ q_clock.toInt = v_clock.toInt + kk.toInt) ∧ mR v_pledges (lpI (f_rule (4 : Int32).toNatClampNeg).toInt v_pledges.toNatClampNeg v_clock.toInt kk.toNatClampNeg tP) f_giver q_isLapsed f_wasTakenUp f_first f_every f_dues f_due f_filled q_isThere q_counts ∧ (q_coin.toInt, q_loan.toInt, q_grown, q_paidStages, q_parts, q_stagePaid, q_paused) = mnI (f_rule (6 : Int32).toNatClampNeg).toInt (100 * (f_rule (5 : Int32).toNatClampNeg).toInt) v_begun.toInt f_cost f_length kk.toNatClampNeg (v_coin.toInt, v_loan.toInt, v_grown, v_paidStages, f_parts, f_stagePaid, f_paused)) → ((24 - kk.toInt).toNat) < n → cS G k [(cMq a h v_taped v_size v_from v_behind v_hand v_value v_fault v_faultAt q_clock q_coin q_loan v_matched v_taxed q_paidStages q_grown v_pledges v_sums v_stages v_isStopped v_begun), (qarI (a 0) (d 0) 9 f_rule), (qarI (a 26) (d 26) 8 f_cost), (qarI (a 27) (d 27) 8 f_length), (qarI (a 10) (d 10) 60 f_giver), (qarI (a 16) (d 16) 60 q_isLapsed), (qarI (a 17) (d 17) 60 f_wasTakenUp), (qarI (a 12) (d 12) 60 f_first), (qarI (a 13) (d 13) 60 f_every), (qarI (a 14) (d 14) 60 f_dues), (qarI (a 18) (d 18) 5040 f_due), (qarI (a 19) (d 19) 5040 f_filled), (qarI (a 20) (d 20) 5040 q_isThere), (qarI (a 21) (d 21) 5040 q_counts), (qarI (a 15) (d 15) 60 q_lapsedAt), (qarI (a 30) (d 30) 8 q_paused), (qarI (a 29) (d 29) 8 q_stagePaid), (qarI (a 28) (d 28) 8 q_parts)] [((d 0), .int), ((d 26), .int), ((d 27), .int), ((d 10), .int), ((d 16), .boolean), ((d 17), .boolean), ((d 12), .int), ((d 13), .int), ((d 14), .int), ((d 18), .int), ((d 19), .int), ((d 20), .boolean), ((d 21), .boolean), ((d 15), .int), ((d 30), .int), ((d 29), .int), ((d 28), .int)] A s H locs → lv_has ls 3 [(2, .int kk), (0, .ref h), (1, .int x1)] → W p l e ({ frames := 4, cells := 0, slots := 0, locals := 90 } : Room) s m args below meth c H locs 0 0 Q (F0 m 38 ls []) := by
          intro n
          induction n with
          | zero => intro kk q_coin q_loan q_grown q_paidStages q_clock q_isLapsed q_lapsedAt q_isThere q_counts q_paused q_stagePaid q_parts H locs ls hI hn; exact absurd hn (Nat.not_lt_zero _)
          | succ n ih =>
            intro kk q_coin q_loan q_grown q_paidStages q_clock q_isLapsed q_lapsedAt q_isThere q_counts q_paused q_stagePaid q_parts H locs ls hI hn St hl
            obtain ⟨⟨⟨hI0, hI1⟩, hI2⟩, hMq, hTq⟩ := hI
            have nk := nc_int hI0
            refine lv_iload_n hx hb dX12_months_38 rfl (lv_at hl 0 rfl) ?_
            refine lv_iload_n hx hb dX12_months_39 rfl (lv_at hl 2 rfl) ?_
            refine lv_icmp_ge (tgt := 53) hx hb dX12_months_40 (by decide) (fun c40 => ?_) (fun c40 => ?_)
            ·
              have i40 := ci_le (x := x1) (y := kk) rfl rfl c40
              refine lv_aload_n hx hb dX12_months_53 rfl (lv_at hl 1 rfl) ?_
              refine cs_get F St 0 rfl rfl inX12 13 (by decide) kf_X12_230 rfl dX12_months_54 ?_
              have hkx : kk.toNatClampNeg = x1.toNatClampNeg := by have q9 := nc_int (x := x1) (by omega); omega
              have hn9 := nc_int (x := x1) (by omega)
              exact cs_iret F hr hlk hQ St (q_coin, q_loan, q_grown, q_paidStages, q_clock, q_isLapsed, q_lapsedAt, q_isThere, q_counts, q_paused, q_stagePaid, q_parts, (lpI (f_rule (4 : Int32).toNatClampNeg).toInt v_pledges.toNatClampNeg v_clock.toInt x1.toNatClampNeg tP)) (r := q_clock) ⟨Or.inr (Or.inr (⟨rfl, by omega, by omega, rfl, by rw [hkx] at hTq; exact hTq⟩)), by rw [hkx] at hMq; exact hMq, fun i_ hi_ => by have q9 := wf_lpI (y := (f_rule (4 : Int32).toNatClampNeg).toInt) (nP := v_pledges.toNatClampNeg) hA9 x1.toNatClampNeg i_ (by omega); rw [show q_clock.toInt = v_clock.toInt + x1.toNatClampNeg by omega]; exact q9⟩ [0, 1, 2, 3, 4, 5, 6, 7, 8, 9, 10, 11, 12, 13, 14, 15, 16, 17] rfl (by decide) [] rfl (by decide) (by decide) dX12_months_57
            ·
              have i40 := ci_nle (x := x1) (y := kk) rfl rfl c40
              refine lv_aload_n hx hb dX12_months_43 rfl (lv_at hl 1 rfl) ?_
              refine cs_v St [0, 1, 2, 3, 4, 5, 6, 7, 8, 9, 10, 11, 12, 13, 14, 15, 16, 17] [] (wc := [(cMq a h v_taped v_size v_from v_behind v_hand v_value v_fault v_faultAt q_clock q_coin q_loan v_matched v_taxed q_paidStages q_grown v_pledges v_sums v_stages v_isStopped v_begun), (qarI (a 0) (d 0) 9 f_rule), (qarI (a 26) (d 26) 8 f_cost), (qarI (a 27) (d 27) 8 f_length), (qarI (a 10) (d 10) 60 f_giver), (qarI (a 16) (d 16) 60 q_isLapsed), (qarI (a 17) (d 17) 60 f_wasTakenUp), (qarI (a 12) (d 12) 60 f_first), (qarI (a 13) (d 13) 60 f_every), (qarI (a 14) (d 14) 60 f_dues), (qarI (a 18) (d 18) 5040 f_due), (qarI (a 19) (d 19) 5040 f_filled), (qarI (a 20) (d 20) 5040 q_isThere), (qarI (a 21) (d 21) 5040 q_counts), (qarI (a 15) (d 15) 60 q_lapsedAt), (qarI (a 30) (d 30) 8 q_paused), (qarI (a 29) (d 29) 8 q_stagePaid), (qarI (a 28) (d 28) 8 q_parts)]) (wr := []) rfl rfl (by decide) (by decide) (va_runV (As := []) (rest := []) F (e12_endMonth l G k _ h a d v_taped v_size v_from v_behind v_hand v_value v_fault v_faultAt q_clock q_coin q_loan v_matched v_taxed q_paidStages q_grown v_pledges v_sums v_stages v_isStopped v_begun f_rule f_cost f_length f_giver q_isLapsed f_wasTakenUp f_first f_every f_dues f_due f_filled q_isThere q_counts q_lapsedAt q_paused q_stagePaid q_parts hPd hSt (by omega) (by omega) hF cbd (lB (v_clock.toNatClampNeg + kk.toNatClampNeg)) (by omega) (by have := lB_le (n := v_clock.toNatClampNeg + kk.toNatClampNeg) (by omega); omega) (by rw [hTq]; exact wf_mI hwM hF6 (by omega) (by omega)) (lB_0 _) (lB_le (by omega)) (lpI (f_rule (4 : Int32).toNatClampNeg).toInt v_pledges.toNatClampNeg v_clock.toInt kk.toNatClampNeg tP) hMq (fun i_ hi_ => by rw [show q_clock.toInt = v_clock.toInt + (kk.toNatClampNeg : Int) by omega]; exact wf_lpI hA9 _ i_ (by omega))) (cwVt F mf_X12_endMonth km_X12_311 rfl rfl ⟨Nat.le_of_ble_eq_true rfl, Nat.le_of_ble_eq_true rfl⟩) (cs_preV St [0, 1, 2, 3, 4, 5, 6, 7, 8, 9, 10, 11, 12, 13, 14, 15, 16, 17] rfl (by decide) [0, 1, 2, 3, 4, 5, 6, 7, 8, 9, 10, 11, 12, 13, 14, 15, 16] rfl (ci := 12) (q0 := 0) rfl rfl) rfl rfl hl.1 rfl (lv_room (Nat.le_of_ble_eq_true rfl)) dX12_months_44 ⟨Nat.le_of_ble_eq_true rfl, Nat.le_of_ble_eq_true rfl⟩) (fun u_9 H locs hw St => ?_)
              obtain ⟨w_coin_10, w_loan_11, w_grown_12, w_paidStages_13, w_clock_14, g_isLapsed_15, g_lapsedAt_16, g_isThere_17, g_counts_18, g_paused_19, g_stagePaid_20, g_parts_21⟩ := u_9
              try dsimp only at hw
              obtain ⟨hcl_22, hT_23, hM2_24⟩ := hw
              have St : cS G k [(cMq a h v_taped v_size v_from v_behind v_hand v_value v_fault v_faultAt w_clock_14 w_coin_10 w_loan_11 v_matched v_taxed w_paidStages_13 w_grown_12 v_pledges v_sums v_stages v_isStopped v_begun), (qarI (a 0) (d 0) 9 f_rule), (qarI (a 26) (d 26) 8 f_cost), (qarI (a 27) (d 27) 8 f_length), (qarI (a 10) (d 10) 60 f_giver), (qarI (a 16) (d 16) 60 g_isLapsed_15), (qarI (a 17) (d 17) 60 f_wasTakenUp), (qarI (a 12) (d 12) 60 f_first), (qarI (a 13) (d 13) 60 f_every), (qarI (a 14) (d 14) 60 f_dues), (qarI (a 18) (d 18) 5040 f_due), (qarI (a 19) (d 19) 5040 f_filled), (qarI (a 20) (d 20) 5040 g_isThere_17), (qarI (a 21) (d 21) 5040 g_counts_18), (qarI (a 15) (d 15) 60 g_lapsedAt_16), (qarI (a 30) (d 30) 8 g_paused_19), (qarI (a 29) (d 29) 8 g_stagePaid_20), (qarI (a 28) (d 28) 8 g_parts_21)] [((d 0), .int), ((d 26), .int), ((d 27), .int), ((d 10), .int), ((d 16), .boolean), ((d 17), .boolean), ((d 12), .int), ((d 13), .int), ((d 14), .int), ((d 18), .int), ((d 19), .int), ((d 20), .boolean), ((d 21), .boolean), ((d 15), .int), ((d 30), .int), ((d 29), .int), ((d 28), .int)] A s H locs := St
              obtain ⟨y_25, ey_25⟩ : ∃ zz : Int32, zz = kk + 1 := ⟨_, rfl⟩
              first | have jy_25 : y_25.toInt = kk.toInt + 1 := (by have q9 := ci_add (x := kk) rfl (show (1 : Int32).toInt = 1 by decide) ey_25; omega) | have jy_25 := ci_add (x := kk) rfl (show (1 : Int32).toInt = 1 by decide) ey_25
              refine lv_iinc (v := y_25) (lv' := [(2, .int y_25), (0, .ref h), (1, .int x1)]) hx hb dX12_months_47 hl (k := 0) rfl (by rw [ey_25]; rfl) (by decide) rfl (fun ls hl => ?_)
              refine lv_goto (tgt := 38) hx hb dX12_months_50 (by decide) ?_
              exact ih y_25 w_coin_10 w_loan_11 w_grown_12 w_paidStages_13 w_clock_14 g_isLapsed_15 g_lapsedAt_16 g_isThere_17 g_counts_18 g_paused_19 g_stagePaid_20 g_parts_21 _ _ _ ⟨⟨⟨by omega, by omega⟩, by omega⟩, by rw [nc_s hI0 (show y_25.toInt = kk.toInt + 1 by omega)]; exact mn_tab hI2 nk hM2_24, by rw [nc_s hI0 (show y_25.toInt = kk.toInt + 1 by omega)]; exact mn_mo hTq hT_23⟩ (by omega) St (lv_sub hl [0, 1, 2] rfl)
        exact lp38 25 0 v_coin v_loan v_grown v_paidStages v_clock f_isLapsed f_lapsedAt f_isThere f_counts f_paused f_stagePaid f_parts _ _ _ ⟨⟨⟨by omega, by omega⟩, by omega⟩, hM, rfl⟩ (by omega) St (lv_sub hl [0, 1, 2] rfl)
      ·
        have i30 := ci_ne (x := v_isStopped) (y := 0) rfl (show (0 : Int32).toInt = 0 by decide) c30
        refine lv_bipush (v := (-4)) hx hb dX12_months_33 (by decide) ?_
        exact cs_iret F hr hlk hQ St (v_coin, v_loan, v_grown, v_paidStages, v_clock, f_isLapsed, f_lapsedAt, f_isThere, f_counts, f_paused, f_stagePaid, f_parts, tP) (r := (-4)) ⟨Or.inr (Or.inl ⟨rfl, by omega, rfl, rfl, rfl⟩), hM, hA⟩ [0, 1, 2, 3, 4, 5, 6, 7, 8, 9, 10, 11, 12, 13, 14, 15, 16, 17] rfl (by decide) [] rfl (by decide) (by decide) dX12_months_35
    ·
      have i20 := ci_nle (x := y_7) (y := 119) rfl (show (119 : Int32).toInt = 119 by decide) c20
      refine lv_bipush (v := (-2)) hx hb dX12_months_23 (by decide) ?_
      exact cs_iret F hr hlk hQ St (v_coin, v_loan, v_grown, v_paidStages, v_clock, f_isLapsed, f_lapsedAt, f_isThere, f_counts, f_paused, f_stagePaid, f_parts, tP) (r := (-2)) ⟨Or.inl ⟨rfl, by omega, rfl, rfl, rfl⟩, hM, hA⟩ [0, 1, 2, 3, 4, 5, 6, 7, 8, 9, 10, 11, 12, 13, 14, 15, 16, 17] rfl (by decide) [] rfl (by decide) (by decide) dX12_months_25
  ·
    subst r_1
    have St : cS G k [(cMq a h v_taped v_size v_from v_behind v_hand v_value v_fault v_faultAt v_clock v_coin v_loan v_matched v_taxed v_paidStages v_grown v_pledges v_sums v_stages v_isStopped v_begun), (qarI (a 0) (d 0) 9 f_rule), (qarI (a 26) (d 26) 8 f_cost), (qarI (a 27) (d 27) 8 f_length), (qarI (a 10) (d 10) 60 f_giver), (qarI (a 16) (d 16) 60 f_isLapsed), (qarI (a 17) (d 17) 60 f_wasTakenUp), (qarI (a 12) (d 12) 60 f_first), (qarI (a 13) (d 13) 60 f_every), (qarI (a 14) (d 14) 60 f_dues), (qarI (a 18) (d 18) 5040 f_due), (qarI (a 19) (d 19) 5040 f_filled), (qarI (a 20) (d 20) 5040 f_isThere), (qarI (a 21) (d 21) 5040 f_counts), (qarI (a 15) (d 15) 60 f_lapsedAt), (qarI (a 30) (d 30) 8 f_paused), (qarI (a 29) (d 29) 8 f_stagePaid), (qarI (a 28) (d 28) 8 f_parts)] [((d 0), .int), ((d 26), .int), ((d 27), .int), ((d 10), .int), ((d 16), .boolean), ((d 17), .boolean), ((d 12), .int), ((d 13), .int), ((d 14), .int), ((d 18), .int), ((d 19), .int), ((d 20), .boolean), ((d 21), .boolean), ((d 15), .int), ((d 30), .int), ((d 29), .int), ((d 28), .int)] A s H locs := St
    refine lv_if_eq (tgt := 23) hx hb dX12_months_9 (by decide) (fun c9 => ?_) (fun c9 => ?_)
    rotate_left
    · exact absurd (by decide) c9
    refine lv_bipush (v := (-2)) hx hb dX12_months_23 (by decide) ?_
    exact cs_iret F hr hlk hQ St (v_coin, v_loan, v_grown, v_paidStages, v_clock, f_isLapsed, f_lapsedAt, f_isThere, f_counts, f_paused, f_stagePaid, f_parts, tP) (r := (-2)) ⟨Or.inl ⟨rfl, by omega, rfl, rfl, rfl⟩, hM, hA⟩ [0, 1, 2, 3, 4, 5, 6, 7, 8, 9, 10, 11, 12, 13, 14, 15, 16, 17] rfl (by decide) [] rfl (by decide) (by decide) dX12_months_25

