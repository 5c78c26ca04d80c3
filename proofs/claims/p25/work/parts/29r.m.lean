set_option maxHeartbeats 4000000 in
set_option maxRecDepth 100000 in
theorem e12_come (l : Launch) (G : va_G) (k : Nat → Nat) (sz : Nat) (h : Nat) (a : Nat → Nat) (d : Nat → ClassId) (v_taped : Int32) (v_size : Int32) (v_from : Int32) (v_behind : Int32) (v_hand : Int32) (v_value : Int32) (v_fault : Int32) (v_faultAt : Int32) (v_clock : Int32) (v_coin : Int32) (v_loan : Int32) (v_matched : Int32) (v_taxed : Int32) (v_paidStages : Int32) (v_grown : Int32) (v_pledges : Int32) (v_sums : Int32) (v_stages : Int32) (v_isStopped : Int32) (v_begun : Int32) (f_sumGiver : Nat → Int32) (f_sumMonth : Nat → Int32) (f_sumPence : Nat → Int32) (f_isClaimed : Nat → Int32) (f_given : Nat → Int32) (f_rule : Nat → Int32) (x1 : Int32) (x2 : Int32) (hSg : mGi v_sums f_sumGiver) (hSp : mSp v_sums f_sumPence) (hg : 0 ≤ x1.toInt ∧ x1.toInt ≤ 29) (hx2 : 1 ≤ x2.toInt ∧ x2.toInt ≤ 5000000) (hs2 : v_sums.toInt < 250) (hF : rbd f_rule) (hGv : mGv v_sums f_sumGiver f_sumPence f_given) (hma : 0 ≤ v_matched.toInt ∧ v_matched.toInt ≤ 99999900) (hco : 0 ≤ v_coin.toInt ∧ v_coin.toInt ≤ 2000000000) (hu3 : f_isClaimed v_sums.toNatClampNeg = 0) : Met l yX12_come (Cond.code yX12_come cX12_come 4 (some .int) :: tb) ({ frames := 1, cells := 0, slots := 0, locals := 23 } : Room) (va_Pc [.ref h, .int x1, .int x2] (cP G k [(cMq a h v_taped v_size v_from v_behind v_hand v_value v_fault v_faultAt v_clock v_coin v_loan v_matched v_taxed v_paidStages v_grown v_pledges v_sums v_stages v_isStopped v_begun), (qarI (a 22) (d 22) 250 f_sumGiver), (qarI (a 23) (d 23) 250 f_sumMonth), (qarI (a 24) (d 24) 250 f_sumPence), (qarI (a 25) (d 25) 250 f_isClaimed), (qarI (a 7) (d 7) 30 f_given), (qarI (a 0) (d 0) 9 f_rule)] [((d 22), .int), ((d 23), .int), ((d 24), .int), ((d 25), .boolean), ((d 7), .int), ((d 0), .int)] sz)) (va_Qi (fun (r : Int32) (u : Int32 × Int32 × Int32 × (Nat → Int32) × (Nat → Int32) × (Nat → Int32) × (Nat → Int32) × (Nat → Int32)) => match u with | (w_sums, w_matched, w_coin, g_sumGiver, g_sumMonth, g_sumPence, g_isClaimed, g_given) => (Rcom v_sums v_clock x1 x2 f_rule f_sumGiver f_sumPence f_sumMonth v_matched.toInt v_coin.toInt r w_sums g_sumGiver g_sumPence g_sumMonth w_matched.toInt w_coin.toInt) ∧ (g_isClaimed = f_isClaimed) ∧ (mGv w_sums g_sumGiver g_sumPence g_given) ∧ (mGi w_sums g_sumGiver) ∧ (mSp w_sums g_sumPence)) (cB G (fun u => match u with | (w_sums, w_matched, w_coin, g_sumGiver, g_sumMonth, g_sumPence, g_isClaimed, g_given) => [(cMq a h v_taped v_size v_from v_behind v_hand v_value v_fault v_faultAt v_clock w_coin v_loan w_matched v_taxed v_paidStages v_grown v_pledges w_sums v_stages v_isStopped v_begun), (qarI (a 22) (d 22) 250 g_sumGiver), (qarI (a 23) (d 23) 250 g_sumMonth), (qarI (a 24) (d 24) 250 g_sumPence), (qarI (a 25) (d 25) 250 g_isClaimed), (qarI (a 7) (d 7) 30 g_given), (qarI (a 0) (d 0) 9 f_rule)]) (fun u => match u with | (w_sums, w_matched, w_coin, g_sumGiver, g_sumMonth, g_sumPence, g_isClaimed, g_given) => []) (va_A [(cMq a h v_taped v_size v_from v_behind v_hand v_value v_fault v_faultAt v_clock v_coin v_loan v_matched v_taxed v_paidStages v_grown v_pledges v_sums v_stages v_isStopped v_begun), (qarI (a 22) (d 22) 250 f_sumGiver), (qarI (a 23) (d 23) 250 f_sumMonth), (qarI (a 24) (d 24) 250 f_sumPence), (qarI (a 25) (d 25) 250 f_isClaimed), (qarI (a 7) (d 7) 30 f_given), (qarI (a 0) (d 0) 9 f_rule)] sz)) (va_A [(cMq a h v_taped v_size v_from v_behind v_hand v_value v_fault v_faultAt v_clock v_coin v_loan v_matched v_taxed v_paidStages v_grown v_pledges v_sums v_stages v_isStopped v_begun), (qarI (a 22) (d 22) 250 f_sumGiver), (qarI (a 23) (d 23) 250 f_sumMonth), (qarI (a 24) (d 24) 250 f_sumPence), (qarI (a 25) (d 25) 250 f_isClaimed), (qarI (a 7) (d 7) 30 f_given), (qarI (a 0) (d 0) 9 f_rule)] sz)) 0 0 (va_A [(cMq a h v_taped v_size v_from v_behind v_hand v_value v_fault v_faultAt v_clock v_coin v_loan v_matched v_taxed v_paidStages v_grown v_pledges v_sums v_stages v_isStopped v_begun), (qarI (a 22) (d 22) 250 f_sumGiver), (qarI (a 23) (d 23) 250 f_sumMonth), (qarI (a 24) (d 24) 250 f_sumPence), (qarI (a 25) (d 25) 250 f_isClaimed), (qarI (a 7) (d 7) 30 f_given), (qarI (a 0) (d 0) 9 f_rule)] sz) := by
  refine ofC_i (cc := cX12_come) (maxL := 4) (ret := (some .int)) (by decide) rfl (Nat.le_of_ble_eq_true rfl) ?_
  intro p e s m args below meth c A ls Q F hr hin hlk St hl hQ
  have hx := F.1
  have hb := F.2.1
  have hl : lv_has ls 4 [(0, .ref h), (1, .int x1), (2, .int x2)] := hl
  have St : cS G k [(cMq a h v_taped v_size v_from v_behind v_hand v_value v_fault v_faultAt v_clock v_coin v_loan v_matched v_taxed v_paidStages v_grown v_pledges v_sums v_stages v_isStopped v_begun), (qarI (a 22) (d 22) 250 f_sumGiver), (qarI (a 23) (d 23) 250 f_sumMonth), (qarI (a 24) (d 24) 250 f_sumPence), (qarI (a 25) (d 25) 250 f_isClaimed), (qarI (a 7) (d 7) 30 f_given), (qarI (a 0) (d 0) 9 f_rule)] [((d 22), .int), ((d 23), .int), ((d 24), .int), ((d 25), .boolean), ((d 7), .int), ((d 0), .int)] A s s.heap [] := St
  have hsd := hSp.1
  have hF0 := hF.1
  have hF1 := hF.2.1
  have hF2 := hF.2.2.1
  have hF3 := hF.2.2.2.1
  have hF4 := hF.2.2.2.2.1
  have hF5 := hF.2.2.2.2.2.1
  have hF6 := hF.2.2.2.2.2.2.1
  have hF7 := hF.2.2.2.2.2.2.2
  have hn1 := nc_int (x := x1) (by omega)
  have hn5 := nc_int (x := v_sums) (by omega)
  have hg9 := hGv x1.toNatClampNeg (by omega)
  have hgb := sG_bd (u0 := f_sumGiver) (g := (x1.toNatClampNeg : Int)) (k := v_sums.toNatClampNeg) hSp (by omega)
  rw [← hg9] at hgb
  refine lv_aload_n hx hb dX12_come_0 rfl (lv_at hl 0 rfl) ?_
  refine cs_get F St 0 rfl rfl inX12 41 (by decide) kf_X12_171 rfl dX12_come_1 ?_
  refine lv_aload_n hx hb dX12_come_4 rfl (lv_at hl 0 rfl) ?_
  refine cs_get F St 0 rfl rfl inX12 21 (by decide) kf_X12_246 rfl dX12_come_5 ?_
  refine lv_iload_n hx hb dX12_come_8 rfl (lv_at hl 1 rfl) ?_
  refine cs_ist F St 1 0 rfl rfl (vp_in_iff.mpr ⟨by omega, by omega⟩) (w' := [(cMq a h v_taped v_size v_from v_behind v_hand v_value v_fault v_faultAt v_clock v_coin v_loan v_matched v_taxed v_paidStages v_grown v_pledges v_sums v_stages v_isStopped v_begun), (qarI (a 22) (d 22) 250 (upd f_sumGiver (v_sums : Int32).toNatClampNeg x1)), (qarI (a 23) (d 23) 250 f_sumMonth), (qarI (a 24) (d 24) 250 f_sumPence), (qarI (a 25) (d 25) 250 f_isClaimed), (qarI (a 7) (d 7) 30 f_given), (qarI (a 0) (d 0) 9 f_rule)]) rfl dX12_come_9 (fun H locs St => ?_)
  obtain ⟨f_1, ef_1⟩ : ∃ zz : Nat → Int32, zz = upd f_sumGiver (v_sums : Int32).toNatClampNeg x1 := ⟨_, rfl⟩
  rw [← ef_1] at St
  refine lv_aload_n hx hb dX12_come_10 rfl (lv_at hl 0 rfl) ?_
  refine cs_get F St 0 rfl rfl inX12 42 (by decide) kf_X12_174 rfl dX12_come_11 ?_
  refine lv_aload_n hx hb dX12_come_14 rfl (lv_at hl 0 rfl) ?_
  refine cs_get F St 0 rfl rfl inX12 21 (by decide) kf_X12_246 rfl dX12_come_15 ?_
  refine lv_aload_n hx hb dX12_come_18 rfl (lv_at hl 0 rfl) ?_
  refine cs_get F St 0 rfl rfl inX12 13 (by decide) kf_X12_230 rfl dX12_come_19 ?_
  refine cs_ist F St 2 1 rfl rfl (vp_in_iff.mpr ⟨by omega, by omega⟩) (w' := [(cMq a h v_taped v_size v_from v_behind v_hand v_value v_fault v_faultAt v_clock v_coin v_loan v_matched v_taxed v_paidStages v_grown v_pledges v_sums v_stages v_isStopped v_begun), (qarI (a 22) (d 22) 250 f_1), (qarI (a 23) (d 23) 250 (upd f_sumMonth (v_sums : Int32).toNatClampNeg v_clock)), (qarI (a 24) (d 24) 250 f_sumPence), (qarI (a 25) (d 25) 250 f_isClaimed), (qarI (a 7) (d 7) 30 f_given), (qarI (a 0) (d 0) 9 f_rule)]) rfl dX12_come_22 (fun H locs St => ?_)
  obtain ⟨f_2, ef_2⟩ : ∃ zz : Nat → Int32, zz = upd f_sumMonth (v_sums : Int32).toNatClampNeg v_clock := ⟨_, rfl⟩
  rw [← ef_2] at St
  refine lv_aload_n hx hb dX12_come_23 rfl (lv_at hl 0 rfl) ?_
  refine cs_get F St 0 rfl rfl inX12 43 (by decide) kf_X12_177 rfl dX12_come_24 ?_
  refine lv_aload_n hx hb dX12_come_27 rfl (lv_at hl 0 rfl) ?_
  refine cs_get F St 0 rfl rfl inX12 21 (by decide) kf_X12_246 rfl dX12_come_28 ?_
  refine lv_iload_n hx hb dX12_come_31 rfl (lv_at hl 2 rfl) ?_
  refine cs_ist F St 3 2 rfl rfl (vp_in_iff.mpr ⟨by omega, by omega⟩) (w' := [(cMq a h v_taped v_size v_from v_behind v_hand v_value v_fault v_faultAt v_clock v_coin v_loan v_matched v_taxed v_paidStages v_grown v_pledges v_sums v_stages v_isStopped v_begun), (qarI (a 22) (d 22) 250 f_1), (qarI (a 23) (d 23) 250 f_2), (qarI (a 24) (d 24) 250 (upd f_sumPence (v_sums : Int32).toNatClampNeg x2)), (qarI (a 25) (d 25) 250 f_isClaimed), (qarI (a 7) (d 7) 30 f_given), (qarI (a 0) (d 0) 9 f_rule)]) rfl dX12_come_32 (fun H locs St => ?_)
  obtain ⟨f_3, ef_3⟩ : ∃ zz : Nat → Int32, zz = upd f_sumPence (v_sums : Int32).toNatClampNeg x2 := ⟨_, rfl⟩
  rw [← ef_3] at St
  refine lv_aload_n hx hb dX12_come_33 rfl (lv_at hl 0 rfl) ?_
  refine cs_get F St 0 rfl rfl inX12 44 (by decide) kf_X12_180 rfl dX12_come_34 ?_
  refine lv_aload_n hx hb dX12_come_37 rfl (lv_at hl 0 rfl) ?_
  refine cs_get F St 0 rfl rfl inX12 21 (by decide) kf_X12_246 rfl dX12_come_38 ?_
  refine lv_iconst (v := 0) hx hb dX12_come_41 (by decide) ?_
  refine cs_zst F St 4 3 rfl rfl (vp_in_iff.mpr ⟨by omega, by omega⟩) (w' := [(cMq a h v_taped v_size v_from v_behind v_hand v_value v_fault v_faultAt v_clock v_coin v_loan v_matched v_taxed v_paidStages v_grown v_pledges v_sums v_stages v_isStopped v_begun), (qarI (a 22) (d 22) 250 f_1), (qarI (a 23) (d 23) 250 f_2), (qarI (a 24) (d 24) 250 f_3), (qarI (a 25) (d 25) 250 (upd f_isClaimed (v_sums : Int32).toNatClampNeg (vp_nar .boolean 0))), (qarI (a 7) (d 7) 30 f_given), (qarI (a 0) (d 0) 9 f_rule)]) rfl dX12_come_42 (fun H locs St => ?_)
  obtain ⟨f_4, ef_4⟩ : ∃ zz : Nat → Int32, zz = upd f_isClaimed (v_sums : Int32).toNatClampNeg (vp_nar .boolean 0) := ⟨_, rfl⟩
  rw [← ef_4] at St
  refine lv_aload_n hx hb dX12_come_43 rfl (lv_at hl 0 rfl) ?_
  refine lv_dup hx hb dX12_come_44 rfl ?_
  refine cs_get F St 0 rfl rfl inX12 21 (by decide) kf_X12_246 rfl dX12_come_45 ?_
  refine lv_iconst (v := 1) hx hb dX12_come_48 (by decide) ?_
  refine lv_iadd hx hb dX12_come_49 ?_
  refine lv_topi (fun y_5 ey_5 => ?_)
  first | have jy_5 : y_5.toInt = v_sums.toInt + 1 := (by have q9 := ci_add (x := v_sums) (y := 1) rfl (show (1 : Int32).toInt = 1 by decide) ey_5; omega) | have jy_5 := ci_add (x := v_sums) (y := 1) rfl (show (1 : Int32).toInt = 1 by decide) ey_5
  refine cs_put F St 0 rfl rfl inX12 tyX12_ok nmX12 21 (by decide) kf_X12_246 rfl rfl rfl (Nat.le_of_ble_eq_true rfl) (w' := [(cMq a h v_taped v_size v_from v_behind v_hand v_value v_fault v_faultAt v_clock v_coin v_loan v_matched v_taxed v_paidStages v_grown v_pledges y_5 v_stages v_isStopped v_begun), (qarI (a 22) (d 22) 250 f_1), (qarI (a 23) (d 23) 250 f_2), (qarI (a 24) (d 24) 250 f_3), (qarI (a 25) (d 25) 250 f_4), (qarI (a 7) (d 7) 30 f_given), (qarI (a 0) (d 0) 9 f_rule)]) rfl dX12_come_50 (fun H locs St => ?_)
  refine lv_aload_n hx hb dX12_come_53 rfl (lv_at hl 0 rfl) ?_
  refine cs_get F St 0 rfl rfl inX12 26 (by decide) kf_X12_126 rfl dX12_come_54 ?_
  refine lv_iload_n hx hb dX12_come_57 rfl (lv_at hl 1 rfl) ?_
  refine lv_dup2_11 hx hb dX12_come_58 rfl rfl ?_
  refine cs_ild F St 5 4 rfl rfl (vp_in_iff.mpr ⟨by omega, by omega⟩) dX12_come_59 ?_
  refine lv_topi (fun y_6 ey_6 => ?_)
  have gy_6 := congrArg Int32.toInt ey_6
  refine lv_iload_n hx hb dX12_come_60 rfl (lv_at hl 2 rfl) ?_
  refine lv_iadd hx hb dX12_come_61 ?_
  refine lv_topi (fun y_7 ey_7 => ?_)
  first | have jy_7 : y_7.toInt = y_6.toInt + x2.toInt := (by have q9 := ci_add (x := y_6) (y := x2) rfl rfl ey_7; omega) | have jy_7 := ci_add (x := y_6) (y := x2) rfl rfl ey_7
  refine cs_ist F St 5 4 rfl rfl (vp_in_iff.mpr ⟨by omega, by omega⟩) (w' := [(cMq a h v_taped v_size v_from v_behind v_hand v_value v_fault v_faultAt v_clock v_coin v_loan v_matched v_taxed v_paidStages v_grown v_pledges y_5 v_stages v_isStopped v_begun), (qarI (a 22) (d 22) 250 f_1), (qarI (a 23) (d 23) 250 f_2), (qarI (a 24) (d 24) 250 f_3), (qarI (a 25) (d 25) 250 f_4), (qarI (a 7) (d 7) 30 (upd f_given (x1 : Int32).toNatClampNeg y_7)), (qarI (a 0) (d 0) 9 f_rule)]) rfl dX12_come_62 (fun H locs St => ?_)
  obtain ⟨f_8, ef_8⟩ : ∃ zz : Nat → Int32, zz = upd f_given (x1 : Int32).toNatClampNeg y_7 := ⟨_, rfl⟩
  rw [← ef_8] at St
  refine lv_aload_n hx hb dX12_come_63 rfl (lv_at hl 0 rfl) ?_
  refine cs_get F St 0 rfl rfl inX12 13 (by decide) kf_X12_230 rfl dX12_come_64 ?_
  refine lv_aload_n hx hb dX12_come_67 rfl (lv_at hl 0 rfl) ?_
  refine cs_get F St 0 rfl rfl inX12 0 (by decide) kf_X12_114 rfl dX12_come_68 ?_
  refine lv_iconst (v := 2) hx hb dX12_come_71 (by decide) ?_
  refine cs_ild F St 6 5 rfl rfl (vp_in_iff.mpr (by decide)) dX12_come_72 ?_
  refine lv_topi (fun y_9 ey_9 => ?_)
  have gy_9 := congrArg Int32.toInt ey_9
  refine lv_icmp_le (tgt := 80) hx hb dX12_come_73 (by decide) (fun c73 => ?_) (fun c73 => ?_)
  ·
    have i73 := ci_le (x := v_clock) (y := y_9) rfl rfl c73
    refine lv_aload_n hx hb dX12_come_80 rfl (lv_at hl 0 rfl) ?_
    refine cs_get F St 0 rfl rfl inX12 0 (by decide) kf_X12_114 rfl dX12_come_81 ?_
    refine lv_iconst (v := 0) hx hb dX12_come_84 (by decide) ?_
    refine cs_ild F St 6 5 rfl rfl (vp_in_iff.mpr (by decide)) dX12_come_85 ?_
    refine lv_topi (fun y_10 ey_10 => ?_)
    have gy_10 := congrArg Int32.toInt ey_10
    refine lv_i2l (v := y_10.toInt64) hx hb dX12_come_86 rfl ?_
    refine lv_iload_n hx hb dX12_come_87 rfl (lv_at hl 2 rfl) ?_
    refine lv_i2l (v := x2.toInt64) hx hb dX12_come_88 rfl ?_
    refine lv_lmul hx hb dX12_come_89 ?_
    refine lv_topl (fun y_11 ey_11 => ?_)
    obtain ⟨jm1, jm2, jm3⟩ := cl_mulb (u := (f_rule (0 : Int32).toNatClampNeg).toInt) (v := x2.toInt) (A := 100) (B := 5000000) (by rw [Int32.toInt_toInt64, ey_10]) (Int32.toInt_toInt64 _) ey_11 hF0.1 hF0.2 (by omega) (by omega) (by decide)
    refine lv_ldc2 (v := 100) hx hb F.2.2.2.1 (F.2.2.2.2 _ kk_X12_249) dX12_come_90 ?_
    refine lv_ldiv hx hb dX12_come_93 (by decide) ?_
    refine lv_topl (fun y_12 ey_12 => ?_)
    have jd := cl_div (u := (f_rule (0 : Int32).toNatClampNeg).toInt * x2.toInt) (v := 100) jm1 (by decide) ey_12 jm2 (by decide)
    refine lv_l2i (v := y_12.toInt32) hx hb dX12_come_94 rfl ?_
    have jl := l2i_i (x := y_12) (by omega)
    refine lv_istore_n (lv' := [(3, .int y_12.toInt32), (0, .ref h), (1, .int x1), (2, .int x2)]) hx hb dX12_come_95 rfl hl (by decide) rfl (fun ls hl => ?_)
    refine lv_iconst (v := 0) hx hb dX12_come_96 (by decide) ?_
    refine lv_iload_n hx hb dX12_come_97 rfl (lv_at hl 0 rfl) ?_
    refine lv_bipush (v := 100) hx hb dX12_come_98 (by decide) ?_
    refine lv_aload_n hx hb dX12_come_100 rfl (lv_at hl 1 rfl) ?_
    refine cs_get F St 0 rfl rfl inX12 0 (by decide) kf_X12_114 rfl dX12_come_101 ?_
    refine lv_iconst (v := 1) hx hb dX12_come_104 (by decide) ?_
    refine cs_ild F St 6 5 rfl rfl (vp_in_iff.mpr (by decide)) dX12_come_105 ?_
    refine lv_topi (fun y_13 ey_13 => ?_)
    have gy_13 := congrArg Int32.toInt ey_13
    refine lv_imul hx hb dX12_come_106 ?_
    refine lv_topi (fun y_14 ey_14 => ?_)
    first | have jy_14 : y_14.toInt = 100 * y_13.toInt := (by have q9 := ci_mul (x := 100) (y := y_13) (show (100 : Int32).toInt = 100 by decide) rfl ey_14; omega) | have jy_14 := ci_mul (x := 100) (y := y_13) (show (100 : Int32).toInt = 100 by decide) rfl ey_14
    refine lv_aload_n hx hb dX12_come_107 rfl (lv_at hl 1 rfl) ?_
    refine cs_get F St 0 rfl rfl inX12 16 (by decide) kf_X12_251 rfl dX12_come_108 ?_
    refine lv_isub hx hb dX12_come_111 ?_
    refine lv_topi (fun y_15 ey_15 => ?_)
    first | have jy_15 : y_15.toInt = y_14.toInt - v_matched.toInt := (by have q9 := ci_sub (x := y_14) (y := v_matched) rfl rfl ey_15; omega) | have jy_15 := ci_sub (x := y_14) (y := v_matched) rfl rfl ey_15
    refine va_mmin hx hb (F.2.2.1.trans hl.1.symm) F.2.2.2.1 (F.2.2.2.2 _ km_X12_254) (F.2.2.2.2 _ ks_J9_min_7cf53) (F.2.2.2.2 _ ki_J9) (F.2.2.2.2 _ kd_J9_min_7cf53) (Nat.le_of_ble_eq_true rfl) (Nat.le_of_ble_eq_true rfl) (Nat.le_of_ble_eq_true rfl) (Nat.le_of_ble_eq_true rfl) dX12_come_112 ?_
    refine lv_topi (fun y_16 ey_16 => ?_)
    have jy_16 := ci_min (x := y_12.toInt32) (y := y_15) (u := y_12.toInt32.toInt) (v := y_15.toInt) rfl rfl ey_16
    refine va_mmax hx hb (F.2.2.1.trans hl.1.symm) F.2.2.2.1 (F.2.2.2.2 _ km_X12_259) (F.2.2.2.2 _ ks_J9_max_7cf53) (F.2.2.2.2 _ ki_J9) (F.2.2.2.2 _ kd_J9_max_7cf53) (Nat.le_of_ble_eq_true rfl) (Nat.le_of_ble_eq_true rfl) (Nat.le_of_ble_eq_true rfl) (Nat.le_of_ble_eq_true rfl) dX12_come_115 ?_
    refine lv_topi (fun y_17 ey_17 => ?_)
    have jy_17 := ci_max (x := 0) (y := y_16) (u := 0) (v := y_16.toInt) (by decide) rfl ey_17
    refine lv_istore_n (lv' := [(3, .int y_17), (0, .ref h), (1, .int x1), (2, .int x2)]) hx hb dX12_come_118 rfl hl (by decide) rfl (fun ls hl => ?_)
    refine lv_aload_n hx hb dX12_come_119 rfl (lv_at hl 1 rfl) ?_
    refine lv_dup hx hb dX12_come_120 rfl ?_
    refine cs_get F St 0 rfl rfl inX12 16 (by decide) kf_X12_251 rfl dX12_come_121 ?_
    refine lv_iload_n hx hb dX12_come_124 rfl (lv_at hl 0 rfl) ?_
    refine lv_iadd hx hb dX12_come_125 ?_
    refine lv_topi (fun y_18 ey_18 => ?_)
    first | have jy_18 : y_18.toInt = v_matched.toInt + y_17.toInt := (by have q9 := ci_add (x := v_matched) (y := y_17) rfl rfl ey_18; omega) | have jy_18 := ci_add (x := v_matched) (y := y_17) rfl rfl ey_18
    refine cs_put F St 0 rfl rfl inX12 tyX12_ok nmX12 16 (by decide) kf_X12_251 rfl rfl rfl (Nat.le_of_ble_eq_true rfl) (w' := [(cMq a h v_taped v_size v_from v_behind v_hand v_value v_fault v_faultAt v_clock v_coin v_loan y_18 v_taxed v_paidStages v_grown v_pledges y_5 v_stages v_isStopped v_begun), (qarI (a 22) (d 22) 250 f_1), (qarI (a 23) (d 23) 250 f_2), (qarI (a 24) (d 24) 250 f_3), (qarI (a 25) (d 25) 250 f_4), (qarI (a 7) (d 7) 30 f_8), (qarI (a 0) (d 0) 9 f_rule)]) rfl dX12_come_126 (fun H locs St => ?_)
    refine lv_aload_n hx hb dX12_come_129 rfl (lv_at hl 1 rfl) ?_
    refine lv_dup hx hb dX12_come_130 rfl ?_
    refine cs_get F St 0 rfl rfl inX12 14 (by decide) kf_X12_262 rfl dX12_come_131 ?_
    refine lv_iload_n hx hb dX12_come_134 rfl (lv_at hl 3 rfl) ?_
    refine lv_iload_n hx hb dX12_come_135 rfl (lv_at hl 0 rfl) ?_
    refine lv_iadd hx hb dX12_come_136 ?_
    refine lv_topi (fun y_19 ey_19 => ?_)
    first | have jy_19 : y_19.toInt = x2.toInt + y_17.toInt := (by have q9 := ci_add (x := x2) (y := y_17) rfl rfl ey_19; omega) | have jy_19 := ci_add (x := x2) (y := y_17) rfl rfl ey_19
    refine lv_iadd hx hb dX12_come_137 ?_
    refine lv_topi (fun y_20 ey_20 => ?_)
    first | have jy_20 : y_20.toInt = v_coin.toInt + y_19.toInt := (by have q9 := ci_add (x := v_coin) (y := y_19) rfl rfl ey_20; omega) | have jy_20 := ci_add (x := v_coin) (y := y_19) rfl rfl ey_20
    refine cs_put F St 0 rfl rfl inX12 tyX12_ok nmX12 14 (by decide) kf_X12_262 rfl rfl rfl (Nat.le_of_ble_eq_true rfl) (w' := [(cMq a h v_taped v_size v_from v_behind v_hand v_value v_fault v_faultAt v_clock y_20 v_loan y_18 v_taxed v_paidStages v_grown v_pledges y_5 v_stages v_isStopped v_begun), (qarI (a 22) (d 22) 250 f_1), (qarI (a 23) (d 23) 250 f_2), (qarI (a 24) (d 24) 250 f_3), (qarI (a 25) (d 25) 250 f_4), (qarI (a 7) (d 7) 30 f_8), (qarI (a 0) (d 0) 9 f_rule)]) rfl dX12_come_138 (fun H locs St => ?_)
    refine lv_iload_n hx hb dX12_come_141 rfl (lv_at hl 0 rfl) ?_
    exact cs_iret F hr hlk hQ St (y_5, y_18, y_20, f_1, f_2, f_3, f_4, f_8) (r := y_17) ⟨⟨⟨by omega, ef_1, ef_3, ef_2⟩, mt_of (w := (f_rule (0 : Int32).toNatClampNeg).toInt * x2.toInt / 100) (by omega) rfl (by omega), by omega, by omega⟩, by rw [ef_4, nar_z0]; exact upd_id hu3, by rw [ef_1, ef_3, ef_8]; exact mGv_up hGv (by omega) (by omega) (by omega) (by omega), by rw [ef_1]; exact mGi_up (by omega) hSg (by omega) hg, by rw [ef_3]; exact mSp_up hSp hs2 (by omega) hx2⟩ [0, 1, 2, 3, 4, 5, 6] rfl (by decide) [] rfl (by decide) (by decide) dX12_come_142
  ·
    have i73 := ci_nle (x := v_clock) (y := y_9) rfl rfl c73
    refine lv_iconst (v := 0) hx hb dX12_come_76 (by decide) ?_
    refine lv_goto (tgt := 95) hx hb dX12_come_77 (by decide) ?_
    skip
    refine lv_istore_n (lv' := [(3, .int 0), (0, .ref h), (1, .int x1), (2, .int x2)]) hx hb dX12_come_95 rfl hl (by decide) rfl (fun ls hl => ?_)
    refine lv_iconst (v := 0) hx hb dX12_come_96 (by decide) ?_
    refine lv_iload_n hx hb dX12_come_97 rfl (lv_at hl 0 rfl) ?_
    refine lv_bipush (v := 100) hx hb dX12_come_98 (by decide) ?_
    refine lv_aload_n hx hb dX12_come_100 rfl (lv_at hl 1 rfl) ?_
    refine cs_get F St 0 rfl rfl inX12 0 (by decide) kf_X12_114 rfl dX12_come_101 ?_
    refine lv_iconst (v := 1) hx hb dX12_come_104 (by decide) ?_
    refine cs_ild F St 6 5 rfl rfl (vp_in_iff.mpr (by decide)) dX12_come_105 ?_
    refine lv_topi (fun y_21 ey_21 => ?_)
    have gy_21 := congrArg Int32.toInt ey_21
    refine lv_imul hx hb dX12_come_106 ?_
    refine lv_topi (fun y_22 ey_22 => ?_)
    first | have jy_22 : y_22.toInt = 100 * y_21.toInt := (by have q9 := ci_mul (x := 100) (y := y_21) (show (100 : Int32).toInt = 100 by decide) rfl ey_22; omega) | have jy_22 := ci_mul (x := 100) (y := y_21) (show (100 : Int32).toInt = 100 by decide) rfl ey_22
    refine lv_aload_n hx hb dX12_come_107 rfl (lv_at hl 1 rfl) ?_
    refine cs_get F St 0 rfl rfl inX12 16 (by decide) kf_X12_251 rfl dX12_come_108 ?_
    refine lv_isub hx hb dX12_come_111 ?_
    refine lv_topi (fun y_23 ey_23 => ?_)
    first | have jy_23 : y_23.toInt = y_22.toInt - v_matched.toInt := (by have q9 := ci_sub (x := y_22) (y := v_matched) rfl rfl ey_23; omega) | have jy_23 := ci_sub (x := y_22) (y := v_matched) rfl rfl ey_23
    refine va_mmin hx hb (F.2.2.1.trans hl.1.symm) F.2.2.2.1 (F.2.2.2.2 _ km_X12_254) (F.2.2.2.2 _ ks_J9_min_7cf53) (F.2.2.2.2 _ ki_J9) (F.2.2.2.2 _ kd_J9_min_7cf53) (Nat.le_of_ble_eq_true rfl) (Nat.le_of_ble_eq_true rfl) (Nat.le_of_ble_eq_true rfl) (Nat.le_of_ble_eq_true rfl) dX12_come_112 ?_
    refine lv_topi (fun y_24 ey_24 => ?_)
    have jy_24 := ci_min (x := 0) (y := y_23) (u := 0) (v := y_23.toInt) (by decide) rfl ey_24
    refine va_mmax hx hb (F.2.2.1.trans hl.1.symm) F.2.2.2.1 (F.2.2.2.2 _ km_X12_259) (F.2.2.2.2 _ ks_J9_max_7cf53) (F.2.2.2.2 _ ki_J9) (F.2.2.2.2 _ kd_J9_max_7cf53) (Nat.le_of_ble_eq_true rfl) (Nat.le_of_ble_eq_true rfl) (Nat.le_of_ble_eq_true rfl) (Nat.le_of_ble_eq_true rfl) dX12_come_115 ?_
    refine lv_topi (fun y_25 ey_25 => ?_)
    have jy_25 := ci_max (x := 0) (y := y_24) (u := 0) (v := y_24.toInt) (by decide) rfl ey_25
    refine lv_istore_n (lv' := [(3, .int y_25), (0, .ref h), (1, .int x1), (2, .int x2)]) hx hb dX12_come_118 rfl hl (by decide) rfl (fun ls hl => ?_)
    refine lv_aload_n hx hb dX12_come_119 rfl (lv_at hl 1 rfl) ?_
    refine lv_dup hx hb dX12_come_120 rfl ?_
    refine cs_get F St 0 rfl rfl inX12 16 (by decide) kf_X12_251 rfl dX12_come_121 ?_
    refine lv_iload_n hx hb dX12_come_124 rfl (lv_at hl 0 rfl) ?_
    refine lv_iadd hx hb dX12_come_125 ?_
    refine lv_topi (fun y_26 ey_26 => ?_)
    first | have jy_26 : y_26.toInt = v_matched.toInt + y_25.toInt := (by have q9 := ci_add (x := v_matched) (y := y_25) rfl rfl ey_26; omega) | have jy_26 := ci_add (x := v_matched) (y := y_25) rfl rfl ey_26
    refine cs_put F St 0 rfl rfl inX12 tyX12_ok nmX12 16 (by decide) kf_X12_251 rfl rfl rfl (Nat.le_of_ble_eq_true rfl) (w' := [(cMq a h v_taped v_size v_from v_behind v_hand v_value v_fault v_faultAt v_clock v_coin v_loan y_26 v_taxed v_paidStages v_grown v_pledges y_5 v_stages v_isStopped v_begun), (qarI (a 22) (d 22) 250 f_1), (qarI (a 23) (d 23) 250 f_2), (qarI (a 24) (d 24) 250 f_3), (qarI (a 25) (d 25) 250 f_4), (qarI (a 7) (d 7) 30 f_8), (qarI (a 0) (d 0) 9 f_rule)]) rfl dX12_come_126 (fun H locs St => ?_)
    refine lv_aload_n hx hb dX12_come_129 rfl (lv_at hl 1 rfl) ?_
    refine lv_dup hx hb dX12_come_130 rfl ?_
    refine cs_get F St 0 rfl rfl inX12 14 (by decide) kf_X12_262 rfl dX12_come_131 ?_
    refine lv_iload_n hx hb dX12_come_134 rfl (lv_at hl 3 rfl) ?_
    refine lv_iload_n hx hb dX12_come_135 rfl (lv_at hl 0 rfl) ?_
    refine lv_iadd hx hb dX12_come_136 ?_
    refine lv_topi (fun y_27 ey_27 => ?_)
    first | have jy_27 : y_27.toInt = x2.toInt + y_25.toInt := (by have q9 := ci_add (x := x2) (y := y_25) rfl rfl ey_27; omega) | have jy_27 := ci_add (x := x2) (y := y_25) rfl rfl ey_27
    refine lv_iadd hx hb dX12_come_137 ?_
    refine lv_topi (fun y_28 ey_28 => ?_)
    first | have jy_28 : y_28.toInt = v_coin.toInt + y_27.toInt := (by have q9 := ci_add (x := v_coin) (y := y_27) rfl rfl ey_28; omega) | have jy_28 := ci_add (x := v_coin) (y := y_27) rfl rfl ey_28
    refine cs_put F St 0 rfl rfl inX12 tyX12_ok nmX12 14 (by decide) kf_X12_262 rfl rfl rfl (Nat.le_of_ble_eq_true rfl) (w' := [(cMq a h v_taped v_size v_from v_behind v_hand v_value v_fault v_faultAt v_clock y_28 v_loan y_26 v_taxed v_paidStages v_grown v_pledges y_5 v_stages v_isStopped v_begun), (qarI (a 22) (d 22) 250 f_1), (qarI (a 23) (d 23) 250 f_2), (qarI (a 24) (d 24) 250 f_3), (qarI (a 25) (d 25) 250 f_4), (qarI (a 7) (d 7) 30 f_8), (qarI (a 0) (d 0) 9 f_rule)]) rfl dX12_come_138 (fun H locs St => ?_)
    refine lv_iload_n hx hb dX12_come_141 rfl (lv_at hl 0 rfl) ?_
    exact cs_iret F hr hlk hQ St (y_5, y_26, y_28, f_1, f_2, f_3, f_4, f_8) (r := y_25) ⟨⟨⟨by omega, ef_1, ef_3, ef_2⟩, mt_no (by omega) (by omega), by omega, by omega⟩, by rw [ef_4, nar_z0]; exact upd_id hu3, by rw [ef_1, ef_3, ef_8]; exact mGv_up hGv (by omega) (by omega) (by omega) (by omega), by rw [ef_1]; exact mGi_up (by omega) hSg (by omega) hg, by rw [ef_3]; exact mSp_up hSp hs2 (by omega) hx2⟩ [0, 1, 2, 3, 4, 5, 6] rfl (by decide) [] rfl (by decide) (by decide) dX12_come_142
set_option maxHeartbeats 4000000 in
set_option maxRecDepth 100000 in
theorem e12_gift (l : Launch) (G : va_G) (k : Nat → Nat) (sz : Nat) (h : Nat) (a : Nat → Nat) (d : Nat → ClassId) (v_taped : Int32) (v_size : Int32) (v_from : Int32) (v_behind : Int32) (v_hand : Int32) (v_value : Int32) (v_fault : Int32) (v_faultAt : Int32) (v_clock : Int32) (v_coin : Int32) (v_loan : Int32) (v_matched : Int32) (v_taxed : Int32) (v_paidStages : Int32) (v_grown : Int32) (v_pledges : Int32) (v_sums : Int32) (v_stages : Int32) (v_isStopped : Int32) (v_begun : Int32) (f_sumGiver : Nat → Int32) (f_sumMonth : Nat → Int32) (f_sumPence : Nat → Int32) (f_isClaimed : Nat → Int32) (f_given : Nat → Int32) (f_rule : Nat → Int32) (x1 : Int32) (x2 : Int32) (hSg : mGi v_sums f_sumGiver) (hSp : mSp v_sums f_sumPence) (hF : rbd f_rule) (hGv : mGv v_sums f_sumGiver f_sumPence f_given) (hma : 0 ≤ v_matched.toInt ∧ v_matched.toInt ≤ 99999900) (hco : 0 ≤ v_coin.toInt ∧ v_coin.toInt ≤ 2000000000) (hu3 : f_isClaimed v_sums.toNatClampNeg = 0) : Met l yX12_gift (Cond.code yX12_gift cX12_gift 3 (some .int) :: tb) ({ frames := 2, cells := 0, slots := 0, locals := 46 } : Room) (va_Pc [.ref h, .int x1, .int x2] (cP G k [(cMq a h v_taped v_size v_from v_behind v_hand v_value v_fault v_faultAt v_clock v_coin v_loan v_matched v_taxed v_paidStages v_grown v_pledges v_sums v_stages v_isStopped v_begun), (qarI (a 22) (d 22) 250 f_sumGiver), (qarI (a 23) (d 23) 250 f_sumMonth), (qarI (a 24) (d 24) 250 f_sumPence), (qarI (a 25) (d 25) 250 f_isClaimed), (qarI (a 7) (d 7) 30 f_given), (qarI (a 0) (d 0) 9 f_rule)] [((d 22), .int), ((d 23), .int), ((d 24), .int), ((d 25), .boolean), ((d 7), .int), ((d 0), .int)] sz)) (va_Qi (fun (r : Int32) (u : Int32 × Int32 × Int32 × (Nat → Int32) × (Nat → Int32) × (Nat → Int32) × (Nat → Int32) × (Nat → Int32)) => match u with | (w_sums, w_matched, w_coin, g_sumGiver, g_sumMonth, g_sumPence, g_isClaimed, g_given) => (Rgif v_isStopped v_sums v_clock x1 x2 f_rule f_sumGiver f_sumPence f_sumMonth v_matched.toInt v_coin.toInt r w_sums g_sumGiver g_sumPence g_sumMonth w_matched.toInt w_coin.toInt) ∧ (g_isClaimed = f_isClaimed) ∧ (mGv w_sums g_sumGiver g_sumPence g_given) ∧ (mGi w_sums g_sumGiver) ∧ (mSp w_sums g_sumPence)) (cB G (fun u => match u with | (w_sums, w_matched, w_coin, g_sumGiver, g_sumMonth, g_sumPence, g_isClaimed, g_given) => [(cMq a h v_taped v_size v_from v_behind v_hand v_value v_fault v_faultAt v_clock w_coin v_loan w_matched v_taxed v_paidStages v_grown v_pledges w_sums v_stages v_isStopped v_begun), (qarI (a 22) (d 22) 250 g_sumGiver), (qarI (a 23) (d 23) 250 g_sumMonth), (qarI (a 24) (d 24) 250 g_sumPence), (qarI (a 25) (d 25) 250 g_isClaimed), (qarI (a 7) (d 7) 30 g_given), (qarI (a 0) (d 0) 9 f_rule)]) (fun u => match u with | (w_sums, w_matched, w_coin, g_sumGiver, g_sumMonth, g_sumPence, g_isClaimed, g_given) => []) (va_A [(cMq a h v_taped v_size v_from v_behind v_hand v_value v_fault v_faultAt v_clock v_coin v_loan v_matched v_taxed v_paidStages v_grown v_pledges v_sums v_stages v_isStopped v_begun), (qarI (a 22) (d 22) 250 f_sumGiver), (qarI (a 23) (d 23) 250 f_sumMonth), (qarI (a 24) (d 24) 250 f_sumPence), (qarI (a 25) (d 25) 250 f_isClaimed), (qarI (a 7) (d 7) 30 f_given), (qarI (a 0) (d 0) 9 f_rule)] sz)) (va_A [(cMq a h v_taped v_size v_from v_behind v_hand v_value v_fault v_faultAt v_clock v_coin v_loan v_matched v_taxed v_paidStages v_grown v_pledges v_sums v_stages v_isStopped v_begun), (qarI (a 22) (d 22) 250 f_sumGiver), (qarI (a 23) (d 23) 250 f_sumMonth), (qarI (a 24) (d 24) 250 f_sumPence), (qarI (a 25) (d 25) 250 f_isClaimed), (qarI (a 7) (d 7) 30 f_given), (qarI (a 0) (d 0) 9 f_rule)] sz)) 0 0 (va_A [(cMq a h v_taped v_size v_from v_behind v_hand v_value v_fault v_faultAt v_clock v_coin v_loan v_matched v_taxed v_paidStages v_grown v_pledges v_sums v_stages v_isStopped v_begun), (qarI (a 22) (d 22) 250 f_sumGiver), (qarI (a 23) (d 23) 250 f_sumMonth), (qarI (a 24) (d 24) 250 f_sumPence), (qarI (a 25) (d 25) 250 f_isClaimed), (qarI (a 7) (d 7) 30 f_given), (qarI (a 0) (d 0) 9 f_rule)] sz) := by
  refine ofC_i (cc := cX12_gift) (maxL := 3) (ret := (some .int)) (by decide) rfl (Nat.le_of_ble_eq_true rfl) ?_
  intro p e s m args below meth c A ls Q F hr hin hlk St hl hQ
  have hx := F.1
  have hb := F.2.1
  have hl : lv_has ls 3 [(0, .ref h), (1, .int x1), (2, .int x2)] := hl
  have St : cS G k [(cMq a h v_taped v_size v_from v_behind v_hand v_value v_fault v_faultAt v_clock v_coin v_loan v_matched v_taxed v_paidStages v_grown v_pledges v_sums v_stages v_isStopped v_begun), (qarI (a 22) (d 22) 250 f_sumGiver), (qarI (a 23) (d 23) 250 f_sumMonth), (qarI (a 24) (d 24) 250 f_sumPence), (qarI (a 25) (d 25) 250 f_isClaimed), (qarI (a 7) (d 7) 30 f_given), (qarI (a 0) (d 0) 9 f_rule)] [((d 22), .int), ((d 23), .int), ((d 24), .int), ((d 25), .boolean), ((d 7), .int), ((d 0), .int)] A s s.heap [] := St
  have hsd := hSp.1
  refine lv_iload_n hx hb dX12_gift_0 rfl (lv_at hl 1 rfl) ?_
  refine cs_i St [] [0, 1, 2, 3, 4, 5, 6] (wc := []) (wr := [(cMq a h v_taped v_size v_from v_behind v_hand v_value v_fault v_faultAt v_clock v_coin v_loan v_matched v_taxed v_paidStages v_grown v_pledges v_sums v_stages v_isStopped v_begun), (qarI (a 22) (d 22) 250 f_sumGiver), (qarI (a 23) (d 23) 250 f_sumMonth), (qarI (a 24) (d 24) 250 f_sumPence), (qarI (a 25) (d 25) 250 f_isClaimed), (qarI (a 7) (d 7) 30 f_given), (qarI (a 0) (d 0) 9 f_rule)]) rfl rfl (by decide) (by decide) (va_runS (As := [.int x1]) (rest := []) F (c12_isGiver l G k _ x1) (cwSt F mf_X12_isGiver km_X12_218 rfl rfl ⟨Nat.le_of_ble_eq_true rfl, Nat.le_of_ble_eq_true rfl⟩) (cs_pre St [] rfl (by decide) [] rfl) rfl rfl hl.1 rfl (lv_room (Nat.le_of_ble_eq_true rfl)) dX12_gift_1 ⟨Nat.le_of_ble_eq_true rfl, Nat.le_of_ble_eq_true rfl⟩) (fun r_1 u_2 H locs hw St => ?_)
  try dsimp only at hw
  rcases hw with ⟨z_3, hf_4⟩ | ⟨z_5, hf_6⟩
  ·
    subst r_1
    have St : cS G k [(cMq a h v_taped v_size v_from v_behind v_hand v_value v_fault v_faultAt v_clock v_coin v_loan v_matched v_taxed v_paidStages v_grown v_pledges v_sums v_stages v_isStopped v_begun), (qarI (a 22) (d 22) 250 f_sumGiver), (qarI (a 23) (d 23) 250 f_sumMonth), (qarI (a 24) (d 24) 250 f_sumPence), (qarI (a 25) (d 25) 250 f_isClaimed), (qarI (a 7) (d 7) 30 f_given), (qarI (a 0) (d 0) 9 f_rule)] [((d 22), .int), ((d 23), .int), ((d 24), .int), ((d 25), .boolean), ((d 7), .int), ((d 0), .int)] A s H locs := St
    refine lv_if_eq (tgt := 19) hx hb dX12_gift_4 (by decide) (fun c4 => ?_) (fun c4 => ?_)
    · exact absurd c4 (by decide)
    refine lv_iload_n hx hb dX12_gift_7 rfl (lv_at hl 2 rfl) ?_
    refine lv_i2l (v := x2.toInt64) hx hb dX12_gift_8 rfl ?_
    refine lv_lconst (v := 1) hx hb dX12_gift_9 (by decide) ?_
    refine lv_ldc2 (v := 5000000) hx hb F.2.2.2.1 (F.2.2.2.2 _ kk_X12_265) dX12_gift_10 ?_
    refine cs_i St [] [0, 1, 2, 3, 4, 5, 6] (wc := []) (wr := [(cMq a h v_taped v_size v_from v_behind v_hand v_value v_fault v_faultAt v_clock v_coin v_loan v_matched v_taxed v_paidStages v_grown v_pledges v_sums v_stages v_isStopped v_begun), (qarI (a 22) (d 22) 250 f_sumGiver), (qarI (a 23) (d 23) 250 f_sumMonth), (qarI (a 24) (d 24) 250 f_sumPence), (qarI (a 25) (d 25) 250 f_isClaimed), (qarI (a 7) (d 7) 30 f_given), (qarI (a 0) (d 0) 9 f_rule)]) rfl rfl (by decide) (by decide) (va_runS (As := [.long x2.toInt64, .long 1, .long 5000000]) (rest := []) F (c12_in l G k _ x2.toInt64 1 5000000 x2.toInt 1 5000000 (Int32.toInt_toInt64 x2) (by decide) (by decide)) (cwSt F mf_X12_in km_X12_58 rfl rfl ⟨Nat.le_of_ble_eq_true rfl, Nat.le_of_ble_eq_true rfl⟩) (cs_pre St [] rfl (by decide) [] rfl) rfl rfl hl.1 rfl (lv_room (Nat.le_of_ble_eq_true rfl)) dX12_gift_13 ⟨Nat.le_of_ble_eq_true rfl, Nat.le_of_ble_eq_true rfl⟩) (fun r_7 u_8 H locs hw St => ?_)
    try dsimp only at hw
    rcases hw with ⟨z_9, hf_10⟩ | ⟨z_11, hf_12⟩
    ·
      subst r_7
      have St : cS G k [(cMq a h v_taped v_size v_from v_behind v_hand v_value v_fault v_faultAt v_clock v_coin v_loan v_matched v_taxed v_paidStages v_grown v_pledges v_sums v_stages v_isStopped v_begun), (qarI (a 22) (d 22) 250 f_sumGiver), (qarI (a 23) (d 23) 250 f_sumMonth), (qarI (a 24) (d 24) 250 f_sumPence), (qarI (a 25) (d 25) 250 f_isClaimed), (qarI (a 7) (d 7) 30 f_given), (qarI (a 0) (d 0) 9 f_rule)] [((d 22), .int), ((d 23), .int), ((d 24), .int), ((d 25), .boolean), ((d 7), .int), ((d 0), .int)] A s H locs := St
      refine lv_if_ne (tgt := 22) hx hb dX12_gift_16 (by decide) (fun c16 => ?_) (fun c16 => ?_)
      rotate_left
      · exact absurd c16 (by decide)
      refine lv_aload_n hx hb dX12_gift_22 rfl (lv_at hl 0 rfl) ?_
      refine cs_get F St 0 rfl rfl inX12 23 (by decide) kf_X12_224 rfl dX12_gift_23 ?_
      refine lv_if_eq (tgt := 32) hx hb dX12_gift_26 (by decide) (fun c26 => ?_) (fun c26 => ?_)
      ·
        have i26 := ci_eq (x := v_isStopped) (y := 0) rfl (show (0 : Int32).toInt = 0 by decide) c26
        refine lv_aload_n hx hb dX12_gift_32 rfl (lv_at hl 0 rfl) ?_
        refine cs_get F St 0 rfl rfl inX12 21 (by decide) kf_X12_246 rfl dX12_gift_33 ?_
        refine lv_sipush (v := 250) hx hb dX12_gift_36 (by decide) ?_
        refine lv_icmp_ne (tgt := 47) hx hb dX12_gift_39 (by decide) (fun c39 => ?_) (fun c39 => ?_)
        ·
          have i39 := ci_ne (x := v_sums) (y := 250) rfl (show (250 : Int32).toInt = 250 by decide) c39
          refine lv_aload_n hx hb dX12_gift_47 rfl (lv_at hl 0 rfl) ?_
          refine lv_iload_n hx hb dX12_gift_48 rfl (lv_at hl 1 rfl) ?_
          refine lv_iload_n hx hb dX12_gift_49 rfl (lv_at hl 2 rfl) ?_
          refine cs_i St [0, 1, 2, 3, 4, 5, 6] [] (wc := [(cMq a h v_taped v_size v_from v_behind v_hand v_value v_fault v_faultAt v_clock v_coin v_loan v_matched v_taxed v_paidStages v_grown v_pledges v_sums v_stages v_isStopped v_begun), (qarI (a 22) (d 22) 250 f_sumGiver), (qarI (a 23) (d 23) 250 f_sumMonth), (qarI (a 24) (d 24) 250 f_sumPence), (qarI (a 25) (d 25) 250 f_isClaimed), (qarI (a 7) (d 7) 30 f_given), (qarI (a 0) (d 0) 9 f_rule)]) (wr := []) rfl rfl (by decide) (by decide) (va_runV (As := [.int x1, .int x2]) (rest := []) F (e12_come l G k _ h a d v_taped v_size v_from v_behind v_hand v_value v_fault v_faultAt v_clock v_coin v_loan v_matched v_taxed v_paidStages v_grown v_pledges v_sums v_stages v_isStopped v_begun f_sumGiver f_sumMonth f_sumPence f_isClaimed f_given f_rule x1 x2 hSg hSp (by omega) (by omega) (by omega) hF hGv (by omega) (by omega) hu3) (cwVt F mf_X12_come km_X12_270 rfl rfl ⟨Nat.le_of_ble_eq_true rfl, Nat.le_of_ble_eq_true rfl⟩) (cs_preV St [0, 1, 2, 3, 4, 5, 6] rfl (by decide) [0, 1, 2, 3, 4, 5] rfl (ci := 12) (q0 := 0) rfl rfl) rfl rfl hl.1 rfl (lv_room (Nat.le_of_ble_eq_true rfl)) dX12_gift_50 ⟨Nat.le_of_ble_eq_true rfl, Nat.le_of_ble_eq_true rfl⟩) (fun r_13 u_14 H locs hw St => ?_)
          obtain ⟨w_sums_15, w_matched_16, w_coin_17, g_sumGiver_18, g_sumMonth_19, g_sumPence_20, g_isClaimed_21, g_given_22⟩ := u_14
          try dsimp only at hw
          obtain ⟨hf_23, hk3_24, hGv2_25, hSg2_26, hSp2_27⟩ := hw
          have St : cS G k [(cMq a h v_taped v_size v_from v_behind v_hand v_value v_fault v_faultAt v_clock w_coin_17 v_loan w_matched_16 v_taxed v_paidStages v_grown v_pledges w_sums_15 v_stages v_isStopped v_begun), (qarI (a 22) (d 22) 250 g_sumGiver_18), (qarI (a 23) (d 23) 250 g_sumMonth_19), (qarI (a 24) (d 24) 250 g_sumPence_20), (qarI (a 25) (d 25) 250 g_isClaimed_21), (qarI (a 7) (d 7) 30 g_given_22), (qarI (a 0) (d 0) 9 f_rule)] [((d 22), .int), ((d 23), .int), ((d 24), .int), ((d 25), .boolean), ((d 7), .int), ((d 0), .int)] A s H locs := St
          exact cs_iret F hr hlk hQ St (w_sums_15, w_matched_16, w_coin_17, g_sumGiver_18, g_sumMonth_19, g_sumPence_20, g_isClaimed_21, g_given_22) (r := r_13) ⟨Or.inr (Or.inr (Or.inr (⟨⟨by unfold Cgf; omega, by omega, by omega⟩, hf_23⟩))), hk3_24, hGv2_25, hSg2_26, hSp2_27⟩ [0, 1, 2, 3, 4, 5, 6] rfl (by decide) [] rfl (by decide) (by decide) dX12_gift_53
        ·
          have i39 := ci_eq (x := v_sums) (y := 250) rfl (show (250 : Int32).toInt = 250 by decide) c39
          refine lv_bipush (v := (-3)) hx hb dX12_gift_42 (by decide) ?_
          refine lv_goto (tgt := 53) hx hb dX12_gift_44 (by decide) ?_
          exact cs_iret F hr hlk hQ St (v_sums, v_matched, v_coin, f_sumGiver, f_sumMonth, f_sumPence, f_isClaimed, f_given) (r := (-3)) ⟨Or.inr (Or.inr (Or.inl ⟨rfl, ⟨by unfold Cgf; omega, by omega, by omega⟩, Rnoc_r⟩)), rfl, hGv, hSg, hSp⟩ [0, 1, 2, 3, 4, 5, 6] rfl (by decide) [] rfl (by decide) (by decide) dX12_gift_53
      ·
        have i26 := ci_ne (x := v_isStopped) (y := 0) rfl (show (0 : Int32).toInt = 0 by decide) c26
        refine lv_bipush (v := (-4)) hx hb dX12_gift_29 (by decide) ?_
        exact cs_iret F hr hlk hQ St (v_sums, v_matched, v_coin, f_sumGiver, f_sumMonth, f_sumPence, f_isClaimed, f_given) (r := (-4)) ⟨Or.inr (Or.inl ⟨rfl, ⟨by unfold Cgf; omega, by omega⟩, Rnoc_r⟩), rfl, hGv, hSg, hSp⟩ [0, 1, 2, 3, 4, 5, 6] rfl (by decide) [] rfl (by decide) (by decide) dX12_gift_31
    ·
      subst r_7
      have St : cS G k [(cMq a h v_taped v_size v_from v_behind v_hand v_value v_fault v_faultAt v_clock v_coin v_loan v_matched v_taxed v_paidStages v_grown v_pledges v_sums v_stages v_isStopped v_begun), (qarI (a 22) (d 22) 250 f_sumGiver), (qarI (a 23) (d 23) 250 f_sumMonth), (qarI (a 24) (d 24) 250 f_sumPence), (qarI (a 25) (d 25) 250 f_isClaimed), (qarI (a 7) (d 7) 30 f_given), (qarI (a 0) (d 0) 9 f_rule)] [((d 22), .int), ((d 23), .int), ((d 24), .int), ((d 25), .boolean), ((d 7), .int), ((d 0), .int)] A s H locs := St
      refine lv_if_ne (tgt := 22) hx hb dX12_gift_16 (by decide) (fun c16 => ?_) (fun c16 => ?_)
      · exact absurd c16 (by decide)
      refine lv_bipush (v := (-2)) hx hb dX12_gift_19 (by decide) ?_
      exact cs_iret F hr hlk hQ St (v_sums, v_matched, v_coin, f_sumGiver, f_sumMonth, f_sumPence, f_isClaimed, f_given) (r := (-2)) ⟨Or.inl ⟨rfl, by unfold Cgf; omega, Rnoc_r⟩, rfl, hGv, hSg, hSp⟩ [0, 1, 2, 3, 4, 5, 6] rfl (by decide) [] rfl (by decide) (by decide) dX12_gift_21
  ·
    subst r_1
    have St : cS G k [(cMq a h v_taped v_size v_from v_behind v_hand v_value v_fault v_faultAt v_clock v_coin v_loan v_matched v_taxed v_paidStages v_grown v_pledges v_sums v_stages v_isStopped v_begun), (qarI (a 22) (d 22) 250 f_sumGiver), (qarI (a 23) (d 23) 250 f_sumMonth), (qarI (a 24) (d 24) 250 f_sumPence), (qarI (a 25) (d 25) 250 f_isClaimed), (qarI (a 7) (d 7) 30 f_given), (qarI (a 0) (d 0) 9 f_rule)] [((d 22), .int), ((d 23), .int), ((d 24), .int), ((d 25), .boolean), ((d 7), .int), ((d 0), .int)] A s H locs := St
    refine lv_if_eq (tgt := 19) hx hb dX12_gift_4 (by decide) (fun c4 => ?_) (fun c4 => ?_)
    rotate_left
    · exact absurd (by decide) c4
    refine lv_bipush (v := (-2)) hx hb dX12_gift_19 (by decide) ?_
    exact cs_iret F hr hlk hQ St (v_sums, v_matched, v_coin, f_sumGiver, f_sumMonth, f_sumPence, f_isClaimed, f_given) (r := (-2)) ⟨Or.inl ⟨rfl, by unfold Cgf; omega, Rnoc_r⟩, rfl, hGv, hSg, hSp⟩ [0, 1, 2, 3, 4, 5, 6] rfl (by decide) [] rfl (by decide) (by decide) dX12_gift_21
set_option maxHeartbeats 4000000 in
set_option maxRecDepth 100000 in
theorem e12_pay (l : Launch) (G : va_G) (k : Nat → Nat) (sz : Nat) (h : Nat) (a : Nat → Nat) (d : Nat → ClassId) (v_taped : Int32) (v_size : Int32) (v_from : Int32) (v_behind : Int32) (v_hand : Int32) (v_value : Int32) (v_fault : Int32) (v_faultAt : Int32) (v_clock : Int32) (v_coin : Int32) (v_loan : Int32) (v_matched : Int32) (v_taxed : Int32) (v_paidStages : Int32) (v_grown : Int32) (v_pledges : Int32) (v_sums : Int32) (v_stages : Int32) (v_isStopped : Int32) (v_begun : Int32) (f_giver : Nat → Int32) (f_isLapsed : Nat → Int32) (f_wasTakenUp : Nat → Int32) (f_first : Nat → Int32) (f_every : Nat → Int32) (f_dues : Nat → Int32) (f_due : Nat → Int32) (f_filled : Nat → Int32) (f_isThere : Nat → Int32) (f_counts : Nat → Int32) (f_sumGiver : Nat → Int32) (f_sumMonth : Nat → Int32) (f_sumPence : Nat → Int32) (f_isClaimed : Nat → Int32) (f_given : Nat → Int32) (f_rule : Nat → Int32) (x1 : Int32) (x2 : Int32) (hPd : mPd v_pledges f_dues) (hPg : mGi v_pledges f_giver) (hSg : mGi v_sums f_sumGiver) (hSp : mSp v_sums f_sumPence) (hF : rbd f_rule) (hGv : mGv v_sums f_sumGiver f_sumPence f_given) (hma : 0 ≤ v_matched.toInt ∧ v_matched.toInt ≤ 99999900) (hco : 0 ≤ v_coin.toInt ∧ v_coin.toInt ≤ 2000000000) (hu3 : f_isClaimed v_sums.toNatClampNeg = 0) (tP : Nat → Pl9) (hM : mR v_pledges (tP) f_giver f_isLapsed f_wasTakenUp f_first f_every f_dues f_due f_filled f_isThere f_counts) (hA : wfA v_pledges v_clock.toInt tP) : Met l yX12_pay (Cond.code yX12_pay cX12_pay 6 (some .int) :: tb) ({ frames := 2, cells := 0, slots := 0, locals := 46 } : Room) (va_Pc [.ref h, .int x1, .int x2] (cP G k [(cMq a h v_taped v_size v_from v_behind v_hand v_value v_fault v_faultAt v_clock v_coin v_loan v_matched v_taxed v_paidStages v_grown v_pledges v_sums v_stages v_isStopped v_begun), (qarI (a 10) (d 10) 60 f_giver), (qarI (a 16) (d 16) 60 f_isLapsed), (qarI (a 17) (d 17) 60 f_wasTakenUp), (qarI (a 12) (d 12) 60 f_first), (qarI (a 13) (d 13) 60 f_every), (qarI (a 14) (d 14) 60 f_dues), (qarI (a 18) (d 18) 5040 f_due), (qarI (a 19) (d 19) 5040 f_filled), (qarI (a 20) (d 20) 5040 f_isThere), (qarI (a 21) (d 21) 5040 f_counts), (qarI (a 22) (d 22) 250 f_sumGiver), (qarI (a 23) (d 23) 250 f_sumMonth), (qarI (a 24) (d 24) 250 f_sumPence), (qarI (a 25) (d 25) 250 f_isClaimed), (qarI (a 7) (d 7) 30 f_given), (qarI (a 0) (d 0) 9 f_rule)] [((d 10), .int), ((d 16), .boolean), ((d 17), .boolean), ((d 12), .int), ((d 13), .int), ((d 14), .int), ((d 18), .int), ((d 19), .int), ((d 20), .boolean), ((d 21), .boolean), ((d 22), .int), ((d 23), .int), ((d 24), .int), ((d 25), .boolean), ((d 7), .int), ((d 0), .int)] sz)) (va_Qi (fun (r : Int32) (u : Int32 × Int32 × Int32 × (Nat → Int32) × (Nat → Int32) × (Nat → Int32) × (Nat → Int32) × (Nat → Int32) × (Nat → Int32) × (Nat → Pl9)) => match u with | (w_sums, w_matched, w_coin, g_sumGiver, g_sumMonth, g_sumPence, g_isClaimed, g_given, g_filled, tP2) => (Rpay v_isStopped v_pledges v_sums v_clock x1 x2 f_rule f_sumGiver f_sumPence f_sumMonth v_matched.toInt v_coin.toInt tP r w_sums g_sumGiver g_sumPence g_sumMonth w_matched.toInt w_coin.toInt tP2) ∧ (g_isClaimed = f_isClaimed) ∧ (mGv w_sums g_sumGiver g_sumPence g_given) ∧ (mGi w_sums g_sumGiver) ∧ (mSp w_sums g_sumPence) ∧ (mR v_pledges (tP2) f_giver f_isLapsed f_wasTakenUp f_first f_every f_dues f_due g_filled f_isThere f_counts) ∧ (wfA v_pledges v_clock.toInt tP2)) (cB G (fun u => match u with | (w_sums, w_matched, w_coin, g_sumGiver, g_sumMonth, g_sumPence, g_isClaimed, g_given, g_filled, tP2) => [(cMq a h v_taped v_size v_from v_behind v_hand v_value v_fault v_faultAt v_clock w_coin v_loan w_matched v_taxed v_paidStages v_grown v_pledges w_sums v_stages v_isStopped v_begun), (qarI (a 10) (d 10) 60 f_giver), (qarI (a 16) (d 16) 60 f_isLapsed), (qarI (a 17) (d 17) 60 f_wasTakenUp), (qarI (a 12) (d 12) 60 f_first), (qarI (a 13) (d 13) 60 f_every), (qarI (a 14) (d 14) 60 f_dues), (qarI (a 18) (d 18) 5040 f_due), (qarI (a 19) (d 19) 5040 g_filled), (qarI (a 20) (d 20) 5040 f_isThere), (qarI (a 21) (d 21) 5040 f_counts), (qarI (a 22) (d 22) 250 g_sumGiver), (qarI (a 23) (d 23) 250 g_sumMonth), (qarI (a 24) (d 24) 250 g_sumPence), (qarI (a 25) (d 25) 250 g_isClaimed), (qarI (a 7) (d 7) 30 g_given), (qarI (a 0) (d 0) 9 f_rule)]) (fun u => match u with | (w_sums, w_matched, w_coin, g_sumGiver, g_sumMonth, g_sumPence, g_isClaimed, g_given, g_filled, tP2) => []) (va_A [(cMq a h v_taped v_size v_from v_behind v_hand v_value v_fault v_faultAt v_clock v_coin v_loan v_matched v_taxed v_paidStages v_grown v_pledges v_sums v_stages v_isStopped v_begun), (qarI (a 10) (d 10) 60 f_giver), (qarI (a 16) (d 16) 60 f_isLapsed), (qarI (a 17) (d 17) 60 f_wasTakenUp), (qarI (a 12) (d 12) 60 f_first), (qarI (a 13) (d 13) 60 f_every), (qarI (a 14) (d 14) 60 f_dues), (qarI (a 18) (d 18) 5040 f_due), (qarI (a 19) (d 19) 5040 f_filled), (qarI (a 20) (d 20) 5040 f_isThere), (qarI (a 21) (d 21) 5040 f_counts), (qarI (a 22) (d 22) 250 f_sumGiver), (qarI (a 23) (d 23) 250 f_sumMonth), (qarI (a 24) (d 24) 250 f_sumPence), (qarI (a 25) (d 25) 250 f_isClaimed), (qarI (a 7) (d 7) 30 f_given), (qarI (a 0) (d 0) 9 f_rule)] sz)) (va_A [(cMq a h v_taped v_size v_from v_behind v_hand v_value v_fault v_faultAt v_clock v_coin v_loan v_matched v_taxed v_paidStages v_grown v_pledges v_sums v_stages v_isStopped v_begun), (qarI (a 10) (d 10) 60 f_giver), (qarI (a 16) (d 16) 60 f_isLapsed), (qarI (a 17) (d 17) 60 f_wasTakenUp), (qarI (a 12) (d 12) 60 f_first), (qarI (a 13) (d 13) 60 f_every), (qarI (a 14) (d 14) 60 f_dues), (qarI (a 18) (d 18) 5040 f_due), (qarI (a 19) (d 19) 5040 f_filled), (qarI (a 20) (d 20) 5040 f_isThere), (qarI (a 21) (d 21) 5040 f_counts), (qarI (a 22) (d 22) 250 f_sumGiver), (qarI (a 23) (d 23) 250 f_sumMonth), (qarI (a 24) (d 24) 250 f_sumPence), (qarI (a 25) (d 25) 250 f_isClaimed), (qarI (a 7) (d 7) 30 f_given), (qarI (a 0) (d 0) 9 f_rule)] sz)) 0 0 (va_A [(cMq a h v_taped v_size v_from v_behind v_hand v_value v_fault v_faultAt v_clock v_coin v_loan v_matched v_taxed v_paidStages v_grown v_pledges v_sums v_stages v_isStopped v_begun), (qarI (a 10) (d 10) 60 f_giver), (qarI (a 16) (d 16) 60 f_isLapsed), (qarI (a 17) (d 17) 60 f_wasTakenUp), (qarI (a 12) (d 12) 60 f_first), (qarI (a 13) (d 13) 60 f_every), (qarI (a 14) (d 14) 60 f_dues), (qarI (a 18) (d 18) 5040 f_due), (qarI (a 19) (d 19) 5040 f_filled), (qarI (a 20) (d 20) 5040 f_isThere), (qarI (a 21) (d 21) 5040 f_counts), (qarI (a 22) (d 22) 250 f_sumGiver), (qarI (a 23) (d 23) 250 f_sumMonth), (qarI (a 24) (d 24) 250 f_sumPence), (qarI (a 25) (d 25) 250 f_isClaimed), (qarI (a 7) (d 7) 30 f_given), (qarI (a 0) (d 0) 9 f_rule)] sz) := by
  refine ofC_i (cc := cX12_pay) (maxL := 6) (ret := (some .int)) (by decide) rfl (Nat.le_of_ble_eq_true rfl) ?_
  intro p e s m args below meth c A ls Q F hr hin hlk St hl hQ
  have hx := F.1
  have hb := F.2.1
  have hl : lv_has ls 6 [(0, .ref h), (1, .int x1), (2, .int x2)] := hl
  have St : cS G k [(cMq a h v_taped v_size v_from v_behind v_hand v_value v_fault v_faultAt v_clock v_coin v_loan v_matched v_taxed v_paidStages v_grown v_pledges v_sums v_stages v_isStopped v_begun), (qarI (a 10) (d 10) 60 f_giver), (qarI (a 16) (d 16) 60 f_isLapsed), (qarI (a 17) (d 17) 60 f_wasTakenUp), (qarI (a 12) (d 12) 60 f_first), (qarI (a 13) (d 13) 60 f_every), (qarI (a 14) (d 14) 60 f_dues), (qarI (a 18) (d 18) 5040 f_due), (qarI (a 19) (d 19) 5040 f_filled), (qarI (a 20) (d 20) 5040 f_isThere), (qarI (a 21) (d 21) 5040 f_counts), (qarI (a 22) (d 22) 250 f_sumGiver), (qarI (a 23) (d 23) 250 f_sumMonth), (qarI (a 24) (d 24) 250 f_sumPence), (qarI (a 25) (d 25) 250 f_isClaimed), (qarI (a 7) (d 7) 30 f_given), (qarI (a 0) (d 0) 9 f_rule)] [((d 10), .int), ((d 16), .boolean), ((d 17), .boolean), ((d 12), .int), ((d 13), .int), ((d 14), .int), ((d 18), .int), ((d 19), .int), ((d 20), .boolean), ((d 21), .boolean), ((d 22), .int), ((d 23), .int), ((d 24), .int), ((d 25), .boolean), ((d 7), .int), ((d 0), .int)] A s s.heap [] := St
  have hpd := hPd.1
  have hsd := hSp.1
  have y0 : (0 : Int32).toInt = 0 := by decide
  refine lv_aload_n hx hb dX12_pay_0 rfl (lv_at hl 0 rfl) ?_
  refine lv_iload_n hx hb dX12_pay_1 rfl (lv_at hl 1 rfl) ?_
  refine cs_i St [0] [1, 2, 3, 4, 5, 6, 7, 8, 9, 10, 11, 12, 13, 14, 15, 16] (wc := [(cMq a h v_taped v_size v_from v_behind v_hand v_value v_fault v_faultAt v_clock v_coin v_loan v_matched v_taxed v_paidStages v_grown v_pledges v_sums v_stages v_isStopped v_begun)]) (wr := [(qarI (a 10) (d 10) 60 f_giver), (qarI (a 16) (d 16) 60 f_isLapsed), (qarI (a 17) (d 17) 60 f_wasTakenUp), (qarI (a 12) (d 12) 60 f_first), (qarI (a 13) (d 13) 60 f_every), (qarI (a 14) (d 14) 60 f_dues), (qarI (a 18) (d 18) 5040 f_due), (qarI (a 19) (d 19) 5040 f_filled), (qarI (a 20) (d 20) 5040 f_isThere), (qarI (a 21) (d 21) 5040 f_counts), (qarI (a 22) (d 22) 250 f_sumGiver), (qarI (a 23) (d 23) 250 f_sumMonth), (qarI (a 24) (d 24) 250 f_sumPence), (qarI (a 25) (d 25) 250 f_isClaimed), (qarI (a 7) (d 7) 30 f_given), (qarI (a 0) (d 0) 9 f_rule)]) rfl rfl (by decide) (by decide) (va_runV (As := [.int x1]) (rest := []) F (m_isPledge l G k _ h a (fun _ => default) v_taped v_size v_from v_behind v_hand v_value v_fault v_faultAt v_clock v_coin v_loan v_matched v_taxed v_paidStages v_grown v_pledges v_sums v_stages v_isStopped v_begun x1 (by omega)) (cwVt F mf_X12_isPledge km_X12_243 rfl rfl ⟨Nat.le_of_ble_eq_true rfl, Nat.le_of_ble_eq_true rfl⟩) (cs_preV St [0] rfl (by decide) [] rfl (ci := 12) (q0 := 0) rfl rfl) rfl rfl hl.1 rfl (lv_room (Nat.le_of_ble_eq_true rfl)) dX12_pay_2 ⟨Nat.le_of_ble_eq_true rfl, Nat.le_of_ble_eq_true rfl⟩) (fun r_1 u_2 H locs hw St => ?_)
  try dsimp only at hw
  rcases hw with ⟨z_3, hf_4⟩ | ⟨z_5, hf_6⟩
  ·
    subst r_1
    have St : cS G k [(qarI (a 10) (d 10) 60 f_giver), (qarI (a 16) (d 16) 60 f_isLapsed), (qarI (a 17) (d 17) 60 f_wasTakenUp), (qarI (a 12) (d 12) 60 f_first), (qarI (a 13) (d 13) 60 f_every), (qarI (a 14) (d 14) 60 f_dues), (qarI (a 18) (d 18) 5040 f_due), (qarI (a 19) (d 19) 5040 f_filled), (qarI (a 20) (d 20) 5040 f_isThere), (qarI (a 21) (d 21) 5040 f_counts), (qarI (a 22) (d 22) 250 f_sumGiver), (qarI (a 23) (d 23) 250 f_sumMonth), (qarI (a 24) (d 24) 250 f_sumPence), (qarI (a 25) (d 25) 250 f_isClaimed), (qarI (a 7) (d 7) 30 f_given), (qarI (a 0) (d 0) 9 f_rule), (cMq a h v_taped v_size v_from v_behind v_hand v_value v_fault v_faultAt v_clock v_coin v_loan v_matched v_taxed v_paidStages v_grown v_pledges v_sums v_stages v_isStopped v_begun)] [((d 10), .int), ((d 16), .boolean), ((d 17), .boolean), ((d 12), .int), ((d 13), .int), ((d 14), .int), ((d 18), .int), ((d 19), .int), ((d 20), .boolean), ((d 21), .boolean), ((d 22), .int), ((d 23), .int), ((d 24), .int), ((d 25), .boolean), ((d 7), .int), ((d 0), .int)] A s H locs := St
    refine lv_if_eq (tgt := 20) hx hb dX12_pay_5 (by decide) (fun c5 => ?_) (fun c5 => ?_)
    · exact absurd c5 (by decide)
    refine lv_iload_n hx hb dX12_pay_8 rfl (lv_at hl 2 rfl) ?_
    refine lv_i2l (v := x2.toInt64) hx hb dX12_pay_9 rfl ?_
    refine lv_lconst (v := 1) hx hb dX12_pay_10 (by decide) ?_
    refine lv_ldc2 (v := 5000000) hx hb F.2.2.2.1 (F.2.2.2.2 _ kk_X12_265) dX12_pay_11 ?_
    refine cs_i St [] [0, 1, 2, 3, 4, 5, 6, 7, 8, 9, 10, 11, 12, 13, 14, 15, 16] (wc := []) (wr := [(qarI (a 10) (d 10) 60 f_giver), (qarI (a 16) (d 16) 60 f_isLapsed), (qarI (a 17) (d 17) 60 f_wasTakenUp), (qarI (a 12) (d 12) 60 f_first), (qarI (a 13) (d 13) 60 f_every), (qarI (a 14) (d 14) 60 f_dues), (qarI (a 18) (d 18) 5040 f_due), (qarI (a 19) (d 19) 5040 f_filled), (qarI (a 20) (d 20) 5040 f_isThere), (qarI (a 21) (d 21) 5040 f_counts), (qarI (a 22) (d 22) 250 f_sumGiver), (qarI (a 23) (d 23) 250 f_sumMonth), (qarI (a 24) (d 24) 250 f_sumPence), (qarI (a 25) (d 25) 250 f_isClaimed), (qarI (a 7) (d 7) 30 f_given), (qarI (a 0) (d 0) 9 f_rule), (cMq a h v_taped v_size v_from v_behind v_hand v_value v_fault v_faultAt v_clock v_coin v_loan v_matched v_taxed v_paidStages v_grown v_pledges v_sums v_stages v_isStopped v_begun)]) rfl rfl (by decide) (by decide) (va_runS (As := [.long x2.toInt64, .long 1, .long 5000000]) (rest := []) F (c12_in l G k _ x2.toInt64 1 5000000 x2.toInt 1 5000000 (Int32.toInt_toInt64 x2) (by decide) (by decide)) (cwSt F mf_X12_in km_X12_58 rfl rfl ⟨Nat.le_of_ble_eq_true rfl, Nat.le_of_ble_eq_true rfl⟩) (cs_pre St [] rfl (by decide) [] rfl) rfl rfl hl.1 rfl (lv_room (Nat.le_of_ble_eq_true rfl)) dX12_pay_14 ⟨Nat.le_of_ble_eq_true rfl, Nat.le_of_ble_eq_true rfl⟩) (fun r_7 u_8 H locs hw St => ?_)
    try dsimp only at hw
    rcases hw with ⟨z_9, hf_10⟩ | ⟨z_11, hf_12⟩
    ·
      subst r_7
      have St : cS G k [(qarI (a 10) (d 10) 60 f_giver), (qarI (a 16) (d 16) 60 f_isLapsed), (qarI (a 17) (d 17) 60 f_wasTakenUp), (qarI (a 12) (d 12) 60 f_first), (qarI (a 13) (d 13) 60 f_every), (qarI (a 14) (d 14) 60 f_dues), (qarI (a 18) (d 18) 5040 f_due), (qarI (a 19) (d 19) 5040 f_filled), (qarI (a 20) (d 20) 5040 f_isThere), (qarI (a 21) (d 21) 5040 f_counts), (qarI (a 22) (d 22) 250 f_sumGiver), (qarI (a 23) (d 23) 250 f_sumMonth), (qarI (a 24) (d 24) 250 f_sumPence), (qarI (a 25) (d 25) 250 f_isClaimed), (qarI (a 7) (d 7) 30 f_given), (qarI (a 0) (d 0) 9 f_rule), (cMq a h v_taped v_size v_from v_behind v_hand v_value v_fault v_faultAt v_clock v_coin v_loan v_matched v_taxed v_paidStages v_grown v_pledges v_sums v_stages v_isStopped v_begun)] [((d 10), .int), ((d 16), .boolean), ((d 17), .boolean), ((d 12), .int), ((d 13), .int), ((d 14), .int), ((d 18), .int), ((d 19), .int), ((d 20), .boolean), ((d 21), .boolean), ((d 22), .int), ((d 23), .int), ((d 24), .int), ((d 25), .boolean), ((d 7), .int), ((d 0), .int)] A s H locs := St
      refine lv_if_ne (tgt := 23) hx hb dX12_pay_17 (by decide) (fun c17 => ?_) (fun c17 => ?_)
      rotate_left
      · exact absurd c17 (by decide)
      have hp1 : 0 ≤ x1.toInt := by omega
      have hn1 := nc_int hp1
      have hix : (x1.toNatClampNeg : Int) < v_pledges.toInt := by omega
      have hm9 := hM.1 _ hix
      have hw9 := hA _ hix
      obtain ⟨T9, eT9⟩ : ∃ z, z = tP x1.toNatClampNeg := ⟨_, rfl⟩
      rw [← eT9] at hm9 hw9
      obtain ⟨Nn, pg, pf, pe, pl, pk, wD, wF, wS⟩ := T9
      have hR := hm9.2
      have hW := hw9.2.1
      have hL := hw9.2.2.1
      have hdd := hR.1.2.2
      have hpf := hW.1
      have hpl := hw9.1.2.2.1
      have hpi : pl.toInt = 0 ∨ pl.toInt = 1 := hpl.elim (fun h_ => Or.inl (by rw [h_]; decide)) (fun h_ => Or.inr (by rw [h_]; decide))
      have hkl := congrArg Int32.toInt hm9.1.2.1
      have hkk := congrArg Int32.toInt hm9.1.2.2
      skip
      refine lv_aload_n hx hb dX12_pay_23 rfl (lv_at hl 0 rfl) ?_
      refine cs_get F St 16 rfl rfl inX12 35 (by decide) kf_X12_153 rfl dX12_pay_24 ?_
      refine lv_iload_n hx hb dX12_pay_27 rfl (lv_at hl 1 rfl) ?_
      refine cs_zld F St 1 1 rfl rfl (vp_in_iff.mpr ⟨by omega, by omega⟩) dX12_pay_28 ?_
      refine lv_topi (fun y_13 ey_13 => ?_)
      have gy_13 := congrArg Int32.toInt ey_13
      refine lv_if_eq (tgt := 35) hx hb dX12_pay_29 (by decide) (fun c29 => ?_) (fun c29 => ?_)
      ·
        have i29 := ci_eq (x := y_13) (y := 0) rfl (show (0 : Int32).toInt = 0 by decide) c29
        refine lv_iload_n hx hb dX12_pay_35 rfl (lv_at hl 2 rfl) ?_
        refine lv_aload_n hx hb dX12_pay_36 rfl (lv_at hl 0 rfl) ?_
        refine lv_iload_n hx hb dX12_pay_37 rfl (lv_at hl 1 rfl) ?_
        refine cs_i St [16, 3, 4, 5, 6, 7, 8, 9] [0, 1, 2, 10, 11, 12, 13, 14, 15] (wc := [(cMq a h v_taped v_size v_from v_behind v_hand v_value v_fault v_faultAt v_clock v_coin v_loan v_matched v_taxed v_paidStages v_grown v_pledges v_sums v_stages v_isStopped v_begun), (qarI (a 12) (d 12) 60 f_first), (qarI (a 13) (d 13) 60 f_every), (qarI (a 14) (d 14) 60 f_dues), (qarI (a 18) (d 18) 5040 f_due), (qarI (a 19) (d 19) 5040 f_filled), (qarI (a 20) (d 20) 5040 f_isThere), (qarI (a 21) (d 21) 5040 f_counts)]) (wr := [(qarI (a 10) (d 10) 60 f_giver), (qarI (a 16) (d 16) 60 f_isLapsed), (qarI (a 17) (d 17) 60 f_wasTakenUp), (qarI (a 22) (d 22) 250 f_sumGiver), (qarI (a 23) (d 23) 250 f_sumMonth), (qarI (a 24) (d 24) 250 f_sumPence), (qarI (a 25) (d 25) 250 f_isClaimed), (qarI (a 7) (d 7) 30 f_given), (qarI (a 0) (d 0) 9 f_rule)]) rfl rfl (by decide) (by decide) (va_runV (As := [.int x1]) (rest := [.int x2]) F (e12_unfilled l G k _ h a d v_taped v_size v_from v_behind v_hand v_value v_fault v_faultAt v_clock v_coin v_loan v_matched v_taxed v_paidStages v_grown v_pledges v_sums v_stages v_isStopped v_begun f_first f_every f_dues f_due f_filled f_isThere f_counts x1 hPd (by omega) (by omega) Nn pf pe wD wF wS hW hR) (cwVt F mf_X12_unfilled km_X12_267 rfl rfl ⟨Nat.le_of_ble_eq_true rfl, Nat.le_of_ble_eq_true rfl⟩) (cs_preV St [16, 3, 4, 5, 6, 7, 8, 9] rfl (by decide) [3, 4, 5, 6, 7, 8, 9] rfl (ci := 12) (q0 := 16) rfl rfl) rfl rfl hl.1 rfl (lv_room (Nat.le_of_ble_eq_true rfl)) dX12_pay_38 ⟨Nat.le_of_ble_eq_true rfl, Nat.le_of_ble_eq_true rfl⟩) (fun r_14 u_15 H locs hw St => ?_)
        try dsimp only at hw
        have hv_16 := hw
        have St : cS G k [(qarI (a 10) (d 10) 60 f_giver), (qarI (a 16) (d 16) 60 f_isLapsed), (qarI (a 17) (d 17) 60 f_wasTakenUp), (qarI (a 22) (d 22) 250 f_sumGiver), (qarI (a 23) (d 23) 250 f_sumMonth), (qarI (a 24) (d 24) 250 f_sumPence), (qarI (a 25) (d 25) 250 f_isClaimed), (qarI (a 7) (d 7) 30 f_given), (qarI (a 0) (d 0) 9 f_rule), (cMq a h v_taped v_size v_from v_behind v_hand v_value v_fault v_faultAt v_clock v_coin v_loan v_matched v_taxed v_paidStages v_grown v_pledges v_sums v_stages v_isStopped v_begun), (qarI (a 12) (d 12) 60 f_first), (qarI (a 13) (d 13) 60 f_every), (qarI (a 14) (d 14) 60 f_dues), (qarI (a 18) (d 18) 5040 f_due), (qarI (a 19) (d 19) 5040 f_filled), (qarI (a 20) (d 20) 5040 f_isThere), (qarI (a 21) (d 21) 5040 f_counts)] [((d 10), .int), ((d 16), .boolean), ((d 17), .boolean), ((d 12), .int), ((d 13), .int), ((d 14), .int), ((d 18), .int), ((d 19), .int), ((d 20), .boolean), ((d 21), .boolean), ((d 22), .int), ((d 23), .int), ((d 24), .int), ((d 25), .boolean), ((d 7), .int), ((d 0), .int)] A s H locs := St
        refine lv_icmp_le (tgt := 47) hx hb dX12_pay_41 (by decide) (fun c41 => ?_) (fun c41 => ?_)
        ·
          have i41 := ci_le (x := x2) (y := r_14) rfl rfl c41
          refine lv_aload_n hx hb dX12_pay_47 rfl (lv_at hl 0 rfl) ?_
          refine cs_get F St 9 rfl rfl inX12 23 (by decide) kf_X12_224 rfl dX12_pay_48 ?_
          refine lv_if_eq (tgt := 57) hx hb dX12_pay_51 (by decide) (fun c51 => ?_) (fun c51 => ?_)
          ·
            have i51 := ci_eq (x := v_isStopped) (y := 0) rfl (show (0 : Int32).toInt = 0 by decide) c51
            refine lv_aload_n hx hb dX12_pay_57 rfl (lv_at hl 0 rfl) ?_
            refine cs_get F St 9 rfl rfl inX12 21 (by decide) kf_X12_246 rfl dX12_pay_58 ?_
            refine lv_sipush (v := 250) hx hb dX12_pay_61 (by decide) ?_
            refine lv_icmp_ne (tgt := 70) hx hb dX12_pay_64 (by decide) (fun c64 => ?_) (fun c64 => ?_)
            ·
              have i64 := ci_ne (x := v_sums) (y := 250) rfl (show (250 : Int32).toInt = 250 by decide) c64
              refine lv_iload_n hx hb dX12_pay_70 rfl (lv_at hl 2 rfl) ?_
              refine lv_istore_n (lv' := [(3, .int x2), (0, .ref h), (1, .int x1), (2, .int x2)]) hx hb dX12_pay_71 rfl hl (by decide) rfl (fun ls hl => ?_)
              refine lv_bipush (v := 84) hx hb dX12_pay_72 (by decide) ?_
              refine lv_iload_n hx hb dX12_pay_74 rfl (lv_at hl 2 rfl) ?_
              refine lv_imul hx hb dX12_pay_75 ?_
              refine lv_topi (fun y_17 ey_17 => ?_)
              first | have jy_17 : y_17.toInt = 84 * x1.toInt := (by have q9 := ci_mul (x := 84) (y := x1) (show (84 : Int32).toInt = 84 by decide) rfl ey_17; omega) | have jy_17 := ci_mul (x := 84) (y := x1) (show (84 : Int32).toInt = 84 by decide) rfl ey_17
              refine lv_istore (lv' := [(4, .int y_17), (3, .int x2), (0, .ref h), (1, .int x1), (2, .int x2)]) hx hb dX12_pay_76 hl (by decide) rfl (fun ls hl => ?_)
              have lp78 : ∀ (n : Nat) (kk : Int32) (lf : Int32) (ff : Nat → Int32) (H : Heap) (locs : List Loc) (ls : Array Slot), ((84 * x1.toInt ≤ kk.toInt ∧ kk.toInt ≤ 84 * x1.toInt + (f_dues x1.toNatClampNeg).toInt) ∧ ∃ jn : Nat, kk.toNatClampNeg = 84 * x1.toNatClampNeg + jn ∧ sgI true ff f_filled x1.toNatClampNeg Nn (cS0 wS) (vF x2.toInt wD wF wS) wF jn ∧ lf.toInt = lft x2.toInt (tz Nn (tO wD wF wS)) jn) → ((6000 - kk.toInt).toNat) < n → cS G k [(qarI (a 10) (d 10) 60 f_giver), (qarI (a 16) (d 16) 60 f_isLapsed), (qarI (a 17) (d 17) 60 f_wasTakenUp), (qarI (a 22) (d 22) 250 f_sumGiver), (qarI (a 23) (d 23) 250 f_sumMonth), (qarI (a 24) (d 24) 250 f_sumPence), (qarI (a 25) (d 25) 250 f_isClaimed), (qarI (a 7) (d 7) 30 f_given), (qarI (a 0) (d 0) 9 f_rule), (cMq a h v_taped v_size v_from v_behind v_hand v_value v_fault v_faultAt v_clock v_coin v_loan v_matched v_taxed v_paidStages v_grown v_pledges v_sums v_stages v_isStopped v_begun), (qarI (a 12) (d 12) 60 f_first), (qarI (a 13) (d 13) 60 f_every), (qarI (a 14) (d 14) 60 f_dues), (qarI (a 18) (d 18) 5040 f_due), (qarI (a 19) (d 19) 5040 ff), (qarI (a 20) (d 20) 5040 f_isThere), (qarI (a 21) (d 21) 5040 f_counts)] [((d 10), .int), ((d 16), .boolean), ((d 17), .boolean), ((d 12), .int), ((d 13), .int), ((d 14), .int), ((d 18), .int), ((d 19), .int), ((d 20), .boolean), ((d 21), .boolean), ((d 22), .int), ((d 23), .int), ((d 24), .int), ((d 25), .boolean), ((d 7), .int), ((d 0), .int)] A s H locs → lv_has ls 6 [(4, .int kk), (3, .int lf), (0, .ref h), (1, .int x1), (2, .int x2)] → W p l e ({ frames := 2, cells := 0, slots := 0, locals := 46 } : Room) s m args below meth c H locs 0 0 Q (F0 m 78 ls []) := by
                intro n
                induction n with
                | zero => intro kk lf ff H locs ls hI hn; exact absurd hn (Nat.not_lt_zero _)
                | succ n ih =>
                  intro kk lf ff H locs ls hI hn St hl
                  obtain ⟨⟨hI0, hI1⟩, jn, hj, hs1, hlf⟩ := hI
                  have hk0 : 0 ≤ kk.toInt := by omega
                  have nk := nc_int hk0
                  have hlg := lft_ge x2.toInt (tz Nn (tO wD wF wS)) jn
                  have hlx : lf.toInt ≤ x2.toInt := by rw [hlf]; exact lft_le (fun j_ hj_ => (tz_bd (c := 100000) (by omega) (fun k2 h2 => tO_bd hW h2) j_).1) (by omega)
                  refine lv_iload hx hb dX12_pay_78 (lv_at hl 0 rfl) ?_
                  refine lv_bipush (v := 84) hx hb dX12_pay_80 (by decide) ?_
                  refine lv_iload_n hx hb dX12_pay_82 rfl (lv_at hl 3 rfl) ?_
                  refine lv_imul hx hb dX12_pay_83 ?_
                  refine lv_topi (fun y_18 ey_18 => ?_)
                  first | have jy_18 : y_18.toInt = 84 * x1.toInt := (by have q9 := ci_mul (x := 84) (y := x1) (show (84 : Int32).toInt = 84 by decide) rfl ey_18; omega) | have jy_18 := ci_mul (x := 84) (y := x1) (show (84 : Int32).toInt = 84 by decide) rfl ey_18
                  refine lv_aload_n hx hb dX12_pay_84 rfl (lv_at hl 2 rfl) ?_
                  refine cs_get F St 9 rfl rfl inX12 33 (by decide) kf_X12_147 rfl dX12_pay_85 ?_
                  refine lv_iload_n hx hb dX12_pay_88 rfl (lv_at hl 3 rfl) ?_
                  refine cs_ild F St 12 5 rfl rfl (vp_in_iff.mpr ⟨by omega, by omega⟩) dX12_pay_89 ?_
                  refine lv_topi (fun y_19 ey_19 => ?_)
                  have gy_19 := congrArg Int32.toInt ey_19
                  have hdy_19 := mPd_d hPd (by omega) (by omega) ey_19
                  refine lv_iadd hx hb dX12_pay_90 ?_
                  refine lv_topi (fun y_20 ey_20 => ?_)
                  first | have jy_20 : y_20.toInt = y_18.toInt + y_19.toInt := (by have q9 := ci_add (x := y_18) (y := y_19) rfl rfl ey_20; omega) | have jy_20 := ci_add (x := y_18) (y := y_19) rfl rfl ey_20
                  refine lv_icmp_ge (tgt := 151) hx hb dX12_pay_91 (by decide) (fun c91 => ?_) (fun c91 => ?_)
                  ·
                    have i91 := ci_le (x := y_20) (y := kk) rfl rfl c91
                    refine lv_aload_n hx hb dX12_pay_151 rfl (lv_at hl 2 rfl) ?_
                    refine lv_aload_n hx hb dX12_pay_152 rfl (lv_at hl 2 rfl) ?_
                    refine cs_get F St 9 rfl rfl inX12 29 (by decide) kf_X12_135 rfl dX12_pay_153 ?_
                    refine lv_iload_n hx hb dX12_pay_156 rfl (lv_at hl 3 rfl) ?_
                    refine cs_ild F St 0 0 rfl rfl (vp_in_iff.mpr ⟨by omega, by omega⟩) dX12_pay_157 ?_
                    refine lv_topi (fun y_21 ey_21 => ?_)
                    have gy_21 := congrArg Int32.toInt ey_21
                    have hdy_21 := mGi_g hPg (by omega) (by omega) ey_21
                    refine lv_iload_n hx hb dX12_pay_158 rfl (lv_at hl 4 rfl) ?_
                    refine cs_i St [9, 3, 4, 5, 6, 7, 8] [0, 1, 2, 10, 11, 12, 13, 14, 15, 16] (wc := [(cMq a h v_taped v_size v_from v_behind v_hand v_value v_fault v_faultAt v_clock v_coin v_loan v_matched v_taxed v_paidStages v_grown v_pledges v_sums v_stages v_isStopped v_begun), (qarI (a 22) (d 22) 250 f_sumGiver), (qarI (a 23) (d 23) 250 f_sumMonth), (qarI (a 24) (d 24) 250 f_sumPence), (qarI (a 25) (d 25) 250 f_isClaimed), (qarI (a 7) (d 7) 30 f_given), (qarI (a 0) (d 0) 9 f_rule)]) (wr := [(qarI (a 10) (d 10) 60 f_giver), (qarI (a 16) (d 16) 60 f_isLapsed), (qarI (a 17) (d 17) 60 f_wasTakenUp), (qarI (a 12) (d 12) 60 f_first), (qarI (a 13) (d 13) 60 f_every), (qarI (a 14) (d 14) 60 f_dues), (qarI (a 18) (d 18) 5040 f_due), (qarI (a 19) (d 19) 5040 ff), (qarI (a 20) (d 20) 5040 f_isThere), (qarI (a 21) (d 21) 5040 f_counts)]) rfl rfl (by decide) (by decide) (va_runV (As := [.int y_21, .int x2]) (rest := []) F (e12_come l G k _ h a d v_taped v_size v_from v_behind v_hand v_value v_fault v_faultAt v_clock v_coin v_loan v_matched v_taxed v_paidStages v_grown v_pledges v_sums v_stages v_isStopped v_begun f_sumGiver f_sumMonth f_sumPence f_isClaimed f_given f_rule y_21 x2 hSg hSp (by omega) (by omega) (by omega) hF hGv (by omega) (by omega) hu3) (cwVt F mf_X12_come km_X12_270 rfl rfl ⟨Nat.le_of_ble_eq_true rfl, Nat.le_of_ble_eq_true rfl⟩) (cs_preV St [9, 3, 4, 5, 6, 7, 8] rfl (by decide) [10, 11, 12, 13, 14, 15] rfl (ci := 12) (q0 := 9) rfl rfl) rfl rfl hl.1 rfl (lv_room (Nat.le_of_ble_eq_true rfl)) dX12_pay_159 ⟨Nat.le_of_ble_eq_true rfl, Nat.le_of_ble_eq_true rfl⟩) (fun r_22 u_23 H locs hw St => ?_)
                    obtain ⟨w_sums_24, w_matched_25, w_coin_26, g_sumGiver_27, g_sumMonth_28, g_sumPence_29, g_isClaimed_30, g_given_31⟩ := u_23
                    try dsimp only at hw
                    obtain ⟨hf_32, hk3_33, hGv2_34, hSg2_35, hSp2_36⟩ := hw
                    have St : cS G k [(qarI (a 10) (d 10) 60 f_giver), (qarI (a 16) (d 16) 60 f_isLapsed), (qarI (a 17) (d 17) 60 f_wasTakenUp), (qarI (a 12) (d 12) 60 f_first), (qarI (a 13) (d 13) 60 f_every), (qarI (a 14) (d 14) 60 f_dues), (qarI (a 18) (d 18) 5040 f_due), (qarI (a 19) (d 19) 5040 ff), (qarI (a 20) (d 20) 5040 f_isThere), (qarI (a 21) (d 21) 5040 f_counts), (cMq a h v_taped v_size v_from v_behind v_hand v_value v_fault v_faultAt v_clock w_coin_26 v_loan w_matched_25 v_taxed v_paidStages v_grown v_pledges w_sums_24 v_stages v_isStopped v_begun), (qarI (a 22) (d 22) 250 g_sumGiver_27), (qarI (a 23) (d 23) 250 g_sumMonth_28), (qarI (a 24) (d 24) 250 g_sumPence_29), (qarI (a 25) (d 25) 250 g_isClaimed_30), (qarI (a 7) (d 7) 30 g_given_31), (qarI (a 0) (d 0) 9 f_rule)] [((d 10), .int), ((d 16), .boolean), ((d 17), .boolean), ((d 12), .int), ((d 13), .int), ((d 14), .int), ((d 18), .int), ((d 19), .int), ((d 20), .boolean), ((d 21), .boolean), ((d 22), .int), ((d 23), .int), ((d 24), .int), ((d 25), .boolean), ((d 7), .int), ((d 0), .int)] A s H locs := St
                    have hcm : Rcom v_sums v_clock pg x2 f_rule f_sumGiver f_sumPence f_sumMonth v_matched.toInt v_coin.toInt r_22 w_sums_24 g_sumGiver_27 g_sumPence_29 g_sumMonth_28 w_matched_25.toInt w_coin_26.toInt := by have q9 := hf_32; rw [ey_21, hm9.1.1] at q9; exact q9
                    exact cs_iret F hr hlk hQ St (w_sums_24, w_matched_25, w_coin_26, g_sumGiver_27, g_sumMonth_28, g_sumPence_29, g_isClaimed_30, g_given_31, ff, (tbS tP x1.toNatClampNeg (fiT x2.toInt (Nn, pg, pf, pe, pl, pk, wD, wF, wS)))) (r := r_22) ⟨Or.inr (Or.inr (Or.inr (Or.inr (Or.inr (⟨⟨by unfold Cpy; omega, by rw [← eT9]; show pl.toInt = 0; omega, by rw [← eT9]; show _ ≤ sm _ _; omega, by omega, by omega⟩, by rw [← eT9]; exact hcm, by rw [← eT9]⟩))))), hk3_33, hGv2_34, hSg2_35, hSp2_36, mR_set hM hA hix (T := (fiT x2.toInt (Nn, pg, pf, pe, pl, pk, wD, wF, wS))) ⟨hm9.1, fi_rw hR (sg_end hs1 (by omega))⟩ sgO_r hs1.2.2 sgO_r sgO_r (fun _ _ => rfl) (fun _ _ => rfl), wfA_set hA (wf_fi hw9 (by show pl = 0; exact Int32.toInt_inj.mp (by omega)))⟩ [10, 0, 1, 2, 3, 4, 5, 6, 7, 8, 9, 11, 12, 13, 14, 15, 16] rfl (by decide) [] rfl (by decide) (by decide) dX12_pay_162
                  ·
                    have i91 := ci_nle (x := y_20) (y := kk) rfl rfl c91
                    refine lv_aload_n hx hb dX12_pay_94 rfl (lv_at hl 2 rfl) ?_
                    refine cs_get F St 9 rfl rfl inX12 39 (by decide) kf_X12_165 rfl dX12_pay_95 ?_
                    refine lv_iload hx hb dX12_pay_98 (lv_at hl 0 rfl) ?_
                    refine cs_zld F St 15 8 rfl rfl (vp_in_iff.mpr ⟨by omega, by omega⟩) dX12_pay_100 ?_
                    refine lv_topi (fun y_37 ey_37 => ?_)
                    have gy_37 := congrArg Int32.toInt ey_37
                    have hj9 := rw_J hR (i := kk.toNatClampNeg) (j := jn) hj (by omega)
                    refine lv_if_ne (tgt := 107) hx hb dX12_pay_101 (by decide) (fun c101 => ?_) (fun c101 => ?_)
                    ·
                      have i101 := ci_ne (x := y_37) (y := 0) rfl (show (0 : Int32).toInt = 0 by decide) c101
                      have hjl : jn < Nn := by omega
                      have hqk := congrArg Int32.toInt (sg_at hs1 hjl (Nat.le_refl _) hj)
                      have hto := tO_bd hW hjl
                      have ht1 := tO_1 (D := wD) (F := wF) (S := wS) (k := jn) (by omega)
                      have hw8 := hW.2 jn hjl
                      refine lv_iload_n hx hb dX12_pay_107 rfl (lv_at hl 1 rfl) ?_
                      refine lv_aload_n hx hb dX12_pay_108 rfl (lv_at hl 2 rfl) ?_
                      refine cs_get F St 9 rfl rfl inX12 37 (by decide) kf_X12_159 rfl dX12_pay_109 ?_
                      refine lv_iload hx hb dX12_pay_112 (lv_at hl 0 rfl) ?_
                      refine cs_ild F St 13 6 rfl rfl (vp_in_iff.mpr ⟨by omega, by omega⟩) dX12_pay_114 ?_
                      refine lv_topi (fun y_38 ey_38 => ?_)
                      have gy_38 := congrArg Int32.toInt ey_38
                      refine lv_aload_n hx hb dX12_pay_115 rfl (lv_at hl 2 rfl) ?_
                      refine cs_get F St 9 rfl rfl inX12 38 (by decide) kf_X12_162 rfl dX12_pay_116 ?_
                      refine lv_iload hx hb dX12_pay_119 (lv_at hl 0 rfl) ?_
                      refine cs_ild F St 14 7 rfl rfl (vp_in_iff.mpr ⟨by omega, by omega⟩) dX12_pay_121 ?_
                      refine lv_topi (fun y_39 ey_39 => ?_)
                      have gy_39 := congrArg Int32.toInt ey_39
                      refine lv_isub hx hb dX12_pay_122 ?_
                      refine lv_topi (fun y_40 ey_40 => ?_)
                      first | have jy_40 : y_40.toInt = y_38.toInt - y_39.toInt := (by have q9 := ci_sub (x := y_38) (y := y_39) rfl rfl ey_40; omega) | have jy_40 := ci_sub (x := y_38) (y := y_39) rfl rfl ey_40
                      refine va_mmin hx hb (F.2.2.1.trans hl.1.symm) F.2.2.2.1 (F.2.2.2.2 _ km_X12_254) (F.2.2.2.2 _ ks_J9_min_7cf53) (F.2.2.2.2 _ ki_J9) (F.2.2.2.2 _ kd_J9_min_7cf53) (Nat.le_of_ble_eq_true rfl) (Nat.le_of_ble_eq_true rfl) (Nat.le_of_ble_eq_true rfl) (Nat.le_of_ble_eq_true rfl) dX12_pay_123 ?_
                      refine lv_topi (fun y_41 ey_41 => ?_)
                      have jy_41 := ci_min (x := lf) (y := y_40) (u := lf.toInt) (v := y_40.toInt) rfl rfl ey_41
                      refine lv_istore (lv' := [(5, .int y_41), (4, .int kk), (3, .int lf), (0, .ref h), (1, .int x1), (2, .int x2)]) hx hb dX12_pay_126 hl (by decide) rfl (fun ls hl => ?_)
                      refine lv_aload_n hx hb dX12_pay_128 rfl (lv_at hl 3 rfl) ?_
                      refine cs_get F St 9 rfl rfl inX12 38 (by decide) kf_X12_162 rfl dX12_pay_129 ?_
                      refine lv_iload hx hb dX12_pay_132 (lv_at hl 1 rfl) ?_
                      refine lv_dup2_11 hx hb dX12_pay_134 rfl rfl ?_
                      refine cs_ild F St 14 7 rfl rfl (vp_in_iff.mpr ⟨by omega, by omega⟩) dX12_pay_135 ?_
                      refine lv_topi (fun y_42 ey_42 => ?_)
                      have gy_42 := congrArg Int32.toInt ey_42
                      refine lv_iload hx hb dX12_pay_136 (lv_at hl 0 rfl) ?_
                      refine lv_iadd hx hb dX12_pay_138 ?_
                      refine lv_topi (fun y_43 ey_43 => ?_)
                      first | have jy_43 : y_43.toInt = y_42.toInt + y_41.toInt := (by have q9 := ci_add (x := y_42) (y := y_41) rfl rfl ey_43; omega) | have jy_43 := ci_add (x := y_42) (y := y_41) rfl rfl ey_43
                      refine cs_ist F St 14 7 rfl rfl (vp_in_iff.mpr ⟨by omega, by omega⟩) (w' := [(qarI (a 10) (d 10) 60 f_giver), (qarI (a 16) (d 16) 60 f_isLapsed), (qarI (a 17) (d 17) 60 f_wasTakenUp), (qarI (a 22) (d 22) 250 f_sumGiver), (qarI (a 23) (d 23) 250 f_sumMonth), (qarI (a 24) (d 24) 250 f_sumPence), (qarI (a 25) (d 25) 250 f_isClaimed), (qarI (a 7) (d 7) 30 f_given), (qarI (a 0) (d 0) 9 f_rule), (cMq a h v_taped v_size v_from v_behind v_hand v_value v_fault v_faultAt v_clock v_coin v_loan v_matched v_taxed v_paidStages v_grown v_pledges v_sums v_stages v_isStopped v_begun), (qarI (a 12) (d 12) 60 f_first), (qarI (a 13) (d 13) 60 f_every), (qarI (a 14) (d 14) 60 f_dues), (qarI (a 18) (d 18) 5040 f_due), (qarI (a 19) (d 19) 5040 (upd ff (kk : Int32).toNatClampNeg y_43)), (qarI (a 20) (d 20) 5040 f_isThere), (qarI (a 21) (d 21) 5040 f_counts)]) rfl dX12_pay_139 (fun H locs St => ?_)
                      obtain ⟨f_44, ef_44⟩ : ∃ zz : Nat → Int32, zz = upd ff (kk : Int32).toNatClampNeg y_43 := ⟨_, rfl⟩
                      rw [← ef_44] at St
                      refine lv_iload_n hx hb dX12_pay_140 rfl (lv_at hl 2 rfl) ?_
                      refine lv_iload hx hb dX12_pay_141 (lv_at hl 0 rfl) ?_
                      refine lv_isub hx hb dX12_pay_143 ?_
                      refine lv_topi (fun y_45 ey_45 => ?_)
                      first | have jy_45 : y_45.toInt = lf.toInt - y_41.toInt := (by have q9 := ci_sub (x := lf) (y := y_41) rfl rfl ey_45; omega) | have jy_45 := ci_sub (x := lf) (y := y_41) rfl rfl ey_45
                      refine lv_istore_n (lv' := [(3, .int y_45), (5, .int y_41), (4, .int kk), (0, .ref h), (1, .int x1), (2, .int x2)]) hx hb dX12_pay_144 rfl hl (by decide) rfl (fun ls hl => ?_)
                      obtain ⟨y_46, ey_46⟩ : ∃ zz : Int32, zz = kk + 1 := ⟨_, rfl⟩
                      first | have jy_46 : y_46.toInt = kk.toInt + 1 := (by have q9 := ci_add (x := kk) rfl (show (1 : Int32).toInt = 1 by decide) ey_46; omega) | have jy_46 := ci_add (x := kk) rfl (show (1 : Int32).toInt = 1 by decide) ey_46
                      refine lv_iinc (v := y_46) (lv' := [(4, .int y_46), (3, .int y_45), (5, .int y_41), (0, .ref h), (1, .int x1), (2, .int x2)]) hx hb dX12_pay_145 hl (k := 2) rfl (by rw [ey_46]; rfl) (by decide) rfl (fun ls hl => ?_)
                      refine lv_goto (tgt := 78) hx hb dX12_pay_148 (by decide) ?_
                      exact ih y_46 y_45 f_44 _ _ _ ⟨⟨by omega, by omega⟩, jn + 1, by rw [nc_s hk0 (show y_46.toInt = kk.toInt + 1 by omega)]; omega, (by rw [ef_44]; exact sg_y hs1 hj (by omega) (fun a_ => ⟨decide_eq_true (by omega), py_v (pt := y_41.toInt) a_ hlf (by omega) (by omega)⟩) (fun _ a_ => absurd hjl (by omega))), py_l (pt := y_41.toInt) hlf (by rw [tz_in hjl]; omega) (by rw [tz_in hjl]; omega) (by omega)⟩ (by omega) St (lv_sub hl [0, 1, 3, 4, 5] rfl)
                    ·
                      have i101 := ci_eq (x := y_37) (y := 0) rfl (show (0 : Int32).toInt = 0 by decide) c101
                      refine lv_goto (tgt := 145) hx hb dX12_pay_104 (by decide) ?_
                      obtain ⟨y_47, ey_47⟩ : ∃ zz : Int32, zz = kk + 1 := ⟨_, rfl⟩
                      first | have jy_47 : y_47.toInt = kk.toInt + 1 := (by have q9 := ci_add (x := kk) rfl (show (1 : Int32).toInt = 1 by decide) ey_47; omega) | have jy_47 := ci_add (x := kk) rfl (show (1 : Int32).toInt = 1 by decide) ey_47
                      refine lv_iinc (v := y_47) (lv' := [(4, .int y_47), (3, .int lf), (0, .ref h), (1, .int x1), (2, .int x2)]) hx hb dX12_pay_145 hl (k := 0) rfl (by rw [ey_47]; rfl) (by decide) rfl (fun ls hl => ?_)
                      refine lv_goto (tgt := 78) hx hb dX12_pay_148 (by decide) ?_
                      exact ih y_47 lf ff _ _ _ ⟨⟨by omega, by omega⟩, jn + 1, by rw [nc_s hk0 (show y_47.toInt = kk.toInt + 1 by omega)]; omega, sg_n hs1 (fun _ b_ => absurd (of_decide_eq_true b_) (by omega)), py_k hlf (by unfold tz tO; split <;> (try split) <;> omega)⟩ (by omega) St (lv_sub hl [0, 1, 2, 3, 4] rfl)
              exact lp78 6001 y_17 x2 f_filled _ _ _ ⟨⟨by omega, by omega⟩, 0, py_0 hp1 (by omega), sg_0 (fun j_ h_ => (hR.2.1 j_ h_).2.1) (fun _ j_ a_ b_ => (hR.2.2.1 j_ a_ b_).1), lft_s0 (by omega)⟩ (by omega) St (lv_sub hl [0, 1, 2, 3, 4] rfl)
            ·
              have i64 := ci_eq (x := v_sums) (y := 250) rfl (show (250 : Int32).toInt = 250 by decide) c64
              refine lv_bipush (v := (-3)) hx hb dX12_pay_67 (by decide) ?_
              exact cs_iret F hr hlk hQ St (v_sums, v_matched, v_coin, f_sumGiver, f_sumMonth, f_sumPence, f_isClaimed, f_given, f_filled, tP) (r := (-3)) ⟨Or.inr (Or.inr (Or.inr (Or.inr (Or.inl ⟨⟨rfl, by unfold Cpy; omega, by rw [← eT9]; show pl.toInt = 0; omega, by rw [← eT9]; show _ ≤ sm _ _; omega, by omega, by omega⟩, Rnoc_r, rfl⟩)))), rfl, hGv, hSg, hSp, hM, hA⟩ [9, 0, 1, 2, 10, 11, 12, 13, 14, 15, 16, 3, 4, 5, 6, 7, 8] rfl (by decide) [] rfl (by decide) (by decide) dX12_pay_69
          ·
            have i51 := ci_ne (x := v_isStopped) (y := 0) rfl (show (0 : Int32).toInt = 0 by decide) c51
            refine lv_bipush (v := (-4)) hx hb dX12_pay_54 (by decide) ?_
            exact cs_iret F hr hlk hQ St (v_sums, v_matched, v_coin, f_sumGiver, f_sumMonth, f_sumPence, f_isClaimed, f_given, f_filled, tP) (r := (-4)) ⟨Or.inr (Or.inr (Or.inr (Or.inl ⟨⟨rfl, by unfold Cpy; omega, by rw [← eT9]; show pl.toInt = 0; omega, by rw [← eT9]; show _ ≤ sm _ _; omega, by omega⟩, Rnoc_r, rfl⟩))), rfl, hGv, hSg, hSp, hM, hA⟩ [9, 0, 1, 2, 10, 11, 12, 13, 14, 15, 16, 3, 4, 5, 6, 7, 8] rfl (by decide) [] rfl (by decide) (by decide) dX12_pay_56
        ·
          have i41 := ci_nle (x := x2) (y := r_14) rfl rfl c41
          refine lv_bipush (v := (-2)) hx hb dX12_pay_44 (by decide) ?_
          exact cs_iret F hr hlk hQ St (v_sums, v_matched, v_coin, f_sumGiver, f_sumMonth, f_sumPence, f_isClaimed, f_given, f_filled, tP) (r := (-2)) ⟨Or.inr (Or.inr (Or.inl ⟨⟨rfl, by unfold Cpy; omega, by rw [← eT9]; show pl.toInt = 0; omega, by rw [← eT9]; show sm _ _ < _; omega⟩, Rnoc_r, rfl⟩)), rfl, hGv, hSg, hSp, hM, hA⟩ [9, 0, 1, 2, 10, 11, 12, 13, 14, 15, 16, 3, 4, 5, 6, 7, 8] rfl (by decide) [] rfl (by decide) (by decide) dX12_pay_46
      ·
        have i29 := ci_ne (x := y_13) (y := 0) rfl (show (0 : Int32).toInt = 0 by decide) c29
        refine lv_bipush (v := (-4)) hx hb dX12_pay_32 (by decide) ?_
        exact cs_iret F hr hlk hQ St (v_sums, v_matched, v_coin, f_sumGiver, f_sumMonth, f_sumPence, f_isClaimed, f_given, f_filled, tP) (r := (-4)) ⟨Or.inr (Or.inl ⟨⟨rfl, by unfold Cpy; omega, by rw [← eT9]; show ¬ pl.toInt = 0; omega⟩, Rnoc_r, rfl⟩), rfl, hGv, hSg, hSp, hM, hA⟩ [16, 0, 1, 2, 3, 4, 5, 6, 7, 8, 9, 10, 11, 12, 13, 14, 15] rfl (by decide) [] rfl (by decide) (by decide) dX12_pay_34
    ·
      subst r_7
      have St : cS G k [(qarI (a 10) (d 10) 60 f_giver), (qarI (a 16) (d 16) 60 f_isLapsed), (qarI (a 17) (d 17) 60 f_wasTakenUp), (qarI (a 12) (d 12) 60 f_first), (qarI (a 13) (d 13) 60 f_every), (qarI (a 14) (d 14) 60 f_dues), (qarI (a 18) (d 18) 5040 f_due), (qarI (a 19) (d 19) 5040 f_filled), (qarI (a 20) (d 20) 5040 f_isThere), (qarI (a 21) (d 21) 5040 f_counts), (qarI (a 22) (d 22) 250 f_sumGiver), (qarI (a 23) (d 23) 250 f_sumMonth), (qarI (a 24) (d 24) 250 f_sumPence), (qarI (a 25) (d 25) 250 f_isClaimed), (qarI (a 7) (d 7) 30 f_given), (qarI (a 0) (d 0) 9 f_rule), (cMq a h v_taped v_size v_from v_behind v_hand v_value v_fault v_faultAt v_clock v_coin v_loan v_matched v_taxed v_paidStages v_grown v_pledges v_sums v_stages v_isStopped v_begun)] [((d 10), .int), ((d 16), .boolean), ((d 17), .boolean), ((d 12), .int), ((d 13), .int), ((d 14), .int), ((d 18), .int), ((d 19), .int), ((d 20), .boolean), ((d 21), .boolean), ((d 22), .int), ((d 23), .int), ((d 24), .int), ((d 25), .boolean), ((d 7), .int), ((d 0), .int)] A s H locs := St
      refine lv_if_ne (tgt := 23) hx hb dX12_pay_17 (by decide) (fun c17 => ?_) (fun c17 => ?_)
      · exact absurd c17 (by decide)
      refine lv_bipush (v := (-2)) hx hb dX12_pay_20 (by decide) ?_
      exact cs_iret F hr hlk hQ St (v_sums, v_matched, v_coin, f_sumGiver, f_sumMonth, f_sumPence, f_isClaimed, f_given, f_filled, tP) (r := (-2)) ⟨Or.inl ⟨⟨rfl, by unfold Cpy; omega⟩, Rnoc_r, rfl⟩, rfl, hGv, hSg, hSp, hM, hA⟩ [16, 0, 1, 2, 3, 4, 5, 6, 7, 8, 9, 10, 11, 12, 13, 14, 15] rfl (by decide) [] rfl (by decide) (by decide) dX12_pay_22
  ·
    subst r_1
    have St : cS G k [(qarI (a 10) (d 10) 60 f_giver), (qarI (a 16) (d 16) 60 f_isLapsed), (qarI (a 17) (d 17) 60 f_wasTakenUp), (qarI (a 12) (d 12) 60 f_first), (qarI (a 13) (d 13) 60 f_every), (qarI (a 14) (d 14) 60 f_dues), (qarI (a 18) (d 18) 5040 f_due), (qarI (a 19) (d 19) 5040 f_filled), (qarI (a 20) (d 20) 5040 f_isThere), (qarI (a 21) (d 21) 5040 f_counts), (qarI (a 22) (d 22) 250 f_sumGiver), (qarI (a 23) (d 23) 250 f_sumMonth), (qarI (a 24) (d 24) 250 f_sumPence), (qarI (a 25) (d 25) 250 f_isClaimed), (qarI (a 7) (d 7) 30 f_given), (qarI (a 0) (d 0) 9 f_rule), (cMq a h v_taped v_size v_from v_behind v_hand v_value v_fault v_faultAt v_clock v_coin v_loan v_matched v_taxed v_paidStages v_grown v_pledges v_sums v_stages v_isStopped v_begun)] [((d 10), .int), ((d 16), .boolean), ((d 17), .boolean), ((d 12), .int), ((d 13), .int), ((d 14), .int), ((d 18), .int), ((d 19), .int), ((d 20), .boolean), ((d 21), .boolean), ((d 22), .int), ((d 23), .int), ((d 24), .int), ((d 25), .boolean), ((d 7), .int), ((d 0), .int)] A s H locs := St
    refine lv_if_eq (tgt := 20) hx hb dX12_pay_5 (by decide) (fun c5 => ?_) (fun c5 => ?_)
    rotate_left
    · exact absurd (by decide) c5
    refine lv_bipush (v := (-2)) hx hb dX12_pay_20 (by decide) ?_
    exact cs_iret F hr hlk hQ St (v_sums, v_matched, v_coin, f_sumGiver, f_sumMonth, f_sumPence, f_isClaimed, f_given, f_filled, tP) (r := (-2)) ⟨Or.inl ⟨⟨rfl, by unfold Cpy; omega⟩, Rnoc_r, rfl⟩, rfl, hGv, hSg, hSp, hM, hA⟩ [16, 0, 1, 2, 3, 4, 5, 6, 7, 8, 9, 10, 11, 12, 13, 14, 15] rfl (by decide) [] rfl (by decide) (by decide) dX12_pay_22
set_option maxHeartbeats 4000000 in
set_option maxRecDepth 100000 in
theorem e12_claim (l : Launch) (G : va_G) (k : Nat → Nat) (sz : Nat) (h : Nat) (a : Nat → Nat) (d : Nat → ClassId) (v_taped : Int32) (v_size : Int32) (v_from : Int32) (v_behind : Int32) (v_hand : Int32) (v_value : Int32) (v_fault : Int32) (v_faultAt : Int32) (v_clock : Int32) (v_coin : Int32) (v_loan : Int32) (v_matched : Int32) (v_taxed : Int32) (v_paidStages : Int32) (v_grown : Int32) (v_pledges : Int32) (v_sums : Int32) (v_stages : Int32) (v_isStopped : Int32) (v_begun : Int32) (f_rule : Nat → Int32) (f_sumGiver : Nat → Int32) (f_isClaimed : Nat → Int32) (f_declaredFrom : Nat → Int32) (f_declaredTo : Nat → Int32) (f_sumMonth : Nat → Int32) (f_sumPence : Nat → Int32) (hSg : mGi v_sums f_sumGiver) (hSp : mSp v_sums f_sumPence) (hF : rbd f_rule) (hta : 0 ≤ v_taxed.toInt ∧ v_taxed.toInt + txV (f_rule (3 : Int32).toNatClampNeg).toInt v_sums.toNatClampNeg f_sumGiver f_sumPence f_sumMonth f_isClaimed f_declaredFrom f_declaredTo ≤ 700000000) (hco : 0 ≤ v_coin.toInt ∧ v_coin.toInt + txV (f_rule (3 : Int32).toNatClampNeg).toInt v_sums.toNatClampNeg f_sumGiver f_sumPence f_sumMonth f_isClaimed f_declaredFrom f_declaredTo ≤ 2000000000) : Met l yX12_claim (Cond.code yX12_claim cX12_claim 4 (some .int) :: tb) ({ frames := 1, cells := 0, slots := 0, locals := 25 } : Room) (va_Pc [.ref h] (cP G k [(cMq a h v_taped v_size v_from v_behind v_hand v_value v_fault v_faultAt v_clock v_coin v_loan v_matched v_taxed v_paidStages v_grown v_pledges v_sums v_stages v_isStopped v_begun), (qarI (a 0) (d 0) 9 f_rule), (qarI (a 22) (d 22) 250 f_sumGiver), (qarI (a 25) (d 25) 250 f_isClaimed), (qarI (a 5) (d 5) 30 f_declaredFrom), (qarI (a 6) (d 6) 30 f_declaredTo), (qarI (a 23) (d 23) 250 f_sumMonth), (qarI (a 24) (d 24) 250 f_sumPence)] [((d 0), .int), ((d 22), .int), ((d 25), .boolean), ((d 5), .int), ((d 6), .int), ((d 23), .int), ((d 24), .int)] sz)) (va_Qi (fun (r : Int32) (u : Int32 × Int32 × (Nat → Int32)) => match u with | (w_taxed, w_coin, g_isClaimed) => (Rclm v_isStopped v_sums f_rule f_sumGiver f_sumPence f_sumMonth f_isClaimed f_declaredFrom f_declaredTo v_taxed.toInt v_coin.toInt r g_isClaimed w_taxed.toInt w_coin.toInt)) (cB G (fun u => match u with | (w_taxed, w_coin, g_isClaimed) => [(cMq a h v_taped v_size v_from v_behind v_hand v_value v_fault v_faultAt v_clock w_coin v_loan v_matched w_taxed v_paidStages v_grown v_pledges v_sums v_stages v_isStopped v_begun), (qarI (a 0) (d 0) 9 f_rule), (qarI (a 22) (d 22) 250 f_sumGiver), (qarI (a 25) (d 25) 250 g_isClaimed), (qarI (a 5) (d 5) 30 f_declaredFrom), (qarI (a 6) (d 6) 30 f_declaredTo), (qarI (a 23) (d 23) 250 f_sumMonth), (qarI (a 24) (d 24) 250 f_sumPence)]) (fun u => match u with | (w_taxed, w_coin, g_isClaimed) => []) (va_A [(cMq a h v_taped v_size v_from v_behind v_hand v_value v_fault v_faultAt v_clock v_coin v_loan v_matched v_taxed v_paidStages v_grown v_pledges v_sums v_stages v_isStopped v_begun), (qarI (a 0) (d 0) 9 f_rule), (qarI (a 22) (d 22) 250 f_sumGiver), (qarI (a 25) (d 25) 250 f_isClaimed), (qarI (a 5) (d 5) 30 f_declaredFrom), (qarI (a 6) (d 6) 30 f_declaredTo), (qarI (a 23) (d 23) 250 f_sumMonth), (qarI (a 24) (d 24) 250 f_sumPence)] sz)) (va_A [(cMq a h v_taped v_size v_from v_behind v_hand v_value v_fault v_faultAt v_clock v_coin v_loan v_matched v_taxed v_paidStages v_grown v_pledges v_sums v_stages v_isStopped v_begun), (qarI (a 0) (d 0) 9 f_rule), (qarI (a 22) (d 22) 250 f_sumGiver), (qarI (a 25) (d 25) 250 f_isClaimed), (qarI (a 5) (d 5) 30 f_declaredFrom), (qarI (a 6) (d 6) 30 f_declaredTo), (qarI (a 23) (d 23) 250 f_sumMonth), (qarI (a 24) (d 24) 250 f_sumPence)] sz)) 0 0 (va_A [(cMq a h v_taped v_size v_from v_behind v_hand v_value v_fault v_faultAt v_clock v_coin v_loan v_matched v_taxed v_paidStages v_grown v_pledges v_sums v_stages v_isStopped v_begun), (qarI (a 0) (d 0) 9 f_rule), (qarI (a 22) (d 22) 250 f_sumGiver), (qarI (a 25) (d 25) 250 f_isClaimed), (qarI (a 5) (d 5) 30 f_declaredFrom), (qarI (a 6) (d 6) 30 f_declaredTo), (qarI (a 23) (d 23) 250 f_sumMonth), (qarI (a 24) (d 24) 250 f_sumPence)] sz) := by
  refine ofC_i (cc := cX12_claim) (maxL := 4) (ret := (some .int)) (by decide) rfl (Nat.le_of_ble_eq_true rfl) ?_
  intro p e s m args below meth c A ls Q F hr hin hlk St hl hQ
  have hx := F.1
  have hb := F.2.1
  have hl : lv_has ls 4 [(0, .ref h)] := hl
  have St : cS G k [(cMq a h v_taped v_size v_from v_behind v_hand v_value v_fault v_faultAt v_clock v_coin v_loan v_matched v_taxed v_paidStages v_grown v_pledges v_sums v_stages v_isStopped v_begun), (qarI (a 0) (d 0) 9 f_rule), (qarI (a 22) (d 22) 250 f_sumGiver), (qarI (a 25) (d 25) 250 f_isClaimed), (qarI (a 5) (d 5) 30 f_declaredFrom), (qarI (a 6) (d 6) 30 f_declaredTo), (qarI (a 23) (d 23) 250 f_sumMonth), (qarI (a 24) (d 24) 250 f_sumPence)] [((d 0), .int), ((d 22), .int), ((d 25), .boolean), ((d 5), .int), ((d 6), .int), ((d 23), .int), ((d 24), .int)] A s s.heap [] := St
  have hsd := hSp.1
  have y0 : (0 : Int32).toInt = 0 := by decide
  have hF0 := hF.1
  have hF1 := hF.2.1
  have hF2 := hF.2.2.1
  have hF3 := hF.2.2.2.1
  have hF4 := hF.2.2.2.2.1
  have hF5 := hF.2.2.2.2.2.1
  have hF6 := hF.2.2.2.2.2.2.1
  have hF7 := hF.2.2.2.2.2.2.2
  have hn5 := nc_int (x := v_sums) (by omega)
  refine lv_aload_n hx hb dX12_claim_0 rfl (lv_at hl 0 rfl) ?_
  refine cs_get F St 0 rfl rfl inX12 23 (by decide) kf_X12_224 rfl dX12_claim_1 ?_
  refine lv_if_eq (tgt := 10) hx hb dX12_claim_4 (by decide) (fun c4 => ?_) (fun c4 => ?_)
  ·
    have i4 := ci_eq (x := v_isStopped) (y := 0) rfl (show (0 : Int32).toInt = 0 by decide) c4
    refine lv_iconst (v := 0) hx hb dX12_claim_10 (by decide) ?_
    refine lv_istore_n (lv' := [(1, .int 0), (0, .ref h)]) hx hb dX12_claim_11 rfl hl (by decide) rfl (fun ls hl => ?_)
    refine lv_iconst (v := 0) hx hb dX12_claim_12 (by decide) ?_
    refine lv_istore_n (lv' := [(2, .int 0), (1, .int 0), (0, .ref h)]) hx hb dX12_claim_13 rfl hl (by decide) rfl (fun ls hl => ?_)
    have lp14 : ∀ (n : Nat) (kk : Int32) (sn_ : Int32) (fc : Nat → Int32) (H : Heap) (locs : List Loc) (ls : Array Slot), ((0 ≤ kk.toInt ∧ kk.toInt ≤ v_sums.toInt) ∧ ((f_rule (3 : Int32).toNatClampNeg).toInt = 0 → kk.toInt = 0) ∧ fc = fU (cTx f_sumGiver f_sumMonth f_isClaimed f_declaredFrom f_declaredTo) (fun _ => 1) f_isClaimed 0 kk.toNatClampNeg ∧ sn_.toInt = sm (tTx (f_rule (3 : Int32).toNatClampNeg).toInt f_sumGiver f_sumPence f_sumMonth f_isClaimed f_declaredFrom f_declaredTo) kk.toNatClampNeg) → ((250 - kk.toInt).toNat) < n → cS G k [(cMq a h v_taped v_size v_from v_behind v_hand v_value v_fault v_faultAt v_clock v_coin v_loan v_matched v_taxed v_paidStages v_grown v_pledges v_sums v_stages v_isStopped v_begun), (qarI (a 0) (d 0) 9 f_rule), (qarI (a 22) (d 22) 250 f_sumGiver), (qarI (a 25) (d 25) 250 fc), (qarI (a 5) (d 5) 30 f_declaredFrom), (qarI (a 6) (d 6) 30 f_declaredTo), (qarI (a 23) (d 23) 250 f_sumMonth), (qarI (a 24) (d 24) 250 f_sumPence)] [((d 0), .int), ((d 22), .int), ((d 25), .boolean), ((d 5), .int), ((d 6), .int), ((d 23), .int), ((d 24), .int)] A s H locs → lv_has ls 4 [(2, .int kk), (1, .int sn_), (0, .ref h)] → W p l e ({ frames := 1, cells := 0, slots := 0, locals := 25 } : Room) s m args below meth c H locs 0 0 Q (F0 m 14 ls []) := by
      intro n
      induction n with
      | zero => intro kk sn_ fc H locs ls hI hn; exact absurd hn (Nat.not_lt_zero _)
      | succ n ih =>
        intro kk sn_ fc H locs ls hI hn St hl
        obtain ⟨⟨hI0, hI1⟩, hz2, hs1, hs2⟩ := hI
        have nk := nc_int hI0
        have hnb := sm_bd (f := tTx (f_rule (3 : Int32).toNatClampNeg).toInt f_sumGiver f_sumPence f_sumMonth f_isClaimed f_declaredFrom f_declaredTo) (c := 2500000) (n := kk.toNatClampNeg) (fun k_ hk_ => tTx_bd hF3 hSp (by omega))
        rw [← hs2] at hnb
        refine lv_iload_n hx hb dX12_claim_14 rfl (lv_at hl 0 rfl) ?_
        refine lv_aload_n hx hb dX12_claim_15 rfl (lv_at hl 2 rfl) ?_
        refine cs_get F St 0 rfl rfl inX12 21 (by decide) kf_X12_246 rfl dX12_claim_16 ?_
        refine lv_icmp_ge (tgt := 123) hx hb dX12_claim_19 (by decide) (fun c19 => ?_) (fun c19 => ?_)
        ·
          have i19 := ci_le (x := v_sums) (y := kk) rfl rfl c19
          have htx : sn_.toInt = txV (f_rule (3 : Int32).toNatClampNeg).toInt v_sums.toNatClampNeg f_sumGiver f_sumPence f_sumMonth f_isClaimed f_declaredFrom f_declaredTo := cl_v hz2 hs2 (by omega)
          have htb := sm_bd (f := tTx (f_rule (3 : Int32).toNatClampNeg).toInt f_sumGiver f_sumPence f_sumMonth f_isClaimed f_declaredFrom f_declaredTo) (c := 2500000) (n := kk.toNatClampNeg) (fun k_ hk_ => tTx_bd hF3 hSp (by omega))
          rw [← hs2] at htb
          refine lv_aload_n hx hb dX12_claim_123 rfl (lv_at hl 2 rfl) ?_
          refine lv_dup hx hb dX12_claim_124 rfl ?_
          refine cs_get F St 0 rfl rfl inX12 17 (by decide) kf_X12_276 rfl dX12_claim_125 ?_
          refine lv_iload_n hx hb dX12_claim_128 rfl (lv_at hl 1 rfl) ?_
          refine lv_iadd hx hb dX12_claim_129 ?_
          refine lv_topi (fun y_1 ey_1 => ?_)
          first | have jy_1 : y_1.toInt = v_taxed.toInt + sn_.toInt := (by have q9 := ci_add (x := v_taxed) (y := sn_) rfl rfl ey_1; omega) | have jy_1 := ci_add (x := v_taxed) (y := sn_) rfl rfl ey_1
          refine cs_put F St 0 rfl rfl inX12 tyX12_ok nmX12 17 (by decide) kf_X12_276 rfl rfl rfl (Nat.le_of_ble_eq_true rfl) (w' := [(cMq a h v_taped v_size v_from v_behind v_hand v_value v_fault v_faultAt v_clock v_coin v_loan v_matched y_1 v_paidStages v_grown v_pledges v_sums v_stages v_isStopped v_begun), (qarI (a 0) (d 0) 9 f_rule), (qarI (a 22) (d 22) 250 f_sumGiver), (qarI (a 25) (d 25) 250 fc), (qarI (a 5) (d 5) 30 f_declaredFrom), (qarI (a 6) (d 6) 30 f_declaredTo), (qarI (a 23) (d 23) 250 f_sumMonth), (qarI (a 24) (d 24) 250 f_sumPence)]) rfl dX12_claim_130 (fun H locs St => ?_)
          refine lv_aload_n hx hb dX12_claim_133 rfl (lv_at hl 2 rfl) ?_
          refine lv_dup hx hb dX12_claim_134 rfl ?_
          refine cs_get F St 0 rfl rfl inX12 14 (by decide) kf_X12_262 rfl dX12_claim_135 ?_
          refine lv_iload_n hx hb dX12_claim_138 rfl (lv_at hl 1 rfl) ?_
          refine lv_iadd hx hb dX12_claim_139 ?_
          refine lv_topi (fun y_2 ey_2 => ?_)
          first | have jy_2 : y_2.toInt = v_coin.toInt + sn_.toInt := (by have q9 := ci_add (x := v_coin) (y := sn_) rfl rfl ey_2; omega) | have jy_2 := ci_add (x := v_coin) (y := sn_) rfl rfl ey_2
          refine cs_put F St 0 rfl rfl inX12 tyX12_ok nmX12 14 (by decide) kf_X12_262 rfl rfl rfl (Nat.le_of_ble_eq_true rfl) (w' := [(cMq a h v_taped v_size v_from v_behind v_hand v_value v_fault v_faultAt v_clock y_2 v_loan v_matched y_1 v_paidStages v_grown v_pledges v_sums v_stages v_isStopped v_begun), (qarI (a 0) (d 0) 9 f_rule), (qarI (a 22) (d 22) 250 f_sumGiver), (qarI (a 25) (d 25) 250 fc), (qarI (a 5) (d 5) 30 f_declaredFrom), (qarI (a 6) (d 6) 30 f_declaredTo), (qarI (a 23) (d 23) 250 f_sumMonth), (qarI (a 24) (d 24) 250 f_sumPence)]) rfl dX12_claim_140 (fun H locs St => ?_)
          refine lv_iload_n hx hb dX12_claim_143 rfl (lv_at hl 1 rfl) ?_
          exact cs_iret F hr hlk hQ St (y_1, y_2, fc) (r := sn_) (Or.inr ⟨htx, by omega, cl_r hz2 hs1 (by omega), by omega, by omega⟩) [0, 1, 2, 3, 4, 5, 6, 7] rfl (by decide) [] rfl (by decide) (by decide) dX12_claim_144
        ·
          have i19 := ci_nle (x := v_sums) (y := kk) rfl rfl c19
          refine lv_aload_n hx hb dX12_claim_22 rfl (lv_at hl 2 rfl) ?_
          refine cs_get F St 0 rfl rfl inX12 0 (by decide) kf_X12_114 rfl dX12_claim_23 ?_
          refine lv_iconst (v := 3) hx hb dX12_claim_26 (by decide) ?_
          refine cs_ild F St 1 0 rfl rfl (vp_in_iff.mpr (by decide)) dX12_claim_27 ?_
          refine lv_topi (fun y_3 ey_3 => ?_)
          have gy_3 := congrArg Int32.toInt ey_3
          refine lv_if_le (tgt := 123) hx hb dX12_claim_28 (by decide) (fun c28 => ?_) (fun c28 => ?_)
          ·
            have i28 := ci_le (x := y_3) (y := 0) rfl (show (0 : Int32).toInt = 0 by decide) c28
            have htx : sn_.toInt = txV (f_rule (3 : Int32).toNatClampNeg).toInt v_sums.toNatClampNeg f_sumGiver f_sumPence f_sumMonth f_isClaimed f_declaredFrom f_declaredTo := cl_v hz2 hs2 (by omega)
            have htb := sm_bd (f := tTx (f_rule (3 : Int32).toNatClampNeg).toInt f_sumGiver f_sumPence f_sumMonth f_isClaimed f_declaredFrom f_declaredTo) (c := 2500000) (n := kk.toNatClampNeg) (fun k_ hk_ => tTx_bd hF3 hSp (by omega))
            rw [← hs2] at htb
            refine lv_aload_n hx hb dX12_claim_123 rfl (lv_at hl 2 rfl) ?_
            refine lv_dup hx hb dX12_claim_124 rfl ?_
            refine cs_get F St 0 rfl rfl inX12 17 (by decide) kf_X12_276 rfl dX12_claim_125 ?_
            refine lv_iload_n hx hb dX12_claim_128 rfl (lv_at hl 1 rfl) ?_
            refine lv_iadd hx hb dX12_claim_129 ?_
            refine lv_topi (fun y_4 ey_4 => ?_)
            first | have jy_4 : y_4.toInt = v_taxed.toInt + sn_.toInt := (by have q9 := ci_add (x := v_taxed) (y := sn_) rfl rfl ey_4; omega) | have jy_4 := ci_add (x := v_taxed) (y := sn_) rfl rfl ey_4
            refine cs_put F St 0 rfl rfl inX12 tyX12_ok nmX12 17 (by decide) kf_X12_276 rfl rfl rfl (Nat.le_of_ble_eq_true rfl) (w' := [(cMq a h v_taped v_size v_from v_behind v_hand v_value v_fault v_faultAt v_clock v_coin v_loan v_matched y_4 v_paidStages v_grown v_pledges v_sums v_stages v_isStopped v_begun), (qarI (a 0) (d 0) 9 f_rule), (qarI (a 22) (d 22) 250 f_sumGiver), (qarI (a 25) (d 25) 250 fc), (qarI (a 5) (d 5) 30 f_declaredFrom), (qarI (a 6) (d 6) 30 f_declaredTo), (qarI (a 23) (d 23) 250 f_sumMonth), (qarI (a 24) (d 24) 250 f_sumPence)]) rfl dX12_claim_130 (fun H locs St => ?_)
            refine lv_aload_n hx hb dX12_claim_133 rfl (lv_at hl 2 rfl) ?_
            refine lv_dup hx hb dX12_claim_134 rfl ?_
            refine cs_get F St 0 rfl rfl inX12 14 (by decide) kf_X12_262 rfl dX12_claim_135 ?_
            refine lv_iload_n hx hb dX12_claim_138 rfl (lv_at hl 1 rfl) ?_
            refine lv_iadd hx hb dX12_claim_139 ?_
            refine lv_topi (fun y_5 ey_5 => ?_)
            first | have jy_5 : y_5.toInt = v_coin.toInt + sn_.toInt := (by have q9 := ci_add (x := v_coin) (y := sn_) rfl rfl ey_5; omega) | have jy_5 := ci_add (x := v_coin) (y := sn_) rfl rfl ey_5
            refine cs_put F St 0 rfl rfl inX12 tyX12_ok nmX12 14 (by decide) kf_X12_262 rfl rfl rfl (Nat.le_of_ble_eq_true rfl) (w' := [(cMq a h v_taped v_size v_from v_behind v_hand v_value v_fault v_faultAt v_clock y_5 v_loan v_matched y_4 v_paidStages v_grown v_pledges v_sums v_stages v_isStopped v_begun), (qarI (a 0) (d 0) 9 f_rule), (qarI (a 22) (d 22) 250 f_sumGiver), (qarI (a 25) (d 25) 250 fc), (qarI (a 5) (d 5) 30 f_declaredFrom), (qarI (a 6) (d 6) 30 f_declaredTo), (qarI (a 23) (d 23) 250 f_sumMonth), (qarI (a 24) (d 24) 250 f_sumPence)]) rfl dX12_claim_140 (fun H locs St => ?_)
            refine lv_iload_n hx hb dX12_claim_143 rfl (lv_at hl 1 rfl) ?_
            exact cs_iret F hr hlk hQ St (y_4, y_5, fc) (r := sn_) (Or.inr ⟨htx, by omega, cl_r hz2 hs1 (by omega), by omega, by omega⟩) [0, 1, 2, 3, 4, 5, 6, 7] rfl (by decide) [] rfl (by decide) (by decide) dX12_claim_144
          ·
            have i28 := ci_nle (x := y_3) (y := 0) rfl (show (0 : Int32).toInt = 0 by decide) c28
            refine lv_aload_n hx hb dX12_claim_31 rfl (lv_at hl 2 rfl) ?_
            refine cs_get F St 0 rfl rfl inX12 41 (by decide) kf_X12_171 rfl dX12_claim_32 ?_
            refine lv_iload_n hx hb dX12_claim_35 rfl (lv_at hl 0 rfl) ?_
            refine cs_ild F St 2 1 rfl rfl (vp_in_iff.mpr ⟨by omega, by omega⟩) dX12_claim_36 ?_
            refine lv_topi (fun y_6 ey_6 => ?_)
            have gy_6 := congrArg Int32.toInt ey_6
            have hdy_6 := mGi_g hSg (by omega) (by omega) ey_6
            refine lv_istore_n (lv' := [(3, .int y_6), (2, .int kk), (1, .int sn_), (0, .ref h)]) hx hb dX12_claim_37 rfl hl (by decide) rfl (fun ls hl => ?_)
            refine lv_aload_n hx hb dX12_claim_38 rfl (lv_at hl 3 rfl) ?_
            refine cs_get F St 0 rfl rfl inX12 44 (by decide) kf_X12_180 rfl dX12_claim_39 ?_
            refine lv_iload_n hx hb dX12_claim_42 rfl (lv_at hl 1 rfl) ?_
            refine cs_zld F St 3 2 rfl rfl (vp_in_iff.mpr ⟨by omega, by omega⟩) dX12_claim_43 ?_
            refine lv_topi (fun y_7 ey_7 => ?_)
            have gy_7 := congrArg Int32.toInt ey_7
            have hqk : (fc kk.toNatClampNeg).toInt = (f_isClaimed kk.toNatClampNeg).toInt := by rw [hs1, fU_in (Nat.zero_le _) (Nat.le_refl _)]
            have hpk := hSp.2 kk.toNatClampNeg (by omega)
            refine lv_if_ne (tgt := 117) hx hb dX12_claim_44 (by decide) (fun c44 => ?_) (fun c44 => ?_)
            ·
              have i44 := ci_ne (x := y_7) (y := 0) rfl (show (0 : Int32).toInt = 0 by decide) c44
              obtain ⟨y_8, ey_8⟩ : ∃ zz : Int32, zz = kk + 1 := ⟨_, rfl⟩
              first | have jy_8 : y_8.toInt = kk.toInt + 1 := (by have q9 := ci_add (x := kk) rfl (show (1 : Int32).toInt = 1 by decide) ey_8; omega) | have jy_8 := ci_add (x := kk) rfl (show (1 : Int32).toInt = 1 by decide) ey_8
              refine lv_iinc (v := y_8) (lv' := [(2, .int y_8), (3, .int y_6), (1, .int sn_), (0, .ref h)]) hx hb dX12_claim_117 hl (k := 1) rfl (by rw [ey_8]; rfl) (by decide) rfl (fun ls hl => ?_)
              refine lv_goto (tgt := 14) hx hb dX12_claim_120 (by decide) ?_
              exact ih y_8 sn_ fc _ _ _ ⟨⟨by omega, by omega⟩, fun _ => by omega, fU_N hI0 hs1 (by omega) (fun b_ => absurd (of_decide_eq_true b_) (by omega)), sm_up hI0 hs2 (by omega) (by rw [tTx_0 (by omega)]; omega)⟩ (by omega) St (lv_sub hl [0, 2, 3] rfl)
            ·
              have i44 := ci_eq (x := y_7) (y := 0) rfl (show (0 : Int32).toInt = 0 by decide) c44
              refine lv_aload_n hx hb dX12_claim_47 rfl (lv_at hl 3 rfl) ?_
              refine cs_get F St 0 rfl rfl inX12 24 (by decide) kf_X12_120 rfl dX12_claim_48 ?_
              refine lv_iload_n hx hb dX12_claim_51 rfl (lv_at hl 0 rfl) ?_
              refine cs_ild F St 4 3 rfl rfl (vp_in_iff.mpr ⟨by omega, by omega⟩) dX12_claim_52 ?_
              refine lv_topi (fun y_9 ey_9 => ?_)
              have gy_9 := congrArg Int32.toInt ey_9
              rw [ey_6] at gy_9
              refine lv_iconst (v := (-1)) hx hb dX12_claim_53 (by decide) ?_
              refine lv_icmp_eq (tgt := 117) hx hb dX12_claim_54 (by decide) (fun c54 => ?_) (fun c54 => ?_)
              ·
                have i54 := ci_eq (x := y_9) (y := (-1)) rfl (show ((-1) : Int32).toInt = -1 by decide) c54
                obtain ⟨y_10, ey_10⟩ : ∃ zz : Int32, zz = kk + 1 := ⟨_, rfl⟩
                first | have jy_10 : y_10.toInt = kk.toInt + 1 := (by have q9 := ci_add (x := kk) rfl (show (1 : Int32).toInt = 1 by decide) ey_10; omega) | have jy_10 := ci_add (x := kk) rfl (show (1 : Int32).toInt = 1 by decide) ey_10
                refine lv_iinc (v := y_10) (lv' := [(2, .int y_10), (3, .int y_6), (1, .int sn_), (0, .ref h)]) hx hb dX12_claim_117 hl (k := 1) rfl (by rw [ey_10]; rfl) (by decide) rfl (fun ls hl => ?_)
                refine lv_goto (tgt := 14) hx hb dX12_claim_120 (by decide) ?_
                exact ih y_10 sn_ fc _ _ _ ⟨⟨by omega, by omega⟩, fun _ => by omega, fU_N hI0 hs1 (by omega) (fun b_ => absurd (of_decide_eq_true b_) (by omega)), sm_up hI0 hs2 (by omega) (by rw [tTx_0 (by omega)]; omega)⟩ (by omega) St (lv_sub hl [0, 2, 3] rfl)
              ·
                have i54 := ci_ne (x := y_9) (y := (-1)) rfl (show ((-1) : Int32).toInt = -1 by decide) c54
                refine lv_aload_n hx hb dX12_claim_57 rfl (lv_at hl 3 rfl) ?_
                refine cs_get F St 0 rfl rfl inX12 42 (by decide) kf_X12_174 rfl dX12_claim_58 ?_
                refine lv_iload_n hx hb dX12_claim_61 rfl (lv_at hl 1 rfl) ?_
                refine cs_ild F St 6 5 rfl rfl (vp_in_iff.mpr ⟨by omega, by omega⟩) dX12_claim_62 ?_
                refine lv_topi (fun y_11 ey_11 => ?_)
                have gy_11 := congrArg Int32.toInt ey_11
                refine lv_i2l (v := y_11.toInt64) hx hb dX12_claim_63 rfl ?_
                refine lv_aload_n hx hb dX12_claim_64 rfl (lv_at hl 3 rfl) ?_
                refine cs_get F St 0 rfl rfl inX12 24 (by decide) kf_X12_120 rfl dX12_claim_65 ?_
                refine lv_iload_n hx hb dX12_claim_68 rfl (lv_at hl 0 rfl) ?_
                refine cs_ild F St 4 3 rfl rfl (vp_in_iff.mpr ⟨by omega, by omega⟩) dX12_claim_69 ?_
                refine lv_topi (fun y_12 ey_12 => ?_)
                have gy_12 := congrArg Int32.toInt ey_12
                rw [ey_6] at gy_12
                refine lv_i2l (v := y_12.toInt64) hx hb dX12_claim_70 rfl ?_
                refine lv_aload_n hx hb dX12_claim_71 rfl (lv_at hl 3 rfl) ?_
                refine cs_get F St 0 rfl rfl inX12 25 (by decide) kf_X12_123 rfl dX12_claim_72 ?_
                refine lv_iload_n hx hb dX12_claim_75 rfl (lv_at hl 0 rfl) ?_
                refine cs_ild F St 5 4 rfl rfl (vp_in_iff.mpr ⟨by omega, by omega⟩) dX12_claim_76 ?_
                refine lv_topi (fun y_13 ey_13 => ?_)
                have gy_13 := congrArg Int32.toInt ey_13
                rw [ey_6] at gy_13
                refine lv_i2l (v := y_13.toInt64) hx hb dX12_claim_77 rfl ?_
                refine cs_i St [] [0, 1, 2, 3, 4, 5, 6, 7] (wc := []) (wr := [(cMq a h v_taped v_size v_from v_behind v_hand v_value v_fault v_faultAt v_clock v_coin v_loan v_matched v_taxed v_paidStages v_grown v_pledges v_sums v_stages v_isStopped v_begun), (qarI (a 0) (d 0) 9 f_rule), (qarI (a 22) (d 22) 250 f_sumGiver), (qarI (a 25) (d 25) 250 fc), (qarI (a 5) (d 5) 30 f_declaredFrom), (qarI (a 6) (d 6) 30 f_declaredTo), (qarI (a 23) (d 23) 250 f_sumMonth), (qarI (a 24) (d 24) 250 f_sumPence)]) rfl rfl (by decide) (by decide) (va_runS (As := [.long y_11.toInt64, .long y_12.toInt64, .long y_13.toInt64]) (rest := []) F (c12_in l G k _ y_11.toInt64 y_12.toInt64 y_13.toInt64 y_11.toInt y_12.toInt y_13.toInt (Int32.toInt_toInt64 y_11) (Int32.toInt_toInt64 y_12) (Int32.toInt_toInt64 y_13)) (cwSt F mf_X12_in km_X12_58 rfl rfl ⟨Nat.le_of_ble_eq_true rfl, Nat.le_of_ble_eq_true rfl⟩) (cs_pre St [] rfl (by decide) [] rfl) rfl rfl hl.1 rfl (lv_room (Nat.le_of_ble_eq_true rfl)) dX12_claim_78 ⟨Nat.le_of_ble_eq_true rfl, Nat.le_of_ble_eq_true rfl⟩) (fun r_14 u_15 H locs hw St => ?_)
                try dsimp only at hw
                rcases hw with ⟨z_16, hf_17⟩ | ⟨z_18, hf_19⟩
                ·
                  subst r_14
                  have St : cS G k [(cMq a h v_taped v_size v_from v_behind v_hand v_value v_fault v_faultAt v_clock v_coin v_loan v_matched v_taxed v_paidStages v_grown v_pledges v_sums v_stages v_isStopped v_begun), (qarI (a 0) (d 0) 9 f_rule), (qarI (a 22) (d 22) 250 f_sumGiver), (qarI (a 25) (d 25) 250 fc), (qarI (a 5) (d 5) 30 f_declaredFrom), (qarI (a 6) (d 6) 30 f_declaredTo), (qarI (a 23) (d 23) 250 f_sumMonth), (qarI (a 24) (d 24) 250 f_sumPence)] [((d 0), .int), ((d 22), .int), ((d 25), .boolean), ((d 5), .int), ((d 6), .int), ((d 23), .int), ((d 24), .int)] A s H locs := St
                  refine lv_if_ne (tgt := 87) hx hb dX12_claim_81 (by decide) (fun c81 => ?_) (fun c81 => ?_)
                  rotate_left
                  · exact absurd c81 (by decide)
                  refine lv_aload_n hx hb dX12_claim_87 rfl (lv_at hl 3 rfl) ?_
                  refine cs_get F St 0 rfl rfl inX12 44 (by decide) kf_X12_180 rfl dX12_claim_88 ?_
                  refine lv_iload_n hx hb dX12_claim_91 rfl (lv_at hl 1 rfl) ?_
                  refine lv_iconst (v := 1) hx hb dX12_claim_92 (by decide) ?_
                  refine cs_zst F St 3 2 rfl rfl (vp_in_iff.mpr ⟨by omega, by omega⟩) (w' := [(cMq a h v_taped v_size v_from v_behind v_hand v_value v_fault v_faultAt v_clock v_coin v_loan v_matched v_taxed v_paidStages v_grown v_pledges v_sums v_stages v_isStopped v_begun), (qarI (a 0) (d 0) 9 f_rule), (qarI (a 22) (d 22) 250 f_sumGiver), (qarI (a 25) (d 25) 250 (upd fc (kk : Int32).toNatClampNeg (vp_nar .boolean 1))), (qarI (a 5) (d 5) 30 f_declaredFrom), (qarI (a 6) (d 6) 30 f_declaredTo), (qarI (a 23) (d 23) 250 f_sumMonth), (qarI (a 24) (d 24) 250 f_sumPence)]) rfl dX12_claim_93 (fun H locs St => ?_)
                  obtain ⟨f_20, ef_20⟩ : ∃ zz : Nat → Int32, zz = upd fc (kk : Int32).toNatClampNeg (vp_nar .boolean 1) := ⟨_, rfl⟩
                  rw [← ef_20] at St
                  refine lv_iload_n hx hb dX12_claim_94 rfl (lv_at hl 2 rfl) ?_
                  refine lv_aload_n hx hb dX12_claim_95 rfl (lv_at hl 3 rfl) ?_
                  refine cs_get F St 0 rfl rfl inX12 0 (by decide) kf_X12_114 rfl dX12_claim_96 ?_
                  refine lv_iconst (v := 3) hx hb dX12_claim_99 (by decide) ?_
                  refine cs_ild F St 1 0 rfl rfl (vp_in_iff.mpr (by decide)) dX12_claim_100 ?_
                  refine lv_topi (fun y_21 ey_21 => ?_)
                  have gy_21 := congrArg Int32.toInt ey_21
                  refine lv_i2l (v := y_21.toInt64) hx hb dX12_claim_101 rfl ?_
                  refine lv_aload_n hx hb dX12_claim_102 rfl (lv_at hl 3 rfl) ?_
                  refine cs_get F St 0 rfl rfl inX12 43 (by decide) kf_X12_177 rfl dX12_claim_103 ?_
                  refine lv_iload_n hx hb dX12_claim_106 rfl (lv_at hl 1 rfl) ?_
                  refine cs_ild F St 7 6 rfl rfl (vp_in_iff.mpr ⟨by omega, by omega⟩) dX12_claim_107 ?_
                  refine lv_topi (fun y_22 ey_22 => ?_)
                  have gy_22 := congrArg Int32.toInt ey_22
                  have hdy_22 := mSp_p hSp (by omega) (by omega) ey_22
                  refine lv_i2l (v := y_22.toInt64) hx hb dX12_claim_108 rfl ?_
                  refine lv_lmul hx hb dX12_claim_109 ?_
                  refine lv_topl (fun y_23 ey_23 => ?_)
                  obtain ⟨jm1, jm2, jm3⟩ := cl_mulb (u := (f_rule (3 : Int32).toNatClampNeg).toInt) (v := (f_sumPence kk.toNatClampNeg).toInt) (A := 50) (B := 5000000) (by rw [Int32.toInt_toInt64, ey_21]) (by rw [Int32.toInt_toInt64, ey_22]) ey_23 hF3.1 hF3.2 (by omega) (by omega) (by decide)
                  refine lv_ldc2 (v := 100) hx hb F.2.2.2.1 (F.2.2.2.2 _ kk_X12_249) dX12_claim_110 ?_
                  refine lv_ldiv hx hb dX12_claim_113 (by decide) ?_
                  refine lv_topl (fun y_24 ey_24 => ?_)
                  have jd := cl_div (u := (f_rule (3 : Int32).toNatClampNeg).toInt * (f_sumPence kk.toNatClampNeg).toInt) (v := 100) jm1 (by decide) ey_24 jm2 (by decide)
                  refine lv_l2i (v := y_24.toInt32) hx hb dX12_claim_114 rfl ?_
                  have jl := l2i_i (x := y_24) (by omega)
                  refine lv_iadd hx hb dX12_claim_115 ?_
                  refine lv_topi (fun y_25 ey_25 => ?_)
                  first | have jy_25 : y_25.toInt = sn_.toInt + y_24.toInt32.toInt := (by have q9 := ci_add (x := sn_) (y := y_24.toInt32) rfl rfl ey_25; omega) | have jy_25 := ci_add (x := sn_) (y := y_24.toInt32) rfl rfl ey_25
                  refine lv_istore_n (lv' := [(1, .int y_25), (3, .int y_6), (2, .int kk), (0, .ref h)]) hx hb dX12_claim_116 rfl hl (by decide) rfl (fun ls hl => ?_)
                  obtain ⟨y_26, ey_26⟩ : ∃ zz : Int32, zz = kk + 1 := ⟨_, rfl⟩
                  first | have jy_26 : y_26.toInt = kk.toInt + 1 := (by have q9 := ci_add (x := kk) rfl (show (1 : Int32).toInt = 1 by decide) ey_26; omega) | have jy_26 := ci_add (x := kk) rfl (show (1 : Int32).toInt = 1 by decide) ey_26
                  refine lv_iinc (v := y_26) (lv' := [(2, .int y_26), (1, .int y_25), (3, .int y_6), (0, .ref h)]) hx hb dX12_claim_117 hl (k := 2) rfl (by rw [ey_26]; rfl) (by decide) rfl (fun ls hl => ?_)
                  refine lv_goto (tgt := 14) hx hb dX12_claim_120 (by decide) ?_
                  exact ih y_26 y_25 f_20 _ _ _ ⟨⟨by omega, by omega⟩, fun _ => by omega, (by rw [ef_20, nar_z1]; exact fU_Y hI0 (Nat.zero_le _) hs1 (by omega) (decide_eq_true (by omega)) rfl), sm_up hI0 hs2 (by omega) (by rw [tTx_1 (by omega)]; omega)⟩ (by omega) St (lv_sub hl [0, 1, 3] rfl)
                ·
                  subst r_14
                  have St : cS G k [(cMq a h v_taped v_size v_from v_behind v_hand v_value v_fault v_faultAt v_clock v_coin v_loan v_matched v_taxed v_paidStages v_grown v_pledges v_sums v_stages v_isStopped v_begun), (qarI (a 0) (d 0) 9 f_rule), (qarI (a 22) (d 22) 250 f_sumGiver), (qarI (a 25) (d 25) 250 fc), (qarI (a 5) (d 5) 30 f_declaredFrom), (qarI (a 6) (d 6) 30 f_declaredTo), (qarI (a 23) (d 23) 250 f_sumMonth), (qarI (a 24) (d 24) 250 f_sumPence)] [((d 0), .int), ((d 22), .int), ((d 25), .boolean), ((d 5), .int), ((d 6), .int), ((d 23), .int), ((d 24), .int)] A s H locs := St
                  refine lv_if_ne (tgt := 87) hx hb dX12_claim_81 (by decide) (fun c81 => ?_) (fun c81 => ?_)
                  · exact absurd c81 (by decide)
                  refine lv_goto (tgt := 117) hx hb dX12_claim_84 (by decide) ?_
                  obtain ⟨y_27, ey_27⟩ : ∃ zz : Int32, zz = kk + 1 := ⟨_, rfl⟩
                  first | have jy_27 : y_27.toInt = kk.toInt + 1 := (by have q9 := ci_add (x := kk) rfl (show (1 : Int32).toInt = 1 by decide) ey_27; omega) | have jy_27 := ci_add (x := kk) rfl (show (1 : Int32).toInt = 1 by decide) ey_27
                  refine lv_iinc (v := y_27) (lv' := [(2, .int y_27), (3, .int y_6), (1, .int sn_), (0, .ref h)]) hx hb dX12_claim_117 hl (k := 1) rfl (by rw [ey_27]; rfl) (by decide) rfl (fun ls hl => ?_)
                  refine lv_goto (tgt := 14) hx hb dX12_claim_120 (by decide) ?_
                  exact ih y_27 sn_ fc _ _ _ ⟨⟨by omega, by omega⟩, fun _ => by omega, fU_N hI0 hs1 (by omega) (fun b_ => absurd (of_decide_eq_true b_) (by omega)), sm_up hI0 hs2 (by omega) (by rw [tTx_0 (by omega)]; omega)⟩ (by omega) St (lv_sub hl [0, 2, 3] rfl)
    exact lp14 251 0 0 f_isClaimed _ _ _ ⟨⟨by omega, by omega⟩, fun _ => by omega, fU_0.symm, by rw [y0]; rfl⟩ (by omega) St (lv_sub hl [0, 1, 2] rfl)
  ·
    have i4 := ci_ne (x := v_isStopped) (y := 0) rfl (show (0 : Int32).toInt = 0 by decide) c4
    refine lv_bipush (v := (-4)) hx hb dX12_claim_7 (by decide) ?_
    exact cs_iret F hr hlk hQ St (v_taxed, v_coin, f_isClaimed) (r := (-4)) (Or.inl ⟨rfl, by omega, rfl, rfl, rfl⟩) [0, 1, 2, 3, 4, 5, 6, 7] rfl (by decide) [] rfl (by decide) (by decide) dX12_claim_9

