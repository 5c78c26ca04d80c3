set_option maxHeartbeats 4000000 in
set_option maxRecDepth 100000 in
theorem e12_stop (l : Launch) (G : va_G) (k : Nat → Nat) (sz : Nat) (h : Nat) (a : Nat → Nat) (d : Nat → ClassId) (v_taped : Int32) (v_size : Int32) (v_from : Int32) (v_behind : Int32) (v_hand : Int32) (v_value : Int32) (v_fault : Int32) (v_faultAt : Int32) (v_clock : Int32) (v_coin : Int32) (v_loan : Int32) (v_matched : Int32) (v_taxed : Int32) (v_paidStages : Int32) (v_grown : Int32) (v_pledges : Int32) (v_sums : Int32) (v_stages : Int32) (v_isStopped : Int32) (v_begun : Int32) (f_sumGiver : Nat → Int32) (f_sumPence : Nat → Int32) (f_rule : Nat → Int32) (f_given : Nat → Int32) (f_back : Nat → Int32) (hSg : mGi v_sums f_sumGiver) (hSp : mSp v_sums f_sumPence) (hz : v_isStopped = 0 ∨ v_isStopped = 1) (hco : 0 ≤ v_coin.toInt ∧ v_coin.toInt ≤ 2000000000) (hGv : mGv v_sums f_sumGiver f_sumPence f_given) : Met l yX12_stop (Cond.code yX12_stop cX12_stop 4 (some .int) :: tb) ({ frames := 1, cells := 0, slots := 0, locals := 22 } : Room) (va_Pc [.ref h] (cP G k [(cMq a h v_taped v_size v_from v_behind v_hand v_value v_fault v_faultAt v_clock v_coin v_loan v_matched v_taxed v_paidStages v_grown v_pledges v_sums v_stages v_isStopped v_begun), (qarI (a 22) (d 22) 250 f_sumGiver), (qarI (a 24) (d 24) 250 f_sumPence), (qarI (a 0) (d 0) 9 f_rule), (qarI (a 7) (d 7) 30 f_given), (qarI (a 8) (d 8) 30 f_back)] [((d 22), .int), ((d 24), .int), ((d 0), .int), ((d 7), .int), ((d 8), .int)] sz)) (va_Qi (fun (r : Int32) (u : Int32 × Int32 × (Nat → Int32)) => match u with | (w_isStopped, w_coin, g_back) => (Rsto v_isStopped v_sums f_rule f_sumGiver f_sumPence f_back v_coin.toInt r g_back w_coin.toInt) ∧ (w_isStopped = 1)) (cB G (fun u => match u with | (w_isStopped, w_coin, g_back) => [(cMq a h v_taped v_size v_from v_behind v_hand v_value v_fault v_faultAt v_clock w_coin v_loan v_matched v_taxed v_paidStages v_grown v_pledges v_sums v_stages w_isStopped v_begun), (qarI (a 22) (d 22) 250 f_sumGiver), (qarI (a 24) (d 24) 250 f_sumPence), (qarI (a 0) (d 0) 9 f_rule), (qarI (a 7) (d 7) 30 f_given), (qarI (a 8) (d 8) 30 g_back)]) (fun u => match u with | (w_isStopped, w_coin, g_back) => []) (va_A [(cMq a h v_taped v_size v_from v_behind v_hand v_value v_fault v_faultAt v_clock v_coin v_loan v_matched v_taxed v_paidStages v_grown v_pledges v_sums v_stages v_isStopped v_begun), (qarI (a 22) (d 22) 250 f_sumGiver), (qarI (a 24) (d 24) 250 f_sumPence), (qarI (a 0) (d 0) 9 f_rule), (qarI (a 7) (d 7) 30 f_given), (qarI (a 8) (d 8) 30 f_back)] sz)) (va_A [(cMq a h v_taped v_size v_from v_behind v_hand v_value v_fault v_faultAt v_clock v_coin v_loan v_matched v_taxed v_paidStages v_grown v_pledges v_sums v_stages v_isStopped v_begun), (qarI (a 22) (d 22) 250 f_sumGiver), (qarI (a 24) (d 24) 250 f_sumPence), (qarI (a 0) (d 0) 9 f_rule), (qarI (a 7) (d 7) 30 f_given), (qarI (a 8) (d 8) 30 f_back)] sz)) 0 0 (va_A [(cMq a h v_taped v_size v_from v_behind v_hand v_value v_fault v_faultAt v_clock v_coin v_loan v_matched v_taxed v_paidStages v_grown v_pledges v_sums v_stages v_isStopped v_begun), (qarI (a 22) (d 22) 250 f_sumGiver), (qarI (a 24) (d 24) 250 f_sumPence), (qarI (a 0) (d 0) 9 f_rule), (qarI (a 7) (d 7) 30 f_given), (qarI (a 8) (d 8) 30 f_back)] sz) := by
  refine ofC_i (cc := cX12_stop) (maxL := 4) (ret := (some .int)) (by decide) rfl (Nat.le_of_ble_eq_true rfl) ?_
  intro p e s m args below meth c A ls Q F hr hin hlk St hl hQ
  have hx := F.1
  have hb := F.2.1
  have hl : lv_has ls 4 [(0, .ref h)] := hl
  have St : cS G k [(cMq a h v_taped v_size v_from v_behind v_hand v_value v_fault v_faultAt v_clock v_coin v_loan v_matched v_taxed v_paidStages v_grown v_pledges v_sums v_stages v_isStopped v_begun), (qarI (a 22) (d 22) 250 f_sumGiver), (qarI (a 24) (d 24) 250 f_sumPence), (qarI (a 0) (d 0) 9 f_rule), (qarI (a 7) (d 7) 30 f_given), (qarI (a 8) (d 8) 30 f_back)] [((d 22), .int), ((d 24), .int), ((d 0), .int), ((d 7), .int), ((d 8), .int)] A s s.heap [] := St
  have hsd := hSp.1
  have y0 : (0 : Int32).toInt = 0 := by decide
  have hn5 := nc_int (x := v_sums) (by omega)
  have hab := sA_bd hSp (k := v_sums.toNatClampNeg) (by omega)
  have y1 : (1 : Int32).toInt = 1 := by decide
  refine lv_aload_n hx hb dX12_stop_0 rfl (lv_at hl 0 rfl) ?_
  refine cs_get F St 0 rfl rfl inX12 23 (by decide) kf_X12_224 rfl dX12_stop_1 ?_
  refine lv_if_eq (tgt := 10) hx hb dX12_stop_4 (by decide) (fun c4 => ?_) (fun c4 => ?_)
  ·
    have i4 := ci_eq (x := v_isStopped) (y := 0) rfl (show (0 : Int32).toInt = 0 by decide) c4
    refine lv_aload_n hx hb dX12_stop_10 rfl (lv_at hl 0 rfl) ?_
    refine lv_iconst (v := 1) hx hb dX12_stop_11 (by decide) ?_
    refine cs_put F St 0 rfl rfl inX12 tyX12_ok nmX12 23 (by decide) kf_X12_224 rfl rfl rfl (Nat.le_of_ble_eq_true rfl) (w' := [(cMq a h v_taped v_size v_from v_behind v_hand v_value v_fault v_faultAt v_clock v_coin v_loan v_matched v_taxed v_paidStages v_grown v_pledges v_sums v_stages 1 v_begun), (qarI (a 22) (d 22) 250 f_sumGiver), (qarI (a 24) (d 24) 250 f_sumPence), (qarI (a 0) (d 0) 9 f_rule), (qarI (a 7) (d 7) 30 f_given), (qarI (a 8) (d 8) 30 f_back)]) rfl dX12_stop_12 (fun H locs St => ?_)
    refine lv_aload_n hx hb dX12_stop_15 rfl (lv_at hl 0 rfl) ?_
    refine cs_i St [0, 2] [1, 3, 4, 5] (wc := [(cMq a h v_taped v_size v_from v_behind v_hand v_value v_fault v_faultAt v_clock v_coin v_loan v_matched v_taxed v_paidStages v_grown v_pledges v_sums v_stages 1 v_begun), (qarI (a 24) (d 24) 250 f_sumPence)]) (wr := [(qarI (a 22) (d 22) 250 f_sumGiver), (qarI (a 0) (d 0) 9 f_rule), (qarI (a 7) (d 7) 30 f_given), (qarI (a 8) (d 8) 30 f_back)]) rfl rfl (by decide) (by decide) (va_runV (As := []) (rest := []) F (e12_allGiven l G k _ h a d v_taped v_size v_from v_behind v_hand v_value v_fault v_faultAt v_clock v_coin v_loan v_matched v_taxed v_paidStages v_grown v_pledges v_sums v_stages 1 v_begun f_sumPence hSp) (cwVt F mf_X12_allGiven km_X12_317 rfl rfl ⟨Nat.le_of_ble_eq_true rfl, Nat.le_of_ble_eq_true rfl⟩) (cs_preV St [0, 2] rfl (by decide) [1] rfl (ci := 12) (q0 := 0) rfl rfl) rfl rfl hl.1 rfl (lv_room (Nat.le_of_ble_eq_true rfl)) dX12_stop_16 ⟨Nat.le_of_ble_eq_true rfl, Nat.le_of_ble_eq_true rfl⟩) (fun r_1 u_2 H locs hw St => ?_)
    try dsimp only at hw
    have hr_3 := hw
    have St : cS G k [(qarI (a 22) (d 22) 250 f_sumGiver), (qarI (a 0) (d 0) 9 f_rule), (qarI (a 7) (d 7) 30 f_given), (qarI (a 8) (d 8) 30 f_back), (cMq a h v_taped v_size v_from v_behind v_hand v_value v_fault v_faultAt v_clock v_coin v_loan v_matched v_taxed v_paidStages v_grown v_pledges v_sums v_stages 1 v_begun), (qarI (a 24) (d 24) 250 f_sumPence)] [((d 22), .int), ((d 24), .int), ((d 0), .int), ((d 7), .int), ((d 8), .int)] A s H locs := St
    have hal := hr_3
    refine lv_istore_n (lv' := [(1, .int r_1), (0, .ref h)]) hx hb dX12_stop_19 rfl hl (by decide) rfl (fun ls hl => ?_)
    refine lv_iconst (v := 0) hx hb dX12_stop_20 (by decide) ?_
    refine lv_istore_n (lv' := [(2, .int 0), (1, .int r_1), (0, .ref h)]) hx hb dX12_stop_21 rfl hl (by decide) rfl (fun ls hl => ?_)
    refine lv_iconst (v := 0) hx hb dX12_stop_22 (by decide) ?_
    refine lv_istore_n (lv' := [(3, .int 0), (2, .int 0), (1, .int r_1), (0, .ref h)]) hx hb dX12_stop_23 rfl hl (by decide) rfl (fun ls hl => ?_)
    have lp24 : ∀ (n : Nat) (kk : Int32) (gg : Int32) (fb : Nat → Int32) (H : Heap) (locs : List Loc) (ls : Array Slot), ((0 ≤ kk.toInt ∧ kk.toInt ≤ 30) ∧ fb = fU (fun _ => true) (bkF v_coin.toInt f_rule f_sumGiver f_sumPence v_sums.toNatClampNeg) f_back 0 kk.toNatClampNeg ∧ gg = smI (bkF v_coin.toInt f_rule f_sumGiver f_sumPence v_sums.toNatClampNeg) kk.toNatClampNeg) → ((30 - kk.toInt).toNat) < n → cS G k [(qarI (a 22) (d 22) 250 f_sumGiver), (qarI (a 0) (d 0) 9 f_rule), (qarI (a 7) (d 7) 30 f_given), (qarI (a 8) (d 8) 30 fb), (cMq a h v_taped v_size v_from v_behind v_hand v_value v_fault v_faultAt v_clock v_coin v_loan v_matched v_taxed v_paidStages v_grown v_pledges v_sums v_stages 1 v_begun), (qarI (a 24) (d 24) 250 f_sumPence)] [((d 22), .int), ((d 24), .int), ((d 0), .int), ((d 7), .int), ((d 8), .int)] A s H locs → lv_has ls 4 [(3, .int kk), (2, .int gg), (1, .int r_1), (0, .ref h)] → W p l e ({ frames := 1, cells := 0, slots := 0, locals := 22 } : Room) s m args below meth c H locs 0 0 Q (F0 m 24 ls []) := by
      intro n
      induction n with
      | zero => intro kk gg fb H locs ls hI hn; exact absurd hn (Nat.not_lt_zero _)
      | succ n ih =>
        intro kk gg fb H locs ls hI hn St hl
        obtain ⟨⟨hI0, hI1⟩, hs1, hs2⟩ := hI
        have nk := nc_int hI0
        refine lv_iload_n hx hb dX12_stop_24 rfl (lv_at hl 0 rfl) ?_
        refine lv_bipush (v := 30) hx hb dX12_stop_25 (by decide) ?_
        refine lv_icmp_ge (tgt := 104) hx hb dX12_stop_27 (by decide) (fun c27 => ?_) (fun c27 => ?_)
        ·
          have i27 := ci_le (x := 30) (y := kk) (show (30 : Int32).toInt = 30 by decide) rfl c27
          refine lv_aload_n hx hb dX12_stop_104 rfl (lv_at hl 3 rfl) ?_
          refine lv_dup hx hb dX12_stop_105 rfl ?_
          refine cs_get F St 4 rfl rfl inX12 14 (by decide) kf_X12_262 rfl dX12_stop_106 ?_
          refine lv_iload_n hx hb dX12_stop_109 rfl (lv_at hl 1 rfl) ?_
          refine lv_isub hx hb dX12_stop_110 ?_
          refine lv_topi (fun y_4 ey_4 => ?_)
          first | have jy_4 : y_4.toInt = v_coin.toInt - gg.toInt := (by have q9 := ci_sub (x := v_coin) (y := gg) rfl rfl ey_4; omega) | have jy_4 := ci_sub (x := v_coin) (y := gg) rfl rfl ey_4
          refine cs_put F St 4 rfl rfl inX12 tyX12_ok nmX12 14 (by decide) kf_X12_262 rfl rfl rfl (Nat.le_of_ble_eq_true rfl) (w' := [(qarI (a 22) (d 22) 250 f_sumGiver), (qarI (a 0) (d 0) 9 f_rule), (qarI (a 7) (d 7) 30 f_given), (qarI (a 8) (d 8) 30 fb), (cMq a h v_taped v_size v_from v_behind v_hand v_value v_fault v_faultAt v_clock y_4 v_loan v_matched v_taxed v_paidStages v_grown v_pledges v_sums v_stages 1 v_begun), (qarI (a 24) (d 24) 250 f_sumPence)]) rfl dX12_stop_111 (fun H locs St => ?_)
          refine lv_iload_n hx hb dX12_stop_114 rfl (lv_at hl 1 rfl) ?_
          have hk30 : kk.toNatClampNeg = 30 := by omega
          rw [hk30] at hs1 hs2
          have hsb := smI_bd (fr := f_rule) hSp hSg hco
          rw [← hs2] at hsb
          exact cs_iret F hr hlk hQ St (1, y_4, fb) (r := gg) ⟨Or.inr ⟨hs2, by omega, hs1, by omega⟩, rfl⟩ [4, 0, 5, 1, 2, 3] rfl (by decide) [] rfl (by decide) (by decide) dX12_stop_115
        ·
          have i27 := ci_nle (x := 30) (y := kk) (show (30 : Int32).toInt = 30 by decide) rfl c27
          have hgk := hGv kk.toNatClampNeg (by omega)
          have hgb := sG_bd (u0 := f_sumGiver) (g := (kk.toNatClampNeg : Int)) (k := v_sums.toNatClampNeg) hSp (by omega)
          refine lv_aload_n hx hb dX12_stop_30 rfl (lv_at hl 3 rfl) ?_
          refine cs_get F St 4 rfl rfl inX12 27 (by decide) kf_X12_129 rfl dX12_stop_31 ?_
          refine lv_iload_n hx hb dX12_stop_34 rfl (lv_at hl 0 rfl) ?_
          refine lv_iload_n hx hb dX12_stop_35 rfl (lv_at hl 2 rfl) ?_
          refine lv_if_ne (tgt := 43) hx hb dX12_stop_36 (by decide) (fun c36 => ?_) (fun c36 => ?_)
          ·
            have i36 := ci_ne (x := r_1) (y := 0) rfl (show (0 : Int32).toInt = 0 by decide) c36
            refine lv_aload_n hx hb dX12_stop_43 rfl (lv_at hl 3 rfl) ?_
            refine cs_get F St 4 rfl rfl inX12 0 (by decide) kf_X12_114 rfl dX12_stop_44 ?_
            refine lv_bipush (v := 8) hx hb dX12_stop_47 (by decide) ?_
            refine cs_ild F St 1 2 rfl rfl (vp_in_iff.mpr (by decide)) dX12_stop_49 ?_
            refine lv_topi (fun y_5 ey_5 => ?_)
            have gy_5 := congrArg Int32.toInt ey_5
            refine lv_iconst (v := 1) hx hb dX12_stop_50 (by decide) ?_
            refine lv_icmp_ne (tgt := 71) hx hb dX12_stop_51 (by decide) (fun c51 => ?_) (fun c51 => ?_)
            ·
              have i51 := ci_ne (x := y_5) (y := 1) rfl (show (1 : Int32).toInt = 1 by decide) c51
              have hbf : ¬ ((f_rule (8 : Int32).toNatClampNeg).toInt = 1 ∧ sm (tA f_sumPence) v_sums.toNatClampNeg ≤ v_coin.toInt) := by omega
              refine lv_aload_n hx hb dX12_stop_71 rfl (lv_at hl 3 rfl) ?_
              refine cs_get F St 4 rfl rfl inX12 14 (by decide) kf_X12_262 rfl dX12_stop_72 ?_
              refine lv_i2l (v := v_coin.toInt64) hx hb dX12_stop_75 rfl ?_
              refine lv_aload_n hx hb dX12_stop_76 rfl (lv_at hl 3 rfl) ?_
              refine cs_get F St 4 rfl rfl inX12 26 (by decide) kf_X12_126 rfl dX12_stop_77 ?_
              refine lv_iload_n hx hb dX12_stop_80 rfl (lv_at hl 0 rfl) ?_
              refine cs_ild F St 2 3 rfl rfl (vp_in_iff.mpr ⟨by omega, by omega⟩) dX12_stop_81 ?_
              refine lv_topi (fun y_6 ey_6 => ?_)
              have gy_6 := congrArg Int32.toInt ey_6
              refine lv_i2l (v := y_6.toInt64) hx hb dX12_stop_82 rfl ?_
              refine lv_lmul hx hb dX12_stop_83 ?_
              refine lv_topl (fun y_7 ey_7 => ?_)
              obtain ⟨jm1, jm2, jm3⟩ := cl_mulb (u := v_coin.toInt) (v := sm (tG f_sumGiver f_sumPence kk.toNatClampNeg) v_sums.toNatClampNeg) (A := 2000000000) (B := 1250000000) (Int32.toInt_toInt64 _) (by rw [Int32.toInt_toInt64, gy_6, hgk]) ey_7 (by omega) (by omega) (by omega) (by omega) (by decide)
              refine lv_iload_n hx hb dX12_stop_84 rfl (lv_at hl 2 rfl) ?_
              refine lv_i2l (v := r_1.toInt64) hx hb dX12_stop_85 rfl ?_
              refine lv_ldiv hx hb dX12_stop_86 (ne0_j c36) ?_
              refine lv_topl (fun y_8 ey_8 => ?_)
              have jd := cl_div (u := v_coin.toInt * sm (tG f_sumGiver f_sumPence kk.toNatClampNeg) v_sums.toNatClampNeg) (v := sm (tA f_sumPence) v_sums.toNatClampNeg) jm1 (by rw [Int32.toInt_toInt64]; exact hal) ey_8 jm2 (by omega)
              refine lv_l2i (v := y_8.toInt32) hx hb dX12_stop_87 rfl ?_
              have hqe : bkG v_coin.toInt f_rule f_sumGiver f_sumPence v_sums.toNatClampNeg kk.toNatClampNeg = v_coin.toInt * sm (tG f_sumGiver f_sumPence kk.toNatClampNeg) v_sums.toNatClampNeg / sm (tA f_sumPence) v_sums.toNatClampNeg := by unfold bkG bkV; rw [if_neg (by omega), if_neg (fun z_ => hbf ⟨of_decide_eq_true z_.1, z_.2⟩)]
              have hqb := bkG_bd (fr := f_rule) (u0 := f_sumGiver) hSp hco kk.toNatClampNeg
              have jl := l2i_i (x := y_8) (by omega)
              have hbv : y_8.toInt32.toInt = bkG v_coin.toInt f_rule f_sumGiver f_sumPence v_sums.toNatClampNeg kk.toNatClampNeg := by rw [jl, jd, hqe]
              refine cs_ist F St 3 4 rfl rfl (vp_in_iff.mpr ⟨by omega, by omega⟩) (w' := [(qarI (a 22) (d 22) 250 f_sumGiver), (qarI (a 0) (d 0) 9 f_rule), (qarI (a 7) (d 7) 30 f_given), (qarI (a 8) (d 8) 30 (upd fb (kk : Int32).toNatClampNeg y_8.toInt32)), (cMq a h v_taped v_size v_from v_behind v_hand v_value v_fault v_faultAt v_clock v_coin v_loan v_matched v_taxed v_paidStages v_grown v_pledges v_sums v_stages 1 v_begun), (qarI (a 24) (d 24) 250 f_sumPence)]) rfl dX12_stop_88 (fun H locs St => ?_)
              obtain ⟨f_9, ef_9⟩ : ∃ zz : Nat → Int32, zz = upd fb (kk : Int32).toNatClampNeg y_8.toInt32 := ⟨_, rfl⟩
              rw [← ef_9] at St
              refine lv_iload_n hx hb dX12_stop_89 rfl (lv_at hl 1 rfl) ?_
              refine lv_aload_n hx hb dX12_stop_90 rfl (lv_at hl 3 rfl) ?_
              refine cs_get F St 4 rfl rfl inX12 27 (by decide) kf_X12_129 rfl dX12_stop_91 ?_
              refine lv_iload_n hx hb dX12_stop_94 rfl (lv_at hl 0 rfl) ?_
              refine cs_ild F St 3 4 rfl rfl (vp_in_iff.mpr ⟨by omega, by omega⟩) dX12_stop_95 ?_
              refine lv_topi (fun y_10 ey_10 => ?_)
              have gy_10 := congrArg Int32.toInt ey_10
              refine lv_iadd hx hb dX12_stop_96 ?_
              refine lv_topi (fun y_11 ey_11 => ?_)
              first | have jy_11 : y_11.toInt = gg.toInt + y_10.toInt := (by have q9 := ci_add (x := gg) (y := y_10) rfl rfl ey_11; omega) | have jy_11 := ci_add (x := gg) (y := y_10) rfl rfl ey_11
              refine lv_istore_n (lv' := [(2, .int y_11), (3, .int kk), (1, .int r_1), (0, .ref h)]) hx hb dX12_stop_97 rfl hl (by decide) rfl (fun ls hl => ?_)
              obtain ⟨y_12, ey_12⟩ : ∃ zz : Int32, zz = kk + 1 := ⟨_, rfl⟩
              first | have jy_12 : y_12.toInt = kk.toInt + 1 := (by have q9 := ci_add (x := kk) rfl (show (1 : Int32).toInt = 1 by decide) ey_12; omega) | have jy_12 := ci_add (x := kk) rfl (show (1 : Int32).toInt = 1 by decide) ey_12
              refine lv_iinc (v := y_12) (lv' := [(3, .int y_12), (2, .int y_11), (1, .int r_1), (0, .ref h)]) hx hb dX12_stop_98 hl (k := 1) rfl (by rw [ey_12]; rfl) (by decide) rfl (fun ls hl => ?_)
              refine lv_goto (tgt := 24) hx hb dX12_stop_101 (by decide) ?_
              exact ih y_12 y_11 f_9 _ _ _ ⟨⟨by omega, by omega⟩, (by rw [ef_9]; exact fU_Y hI0 (Nat.zero_le _) hs1 (by omega) rfl (i32_of hbv)), smI_up hI0 hs2 (by omega) (by rw [ey_11, ey_10, ef_9, pk_us, i32_of hbv]; rfl)⟩ (by omega) St (lv_sub hl [0, 1, 2, 3] rfl)
            ·
              have i51 := ci_eq (x := y_5) (y := 1) rfl (show (1 : Int32).toInt = 1 by decide) c51
              refine lv_aload_n hx hb dX12_stop_54 rfl (lv_at hl 3 rfl) ?_
              refine cs_get F St 4 rfl rfl inX12 14 (by decide) kf_X12_262 rfl dX12_stop_55 ?_
              refine lv_iload_n hx hb dX12_stop_58 rfl (lv_at hl 2 rfl) ?_
              refine lv_icmp_lt (tgt := 71) hx hb dX12_stop_59 (by decide) (fun c59 => ?_) (fun c59 => ?_)
              ·
                have i59 := ci_lt (x := v_coin) (y := r_1) rfl rfl c59
                have hbf : ¬ ((f_rule (8 : Int32).toNatClampNeg).toInt = 1 ∧ sm (tA f_sumPence) v_sums.toNatClampNeg ≤ v_coin.toInt) := by omega
                refine lv_aload_n hx hb dX12_stop_71 rfl (lv_at hl 3 rfl) ?_
                refine cs_get F St 4 rfl rfl inX12 14 (by decide) kf_X12_262 rfl dX12_stop_72 ?_
                refine lv_i2l (v := v_coin.toInt64) hx hb dX12_stop_75 rfl ?_
                refine lv_aload_n hx hb dX12_stop_76 rfl (lv_at hl 3 rfl) ?_
                refine cs_get F St 4 rfl rfl inX12 26 (by decide) kf_X12_126 rfl dX12_stop_77 ?_
                refine lv_iload_n hx hb dX12_stop_80 rfl (lv_at hl 0 rfl) ?_
                refine cs_ild F St 2 3 rfl rfl (vp_in_iff.mpr ⟨by omega, by omega⟩) dX12_stop_81 ?_
                refine lv_topi (fun y_13 ey_13 => ?_)
                have gy_13 := congrArg Int32.toInt ey_13
                refine lv_i2l (v := y_13.toInt64) hx hb dX12_stop_82 rfl ?_
                refine lv_lmul hx hb dX12_stop_83 ?_
                refine lv_topl (fun y_14 ey_14 => ?_)
                obtain ⟨jm1, jm2, jm3⟩ := cl_mulb (u := v_coin.toInt) (v := sm (tG f_sumGiver f_sumPence kk.toNatClampNeg) v_sums.toNatClampNeg) (A := 2000000000) (B := 1250000000) (Int32.toInt_toInt64 _) (by rw [Int32.toInt_toInt64, gy_13, hgk]) ey_14 (by omega) (by omega) (by omega) (by omega) (by decide)
                refine lv_iload_n hx hb dX12_stop_84 rfl (lv_at hl 2 rfl) ?_
                refine lv_i2l (v := r_1.toInt64) hx hb dX12_stop_85 rfl ?_
                refine lv_ldiv hx hb dX12_stop_86 (ne0_j c36) ?_
                refine lv_topl (fun y_15 ey_15 => ?_)
                have jd := cl_div (u := v_coin.toInt * sm (tG f_sumGiver f_sumPence kk.toNatClampNeg) v_sums.toNatClampNeg) (v := sm (tA f_sumPence) v_sums.toNatClampNeg) jm1 (by rw [Int32.toInt_toInt64]; exact hal) ey_15 jm2 (by omega)
                refine lv_l2i (v := y_15.toInt32) hx hb dX12_stop_87 rfl ?_
                have hqe : bkG v_coin.toInt f_rule f_sumGiver f_sumPence v_sums.toNatClampNeg kk.toNatClampNeg = v_coin.toInt * sm (tG f_sumGiver f_sumPence kk.toNatClampNeg) v_sums.toNatClampNeg / sm (tA f_sumPence) v_sums.toNatClampNeg := by unfold bkG bkV; rw [if_neg (by omega), if_neg (fun z_ => hbf ⟨of_decide_eq_true z_.1, z_.2⟩)]
                have hqb := bkG_bd (fr := f_rule) (u0 := f_sumGiver) hSp hco kk.toNatClampNeg
                have jl := l2i_i (x := y_15) (by omega)
                have hbv : y_15.toInt32.toInt = bkG v_coin.toInt f_rule f_sumGiver f_sumPence v_sums.toNatClampNeg kk.toNatClampNeg := by rw [jl, jd, hqe]
                refine cs_ist F St 3 4 rfl rfl (vp_in_iff.mpr ⟨by omega, by omega⟩) (w' := [(qarI (a 22) (d 22) 250 f_sumGiver), (qarI (a 0) (d 0) 9 f_rule), (qarI (a 7) (d 7) 30 f_given), (qarI (a 8) (d 8) 30 (upd fb (kk : Int32).toNatClampNeg y_15.toInt32)), (cMq a h v_taped v_size v_from v_behind v_hand v_value v_fault v_faultAt v_clock v_coin v_loan v_matched v_taxed v_paidStages v_grown v_pledges v_sums v_stages 1 v_begun), (qarI (a 24) (d 24) 250 f_sumPence)]) rfl dX12_stop_88 (fun H locs St => ?_)
                obtain ⟨f_16, ef_16⟩ : ∃ zz : Nat → Int32, zz = upd fb (kk : Int32).toNatClampNeg y_15.toInt32 := ⟨_, rfl⟩
                rw [← ef_16] at St
                refine lv_iload_n hx hb dX12_stop_89 rfl (lv_at hl 1 rfl) ?_
                refine lv_aload_n hx hb dX12_stop_90 rfl (lv_at hl 3 rfl) ?_
                refine cs_get F St 4 rfl rfl inX12 27 (by decide) kf_X12_129 rfl dX12_stop_91 ?_
                refine lv_iload_n hx hb dX12_stop_94 rfl (lv_at hl 0 rfl) ?_
                refine cs_ild F St 3 4 rfl rfl (vp_in_iff.mpr ⟨by omega, by omega⟩) dX12_stop_95 ?_
                refine lv_topi (fun y_17 ey_17 => ?_)
                have gy_17 := congrArg Int32.toInt ey_17
                refine lv_iadd hx hb dX12_stop_96 ?_
                refine lv_topi (fun y_18 ey_18 => ?_)
                first | have jy_18 : y_18.toInt = gg.toInt + y_17.toInt := (by have q9 := ci_add (x := gg) (y := y_17) rfl rfl ey_18; omega) | have jy_18 := ci_add (x := gg) (y := y_17) rfl rfl ey_18
                refine lv_istore_n (lv' := [(2, .int y_18), (3, .int kk), (1, .int r_1), (0, .ref h)]) hx hb dX12_stop_97 rfl hl (by decide) rfl (fun ls hl => ?_)
                obtain ⟨y_19, ey_19⟩ : ∃ zz : Int32, zz = kk + 1 := ⟨_, rfl⟩
                first | have jy_19 : y_19.toInt = kk.toInt + 1 := (by have q9 := ci_add (x := kk) rfl (show (1 : Int32).toInt = 1 by decide) ey_19; omega) | have jy_19 := ci_add (x := kk) rfl (show (1 : Int32).toInt = 1 by decide) ey_19
                refine lv_iinc (v := y_19) (lv' := [(3, .int y_19), (2, .int y_18), (1, .int r_1), (0, .ref h)]) hx hb dX12_stop_98 hl (k := 1) rfl (by rw [ey_19]; rfl) (by decide) rfl (fun ls hl => ?_)
                refine lv_goto (tgt := 24) hx hb dX12_stop_101 (by decide) ?_
                exact ih y_19 y_18 f_16 _ _ _ ⟨⟨by omega, by omega⟩, (by rw [ef_16]; exact fU_Y hI0 (Nat.zero_le _) hs1 (by omega) rfl (i32_of hbv)), smI_up hI0 hs2 (by omega) (by rw [ey_18, ey_17, ef_16, pk_us, i32_of hbv]; rfl)⟩ (by omega) St (lv_sub hl [0, 1, 2, 3] rfl)
              ·
                have i59 := ci_nlt (x := v_coin) (y := r_1) rfl rfl c59
                refine lv_aload_n hx hb dX12_stop_62 rfl (lv_at hl 3 rfl) ?_
                refine cs_get F St 4 rfl rfl inX12 26 (by decide) kf_X12_126 rfl dX12_stop_63 ?_
                refine lv_iload_n hx hb dX12_stop_66 rfl (lv_at hl 0 rfl) ?_
                refine cs_ild F St 2 3 rfl rfl (vp_in_iff.mpr ⟨by omega, by omega⟩) dX12_stop_67 ?_
                refine lv_topi (fun y_20 ey_20 => ?_)
                have gy_20 := congrArg Int32.toInt ey_20
                refine lv_goto (tgt := 88) hx hb dX12_stop_68 (by decide) ?_
                have hbv : y_20.toInt = bkG v_coin.toInt f_rule f_sumGiver f_sumPence v_sums.toNatClampNeg kk.toNatClampNeg := by unfold bkG bkV; rw [if_neg (by omega), if_pos ⟨decide_eq_true (by omega), by omega⟩, gy_20, hgk]
                refine cs_ist F St 3 4 rfl rfl (vp_in_iff.mpr ⟨by omega, by omega⟩) (w' := [(qarI (a 22) (d 22) 250 f_sumGiver), (qarI (a 0) (d 0) 9 f_rule), (qarI (a 7) (d 7) 30 f_given), (qarI (a 8) (d 8) 30 (upd fb (kk : Int32).toNatClampNeg y_20)), (cMq a h v_taped v_size v_from v_behind v_hand v_value v_fault v_faultAt v_clock v_coin v_loan v_matched v_taxed v_paidStages v_grown v_pledges v_sums v_stages 1 v_begun), (qarI (a 24) (d 24) 250 f_sumPence)]) rfl dX12_stop_88 (fun H locs St => ?_)
                obtain ⟨f_21, ef_21⟩ : ∃ zz : Nat → Int32, zz = upd fb (kk : Int32).toNatClampNeg y_20 := ⟨_, rfl⟩
                rw [← ef_21] at St
                refine lv_iload_n hx hb dX12_stop_89 rfl (lv_at hl 1 rfl) ?_
                refine lv_aload_n hx hb dX12_stop_90 rfl (lv_at hl 3 rfl) ?_
                refine cs_get F St 4 rfl rfl inX12 27 (by decide) kf_X12_129 rfl dX12_stop_91 ?_
                refine lv_iload_n hx hb dX12_stop_94 rfl (lv_at hl 0 rfl) ?_
                refine cs_ild F St 3 4 rfl rfl (vp_in_iff.mpr ⟨by omega, by omega⟩) dX12_stop_95 ?_
                refine lv_topi (fun y_22 ey_22 => ?_)
                have gy_22 := congrArg Int32.toInt ey_22
                refine lv_iadd hx hb dX12_stop_96 ?_
                refine lv_topi (fun y_23 ey_23 => ?_)
                first | have jy_23 : y_23.toInt = gg.toInt + y_22.toInt := (by have q9 := ci_add (x := gg) (y := y_22) rfl rfl ey_23; omega) | have jy_23 := ci_add (x := gg) (y := y_22) rfl rfl ey_23
                refine lv_istore_n (lv' := [(2, .int y_23), (3, .int kk), (1, .int r_1), (0, .ref h)]) hx hb dX12_stop_97 rfl hl (by decide) rfl (fun ls hl => ?_)
                obtain ⟨y_24, ey_24⟩ : ∃ zz : Int32, zz = kk + 1 := ⟨_, rfl⟩
                first | have jy_24 : y_24.toInt = kk.toInt + 1 := (by have q9 := ci_add (x := kk) rfl (show (1 : Int32).toInt = 1 by decide) ey_24; omega) | have jy_24 := ci_add (x := kk) rfl (show (1 : Int32).toInt = 1 by decide) ey_24
                refine lv_iinc (v := y_24) (lv' := [(3, .int y_24), (2, .int y_23), (1, .int r_1), (0, .ref h)]) hx hb dX12_stop_98 hl (k := 1) rfl (by rw [ey_24]; rfl) (by decide) rfl (fun ls hl => ?_)
                refine lv_goto (tgt := 24) hx hb dX12_stop_101 (by decide) ?_
                exact ih y_24 y_23 f_21 _ _ _ ⟨⟨by omega, by omega⟩, (by rw [ef_21]; exact fU_Y hI0 (Nat.zero_le _) hs1 (by omega) rfl (i32_of hbv)), smI_up hI0 hs2 (by omega) (by rw [ey_23, ey_22, ef_21, pk_us, i32_of hbv]; rfl)⟩ (by omega) St (lv_sub hl [0, 1, 2, 3] rfl)
          ·
            have i36 := ci_eq (x := r_1) (y := 0) rfl (show (0 : Int32).toInt = 0 by decide) c36
            refine lv_iconst (v := 0) hx hb dX12_stop_39 (by decide) ?_
            refine lv_goto (tgt := 88) hx hb dX12_stop_40 (by decide) ?_
            have hbv : (0 : Int32).toInt = bkG v_coin.toInt f_rule f_sumGiver f_sumPence v_sums.toNatClampNeg kk.toNatClampNeg := by unfold bkG bkV; rw [if_pos (by omega)]; rfl
            refine cs_ist F St 3 4 rfl rfl (vp_in_iff.mpr ⟨by omega, by omega⟩) (w' := [(qarI (a 22) (d 22) 250 f_sumGiver), (qarI (a 0) (d 0) 9 f_rule), (qarI (a 7) (d 7) 30 f_given), (qarI (a 8) (d 8) 30 (upd fb (kk : Int32).toNatClampNeg 0)), (cMq a h v_taped v_size v_from v_behind v_hand v_value v_fault v_faultAt v_clock v_coin v_loan v_matched v_taxed v_paidStages v_grown v_pledges v_sums v_stages 1 v_begun), (qarI (a 24) (d 24) 250 f_sumPence)]) rfl dX12_stop_88 (fun H locs St => ?_)
            obtain ⟨f_25, ef_25⟩ : ∃ zz : Nat → Int32, zz = upd fb (kk : Int32).toNatClampNeg 0 := ⟨_, rfl⟩
            rw [← ef_25] at St
            refine lv_iload_n hx hb dX12_stop_89 rfl (lv_at hl 1 rfl) ?_
            refine lv_aload_n hx hb dX12_stop_90 rfl (lv_at hl 3 rfl) ?_
            refine cs_get F St 4 rfl rfl inX12 27 (by decide) kf_X12_129 rfl dX12_stop_91 ?_
            refine lv_iload_n hx hb dX12_stop_94 rfl (lv_at hl 0 rfl) ?_
            refine cs_ild F St 3 4 rfl rfl (vp_in_iff.mpr ⟨by omega, by omega⟩) dX12_stop_95 ?_
            refine lv_topi (fun y_26 ey_26 => ?_)
            have gy_26 := congrArg Int32.toInt ey_26
            refine lv_iadd hx hb dX12_stop_96 ?_
            refine lv_topi (fun y_27 ey_27 => ?_)
            first | have jy_27 : y_27.toInt = gg.toInt + y_26.toInt := (by have q9 := ci_add (x := gg) (y := y_26) rfl rfl ey_27; omega) | have jy_27 := ci_add (x := gg) (y := y_26) rfl rfl ey_27
            refine lv_istore_n (lv' := [(2, .int y_27), (3, .int kk), (1, .int r_1), (0, .ref h)]) hx hb dX12_stop_97 rfl hl (by decide) rfl (fun ls hl => ?_)
            obtain ⟨y_28, ey_28⟩ : ∃ zz : Int32, zz = kk + 1 := ⟨_, rfl⟩
            first | have jy_28 : y_28.toInt = kk.toInt + 1 := (by have q9 := ci_add (x := kk) rfl (show (1 : Int32).toInt = 1 by decide) ey_28; omega) | have jy_28 := ci_add (x := kk) rfl (show (1 : Int32).toInt = 1 by decide) ey_28
            refine lv_iinc (v := y_28) (lv' := [(3, .int y_28), (2, .int y_27), (1, .int r_1), (0, .ref h)]) hx hb dX12_stop_98 hl (k := 1) rfl (by rw [ey_28]; rfl) (by decide) rfl (fun ls hl => ?_)
            refine lv_goto (tgt := 24) hx hb dX12_stop_101 (by decide) ?_
            exact ih y_28 y_27 f_25 _ _ _ ⟨⟨by omega, by omega⟩, (by rw [ef_25]; exact fU_Y hI0 (Nat.zero_le _) hs1 (by omega) rfl (i32_of hbv)), smI_up hI0 hs2 (by omega) (by rw [ey_27, ey_26, ef_25, pk_us, i32_of hbv]; rfl)⟩ (by omega) St (lv_sub hl [0, 1, 2, 3] rfl)
    exact lp24 31 0 0 f_back _ _ _ ⟨⟨by omega, by omega⟩, fU_0.symm, rfl⟩ (by omega) St (lv_sub hl [0, 1, 2, 3] rfl)
  ·
    have i4 := ci_ne (x := v_isStopped) (y := 0) rfl (show (0 : Int32).toInt = 0 by decide) c4
    refine lv_bipush (v := (-4)) hx hb dX12_stop_7 (by decide) ?_
    exact cs_iret F hr hlk hQ St (v_isStopped, v_coin, f_back) (r := (-4)) ⟨Or.inl ⟨rfl, by omega, rfl, rfl⟩, hz.resolve_left c4⟩ [0, 1, 2, 3, 4, 5] rfl (by decide) [] rfl (by decide) (by decide) dX12_stop_9
set_option maxHeartbeats 4000000 in
set_option maxRecDepth 100000 in
theorem e12_count (l : Launch) (G : va_G) (k : Nat → Nat) (sz : Nat) (h : Nat) (a : Nat → Nat) (d : Nat → ClassId) (v_taped : Int32) (v_size : Int32) (v_from : Int32) (v_behind : Int32) (v_hand : Int32) (v_value : Int32) (v_fault : Int32) (v_faultAt : Int32) (v_clock : Int32) (v_coin : Int32) (v_loan : Int32) (v_matched : Int32) (v_taxed : Int32) (v_paidStages : Int32) (v_grown : Int32) (v_pledges : Int32) (v_sums : Int32) (v_stages : Int32) (v_isStopped : Int32) (v_begun : Int32) (f_sum : Nat → Int32) (f_stones : Nat → Int32) (f_sumGiver : Nat → Int32) (f_sumPence : Nat → Int32) (f_isNameless : Nat → Int32) (f_rule : Nat → Int32) (f_giver : Nat → Int32) (f_isLapsed : Nat → Int32) (f_wasTakenUp : Nat → Int32) (f_first : Nat → Int32) (f_every : Nat → Int32) (f_dues : Nat → Int32) (f_due : Nat → Int32) (f_filled : Nat → Int32) (f_isThere : Nat → Int32) (f_counts : Nat → Int32) (x1 : Int32) (hPn : 0 ≤ v_pledges.toInt ∧ v_pledges.toInt ≤ 60) (hSg : mGi v_sums f_sumGiver) (hSp : mSp v_sums f_sumPence) (hF : rbd f_rule) (hz : v_isStopped = 0 ∨ v_isStopped = 1) (tP : Nat → Pl9) (hM : mR v_pledges (tP) f_giver f_isLapsed f_wasTakenUp f_first f_every f_dues f_due f_filled f_isThere f_counts) (hA : wfA v_pledges v_clock.toInt tP) : Met l yX12_count (Cond.code yX12_count cX12_count 4 (some .int) :: tb) ({ frames := 1, cells := 0, slots := 0, locals := 24 } : Room) (va_Pc [.ref h, .int x1] (cP G k [(cMq a h v_taped v_size v_from v_behind v_hand v_value v_fault v_faultAt v_clock v_coin v_loan v_matched v_taxed v_paidStages v_grown v_pledges v_sums v_stages v_isStopped v_begun), (qarI (a 31) (d 31) 30 f_sum), (qarI (a 32) (d 32) 30 f_stones), (qarI (a 22) (d 22) 250 f_sumGiver), (qarI (a 24) (d 24) 250 f_sumPence), (qarI (a 9) (d 9) 30 f_isNameless), (qarI (a 0) (d 0) 9 f_rule), (qarI (a 10) (d 10) 60 f_giver), (qarI (a 16) (d 16) 60 f_isLapsed), (qarI (a 17) (d 17) 60 f_wasTakenUp), (qarI (a 12) (d 12) 60 f_first), (qarI (a 13) (d 13) 60 f_every), (qarI (a 14) (d 14) 60 f_dues), (qarI (a 18) (d 18) 5040 f_due), (qarI (a 19) (d 19) 5040 f_filled), (qarI (a 20) (d 20) 5040 f_isThere), (qarI (a 21) (d 21) 5040 f_counts)] [((d 31), .int), ((d 32), .int), ((d 22), .int), ((d 24), .int), ((d 9), .boolean), ((d 0), .int), ((d 10), .int), ((d 16), .boolean), ((d 17), .boolean), ((d 12), .int), ((d 13), .int), ((d 14), .int), ((d 18), .int), ((d 19), .int), ((d 20), .boolean), ((d 21), .boolean)] sz)) (va_Qi (fun (r : Int32) (u : (Nat → Int32) × (Nat → Int32)) => match u with | (g_sum, g_stones) => (Rcnt x1 (cnL v_clock.toInt v_coin.toInt v_loan.toInt (sm (tA f_sumPence) v_sums.toNatClampNeg) v_matched.toInt v_taxed.toInt v_paidStages.toInt v_grown.toInt v_pledges.toInt (sm (fun i => lnT (tP i)) v_pledges.toNatClampNeg) v_stages.toInt v_sums.toInt v_isStopped.toInt v_taped.toInt (stC f_sumGiver f_sumPence f_isNameless (100 * (f_rule (7 : Int32).toNatClampNeg).toInt) v_sums.toNatClampNeg)) r)) (cB G (fun u => match u with | (g_sum, g_stones) => [(cMq a h v_taped v_size v_from v_behind v_hand v_value v_fault v_faultAt v_clock v_coin v_loan v_matched v_taxed v_paidStages v_grown v_pledges v_sums v_stages v_isStopped v_begun), (qarI (a 31) (d 31) 30 g_sum), (qarI (a 32) (d 32) 30 g_stones), (qarI (a 22) (d 22) 250 f_sumGiver), (qarI (a 24) (d 24) 250 f_sumPence), (qarI (a 9) (d 9) 30 f_isNameless), (qarI (a 0) (d 0) 9 f_rule), (qarI (a 10) (d 10) 60 f_giver), (qarI (a 16) (d 16) 60 f_isLapsed), (qarI (a 17) (d 17) 60 f_wasTakenUp), (qarI (a 12) (d 12) 60 f_first), (qarI (a 13) (d 13) 60 f_every), (qarI (a 14) (d 14) 60 f_dues), (qarI (a 18) (d 18) 5040 f_due), (qarI (a 19) (d 19) 5040 f_filled), (qarI (a 20) (d 20) 5040 f_isThere), (qarI (a 21) (d 21) 5040 f_counts)]) (fun u => match u with | (g_sum, g_stones) => []) (va_A [(cMq a h v_taped v_size v_from v_behind v_hand v_value v_fault v_faultAt v_clock v_coin v_loan v_matched v_taxed v_paidStages v_grown v_pledges v_sums v_stages v_isStopped v_begun), (qarI (a 31) (d 31) 30 f_sum), (qarI (a 32) (d 32) 30 f_stones), (qarI (a 22) (d 22) 250 f_sumGiver), (qarI (a 24) (d 24) 250 f_sumPence), (qarI (a 9) (d 9) 30 f_isNameless), (qarI (a 0) (d 0) 9 f_rule), (qarI (a 10) (d 10) 60 f_giver), (qarI (a 16) (d 16) 60 f_isLapsed), (qarI (a 17) (d 17) 60 f_wasTakenUp), (qarI (a 12) (d 12) 60 f_first), (qarI (a 13) (d 13) 60 f_every), (qarI (a 14) (d 14) 60 f_dues), (qarI (a 18) (d 18) 5040 f_due), (qarI (a 19) (d 19) 5040 f_filled), (qarI (a 20) (d 20) 5040 f_isThere), (qarI (a 21) (d 21) 5040 f_counts)] sz)) (va_A [(cMq a h v_taped v_size v_from v_behind v_hand v_value v_fault v_faultAt v_clock v_coin v_loan v_matched v_taxed v_paidStages v_grown v_pledges v_sums v_stages v_isStopped v_begun), (qarI (a 31) (d 31) 30 f_sum), (qarI (a 32) (d 32) 30 f_stones), (qarI (a 22) (d 22) 250 f_sumGiver), (qarI (a 24) (d 24) 250 f_sumPence), (qarI (a 9) (d 9) 30 f_isNameless), (qarI (a 0) (d 0) 9 f_rule), (qarI (a 10) (d 10) 60 f_giver), (qarI (a 16) (d 16) 60 f_isLapsed), (qarI (a 17) (d 17) 60 f_wasTakenUp), (qarI (a 12) (d 12) 60 f_first), (qarI (a 13) (d 13) 60 f_every), (qarI (a 14) (d 14) 60 f_dues), (qarI (a 18) (d 18) 5040 f_due), (qarI (a 19) (d 19) 5040 f_filled), (qarI (a 20) (d 20) 5040 f_isThere), (qarI (a 21) (d 21) 5040 f_counts)] sz)) 0 0 (va_A [(cMq a h v_taped v_size v_from v_behind v_hand v_value v_fault v_faultAt v_clock v_coin v_loan v_matched v_taxed v_paidStages v_grown v_pledges v_sums v_stages v_isStopped v_begun), (qarI (a 31) (d 31) 30 f_sum), (qarI (a 32) (d 32) 30 f_stones), (qarI (a 22) (d 22) 250 f_sumGiver), (qarI (a 24) (d 24) 250 f_sumPence), (qarI (a 9) (d 9) 30 f_isNameless), (qarI (a 0) (d 0) 9 f_rule), (qarI (a 10) (d 10) 60 f_giver), (qarI (a 16) (d 16) 60 f_isLapsed), (qarI (a 17) (d 17) 60 f_wasTakenUp), (qarI (a 12) (d 12) 60 f_first), (qarI (a 13) (d 13) 60 f_every), (qarI (a 14) (d 14) 60 f_dues), (qarI (a 18) (d 18) 5040 f_due), (qarI (a 19) (d 19) 5040 f_filled), (qarI (a 20) (d 20) 5040 f_isThere), (qarI (a 21) (d 21) 5040 f_counts)] sz) := by
  refine ofC_i (cc := cX12_count) (maxL := 4) (ret := (some .int)) (by decide) rfl (Nat.le_of_ble_eq_true rfl) ?_
  intro p e s m args below meth c A ls Q F hr hin hlk St hl hQ
  have hx := F.1
  have hb := F.2.1
  have hl : lv_has ls 4 [(0, .ref h), (1, .int x1)] := hl
  have St : cS G k [(cMq a h v_taped v_size v_from v_behind v_hand v_value v_fault v_faultAt v_clock v_coin v_loan v_matched v_taxed v_paidStages v_grown v_pledges v_sums v_stages v_isStopped v_begun), (qarI (a 31) (d 31) 30 f_sum), (qarI (a 32) (d 32) 30 f_stones), (qarI (a 22) (d 22) 250 f_sumGiver), (qarI (a 24) (d 24) 250 f_sumPence), (qarI (a 9) (d 9) 30 f_isNameless), (qarI (a 0) (d 0) 9 f_rule), (qarI (a 10) (d 10) 60 f_giver), (qarI (a 16) (d 16) 60 f_isLapsed), (qarI (a 17) (d 17) 60 f_wasTakenUp), (qarI (a 12) (d 12) 60 f_first), (qarI (a 13) (d 13) 60 f_every), (qarI (a 14) (d 14) 60 f_dues), (qarI (a 18) (d 18) 5040 f_due), (qarI (a 19) (d 19) 5040 f_filled), (qarI (a 20) (d 20) 5040 f_isThere), (qarI (a 21) (d 21) 5040 f_counts)] [((d 31), .int), ((d 32), .int), ((d 22), .int), ((d 24), .int), ((d 9), .boolean), ((d 0), .int), ((d 10), .int), ((d 16), .boolean), ((d 17), .boolean), ((d 12), .int), ((d 13), .int), ((d 14), .int), ((d 18), .int), ((d 19), .int), ((d 20), .boolean), ((d 21), .boolean)] A s s.heap [] := St
  have hsd := hSp.1
  have y0 : (0 : Int32).toInt = 0 := by decide
  have y1 : (1 : Int32).toInt = 1 := by decide
  have hzi := z01 hz
  have hn5 := nc_int (x := v_pledges) (by omega)
  refine lv_iload_n hx hb dX12_count_0 rfl (lv_at hl 1 rfl) ?_
  by_cases w1_0 : x1 = 0
  ·
    subst w1_0
    refine lv_tableIn (tgt := 76) (off := 75) hx hb dX12_count_1 (by decide) (by decide) (by decide) (by decide) ?_
    refine lv_aload_n hx hb dX12_count_76 rfl (lv_at hl 0 rfl) ?_
    refine cs_get F St 0 rfl rfl inX12 13 (by decide) kf_X12_230 rfl dX12_count_77 ?_
    exact cs_iret F hr hlk hQ St (f_sum, f_stones) (r := v_clock) (Or.inr ⟨by decide, rfl⟩) [0, 1, 2, 3, 4, 5, 6, 7, 8, 9, 10, 11, 12, 13, 14, 15, 16] rfl (by decide) [] rfl (by decide) (by decide) dX12_count_80
  by_cases w1_1 : x1 = 1
  ·
    subst w1_1
    refine lv_tableIn (tgt := 81) (off := 80) hx hb dX12_count_1 (by decide) (by decide) (by decide) (by decide) ?_
    refine lv_aload_n hx hb dX12_count_81 rfl (lv_at hl 0 rfl) ?_
    refine cs_get F St 0 rfl rfl inX12 14 (by decide) kf_X12_262 rfl dX12_count_82 ?_
    exact cs_iret F hr hlk hQ St (f_sum, f_stones) (r := v_coin) (Or.inr ⟨by decide, rfl⟩) [0, 1, 2, 3, 4, 5, 6, 7, 8, 9, 10, 11, 12, 13, 14, 15, 16] rfl (by decide) [] rfl (by decide) (by decide) dX12_count_85
  by_cases w1_2 : x1 = 2
  ·
    subst w1_2
    refine lv_tableIn (tgt := 86) (off := 85) hx hb dX12_count_1 (by decide) (by decide) (by decide) (by decide) ?_
    refine lv_aload_n hx hb dX12_count_86 rfl (lv_at hl 0 rfl) ?_
    refine cs_get F St 0 rfl rfl inX12 15 (by decide) kf_X12_296 rfl dX12_count_87 ?_
    exact cs_iret F hr hlk hQ St (f_sum, f_stones) (r := v_loan) (Or.inr ⟨by decide, rfl⟩) [0, 1, 2, 3, 4, 5, 6, 7, 8, 9, 10, 11, 12, 13, 14, 15, 16] rfl (by decide) [] rfl (by decide) (by decide) dX12_count_90
  by_cases w1_3 : x1 = 3
  ·
    subst w1_3
    refine lv_tableIn (tgt := 91) (off := 90) hx hb dX12_count_1 (by decide) (by decide) (by decide) (by decide) ?_
    refine lv_aload_n hx hb dX12_count_91 rfl (lv_at hl 0 rfl) ?_
    refine cs_i St [0, 4] [1, 2, 3, 5, 6, 7, 8, 9, 10, 11, 12, 13, 14, 15, 16] (wc := [(cMq a h v_taped v_size v_from v_behind v_hand v_value v_fault v_faultAt v_clock v_coin v_loan v_matched v_taxed v_paidStages v_grown v_pledges v_sums v_stages v_isStopped v_begun), (qarI (a 24) (d 24) 250 f_sumPence)]) (wr := [(qarI (a 31) (d 31) 30 f_sum), (qarI (a 32) (d 32) 30 f_stones), (qarI (a 22) (d 22) 250 f_sumGiver), (qarI (a 9) (d 9) 30 f_isNameless), (qarI (a 0) (d 0) 9 f_rule), (qarI (a 10) (d 10) 60 f_giver), (qarI (a 16) (d 16) 60 f_isLapsed), (qarI (a 17) (d 17) 60 f_wasTakenUp), (qarI (a 12) (d 12) 60 f_first), (qarI (a 13) (d 13) 60 f_every), (qarI (a 14) (d 14) 60 f_dues), (qarI (a 18) (d 18) 5040 f_due), (qarI (a 19) (d 19) 5040 f_filled), (qarI (a 20) (d 20) 5040 f_isThere), (qarI (a 21) (d 21) 5040 f_counts)]) rfl rfl (by decide) (by decide) (va_runV (As := []) (rest := []) F (e12_allGiven l G k _ h a d v_taped v_size v_from v_behind v_hand v_value v_fault v_faultAt v_clock v_coin v_loan v_matched v_taxed v_paidStages v_grown v_pledges v_sums v_stages v_isStopped v_begun f_sumPence hSp) (cwVt F mf_X12_allGiven km_X12_317 rfl rfl ⟨Nat.le_of_ble_eq_true rfl, Nat.le_of_ble_eq_true rfl⟩) (cs_preV St [0, 4] rfl (by decide) [3] rfl (ci := 12) (q0 := 0) rfl rfl) rfl rfl hl.1 rfl (lv_room (Nat.le_of_ble_eq_true rfl)) dX12_count_92 ⟨Nat.le_of_ble_eq_true rfl, Nat.le_of_ble_eq_true rfl⟩) (fun r_1 u_2 H locs hw St => ?_)
    try dsimp only at hw
    have hr_3 := hw
    have St : cS G k [(qarI (a 31) (d 31) 30 f_sum), (qarI (a 32) (d 32) 30 f_stones), (qarI (a 22) (d 22) 250 f_sumGiver), (qarI (a 9) (d 9) 30 f_isNameless), (qarI (a 0) (d 0) 9 f_rule), (qarI (a 10) (d 10) 60 f_giver), (qarI (a 16) (d 16) 60 f_isLapsed), (qarI (a 17) (d 17) 60 f_wasTakenUp), (qarI (a 12) (d 12) 60 f_first), (qarI (a 13) (d 13) 60 f_every), (qarI (a 14) (d 14) 60 f_dues), (qarI (a 18) (d 18) 5040 f_due), (qarI (a 19) (d 19) 5040 f_filled), (qarI (a 20) (d 20) 5040 f_isThere), (qarI (a 21) (d 21) 5040 f_counts), (cMq a h v_taped v_size v_from v_behind v_hand v_value v_fault v_faultAt v_clock v_coin v_loan v_matched v_taxed v_paidStages v_grown v_pledges v_sums v_stages v_isStopped v_begun), (qarI (a 24) (d 24) 250 f_sumPence)] [((d 31), .int), ((d 32), .int), ((d 22), .int), ((d 24), .int), ((d 9), .boolean), ((d 0), .int), ((d 10), .int), ((d 16), .boolean), ((d 17), .boolean), ((d 12), .int), ((d 13), .int), ((d 14), .int), ((d 18), .int), ((d 19), .int), ((d 20), .boolean), ((d 21), .boolean)] A s H locs := St
    exact cs_iret F hr hlk hQ St (f_sum, f_stones) (r := r_1) (Or.inr ⟨by decide, hr_3⟩) [15, 0, 1, 2, 16, 3, 4, 5, 6, 7, 8, 9, 10, 11, 12, 13, 14] rfl (by decide) [] rfl (by decide) (by decide) dX12_count_95
  by_cases w1_4 : x1 = 4
  ·
    subst w1_4
    refine lv_tableIn (tgt := 96) (off := 95) hx hb dX12_count_1 (by decide) (by decide) (by decide) (by decide) ?_
    refine lv_aload_n hx hb dX12_count_96 rfl (lv_at hl 0 rfl) ?_
    refine cs_get F St 0 rfl rfl inX12 16 (by decide) kf_X12_251 rfl dX12_count_97 ?_
    exact cs_iret F hr hlk hQ St (f_sum, f_stones) (r := v_matched) (Or.inr ⟨by decide, rfl⟩) [0, 1, 2, 3, 4, 5, 6, 7, 8, 9, 10, 11, 12, 13, 14, 15, 16] rfl (by decide) [] rfl (by decide) (by decide) dX12_count_100
  by_cases w1_5 : x1 = 5
  ·
    subst w1_5
    refine lv_tableIn (tgt := 101) (off := 100) hx hb dX12_count_1 (by decide) (by decide) (by decide) (by decide) ?_
    refine lv_aload_n hx hb dX12_count_101 rfl (lv_at hl 0 rfl) ?_
    refine cs_get F St 0 rfl rfl inX12 17 (by decide) kf_X12_276 rfl dX12_count_102 ?_
    exact cs_iret F hr hlk hQ St (f_sum, f_stones) (r := v_taxed) (Or.inr ⟨by decide, rfl⟩) [0, 1, 2, 3, 4, 5, 6, 7, 8, 9, 10, 11, 12, 13, 14, 15, 16] rfl (by decide) [] rfl (by decide) (by decide) dX12_count_105
  by_cases w1_6 : x1 = 6
  ·
    subst w1_6
    refine lv_tableIn (tgt := 106) (off := 105) hx hb dX12_count_1 (by decide) (by decide) (by decide) (by decide) ?_
    refine lv_aload_n hx hb dX12_count_106 rfl (lv_at hl 0 rfl) ?_
    refine cs_get F St 0 rfl rfl inX12 18 (by decide) kf_X12_298 rfl dX12_count_107 ?_
    exact cs_iret F hr hlk hQ St (f_sum, f_stones) (r := v_paidStages) (Or.inr ⟨by decide, rfl⟩) [0, 1, 2, 3, 4, 5, 6, 7, 8, 9, 10, 11, 12, 13, 14, 15, 16] rfl (by decide) [] rfl (by decide) (by decide) dX12_count_110
  by_cases w1_7 : x1 = 7
  ·
    subst w1_7
    refine lv_tableIn (tgt := 111) (off := 110) hx hb dX12_count_1 (by decide) (by decide) (by decide) (by decide) ?_
    refine lv_aload_n hx hb dX12_count_111 rfl (lv_at hl 0 rfl) ?_
    refine cs_get F St 0 rfl rfl inX12 19 (by decide) kf_X12_305 rfl dX12_count_112 ?_
    exact cs_iret F hr hlk hQ St (f_sum, f_stones) (r := v_grown) (Or.inr ⟨by decide, rfl⟩) [0, 1, 2, 3, 4, 5, 6, 7, 8, 9, 10, 11, 12, 13, 14, 15, 16] rfl (by decide) [] rfl (by decide) (by decide) dX12_count_115
  by_cases w1_8 : x1 = 8
  ·
    subst w1_8
    refine lv_tableIn (tgt := 116) (off := 115) hx hb dX12_count_1 (by decide) (by decide) (by decide) (by decide) ?_
    refine lv_aload_n hx hb dX12_count_116 rfl (lv_at hl 0 rfl) ?_
    refine cs_get F St 0 rfl rfl inX12 20 (by decide) kf_X12_237 rfl dX12_count_117 ?_
    exact cs_iret F hr hlk hQ St (f_sum, f_stones) (r := v_pledges) (Or.inr ⟨by decide, rfl⟩) [0, 1, 2, 3, 4, 5, 6, 7, 8, 9, 10, 11, 12, 13, 14, 15, 16] rfl (by decide) [] rfl (by decide) (by decide) dX12_count_120
  by_cases w1_9 : x1 = 9
  ·
    subst w1_9
    refine lv_tableIn (tgt := 121) (off := 120) hx hb dX12_count_1 (by decide) (by decide) (by decide) (by decide) ?_
    refine lv_iconst (v := 0) hx hb dX12_count_121 (by decide) ?_
    refine lv_istore_n (lv' := [(2, .int 0), (0, .ref h), (1, .int 9)]) hx hb dX12_count_122 rfl hl (by decide) rfl (fun ls hl => ?_)
    refine lv_iconst (v := 0) hx hb dX12_count_123 (by decide) ?_
    refine lv_istore_n (lv' := [(3, .int 0), (2, .int 0), (0, .ref h), (1, .int 9)]) hx hb dX12_count_124 rfl hl (by decide) rfl (fun ls hl => ?_)
    have lp125 : ∀ (n : Nat) (kk : Int32) (nn : Int32) (H : Heap) (locs : List Loc) (ls : Array Slot), ((0 ≤ kk.toInt ∧ kk.toInt ≤ v_pledges.toInt) ∧ nn.toInt = sm (fun i => lnT (tP i)) kk.toNatClampNeg) → ((60 - kk.toInt).toNat) < n → cS G k [(cMq a h v_taped v_size v_from v_behind v_hand v_value v_fault v_faultAt v_clock v_coin v_loan v_matched v_taxed v_paidStages v_grown v_pledges v_sums v_stages v_isStopped v_begun), (qarI (a 31) (d 31) 30 f_sum), (qarI (a 32) (d 32) 30 f_stones), (qarI (a 22) (d 22) 250 f_sumGiver), (qarI (a 24) (d 24) 250 f_sumPence), (qarI (a 9) (d 9) 30 f_isNameless), (qarI (a 0) (d 0) 9 f_rule), (qarI (a 10) (d 10) 60 f_giver), (qarI (a 16) (d 16) 60 f_isLapsed), (qarI (a 17) (d 17) 60 f_wasTakenUp), (qarI (a 12) (d 12) 60 f_first), (qarI (a 13) (d 13) 60 f_every), (qarI (a 14) (d 14) 60 f_dues), (qarI (a 18) (d 18) 5040 f_due), (qarI (a 19) (d 19) 5040 f_filled), (qarI (a 20) (d 20) 5040 f_isThere), (qarI (a 21) (d 21) 5040 f_counts)] [((d 31), .int), ((d 32), .int), ((d 22), .int), ((d 24), .int), ((d 9), .boolean), ((d 0), .int), ((d 10), .int), ((d 16), .boolean), ((d 17), .boolean), ((d 12), .int), ((d 13), .int), ((d 14), .int), ((d 18), .int), ((d 19), .int), ((d 20), .boolean), ((d 21), .boolean)] A s H locs → lv_has ls 4 [(3, .int kk), (2, .int nn), (0, .ref h), (1, .int 9)] → W p l e ({ frames := 1, cells := 0, slots := 0, locals := 24 } : Room) s m args below meth c H locs 0 0 Q (F0 m 125 ls []) := by
      intro n
      induction n with
      | zero => intro kk nn H locs ls hI hn; exact absurd hn (Nat.not_lt_zero _)
      | succ n ih =>
        intro kk nn H locs ls hI hn St hl
        obtain ⟨⟨hI0, hI1⟩, hs⟩ := hI
        have nk := nc_int hI0
        have hnb := sm_bd (f := fun i => lnT (tP i)) (c := 1) (n := kk.toNatClampNeg) (fun i_ h_ => ln_bd (hA i_ (by omega)))
        rw [← hs] at hnb
        refine lv_iload_n hx hb dX12_count_125 rfl (lv_at hl 0 rfl) ?_
        refine lv_aload_n hx hb dX12_count_126 rfl (lv_at hl 2 rfl) ?_
        refine cs_get F St 0 rfl rfl inX12 20 (by decide) kf_X12_237 rfl dX12_count_127 ?_
        refine lv_icmp_ge (tgt := 156) hx hb dX12_count_130 (by decide) (fun c130 => ?_) (fun c130 => ?_)
        ·
          have i130 := ci_le (x := v_pledges) (y := kk) rfl rfl c130
          refine lv_iload_n hx hb dX12_count_156 rfl (lv_at hl 1 rfl) ?_
          exact cs_iret F hr hlk hQ St (f_sum, f_stones) (r := nn) (Or.inr ⟨by decide, (sm_at hs (by omega))⟩) [0, 1, 2, 3, 4, 5, 6, 7, 8, 9, 10, 11, 12, 13, 14, 15, 16] rfl (by decide) [] rfl (by decide) (by decide) dX12_count_157
        ·
          have i130 := ci_nle (x := v_pledges) (y := kk) rfl rfl c130
          refine lv_iload_n hx hb dX12_count_133 rfl (lv_at hl 1 rfl) ?_
          refine lv_aload_n hx hb dX12_count_134 rfl (lv_at hl 2 rfl) ?_
          refine cs_get F St 0 rfl rfl inX12 35 (by decide) kf_X12_153 rfl dX12_count_135 ?_
          refine lv_iload_n hx hb dX12_count_138 rfl (lv_at hl 0 rfl) ?_
          refine cs_zld F St 8 7 rfl rfl (vp_in_iff.mpr ⟨by omega, by omega⟩) dX12_count_139 ?_
          refine lv_topi (fun y_4 ey_4 => ?_)
          have gy_4 := congrArg Int32.toInt ey_4
          have hln := mR_ln (hM.1 kk.toNatClampNeg (by omega))
          have hlb := ln_bd (hA kk.toNatClampNeg (by omega))
          refine lv_if_eq (tgt := 147) hx hb dX12_count_140 (by decide) (fun c140 => ?_) (fun c140 => ?_)
          ·
            have i140 := ci_eq (x := y_4) (y := 0) rfl (show (0 : Int32).toInt = 0 by decide) c140
            refine lv_iconst (v := 0) hx hb dX12_count_147 (by decide) ?_
            refine lv_iadd hx hb dX12_count_148 ?_
            refine lv_topi (fun y_5 ey_5 => ?_)
            first | have jy_5 : y_5.toInt = nn.toInt + 0 := (by have q9 := ci_add (x := nn) (y := 0) rfl (show (0 : Int32).toInt = 0 by decide) ey_5; omega) | have jy_5 := ci_add (x := nn) (y := 0) rfl (show (0 : Int32).toInt = 0 by decide) ey_5
            refine lv_istore_n (lv' := [(2, .int y_5), (3, .int kk), (0, .ref h), (1, .int 9)]) hx hb dX12_count_149 rfl hl (by decide) rfl (fun ls hl => ?_)
            obtain ⟨y_6, ey_6⟩ : ∃ zz : Int32, zz = kk + 1 := ⟨_, rfl⟩
            first | have jy_6 : y_6.toInt = kk.toInt + 1 := (by have q9 := ci_add (x := kk) rfl (show (1 : Int32).toInt = 1 by decide) ey_6; omega) | have jy_6 := ci_add (x := kk) rfl (show (1 : Int32).toInt = 1 by decide) ey_6
            refine lv_iinc (v := y_6) (lv' := [(3, .int y_6), (2, .int y_5), (0, .ref h), (1, .int 9)]) hx hb dX12_count_150 hl (k := 1) rfl (by rw [ey_6]; rfl) (by decide) rfl (fun ls hl => ?_)
            refine lv_goto (tgt := 125) hx hb dX12_count_153 (by decide) ?_
            exact ih y_6 y_5 _ _ _ ⟨⟨by omega, by omega⟩, sm_up hI0 hs (by omega) (by show _ = _ + lnT (tP _); omega)⟩ (by omega) St (lv_sub hl [0, 1, 2, 3] rfl)
          ·
            have i140 := ci_ne (x := y_4) (y := 0) rfl (show (0 : Int32).toInt = 0 by decide) c140
            refine lv_iconst (v := 1) hx hb dX12_count_143 (by decide) ?_
            refine lv_goto (tgt := 148) hx hb dX12_count_144 (by decide) ?_
            refine lv_iadd hx hb dX12_count_148 ?_
            refine lv_topi (fun y_7 ey_7 => ?_)
            first | have jy_7 : y_7.toInt = nn.toInt + 1 := (by have q9 := ci_add (x := nn) (y := 1) rfl (show (1 : Int32).toInt = 1 by decide) ey_7; omega) | have jy_7 := ci_add (x := nn) (y := 1) rfl (show (1 : Int32).toInt = 1 by decide) ey_7
            refine lv_istore_n (lv' := [(2, .int y_7), (3, .int kk), (0, .ref h), (1, .int 9)]) hx hb dX12_count_149 rfl hl (by decide) rfl (fun ls hl => ?_)
            obtain ⟨y_8, ey_8⟩ : ∃ zz : Int32, zz = kk + 1 := ⟨_, rfl⟩
            first | have jy_8 : y_8.toInt = kk.toInt + 1 := (by have q9 := ci_add (x := kk) rfl (show (1 : Int32).toInt = 1 by decide) ey_8; omega) | have jy_8 := ci_add (x := kk) rfl (show (1 : Int32).toInt = 1 by decide) ey_8
            refine lv_iinc (v := y_8) (lv' := [(3, .int y_8), (2, .int y_7), (0, .ref h), (1, .int 9)]) hx hb dX12_count_150 hl (k := 1) rfl (by rw [ey_8]; rfl) (by decide) rfl (fun ls hl => ?_)
            refine lv_goto (tgt := 125) hx hb dX12_count_153 (by decide) ?_
            exact ih y_8 y_7 _ _ _ ⟨⟨by omega, by omega⟩, sm_up hI0 hs (by omega) (by show _ = _ + lnT (tP _); omega)⟩ (by omega) St (lv_sub hl [0, 1, 2, 3] rfl)
    exact lp125 61 0 0 _ _ _ ⟨⟨by omega, by omega⟩, by rw [y0]; rfl⟩ (by omega) St (lv_sub hl [0, 1, 2, 3] rfl)
  by_cases w1_10 : x1 = 10
  ·
    subst w1_10
    refine lv_tableIn (tgt := 158) (off := 157) hx hb dX12_count_1 (by decide) (by decide) (by decide) (by decide) ?_
    refine lv_aload_n hx hb dX12_count_158 rfl (lv_at hl 0 rfl) ?_
    refine cs_get F St 0 rfl rfl inX12 22 (by decide) kf_X12_286 rfl dX12_count_159 ?_
    exact cs_iret F hr hlk hQ St (f_sum, f_stones) (r := v_stages) (Or.inr ⟨by decide, rfl⟩) [0, 1, 2, 3, 4, 5, 6, 7, 8, 9, 10, 11, 12, 13, 14, 15, 16] rfl (by decide) [] rfl (by decide) (by decide) dX12_count_162
  by_cases w1_11 : x1 = 11
  ·
    subst w1_11
    refine lv_tableIn (tgt := 163) (off := 162) hx hb dX12_count_1 (by decide) (by decide) (by decide) (by decide) ?_
    refine lv_aload_n hx hb dX12_count_163 rfl (lv_at hl 0 rfl) ?_
    refine cs_get F St 0 rfl rfl inX12 21 (by decide) kf_X12_246 rfl dX12_count_164 ?_
    exact cs_iret F hr hlk hQ St (f_sum, f_stones) (r := v_sums) (Or.inr ⟨by decide, rfl⟩) [0, 1, 2, 3, 4, 5, 6, 7, 8, 9, 10, 11, 12, 13, 14, 15, 16] rfl (by decide) [] rfl (by decide) (by decide) dX12_count_167
  by_cases w1_12 : x1 = 12
  ·
    subst w1_12
    refine lv_tableIn (tgt := 168) (off := 167) hx hb dX12_count_1 (by decide) (by decide) (by decide) (by decide) ?_
    refine lv_aload_n hx hb dX12_count_168 rfl (lv_at hl 0 rfl) ?_
    refine cs_get F St 0 rfl rfl inX12 23 (by decide) kf_X12_224 rfl dX12_count_169 ?_
    refine lv_if_eq (tgt := 179) hx hb dX12_count_172 (by decide) (fun c172 => ?_) (fun c172 => ?_)
    ·
      have i172 := ci_eq (x := v_isStopped) (y := 0) rfl (show (0 : Int32).toInt = 0 by decide) c172
      refine lv_iconst (v := 0) hx hb dX12_count_179 (by decide) ?_
      exact cs_iret F hr hlk hQ St (f_sum, f_stones) (r := 0) (Or.inr ⟨by decide, (show (0 : Int32).toInt = v_isStopped.toInt by omega)⟩) [0, 1, 2, 3, 4, 5, 6, 7, 8, 9, 10, 11, 12, 13, 14, 15, 16] rfl (by decide) [] rfl (by decide) (by decide) dX12_count_180
    ·
      have i172 := ci_ne (x := v_isStopped) (y := 0) rfl (show (0 : Int32).toInt = 0 by decide) c172
      refine lv_iconst (v := 1) hx hb dX12_count_175 (by decide) ?_
      refine lv_goto (tgt := 180) hx hb dX12_count_176 (by decide) ?_
      exact cs_iret F hr hlk hQ St (f_sum, f_stones) (r := 1) (Or.inr ⟨by decide, (show (1 : Int32).toInt = v_isStopped.toInt by omega)⟩) [0, 1, 2, 3, 4, 5, 6, 7, 8, 9, 10, 11, 12, 13, 14, 15, 16] rfl (by decide) [] rfl (by decide) (by decide) dX12_count_180
  by_cases w1_13 : x1 = 13
  ·
    subst w1_13
    refine lv_tableIn (tgt := 181) (off := 180) hx hb dX12_count_1 (by decide) (by decide) (by decide) (by decide) ?_
    refine lv_aload_n hx hb dX12_count_181 rfl (lv_at hl 0 rfl) ?_
    refine cs_get F St 0 rfl rfl inX12 4 (by decide) kf_X12_203 rfl dX12_count_182 ?_
    exact cs_iret F hr hlk hQ St (f_sum, f_stones) (r := v_taped) (Or.inr ⟨by decide, rfl⟩) [0, 1, 2, 3, 4, 5, 6, 7, 8, 9, 10, 11, 12, 13, 14, 15, 16] rfl (by decide) [] rfl (by decide) (by decide) dX12_count_185
  by_cases w1_14 : x1 = 14
  ·
    subst w1_14
    refine lv_tableIn (tgt := 186) (off := 185) hx hb dX12_count_1 (by decide) (by decide) (by decide) (by decide) ?_
    refine lv_aload_n hx hb dX12_count_186 rfl (lv_at hl 0 rfl) ?_
    refine cs_i St [0, 1, 2, 3, 4, 5, 6] [7, 8, 9, 10, 11, 12, 13, 14, 15, 16] (wc := [(cMq a h v_taped v_size v_from v_behind v_hand v_value v_fault v_faultAt v_clock v_coin v_loan v_matched v_taxed v_paidStages v_grown v_pledges v_sums v_stages v_isStopped v_begun), (qarI (a 31) (d 31) 30 f_sum), (qarI (a 32) (d 32) 30 f_stones), (qarI (a 22) (d 22) 250 f_sumGiver), (qarI (a 24) (d 24) 250 f_sumPence), (qarI (a 9) (d 9) 30 f_isNameless), (qarI (a 0) (d 0) 9 f_rule)]) (wr := [(qarI (a 10) (d 10) 60 f_giver), (qarI (a 16) (d 16) 60 f_isLapsed), (qarI (a 17) (d 17) 60 f_wasTakenUp), (qarI (a 12) (d 12) 60 f_first), (qarI (a 13) (d 13) 60 f_every), (qarI (a 14) (d 14) 60 f_dues), (qarI (a 18) (d 18) 5040 f_due), (qarI (a 19) (d 19) 5040 f_filled), (qarI (a 20) (d 20) 5040 f_isThere), (qarI (a 21) (d 21) 5040 f_counts)]) rfl rfl (by decide) (by decide) (va_runV (As := []) (rest := []) F (e12_carve l G k _ h a d v_taped v_size v_from v_behind v_hand v_value v_fault v_faultAt v_clock v_coin v_loan v_matched v_taxed v_paidStages v_grown v_pledges v_sums v_stages v_isStopped v_begun f_sum f_stones f_sumGiver f_sumPence f_isNameless f_rule hSg hSp hF) (cwVt F mf_X12_carve km_X12_314 rfl rfl ⟨Nat.le_of_ble_eq_true rfl, Nat.le_of_ble_eq_true rfl⟩) (cs_preV St [0, 1, 2, 3, 4, 5, 6] rfl (by decide) [0, 1, 2, 3, 4, 5] rfl (ci := 12) (q0 := 0) rfl rfl) rfl rfl hl.1 rfl (lv_room (Nat.le_of_ble_eq_true rfl)) dX12_count_187 ⟨Nat.le_of_ble_eq_true rfl, Nat.le_of_ble_eq_true rfl⟩) (fun r_9 u_10 H locs hw St => ?_)
    obtain ⟨g_sum_11, g_stones_12⟩ := u_10
    try dsimp only at hw
    obtain ⟨hr_13, hr30_14⟩ := hw
    have St : cS G k [(qarI (a 10) (d 10) 60 f_giver), (qarI (a 16) (d 16) 60 f_isLapsed), (qarI (a 17) (d 17) 60 f_wasTakenUp), (qarI (a 12) (d 12) 60 f_first), (qarI (a 13) (d 13) 60 f_every), (qarI (a 14) (d 14) 60 f_dues), (qarI (a 18) (d 18) 5040 f_due), (qarI (a 19) (d 19) 5040 f_filled), (qarI (a 20) (d 20) 5040 f_isThere), (qarI (a 21) (d 21) 5040 f_counts), (cMq a h v_taped v_size v_from v_behind v_hand v_value v_fault v_faultAt v_clock v_coin v_loan v_matched v_taxed v_paidStages v_grown v_pledges v_sums v_stages v_isStopped v_begun), (qarI (a 31) (d 31) 30 g_sum_11), (qarI (a 32) (d 32) 30 g_stones_12), (qarI (a 22) (d 22) 250 f_sumGiver), (qarI (a 24) (d 24) 250 f_sumPence), (qarI (a 9) (d 9) 30 f_isNameless), (qarI (a 0) (d 0) 9 f_rule)] [((d 31), .int), ((d 32), .int), ((d 22), .int), ((d 24), .int), ((d 9), .boolean), ((d 0), .int), ((d 10), .int), ((d 16), .boolean), ((d 17), .boolean), ((d 12), .int), ((d 13), .int), ((d 14), .int), ((d 18), .int), ((d 19), .int), ((d 20), .boolean), ((d 21), .boolean)] A s H locs := St
    exact cs_iret F hr hlk hQ St (g_sum_11, g_stones_12) (r := r_9) (Or.inr ⟨by decide, hr_13.1⟩) [10, 11, 12, 13, 14, 15, 16, 0, 1, 2, 3, 4, 5, 6, 7, 8, 9] rfl (by decide) [] rfl (by decide) (by decide) dX12_count_190
  have iw1_0 := lv_neT w1_0 (show (0 : Int32).toInt = 0 by decide)
  have iw1_1 := lv_neT w1_1 (show (1 : Int32).toInt = 1 by decide)
  have iw1_2 := lv_neT w1_2 (show (2 : Int32).toInt = 2 by decide)
  have iw1_3 := lv_neT w1_3 (show (3 : Int32).toInt = 3 by decide)
  have iw1_4 := lv_neT w1_4 (show (4 : Int32).toInt = 4 by decide)
  have iw1_5 := lv_neT w1_5 (show (5 : Int32).toInt = 5 by decide)
  have iw1_6 := lv_neT w1_6 (show (6 : Int32).toInt = 6 by decide)
  have iw1_7 := lv_neT w1_7 (show (7 : Int32).toInt = 7 by decide)
  have iw1_8 := lv_neT w1_8 (show (8 : Int32).toInt = 8 by decide)
  have iw1_9 := lv_neT w1_9 (show (9 : Int32).toInt = 9 by decide)
  have iw1_10 := lv_neT w1_10 (show (10 : Int32).toInt = 10 by decide)
  have iw1_11 := lv_neT w1_11 (show (11 : Int32).toInt = 11 by decide)
  have iw1_12 := lv_neT w1_12 (show (12 : Int32).toInt = 12 by decide)
  have iw1_13 := lv_neT w1_13 (show (13 : Int32).toInt = 13 by decide)
  have iw1_14 := lv_neT w1_14 (show (14 : Int32).toInt = 14 by decide)
  refine lv_tableOut (tgt := 191) hx hb dX12_count_1 (by omega) (by decide) ?_
  refine lv_iconst (v := (-1)) hx hb dX12_count_191 (by decide) ?_
  exact cs_iret F hr hlk hQ St (f_sum, f_stones) (r := (-1)) (Or.inl ⟨by omega, rfl⟩) [0, 1, 2, 3, 4, 5, 6, 7, 8, 9, 10, 11, 12, 13, 14, 15, 16] rfl (by decide) [] rfl (by decide) (by decide) dX12_count_192
set_option maxHeartbeats 4000000 in
set_option maxRecDepth 100000 in
theorem e12_sure (l : Launch) (G : va_G) (k : Nat → Nat) (sz : Nat) (h : Nat) (a : Nat → Nat) (d : Nat → ClassId) (v_taped : Int32) (v_size : Int32) (v_from : Int32) (v_behind : Int32) (v_hand : Int32) (v_value : Int32) (v_fault : Int32) (v_faultAt : Int32) (v_clock : Int32) (v_coin : Int32) (v_loan : Int32) (v_matched : Int32) (v_taxed : Int32) (v_paidStages : Int32) (v_grown : Int32) (v_pledges : Int32) (v_sums : Int32) (v_stages : Int32) (v_isStopped : Int32) (v_begun : Int32) (f_giver : Nat → Int32) (f_isLapsed : Nat → Int32) (f_wasTakenUp : Nat → Int32) (f_first : Nat → Int32) (f_every : Nat → Int32) (f_dues : Nat → Int32) (f_due : Nat → Int32) (f_filled : Nat → Int32) (f_isThere : Nat → Int32) (f_counts : Nat → Int32) (x1 : Int32) (hPd : mPd v_pledges f_dues) (hc0 : 0 ≤ v_clock.toInt) (hc1 : v_clock.toInt ≤ 119) (tP : Nat → Pl9) (hM : mR v_pledges (tP) f_giver f_isLapsed f_wasTakenUp f_first f_every f_dues f_due f_filled f_isThere f_counts) (hA : wfA v_pledges v_clock.toInt tP) : Met l yX12_sure (Cond.code yX12_sure cX12_sure 12 (some .int) :: tb) ({ frames := 1, cells := 0, slots := 0, locals := 25 } : Room) (va_Pc [.ref h, .int x1] (cP G k [(cMq a h v_taped v_size v_from v_behind v_hand v_value v_fault v_faultAt v_clock v_coin v_loan v_matched v_taxed v_paidStages v_grown v_pledges v_sums v_stages v_isStopped v_begun), (qarI (a 10) (d 10) 60 f_giver), (qarI (a 16) (d 16) 60 f_isLapsed), (qarI (a 17) (d 17) 60 f_wasTakenUp), (qarI (a 12) (d 12) 60 f_first), (qarI (a 13) (d 13) 60 f_every), (qarI (a 14) (d 14) 60 f_dues), (qarI (a 18) (d 18) 5040 f_due), (qarI (a 19) (d 19) 5040 f_filled), (qarI (a 20) (d 20) 5040 f_isThere), (qarI (a 21) (d 21) 5040 f_counts)] [((d 10), .int), ((d 16), .boolean), ((d 17), .boolean), ((d 12), .int), ((d 13), .int), ((d 14), .int), ((d 18), .int), ((d 19), .int), ((d 20), .boolean), ((d 21), .boolean)] sz)) (va_Qi (fun (r : Int32) (_ : Unit) => (Rsur v_pledges v_clock.toInt x1 tP r)) (cB G (fun (_ : Unit) => [(cMq a h v_taped v_size v_from v_behind v_hand v_value v_fault v_faultAt v_clock v_coin v_loan v_matched v_taxed v_paidStages v_grown v_pledges v_sums v_stages v_isStopped v_begun), (qarI (a 10) (d 10) 60 f_giver), (qarI (a 16) (d 16) 60 f_isLapsed), (qarI (a 17) (d 17) 60 f_wasTakenUp), (qarI (a 12) (d 12) 60 f_first), (qarI (a 13) (d 13) 60 f_every), (qarI (a 14) (d 14) 60 f_dues), (qarI (a 18) (d 18) 5040 f_due), (qarI (a 19) (d 19) 5040 f_filled), (qarI (a 20) (d 20) 5040 f_isThere), (qarI (a 21) (d 21) 5040 f_counts)]) (fun (_ : Unit) => []) (va_A [(cMq a h v_taped v_size v_from v_behind v_hand v_value v_fault v_faultAt v_clock v_coin v_loan v_matched v_taxed v_paidStages v_grown v_pledges v_sums v_stages v_isStopped v_begun), (qarI (a 10) (d 10) 60 f_giver), (qarI (a 16) (d 16) 60 f_isLapsed), (qarI (a 17) (d 17) 60 f_wasTakenUp), (qarI (a 12) (d 12) 60 f_first), (qarI (a 13) (d 13) 60 f_every), (qarI (a 14) (d 14) 60 f_dues), (qarI (a 18) (d 18) 5040 f_due), (qarI (a 19) (d 19) 5040 f_filled), (qarI (a 20) (d 20) 5040 f_isThere), (qarI (a 21) (d 21) 5040 f_counts)] sz)) (va_A [(cMq a h v_taped v_size v_from v_behind v_hand v_value v_fault v_faultAt v_clock v_coin v_loan v_matched v_taxed v_paidStages v_grown v_pledges v_sums v_stages v_isStopped v_begun), (qarI (a 10) (d 10) 60 f_giver), (qarI (a 16) (d 16) 60 f_isLapsed), (qarI (a 17) (d 17) 60 f_wasTakenUp), (qarI (a 12) (d 12) 60 f_first), (qarI (a 13) (d 13) 60 f_every), (qarI (a 14) (d 14) 60 f_dues), (qarI (a 18) (d 18) 5040 f_due), (qarI (a 19) (d 19) 5040 f_filled), (qarI (a 20) (d 20) 5040 f_isThere), (qarI (a 21) (d 21) 5040 f_counts)] sz)) 0 0 (va_A [(cMq a h v_taped v_size v_from v_behind v_hand v_value v_fault v_faultAt v_clock v_coin v_loan v_matched v_taxed v_paidStages v_grown v_pledges v_sums v_stages v_isStopped v_begun), (qarI (a 10) (d 10) 60 f_giver), (qarI (a 16) (d 16) 60 f_isLapsed), (qarI (a 17) (d 17) 60 f_wasTakenUp), (qarI (a 12) (d 12) 60 f_first), (qarI (a 13) (d 13) 60 f_every), (qarI (a 14) (d 14) 60 f_dues), (qarI (a 18) (d 18) 5040 f_due), (qarI (a 19) (d 19) 5040 f_filled), (qarI (a 20) (d 20) 5040 f_isThere), (qarI (a 21) (d 21) 5040 f_counts)] sz) := by
  refine ofC_i (cc := cX12_sure) (maxL := 12) (ret := (some .int)) (by decide) rfl (Nat.le_of_ble_eq_true rfl) ?_
  intro p e s m args below meth c A ls Q F hr hin hlk St hl hQ
  have hx := F.1
  have hb := F.2.1
  have hl : lv_has ls 12 [(0, .ref h), (1, .int x1)] := hl
  have St : cS G k [(cMq a h v_taped v_size v_from v_behind v_hand v_value v_fault v_faultAt v_clock v_coin v_loan v_matched v_taxed v_paidStages v_grown v_pledges v_sums v_stages v_isStopped v_begun), (qarI (a 10) (d 10) 60 f_giver), (qarI (a 16) (d 16) 60 f_isLapsed), (qarI (a 17) (d 17) 60 f_wasTakenUp), (qarI (a 12) (d 12) 60 f_first), (qarI (a 13) (d 13) 60 f_every), (qarI (a 14) (d 14) 60 f_dues), (qarI (a 18) (d 18) 5040 f_due), (qarI (a 19) (d 19) 5040 f_filled), (qarI (a 20) (d 20) 5040 f_isThere), (qarI (a 21) (d 21) 5040 f_counts)] [((d 10), .int), ((d 16), .boolean), ((d 17), .boolean), ((d 12), .int), ((d 13), .int), ((d 14), .int), ((d 18), .int), ((d 19), .int), ((d 20), .boolean), ((d 21), .boolean)] A s s.heap [] := St
  have hpd := hPd.1
  have y0 : (0 : Int32).toInt = 0 := by decide
  have hn5 := nc_int (x := v_pledges) (by omega)
  have hA9 : ∀ i_, i_ < v_pledges.toNatClampNeg → wfT v_clock.toInt (tP i_) := fun i_ h_ => hA i_ (by omega)
  refine lv_iload_n hx hb dX12_sure_0 rfl (lv_at hl 1 rfl) ?_
  refine lv_i2l (v := x1.toInt64) hx hb dX12_sure_1 rfl ?_
  refine lv_lconst (v := 1) hx hb dX12_sure_2 (by decide) ?_
  refine lv_ldc2 (v := 84) hx hb F.2.2.2.1 (F.2.2.2.2 _ kk_X12_235) dX12_sure_3 ?_
  refine cs_i St [] [0, 1, 2, 3, 4, 5, 6, 7, 8, 9, 10] (wc := []) (wr := [(cMq a h v_taped v_size v_from v_behind v_hand v_value v_fault v_faultAt v_clock v_coin v_loan v_matched v_taxed v_paidStages v_grown v_pledges v_sums v_stages v_isStopped v_begun), (qarI (a 10) (d 10) 60 f_giver), (qarI (a 16) (d 16) 60 f_isLapsed), (qarI (a 17) (d 17) 60 f_wasTakenUp), (qarI (a 12) (d 12) 60 f_first), (qarI (a 13) (d 13) 60 f_every), (qarI (a 14) (d 14) 60 f_dues), (qarI (a 18) (d 18) 5040 f_due), (qarI (a 19) (d 19) 5040 f_filled), (qarI (a 20) (d 20) 5040 f_isThere), (qarI (a 21) (d 21) 5040 f_counts)]) rfl rfl (by decide) (by decide) (va_runS (As := [.long x1.toInt64, .long 1, .long 84]) (rest := []) F (c12_in l G k _ x1.toInt64 1 84 x1.toInt 1 84 (Int32.toInt_toInt64 x1) (by decide) (by decide)) (cwSt F mf_X12_in km_X12_58 rfl rfl ⟨Nat.le_of_ble_eq_true rfl, Nat.le_of_ble_eq_true rfl⟩) (cs_pre St [] rfl (by decide) [] rfl) rfl rfl hl.1 rfl (lv_room (Nat.le_of_ble_eq_true rfl)) dX12_sure_6 ⟨Nat.le_of_ble_eq_true rfl, Nat.le_of_ble_eq_true rfl⟩) (fun r_1 u_2 H locs hw St => ?_)
  try dsimp only at hw
  rcases hw with ⟨z_3, hf_4⟩ | ⟨z_5, hf_6⟩
  ·
    subst r_1
    have St : cS G k [(cMq a h v_taped v_size v_from v_behind v_hand v_value v_fault v_faultAt v_clock v_coin v_loan v_matched v_taxed v_paidStages v_grown v_pledges v_sums v_stages v_isStopped v_begun), (qarI (a 10) (d 10) 60 f_giver), (qarI (a 16) (d 16) 60 f_isLapsed), (qarI (a 17) (d 17) 60 f_wasTakenUp), (qarI (a 12) (d 12) 60 f_first), (qarI (a 13) (d 13) 60 f_every), (qarI (a 14) (d 14) 60 f_dues), (qarI (a 18) (d 18) 5040 f_due), (qarI (a 19) (d 19) 5040 f_filled), (qarI (a 20) (d 20) 5040 f_isThere), (qarI (a 21) (d 21) 5040 f_counts)] [((d 10), .int), ((d 16), .boolean), ((d 17), .boolean), ((d 12), .int), ((d 13), .int), ((d 14), .int), ((d 18), .int), ((d 19), .int), ((d 20), .boolean), ((d 21), .boolean)] A s H locs := St
    refine lv_if_ne (tgt := 15) hx hb dX12_sure_9 (by decide) (fun c9 => ?_) (fun c9 => ?_)
    rotate_left
    · exact absurd c9 (by decide)
    refine lv_lconst (v := 0) hx hb dX12_sure_15 (by decide) ?_
    refine lv_lstore_n (lv' := [(2, .long 0), (0, .ref h), (1, .int x1)]) hx hb dX12_sure_16 rfl hl (by decide) rfl (fun ls hl => ?_)
    refine lv_lconst (v := 0) hx hb dX12_sure_17 (by decide) ?_
    refine lv_lstore (lv' := [(4, .long 0), (2, .long 0), (0, .ref h), (1, .int x1)]) hx hb dX12_sure_18 hl (by decide) rfl (fun ls hl => ?_)
    refine lv_lconst (v := 0) hx hb dX12_sure_20 (by decide) ?_
    refine lv_lstore (lv' := [(6, .long 0), (4, .long 0), (2, .long 0), (0, .ref h), (1, .int x1)]) hx hb dX12_sure_21 hl (by decide) rfl (fun ls hl => ?_)
    refine lv_iconst (v := 0) hx hb dX12_sure_23 (by decide) ?_
    refine lv_istore (lv' := [(8, .int 0), (6, .long 0), (4, .long 0), (2, .long 0), (0, .ref h), (1, .int x1)]) hx hb dX12_sure_24 hl (by decide) rfl (fun ls hl => ?_)
    have lp26 : ∀ (n : Nat) (pp : Int32) (nx : Int64) (bs : Int64) (cm : Int64) (H : Heap) (locs : List Loc) (ls : Array Slot), ((0 ≤ pp.toInt ∧ pp.toInt ≤ v_pledges.toInt) ∧ nx.toInt = sm (fun i => wiT (v_clock.toInt + 1) (v_clock.toInt + x1.toInt) (tP i)) pp.toNatClampNeg ∧ bs.toInt = sm (fun i => duT v_clock.toInt (tP i)) pp.toNatClampNeg ∧ cm.toInt = sm (fun i => flT v_clock.toInt (tP i)) pp.toNatClampNeg) → ((60 - pp.toInt).toNat) < n → cS G k [(cMq a h v_taped v_size v_from v_behind v_hand v_value v_fault v_faultAt v_clock v_coin v_loan v_matched v_taxed v_paidStages v_grown v_pledges v_sums v_stages v_isStopped v_begun), (qarI (a 10) (d 10) 60 f_giver), (qarI (a 16) (d 16) 60 f_isLapsed), (qarI (a 17) (d 17) 60 f_wasTakenUp), (qarI (a 12) (d 12) 60 f_first), (qarI (a 13) (d 13) 60 f_every), (qarI (a 14) (d 14) 60 f_dues), (qarI (a 18) (d 18) 5040 f_due), (qarI (a 19) (d 19) 5040 f_filled), (qarI (a 20) (d 20) 5040 f_isThere), (qarI (a 21) (d 21) 5040 f_counts)] [((d 10), .int), ((d 16), .boolean), ((d 17), .boolean), ((d 12), .int), ((d 13), .int), ((d 14), .int), ((d 18), .int), ((d 19), .int), ((d 20), .boolean), ((d 21), .boolean)] A s H locs → lv_has ls 12 [(8, .int pp), (6, .long cm), (4, .long bs), (2, .long nx), (0, .ref h), (1, .int x1)] → W p l e ({ frames := 1, cells := 0, slots := 0, locals := 25 } : Room) s m args below meth c H locs 0 0 Q (F0 m 26 ls []) := by
      intro n
      induction n with
      | zero => intro pp nx bs cm H locs ls hI hn; exact absurd hn (Nat.not_lt_zero _)
      | succ n ih =>
        intro pp nx bs cm H locs ls hI hn St hl
        obtain ⟨⟨hI0, hI1⟩, hs1, hs2, hs3⟩ := hI
        have nk := nc_int hI0
        have hb0 := su_bd (f := wiT (v_clock.toInt + 1) (v_clock.toInt + x1.toInt)) (n := v_pledges.toNatClampNeg) (k := pp.toNatClampNeg) hA9 (fun T_ h_ => wi_bd h_) (by omega)
        have hb1 := su_bd (f := duT v_clock.toInt) (n := v_pledges.toNatClampNeg) (k := pp.toNatClampNeg) hA9 (fun T_ h_ => du_bd h_) (by omega)
        have hb2 := su_bd (f := flT v_clock.toInt) (n := v_pledges.toNatClampNeg) (k := pp.toNatClampNeg) hA9 (fun T_ h_ => fl_bd h_) (by omega)
        rw [← hs1] at hb0
        rw [← hs2] at hb1
        rw [← hs3] at hb2
        refine lv_iload hx hb dX12_sure_26 (lv_at hl 0 rfl) ?_
        refine lv_aload_n hx hb dX12_sure_28 rfl (lv_at hl 4 rfl) ?_
        refine cs_get F St 0 rfl rfl inX12 20 (by decide) kf_X12_237 rfl dX12_sure_29 ?_
        refine lv_icmp_ge (tgt := 182) hx hb dX12_sure_32 (by decide) (fun c32 => ?_) (fun c32 => ?_)
        ·
          have i32 := ci_le (x := v_pledges) (y := pp) rfl rfl c32
          refine lv_lload hx hb dX12_sure_182 (lv_at hl 2 rfl) ?_
          refine lv_lconst (v := 0) hx hb dX12_sure_184 (by decide) ?_
          refine W.lcmp hx hb dX12_sure_185 ?_
          refine lv_if_ne (tgt := 193) hx hb dX12_sure_186 (by decide) (fun c186 => ?_) (fun c186 => ?_)
          ·
            have i186 := cl_ne (x := bs) (y := 0) (u := bs.toInt) (v := 0) rfl (by decide) (fun q => c186 ((lg_cmp_eq _ _).mpr q))
            refine lv_lload_n hx hb dX12_sure_193 rfl (lv_at hl 3 rfl) ?_
            refine lv_lload hx hb dX12_sure_194 (lv_at hl 1 rfl) ?_
            refine lv_lmul hx hb dX12_sure_196 ?_
            refine lv_topl (fun y_7 ey_7 => ?_)
            obtain ⟨jm1, jm2, jm3⟩ := cl_mulb (u := nx.toInt) (v := cm.toInt) (A := 504000000) (B := 504000000) rfl rfl ey_7 (by omega) (by omega) (by omega) (by omega) (by decide)
            refine lv_lload hx hb dX12_sure_197 (lv_at hl 2 rfl) ?_
            refine lv_ldiv hx hb dX12_sure_199 (ne0_l i186) ?_
            refine lv_topl (fun y_8 ey_8 => ?_)
            have jd := cl_div (u := nx.toInt * cm.toInt) (v := bs.toInt) jm1 rfl ey_8 jm2 (by omega)
            refine lv_l2i (v := y_8.toInt32) hx hb dX12_sure_200 rfl ?_
            have hkn : pp.toNatClampNeg = v_pledges.toNatClampNeg := by omega
            rw [hkn] at hs1 hs2 hs3
            exact cs_iret F hr hlk hQ St () (r := y_8.toInt32) (Or.inr ⟨by omega, su_of (fun z_ => absurd (hs2.trans z_) (by omega)) (by rw [jd, hs1, hs2, hs3]; rfl)⟩) [0, 1, 2, 3, 4, 5, 6, 7, 8, 9, 10] rfl (by decide) [] rfl (by decide) (by decide) dX12_sure_201
          ·
            have i186 := cl_eq (x := bs) (y := 0) (u := bs.toInt) (v := 0) rfl (by decide) ((lg_cmp_eq _ _).mp c186)
            refine lv_iconst (v := 0) hx hb dX12_sure_189 (by decide) ?_
            refine lv_goto (tgt := 201) hx hb dX12_sure_190 (by decide) ?_
            have hkn : pp.toNatClampNeg = v_pledges.toNatClampNeg := by omega
            rw [hkn] at hs1 hs2 hs3
            exact cs_iret F hr hlk hQ St () (r := 0) (Or.inr ⟨by omega, su_0 (hs2.symm.trans (by omega))⟩) [0, 1, 2, 3, 4, 5, 6, 7, 8, 9, 10] rfl (by decide) [] rfl (by decide) (by decide) dX12_sure_201
        ·
          have i32 := ci_nle (x := v_pledges) (y := pp) rfl rfl c32
          have hix : (pp.toNatClampNeg : Int) < v_pledges.toInt := by omega
          have hm9 := hM.1 _ hix
          have hw9 := hA _ hix
          obtain ⟨T9, eT9⟩ : ∃ z, z = tP pp.toNatClampNeg := ⟨_, rfl⟩
          rw [← eT9] at hm9 hw9
          obtain ⟨Nn, pg, pf, pe, pl, pk, wD, wF, wS⟩ := T9
          have hR := hm9.2
          have hW := hw9.2.1
          have hdd := hR.1.2.2
          have hpf := hW.1
          refine lv_iconst (v := 0) hx hb dX12_sure_35 (by decide) ?_
          refine lv_istore (lv' := [(9, .int 0), (8, .int pp), (6, .long cm), (4, .long bs), (2, .long nx), (0, .ref h), (1, .int x1)]) hx hb dX12_sure_36 hl (by decide) rfl (fun ls hl => ?_)
          have lp38 : ∀ (n : Nat) (kk : Int32) (nx2 : Int64) (bs2 : Int64) (cm2 : Int64) (H : Heap) (locs : List Loc) (ls : Array Slot), ((0 ≤ kk.toInt ∧ kk.toInt ≤ (f_dues pp.toNatClampNeg).toInt) ∧ nx2.toInt = nx.toInt + sm (tz Nn (tW pf pe wD wF wS (v_clock.toInt + 1) (v_clock.toInt + x1.toInt))) kk.toNatClampNeg ∧ bs2.toInt = bs.toInt + sm (tz Nn (tU pf pe wD wS v_clock.toInt)) kk.toNatClampNeg ∧ cm2.toInt = cm.toInt + sm (tz Nn (tU pf pe wF wS v_clock.toInt)) kk.toNatClampNeg) → ((85 - kk.toInt).toNat) < n → cS G k [(cMq a h v_taped v_size v_from v_behind v_hand v_value v_fault v_faultAt v_clock v_coin v_loan v_matched v_taxed v_paidStages v_grown v_pledges v_sums v_stages v_isStopped v_begun), (qarI (a 10) (d 10) 60 f_giver), (qarI (a 16) (d 16) 60 f_isLapsed), (qarI (a 17) (d 17) 60 f_wasTakenUp), (qarI (a 12) (d 12) 60 f_first), (qarI (a 13) (d 13) 60 f_every), (qarI (a 14) (d 14) 60 f_dues), (qarI (a 18) (d 18) 5040 f_due), (qarI (a 19) (d 19) 5040 f_filled), (qarI (a 20) (d 20) 5040 f_isThere), (qarI (a 21) (d 21) 5040 f_counts)] [((d 10), .int), ((d 16), .boolean), ((d 17), .boolean), ((d 12), .int), ((d 13), .int), ((d 14), .int), ((d 18), .int), ((d 19), .int), ((d 20), .boolean), ((d 21), .boolean)] A s H locs → lv_has ls 12 [(9, .int kk), (8, .int pp), (6, .long cm2), (4, .long bs2), (2, .long nx2), (0, .ref h), (1, .int x1)] → W p l e ({ frames := 1, cells := 0, slots := 0, locals := 25 } : Room) s m args below meth c H locs 0 0 Q (F0 m 38 ls []) := by
            intro n
            induction n with
            | zero => intro kk nx2 bs2 cm2 H locs ls hI hn; exact absurd hn (Nat.not_lt_zero _)
            | succ n ih38 =>
              intro kk nx2 bs2 cm2 H locs ls hI hn St hl
              obtain ⟨⟨hK0, hK1⟩, hJ1, hJ2, hJ3⟩ := hI
              have nkk := nc_int hK0
              have hc0 := sm_bd (f := tz Nn (tW pf pe wD wF wS (v_clock.toInt + 1) (v_clock.toInt + x1.toInt))) (c := 100000) (n := kk.toNatClampNeg) (fun k_ _ => tz_bd (by omega) (fun k2 h2 => by have hq := (hW.2 k2 h2).1; unfold tW; split <;> omega) k_)
              have hc1 := sm_bd (f := tz Nn (tU pf pe wD wS v_clock.toInt)) (c := 100000) (n := kk.toNatClampNeg) (fun k_ _ => tz_bd (by omega) (fun k2 h2 => by have hq := (hW.2 k2 h2).1; unfold tU; split <;> omega) k_)
              have hc2 := sm_bd (f := tz Nn (tU pf pe wF wS v_clock.toInt)) (c := 100000) (n := kk.toNatClampNeg) (fun k_ _ => tz_bd (by omega) (fun k2 h2 => by have hq := (hW.2 k2 h2).1; unfold tU; split <;> omega) k_)
              refine lv_iload hx hb dX12_sure_38 (lv_at hl 0 rfl) ?_
              refine lv_aload_n hx hb dX12_sure_40 rfl (lv_at hl 5 rfl) ?_
              refine cs_get F St 0 rfl rfl inX12 33 (by decide) kf_X12_147 rfl dX12_sure_41 ?_
              refine lv_iload hx hb dX12_sure_44 (lv_at hl 1 rfl) ?_
              refine cs_ild F St 6 5 rfl rfl (vp_in_iff.mpr ⟨by omega, by omega⟩) dX12_sure_46 ?_
              refine lv_topi (fun y_9 ey_9 => ?_)
              have gy_9 := congrArg Int32.toInt ey_9
              have hdy_9 := mPd_d hPd (by omega) (by omega) ey_9
              refine lv_icmp_ge (tgt := 176) hx hb dX12_sure_47 (by decide) (fun c47 => ?_) (fun c47 => ?_)
              ·
                have i47 := ci_le (x := y_9) (y := kk) rfl rfl c47
                obtain ⟨y_10, ey_10⟩ : ∃ zz : Int32, zz = pp + 1 := ⟨_, rfl⟩
                first | have jy_10 : y_10.toInt = pp.toInt + 1 := (by have q9 := ci_add (x := pp) rfl (show (1 : Int32).toInt = 1 by decide) ey_10; omega) | have jy_10 := ci_add (x := pp) rfl (show (1 : Int32).toInt = 1 by decide) ey_10
                refine lv_iinc (v := y_10) (lv' := [(8, .int y_10), (9, .int kk), (6, .long cm2), (4, .long bs2), (2, .long nx2), (0, .ref h), (1, .int x1)]) hx hb dX12_sure_176 hl (k := 1) rfl (by rw [ey_10]; rfl) (by decide) rfl (fun ls hl => ?_)
                refine lv_goto (tgt := 26) hx hb dX12_sure_179 (by decide) ?_
                exact ih y_10 nx2 bs2 cm2 _ _ _ ⟨⟨by omega, by omega⟩, sm_upL hI0 hs1 (by omega) (by show _ = _ + wiT (v_clock.toInt + 1) (v_clock.toInt + x1.toInt) (tP _); rw [← eT9]; show _ = _ + sm _ _; rw [← sm_tz (N := Nn) (m := kk.toNatClampNeg) (by omega)]; exact hJ1), sm_upL hI0 hs2 (by omega) (by show _ = _ + duT v_clock.toInt (tP _); rw [← eT9]; show _ = _ + sm _ _; rw [← sm_tz (N := Nn) (m := kk.toNatClampNeg) (by omega)]; exact hJ2), sm_upL hI0 hs3 (by omega) (by show _ = _ + flT v_clock.toInt (tP _); rw [← eT9]; show _ = _ + sm _ _; rw [← sm_tz (N := Nn) (m := kk.toNatClampNeg) (by omega)]; exact hJ3)⟩ (by omega) St (lv_sub hl [0, 2, 3, 4, 5, 6] rfl)
              ·
                have i47 := ci_nle (x := y_9) (y := kk) rfl rfl c47
                refine lv_bipush (v := 84) hx hb dX12_sure_50 (by decide) ?_
                refine lv_iload hx hb dX12_sure_52 (lv_at hl 1 rfl) ?_
                refine lv_imul hx hb dX12_sure_54 ?_
                refine lv_topi (fun y_11 ey_11 => ?_)
                first | have jy_11 : y_11.toInt = 84 * pp.toInt := (by have q9 := ci_mul (x := 84) (y := pp) (show (84 : Int32).toInt = 84 by decide) rfl ey_11; omega) | have jy_11 := ci_mul (x := 84) (y := pp) (show (84 : Int32).toInt = 84 by decide) rfl ey_11
                refine lv_iload hx hb dX12_sure_55 (lv_at hl 0 rfl) ?_
                refine lv_iadd hx hb dX12_sure_57 ?_
                refine lv_topi (fun y_12 ey_12 => ?_)
                first | have jy_12 : y_12.toInt = y_11.toInt + kk.toInt := (by have q9 := ci_add (x := y_11) (y := kk) rfl rfl ey_12; omega) | have jy_12 := ci_add (x := y_11) (y := kk) rfl rfl ey_12
                refine lv_istore (lv' := [(10, .int y_12), (9, .int kk), (8, .int pp), (6, .long cm2), (4, .long bs2), (2, .long nx2), (0, .ref h), (1, .int x1)]) hx hb dX12_sure_58 hl (by decide) rfl (fun ls hl => ?_)
                refine lv_aload_n hx hb dX12_sure_60 rfl (lv_at hl 6 rfl) ?_
                refine lv_iload hx hb dX12_sure_61 (lv_at hl 2 rfl) ?_
                refine lv_iload hx hb dX12_sure_63 (lv_at hl 1 rfl) ?_
                refine cs_i St [0, 4, 5] [1, 2, 3, 6, 7, 8, 9, 10] (wc := [(cMq a h v_taped v_size v_from v_behind v_hand v_value v_fault v_faultAt v_clock v_coin v_loan v_matched v_taxed v_paidStages v_grown v_pledges v_sums v_stages v_isStopped v_begun), (qarI (a 12) (d 12) 60 f_first), (qarI (a 13) (d 13) 60 f_every)]) (wr := [(qarI (a 10) (d 10) 60 f_giver), (qarI (a 16) (d 16) 60 f_isLapsed), (qarI (a 17) (d 17) 60 f_wasTakenUp), (qarI (a 14) (d 14) 60 f_dues), (qarI (a 18) (d 18) 5040 f_due), (qarI (a 19) (d 19) 5040 f_filled), (qarI (a 20) (d 20) 5040 f_isThere), (qarI (a 21) (d 21) 5040 f_counts)]) rfl rfl (by decide) (by decide) (va_runV (As := [.int pp, .int kk]) (rest := []) F (e12_monthOf l G k _ h a d v_taped v_size v_from v_behind v_hand v_value v_fault v_faultAt v_clock v_coin v_loan v_matched v_taxed v_paidStages v_grown v_pledges v_sums v_stages v_isStopped v_begun f_first f_every pp kk pf pe (by omega) (by omega) (by omega) (by omega) (⟨hR.1.1, hR.1.2.1, hW.1⟩)) (cwVt F mf_X12_monthOf km_X12_240 rfl rfl ⟨Nat.le_of_ble_eq_true rfl, Nat.le_of_ble_eq_true rfl⟩) (cs_preV St [0, 4, 5] rfl (by decide) [3, 4] rfl (ci := 12) (q0 := 0) rfl rfl) rfl rfl hl.1 rfl (lv_room (Nat.le_of_ble_eq_true rfl)) dX12_sure_65 ⟨Nat.le_of_ble_eq_true rfl, Nat.le_of_ble_eq_true rfl⟩) (fun r_13 u_14 H locs hw St => ?_)
                try dsimp only at hw
                have hm_15 := hw
                have St : cS G k [(qarI (a 10) (d 10) 60 f_giver), (qarI (a 16) (d 16) 60 f_isLapsed), (qarI (a 17) (d 17) 60 f_wasTakenUp), (qarI (a 14) (d 14) 60 f_dues), (qarI (a 18) (d 18) 5040 f_due), (qarI (a 19) (d 19) 5040 f_filled), (qarI (a 20) (d 20) 5040 f_isThere), (qarI (a 21) (d 21) 5040 f_counts), (cMq a h v_taped v_size v_from v_behind v_hand v_value v_fault v_faultAt v_clock v_coin v_loan v_matched v_taxed v_paidStages v_grown v_pledges v_sums v_stages v_isStopped v_begun), (qarI (a 12) (d 12) 60 f_first), (qarI (a 13) (d 13) 60 f_every)] [((d 10), .int), ((d 16), .boolean), ((d 17), .boolean), ((d 12), .int), ((d 13), .int), ((d 14), .int), ((d 18), .int), ((d 19), .int), ((d 20), .boolean), ((d 21), .boolean)] A s H locs := St
                refine lv_istore (lv' := [(11, .int r_13), (10, .int y_12), (9, .int kk), (8, .int pp), (6, .long cm2), (4, .long bs2), (2, .long nx2), (0, .ref h), (1, .int x1)]) hx hb dX12_sure_68 hl (by decide) rfl (fun ls hl => ?_)
                have hk9 := rw_K hR (kk := kk) (iy := y_12) (by omega) (by omega) (by omega) (by omega)
                have hw8 : kk.toNatClampNeg < Nn → 0 ≤ (wF kk.toNatClampNeg).toInt ∧ (wF kk.toNatClampNeg).toInt ≤ (wD kk.toNatClampNeg).toInt ∧ 1 ≤ (wD kk.toNatClampNeg).toInt ∧ (wD kk.toNatClampNeg).toInt ≤ 100000 := fun h_ => (hW.2 _ h_).1
                have hmo9 : kk.toNatClampNeg < Nn → mo pf pe kk.toNatClampNeg ≤ 119 := fun h_ => (hW.2 _ h_).2.2
                refine lv_aload_n hx hb dX12_sure_70 rfl (lv_at hl 7 rfl) ?_
                refine cs_get F St 8 rfl rfl inX12 39 (by decide) kf_X12_165 rfl dX12_sure_71 ?_
                refine lv_iload hx hb dX12_sure_74 (lv_at hl 1 rfl) ?_
                refine cs_zld F St 6 8 rfl rfl (vp_in_iff.mpr ⟨by omega, by omega⟩) dX12_sure_76 ?_
                refine lv_topi (fun y_16 ey_16 => ?_)
                have gy_16 := congrArg Int32.toInt ey_16
                refine lv_if_eq (tgt := 122) hx hb dX12_sure_77 (by decide) (fun c77 => ?_) (fun c77 => ?_)
                ·
                  have i77 := ci_eq (x := y_16) (y := 0) rfl (show (0 : Int32).toInt = 0 by decide) c77
                  refine lv_aload_n hx hb dX12_sure_122 rfl (lv_at hl 7 rfl) ?_
                  refine cs_get F St 8 rfl rfl inX12 40 (by decide) kf_X12_168 rfl dX12_sure_123 ?_
                  refine lv_iload hx hb dX12_sure_126 (lv_at hl 1 rfl) ?_
                  refine cs_zld F St 7 9 rfl rfl (vp_in_iff.mpr ⟨by omega, by omega⟩) dX12_sure_128 ?_
                  refine lv_topi (fun y_17 ey_17 => ?_)
                  have gy_17 := congrArg Int32.toInt ey_17
                  refine lv_if_eq (tgt := 170) hx hb dX12_sure_129 (by decide) (fun c129 => ?_) (fun c129 => ?_)
                  ·
                    have i129 := ci_eq (x := y_17) (y := 0) rfl (show (0 : Int32).toInt = 0 by decide) c129
                    obtain ⟨y_18, ey_18⟩ : ∃ zz : Int32, zz = kk + 1 := ⟨_, rfl⟩
                    first | have jy_18 : y_18.toInt = kk.toInt + 1 := (by have q9 := ci_add (x := kk) rfl (show (1 : Int32).toInt = 1 by decide) ey_18; omega) | have jy_18 := ci_add (x := kk) rfl (show (1 : Int32).toInt = 1 by decide) ey_18
                    refine lv_iinc (v := y_18) (lv' := [(9, .int y_18), (11, .int r_13), (10, .int y_12), (8, .int pp), (6, .long cm2), (4, .long bs2), (2, .long nx2), (0, .ref h), (1, .int x1)]) hx hb dX12_sure_170 hl (k := 2) rfl (by rw [ey_18]; rfl) (by decide) rfl (fun ls hl => ?_)
                    refine lv_goto (tgt := 38) hx hb dX12_sure_173 (by decide) ?_
                    exact ih38 y_18 nx2 bs2 cm2 _ _ _ ⟨⟨by omega, by omega⟩, sm_upO hK0 hJ1 (by omega) (by unfold tz tW; split <;> (try split) <;> omega), sm_upO hK0 hJ2 (by omega) (by unfold tz tU; split <;> (try split) <;> omega), sm_upO hK0 hJ3 (by omega) (by unfold tz tU; split <;> (try split) <;> omega)⟩ (by omega) (cs_pick St [8, 0, 1, 2, 9, 10, 3, 4, 5, 6, 7] rfl (by decide) [0, 1, 2, 3, 4, 5, 6, 7, 8, 9] rfl) (lv_sub hl [0, 3, 4, 5, 6, 7, 8] rfl)
                  ·
                    have i129 := ci_ne (x := y_17) (y := 0) rfl (show (0 : Int32).toInt = 0 by decide) c129
                    refine lv_iload hx hb dX12_sure_132 (lv_at hl 0 rfl) ?_
                    refine lv_aload_n hx hb dX12_sure_134 rfl (lv_at hl 7 rfl) ?_
                    refine cs_get F St 8 rfl rfl inX12 13 (by decide) kf_X12_230 rfl dX12_sure_135 ?_
                    refine lv_icmp_le (tgt := 144) hx hb dX12_sure_138 (by decide) (fun c138 => ?_) (fun c138 => ?_)
                    ·
                      have i138 := ci_le (x := r_13) (y := v_clock) rfl rfl c138
                      refine lv_lload hx hb dX12_sure_144 (lv_at hl 5 rfl) ?_
                      refine lv_aload_n hx hb dX12_sure_146 rfl (lv_at hl 7 rfl) ?_
                      refine cs_get F St 8 rfl rfl inX12 37 (by decide) kf_X12_159 rfl dX12_sure_147 ?_
                      refine lv_iload hx hb dX12_sure_150 (lv_at hl 1 rfl) ?_
                      refine cs_ild F St 4 6 rfl rfl (vp_in_iff.mpr ⟨by omega, by omega⟩) dX12_sure_152 ?_
                      refine lv_topi (fun y_19 ey_19 => ?_)
                      have gy_19 := congrArg Int32.toInt ey_19
                      refine lv_i2l (v := y_19.toInt64) hx hb dX12_sure_153 rfl ?_
                      refine lv_ladd hx hb dX12_sure_154 ?_
                      refine lv_topl (fun y_20 ey_20 => ?_)
                      first | have jy_20 : y_20.toInt = bs2.toInt + y_19.toInt := (by have q8 := ci_rng y_19; have q9 := cl_add (x := bs2) (y := y_19.toInt64) (u := bs2.toInt) (v := y_19.toInt) rfl (Int32.toInt_toInt64 y_19) ey_20; omega) | have jy_20 := cl_add (x := bs2) (y := y_19.toInt64) (u := bs2.toInt) (v := y_19.toInt) rfl (Int32.toInt_toInt64 y_19) ey_20
                      refine lv_lstore (lv' := [(4, .long y_20), (11, .int r_13), (10, .int y_12), (9, .int kk), (8, .int pp), (6, .long cm2), (2, .long nx2), (0, .ref h), (1, .int x1)]) hx hb dX12_sure_155 hl (by decide) rfl (fun ls hl => ?_)
                      refine lv_lload hx hb dX12_sure_157 (lv_at hl 5 rfl) ?_
                      refine lv_aload_n hx hb dX12_sure_159 rfl (lv_at hl 7 rfl) ?_
                      refine cs_get F St 8 rfl rfl inX12 38 (by decide) kf_X12_162 rfl dX12_sure_160 ?_
                      refine lv_iload hx hb dX12_sure_163 (lv_at hl 2 rfl) ?_
                      refine cs_ild F St 5 7 rfl rfl (vp_in_iff.mpr ⟨by omega, by omega⟩) dX12_sure_165 ?_
                      refine lv_topi (fun y_21 ey_21 => ?_)
                      have gy_21 := congrArg Int32.toInt ey_21
                      refine lv_i2l (v := y_21.toInt64) hx hb dX12_sure_166 rfl ?_
                      refine lv_ladd hx hb dX12_sure_167 ?_
                      refine lv_topl (fun y_22 ey_22 => ?_)
                      first | have jy_22 : y_22.toInt = cm2.toInt + y_21.toInt := (by have q8 := ci_rng y_21; have q9 := cl_add (x := cm2) (y := y_21.toInt64) (u := cm2.toInt) (v := y_21.toInt) rfl (Int32.toInt_toInt64 y_21) ey_22; omega) | have jy_22 := cl_add (x := cm2) (y := y_21.toInt64) (u := cm2.toInt) (v := y_21.toInt) rfl (Int32.toInt_toInt64 y_21) ey_22
                      refine lv_lstore (lv' := [(6, .long y_22), (4, .long y_20), (11, .int r_13), (10, .int y_12), (9, .int kk), (8, .int pp), (2, .long nx2), (0, .ref h), (1, .int x1)]) hx hb dX12_sure_168 hl (by decide) rfl (fun ls hl => ?_)
                      obtain ⟨y_23, ey_23⟩ : ∃ zz : Int32, zz = kk + 1 := ⟨_, rfl⟩
                      first | have jy_23 : y_23.toInt = kk.toInt + 1 := (by have q9 := ci_add (x := kk) rfl (show (1 : Int32).toInt = 1 by decide) ey_23; omega) | have jy_23 := ci_add (x := kk) rfl (show (1 : Int32).toInt = 1 by decide) ey_23
                      refine lv_iinc (v := y_23) (lv' := [(9, .int y_23), (6, .long y_22), (4, .long y_20), (11, .int r_13), (10, .int y_12), (8, .int pp), (2, .long nx2), (0, .ref h), (1, .int x1)]) hx hb dX12_sure_170 hl (k := 4) rfl (by rw [ey_23]; rfl) (by decide) rfl (fun ls hl => ?_)
                      refine lv_goto (tgt := 38) hx hb dX12_sure_173 (by decide) ?_
                      exact ih38 y_23 nx2 y_20 y_22 _ _ _ ⟨⟨by omega, by omega⟩, sm_upO hK0 hJ1 (by omega) (by unfold tz tW; split <;> (try split) <;> omega), sm_upO hK0 hJ2 (by omega) (by unfold tz tU; split <;> (try split) <;> omega), sm_upO hK0 hJ3 (by omega) (by unfold tz tU; split <;> (try split) <;> omega)⟩ (by omega) (cs_pick St [8, 0, 1, 2, 9, 10, 3, 4, 5, 6, 7] rfl (by decide) [0, 1, 2, 3, 4, 5, 6, 7, 8, 9] rfl) (lv_sub hl [0, 5, 1, 2, 6, 7, 8] rfl)
                    ·
                      have i138 := ci_nle (x := r_13) (y := v_clock) rfl rfl c138
                      refine lv_goto (tgt := 170) hx hb dX12_sure_141 (by decide) ?_
                      obtain ⟨y_24, ey_24⟩ : ∃ zz : Int32, zz = kk + 1 := ⟨_, rfl⟩
                      first | have jy_24 : y_24.toInt = kk.toInt + 1 := (by have q9 := ci_add (x := kk) rfl (show (1 : Int32).toInt = 1 by decide) ey_24; omega) | have jy_24 := ci_add (x := kk) rfl (show (1 : Int32).toInt = 1 by decide) ey_24
                      refine lv_iinc (v := y_24) (lv' := [(9, .int y_24), (11, .int r_13), (10, .int y_12), (8, .int pp), (6, .long cm2), (4, .long bs2), (2, .long nx2), (0, .ref h), (1, .int x1)]) hx hb dX12_sure_170 hl (k := 2) rfl (by rw [ey_24]; rfl) (by decide) rfl (fun ls hl => ?_)
                      refine lv_goto (tgt := 38) hx hb dX12_sure_173 (by decide) ?_
                      exact ih38 y_24 nx2 bs2 cm2 _ _ _ ⟨⟨by omega, by omega⟩, sm_upO hK0 hJ1 (by omega) (by unfold tz tW; split <;> (try split) <;> omega), sm_upO hK0 hJ2 (by omega) (by unfold tz tU; split <;> (try split) <;> omega), sm_upO hK0 hJ3 (by omega) (by unfold tz tU; split <;> (try split) <;> omega)⟩ (by omega) (cs_pick St [8, 0, 1, 2, 9, 10, 3, 4, 5, 6, 7] rfl (by decide) [0, 1, 2, 3, 4, 5, 6, 7, 8, 9] rfl) (lv_sub hl [0, 3, 4, 5, 6, 7, 8] rfl)
                ·
                  have i77 := ci_ne (x := y_16) (y := 0) rfl (show (0 : Int32).toInt = 0 by decide) c77
                  refine lv_iload hx hb dX12_sure_80 (lv_at hl 0 rfl) ?_
                  refine lv_i2l (v := r_13.toInt64) hx hb dX12_sure_82 rfl ?_
                  refine lv_aload_n hx hb dX12_sure_83 rfl (lv_at hl 7 rfl) ?_
                  refine cs_get F St 8 rfl rfl inX12 13 (by decide) kf_X12_230 rfl dX12_sure_84 ?_
                  refine lv_i2l (v := v_clock.toInt64) hx hb dX12_sure_87 rfl ?_
                  refine lv_lconst (v := 1) hx hb dX12_sure_88 (by decide) ?_
                  refine lv_ladd hx hb dX12_sure_89 ?_
                  refine lv_topl (fun y_25 ey_25 => ?_)
                  first | have jy_25 : y_25.toInt = v_clock.toInt + 1 := (by have q7 := ci_rng v_clock; have q9 := cl_add (x := v_clock.toInt64) (y := 1) (u := v_clock.toInt) (v := 1) (Int32.toInt_toInt64 v_clock) (by decide) ey_25; omega) | have jy_25 := cl_add (x := v_clock.toInt64) (y := 1) (u := v_clock.toInt) (v := 1) (Int32.toInt_toInt64 v_clock) (by decide) ey_25
                  refine lv_aload_n hx hb dX12_sure_90 rfl (lv_at hl 7 rfl) ?_
                  refine cs_get F St 8 rfl rfl inX12 13 (by decide) kf_X12_230 rfl dX12_sure_91 ?_
                  refine lv_iload_n hx hb dX12_sure_94 rfl (lv_at hl 8 rfl) ?_
                  refine lv_iadd hx hb dX12_sure_95 ?_
                  refine lv_topi (fun y_26 ey_26 => ?_)
                  first | have jy_26 : y_26.toInt = v_clock.toInt + x1.toInt := (by have q9 := ci_add (x := v_clock) (y := x1) rfl rfl ey_26; omega) | have jy_26 := ci_add (x := v_clock) (y := x1) rfl rfl ey_26
                  refine lv_i2l (v := y_26.toInt64) hx hb dX12_sure_96 rfl ?_
                  refine cs_i St [] [0, 1, 2, 3, 4, 5, 6, 7, 8, 9, 10] (wc := []) (wr := [(qarI (a 10) (d 10) 60 f_giver), (qarI (a 16) (d 16) 60 f_isLapsed), (qarI (a 17) (d 17) 60 f_wasTakenUp), (qarI (a 14) (d 14) 60 f_dues), (qarI (a 18) (d 18) 5040 f_due), (qarI (a 19) (d 19) 5040 f_filled), (qarI (a 20) (d 20) 5040 f_isThere), (qarI (a 21) (d 21) 5040 f_counts), (cMq a h v_taped v_size v_from v_behind v_hand v_value v_fault v_faultAt v_clock v_coin v_loan v_matched v_taxed v_paidStages v_grown v_pledges v_sums v_stages v_isStopped v_begun), (qarI (a 12) (d 12) 60 f_first), (qarI (a 13) (d 13) 60 f_every)]) rfl rfl (by decide) (by decide) (va_runS (As := [.long r_13.toInt64, .long y_25, .long y_26.toInt64]) (rest := []) F (c12_in l G k _ r_13.toInt64 y_25 y_26.toInt64 r_13.toInt y_25.toInt y_26.toInt (Int32.toInt_toInt64 r_13) rfl (Int32.toInt_toInt64 y_26)) (cwSt F mf_X12_in km_X12_58 rfl rfl ⟨Nat.le_of_ble_eq_true rfl, Nat.le_of_ble_eq_true rfl⟩) (cs_pre St [] rfl (by decide) [] rfl) rfl rfl hl.1 rfl (lv_room (Nat.le_of_ble_eq_true rfl)) dX12_sure_97 ⟨Nat.le_of_ble_eq_true rfl, Nat.le_of_ble_eq_true rfl⟩) (fun r_27 u_28 H locs hw St => ?_)
                  try dsimp only at hw
                  rcases hw with ⟨z_29, hf_30⟩ | ⟨z_31, hf_32⟩
                  ·
                    subst r_27
                    have St : cS G k [(qarI (a 10) (d 10) 60 f_giver), (qarI (a 16) (d 16) 60 f_isLapsed), (qarI (a 17) (d 17) 60 f_wasTakenUp), (qarI (a 14) (d 14) 60 f_dues), (qarI (a 18) (d 18) 5040 f_due), (qarI (a 19) (d 19) 5040 f_filled), (qarI (a 20) (d 20) 5040 f_isThere), (qarI (a 21) (d 21) 5040 f_counts), (cMq a h v_taped v_size v_from v_behind v_hand v_value v_fault v_faultAt v_clock v_coin v_loan v_matched v_taxed v_paidStages v_grown v_pledges v_sums v_stages v_isStopped v_begun), (qarI (a 12) (d 12) 60 f_first), (qarI (a 13) (d 13) 60 f_every)] [((d 10), .int), ((d 16), .boolean), ((d 17), .boolean), ((d 12), .int), ((d 13), .int), ((d 14), .int), ((d 18), .int), ((d 19), .int), ((d 20), .boolean), ((d 21), .boolean)] A s H locs := St
                    refine lv_if_eq (tgt := 122) hx hb dX12_sure_100 (by decide) (fun c100 => ?_) (fun c100 => ?_)
                    · exact absurd c100 (by decide)
                    refine lv_lload_n hx hb dX12_sure_103 rfl (lv_at hl 6 rfl) ?_
                    refine lv_aload_n hx hb dX12_sure_104 rfl (lv_at hl 7 rfl) ?_
                    refine cs_get F St 8 rfl rfl inX12 37 (by decide) kf_X12_159 rfl dX12_sure_105 ?_
                    refine lv_iload hx hb dX12_sure_108 (lv_at hl 1 rfl) ?_
                    refine cs_ild F St 4 6 rfl rfl (vp_in_iff.mpr ⟨by omega, by omega⟩) dX12_sure_110 ?_
                    refine lv_topi (fun y_33 ey_33 => ?_)
                    have gy_33 := congrArg Int32.toInt ey_33
                    refine lv_aload_n hx hb dX12_sure_111 rfl (lv_at hl 7 rfl) ?_
                    refine cs_get F St 8 rfl rfl inX12 38 (by decide) kf_X12_162 rfl dX12_sure_112 ?_
                    refine lv_iload hx hb dX12_sure_115 (lv_at hl 1 rfl) ?_
                    refine cs_ild F St 5 7 rfl rfl (vp_in_iff.mpr ⟨by omega, by omega⟩) dX12_sure_117 ?_
                    refine lv_topi (fun y_34 ey_34 => ?_)
                    have gy_34 := congrArg Int32.toInt ey_34
                    refine lv_isub hx hb dX12_sure_118 ?_
                    refine lv_topi (fun y_35 ey_35 => ?_)
                    first | have jy_35 : y_35.toInt = y_33.toInt - y_34.toInt := (by have q9 := ci_sub (x := y_33) (y := y_34) rfl rfl ey_35; omega) | have jy_35 := ci_sub (x := y_33) (y := y_34) rfl rfl ey_35
                    refine lv_i2l (v := y_35.toInt64) hx hb dX12_sure_119 rfl ?_
                    refine lv_ladd hx hb dX12_sure_120 ?_
                    refine lv_topl (fun y_36 ey_36 => ?_)
                    first | have jy_36 : y_36.toInt = nx2.toInt + y_35.toInt := (by have q8 := ci_rng y_35; have q9 := cl_add (x := nx2) (y := y_35.toInt64) (u := nx2.toInt) (v := y_35.toInt) rfl (Int32.toInt_toInt64 y_35) ey_36; omega) | have jy_36 := cl_add (x := nx2) (y := y_35.toInt64) (u := nx2.toInt) (v := y_35.toInt) rfl (Int32.toInt_toInt64 y_35) ey_36
                    refine lv_lstore_n (lv' := [(2, .long y_36), (11, .int r_13), (10, .int y_12), (9, .int kk), (8, .int pp), (6, .long cm2), (4, .long bs2), (0, .ref h), (1, .int x1)]) hx hb dX12_sure_121 rfl hl (by decide) rfl (fun ls hl => ?_)
                    refine lv_aload_n hx hb dX12_sure_122 rfl (lv_at hl 7 rfl) ?_
                    refine cs_get F St 8 rfl rfl inX12 40 (by decide) kf_X12_168 rfl dX12_sure_123 ?_
                    refine lv_iload hx hb dX12_sure_126 (lv_at hl 2 rfl) ?_
                    refine cs_zld F St 7 9 rfl rfl (vp_in_iff.mpr ⟨by omega, by omega⟩) dX12_sure_128 ?_
                    refine lv_topi (fun y_37 ey_37 => ?_)
                    have gy_37 := congrArg Int32.toInt ey_37
                    refine lv_if_eq (tgt := 170) hx hb dX12_sure_129 (by decide) (fun c129 => ?_) (fun c129 => ?_)
                    ·
                      have i129 := ci_eq (x := y_37) (y := 0) rfl (show (0 : Int32).toInt = 0 by decide) c129
                      obtain ⟨y_38, ey_38⟩ : ∃ zz : Int32, zz = kk + 1 := ⟨_, rfl⟩
                      first | have jy_38 : y_38.toInt = kk.toInt + 1 := (by have q9 := ci_add (x := kk) rfl (show (1 : Int32).toInt = 1 by decide) ey_38; omega) | have jy_38 := ci_add (x := kk) rfl (show (1 : Int32).toInt = 1 by decide) ey_38
                      refine lv_iinc (v := y_38) (lv' := [(9, .int y_38), (2, .long y_36), (11, .int r_13), (10, .int y_12), (8, .int pp), (6, .long cm2), (4, .long bs2), (0, .ref h), (1, .int x1)]) hx hb dX12_sure_170 hl (k := 3) rfl (by rw [ey_38]; rfl) (by decide) rfl (fun ls hl => ?_)
                      refine lv_goto (tgt := 38) hx hb dX12_sure_173 (by decide) ?_
                      exact ih38 y_38 y_36 bs2 cm2 _ _ _ ⟨⟨by omega, by omega⟩, sm_upO hK0 hJ1 (by omega) (by unfold tz tW; split <;> (try split) <;> omega), sm_upO hK0 hJ2 (by omega) (by unfold tz tU; split <;> (try split) <;> omega), sm_upO hK0 hJ3 (by omega) (by unfold tz tU; split <;> (try split) <;> omega)⟩ (by omega) (cs_pick St [8, 0, 1, 2, 9, 10, 3, 4, 5, 6, 7] rfl (by decide) [0, 1, 2, 3, 4, 5, 6, 7, 8, 9] rfl) (lv_sub hl [0, 4, 5, 6, 1, 7, 8] rfl)
                    ·
                      have i129 := ci_ne (x := y_37) (y := 0) rfl (show (0 : Int32).toInt = 0 by decide) c129
                      refine lv_iload hx hb dX12_sure_132 (lv_at hl 1 rfl) ?_
                      refine lv_aload_n hx hb dX12_sure_134 rfl (lv_at hl 7 rfl) ?_
                      refine cs_get F St 8 rfl rfl inX12 13 (by decide) kf_X12_230 rfl dX12_sure_135 ?_
                      refine lv_icmp_le (tgt := 144) hx hb dX12_sure_138 (by decide) (fun c138 => ?_) (fun c138 => ?_)
                      ·
                        have i138 := ci_le (x := r_13) (y := v_clock) rfl rfl c138
                        refine lv_lload hx hb dX12_sure_144 (lv_at hl 6 rfl) ?_
                        refine lv_aload_n hx hb dX12_sure_146 rfl (lv_at hl 7 rfl) ?_
                        refine cs_get F St 8 rfl rfl inX12 37 (by decide) kf_X12_159 rfl dX12_sure_147 ?_
                        refine lv_iload hx hb dX12_sure_150 (lv_at hl 2 rfl) ?_
                        refine cs_ild F St 4 6 rfl rfl (vp_in_iff.mpr ⟨by omega, by omega⟩) dX12_sure_152 ?_
                        refine lv_topi (fun y_39 ey_39 => ?_)
                        have gy_39 := congrArg Int32.toInt ey_39
                        refine lv_i2l (v := y_39.toInt64) hx hb dX12_sure_153 rfl ?_
                        refine lv_ladd hx hb dX12_sure_154 ?_
                        refine lv_topl (fun y_40 ey_40 => ?_)
                        first | have jy_40 : y_40.toInt = bs2.toInt + y_39.toInt := (by have q8 := ci_rng y_39; have q9 := cl_add (x := bs2) (y := y_39.toInt64) (u := bs2.toInt) (v := y_39.toInt) rfl (Int32.toInt_toInt64 y_39) ey_40; omega) | have jy_40 := cl_add (x := bs2) (y := y_39.toInt64) (u := bs2.toInt) (v := y_39.toInt) rfl (Int32.toInt_toInt64 y_39) ey_40
                        refine lv_lstore (lv' := [(4, .long y_40), (2, .long y_36), (11, .int r_13), (10, .int y_12), (9, .int kk), (8, .int pp), (6, .long cm2), (0, .ref h), (1, .int x1)]) hx hb dX12_sure_155 hl (by decide) rfl (fun ls hl => ?_)
                        refine lv_lload hx hb dX12_sure_157 (lv_at hl 6 rfl) ?_
                        refine lv_aload_n hx hb dX12_sure_159 rfl (lv_at hl 7 rfl) ?_
                        refine cs_get F St 8 rfl rfl inX12 38 (by decide) kf_X12_162 rfl dX12_sure_160 ?_
                        refine lv_iload hx hb dX12_sure_163 (lv_at hl 3 rfl) ?_
                        refine cs_ild F St 5 7 rfl rfl (vp_in_iff.mpr ⟨by omega, by omega⟩) dX12_sure_165 ?_
                        refine lv_topi (fun y_41 ey_41 => ?_)
                        have gy_41 := congrArg Int32.toInt ey_41
                        refine lv_i2l (v := y_41.toInt64) hx hb dX12_sure_166 rfl ?_
                        refine lv_ladd hx hb dX12_sure_167 ?_
                        refine lv_topl (fun y_42 ey_42 => ?_)
                        first | have jy_42 : y_42.toInt = cm2.toInt + y_41.toInt := (by have q8 := ci_rng y_41; have q9 := cl_add (x := cm2) (y := y_41.toInt64) (u := cm2.toInt) (v := y_41.toInt) rfl (Int32.toInt_toInt64 y_41) ey_42; omega) | have jy_42 := cl_add (x := cm2) (y := y_41.toInt64) (u := cm2.toInt) (v := y_41.toInt) rfl (Int32.toInt_toInt64 y_41) ey_42
                        refine lv_lstore (lv' := [(6, .long y_42), (4, .long y_40), (2, .long y_36), (11, .int r_13), (10, .int y_12), (9, .int kk), (8, .int pp), (0, .ref h), (1, .int x1)]) hx hb dX12_sure_168 hl (by decide) rfl (fun ls hl => ?_)
                        obtain ⟨y_43, ey_43⟩ : ∃ zz : Int32, zz = kk + 1 := ⟨_, rfl⟩
                        first | have jy_43 : y_43.toInt = kk.toInt + 1 := (by have q9 := ci_add (x := kk) rfl (show (1 : Int32).toInt = 1 by decide) ey_43; omega) | have jy_43 := ci_add (x := kk) rfl (show (1 : Int32).toInt = 1 by decide) ey_43
                        refine lv_iinc (v := y_43) (lv' := [(9, .int y_43), (6, .long y_42), (4, .long y_40), (2, .long y_36), (11, .int r_13), (10, .int y_12), (8, .int pp), (0, .ref h), (1, .int x1)]) hx hb dX12_sure_170 hl (k := 5) rfl (by rw [ey_43]; rfl) (by decide) rfl (fun ls hl => ?_)
                        refine lv_goto (tgt := 38) hx hb dX12_sure_173 (by decide) ?_
                        exact ih38 y_43 y_36 y_40 y_42 _ _ _ ⟨⟨by omega, by omega⟩, sm_upO hK0 hJ1 (by omega) (by unfold tz tW; split <;> (try split) <;> omega), sm_upO hK0 hJ2 (by omega) (by unfold tz tU; split <;> (try split) <;> omega), sm_upO hK0 hJ3 (by omega) (by unfold tz tU; split <;> (try split) <;> omega)⟩ (by omega) (cs_pick St [8, 0, 1, 2, 9, 10, 3, 4, 5, 6, 7] rfl (by decide) [0, 1, 2, 3, 4, 5, 6, 7, 8, 9] rfl) (lv_sub hl [0, 6, 1, 2, 3, 7, 8] rfl)
                      ·
                        have i138 := ci_nle (x := r_13) (y := v_clock) rfl rfl c138
                        refine lv_goto (tgt := 170) hx hb dX12_sure_141 (by decide) ?_
                        obtain ⟨y_44, ey_44⟩ : ∃ zz : Int32, zz = kk + 1 := ⟨_, rfl⟩
                        first | have jy_44 : y_44.toInt = kk.toInt + 1 := (by have q9 := ci_add (x := kk) rfl (show (1 : Int32).toInt = 1 by decide) ey_44; omega) | have jy_44 := ci_add (x := kk) rfl (show (1 : Int32).toInt = 1 by decide) ey_44
                        refine lv_iinc (v := y_44) (lv' := [(9, .int y_44), (2, .long y_36), (11, .int r_13), (10, .int y_12), (8, .int pp), (6, .long cm2), (4, .long bs2), (0, .ref h), (1, .int x1)]) hx hb dX12_sure_170 hl (k := 3) rfl (by rw [ey_44]; rfl) (by decide) rfl (fun ls hl => ?_)
                        refine lv_goto (tgt := 38) hx hb dX12_sure_173 (by decide) ?_
                        exact ih38 y_44 y_36 bs2 cm2 _ _ _ ⟨⟨by omega, by omega⟩, sm_upO hK0 hJ1 (by omega) (by unfold tz tW; split <;> (try split) <;> omega), sm_upO hK0 hJ2 (by omega) (by unfold tz tU; split <;> (try split) <;> omega), sm_upO hK0 hJ3 (by omega) (by unfold tz tU; split <;> (try split) <;> omega)⟩ (by omega) (cs_pick St [8, 0, 1, 2, 9, 10, 3, 4, 5, 6, 7] rfl (by decide) [0, 1, 2, 3, 4, 5, 6, 7, 8, 9] rfl) (lv_sub hl [0, 4, 5, 6, 1, 7, 8] rfl)
                  ·
                    subst r_27
                    have St : cS G k [(qarI (a 10) (d 10) 60 f_giver), (qarI (a 16) (d 16) 60 f_isLapsed), (qarI (a 17) (d 17) 60 f_wasTakenUp), (qarI (a 14) (d 14) 60 f_dues), (qarI (a 18) (d 18) 5040 f_due), (qarI (a 19) (d 19) 5040 f_filled), (qarI (a 20) (d 20) 5040 f_isThere), (qarI (a 21) (d 21) 5040 f_counts), (cMq a h v_taped v_size v_from v_behind v_hand v_value v_fault v_faultAt v_clock v_coin v_loan v_matched v_taxed v_paidStages v_grown v_pledges v_sums v_stages v_isStopped v_begun), (qarI (a 12) (d 12) 60 f_first), (qarI (a 13) (d 13) 60 f_every)] [((d 10), .int), ((d 16), .boolean), ((d 17), .boolean), ((d 12), .int), ((d 13), .int), ((d 14), .int), ((d 18), .int), ((d 19), .int), ((d 20), .boolean), ((d 21), .boolean)] A s H locs := St
                    refine lv_if_eq (tgt := 122) hx hb dX12_sure_100 (by decide) (fun c100 => ?_) (fun c100 => ?_)
                    rotate_left
                    · exact absurd (by decide) c100
                    refine lv_aload_n hx hb dX12_sure_122 rfl (lv_at hl 7 rfl) ?_
                    refine cs_get F St 8 rfl rfl inX12 40 (by decide) kf_X12_168 rfl dX12_sure_123 ?_
                    refine lv_iload hx hb dX12_sure_126 (lv_at hl 1 rfl) ?_
                    refine cs_zld F St 7 9 rfl rfl (vp_in_iff.mpr ⟨by omega, by omega⟩) dX12_sure_128 ?_
                    refine lv_topi (fun y_45 ey_45 => ?_)
                    have gy_45 := congrArg Int32.toInt ey_45
                    refine lv_if_eq (tgt := 170) hx hb dX12_sure_129 (by decide) (fun c129 => ?_) (fun c129 => ?_)
                    ·
                      have i129 := ci_eq (x := y_45) (y := 0) rfl (show (0 : Int32).toInt = 0 by decide) c129
                      obtain ⟨y_46, ey_46⟩ : ∃ zz : Int32, zz = kk + 1 := ⟨_, rfl⟩
                      first | have jy_46 : y_46.toInt = kk.toInt + 1 := (by have q9 := ci_add (x := kk) rfl (show (1 : Int32).toInt = 1 by decide) ey_46; omega) | have jy_46 := ci_add (x := kk) rfl (show (1 : Int32).toInt = 1 by decide) ey_46
                      refine lv_iinc (v := y_46) (lv' := [(9, .int y_46), (11, .int r_13), (10, .int y_12), (8, .int pp), (6, .long cm2), (4, .long bs2), (2, .long nx2), (0, .ref h), (1, .int x1)]) hx hb dX12_sure_170 hl (k := 2) rfl (by rw [ey_46]; rfl) (by decide) rfl (fun ls hl => ?_)
                      refine lv_goto (tgt := 38) hx hb dX12_sure_173 (by decide) ?_
                      exact ih38 y_46 nx2 bs2 cm2 _ _ _ ⟨⟨by omega, by omega⟩, sm_upO hK0 hJ1 (by omega) (by unfold tz tW; split <;> (try split) <;> omega), sm_upO hK0 hJ2 (by omega) (by unfold tz tU; split <;> (try split) <;> omega), sm_upO hK0 hJ3 (by omega) (by unfold tz tU; split <;> (try split) <;> omega)⟩ (by omega) (cs_pick St [8, 0, 1, 2, 9, 10, 3, 4, 5, 6, 7] rfl (by decide) [0, 1, 2, 3, 4, 5, 6, 7, 8, 9] rfl) (lv_sub hl [0, 3, 4, 5, 6, 7, 8] rfl)
                    ·
                      have i129 := ci_ne (x := y_45) (y := 0) rfl (show (0 : Int32).toInt = 0 by decide) c129
                      refine lv_iload hx hb dX12_sure_132 (lv_at hl 0 rfl) ?_
                      refine lv_aload_n hx hb dX12_sure_134 rfl (lv_at hl 7 rfl) ?_
                      refine cs_get F St 8 rfl rfl inX12 13 (by decide) kf_X12_230 rfl dX12_sure_135 ?_
                      refine lv_icmp_le (tgt := 144) hx hb dX12_sure_138 (by decide) (fun c138 => ?_) (fun c138 => ?_)
                      ·
                        have i138 := ci_le (x := r_13) (y := v_clock) rfl rfl c138
                        refine lv_lload hx hb dX12_sure_144 (lv_at hl 5 rfl) ?_
                        refine lv_aload_n hx hb dX12_sure_146 rfl (lv_at hl 7 rfl) ?_
                        refine cs_get F St 8 rfl rfl inX12 37 (by decide) kf_X12_159 rfl dX12_sure_147 ?_
                        refine lv_iload hx hb dX12_sure_150 (lv_at hl 1 rfl) ?_
                        refine cs_ild F St 4 6 rfl rfl (vp_in_iff.mpr ⟨by omega, by omega⟩) dX12_sure_152 ?_
                        refine lv_topi (fun y_47 ey_47 => ?_)
                        have gy_47 := congrArg Int32.toInt ey_47
                        refine lv_i2l (v := y_47.toInt64) hx hb dX12_sure_153 rfl ?_
                        refine lv_ladd hx hb dX12_sure_154 ?_
                        refine lv_topl (fun y_48 ey_48 => ?_)
                        first | have jy_48 : y_48.toInt = bs2.toInt + y_47.toInt := (by have q8 := ci_rng y_47; have q9 := cl_add (x := bs2) (y := y_47.toInt64) (u := bs2.toInt) (v := y_47.toInt) rfl (Int32.toInt_toInt64 y_47) ey_48; omega) | have jy_48 := cl_add (x := bs2) (y := y_47.toInt64) (u := bs2.toInt) (v := y_47.toInt) rfl (Int32.toInt_toInt64 y_47) ey_48
                        refine lv_lstore (lv' := [(4, .long y_48), (11, .int r_13), (10, .int y_12), (9, .int kk), (8, .int pp), (6, .long cm2), (2, .long nx2), (0, .ref h), (1, .int x1)]) hx hb dX12_sure_155 hl (by decide) rfl (fun ls hl => ?_)
                        refine lv_lload hx hb dX12_sure_157 (lv_at hl 5 rfl) ?_
                        refine lv_aload_n hx hb dX12_sure_159 rfl (lv_at hl 7 rfl) ?_
                        refine cs_get F St 8 rfl rfl inX12 38 (by decide) kf_X12_162 rfl dX12_sure_160 ?_
                        refine lv_iload hx hb dX12_sure_163 (lv_at hl 2 rfl) ?_
                        refine cs_ild F St 5 7 rfl rfl (vp_in_iff.mpr ⟨by omega, by omega⟩) dX12_sure_165 ?_
                        refine lv_topi (fun y_49 ey_49 => ?_)
                        have gy_49 := congrArg Int32.toInt ey_49
                        refine lv_i2l (v := y_49.toInt64) hx hb dX12_sure_166 rfl ?_
                        refine lv_ladd hx hb dX12_sure_167 ?_
                        refine lv_topl (fun y_50 ey_50 => ?_)
                        first | have jy_50 : y_50.toInt = cm2.toInt + y_49.toInt := (by have q8 := ci_rng y_49; have q9 := cl_add (x := cm2) (y := y_49.toInt64) (u := cm2.toInt) (v := y_49.toInt) rfl (Int32.toInt_toInt64 y_49) ey_50; omega) | have jy_50 := cl_add (x := cm2) (y := y_49.toInt64) (u := cm2.toInt) (v := y_49.toInt) rfl (Int32.toInt_toInt64 y_49) ey_50
                        refine lv_lstore (lv' := [(6, .long y_50), (4, .long y_48), (11, .int r_13), (10, .int y_12), (9, .int kk), (8, .int pp), (2, .long nx2), (0, .ref h), (1, .int x1)]) hx hb dX12_sure_168 hl (by decide) rfl (fun ls hl => ?_)
                        obtain ⟨y_51, ey_51⟩ : ∃ zz : Int32, zz = kk + 1 := ⟨_, rfl⟩
                        first | have jy_51 : y_51.toInt = kk.toInt + 1 := (by have q9 := ci_add (x := kk) rfl (show (1 : Int32).toInt = 1 by decide) ey_51; omega) | have jy_51 := ci_add (x := kk) rfl (show (1 : Int32).toInt = 1 by decide) ey_51
                        refine lv_iinc (v := y_51) (lv' := [(9, .int y_51), (6, .long y_50), (4, .long y_48), (11, .int r_13), (10, .int y_12), (8, .int pp), (2, .long nx2), (0, .ref h), (1, .int x1)]) hx hb dX12_sure_170 hl (k := 4) rfl (by rw [ey_51]; rfl) (by decide) rfl (fun ls hl => ?_)
                        refine lv_goto (tgt := 38) hx hb dX12_sure_173 (by decide) ?_
                        exact ih38 y_51 nx2 y_48 y_50 _ _ _ ⟨⟨by omega, by omega⟩, sm_upO hK0 hJ1 (by omega) (by unfold tz tW; split <;> (try split) <;> omega), sm_upO hK0 hJ2 (by omega) (by unfold tz tU; split <;> (try split) <;> omega), sm_upO hK0 hJ3 (by omega) (by unfold tz tU; split <;> (try split) <;> omega)⟩ (by omega) (cs_pick St [8, 0, 1, 2, 9, 10, 3, 4, 5, 6, 7] rfl (by decide) [0, 1, 2, 3, 4, 5, 6, 7, 8, 9] rfl) (lv_sub hl [0, 5, 1, 2, 6, 7, 8] rfl)
                      ·
                        have i138 := ci_nle (x := r_13) (y := v_clock) rfl rfl c138
                        refine lv_goto (tgt := 170) hx hb dX12_sure_141 (by decide) ?_
                        obtain ⟨y_52, ey_52⟩ : ∃ zz : Int32, zz = kk + 1 := ⟨_, rfl⟩
                        first | have jy_52 : y_52.toInt = kk.toInt + 1 := (by have q9 := ci_add (x := kk) rfl (show (1 : Int32).toInt = 1 by decide) ey_52; omega) | have jy_52 := ci_add (x := kk) rfl (show (1 : Int32).toInt = 1 by decide) ey_52
                        refine lv_iinc (v := y_52) (lv' := [(9, .int y_52), (11, .int r_13), (10, .int y_12), (8, .int pp), (6, .long cm2), (4, .long bs2), (2, .long nx2), (0, .ref h), (1, .int x1)]) hx hb dX12_sure_170 hl (k := 2) rfl (by rw [ey_52]; rfl) (by decide) rfl (fun ls hl => ?_)
                        refine lv_goto (tgt := 38) hx hb dX12_sure_173 (by decide) ?_
                        exact ih38 y_52 nx2 bs2 cm2 _ _ _ ⟨⟨by omega, by omega⟩, sm_upO hK0 hJ1 (by omega) (by unfold tz tW; split <;> (try split) <;> omega), sm_upO hK0 hJ2 (by omega) (by unfold tz tU; split <;> (try split) <;> omega), sm_upO hK0 hJ3 (by omega) (by unfold tz tU; split <;> (try split) <;> omega)⟩ (by omega) (cs_pick St [8, 0, 1, 2, 9, 10, 3, 4, 5, 6, 7] rfl (by decide) [0, 1, 2, 3, 4, 5, 6, 7, 8, 9] rfl) (lv_sub hl [0, 3, 4, 5, 6, 7, 8] rfl)
          exact lp38 86 0 nx bs cm _ _ _ ⟨⟨by omega, by omega⟩, (by rw [show (0 : Int32).toNatClampNeg = 0 from rfl, sm_0, Int.add_zero]), (by rw [show (0 : Int32).toNatClampNeg = 0 from rfl, sm_0, Int.add_zero]), (by rw [show (0 : Int32).toNatClampNeg = 0 from rfl, sm_0, Int.add_zero])⟩ (by omega) St (lv_sub hl [0, 1, 2, 3, 4, 5, 6] rfl)
    exact lp26 61 0 0 0 0 _ _ _ ⟨⟨by omega, by omega⟩, rfl, rfl, rfl⟩ (by omega) St (lv_sub hl [0, 1, 2, 3, 4, 5] rfl)
  ·
    subst r_1
    have St : cS G k [(cMq a h v_taped v_size v_from v_behind v_hand v_value v_fault v_faultAt v_clock v_coin v_loan v_matched v_taxed v_paidStages v_grown v_pledges v_sums v_stages v_isStopped v_begun), (qarI (a 10) (d 10) 60 f_giver), (qarI (a 16) (d 16) 60 f_isLapsed), (qarI (a 17) (d 17) 60 f_wasTakenUp), (qarI (a 12) (d 12) 60 f_first), (qarI (a 13) (d 13) 60 f_every), (qarI (a 14) (d 14) 60 f_dues), (qarI (a 18) (d 18) 5040 f_due), (qarI (a 19) (d 19) 5040 f_filled), (qarI (a 20) (d 20) 5040 f_isThere), (qarI (a 21) (d 21) 5040 f_counts)] [((d 10), .int), ((d 16), .boolean), ((d 17), .boolean), ((d 12), .int), ((d 13), .int), ((d 14), .int), ((d 18), .int), ((d 19), .int), ((d 20), .boolean), ((d 21), .boolean)] A s H locs := St
    refine lv_if_ne (tgt := 15) hx hb dX12_sure_9 (by decide) (fun c9 => ?_) (fun c9 => ?_)
    · exact absurd c9 (by decide)
    refine lv_bipush (v := (-2)) hx hb dX12_sure_12 (by decide) ?_
    exact cs_iret F hr hlk hQ St () (r := (-2)) (Or.inl ⟨by omega, rfl⟩) [0, 1, 2, 3, 4, 5, 6, 7, 8, 9, 10] rfl (by decide) [] rfl (by decide) (by decide) dX12_sure_14
set_option maxHeartbeats 4000000 in
set_option maxRecDepth 100000 in
theorem e12_stage (l : Launch) (G : va_G) (k : Nat → Nat) (sz : Nat) (h : Nat) (a : Nat → Nat) (d : Nat → ClassId) (v_taped : Int32) (v_size : Int32) (v_from : Int32) (v_behind : Int32) (v_hand : Int32) (v_value : Int32) (v_fault : Int32) (v_faultAt : Int32) (v_clock : Int32) (v_coin : Int32) (v_loan : Int32) (v_matched : Int32) (v_taxed : Int32) (v_paidStages : Int32) (v_grown : Int32) (v_pledges : Int32) (v_sums : Int32) (v_stages : Int32) (v_isStopped : Int32) (v_begun : Int32) (f_cost : Nat → Int32) (f_length : Nat → Int32) (x1 : Int32) (x2 : Int32) (hSt : mSt v_stages v_begun f_length) : Met l yX12_stage (Cond.code yX12_stage cX12_stage 3 (some .int) :: tb) ({ frames := 1, cells := 0, slots := 0, locals := 25 } : Room) (va_Pc [.ref h, .int x1, .int x2] (cP G k [(cMq a h v_taped v_size v_from v_behind v_hand v_value v_fault v_faultAt v_clock v_coin v_loan v_matched v_taxed v_paidStages v_grown v_pledges v_sums v_stages v_isStopped v_begun), (qarI (a 26) (d 26) 8 f_cost), (qarI (a 27) (d 27) 8 f_length)] [((d 26), .int), ((d 27), .int)] sz)) (va_Qi (fun (r : Int32) (u : Int32 × (Nat → Int32) × (Nat → Int32)) => match u with | (w_stages, g_cost, g_length) => (Rstg v_isStopped v_stages x1 x2 f_cost f_length r w_stages g_cost g_length) ∧ (mSt w_stages v_begun g_length)) (cB G (fun u => match u with | (w_stages, g_cost, g_length) => [(cMq a h v_taped v_size v_from v_behind v_hand v_value v_fault v_faultAt v_clock v_coin v_loan v_matched v_taxed v_paidStages v_grown v_pledges v_sums w_stages v_isStopped v_begun), (qarI (a 26) (d 26) 8 g_cost), (qarI (a 27) (d 27) 8 g_length)]) (fun u => match u with | (w_stages, g_cost, g_length) => []) (va_A [(cMq a h v_taped v_size v_from v_behind v_hand v_value v_fault v_faultAt v_clock v_coin v_loan v_matched v_taxed v_paidStages v_grown v_pledges v_sums v_stages v_isStopped v_begun), (qarI (a 26) (d 26) 8 f_cost), (qarI (a 27) (d 27) 8 f_length)] sz)) (va_A [(cMq a h v_taped v_size v_from v_behind v_hand v_value v_fault v_faultAt v_clock v_coin v_loan v_matched v_taxed v_paidStages v_grown v_pledges v_sums v_stages v_isStopped v_begun), (qarI (a 26) (d 26) 8 f_cost), (qarI (a 27) (d 27) 8 f_length)] sz)) 0 0 (va_A [(cMq a h v_taped v_size v_from v_behind v_hand v_value v_fault v_faultAt v_clock v_coin v_loan v_matched v_taxed v_paidStages v_grown v_pledges v_sums v_stages v_isStopped v_begun), (qarI (a 26) (d 26) 8 f_cost), (qarI (a 27) (d 27) 8 f_length)] sz) := by
  refine ofC_i (cc := cX12_stage) (maxL := 3) (ret := (some .int)) (by decide) rfl (Nat.le_of_ble_eq_true rfl) ?_
  intro p e s m args below meth c A ls Q F hr hin hlk St hl hQ
  have hx := F.1
  have hb := F.2.1
  have hl : lv_has ls 3 [(0, .ref h), (1, .int x1), (2, .int x2)] := hl
  have St : cS G k [(cMq a h v_taped v_size v_from v_behind v_hand v_value v_fault v_faultAt v_clock v_coin v_loan v_matched v_taxed v_paidStages v_grown v_pledges v_sums v_stages v_isStopped v_begun), (qarI (a 26) (d 26) 8 f_cost), (qarI (a 27) (d 27) 8 f_length)] [((d 26), .int), ((d 27), .int)] A s s.heap [] := St
  have htd := hSt.1
  have y0 : (0 : Int32).toInt = 0 := by decide
  refine lv_iload_n hx hb dX12_stage_0 rfl (lv_at hl 1 rfl) ?_
  refine lv_i2l (v := x1.toInt64) hx hb dX12_stage_1 rfl ?_
  refine lv_lconst (v := 1) hx hb dX12_stage_2 (by decide) ?_
  refine lv_ldc2 (v := 100000000) hx hb F.2.2.2.1 (F.2.2.2.2 _ kk_X12_282) dX12_stage_3 ?_
  refine cs_i St [] [0, 1, 2] (wc := []) (wr := [(cMq a h v_taped v_size v_from v_behind v_hand v_value v_fault v_faultAt v_clock v_coin v_loan v_matched v_taxed v_paidStages v_grown v_pledges v_sums v_stages v_isStopped v_begun), (qarI (a 26) (d 26) 8 f_cost), (qarI (a 27) (d 27) 8 f_length)]) rfl rfl (by decide) (by decide) (va_runS (As := [.long x1.toInt64, .long 1, .long 100000000]) (rest := []) F (c12_in l G k _ x1.toInt64 1 100000000 x1.toInt 1 100000000 (Int32.toInt_toInt64 x1) (by decide) (by decide)) (cwSt F mf_X12_in km_X12_58 rfl rfl ⟨Nat.le_of_ble_eq_true rfl, Nat.le_of_ble_eq_true rfl⟩) (cs_pre St [] rfl (by decide) [] rfl) rfl rfl hl.1 rfl (lv_room (Nat.le_of_ble_eq_true rfl)) dX12_stage_6 ⟨Nat.le_of_ble_eq_true rfl, Nat.le_of_ble_eq_true rfl⟩) (fun r_1 u_2 H locs hw St => ?_)
  try dsimp only at hw
  rcases hw with ⟨z_3, hf_4⟩ | ⟨z_5, hf_6⟩
  ·
    subst r_1
    have St : cS G k [(cMq a h v_taped v_size v_from v_behind v_hand v_value v_fault v_faultAt v_clock v_coin v_loan v_matched v_taxed v_paidStages v_grown v_pledges v_sums v_stages v_isStopped v_begun), (qarI (a 26) (d 26) 8 f_cost), (qarI (a 27) (d 27) 8 f_length)] [((d 26), .int), ((d 27), .int)] A s H locs := St
    refine lv_if_eq (tgt := 24) hx hb dX12_stage_9 (by decide) (fun c9 => ?_) (fun c9 => ?_)
    · exact absurd c9 (by decide)
    refine lv_iload_n hx hb dX12_stage_12 rfl (lv_at hl 2 rfl) ?_
    refine lv_i2l (v := x2.toInt64) hx hb dX12_stage_13 rfl ?_
    refine lv_lconst (v := 1) hx hb dX12_stage_14 (by decide) ?_
    refine lv_ldc2 (v := 24) hx hb F.2.2.2.1 (F.2.2.2.2 _ kk_X12_284) dX12_stage_15 ?_
    refine cs_i St [] [0, 1, 2] (wc := []) (wr := [(cMq a h v_taped v_size v_from v_behind v_hand v_value v_fault v_faultAt v_clock v_coin v_loan v_matched v_taxed v_paidStages v_grown v_pledges v_sums v_stages v_isStopped v_begun), (qarI (a 26) (d 26) 8 f_cost), (qarI (a 27) (d 27) 8 f_length)]) rfl rfl (by decide) (by decide) (va_runS (As := [.long x2.toInt64, .long 1, .long 24]) (rest := []) F (c12_in l G k _ x2.toInt64 1 24 x2.toInt 1 24 (Int32.toInt_toInt64 x2) (by decide) (by decide)) (cwSt F mf_X12_in km_X12_58 rfl rfl ⟨Nat.le_of_ble_eq_true rfl, Nat.le_of_ble_eq_true rfl⟩) (cs_pre St [] rfl (by decide) [] rfl) rfl rfl hl.1 rfl (lv_room (Nat.le_of_ble_eq_true rfl)) dX12_stage_18 ⟨Nat.le_of_ble_eq_true rfl, Nat.le_of_ble_eq_true rfl⟩) (fun r_7 u_8 H locs hw St => ?_)
    try dsimp only at hw
    rcases hw with ⟨z_9, hf_10⟩ | ⟨z_11, hf_12⟩
    ·
      subst r_7
      have St : cS G k [(cMq a h v_taped v_size v_from v_behind v_hand v_value v_fault v_faultAt v_clock v_coin v_loan v_matched v_taxed v_paidStages v_grown v_pledges v_sums v_stages v_isStopped v_begun), (qarI (a 26) (d 26) 8 f_cost), (qarI (a 27) (d 27) 8 f_length)] [((d 26), .int), ((d 27), .int)] A s H locs := St
      refine lv_if_ne (tgt := 27) hx hb dX12_stage_21 (by decide) (fun c21 => ?_) (fun c21 => ?_)
      rotate_left
      · exact absurd c21 (by decide)
      refine lv_aload_n hx hb dX12_stage_27 rfl (lv_at hl 0 rfl) ?_
      refine cs_get F St 0 rfl rfl inX12 23 (by decide) kf_X12_224 rfl dX12_stage_28 ?_
      refine lv_if_eq (tgt := 37) hx hb dX12_stage_31 (by decide) (fun c31 => ?_) (fun c31 => ?_)
      ·
        have i31 := ci_eq (x := v_isStopped) (y := 0) rfl (show (0 : Int32).toInt = 0 by decide) c31
        refine lv_aload_n hx hb dX12_stage_37 rfl (lv_at hl 0 rfl) ?_
        refine cs_get F St 0 rfl rfl inX12 22 (by decide) kf_X12_286 rfl dX12_stage_38 ?_
        refine lv_bipush (v := 8) hx hb dX12_stage_41 (by decide) ?_
        refine lv_icmp_ne (tgt := 49) hx hb dX12_stage_43 (by decide) (fun c43 => ?_) (fun c43 => ?_)
        ·
          have i43 := ci_ne (x := v_stages) (y := 8) rfl (show (8 : Int32).toInt = 8 by decide) c43
          refine lv_aload_n hx hb dX12_stage_49 rfl (lv_at hl 0 rfl) ?_
          refine cs_get F St 0 rfl rfl inX12 45 (by decide) kf_X12_183 rfl dX12_stage_50 ?_
          refine lv_aload_n hx hb dX12_stage_53 rfl (lv_at hl 0 rfl) ?_
          refine cs_get F St 0 rfl rfl inX12 22 (by decide) kf_X12_286 rfl dX12_stage_54 ?_
          refine lv_iload_n hx hb dX12_stage_57 rfl (lv_at hl 1 rfl) ?_
          refine cs_ist F St 1 0 rfl rfl (vp_in_iff.mpr ⟨by omega, by omega⟩) (w' := [(cMq a h v_taped v_size v_from v_behind v_hand v_value v_fault v_faultAt v_clock v_coin v_loan v_matched v_taxed v_paidStages v_grown v_pledges v_sums v_stages v_isStopped v_begun), (qarI (a 26) (d 26) 8 (upd f_cost (v_stages : Int32).toNatClampNeg x1)), (qarI (a 27) (d 27) 8 f_length)]) rfl dX12_stage_58 (fun H locs St => ?_)
          obtain ⟨f_13, ef_13⟩ : ∃ zz : Nat → Int32, zz = upd f_cost (v_stages : Int32).toNatClampNeg x1 := ⟨_, rfl⟩
          rw [← ef_13] at St
          refine lv_aload_n hx hb dX12_stage_59 rfl (lv_at hl 0 rfl) ?_
          refine cs_get F St 0 rfl rfl inX12 46 (by decide) kf_X12_186 rfl dX12_stage_60 ?_
          refine lv_aload_n hx hb dX12_stage_63 rfl (lv_at hl 0 rfl) ?_
          refine cs_get F St 0 rfl rfl inX12 22 (by decide) kf_X12_286 rfl dX12_stage_64 ?_
          refine lv_iload_n hx hb dX12_stage_67 rfl (lv_at hl 2 rfl) ?_
          refine cs_ist F St 2 1 rfl rfl (vp_in_iff.mpr ⟨by omega, by omega⟩) (w' := [(cMq a h v_taped v_size v_from v_behind v_hand v_value v_fault v_faultAt v_clock v_coin v_loan v_matched v_taxed v_paidStages v_grown v_pledges v_sums v_stages v_isStopped v_begun), (qarI (a 26) (d 26) 8 f_13), (qarI (a 27) (d 27) 8 (upd f_length (v_stages : Int32).toNatClampNeg x2))]) rfl dX12_stage_68 (fun H locs St => ?_)
          obtain ⟨f_14, ef_14⟩ : ∃ zz : Nat → Int32, zz = upd f_length (v_stages : Int32).toNatClampNeg x2 := ⟨_, rfl⟩
          rw [← ef_14] at St
          refine lv_aload_n hx hb dX12_stage_69 rfl (lv_at hl 0 rfl) ?_
          refine lv_dup hx hb dX12_stage_70 rfl ?_
          refine cs_get F St 0 rfl rfl inX12 22 (by decide) kf_X12_286 rfl dX12_stage_71 ?_
          refine lv_iconst (v := 1) hx hb dX12_stage_74 (by decide) ?_
          refine lv_iadd hx hb dX12_stage_75 ?_
          refine lv_topi (fun y_15 ey_15 => ?_)
          first | have jy_15 : y_15.toInt = v_stages.toInt + 1 := (by have q9 := ci_add (x := v_stages) (y := 1) rfl (show (1 : Int32).toInt = 1 by decide) ey_15; omega) | have jy_15 := ci_add (x := v_stages) (y := 1) rfl (show (1 : Int32).toInt = 1 by decide) ey_15
          refine cs_put F St 0 rfl rfl inX12 tyX12_ok nmX12 22 (by decide) kf_X12_286 rfl rfl rfl (Nat.le_of_ble_eq_true rfl) (w' := [(cMq a h v_taped v_size v_from v_behind v_hand v_value v_fault v_faultAt v_clock v_coin v_loan v_matched v_taxed v_paidStages v_grown v_pledges v_sums y_15 v_isStopped v_begun), (qarI (a 26) (d 26) 8 f_13), (qarI (a 27) (d 27) 8 f_14)]) rfl dX12_stage_76 (fun H locs St => ?_)
          refine lv_aload_n hx hb dX12_stage_79 rfl (lv_at hl 0 rfl) ?_
          refine cs_get F St 0 rfl rfl inX12 22 (by decide) kf_X12_286 rfl dX12_stage_80 ?_
          refine lv_iconst (v := 1) hx hb dX12_stage_83 (by decide) ?_
          refine lv_isub hx hb dX12_stage_84 ?_
          refine lv_topi (fun y_16 ey_16 => ?_)
          first | have jy_16 : y_16.toInt = y_15.toInt - 1 := (by have q9 := ci_sub (x := y_15) (y := 1) rfl (show (1 : Int32).toInt = 1 by decide) ey_16; omega) | have jy_16 := ci_sub (x := y_15) (y := 1) rfl (show (1 : Int32).toInt = 1 by decide) ey_16
          exact cs_iret F hr hlk hQ St (y_15, f_13, f_14) (r := y_16) ⟨Or.inr (Or.inr (Or.inr (⟨Int32.toInt_inj.mp (by omega), ⟨by omega, by omega, by omega⟩, by omega, ef_13, ef_14⟩))), by rw [ef_14]; exact mSt_up hSt (by omega) (by omega) (by omega)⟩ [0, 1, 2] rfl (by decide) [] rfl (by decide) (by decide) dX12_stage_85
        ·
          have i43 := ci_eq (x := v_stages) (y := 8) rfl (show (8 : Int32).toInt = 8 by decide) c43
          refine lv_bipush (v := (-3)) hx hb dX12_stage_46 (by decide) ?_
          exact cs_iret F hr hlk hQ St (v_stages, f_cost, f_length) (r := (-3)) ⟨Or.inr (Or.inr (Or.inl ⟨rfl, ⟨by omega, by omega, by omega⟩, rfl, rfl, rfl⟩)), hSt⟩ [0, 1, 2] rfl (by decide) [] rfl (by decide) (by decide) dX12_stage_48
      ·
        have i31 := ci_ne (x := v_isStopped) (y := 0) rfl (show (0 : Int32).toInt = 0 by decide) c31
        refine lv_bipush (v := (-4)) hx hb dX12_stage_34 (by decide) ?_
        exact cs_iret F hr hlk hQ St (v_stages, f_cost, f_length) (r := (-4)) ⟨Or.inr (Or.inl ⟨rfl, ⟨by omega, by omega⟩, rfl, rfl, rfl⟩), hSt⟩ [0, 1, 2] rfl (by decide) [] rfl (by decide) (by decide) dX12_stage_36
    ·
      subst r_7
      have St : cS G k [(cMq a h v_taped v_size v_from v_behind v_hand v_value v_fault v_faultAt v_clock v_coin v_loan v_matched v_taxed v_paidStages v_grown v_pledges v_sums v_stages v_isStopped v_begun), (qarI (a 26) (d 26) 8 f_cost), (qarI (a 27) (d 27) 8 f_length)] [((d 26), .int), ((d 27), .int)] A s H locs := St
      refine lv_if_ne (tgt := 27) hx hb dX12_stage_21 (by decide) (fun c21 => ?_) (fun c21 => ?_)
      · exact absurd c21 (by decide)
      refine lv_bipush (v := (-2)) hx hb dX12_stage_24 (by decide) ?_
      exact cs_iret F hr hlk hQ St (v_stages, f_cost, f_length) (r := (-2)) ⟨Or.inl ⟨rfl, by omega, rfl, rfl, rfl⟩, hSt⟩ [0, 1, 2] rfl (by decide) [] rfl (by decide) (by decide) dX12_stage_26
  ·
    subst r_1
    have St : cS G k [(cMq a h v_taped v_size v_from v_behind v_hand v_value v_fault v_faultAt v_clock v_coin v_loan v_matched v_taxed v_paidStages v_grown v_pledges v_sums v_stages v_isStopped v_begun), (qarI (a 26) (d 26) 8 f_cost), (qarI (a 27) (d 27) 8 f_length)] [((d 26), .int), ((d 27), .int)] A s H locs := St
    refine lv_if_eq (tgt := 24) hx hb dX12_stage_9 (by decide) (fun c9 => ?_) (fun c9 => ?_)
    rotate_left
    · exact absurd (by decide) c9
    refine lv_bipush (v := (-2)) hx hb dX12_stage_24 (by decide) ?_
    exact cs_iret F hr hlk hQ St (v_stages, f_cost, f_length) (r := (-2)) ⟨Or.inl ⟨rfl, by omega, rfl, rfl, rfl⟩, hSt⟩ [0, 1, 2] rfl (by decide) [] rfl (by decide) (by decide) dX12_stage_26

