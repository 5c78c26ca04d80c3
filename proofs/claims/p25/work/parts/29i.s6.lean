set_option maxHeartbeats 4000000 in
set_option maxRecDepth 100000 in
theorem mr_lay (l : Launch) (G : va_G) (k : Nat → Nat) (sz : Nat) (h : Nat) (a : Nat → Nat) (d : Nat → ClassId) (v_taped : Int32) (v_size : Int32) (v_from : Int32) (v_behind : Int32) (v_hand : Int32) (v_value : Int32) (v_fault : Int32) (v_faultAt : Int32) (v_clock : Int32) (v_coin : Int32) (v_loan : Int32) (v_matched : Int32) (v_taxed : Int32) (v_paidStages : Int32) (v_grown : Int32) (v_pledges : Int32) (v_sums : Int32) (v_stages : Int32) (v_isStopped : Int32) (v_begun : Int32) (f_tape : Nat → Int32) (x : Int32) (h0 : 0 ≤ v_taped.toInt) (h1 : v_taped.toInt ≤ 396) : Met l yX12_lay (Cond.code yX12_lay cX12_lay 3 none :: tb) ({ frames := 0, cells := 0, slots := 0, locals := 0 } : Room) (va_Pc [.ref h, .int x] (cP G k [(cMq a h v_taped v_size v_from v_behind v_hand v_value v_fault v_faultAt v_clock v_coin v_loan v_matched v_taxed v_paidStages v_grown v_pledges v_sums v_stages v_isStopped v_begun), (qarI (a 3) (d 3) 400 f_tape)] [((d 3), .byte)] sz)) (va_Qv (fun (u : Int32 × (Nat → Int32)) => match u with | (w_taped, g_tape) => (w_taped.toInt = v_taped.toInt + 4) ∧ (g_tape = lay4 f_tape v_taped.toNatClampNeg x)) (cB G (fun u => match u with | (w_taped, g_tape) => [(cMq a h w_taped v_size v_from v_behind v_hand v_value v_fault v_faultAt v_clock v_coin v_loan v_matched v_taxed v_paidStages v_grown v_pledges v_sums v_stages v_isStopped v_begun), (qarI (a 3) (d 3) 400 g_tape)]) (fun u => match u with | (w_taped, g_tape) => []) (va_A [(cMq a h v_taped v_size v_from v_behind v_hand v_value v_fault v_faultAt v_clock v_coin v_loan v_matched v_taxed v_paidStages v_grown v_pledges v_sums v_stages v_isStopped v_begun), (qarI (a 3) (d 3) 400 f_tape)] sz)) (va_A [(cMq a h v_taped v_size v_from v_behind v_hand v_value v_fault v_faultAt v_clock v_coin v_loan v_matched v_taxed v_paidStages v_grown v_pledges v_sums v_stages v_isStopped v_begun), (qarI (a 3) (d 3) 400 f_tape)] sz)) 0 0 (va_A [(cMq a h v_taped v_size v_from v_behind v_hand v_value v_fault v_faultAt v_clock v_coin v_loan v_matched v_taxed v_paidStages v_grown v_pledges v_sums v_stages v_isStopped v_begun), (qarI (a 3) (d 3) 400 f_tape)] sz) := by
  refine ofC_v (cc := cX12_lay) (maxL := 3) (ret := none) (by decide) rfl (Nat.le_of_ble_eq_true rfl) ?_
  intro p e s m args below meth c A ls Q F hr hin hlk St hl hQ
  have hx := F.1
  have hb := F.2.1
  have hl : lv_has ls 3 [(0, .ref h), (1, .int x)] := hl
  have St : cS G k [(cMq a h v_taped v_size v_from v_behind v_hand v_value v_fault v_faultAt v_clock v_coin v_loan v_matched v_taxed v_paidStages v_grown v_pledges v_sums v_stages v_isStopped v_begun), (qarI (a 3) (d 3) 400 f_tape)] [((d 3), .byte)] A s s.heap [] := St
  refine lv_bipush (v := 24) hx hb dX12_lay_0 (by decide) ?_
  refine lv_istore_n (lv' := [(2, .int 24), (0, .ref h), (1, .int x)]) hx hb dX12_lay_2 rfl hl (by decide) rfl (fun ls hl => ?_)
  refine lv_iload_n hx hb dX12_lay_3 rfl (lv_at hl 0 rfl) ?_
  refine lv_if_lt (tgt := 36) hx hb dX12_lay_4 (by decide) (fun c4 => ?_) (fun c4 => ?_)
  · exact absurd c4 (by decide)
  refine lv_aload_n hx hb dX12_lay_7 rfl (lv_at hl 1 rfl) ?_
  refine cs_get F St 0 rfl rfl inX12 3 (by decide) kf_X12_20 rfl dX12_lay_8 ?_
  refine lv_aload_n hx hb dX12_lay_11 rfl (lv_at hl 1 rfl) ?_
  refine cs_get F St 0 rfl rfl inX12 4 (by decide) kf_X12_203 rfl dX12_lay_12 ?_
  refine lv_iload_n hx hb dX12_lay_15 rfl (lv_at hl 2 rfl) ?_
  refine lv_iload_n hx hb dX12_lay_16 rfl (lv_at hl 0 rfl) ?_
  refine lv_ishr hx hb dX12_lay_17 ?_
  refine lv_topi (fun y_1 ey_1 => ?_)
  refine lv_i2b (v := y_1.toInt8.toInt32) hx hb dX12_lay_18 rfl ?_
  skip
  refine cs_bst F St 1 0 rfl rfl (vp_in_iff.mpr ⟨by omega, by omega⟩) (w' := [(cMq a h v_taped v_size v_from v_behind v_hand v_value v_fault v_faultAt v_clock v_coin v_loan v_matched v_taxed v_paidStages v_grown v_pledges v_sums v_stages v_isStopped v_begun), (qarI (a 3) (d 3) 400 (upd f_tape (v_taped : Int32).toNatClampNeg (vp_nar .byte y_1.toInt8.toInt32)))]) rfl dX12_lay_19 (fun H locs St => ?_)
  obtain ⟨f_2, ef_2⟩ : ∃ zz : Nat → Int32, zz = upd f_tape (v_taped : Int32).toNatClampNeg (vp_nar .byte y_1.toInt8.toInt32) := ⟨_, rfl⟩
  rw [← ef_2] at St
  skip
  refine lv_aload_n hx hb dX12_lay_20 rfl (lv_at hl 1 rfl) ?_
  refine lv_dup hx hb dX12_lay_21 rfl ?_
  refine cs_get F St 0 rfl rfl inX12 4 (by decide) kf_X12_203 rfl dX12_lay_22 ?_
  refine lv_iconst (v := 1) hx hb dX12_lay_25 (by decide) ?_
  refine lv_iadd hx hb dX12_lay_26 ?_
  refine lv_topi (fun y_3 ey_3 => ?_)
  first | have jy_3 : y_3.toInt = v_taped.toInt + 1 := (by have q9 := ci_add (x := v_taped) (y := 1) rfl (show (1 : Int32).toInt = 1 by decide) ey_3; omega) | have jy_3 := ci_add (x := v_taped) (y := 1) rfl (show (1 : Int32).toInt = 1 by decide) ey_3
  refine cs_put F St 0 rfl rfl inX12 tyX12_ok nmX12 4 (by decide) kf_X12_203 rfl rfl rfl (Nat.le_of_ble_eq_true rfl) (w' := [(cMq a h y_3 v_size v_from v_behind v_hand v_value v_fault v_faultAt v_clock v_coin v_loan v_matched v_taxed v_paidStages v_grown v_pledges v_sums v_stages v_isStopped v_begun), (qarI (a 3) (d 3) 400 f_2)]) rfl dX12_lay_27 (fun H locs St => ?_)
  refine lv_iinc (v := 16) (lv' := [(2, .int 16), (0, .ref h), (1, .int x)]) hx hb dX12_lay_30 hl (k := 0) rfl (by decide) (by decide) rfl (fun ls hl => ?_)
  refine lv_goto (tgt := 3) hx hb dX12_lay_33 (by decide) ?_
  refine lv_iload_n hx hb dX12_lay_3 rfl (lv_at hl 0 rfl) ?_
  refine lv_if_lt (tgt := 36) hx hb dX12_lay_4 (by decide) (fun c4 => ?_) (fun c4 => ?_)
  · exact absurd c4 (by decide)
  refine lv_aload_n hx hb dX12_lay_7 rfl (lv_at hl 1 rfl) ?_
  refine cs_get F St 0 rfl rfl inX12 3 (by decide) kf_X12_20 rfl dX12_lay_8 ?_
  refine lv_aload_n hx hb dX12_lay_11 rfl (lv_at hl 1 rfl) ?_
  refine cs_get F St 0 rfl rfl inX12 4 (by decide) kf_X12_203 rfl dX12_lay_12 ?_
  refine lv_iload_n hx hb dX12_lay_15 rfl (lv_at hl 2 rfl) ?_
  refine lv_iload_n hx hb dX12_lay_16 rfl (lv_at hl 0 rfl) ?_
  refine lv_ishr hx hb dX12_lay_17 ?_
  refine lv_topi (fun y_4 ey_4 => ?_)
  refine lv_i2b (v := y_4.toInt8.toInt32) hx hb dX12_lay_18 rfl ?_
  skip
  refine cs_bst F St 1 0 rfl rfl (vp_in_iff.mpr ⟨by omega, by omega⟩) (w' := [(cMq a h y_3 v_size v_from v_behind v_hand v_value v_fault v_faultAt v_clock v_coin v_loan v_matched v_taxed v_paidStages v_grown v_pledges v_sums v_stages v_isStopped v_begun), (qarI (a 3) (d 3) 400 (upd f_2 (y_3 : Int32).toNatClampNeg (vp_nar .byte y_4.toInt8.toInt32)))]) rfl dX12_lay_19 (fun H locs St => ?_)
  obtain ⟨f_5, ef_5⟩ : ∃ zz : Nat → Int32, zz = upd f_2 (y_3 : Int32).toNatClampNeg (vp_nar .byte y_4.toInt8.toInt32) := ⟨_, rfl⟩
  rw [← ef_5] at St
  skip
  refine lv_aload_n hx hb dX12_lay_20 rfl (lv_at hl 1 rfl) ?_
  refine lv_dup hx hb dX12_lay_21 rfl ?_
  refine cs_get F St 0 rfl rfl inX12 4 (by decide) kf_X12_203 rfl dX12_lay_22 ?_
  refine lv_iconst (v := 1) hx hb dX12_lay_25 (by decide) ?_
  refine lv_iadd hx hb dX12_lay_26 ?_
  refine lv_topi (fun y_6 ey_6 => ?_)
  first | have jy_6 : y_6.toInt = y_3.toInt + 1 := (by have q9 := ci_add (x := y_3) (y := 1) rfl (show (1 : Int32).toInt = 1 by decide) ey_6; omega) | have jy_6 := ci_add (x := y_3) (y := 1) rfl (show (1 : Int32).toInt = 1 by decide) ey_6
  refine cs_put F St 0 rfl rfl inX12 tyX12_ok nmX12 4 (by decide) kf_X12_203 rfl rfl rfl (Nat.le_of_ble_eq_true rfl) (w' := [(cMq a h y_6 v_size v_from v_behind v_hand v_value v_fault v_faultAt v_clock v_coin v_loan v_matched v_taxed v_paidStages v_grown v_pledges v_sums v_stages v_isStopped v_begun), (qarI (a 3) (d 3) 400 f_5)]) rfl dX12_lay_27 (fun H locs St => ?_)
  refine lv_iinc (v := 8) (lv' := [(2, .int 8), (0, .ref h), (1, .int x)]) hx hb dX12_lay_30 hl (k := 0) rfl (by decide) (by decide) rfl (fun ls hl => ?_)
  refine lv_goto (tgt := 3) hx hb dX12_lay_33 (by decide) ?_
  refine lv_iload_n hx hb dX12_lay_3 rfl (lv_at hl 0 rfl) ?_
  refine lv_if_lt (tgt := 36) hx hb dX12_lay_4 (by decide) (fun c4 => ?_) (fun c4 => ?_)
  · exact absurd c4 (by decide)
  refine lv_aload_n hx hb dX12_lay_7 rfl (lv_at hl 1 rfl) ?_
  refine cs_get F St 0 rfl rfl inX12 3 (by decide) kf_X12_20 rfl dX12_lay_8 ?_
  refine lv_aload_n hx hb dX12_lay_11 rfl (lv_at hl 1 rfl) ?_
  refine cs_get F St 0 rfl rfl inX12 4 (by decide) kf_X12_203 rfl dX12_lay_12 ?_
  refine lv_iload_n hx hb dX12_lay_15 rfl (lv_at hl 2 rfl) ?_
  refine lv_iload_n hx hb dX12_lay_16 rfl (lv_at hl 0 rfl) ?_
  refine lv_ishr hx hb dX12_lay_17 ?_
  refine lv_topi (fun y_7 ey_7 => ?_)
  refine lv_i2b (v := y_7.toInt8.toInt32) hx hb dX12_lay_18 rfl ?_
  skip
  refine cs_bst F St 1 0 rfl rfl (vp_in_iff.mpr ⟨by omega, by omega⟩) (w' := [(cMq a h y_6 v_size v_from v_behind v_hand v_value v_fault v_faultAt v_clock v_coin v_loan v_matched v_taxed v_paidStages v_grown v_pledges v_sums v_stages v_isStopped v_begun), (qarI (a 3) (d 3) 400 (upd f_5 (y_6 : Int32).toNatClampNeg (vp_nar .byte y_7.toInt8.toInt32)))]) rfl dX12_lay_19 (fun H locs St => ?_)
  obtain ⟨f_8, ef_8⟩ : ∃ zz : Nat → Int32, zz = upd f_5 (y_6 : Int32).toNatClampNeg (vp_nar .byte y_7.toInt8.toInt32) := ⟨_, rfl⟩
  rw [← ef_8] at St
  skip
  refine lv_aload_n hx hb dX12_lay_20 rfl (lv_at hl 1 rfl) ?_
  refine lv_dup hx hb dX12_lay_21 rfl ?_
  refine cs_get F St 0 rfl rfl inX12 4 (by decide) kf_X12_203 rfl dX12_lay_22 ?_
  refine lv_iconst (v := 1) hx hb dX12_lay_25 (by decide) ?_
  refine lv_iadd hx hb dX12_lay_26 ?_
  refine lv_topi (fun y_9 ey_9 => ?_)
  first | have jy_9 : y_9.toInt = y_6.toInt + 1 := (by have q9 := ci_add (x := y_6) (y := 1) rfl (show (1 : Int32).toInt = 1 by decide) ey_9; omega) | have jy_9 := ci_add (x := y_6) (y := 1) rfl (show (1 : Int32).toInt = 1 by decide) ey_9
  refine cs_put F St 0 rfl rfl inX12 tyX12_ok nmX12 4 (by decide) kf_X12_203 rfl rfl rfl (Nat.le_of_ble_eq_true rfl) (w' := [(cMq a h y_9 v_size v_from v_behind v_hand v_value v_fault v_faultAt v_clock v_coin v_loan v_matched v_taxed v_paidStages v_grown v_pledges v_sums v_stages v_isStopped v_begun), (qarI (a 3) (d 3) 400 f_8)]) rfl dX12_lay_27 (fun H locs St => ?_)
  refine lv_iinc (v := 0) (lv' := [(2, .int 0), (0, .ref h), (1, .int x)]) hx hb dX12_lay_30 hl (k := 0) rfl (by decide) (by decide) rfl (fun ls hl => ?_)
  refine lv_goto (tgt := 3) hx hb dX12_lay_33 (by decide) ?_
  refine lv_iload_n hx hb dX12_lay_3 rfl (lv_at hl 0 rfl) ?_
  refine lv_if_lt (tgt := 36) hx hb dX12_lay_4 (by decide) (fun c4 => ?_) (fun c4 => ?_)
  · exact absurd c4 (by decide)
  refine lv_aload_n hx hb dX12_lay_7 rfl (lv_at hl 1 rfl) ?_
  refine cs_get F St 0 rfl rfl inX12 3 (by decide) kf_X12_20 rfl dX12_lay_8 ?_
  refine lv_aload_n hx hb dX12_lay_11 rfl (lv_at hl 1 rfl) ?_
  refine cs_get F St 0 rfl rfl inX12 4 (by decide) kf_X12_203 rfl dX12_lay_12 ?_
  refine lv_iload_n hx hb dX12_lay_15 rfl (lv_at hl 2 rfl) ?_
  refine lv_iload_n hx hb dX12_lay_16 rfl (lv_at hl 0 rfl) ?_
  refine lv_ishr hx hb dX12_lay_17 ?_
  refine lv_topi (fun y_10 ey_10 => ?_)
  refine lv_i2b (v := y_10.toInt8.toInt32) hx hb dX12_lay_18 rfl ?_
  skip
  refine cs_bst F St 1 0 rfl rfl (vp_in_iff.mpr ⟨by omega, by omega⟩) (w' := [(cMq a h y_9 v_size v_from v_behind v_hand v_value v_fault v_faultAt v_clock v_coin v_loan v_matched v_taxed v_paidStages v_grown v_pledges v_sums v_stages v_isStopped v_begun), (qarI (a 3) (d 3) 400 (upd f_8 (y_9 : Int32).toNatClampNeg (vp_nar .byte y_10.toInt8.toInt32)))]) rfl dX12_lay_19 (fun H locs St => ?_)
  obtain ⟨f_11, ef_11⟩ : ∃ zz : Nat → Int32, zz = upd f_8 (y_9 : Int32).toNatClampNeg (vp_nar .byte y_10.toInt8.toInt32) := ⟨_, rfl⟩
  rw [← ef_11] at St
  skip
  refine lv_aload_n hx hb dX12_lay_20 rfl (lv_at hl 1 rfl) ?_
  refine lv_dup hx hb dX12_lay_21 rfl ?_
  refine cs_get F St 0 rfl rfl inX12 4 (by decide) kf_X12_203 rfl dX12_lay_22 ?_
  refine lv_iconst (v := 1) hx hb dX12_lay_25 (by decide) ?_
  refine lv_iadd hx hb dX12_lay_26 ?_
  refine lv_topi (fun y_12 ey_12 => ?_)
  first | have jy_12 : y_12.toInt = y_9.toInt + 1 := (by have q9 := ci_add (x := y_9) (y := 1) rfl (show (1 : Int32).toInt = 1 by decide) ey_12; omega) | have jy_12 := ci_add (x := y_9) (y := 1) rfl (show (1 : Int32).toInt = 1 by decide) ey_12
  refine cs_put F St 0 rfl rfl inX12 tyX12_ok nmX12 4 (by decide) kf_X12_203 rfl rfl rfl (Nat.le_of_ble_eq_true rfl) (w' := [(cMq a h y_12 v_size v_from v_behind v_hand v_value v_fault v_faultAt v_clock v_coin v_loan v_matched v_taxed v_paidStages v_grown v_pledges v_sums v_stages v_isStopped v_begun), (qarI (a 3) (d 3) 400 f_11)]) rfl dX12_lay_27 (fun H locs St => ?_)
  refine lv_iinc (v := (-8)) (lv' := [(2, .int (-8)), (0, .ref h), (1, .int x)]) hx hb dX12_lay_30 hl (k := 0) rfl (by decide) (by decide) rfl (fun ls hl => ?_)
  refine lv_goto (tgt := 3) hx hb dX12_lay_33 (by decide) ?_
  refine lv_iload_n hx hb dX12_lay_3 rfl (lv_at hl 0 rfl) ?_
  refine lv_if_lt (tgt := 36) hx hb dX12_lay_4 (by decide) (fun c4 => ?_) (fun c4 => ?_)
  rotate_left
  · exact absurd (by decide) c4
  exact cs_vret F hr hlk hQ St (y_12, f_11) ⟨by omega, lay4_of (n1 := y_3) (n2 := y_6) (n3 := y_9) h0 (by omega) (by omega) (by omega) ef_2 ef_5 ef_8 ef_11 (by rw [ey_1]; exact by4_s x 24 (Or.inl rfl)) (by rw [ey_4]; exact by4_s x 16 (Or.inr (Or.inl rfl))) (by rw [ey_7]; exact by4_s x 8 (Or.inr (Or.inr (Or.inl rfl)))) (by rw [ey_10]; exact by4_s x 0 (Or.inr (Or.inr (Or.inr rfl))))⟩ [0, 1] rfl (by decide) [] rfl (by decide) (by decide) dX12_lay_36
set_option maxHeartbeats 4000000 in
set_option maxRecDepth 100000 in
theorem mr_feed (l : Launch) (G : va_G) (k : Nat → Nat) (sz : Nat) (h : Nat) (a : Nat → Nat) (d : Nat → ClassId) (v_taped : Int32) (v_size : Int32) (v_from : Int32) (v_behind : Int32) (v_hand : Int32) (v_value : Int32) (v_fault : Int32) (v_faultAt : Int32) (v_clock : Int32) (v_coin : Int32) (v_loan : Int32) (v_matched : Int32) (v_taxed : Int32) (v_paidStages : Int32) (v_grown : Int32) (v_pledges : Int32) (v_sums : Int32) (v_stages : Int32) (v_isStopped : Int32) (v_begun : Int32) (f_tape : Nat → Int32) (x1 : Int32) (x2 : Int32) (x3 : Int32) (x4 : Int32) (x5 : Int32) (ht0 : 0 ≤ v_taped.toInt) (ht1 : v_taped.toInt ≤ 400) : Met l yX12_feed (Cond.code yX12_feed cX12_feed 6 (some .int) :: tb) ({ frames := 1, cells := 0, slots := 0, locals := 22 } : Room) (va_Pc [.ref h, .int x1, .int x2, .int x3, .int x4, .int x5] (cP G k [(cMq a h v_taped v_size v_from v_behind v_hand v_value v_fault v_faultAt v_clock v_coin v_loan v_matched v_taxed v_paidStages v_grown v_pledges v_sums v_stages v_isStopped v_begun), (qarI (a 3) (d 3) 400 f_tape)] [((d 3), .byte)] sz)) (va_Qi (fun (r : Int32) (u : Int32 × (Nat → Int32)) => match u with | (w_taped, g_tape) => ((380 < v_taped.toInt ∧ r = (-3) ∧ w_taped = v_taped ∧ g_tape = f_tape) ∨ (v_taped.toInt ≤ 380 ∧ r = w_taped ∧ w_taped.toInt = v_taped.toInt + 20 ∧ g_tape = lay20 f_tape v_taped.toNatClampNeg x1 x2 x3 x4 x5))) (cB G (fun u => match u with | (w_taped, g_tape) => [(cMq a h w_taped v_size v_from v_behind v_hand v_value v_fault v_faultAt v_clock v_coin v_loan v_matched v_taxed v_paidStages v_grown v_pledges v_sums v_stages v_isStopped v_begun), (qarI (a 3) (d 3) 400 g_tape)]) (fun u => match u with | (w_taped, g_tape) => []) (va_A [(cMq a h v_taped v_size v_from v_behind v_hand v_value v_fault v_faultAt v_clock v_coin v_loan v_matched v_taxed v_paidStages v_grown v_pledges v_sums v_stages v_isStopped v_begun), (qarI (a 3) (d 3) 400 f_tape)] sz)) (va_A [(cMq a h v_taped v_size v_from v_behind v_hand v_value v_fault v_faultAt v_clock v_coin v_loan v_matched v_taxed v_paidStages v_grown v_pledges v_sums v_stages v_isStopped v_begun), (qarI (a 3) (d 3) 400 f_tape)] sz)) 0 0 (va_A [(cMq a h v_taped v_size v_from v_behind v_hand v_value v_fault v_faultAt v_clock v_coin v_loan v_matched v_taxed v_paidStages v_grown v_pledges v_sums v_stages v_isStopped v_begun), (qarI (a 3) (d 3) 400 f_tape)] sz) := by
  refine ofC_i (cc := cX12_feed) (maxL := 6) (ret := (some .int)) (by decide) rfl (Nat.le_of_ble_eq_true rfl) ?_
  intro p e s m args below meth c A ls Q F hr hin hlk St hl hQ
  have hx := F.1
  have hb := F.2.1
  have hl : lv_has ls 6 [(0, .ref h), (1, .int x1), (2, .int x2), (3, .int x3), (4, .int x4), (5, .int x5)] := hl
  have St : cS G k [(cMq a h v_taped v_size v_from v_behind v_hand v_value v_fault v_faultAt v_clock v_coin v_loan v_matched v_taxed v_paidStages v_grown v_pledges v_sums v_stages v_isStopped v_begun), (qarI (a 3) (d 3) 400 f_tape)] [((d 3), .byte)] A s s.heap [] := St
  refine lv_aload_n hx hb dX12_feed_0 rfl (lv_at hl 0 rfl) ?_
  refine cs_get F St 0 rfl rfl inX12 4 (by decide) kf_X12_203 rfl dX12_feed_1 ?_
  refine lv_bipush (v := 20) hx hb dX12_feed_4 (by decide) ?_
  refine lv_iadd hx hb dX12_feed_6 ?_
  refine lv_topi (fun y_1 ey_1 => ?_)
  first | have jy_1 : y_1.toInt = v_taped.toInt + 20 := (by have q9 := ci_add (x := v_taped) (y := 20) rfl (show (20 : Int32).toInt = 20 by decide) ey_1; omega) | have jy_1 := ci_add (x := v_taped) (y := 20) rfl (show (20 : Int32).toInt = 20 by decide) ey_1
  refine lv_sipush (v := 400) hx hb dX12_feed_7 (by decide) ?_
  refine lv_icmp_le (tgt := 16) hx hb dX12_feed_10 (by decide) (fun c10 => ?_) (fun c10 => ?_)
  ·
    have i10 := ci_le (x := y_1) (y := 400) rfl (show (400 : Int32).toInt = 400 by decide) c10
    refine lv_aload_n hx hb dX12_feed_16 rfl (lv_at hl 0 rfl) ?_
    refine lv_iload_n hx hb dX12_feed_17 rfl (lv_at hl 1 rfl) ?_
    refine cs_v St [0, 1] [] (wc := [(cMq a h v_taped v_size v_from v_behind v_hand v_value v_fault v_faultAt v_clock v_coin v_loan v_matched v_taxed v_paidStages v_grown v_pledges v_sums v_stages v_isStopped v_begun), (qarI (a 3) (d 3) 400 f_tape)]) (wr := []) rfl rfl (by decide) (by decide) (va_runV (As := [.int x1]) (rest := []) F (mr_lay l G k _ h a d v_taped v_size v_from v_behind v_hand v_value v_fault v_faultAt v_clock v_coin v_loan v_matched v_taxed v_paidStages v_grown v_pledges v_sums v_stages v_isStopped v_begun f_tape x1 (by omega) (by omega)) (cwVt F mf_X12_lay km_X12_206 rfl rfl ⟨Nat.le_of_ble_eq_true rfl, Nat.le_of_ble_eq_true rfl⟩) (cs_preV St [0, 1] rfl (by decide) [0] rfl (ci := 12) (q0 := 0) rfl rfl) rfl rfl hl.1 rfl (lv_room (Nat.le_of_ble_eq_true rfl)) dX12_feed_18 ⟨Nat.le_of_ble_eq_true rfl, Nat.le_of_ble_eq_true rfl⟩) (fun u_3 H locs hw St => ?_)
    obtain ⟨w_taped_4, g_tape_5⟩ := u_3
    try dsimp only at hw
    obtain ⟨hf_6, hl4_7⟩ := hw
    have St : cS G k [(cMq a h w_taped_4 v_size v_from v_behind v_hand v_value v_fault v_faultAt v_clock v_coin v_loan v_matched v_taxed v_paidStages v_grown v_pledges v_sums v_stages v_isStopped v_begun), (qarI (a 3) (d 3) 400 g_tape_5)] [((d 3), .byte)] A s H locs := St
    refine lv_aload_n hx hb dX12_feed_21 rfl (lv_at hl 0 rfl) ?_
    refine lv_iload_n hx hb dX12_feed_22 rfl (lv_at hl 2 rfl) ?_
    refine cs_v St [0, 1] [] (wc := [(cMq a h w_taped_4 v_size v_from v_behind v_hand v_value v_fault v_faultAt v_clock v_coin v_loan v_matched v_taxed v_paidStages v_grown v_pledges v_sums v_stages v_isStopped v_begun), (qarI (a 3) (d 3) 400 g_tape_5)]) (wr := []) rfl rfl (by decide) (by decide) (va_runV (As := [.int x2]) (rest := []) F (mr_lay l G k _ h a d w_taped_4 v_size v_from v_behind v_hand v_value v_fault v_faultAt v_clock v_coin v_loan v_matched v_taxed v_paidStages v_grown v_pledges v_sums v_stages v_isStopped v_begun g_tape_5 x2 (by omega) (by omega)) (cwVt F mf_X12_lay km_X12_206 rfl rfl ⟨Nat.le_of_ble_eq_true rfl, Nat.le_of_ble_eq_true rfl⟩) (cs_preV St [0, 1] rfl (by decide) [0] rfl (ci := 12) (q0 := 0) rfl rfl) rfl rfl hl.1 rfl (lv_room (Nat.le_of_ble_eq_true rfl)) dX12_feed_23 ⟨Nat.le_of_ble_eq_true rfl, Nat.le_of_ble_eq_true rfl⟩) (fun u_9 H locs hw St => ?_)
    obtain ⟨w_taped_10, g_tape_11⟩ := u_9
    try dsimp only at hw
    obtain ⟨hf_12, hl4_13⟩ := hw
    have St : cS G k [(cMq a h w_taped_10 v_size v_from v_behind v_hand v_value v_fault v_faultAt v_clock v_coin v_loan v_matched v_taxed v_paidStages v_grown v_pledges v_sums v_stages v_isStopped v_begun), (qarI (a 3) (d 3) 400 g_tape_11)] [((d 3), .byte)] A s H locs := St
    refine lv_aload_n hx hb dX12_feed_26 rfl (lv_at hl 0 rfl) ?_
    refine lv_iload_n hx hb dX12_feed_27 rfl (lv_at hl 3 rfl) ?_
    refine cs_v St [0, 1] [] (wc := [(cMq a h w_taped_10 v_size v_from v_behind v_hand v_value v_fault v_faultAt v_clock v_coin v_loan v_matched v_taxed v_paidStages v_grown v_pledges v_sums v_stages v_isStopped v_begun), (qarI (a 3) (d 3) 400 g_tape_11)]) (wr := []) rfl rfl (by decide) (by decide) (va_runV (As := [.int x3]) (rest := []) F (mr_lay l G k _ h a d w_taped_10 v_size v_from v_behind v_hand v_value v_fault v_faultAt v_clock v_coin v_loan v_matched v_taxed v_paidStages v_grown v_pledges v_sums v_stages v_isStopped v_begun g_tape_11 x3 (by omega) (by omega)) (cwVt F mf_X12_lay km_X12_206 rfl rfl ⟨Nat.le_of_ble_eq_true rfl, Nat.le_of_ble_eq_true rfl⟩) (cs_preV St [0, 1] rfl (by decide) [0] rfl (ci := 12) (q0 := 0) rfl rfl) rfl rfl hl.1 rfl (lv_room (Nat.le_of_ble_eq_true rfl)) dX12_feed_28 ⟨Nat.le_of_ble_eq_true rfl, Nat.le_of_ble_eq_true rfl⟩) (fun u_15 H locs hw St => ?_)
    obtain ⟨w_taped_16, g_tape_17⟩ := u_15
    try dsimp only at hw
    obtain ⟨hf_18, hl4_19⟩ := hw
    have St : cS G k [(cMq a h w_taped_16 v_size v_from v_behind v_hand v_value v_fault v_faultAt v_clock v_coin v_loan v_matched v_taxed v_paidStages v_grown v_pledges v_sums v_stages v_isStopped v_begun), (qarI (a 3) (d 3) 400 g_tape_17)] [((d 3), .byte)] A s H locs := St
    refine lv_aload_n hx hb dX12_feed_31 rfl (lv_at hl 0 rfl) ?_
    refine lv_iload hx hb dX12_feed_32 (lv_at hl 4 rfl) ?_
    refine cs_v St [0, 1] [] (wc := [(cMq a h w_taped_16 v_size v_from v_behind v_hand v_value v_fault v_faultAt v_clock v_coin v_loan v_matched v_taxed v_paidStages v_grown v_pledges v_sums v_stages v_isStopped v_begun), (qarI (a 3) (d 3) 400 g_tape_17)]) (wr := []) rfl rfl (by decide) (by decide) (va_runV (As := [.int x4]) (rest := []) F (mr_lay l G k _ h a d w_taped_16 v_size v_from v_behind v_hand v_value v_fault v_faultAt v_clock v_coin v_loan v_matched v_taxed v_paidStages v_grown v_pledges v_sums v_stages v_isStopped v_begun g_tape_17 x4 (by omega) (by omega)) (cwVt F mf_X12_lay km_X12_206 rfl rfl ⟨Nat.le_of_ble_eq_true rfl, Nat.le_of_ble_eq_true rfl⟩) (cs_preV St [0, 1] rfl (by decide) [0] rfl (ci := 12) (q0 := 0) rfl rfl) rfl rfl hl.1 rfl (lv_room (Nat.le_of_ble_eq_true rfl)) dX12_feed_34 ⟨Nat.le_of_ble_eq_true rfl, Nat.le_of_ble_eq_true rfl⟩) (fun u_21 H locs hw St => ?_)
    obtain ⟨w_taped_22, g_tape_23⟩ := u_21
    try dsimp only at hw
    obtain ⟨hf_24, hl4_25⟩ := hw
    have St : cS G k [(cMq a h w_taped_22 v_size v_from v_behind v_hand v_value v_fault v_faultAt v_clock v_coin v_loan v_matched v_taxed v_paidStages v_grown v_pledges v_sums v_stages v_isStopped v_begun), (qarI (a 3) (d 3) 400 g_tape_23)] [((d 3), .byte)] A s H locs := St
    refine lv_aload_n hx hb dX12_feed_37 rfl (lv_at hl 0 rfl) ?_
    refine lv_iload hx hb dX12_feed_38 (lv_at hl 5 rfl) ?_
    refine cs_v St [0, 1] [] (wc := [(cMq a h w_taped_22 v_size v_from v_behind v_hand v_value v_fault v_faultAt v_clock v_coin v_loan v_matched v_taxed v_paidStages v_grown v_pledges v_sums v_stages v_isStopped v_begun), (qarI (a 3) (d 3) 400 g_tape_23)]) (wr := []) rfl rfl (by decide) (by decide) (va_runV (As := [.int x5]) (rest := []) F (mr_lay l G k _ h a d w_taped_22 v_size v_from v_behind v_hand v_value v_fault v_faultAt v_clock v_coin v_loan v_matched v_taxed v_paidStages v_grown v_pledges v_sums v_stages v_isStopped v_begun g_tape_23 x5 (by omega) (by omega)) (cwVt F mf_X12_lay km_X12_206 rfl rfl ⟨Nat.le_of_ble_eq_true rfl, Nat.le_of_ble_eq_true rfl⟩) (cs_preV St [0, 1] rfl (by decide) [0] rfl (ci := 12) (q0 := 0) rfl rfl) rfl rfl hl.1 rfl (lv_room (Nat.le_of_ble_eq_true rfl)) dX12_feed_40 ⟨Nat.le_of_ble_eq_true rfl, Nat.le_of_ble_eq_true rfl⟩) (fun u_27 H locs hw St => ?_)
    obtain ⟨w_taped_28, g_tape_29⟩ := u_27
    try dsimp only at hw
    obtain ⟨hf_30, hl4_31⟩ := hw
    have St : cS G k [(cMq a h w_taped_28 v_size v_from v_behind v_hand v_value v_fault v_faultAt v_clock v_coin v_loan v_matched v_taxed v_paidStages v_grown v_pledges v_sums v_stages v_isStopped v_begun), (qarI (a 3) (d 3) 400 g_tape_29)] [((d 3), .byte)] A s H locs := St
    refine lv_aload_n hx hb dX12_feed_43 rfl (lv_at hl 0 rfl) ?_
    refine cs_get F St 0 rfl rfl inX12 4 (by decide) kf_X12_203 rfl dX12_feed_44 ?_
    exact cs_iret F hr hlk hQ St (w_taped_28, g_tape_29) (r := w_taped_28) (Or.inr ⟨by omega, rfl, by omega, lay20_of ht0 (by omega) (by omega) (by omega) (by omega) hl4_7 hl4_13 hl4_19 hl4_25 hl4_31⟩) [0, 1] rfl (by decide) [] rfl (by decide) (by decide) dX12_feed_47
  ·
    have i10 := ci_nle (x := y_1) (y := 400) rfl (show (400 : Int32).toInt = 400 by decide) c10
    refine lv_bipush (v := (-3)) hx hb dX12_feed_13 (by decide) ?_
    exact cs_iret F hr hlk hQ St (v_taped, f_tape) (r := (-3)) (Or.inl ⟨by omega, rfl, rfl, rfl⟩) [0, 1] rfl (by decide) [] rfl (by decide) (by decide) dX12_feed_15
set_option maxHeartbeats 4000000 in
set_option maxRecDepth 100000 in
theorem mr_fault (l : Launch) (G : va_G) (k : Nat → Nat) (sz : Nat) (h : Nat) (a : Nat → Nat) (d : Nat → ClassId) (v_taped : Int32) (v_size : Int32) (v_from : Int32) (v_behind : Int32) (v_hand : Int32) (v_value : Int32) (v_fault : Int32) (v_faultAt : Int32) (v_clock : Int32) (v_coin : Int32) (v_loan : Int32) (v_matched : Int32) (v_taxed : Int32) (v_paidStages : Int32) (v_grown : Int32) (v_pledges : Int32) (v_sums : Int32) (v_stages : Int32) (v_isStopped : Int32) (v_begun : Int32) (x1 : Int32) : Met l yX12_fault (Cond.code yX12_fault cX12_fault 2 (some .int) :: tb) ({ frames := 0, cells := 0, slots := 0, locals := 0 } : Room) (va_Pc [.ref h, .int x1] (cP G k [(cMq a h v_taped v_size v_from v_behind v_hand v_value v_fault v_faultAt v_clock v_coin v_loan v_matched v_taxed v_paidStages v_grown v_pledges v_sums v_stages v_isStopped v_begun)] [] sz)) (va_Qi (fun (r : Int32) (_ : Unit) => ((x1 = 0 ∧ r = v_fault) ∨ (x1 = 1 ∧ r = v_faultAt) ∨ (¬ x1 = 0 ∧ ¬ x1 = 1 ∧ r = (-1)))) (cB G (fun (_ : Unit) => [(cMq a h v_taped v_size v_from v_behind v_hand v_value v_fault v_faultAt v_clock v_coin v_loan v_matched v_taxed v_paidStages v_grown v_pledges v_sums v_stages v_isStopped v_begun)]) (fun (_ : Unit) => []) (va_A [(cMq a h v_taped v_size v_from v_behind v_hand v_value v_fault v_faultAt v_clock v_coin v_loan v_matched v_taxed v_paidStages v_grown v_pledges v_sums v_stages v_isStopped v_begun)] sz)) (va_A [(cMq a h v_taped v_size v_from v_behind v_hand v_value v_fault v_faultAt v_clock v_coin v_loan v_matched v_taxed v_paidStages v_grown v_pledges v_sums v_stages v_isStopped v_begun)] sz)) 0 0 (va_A [(cMq a h v_taped v_size v_from v_behind v_hand v_value v_fault v_faultAt v_clock v_coin v_loan v_matched v_taxed v_paidStages v_grown v_pledges v_sums v_stages v_isStopped v_begun)] sz) := by
  refine ofC_i (cc := cX12_fault) (maxL := 2) (ret := (some .int)) (by decide) rfl (Nat.le_of_ble_eq_true rfl) ?_
  intro p e s m args below meth c A ls Q F hr hin hlk St hl hQ
  have hx := F.1
  have hb := F.2.1
  have hl : lv_has ls 2 [(0, .ref h), (1, .int x1)] := hl
  have St : cS G k [(cMq a h v_taped v_size v_from v_behind v_hand v_value v_fault v_faultAt v_clock v_coin v_loan v_matched v_taxed v_paidStages v_grown v_pledges v_sums v_stages v_isStopped v_begun)] [] A s s.heap [] := St
  refine lv_iload_n hx hb dX12_fault_0 rfl (lv_at hl 1 rfl) ?_
  refine lv_if_ne (tgt := 11) hx hb dX12_fault_1 (by decide) (fun c1 => ?_) (fun c1 => ?_)
  ·
    have i1 := ci_ne (x := x1) (y := 0) rfl (show (0 : Int32).toInt = 0 by decide) c1
    refine lv_iload_n hx hb dX12_fault_11 rfl (lv_at hl 1 rfl) ?_
    refine lv_iconst (v := 1) hx hb dX12_fault_12 (by decide) ?_
    refine lv_icmp_ne (tgt := 23) hx hb dX12_fault_13 (by decide) (fun c13 => ?_) (fun c13 => ?_)
    ·
      have i13 := ci_ne (x := x1) (y := 1) rfl (show (1 : Int32).toInt = 1 by decide) c13
      refine lv_iconst (v := (-1)) hx hb dX12_fault_23 (by decide) ?_
      exact cs_iret F hr hlk hQ St () (r := (-1)) (Or.inr (Or.inr ⟨c1, c13, rfl⟩)) [0] rfl (by decide) [] rfl (by decide) (by decide) dX12_fault_24
    ·
      have i13 := ci_eq (x := x1) (y := 1) rfl (show (1 : Int32).toInt = 1 by decide) c13
      refine lv_aload_n hx hb dX12_fault_16 rfl (lv_at hl 0 rfl) ?_
      refine cs_get F St 0 rfl rfl inX12 11 (by decide) kf_X12_10 rfl dX12_fault_17 ?_
      refine lv_goto (tgt := 24) hx hb dX12_fault_20 (by decide) ?_
      exact cs_iret F hr hlk hQ St () (r := v_faultAt) (Or.inr (Or.inl ⟨c13, rfl⟩)) [0] rfl (by decide) [] rfl (by decide) (by decide) dX12_fault_24
  ·
    have i1 := ci_eq (x := x1) (y := 0) rfl (show (0 : Int32).toInt = 0 by decide) c1
    refine lv_aload_n hx hb dX12_fault_4 rfl (lv_at hl 0 rfl) ?_
    refine cs_get F St 0 rfl rfl inX12 10 (by decide) kf_X12_1 rfl dX12_fault_5 ?_
    refine lv_goto (tgt := 24) hx hb dX12_fault_8 (by decide) ?_
    exact cs_iret F hr hlk hQ St () (r := v_fault) (Or.inl ⟨c1, rfl⟩) [0] rfl (by decide) [] rfl (by decide) (by decide) dX12_fault_24
set_option maxHeartbeats 4000000 in
set_option maxRecDepth 100000 in
theorem mr_rule (l : Launch) (G : va_G) (k : Nat → Nat) (sz : Nat) (h : Nat) (a : Nat → Nat) (d : Nat → ClassId) (v_taped : Int32) (v_size : Int32) (v_from : Int32) (v_behind : Int32) (v_hand : Int32) (v_value : Int32) (v_fault : Int32) (v_faultAt : Int32) (v_clock : Int32) (v_coin : Int32) (v_loan : Int32) (v_matched : Int32) (v_taxed : Int32) (v_paidStages : Int32) (v_grown : Int32) (v_pledges : Int32) (v_sums : Int32) (v_stages : Int32) (v_isStopped : Int32) (v_begun : Int32) (f_rule : Nat → Int32) (x1 : Int32) : Met l yX12_rule (Cond.code yX12_rule cX12_rule 2 (some .int) :: tb) ({ frames := 1, cells := 0, slots := 0, locals := 25 } : Room) (va_Pc [.ref h, .int x1] (cP G k [(cMq a h v_taped v_size v_from v_behind v_hand v_value v_fault v_faultAt v_clock v_coin v_loan v_matched v_taxed v_paidStages v_grown v_pledges v_sums v_stages v_isStopped v_begun), (qarI (a 0) (d 0) 9 f_rule)] [((d 0), .int)] sz)) (va_Qi (fun (r : Int32) (_ : Unit) => (((0 ≤ x1.toInt ∧ x1.toInt ≤ 8) ∧ r = f_rule x1.toNatClampNeg) ∨ (¬ (0 ≤ x1.toInt ∧ x1.toInt ≤ 8) ∧ r = (-9)))) (cB G (fun (_ : Unit) => [(cMq a h v_taped v_size v_from v_behind v_hand v_value v_fault v_faultAt v_clock v_coin v_loan v_matched v_taxed v_paidStages v_grown v_pledges v_sums v_stages v_isStopped v_begun), (qarI (a 0) (d 0) 9 f_rule)]) (fun (_ : Unit) => []) (va_A [(cMq a h v_taped v_size v_from v_behind v_hand v_value v_fault v_faultAt v_clock v_coin v_loan v_matched v_taxed v_paidStages v_grown v_pledges v_sums v_stages v_isStopped v_begun), (qarI (a 0) (d 0) 9 f_rule)] sz)) (va_A [(cMq a h v_taped v_size v_from v_behind v_hand v_value v_fault v_faultAt v_clock v_coin v_loan v_matched v_taxed v_paidStages v_grown v_pledges v_sums v_stages v_isStopped v_begun), (qarI (a 0) (d 0) 9 f_rule)] sz)) 0 0 (va_A [(cMq a h v_taped v_size v_from v_behind v_hand v_value v_fault v_faultAt v_clock v_coin v_loan v_matched v_taxed v_paidStages v_grown v_pledges v_sums v_stages v_isStopped v_begun), (qarI (a 0) (d 0) 9 f_rule)] sz) := by
  refine ofC_i (cc := cX12_rule) (maxL := 2) (ret := (some .int)) (by decide) rfl (Nat.le_of_ble_eq_true rfl) ?_
  intro p e s m args below meth c A ls Q F hr hin hlk St hl hQ
  have hx := F.1
  have hb := F.2.1
  have hl : lv_has ls 2 [(0, .ref h), (1, .int x1)] := hl
  have St : cS G k [(cMq a h v_taped v_size v_from v_behind v_hand v_value v_fault v_faultAt v_clock v_coin v_loan v_matched v_taxed v_paidStages v_grown v_pledges v_sums v_stages v_isStopped v_begun), (qarI (a 0) (d 0) 9 f_rule)] [((d 0), .int)] A s s.heap [] := St
  refine lv_iload_n hx hb dX12_rule_0 rfl (lv_at hl 1 rfl) ?_
  refine lv_i2l (v := x1.toInt64) hx hb dX12_rule_1 rfl ?_
  refine lv_lconst (v := 0) hx hb dX12_rule_2 (by decide) ?_
  refine lv_ldc2 (v := 8) hx hb F.2.2.2.1 (F.2.2.2.2 _ kk_X12_212) dX12_rule_3 ?_
  refine cs_i St [] [0, 1] (wc := []) (wr := [(cMq a h v_taped v_size v_from v_behind v_hand v_value v_fault v_faultAt v_clock v_coin v_loan v_matched v_taxed v_paidStages v_grown v_pledges v_sums v_stages v_isStopped v_begun), (qarI (a 0) (d 0) 9 f_rule)]) rfl rfl (by decide) (by decide) (va_runS (As := [.long x1.toInt64, .long 0, .long 8]) (rest := []) F (c12_in l G k _ x1.toInt64 0 8 x1.toInt 0 8 (Int32.toInt_toInt64 x1) (by decide) (by decide)) (cwSt F mf_X12_in km_X12_58 rfl rfl ⟨Nat.le_of_ble_eq_true rfl, Nat.le_of_ble_eq_true rfl⟩) (cs_pre St [] rfl (by decide) [] rfl) rfl rfl hl.1 rfl (lv_room (Nat.le_of_ble_eq_true rfl)) dX12_rule_6 ⟨Nat.le_of_ble_eq_true rfl, Nat.le_of_ble_eq_true rfl⟩) (fun r_1 u_2 H locs hw St => ?_)
  try dsimp only at hw
  rcases hw with ⟨z_3, hf_4⟩ | ⟨z_5, hf_6⟩
  ·
    subst r_1
    have St : cS G k [(cMq a h v_taped v_size v_from v_behind v_hand v_value v_fault v_faultAt v_clock v_coin v_loan v_matched v_taxed v_paidStages v_grown v_pledges v_sums v_stages v_isStopped v_begun), (qarI (a 0) (d 0) 9 f_rule)] [((d 0), .int)] A s H locs := St
    refine lv_if_eq (tgt := 21) hx hb dX12_rule_9 (by decide) (fun c9 => ?_) (fun c9 => ?_)
    · exact absurd c9 (by decide)
    refine lv_aload_n hx hb dX12_rule_12 rfl (lv_at hl 0 rfl) ?_
    refine cs_get F St 0 rfl rfl inX12 0 (by decide) kf_X12_114 rfl dX12_rule_13 ?_
    refine lv_iload_n hx hb dX12_rule_16 rfl (lv_at hl 1 rfl) ?_
    refine cs_ild F St 1 0 rfl rfl (vp_in_iff.mpr ⟨by omega, by omega⟩) dX12_rule_17 ?_
    refine lv_topi (fun y_7 ey_7 => ?_)
    refine lv_goto (tgt := 23) hx hb dX12_rule_18 (by decide) ?_
    exact cs_iret F hr hlk hQ St () (r := y_7) (Or.inl ⟨by omega, ey_7⟩) [0, 1] rfl (by decide) [] rfl (by decide) (by decide) dX12_rule_23
  ·
    subst r_1
    have St : cS G k [(cMq a h v_taped v_size v_from v_behind v_hand v_value v_fault v_faultAt v_clock v_coin v_loan v_matched v_taxed v_paidStages v_grown v_pledges v_sums v_stages v_isStopped v_begun), (qarI (a 0) (d 0) 9 f_rule)] [((d 0), .int)] A s H locs := St
    refine lv_if_eq (tgt := 21) hx hb dX12_rule_9 (by decide) (fun c9 => ?_) (fun c9 => ?_)
    rotate_left
    · exact absurd (by decide) c9
    refine lv_bipush (v := (-9)) hx hb dX12_rule_21 (by decide) ?_
    exact cs_iret F hr hlk hQ St () (r := (-9)) (Or.inr ⟨by omega, rfl⟩) [0, 1] rfl (by decide) [] rfl (by decide) (by decide) dX12_rule_23

