set_option maxHeartbeats 4000000 in
set_option maxRecDepth 100000 in
theorem mr_key (l : Launch) (G : va_G) (k : Nat → Nat) (sz : Nat) (h : Nat) (a : Nat → Nat) (d : Nat → ClassId) (v_taped : Int32) (v_size : Int32) (v_from : Int32) (v_behind : Int32) (v_hand : Int32) (v_value : Int32) (v_fault : Int32) (v_faultAt : Int32) (v_clock : Int32) (v_coin : Int32) (v_loan : Int32) (v_matched : Int32) (v_taxed : Int32) (v_paidStages : Int32) (v_grown : Int32) (v_pledges : Int32) (v_sums : Int32) (v_stages : Int32) (v_isStopped : Int32) (v_begun : Int32) (f_tape : Nat → Int32) (hs0 : 0 ≤ v_size.toInt) (hs1 : v_size.toInt ≤ 400) (hb0 : 0 ≤ v_from.toInt) (hb1 : v_from.toInt ≤ v_behind.toInt) (hb2 : v_behind.toInt ≤ v_size.toInt) (hby9 : Byt f_tape) : Met l yX12_key (Cond.code yX12_key cX12_key 1 (some .int) :: tb) ({ frames := 5, cells := 0, slots := 0, locals := 108 } : Room) (va_Pc [.ref h] (cP G k [(cMq a h v_taped v_size v_from v_behind v_hand v_value v_fault v_faultAt v_clock v_coin v_loan v_matched v_taxed v_paidStages v_grown v_pledges v_sums v_stages v_isStopped v_begun), (qarI (a 3) (d 3) 400 f_tape)] [((d 3), .byte)] sz)) (va_Qi (fun (r : Int32) (_ : Unit) => (r = (if v_hand = 1 then lnO f_tape v_from.toNatClampNeg v_behind.toNatClampNeg else -1))) (cB G (fun (_ : Unit) => [(cMq a h v_taped v_size v_from v_behind v_hand v_value v_fault v_faultAt v_clock v_coin v_loan v_matched v_taxed v_paidStages v_grown v_pledges v_sums v_stages v_isStopped v_begun), (qarI (a 3) (d 3) 400 f_tape)]) (fun (_ : Unit) => []) (va_A [(cMq a h v_taped v_size v_from v_behind v_hand v_value v_fault v_faultAt v_clock v_coin v_loan v_matched v_taxed v_paidStages v_grown v_pledges v_sums v_stages v_isStopped v_begun), (qarI (a 3) (d 3) 400 f_tape)] sz)) (va_A [(cMq a h v_taped v_size v_from v_behind v_hand v_value v_fault v_faultAt v_clock v_coin v_loan v_matched v_taxed v_paidStages v_grown v_pledges v_sums v_stages v_isStopped v_begun), (qarI (a 3) (d 3) 400 f_tape)] sz)) 0 0 (va_A [(cMq a h v_taped v_size v_from v_behind v_hand v_value v_fault v_faultAt v_clock v_coin v_loan v_matched v_taxed v_paidStages v_grown v_pledges v_sums v_stages v_isStopped v_begun), (qarI (a 3) (d 3) 400 f_tape)] sz) := by
  refine ofC_i (cc := cX12_key) (maxL := 1) (ret := (some .int)) (by decide) rfl (Nat.le_of_ble_eq_true rfl) ?_
  intro p e s m args below meth c A ls Q F hr hin hlk St hl hQ
  have hx := F.1
  have hb := F.2.1
  have hl : lv_has ls 1 [(0, .ref h)] := hl
  have St : cS G k [(cMq a h v_taped v_size v_from v_behind v_hand v_value v_fault v_faultAt v_clock v_coin v_loan v_matched v_taxed v_paidStages v_grown v_pledges v_sums v_stages v_isStopped v_begun), (qarI (a 3) (d 3) 400 f_tape)] [((d 3), .byte)] A s s.heap [] := St
  refine lv_aload_n hx hb dX12_key_0 rfl (lv_at hl 0 rfl) ?_
  refine va_ldcS hx hb F.2.2.2.1 St.2.2.2.2.2.1.2.2.2.2.2.2.2.2.2.2.2.2.2.2.2.2.2.1 dX12_key_1 ?_
  refine cs_i St [0, 1] [] (wc := [(cMq a h v_taped v_size v_from v_behind v_hand v_value v_fault v_faultAt v_clock v_coin v_loan v_matched v_taxed v_paidStages v_grown v_pledges v_sums v_stages v_isStopped v_begun), (qarI (a 3) (d 3) 400 f_tape)]) (wr := []) rfl rfl (by decide) (by decide) (va_runV (As := [.ref (k 10)]) (rest := []) F (mr_is l G k _ h a d v_taped v_size v_from v_behind v_hand v_value v_fault v_faultAt v_clock v_coin v_loan v_matched v_taxed v_paidStages v_grown v_pledges v_sums v_stages v_isStopped v_begun f_tape 0 (by first | assumption | decide) (by omega) (by omega) (by omega) (by omega) (by omega) hby9) (cwVt F mf_X12_is km_X12_68 rfl rfl ⟨Nat.le_of_ble_eq_true rfl, Nat.le_of_ble_eq_true rfl⟩) (cs_preV St [0, 1] rfl (by decide) [0] rfl (ci := 12) (q0 := 0) rfl rfl) rfl rfl hl.1 rfl (lv_room (Nat.le_of_ble_eq_true rfl)) dX12_key_3 ⟨Nat.le_of_ble_eq_true rfl, Nat.le_of_ble_eq_true rfl⟩) (fun r_1 u_2 H locs hw St => ?_)
  try dsimp only at hw
  rcases hw with ⟨z_3, hf_4⟩ | ⟨z_5, hf_6⟩
  ·
    subst r_1
    have St : cS G k [(cMq a h v_taped v_size v_from v_behind v_hand v_value v_fault v_faultAt v_clock v_coin v_loan v_matched v_taxed v_paidStages v_grown v_pledges v_sums v_stages v_isStopped v_begun), (qarI (a 3) (d 3) 400 f_tape)] [((d 3), .byte)] A s H locs := St
    refine lv_if_eq (tgt := 11) hx hb dX12_key_6 (by decide) (fun c6 => ?_) (fun c6 => ?_)
    · exact absurd c6 (by decide)
    refine lv_iconst (v := 0) hx hb dX12_key_9 (by decide) ?_
    exact cs_iret F hr hlk hQ St () (r := 0) (by rw [if_pos hf_4.1]; unfold lnO; rw [if_pos hf_4.2]) [0, 1] rfl (by decide) [] rfl (by decide) (by decide) dX12_key_10
  ·
    subst r_1
    have St : cS G k [(cMq a h v_taped v_size v_from v_behind v_hand v_value v_fault v_faultAt v_clock v_coin v_loan v_matched v_taxed v_paidStages v_grown v_pledges v_sums v_stages v_isStopped v_begun), (qarI (a 3) (d 3) 400 f_tape)] [((d 3), .byte)] A s H locs := St
    refine lv_if_eq (tgt := 11) hx hb dX12_key_6 (by decide) (fun c6 => ?_) (fun c6 => ?_)
    rotate_left
    · exact absurd (by decide) c6
    refine lv_aload_n hx hb dX12_key_11 rfl (lv_at hl 0 rfl) ?_
    refine va_ldcS hx hb F.2.2.2.1 St.2.2.2.2.2.1.2.2.2.2.2.2.2.2.2.2.2.2.2.2.2.2.2.2.1 dX12_key_12 ?_
    refine cs_i St [0, 1] [] (wc := [(cMq a h v_taped v_size v_from v_behind v_hand v_value v_fault v_faultAt v_clock v_coin v_loan v_matched v_taxed v_paidStages v_grown v_pledges v_sums v_stages v_isStopped v_begun), (qarI (a 3) (d 3) 400 f_tape)]) (wr := []) rfl rfl (by decide) (by decide) (va_runV (As := [.ref (k 11)]) (rest := []) F (mr_is l G k _ h a d v_taped v_size v_from v_behind v_hand v_value v_fault v_faultAt v_clock v_coin v_loan v_matched v_taxed v_paidStages v_grown v_pledges v_sums v_stages v_isStopped v_begun f_tape 1 (by first | assumption | decide) (by omega) (by omega) (by omega) (by omega) (by omega) hby9) (cwVt F mf_X12_is km_X12_68 rfl rfl ⟨Nat.le_of_ble_eq_true rfl, Nat.le_of_ble_eq_true rfl⟩) (cs_preV St [0, 1] rfl (by decide) [0] rfl (ci := 12) (q0 := 0) rfl rfl) rfl rfl hl.1 rfl (lv_room (Nat.le_of_ble_eq_true rfl)) dX12_key_14 ⟨Nat.le_of_ble_eq_true rfl, Nat.le_of_ble_eq_true rfl⟩) (fun r_7 u_8 H locs hw St => ?_)
    try dsimp only at hw
    rcases hw with ⟨z_9, hf_10⟩ | ⟨z_11, hf_12⟩
    ·
      subst r_7
      have St : cS G k [(cMq a h v_taped v_size v_from v_behind v_hand v_value v_fault v_faultAt v_clock v_coin v_loan v_matched v_taxed v_paidStages v_grown v_pledges v_sums v_stages v_isStopped v_begun), (qarI (a 3) (d 3) 400 f_tape)] [((d 3), .byte)] A s H locs := St
      refine lv_if_eq (tgt := 22) hx hb dX12_key_17 (by decide) (fun c17 => ?_) (fun c17 => ?_)
      · exact absurd c17 (by decide)
      refine lv_iconst (v := 1) hx hb dX12_key_20 (by decide) ?_
      exact cs_iret F hr hlk hQ St () (r := 1) (by rw [if_pos hf_10.1]; unfold lnO; rw [if_neg (fun z => hf_6 ⟨hf_10.1, z⟩), if_pos hf_10.2]) [0, 1] rfl (by decide) [] rfl (by decide) (by decide) dX12_key_21
    ·
      subst r_7
      have St : cS G k [(cMq a h v_taped v_size v_from v_behind v_hand v_value v_fault v_faultAt v_clock v_coin v_loan v_matched v_taxed v_paidStages v_grown v_pledges v_sums v_stages v_isStopped v_begun), (qarI (a 3) (d 3) 400 f_tape)] [((d 3), .byte)] A s H locs := St
      refine lv_if_eq (tgt := 22) hx hb dX12_key_17 (by decide) (fun c17 => ?_) (fun c17 => ?_)
      rotate_left
      · exact absurd (by decide) c17
      refine lv_aload_n hx hb dX12_key_22 rfl (lv_at hl 0 rfl) ?_
      refine va_ldcS hx hb F.2.2.2.1 St.2.2.2.2.2.1.2.2.2.2.2.2.2.2.2.2.2.2.2.2.2.2.2.2.2.1 dX12_key_23 ?_
      refine cs_i St [0, 1] [] (wc := [(cMq a h v_taped v_size v_from v_behind v_hand v_value v_fault v_faultAt v_clock v_coin v_loan v_matched v_taxed v_paidStages v_grown v_pledges v_sums v_stages v_isStopped v_begun), (qarI (a 3) (d 3) 400 f_tape)]) (wr := []) rfl rfl (by decide) (by decide) (va_runV (As := [.ref (k 12)]) (rest := []) F (mr_is l G k _ h a d v_taped v_size v_from v_behind v_hand v_value v_fault v_faultAt v_clock v_coin v_loan v_matched v_taxed v_paidStages v_grown v_pledges v_sums v_stages v_isStopped v_begun f_tape 2 (by first | assumption | decide) (by omega) (by omega) (by omega) (by omega) (by omega) hby9) (cwVt F mf_X12_is km_X12_68 rfl rfl ⟨Nat.le_of_ble_eq_true rfl, Nat.le_of_ble_eq_true rfl⟩) (cs_preV St [0, 1] rfl (by decide) [0] rfl (ci := 12) (q0 := 0) rfl rfl) rfl rfl hl.1 rfl (lv_room (Nat.le_of_ble_eq_true rfl)) dX12_key_25 ⟨Nat.le_of_ble_eq_true rfl, Nat.le_of_ble_eq_true rfl⟩) (fun r_13 u_14 H locs hw St => ?_)
      try dsimp only at hw
      rcases hw with ⟨z_15, hf_16⟩ | ⟨z_17, hf_18⟩
      ·
        subst r_13
        have St : cS G k [(cMq a h v_taped v_size v_from v_behind v_hand v_value v_fault v_faultAt v_clock v_coin v_loan v_matched v_taxed v_paidStages v_grown v_pledges v_sums v_stages v_isStopped v_begun), (qarI (a 3) (d 3) 400 f_tape)] [((d 3), .byte)] A s H locs := St
        refine lv_if_eq (tgt := 33) hx hb dX12_key_28 (by decide) (fun c28 => ?_) (fun c28 => ?_)
        · exact absurd c28 (by decide)
        refine lv_iconst (v := 2) hx hb dX12_key_31 (by decide) ?_
        exact cs_iret F hr hlk hQ St () (r := 2) (by rw [if_pos hf_16.1]; unfold lnO; rw [if_neg (fun z => hf_6 ⟨hf_16.1, z⟩), if_neg (fun z => hf_12 ⟨hf_16.1, z⟩), if_pos hf_16.2]) [0, 1] rfl (by decide) [] rfl (by decide) (by decide) dX12_key_32
      ·
        subst r_13
        have St : cS G k [(cMq a h v_taped v_size v_from v_behind v_hand v_value v_fault v_faultAt v_clock v_coin v_loan v_matched v_taxed v_paidStages v_grown v_pledges v_sums v_stages v_isStopped v_begun), (qarI (a 3) (d 3) 400 f_tape)] [((d 3), .byte)] A s H locs := St
        refine lv_if_eq (tgt := 33) hx hb dX12_key_28 (by decide) (fun c28 => ?_) (fun c28 => ?_)
        rotate_left
        · exact absurd (by decide) c28
        refine lv_aload_n hx hb dX12_key_33 rfl (lv_at hl 0 rfl) ?_
        refine va_ldcS hx hb F.2.2.2.1 St.2.2.2.2.2.1.2.2.2.2.2.2.2.2.2.2.2.2.2.2.2.2.2.2.2.2.1 dX12_key_34 ?_
        refine cs_i St [0, 1] [] (wc := [(cMq a h v_taped v_size v_from v_behind v_hand v_value v_fault v_faultAt v_clock v_coin v_loan v_matched v_taxed v_paidStages v_grown v_pledges v_sums v_stages v_isStopped v_begun), (qarI (a 3) (d 3) 400 f_tape)]) (wr := []) rfl rfl (by decide) (by decide) (va_runV (As := [.ref (k 13)]) (rest := []) F (mr_is l G k _ h a d v_taped v_size v_from v_behind v_hand v_value v_fault v_faultAt v_clock v_coin v_loan v_matched v_taxed v_paidStages v_grown v_pledges v_sums v_stages v_isStopped v_begun f_tape 3 (by first | assumption | decide) (by omega) (by omega) (by omega) (by omega) (by omega) hby9) (cwVt F mf_X12_is km_X12_68 rfl rfl ⟨Nat.le_of_ble_eq_true rfl, Nat.le_of_ble_eq_true rfl⟩) (cs_preV St [0, 1] rfl (by decide) [0] rfl (ci := 12) (q0 := 0) rfl rfl) rfl rfl hl.1 rfl (lv_room (Nat.le_of_ble_eq_true rfl)) dX12_key_36 ⟨Nat.le_of_ble_eq_true rfl, Nat.le_of_ble_eq_true rfl⟩) (fun r_19 u_20 H locs hw St => ?_)
        try dsimp only at hw
        rcases hw with ⟨z_21, hf_22⟩ | ⟨z_23, hf_24⟩
        ·
          subst r_19
          have St : cS G k [(cMq a h v_taped v_size v_from v_behind v_hand v_value v_fault v_faultAt v_clock v_coin v_loan v_matched v_taxed v_paidStages v_grown v_pledges v_sums v_stages v_isStopped v_begun), (qarI (a 3) (d 3) 400 f_tape)] [((d 3), .byte)] A s H locs := St
          refine lv_if_eq (tgt := 44) hx hb dX12_key_39 (by decide) (fun c39 => ?_) (fun c39 => ?_)
          · exact absurd c39 (by decide)
          refine lv_iconst (v := 3) hx hb dX12_key_42 (by decide) ?_
          exact cs_iret F hr hlk hQ St () (r := 3) (by rw [if_pos hf_22.1]; unfold lnO; rw [if_neg (fun z => hf_6 ⟨hf_22.1, z⟩), if_neg (fun z => hf_12 ⟨hf_22.1, z⟩), if_neg (fun z => hf_18 ⟨hf_22.1, z⟩), if_pos hf_22.2]) [0, 1] rfl (by decide) [] rfl (by decide) (by decide) dX12_key_43
        ·
          subst r_19
          have St : cS G k [(cMq a h v_taped v_size v_from v_behind v_hand v_value v_fault v_faultAt v_clock v_coin v_loan v_matched v_taxed v_paidStages v_grown v_pledges v_sums v_stages v_isStopped v_begun), (qarI (a 3) (d 3) 400 f_tape)] [((d 3), .byte)] A s H locs := St
          refine lv_if_eq (tgt := 44) hx hb dX12_key_39 (by decide) (fun c39 => ?_) (fun c39 => ?_)
          rotate_left
          · exact absurd (by decide) c39
          refine lv_aload_n hx hb dX12_key_44 rfl (lv_at hl 0 rfl) ?_
          refine va_ldcS hx hb F.2.2.2.1 St.2.2.2.2.2.1.2.2.2.2.2.2.2.2.2.2.2.2.2.2.2.2.2.2.2.2.2.1 dX12_key_45 ?_
          refine cs_i St [0, 1] [] (wc := [(cMq a h v_taped v_size v_from v_behind v_hand v_value v_fault v_faultAt v_clock v_coin v_loan v_matched v_taxed v_paidStages v_grown v_pledges v_sums v_stages v_isStopped v_begun), (qarI (a 3) (d 3) 400 f_tape)]) (wr := []) rfl rfl (by decide) (by decide) (va_runV (As := [.ref (k 14)]) (rest := []) F (mr_is l G k _ h a d v_taped v_size v_from v_behind v_hand v_value v_fault v_faultAt v_clock v_coin v_loan v_matched v_taxed v_paidStages v_grown v_pledges v_sums v_stages v_isStopped v_begun f_tape 4 (by first | assumption | decide) (by omega) (by omega) (by omega) (by omega) (by omega) hby9) (cwVt F mf_X12_is km_X12_68 rfl rfl ⟨Nat.le_of_ble_eq_true rfl, Nat.le_of_ble_eq_true rfl⟩) (cs_preV St [0, 1] rfl (by decide) [0] rfl (ci := 12) (q0 := 0) rfl rfl) rfl rfl hl.1 rfl (lv_room (Nat.le_of_ble_eq_true rfl)) dX12_key_47 ⟨Nat.le_of_ble_eq_true rfl, Nat.le_of_ble_eq_true rfl⟩) (fun r_25 u_26 H locs hw St => ?_)
          try dsimp only at hw
          rcases hw with ⟨z_27, hf_28⟩ | ⟨z_29, hf_30⟩
          ·
            subst r_25
            have St : cS G k [(cMq a h v_taped v_size v_from v_behind v_hand v_value v_fault v_faultAt v_clock v_coin v_loan v_matched v_taxed v_paidStages v_grown v_pledges v_sums v_stages v_isStopped v_begun), (qarI (a 3) (d 3) 400 f_tape)] [((d 3), .byte)] A s H locs := St
            refine lv_if_eq (tgt := 55) hx hb dX12_key_50 (by decide) (fun c50 => ?_) (fun c50 => ?_)
            · exact absurd c50 (by decide)
            refine lv_iconst (v := 4) hx hb dX12_key_53 (by decide) ?_
            exact cs_iret F hr hlk hQ St () (r := 4) (by rw [if_pos hf_28.1]; unfold lnO; rw [if_neg (fun z => hf_6 ⟨hf_28.1, z⟩), if_neg (fun z => hf_12 ⟨hf_28.1, z⟩), if_neg (fun z => hf_18 ⟨hf_28.1, z⟩), if_neg (fun z => hf_24 ⟨hf_28.1, z⟩), if_pos hf_28.2]) [0, 1] rfl (by decide) [] rfl (by decide) (by decide) dX12_key_54
          ·
            subst r_25
            have St : cS G k [(cMq a h v_taped v_size v_from v_behind v_hand v_value v_fault v_faultAt v_clock v_coin v_loan v_matched v_taxed v_paidStages v_grown v_pledges v_sums v_stages v_isStopped v_begun), (qarI (a 3) (d 3) 400 f_tape)] [((d 3), .byte)] A s H locs := St
            refine lv_if_eq (tgt := 55) hx hb dX12_key_50 (by decide) (fun c50 => ?_) (fun c50 => ?_)
            rotate_left
            · exact absurd (by decide) c50
            refine lv_aload_n hx hb dX12_key_55 rfl (lv_at hl 0 rfl) ?_
            refine va_ldcS hx hb F.2.2.2.1 St.2.2.2.2.2.1.2.2.2.2.2.2.2.2.2.2.2.2.2.2.2.2.2.2.2.2.2.2.1 dX12_key_56 ?_
            refine cs_i St [0, 1] [] (wc := [(cMq a h v_taped v_size v_from v_behind v_hand v_value v_fault v_faultAt v_clock v_coin v_loan v_matched v_taxed v_paidStages v_grown v_pledges v_sums v_stages v_isStopped v_begun), (qarI (a 3) (d 3) 400 f_tape)]) (wr := []) rfl rfl (by decide) (by decide) (va_runV (As := [.ref (k 15)]) (rest := []) F (mr_is l G k _ h a d v_taped v_size v_from v_behind v_hand v_value v_fault v_faultAt v_clock v_coin v_loan v_matched v_taxed v_paidStages v_grown v_pledges v_sums v_stages v_isStopped v_begun f_tape 5 (by first | assumption | decide) (by omega) (by omega) (by omega) (by omega) (by omega) hby9) (cwVt F mf_X12_is km_X12_68 rfl rfl ⟨Nat.le_of_ble_eq_true rfl, Nat.le_of_ble_eq_true rfl⟩) (cs_preV St [0, 1] rfl (by decide) [0] rfl (ci := 12) (q0 := 0) rfl rfl) rfl rfl hl.1 rfl (lv_room (Nat.le_of_ble_eq_true rfl)) dX12_key_58 ⟨Nat.le_of_ble_eq_true rfl, Nat.le_of_ble_eq_true rfl⟩) (fun r_31 u_32 H locs hw St => ?_)
            try dsimp only at hw
            rcases hw with ⟨z_33, hf_34⟩ | ⟨z_35, hf_36⟩
            ·
              subst r_31
              have St : cS G k [(cMq a h v_taped v_size v_from v_behind v_hand v_value v_fault v_faultAt v_clock v_coin v_loan v_matched v_taxed v_paidStages v_grown v_pledges v_sums v_stages v_isStopped v_begun), (qarI (a 3) (d 3) 400 f_tape)] [((d 3), .byte)] A s H locs := St
              refine lv_if_eq (tgt := 68) hx hb dX12_key_61 (by decide) (fun c61 => ?_) (fun c61 => ?_)
              · exact absurd c61 (by decide)
              refine lv_iconst (v := 5) hx hb dX12_key_64 (by decide) ?_
              refine lv_goto (tgt := 69) hx hb dX12_key_65 (by decide) ?_
              exact cs_iret F hr hlk hQ St () (r := 5) (by rw [if_pos hf_34.1]; unfold lnO; rw [if_neg (fun z => hf_6 ⟨hf_34.1, z⟩), if_neg (fun z => hf_12 ⟨hf_34.1, z⟩), if_neg (fun z => hf_18 ⟨hf_34.1, z⟩), if_neg (fun z => hf_24 ⟨hf_34.1, z⟩), if_neg (fun z => hf_30 ⟨hf_34.1, z⟩), if_pos hf_34.2]) [0, 1] rfl (by decide) [] rfl (by decide) (by decide) dX12_key_69
            ·
              subst r_31
              have St : cS G k [(cMq a h v_taped v_size v_from v_behind v_hand v_value v_fault v_faultAt v_clock v_coin v_loan v_matched v_taxed v_paidStages v_grown v_pledges v_sums v_stages v_isStopped v_begun), (qarI (a 3) (d 3) 400 f_tape)] [((d 3), .byte)] A s H locs := St
              refine lv_if_eq (tgt := 68) hx hb dX12_key_61 (by decide) (fun c61 => ?_) (fun c61 => ?_)
              rotate_left
              · exact absurd (by decide) c61
              refine lv_iconst (v := (-1)) hx hb dX12_key_68 (by decide) ?_
              exact cs_iret F hr hlk hQ St () (r := (-1)) (by
                by_cases q : v_hand = 1
                · rw [if_pos q]; unfold lnO; rw [if_neg (fun z => hf_6 ⟨q, z⟩), if_neg (fun z => hf_12 ⟨q, z⟩), if_neg (fun z => hf_18 ⟨q, z⟩), if_neg (fun z => hf_24 ⟨q, z⟩), if_neg (fun z => hf_30 ⟨q, z⟩), if_neg (fun z => hf_36 ⟨q, z⟩)]
                · rw [if_neg q]) [0, 1] rfl (by decide) [] rfl (by decide) (by decide) dX12_key_69
set_option maxHeartbeats 4000000 in
set_option maxRecDepth 100000 in
theorem mr_number (l : Launch) (G : va_G) (k : Nat → Nat) (sz : Nat) (h : Nat) (a : Nat → Nat) (d : Nat → ClassId) (v_taped : Int32) (v_size : Int32) (v_from : Int32) (v_behind : Int32) (v_hand : Int32) (v_value : Int32) (v_fault : Int32) (v_faultAt : Int32) (v_clock : Int32) (v_coin : Int32) (v_loan : Int32) (v_matched : Int32) (v_taxed : Int32) (v_paidStages : Int32) (v_grown : Int32) (v_pledges : Int32) (v_sums : Int32) (v_stages : Int32) (v_isStopped : Int32) (v_begun : Int32) (f_tape : Nat → Int32) (x : Int32) (y : Int32) (hs0 : 0 ≤ v_size.toInt) (hs1 : v_size.toInt ≤ 400) (hb0 : 0 ≤ v_from.toInt) (hb1 : v_from.toInt ≤ v_behind.toInt) (hb2 : v_behind.toInt ≤ v_size.toInt) (hby9 : Byt f_tape) : MetT l yX12_number (Cond.code yX12_number cX12_number 4 (some .int) :: tb) ({ frames := 2, cells := 0, slots := 0, locals := 42 } : Room) (va_Pc [.ref h, .int x, .int y] (cP G k [(cMq a h v_taped v_size v_from v_behind v_hand v_value v_fault v_faultAt v_clock v_coin v_loan v_matched v_taxed v_paidStages v_grown v_pledges v_sums v_stages v_isStopped v_begun), (qarI (a 3) (d 3) 400 f_tape)] [((d 3), .byte)] sz)) (QT (fun r => some (.int r)) (fun (r : Int32) (u : Int32 × Int32 × Int32 × Int32 × Int32 × Int32) => match u with | (w_from, w_behind, w_hand, w_value, w_fault, w_faultAt) => (v_hand = 2 ∧ (x.toInt ≤ v_value.toInt ∧ v_value.toInt ≤ y.toInt) ∧ r = v_value) ∧ (TK f_tape v_size v_behind w_hand w_from w_behind w_value) ∧ (w_fault = v_fault ∧ w_faultAt = v_faultAt)) (fun (u : Int32 × Int32 × Int32 × Int32 × Int32 × Int32) => match u with | (w_from, w_behind, w_hand, w_value, w_fault, w_faultAt) => (((w_fault = 1 ∧ ¬ v_hand = 2) ∨ (w_fault = 2 ∧ v_hand = 2 ∧ ¬ (x.toInt ≤ v_value.toInt ∧ v_value.toInt ≤ y.toInt))) ∧ w_faultAt = v_from)) (a 2) (cB G (fun u => match u with | (w_from, w_behind, w_hand, w_value, w_fault, w_faultAt) => [(cMq a h v_taped v_size w_from w_behind w_hand w_value w_fault w_faultAt v_clock v_coin v_loan v_matched v_taxed v_paidStages v_grown v_pledges v_sums v_stages v_isStopped v_begun), (qarI (a 3) (d 3) 400 f_tape)]) (fun u => match u with | (w_from, w_behind, w_hand, w_value, w_fault, w_faultAt) => []) (va_A [(cMq a h v_taped v_size v_from v_behind v_hand v_value v_fault v_faultAt v_clock v_coin v_loan v_matched v_taxed v_paidStages v_grown v_pledges v_sums v_stages v_isStopped v_begun), (qarI (a 3) (d 3) 400 f_tape)] sz)) (va_A [(cMq a h v_taped v_size v_from v_behind v_hand v_value v_fault v_faultAt v_clock v_coin v_loan v_matched v_taxed v_paidStages v_grown v_pledges v_sums v_stages v_isStopped v_begun), (qarI (a 3) (d 3) 400 f_tape)] sz)) 0 0 (va_A [(cMq a h v_taped v_size v_from v_behind v_hand v_value v_fault v_faultAt v_clock v_coin v_loan v_matched v_taxed v_paidStages v_grown v_pledges v_sums v_stages v_isStopped v_begun), (qarI (a 3) (d 3) 400 f_tape)] sz) := by
  refine ofCT (cc := cX12_number) (maxL := 4) (ret := (some .int)) (by decide) rfl (Nat.le_of_ble_eq_true rfl) ?_
  intro p e s m args below meth c A ls Q F hr hin hlk hex St hl hQ
  have hx := F.1
  have hb := F.2.1
  have hl : lv_has ls 4 [(0, .ref h), (1, .int x), (2, .int y)] := hl
  have St : cS G k [(cMq a h v_taped v_size v_from v_behind v_hand v_value v_fault v_faultAt v_clock v_coin v_loan v_matched v_taxed v_paidStages v_grown v_pledges v_sums v_stages v_isStopped v_begun), (qarI (a 3) (d 3) 400 f_tape)] [((d 3), .byte)] A s s.heap [] := St
  refine lv_aload_n hx hb dX12_number_0 rfl (lv_at hl 0 rfl) ?_
  refine cs_get F St 0 rfl rfl inX12 8 (by decide) kf_X12_31 rfl dX12_number_1 ?_
  refine lv_iconst (v := 2) hx hb dX12_number_4 (by decide) ?_
  refine lv_icmp_eq (tgt := 14) hx hb dX12_number_5 (by decide) (fun c5 => ?_) (fun c5 => ?_)
  ·
    have i5 := ci_eq (x := v_hand) (y := 2) rfl (show (2 : Int32).toInt = 2 by decide) c5
    refine lv_aload_n hx hb dX12_number_14 rfl (lv_at hl 0 rfl) ?_
    refine cs_get F St 0 rfl rfl inX12 9 (by decide) kf_X12_41 rfl dX12_number_15 ?_
    refine lv_i2l (v := v_value.toInt64) hx hb dX12_number_18 rfl ?_
    refine lv_iload_n hx hb dX12_number_19 rfl (lv_at hl 1 rfl) ?_
    refine lv_i2l (v := x.toInt64) hx hb dX12_number_20 rfl ?_
    refine lv_iload_n hx hb dX12_number_21 rfl (lv_at hl 2 rfl) ?_
    refine lv_i2l (v := y.toInt64) hx hb dX12_number_22 rfl ?_
    refine cs_i St [] [0, 1] (wc := []) (wr := [(cMq a h v_taped v_size v_from v_behind v_hand v_value v_fault v_faultAt v_clock v_coin v_loan v_matched v_taxed v_paidStages v_grown v_pledges v_sums v_stages v_isStopped v_begun), (qarI (a 3) (d 3) 400 f_tape)]) rfl rfl (by decide) (by decide) (va_runS (As := [.long v_value.toInt64, .long x.toInt64, .long y.toInt64]) (rest := []) F (c12_in l G k _ v_value.toInt64 x.toInt64 y.toInt64 v_value.toInt x.toInt y.toInt (Int32.toInt_toInt64 v_value) (Int32.toInt_toInt64 x) (Int32.toInt_toInt64 y)) (cwSt F mf_X12_in km_X12_58 rfl rfl ⟨Nat.le_of_ble_eq_true rfl, Nat.le_of_ble_eq_true rfl⟩) (cs_pre St [] rfl (by decide) [] rfl) rfl rfl hl.1 rfl (lv_room (Nat.le_of_ble_eq_true rfl)) dX12_number_23 ⟨Nat.le_of_ble_eq_true rfl, Nat.le_of_ble_eq_true rfl⟩) (fun r_1 u_2 H locs hw St => ?_)
    try dsimp only at hw
    rcases hw with ⟨z_3, hf_4⟩ | ⟨z_5, hf_6⟩
    ·
      subst r_1
      have St : cS G k [(cMq a h v_taped v_size v_from v_behind v_hand v_value v_fault v_faultAt v_clock v_coin v_loan v_matched v_taxed v_paidStages v_grown v_pledges v_sums v_stages v_isStopped v_begun), (qarI (a 3) (d 3) 400 f_tape)] [((d 3), .byte)] A s H locs := St
      refine lv_if_ne (tgt := 35) hx hb dX12_number_26 (by decide) (fun c26 => ?_) (fun c26 => ?_)
      rotate_left
      · exact absurd c26 (by decide)
      refine lv_aload_n hx hb dX12_number_35 rfl (lv_at hl 0 rfl) ?_
      refine cs_get F St 0 rfl rfl inX12 9 (by decide) kf_X12_41 rfl dX12_number_36 ?_
      refine lv_istore_n (lv' := [(3, .int v_value), (0, .ref h), (1, .int x), (2, .int y)]) hx hb dX12_number_39 rfl hl (by decide) rfl (fun ls hl => ?_)
      refine lv_aload_n hx hb dX12_number_40 rfl (lv_at hl 1 rfl) ?_
      refine cs_v St [0, 1] [] (wc := [(cMq a h v_taped v_size v_from v_behind v_hand v_value v_fault v_faultAt v_clock v_coin v_loan v_matched v_taxed v_paidStages v_grown v_pledges v_sums v_stages v_isStopped v_begun), (qarI (a 3) (d 3) 400 f_tape)]) (wr := []) rfl rfl (by decide) (by decide) (va_runV (As := []) (rest := []) F (mr_scan l G k _ h a d v_taped v_size v_from v_behind v_hand v_value v_fault v_faultAt v_clock v_coin v_loan v_matched v_taxed v_paidStages v_grown v_pledges v_sums v_stages v_isStopped v_begun f_tape (by omega) (by omega) (by omega) (by omega) hby9) (cwVt F mf_X12_scan km_X12_62 rfl rfl ⟨Nat.le_of_ble_eq_true rfl, Nat.le_of_ble_eq_true rfl⟩) (cs_preV St [0, 1] rfl (by decide) [0] rfl (ci := 12) (q0 := 0) rfl rfl) rfl rfl hl.1 rfl (lv_room (Nat.le_of_ble_eq_true rfl)) dX12_number_41 ⟨Nat.le_of_ble_eq_true rfl, Nat.le_of_ble_eq_true rfl⟩) (fun u_8 H locs hw St => ?_)
      obtain ⟨w_from_9, w_behind_10, w_hand_11, w_value_12⟩ := u_8
      try dsimp only at hw
      have ht_13 := hw
      have St : cS G k [(cMq a h v_taped v_size w_from_9 w_behind_10 w_hand_11 w_value_12 v_fault v_faultAt v_clock v_coin v_loan v_matched v_taxed v_paidStages v_grown v_pledges v_sums v_stages v_isStopped v_begun), (qarI (a 3) (d 3) 400 f_tape)] [((d 3), .byte)] A s H locs := St
      refine lv_iload_n hx hb dX12_number_44 rfl (lv_at hl 0 rfl) ?_
      exact cs_iretT F hr hlk hQ St (w_from_9, w_behind_10, w_hand_11, w_value_12, v_fault, v_faultAt) (r := v_value) ⟨⟨c5, hf_4, rfl⟩, ht_13, ⟨rfl, rfl⟩⟩ [0, 1] rfl (by decide) [] rfl (by decide) (by decide) dX12_number_45
    ·
      subst r_1
      have St : cS G k [(cMq a h v_taped v_size v_from v_behind v_hand v_value v_fault v_faultAt v_clock v_coin v_loan v_matched v_taxed v_paidStages v_grown v_pledges v_sums v_stages v_isStopped v_begun), (qarI (a 3) (d 3) 400 f_tape)] [((d 3), .byte)] A s H locs := St
      refine lv_if_ne (tgt := 35) hx hb dX12_number_26 (by decide) (fun c26 => ?_) (fun c26 => ?_)
      · exact absurd c26 (by decide)
      refine lv_aload_n hx hb dX12_number_29 rfl (lv_at hl 0 rfl) ?_
      refine lv_iconst (v := 2) hx hb dX12_number_30 (by decide) ?_
      refine cs_q St [0] [1] (wc := [(cMq a h v_taped v_size v_from v_behind v_hand v_value v_fault v_faultAt v_clock v_coin v_loan v_matched v_taxed v_paidStages v_grown v_pledges v_sums v_stages v_isStopped v_begun)]) (wr := [(qarI (a 3) (d 3) 400 f_tape)]) rfl rfl (by decide) (by decide) (va_runV (As := [.int 2]) (rest := []) F (m_wrong l G k _ h a (fun _ => default) v_taped v_size v_from v_behind v_hand v_value v_fault v_faultAt v_clock v_coin v_loan v_matched v_taxed v_paidStages v_grown v_pledges v_sums v_stages v_isStopped v_begun 2) (cwVt F mf_X12_wrong km_X12_54 rfl rfl ⟨Nat.le_of_ble_eq_true rfl, Nat.le_of_ble_eq_true rfl⟩) (cs_preV St [0] rfl (by decide) [] rfl (ci := 12) (q0 := 0) rfl rfl) rfl rfl hl.1 rfl (lv_room (Nat.le_of_ble_eq_true rfl)) dX12_number_31 ⟨Nat.le_of_ble_eq_true rfl, Nat.le_of_ble_eq_true rfl⟩) (fun r_14 u_15 H locs hw St => ?_)
      try dsimp only at hw
      have z_16 := hw
      subst r_14
      have St : cS G k [(qarI (a 3) (d 3) 400 f_tape), (cMq a h v_taped v_size v_from v_behind v_hand v_value 2 v_from v_clock v_coin v_loan v_matched v_taxed v_paidStages v_grown v_pledges v_sums v_stages v_isStopped v_begun)] [((d 3), .byte)] A s H locs := St
      show W _ _ _ _ _ _ _ _ _ _ _ _ _ _ _ (F0 m 34 ls [.ref (a 2)])
      exact cs_athrow F hex hlk hQ St (v_from, v_behind, v_hand, v_value, 2, v_from) ⟨Or.inr ⟨rfl, c5, hf_6⟩, rfl⟩ [1, 0] rfl (by decide) [] rfl dX12_number_34
  ·
    have i5 := ci_ne (x := v_hand) (y := 2) rfl (show (2 : Int32).toInt = 2 by decide) c5
    refine lv_aload_n hx hb dX12_number_8 rfl (lv_at hl 0 rfl) ?_
    refine lv_iconst (v := 1) hx hb dX12_number_9 (by decide) ?_
    refine cs_q St [0] [1] (wc := [(cMq a h v_taped v_size v_from v_behind v_hand v_value v_fault v_faultAt v_clock v_coin v_loan v_matched v_taxed v_paidStages v_grown v_pledges v_sums v_stages v_isStopped v_begun)]) (wr := [(qarI (a 3) (d 3) 400 f_tape)]) rfl rfl (by decide) (by decide) (va_runV (As := [.int 1]) (rest := []) F (m_wrong l G k _ h a (fun _ => default) v_taped v_size v_from v_behind v_hand v_value v_fault v_faultAt v_clock v_coin v_loan v_matched v_taxed v_paidStages v_grown v_pledges v_sums v_stages v_isStopped v_begun 1) (cwVt F mf_X12_wrong km_X12_54 rfl rfl ⟨Nat.le_of_ble_eq_true rfl, Nat.le_of_ble_eq_true rfl⟩) (cs_preV St [0] rfl (by decide) [] rfl (ci := 12) (q0 := 0) rfl rfl) rfl rfl hl.1 rfl (lv_room (Nat.le_of_ble_eq_true rfl)) dX12_number_10 ⟨Nat.le_of_ble_eq_true rfl, Nat.le_of_ble_eq_true rfl⟩) (fun r_17 u_18 H locs hw St => ?_)
    try dsimp only at hw
    have z_19 := hw
    subst r_17
    have St : cS G k [(qarI (a 3) (d 3) 400 f_tape), (cMq a h v_taped v_size v_from v_behind v_hand v_value 1 v_from v_clock v_coin v_loan v_matched v_taxed v_paidStages v_grown v_pledges v_sums v_stages v_isStopped v_begun)] [((d 3), .byte)] A s H locs := St
    show W _ _ _ _ _ _ _ _ _ _ _ _ _ _ _ (F0 m 13 ls [.ref (a 2)])
    exact cs_athrow F hex hlk hQ St (v_from, v_behind, v_hand, v_value, 1, v_from) ⟨Or.inl ⟨rfl, c5⟩, rfl⟩ [1, 0] rfl (by decide) [] rfl dX12_number_13

