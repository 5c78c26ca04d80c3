set_option maxHeartbeats 4000000 in
set_option maxRecDepth 100000 in
theorem mr_is (l : Launch) (G : va_G) (k : Nat → Nat) (sz : Nat) (h : Nat) (a : Nat → Nat) (d : Nat → ClassId) (v_taped : Int32) (v_size : Int32) (v_from : Int32) (v_behind : Int32) (v_hand : Int32) (v_value : Int32) (v_fault : Int32) (v_faultAt : Int32) (v_clock : Int32) (v_coin : Int32) (v_loan : Int32) (v_matched : Int32) (v_taxed : Int32) (v_paidStages : Int32) (v_grown : Int32) (v_pledges : Int32) (v_sums : Int32) (v_stages : Int32) (v_isStopped : Int32) (v_begun : Int32) (f_tape : Nat → Int32) (i : Nat) (hi : i < 8) (hs0 : 0 ≤ v_size.toInt) (hs1 : v_size.toInt ≤ 400) (hb0 : 0 ≤ v_from.toInt) (hb1 : v_from.toInt ≤ v_behind.toInt) (hb2 : v_behind.toInt ≤ v_size.toInt) (hby9 : Byt f_tape) : Met l yX12_is (Cond.code yX12_is cX12_is 4 (some .boolean) :: tb) ({ frames := 4, cells := 0, slots := 0, locals := 85 } : Room) (va_Pc [.ref h, .ref (k (10 + i))] (cP G k [(cMq a h v_taped v_size v_from v_behind v_hand v_value v_fault v_faultAt v_clock v_coin v_loan v_matched v_taxed v_paidStages v_grown v_pledges v_sums v_stages v_isStopped v_begun), (qarI (a 3) (d 3) 400 f_tape)] [((d 3), .byte)] sz)) (va_Qi (fun (r : Int32) (_ : Unit) => ((r = 1) ∧ (v_hand = 1 ∧ wd f_tape v_from.toNatClampNeg v_behind.toNatClampNeg i = true)) ∨ ((r = 0) ∧ (¬ (v_hand = 1 ∧ wd f_tape v_from.toNatClampNeg v_behind.toNatClampNeg i = true)))) (cB G (fun (_ : Unit) => [(cMq a h v_taped v_size v_from v_behind v_hand v_value v_fault v_faultAt v_clock v_coin v_loan v_matched v_taxed v_paidStages v_grown v_pledges v_sums v_stages v_isStopped v_begun), (qarI (a 3) (d 3) 400 f_tape)]) (fun (_ : Unit) => []) (va_A [(cMq a h v_taped v_size v_from v_behind v_hand v_value v_fault v_faultAt v_clock v_coin v_loan v_matched v_taxed v_paidStages v_grown v_pledges v_sums v_stages v_isStopped v_begun), (qarI (a 3) (d 3) 400 f_tape)] sz)) (va_A [(cMq a h v_taped v_size v_from v_behind v_hand v_value v_fault v_faultAt v_clock v_coin v_loan v_matched v_taxed v_paidStages v_grown v_pledges v_sums v_stages v_isStopped v_begun), (qarI (a 3) (d 3) 400 f_tape)] sz)) 0 0 (va_A [(cMq a h v_taped v_size v_from v_behind v_hand v_value v_fault v_faultAt v_clock v_coin v_loan v_matched v_taxed v_paidStages v_grown v_pledges v_sums v_stages v_isStopped v_begun), (qarI (a 3) (d 3) 400 f_tape)] sz) := by
  refine ofC_i (cc := cX12_is) (maxL := 4) (ret := (some .boolean)) (by decide) rfl (Nat.le_of_ble_eq_true rfl) ?_
  intro p e s m args below meth c A ls Q F hr hin hlk St hl hQ
  have hx := F.1
  have hb := F.2.1
  have hl : lv_has ls 4 [(0, .ref h), (1, .ref (k (10 + i)))] := hl
  have St : cS G k [(cMq a h v_taped v_size v_from v_behind v_hand v_value v_fault v_faultAt v_clock v_coin v_loan v_matched v_taxed v_paidStages v_grown v_pledges v_sums v_stages v_isStopped v_begun), (qarI (a 3) (d 3) 400 f_tape)] [((d 3), .byte)] A s s.heap [] := St
  have hs := sL_i i hi
  have y0 : (0 : Int32).toInt = 0 := by decide
  have nf := nc_int hb0
  have nh := nc_int (x := v_behind) (by omega)
  refine lv_aload_n hx hb dX12_is_0 rfl (lv_at hl 0 rfl) ?_
  refine cs_get F St 0 rfl rfl inX12 8 (by decide) kf_X12_31 rfl dX12_is_1 ?_
  refine lv_iconst (v := 1) hx hb dX12_is_4 (by decide) ?_
  refine lv_icmp_ne (tgt := 28) hx hb dX12_is_5 (by decide) (fun c5 => ?_) (fun c5 => ?_)
  ·
    have i5 := ci_ne (x := v_hand) (y := 1) rfl (show (1 : Int32).toInt = 1 by decide) c5
    refine lv_iconst (v := 0) hx hb dX12_is_28 (by decide) ?_
    refine lv_istore_n (lv' := [(2, .int 0), (0, .ref h), (1, .ref (k (10 + i)))]) hx hb dX12_is_29 rfl hl (by decide) rfl (fun ls hl => ?_)
    refine lv_iconst (v := 0) hx hb dX12_is_30 (by decide) ?_
    refine lv_istore_n (lv' := [(3, .int 0), (2, .int 0), (0, .ref h), (1, .ref (k (10 + i)))]) hx hb dX12_is_31 rfl hl (by decide) rfl (fun ls hl => ?_)
    have lp32 : ∀ (n : Nat) (kk : Int32) (bb : Int32) (H : Heap) (locs : List Loc) (ls : Array Slot), ((0 ≤ kk.toInt ∧ kk.toInt ≤ sLen i) ∧ IsI f_tape v_hand v_from v_behind i kk bb) → ((10 - kk.toInt).toNat) < n → cS G k [(cMq a h v_taped v_size v_from v_behind v_hand v_value v_fault v_faultAt v_clock v_coin v_loan v_matched v_taxed v_paidStages v_grown v_pledges v_sums v_stages v_isStopped v_begun), (qarI (a 3) (d 3) 400 f_tape)] [((d 3), .byte)] A s H locs → lv_has ls 4 [(3, .int kk), (2, .int bb), (0, .ref h), (1, .ref (k (10 + i)))] → W p l e ({ frames := 4, cells := 0, slots := 0, locals := 85 } : Room) s m args below meth c H locs 0 0 Q (F0 m 32 ls []) := by
      intro n
      induction n with
      | zero => intro kk bb H locs ls hI hn; exact absurd hn (Nat.not_lt_zero _)
      | succ n ih =>
        intro kk bb H locs ls hI hn St hl
        obtain ⟨⟨hI0, hI1⟩, hI2⟩ := hI
        refine lv_iload_n hx hb dX12_is_32 rfl (lv_at hl 0 rfl) ?_
        refine lv_aload_n hx hb dX12_is_33 rfl (lv_at hl 3 rfl) ?_
        refine cs_i St [] [0, 1] (wc := []) (wr := [(cMq a h v_taped v_size v_from v_behind v_hand v_value v_fault v_faultAt v_clock v_coin v_loan v_matched v_taxed v_paidStages v_grown v_pledges v_sums v_stages v_isStopped v_begun), (qarI (a 3) (d 3) 400 f_tape)]) rfl rfl (by decide) (by decide) (va_runV (As := []) (rest := [.int kk]) F (cJ_length l G k _ i (by first | assumption | decide)) (cwVt F mf_J0_length_8abf5 km_X12_44 rfl rfl ⟨Nat.le_of_ble_eq_true rfl, Nat.le_of_ble_eq_true rfl⟩) (cs_preVS St hi [] rfl) rfl rfl hl.1 rfl (lv_room (Nat.le_of_ble_eq_true rfl)) dX12_is_34 ⟨Nat.le_of_ble_eq_true rfl, Nat.le_of_ble_eq_true rfl⟩) (fun r_1 u_2 H locs hw St => ?_)
        try dsimp only at hw
        have z_3 := hw
        have St : cS G k [(cMq a h v_taped v_size v_from v_behind v_hand v_value v_fault v_faultAt v_clock v_coin v_loan v_matched v_taxed v_paidStages v_grown v_pledges v_sums v_stages v_isStopped v_begun), (qarI (a 3) (d 3) 400 f_tape)] [((d 3), .byte)] A s H locs := St
        have hnz_3 := (congrArg Int32.toInt z_3).trans hs.1
        refine lv_icmp_ge (tgt := 75) hx hb dX12_is_37 (by decide) (fun c37 => ?_) (fun c37 => ?_)
        ·
          have i37 := ci_le (x := r_1) (y := kk) rfl rfl c37
          refine lv_iload_n hx hb dX12_is_75 rfl (lv_at hl 1 rfl) ?_
          exact cs_zret F hr hlk hQ St () (r := bb) (by rcases IsI_nar hI2 with q | q <;> (rw [q]; rfl)) (IsI_out hb0 hb1 hI2 (fun q => (by omega))) [0, 1] rfl (by decide) [] rfl (by decide) (by decide) dX12_is_76
        ·
          have i37 := ci_nle (x := r_1) (y := kk) rfl rfl c37
          refine lv_iload_n hx hb dX12_is_40 rfl (lv_at hl 1 rfl) ?_
          refine lv_if_eq (tgt := 75) hx hb dX12_is_41 (by decide) (fun c41 => ?_) (fun c41 => ?_)
          ·
            have i41 := ci_eq (x := bb) (y := 0) rfl (show (0 : Int32).toInt = 0 by decide) c41
            refine lv_iload_n hx hb dX12_is_75 rfl (lv_at hl 1 rfl) ?_
            exact cs_zret F hr hlk hQ St () (r := bb) (by rcases IsI_nar hI2 with q | q <;> (rw [q]; rfl)) (IsI_out hb0 hb1 hI2 (fun q => absurd c41 q)) [0, 1] rfl (by decide) [] rfl (by decide) (by decide) dX12_is_76
          ·
            have i41 := ci_ne (x := bb) (y := 0) rfl (show (0 : Int32).toInt = 0 by decide) c41
            have h41 := IsI_1 hI2 c41
            have h42 := h41.2.1
            refine lv_aload_n hx hb dX12_is_44 rfl (lv_at hl 2 rfl) ?_
            refine cs_get F St 0 rfl rfl inX12 3 (by decide) kf_X12_20 rfl dX12_is_45 ?_
            refine lv_aload_n hx hb dX12_is_48 rfl (lv_at hl 2 rfl) ?_
            refine cs_get F St 0 rfl rfl inX12 6 (by decide) kf_X12_7 rfl dX12_is_49 ?_
            refine lv_iload_n hx hb dX12_is_52 rfl (lv_at hl 0 rfl) ?_
            refine lv_iadd hx hb dX12_is_53 ?_
            refine lv_topi (fun y_4 ey_4 => ?_)
            first | have jy_4 : y_4.toInt = v_from.toInt + kk.toInt := (by have q9 := ci_add (x := v_from) (y := kk) rfl rfl ey_4; omega) | have jy_4 := ci_add (x := v_from) (y := kk) rfl rfl ey_4
            refine cs_bld F St 1 0 rfl rfl (vp_in_iff.mpr ⟨by omega, by omega⟩) dX12_is_54 ?_
            refine lv_topi (fun y_5 ey_5 => ?_)
            refine lv_aload_n hx hb dX12_is_55 rfl (lv_at hl 3 rfl) ?_
            refine lv_iload_n hx hb dX12_is_56 rfl (lv_at hl 0 rfl) ?_
            refine cs_i St [] [0, 1] (wc := []) (wr := [(cMq a h v_taped v_size v_from v_behind v_hand v_value v_fault v_faultAt v_clock v_coin v_loan v_matched v_taxed v_paidStages v_grown v_pledges v_sums v_stages v_isStopped v_begun), (qarI (a 3) (d 3) 400 f_tape)]) rfl rfl (by decide) (by decide) (va_runV (As := [.int kk]) (rest := [.int y_5]) F (cJ_charAt l G k _ i (by first | assumption | decide) kk (by omega) (by omega)) (cwVt F mf_J0_charAt_5068e km_X12_50 rfl rfl ⟨Nat.le_of_ble_eq_true rfl, Nat.le_of_ble_eq_true rfl⟩) (cs_preVS St hi [] rfl) rfl rfl hl.1 rfl (lv_room (Nat.le_of_ble_eq_true rfl)) dX12_is_57 ⟨Nat.le_of_ble_eq_true rfl, Nat.le_of_ble_eq_true rfl⟩) (fun r_6 u_7 H locs hw St => ?_)
            try dsimp only at hw
            have z_8 := hw
            have St : cS G k [(cMq a h v_taped v_size v_from v_behind v_hand v_value v_fault v_faultAt v_clock v_coin v_loan v_matched v_taxed v_paidStages v_grown v_pledges v_sums v_stages v_isStopped v_begun), (qarI (a 3) (d 3) 400 f_tape)] [((d 3), .byte)] A s H locs := St
            refine lv_icmp_ne (tgt := 67) hx hb dX12_is_60 (by decide) (fun c60 => ?_) (fun c60 => ?_)
            ·
              have i60 := ci_ne (x := y_5) (y := r_6) rfl rfl c60
              refine lv_iconst (v := 0) hx hb dX12_is_67 (by decide) ?_
              refine lv_istore_n (lv' := [(2, .int 0), (3, .int kk), (0, .ref h), (1, .ref (k (10 + i)))]) hx hb dX12_is_68 rfl hl (by decide) rfl (fun ls hl => ?_)
              obtain ⟨y_9, ey_9⟩ : ∃ zz : Int32, zz = kk + 1 := ⟨_, rfl⟩
              first | have jy_9 : y_9.toInt = kk.toInt + 1 := (by have q9 := ci_add (x := kk) rfl (show (1 : Int32).toInt = 1 by decide) ey_9; omega) | have jy_9 := ci_add (x := kk) rfl (show (1 : Int32).toInt = 1 by decide) ey_9
              refine lv_iinc (v := y_9) (lv' := [(3, .int y_9), (2, .int 0), (0, .ref h), (1, .ref (k (10 + i)))]) hx hb dX12_is_69 hl (k := 1) rfl (by rw [ey_9]; rfl) (by decide) rfl (fun ls hl => ?_)
              refine lv_goto (tgt := 32) hx hb dX12_is_72 (by decide) ?_
              exact ih y_9 0 _ _ _ ⟨⟨by omega, by omega⟩, IsI_no hby9 hi (by omega) hI0 (by omega) (by omega) ey_5 z_8 c60⟩ (by omega) St (lv_sub hl [0, 1, 2, 3] rfl)
            ·
              have i60 := ci_eq (x := y_5) (y := r_6) rfl rfl c60
              refine lv_iconst (v := 1) hx hb dX12_is_63 (by decide) ?_
              refine lv_goto (tgt := 68) hx hb dX12_is_64 (by decide) ?_
              refine lv_istore_n (lv' := [(2, .int 1), (3, .int kk), (0, .ref h), (1, .ref (k (10 + i)))]) hx hb dX12_is_68 rfl hl (by decide) rfl (fun ls hl => ?_)
              obtain ⟨y_10, ey_10⟩ : ∃ zz : Int32, zz = kk + 1 := ⟨_, rfl⟩
              first | have jy_10 : y_10.toInt = kk.toInt + 1 := (by have q9 := ci_add (x := kk) rfl (show (1 : Int32).toInt = 1 by decide) ey_10; omega) | have jy_10 := ci_add (x := kk) rfl (show (1 : Int32).toInt = 1 by decide) ey_10
              refine lv_iinc (v := y_10) (lv' := [(3, .int y_10), (2, .int 1), (0, .ref h), (1, .ref (k (10 + i)))]) hx hb dX12_is_69 hl (k := 1) rfl (by rw [ey_10]; rfl) (by decide) rfl (fun ls hl => ?_)
              refine lv_goto (tgt := 32) hx hb dX12_is_72 (by decide) ?_
              exact ih y_10 1 _ _ _ ⟨⟨by omega, by omega⟩, IsI_go hby9 hi (by omega) hI0 (by omega) (by omega) (IsI_1 hI2 c41) ey_5 z_8 c60 (by omega)⟩ (by omega) St (lv_sub hl [0, 1, 2, 3] rfl)
    exact lp32 11 0 0 _ _ _ ⟨⟨by omega, by omega⟩, Or.inr ⟨rfl, fun q => c5 q.1⟩⟩ (by omega) St (lv_sub hl [0, 1, 2, 3] rfl)
  ·
    have i5 := ci_eq (x := v_hand) (y := 1) rfl (show (1 : Int32).toInt = 1 by decide) c5
    refine lv_aload_n hx hb dX12_is_8 rfl (lv_at hl 0 rfl) ?_
    refine cs_get F St 0 rfl rfl inX12 7 (by decide) kf_X12_24 rfl dX12_is_9 ?_
    refine lv_aload_n hx hb dX12_is_12 rfl (lv_at hl 0 rfl) ?_
    refine cs_get F St 0 rfl rfl inX12 6 (by decide) kf_X12_7 rfl dX12_is_13 ?_
    refine lv_isub hx hb dX12_is_16 ?_
    refine lv_topi (fun y_11 ey_11 => ?_)
    first | have jy_11 : y_11.toInt = v_behind.toInt - v_from.toInt := (by have q9 := ci_sub (x := v_behind) (y := v_from) rfl rfl ey_11; omega) | have jy_11 := ci_sub (x := v_behind) (y := v_from) rfl rfl ey_11
    refine lv_aload_n hx hb dX12_is_17 rfl (lv_at hl 1 rfl) ?_
    refine cs_i St [] [0, 1] (wc := []) (wr := [(cMq a h v_taped v_size v_from v_behind v_hand v_value v_fault v_faultAt v_clock v_coin v_loan v_matched v_taxed v_paidStages v_grown v_pledges v_sums v_stages v_isStopped v_begun), (qarI (a 3) (d 3) 400 f_tape)]) rfl rfl (by decide) (by decide) (va_runV (As := []) (rest := [.int y_11]) F (cJ_length l G k _ i (by first | assumption | decide)) (cwVt F mf_J0_length_8abf5 km_X12_44 rfl rfl ⟨Nat.le_of_ble_eq_true rfl, Nat.le_of_ble_eq_true rfl⟩) (cs_preVS St hi [] rfl) rfl rfl hl.1 rfl (lv_room (Nat.le_of_ble_eq_true rfl)) dX12_is_18 ⟨Nat.le_of_ble_eq_true rfl, Nat.le_of_ble_eq_true rfl⟩) (fun r_12 u_13 H locs hw St => ?_)
    try dsimp only at hw
    have z_14 := hw
    have St : cS G k [(cMq a h v_taped v_size v_from v_behind v_hand v_value v_fault v_faultAt v_clock v_coin v_loan v_matched v_taxed v_paidStages v_grown v_pledges v_sums v_stages v_isStopped v_begun), (qarI (a 3) (d 3) 400 f_tape)] [((d 3), .byte)] A s H locs := St
    have hnz_14 := (congrArg Int32.toInt z_14).trans hs.1
    refine lv_icmp_ne (tgt := 28) hx hb dX12_is_21 (by decide) (fun c21 => ?_) (fun c21 => ?_)
    ·
      have i21 := ci_ne (x := y_11) (y := r_12) rfl rfl c21
      refine lv_iconst (v := 0) hx hb dX12_is_28 (by decide) ?_
      refine lv_istore_n (lv' := [(2, .int 0), (0, .ref h), (1, .ref (k (10 + i)))]) hx hb dX12_is_29 rfl hl (by decide) rfl (fun ls hl => ?_)
      refine lv_iconst (v := 0) hx hb dX12_is_30 (by decide) ?_
      refine lv_istore_n (lv' := [(3, .int 0), (2, .int 0), (0, .ref h), (1, .ref (k (10 + i)))]) hx hb dX12_is_31 rfl hl (by decide) rfl (fun ls hl => ?_)
      have lp32 : ∀ (n : Nat) (kk : Int32) (bb : Int32) (H : Heap) (locs : List Loc) (ls : Array Slot), ((0 ≤ kk.toInt ∧ kk.toInt ≤ sLen i) ∧ IsI f_tape v_hand v_from v_behind i kk bb) → ((10 - kk.toInt).toNat) < n → cS G k [(cMq a h v_taped v_size v_from v_behind v_hand v_value v_fault v_faultAt v_clock v_coin v_loan v_matched v_taxed v_paidStages v_grown v_pledges v_sums v_stages v_isStopped v_begun), (qarI (a 3) (d 3) 400 f_tape)] [((d 3), .byte)] A s H locs → lv_has ls 4 [(3, .int kk), (2, .int bb), (0, .ref h), (1, .ref (k (10 + i)))] → W p l e ({ frames := 4, cells := 0, slots := 0, locals := 85 } : Room) s m args below meth c H locs 0 0 Q (F0 m 32 ls []) := by
        intro n
        induction n with
        | zero => intro kk bb H locs ls hI hn; exact absurd hn (Nat.not_lt_zero _)
        | succ n ih =>
          intro kk bb H locs ls hI hn St hl
          obtain ⟨⟨hI0, hI1⟩, hI2⟩ := hI
          refine lv_iload_n hx hb dX12_is_32 rfl (lv_at hl 0 rfl) ?_
          refine lv_aload_n hx hb dX12_is_33 rfl (lv_at hl 3 rfl) ?_
          refine cs_i St [] [0, 1] (wc := []) (wr := [(cMq a h v_taped v_size v_from v_behind v_hand v_value v_fault v_faultAt v_clock v_coin v_loan v_matched v_taxed v_paidStages v_grown v_pledges v_sums v_stages v_isStopped v_begun), (qarI (a 3) (d 3) 400 f_tape)]) rfl rfl (by decide) (by decide) (va_runV (As := []) (rest := [.int kk]) F (cJ_length l G k _ i (by first | assumption | decide)) (cwVt F mf_J0_length_8abf5 km_X12_44 rfl rfl ⟨Nat.le_of_ble_eq_true rfl, Nat.le_of_ble_eq_true rfl⟩) (cs_preVS St hi [] rfl) rfl rfl hl.1 rfl (lv_room (Nat.le_of_ble_eq_true rfl)) dX12_is_34 ⟨Nat.le_of_ble_eq_true rfl, Nat.le_of_ble_eq_true rfl⟩) (fun r_15 u_16 H locs hw St => ?_)
          try dsimp only at hw
          have z_17 := hw
          have St : cS G k [(cMq a h v_taped v_size v_from v_behind v_hand v_value v_fault v_faultAt v_clock v_coin v_loan v_matched v_taxed v_paidStages v_grown v_pledges v_sums v_stages v_isStopped v_begun), (qarI (a 3) (d 3) 400 f_tape)] [((d 3), .byte)] A s H locs := St
          have hnz_17 := (congrArg Int32.toInt z_17).trans hs.1
          refine lv_icmp_ge (tgt := 75) hx hb dX12_is_37 (by decide) (fun c37 => ?_) (fun c37 => ?_)
          ·
            have i37 := ci_le (x := r_15) (y := kk) rfl rfl c37
            refine lv_iload_n hx hb dX12_is_75 rfl (lv_at hl 1 rfl) ?_
            exact cs_zret F hr hlk hQ St () (r := bb) (by rcases IsI_nar hI2 with q | q <;> (rw [q]; rfl)) (IsI_out hb0 hb1 hI2 (fun q => (by omega))) [0, 1] rfl (by decide) [] rfl (by decide) (by decide) dX12_is_76
          ·
            have i37 := ci_nle (x := r_15) (y := kk) rfl rfl c37
            refine lv_iload_n hx hb dX12_is_40 rfl (lv_at hl 1 rfl) ?_
            refine lv_if_eq (tgt := 75) hx hb dX12_is_41 (by decide) (fun c41 => ?_) (fun c41 => ?_)
            ·
              have i41 := ci_eq (x := bb) (y := 0) rfl (show (0 : Int32).toInt = 0 by decide) c41
              refine lv_iload_n hx hb dX12_is_75 rfl (lv_at hl 1 rfl) ?_
              exact cs_zret F hr hlk hQ St () (r := bb) (by rcases IsI_nar hI2 with q | q <;> (rw [q]; rfl)) (IsI_out hb0 hb1 hI2 (fun q => absurd c41 q)) [0, 1] rfl (by decide) [] rfl (by decide) (by decide) dX12_is_76
            ·
              have i41 := ci_ne (x := bb) (y := 0) rfl (show (0 : Int32).toInt = 0 by decide) c41
              have h41 := IsI_1 hI2 c41
              have h42 := h41.2.1
              refine lv_aload_n hx hb dX12_is_44 rfl (lv_at hl 2 rfl) ?_
              refine cs_get F St 0 rfl rfl inX12 3 (by decide) kf_X12_20 rfl dX12_is_45 ?_
              refine lv_aload_n hx hb dX12_is_48 rfl (lv_at hl 2 rfl) ?_
              refine cs_get F St 0 rfl rfl inX12 6 (by decide) kf_X12_7 rfl dX12_is_49 ?_
              refine lv_iload_n hx hb dX12_is_52 rfl (lv_at hl 0 rfl) ?_
              refine lv_iadd hx hb dX12_is_53 ?_
              refine lv_topi (fun y_18 ey_18 => ?_)
              first | have jy_18 : y_18.toInt = v_from.toInt + kk.toInt := (by have q9 := ci_add (x := v_from) (y := kk) rfl rfl ey_18; omega) | have jy_18 := ci_add (x := v_from) (y := kk) rfl rfl ey_18
              refine cs_bld F St 1 0 rfl rfl (vp_in_iff.mpr ⟨by omega, by omega⟩) dX12_is_54 ?_
              refine lv_topi (fun y_19 ey_19 => ?_)
              refine lv_aload_n hx hb dX12_is_55 rfl (lv_at hl 3 rfl) ?_
              refine lv_iload_n hx hb dX12_is_56 rfl (lv_at hl 0 rfl) ?_
              refine cs_i St [] [0, 1] (wc := []) (wr := [(cMq a h v_taped v_size v_from v_behind v_hand v_value v_fault v_faultAt v_clock v_coin v_loan v_matched v_taxed v_paidStages v_grown v_pledges v_sums v_stages v_isStopped v_begun), (qarI (a 3) (d 3) 400 f_tape)]) rfl rfl (by decide) (by decide) (va_runV (As := [.int kk]) (rest := [.int y_19]) F (cJ_charAt l G k _ i (by first | assumption | decide) kk (by omega) (by omega)) (cwVt F mf_J0_charAt_5068e km_X12_50 rfl rfl ⟨Nat.le_of_ble_eq_true rfl, Nat.le_of_ble_eq_true rfl⟩) (cs_preVS St hi [] rfl) rfl rfl hl.1 rfl (lv_room (Nat.le_of_ble_eq_true rfl)) dX12_is_57 ⟨Nat.le_of_ble_eq_true rfl, Nat.le_of_ble_eq_true rfl⟩) (fun r_20 u_21 H locs hw St => ?_)
              try dsimp only at hw
              have z_22 := hw
              have St : cS G k [(cMq a h v_taped v_size v_from v_behind v_hand v_value v_fault v_faultAt v_clock v_coin v_loan v_matched v_taxed v_paidStages v_grown v_pledges v_sums v_stages v_isStopped v_begun), (qarI (a 3) (d 3) 400 f_tape)] [((d 3), .byte)] A s H locs := St
              refine lv_icmp_ne (tgt := 67) hx hb dX12_is_60 (by decide) (fun c60 => ?_) (fun c60 => ?_)
              ·
                have i60 := ci_ne (x := y_19) (y := r_20) rfl rfl c60
                refine lv_iconst (v := 0) hx hb dX12_is_67 (by decide) ?_
                refine lv_istore_n (lv' := [(2, .int 0), (3, .int kk), (0, .ref h), (1, .ref (k (10 + i)))]) hx hb dX12_is_68 rfl hl (by decide) rfl (fun ls hl => ?_)
                obtain ⟨y_23, ey_23⟩ : ∃ zz : Int32, zz = kk + 1 := ⟨_, rfl⟩
                first | have jy_23 : y_23.toInt = kk.toInt + 1 := (by have q9 := ci_add (x := kk) rfl (show (1 : Int32).toInt = 1 by decide) ey_23; omega) | have jy_23 := ci_add (x := kk) rfl (show (1 : Int32).toInt = 1 by decide) ey_23
                refine lv_iinc (v := y_23) (lv' := [(3, .int y_23), (2, .int 0), (0, .ref h), (1, .ref (k (10 + i)))]) hx hb dX12_is_69 hl (k := 1) rfl (by rw [ey_23]; rfl) (by decide) rfl (fun ls hl => ?_)
                refine lv_goto (tgt := 32) hx hb dX12_is_72 (by decide) ?_
                exact ih y_23 0 _ _ _ ⟨⟨by omega, by omega⟩, IsI_no hby9 hi (by omega) hI0 (by omega) (by omega) ey_19 z_22 c60⟩ (by omega) St (lv_sub hl [0, 1, 2, 3] rfl)
              ·
                have i60 := ci_eq (x := y_19) (y := r_20) rfl rfl c60
                refine lv_iconst (v := 1) hx hb dX12_is_63 (by decide) ?_
                refine lv_goto (tgt := 68) hx hb dX12_is_64 (by decide) ?_
                refine lv_istore_n (lv' := [(2, .int 1), (3, .int kk), (0, .ref h), (1, .ref (k (10 + i)))]) hx hb dX12_is_68 rfl hl (by decide) rfl (fun ls hl => ?_)
                obtain ⟨y_24, ey_24⟩ : ∃ zz : Int32, zz = kk + 1 := ⟨_, rfl⟩
                first | have jy_24 : y_24.toInt = kk.toInt + 1 := (by have q9 := ci_add (x := kk) rfl (show (1 : Int32).toInt = 1 by decide) ey_24; omega) | have jy_24 := ci_add (x := kk) rfl (show (1 : Int32).toInt = 1 by decide) ey_24
                refine lv_iinc (v := y_24) (lv' := [(3, .int y_24), (2, .int 1), (0, .ref h), (1, .ref (k (10 + i)))]) hx hb dX12_is_69 hl (k := 1) rfl (by rw [ey_24]; rfl) (by decide) rfl (fun ls hl => ?_)
                refine lv_goto (tgt := 32) hx hb dX12_is_72 (by decide) ?_
                exact ih y_24 1 _ _ _ ⟨⟨by omega, by omega⟩, IsI_go hby9 hi (by omega) hI0 (by omega) (by omega) (IsI_1 hI2 c41) ey_19 z_22 c60 (by omega)⟩ (by omega) St (lv_sub hl [0, 1, 2, 3] rfl)
      exact lp32 11 0 0 _ _ _ ⟨⟨by omega, by omega⟩, Or.inr ⟨rfl, fun q => wd_f1 (by omega) q.2⟩⟩ (by omega) St (lv_sub hl [0, 1, 2, 3] rfl)
    ·
      have i21 := ci_eq (x := y_11) (y := r_12) rfl rfl c21
      refine lv_iconst (v := 1) hx hb dX12_is_24 (by decide) ?_
      refine lv_goto (tgt := 29) hx hb dX12_is_25 (by decide) ?_
      refine lv_istore_n (lv' := [(2, .int 1), (0, .ref h), (1, .ref (k (10 + i)))]) hx hb dX12_is_29 rfl hl (by decide) rfl (fun ls hl => ?_)
      refine lv_iconst (v := 0) hx hb dX12_is_30 (by decide) ?_
      refine lv_istore_n (lv' := [(3, .int 0), (2, .int 1), (0, .ref h), (1, .ref (k (10 + i)))]) hx hb dX12_is_31 rfl hl (by decide) rfl (fun ls hl => ?_)
      have lp32 : ∀ (n : Nat) (kk : Int32) (bb : Int32) (H : Heap) (locs : List Loc) (ls : Array Slot), ((0 ≤ kk.toInt ∧ kk.toInt ≤ sLen i) ∧ IsI f_tape v_hand v_from v_behind i kk bb) → ((10 - kk.toInt).toNat) < n → cS G k [(cMq a h v_taped v_size v_from v_behind v_hand v_value v_fault v_faultAt v_clock v_coin v_loan v_matched v_taxed v_paidStages v_grown v_pledges v_sums v_stages v_isStopped v_begun), (qarI (a 3) (d 3) 400 f_tape)] [((d 3), .byte)] A s H locs → lv_has ls 4 [(3, .int kk), (2, .int bb), (0, .ref h), (1, .ref (k (10 + i)))] → W p l e ({ frames := 4, cells := 0, slots := 0, locals := 85 } : Room) s m args below meth c H locs 0 0 Q (F0 m 32 ls []) := by
        intro n
        induction n with
        | zero => intro kk bb H locs ls hI hn; exact absurd hn (Nat.not_lt_zero _)
        | succ n ih =>
          intro kk bb H locs ls hI hn St hl
          obtain ⟨⟨hI0, hI1⟩, hI2⟩ := hI
          refine lv_iload_n hx hb dX12_is_32 rfl (lv_at hl 0 rfl) ?_
          refine lv_aload_n hx hb dX12_is_33 rfl (lv_at hl 3 rfl) ?_
          refine cs_i St [] [0, 1] (wc := []) (wr := [(cMq a h v_taped v_size v_from v_behind v_hand v_value v_fault v_faultAt v_clock v_coin v_loan v_matched v_taxed v_paidStages v_grown v_pledges v_sums v_stages v_isStopped v_begun), (qarI (a 3) (d 3) 400 f_tape)]) rfl rfl (by decide) (by decide) (va_runV (As := []) (rest := [.int kk]) F (cJ_length l G k _ i (by first | assumption | decide)) (cwVt F mf_J0_length_8abf5 km_X12_44 rfl rfl ⟨Nat.le_of_ble_eq_true rfl, Nat.le_of_ble_eq_true rfl⟩) (cs_preVS St hi [] rfl) rfl rfl hl.1 rfl (lv_room (Nat.le_of_ble_eq_true rfl)) dX12_is_34 ⟨Nat.le_of_ble_eq_true rfl, Nat.le_of_ble_eq_true rfl⟩) (fun r_25 u_26 H locs hw St => ?_)
          try dsimp only at hw
          have z_27 := hw
          have St : cS G k [(cMq a h v_taped v_size v_from v_behind v_hand v_value v_fault v_faultAt v_clock v_coin v_loan v_matched v_taxed v_paidStages v_grown v_pledges v_sums v_stages v_isStopped v_begun), (qarI (a 3) (d 3) 400 f_tape)] [((d 3), .byte)] A s H locs := St
          have hnz_27 := (congrArg Int32.toInt z_27).trans hs.1
          refine lv_icmp_ge (tgt := 75) hx hb dX12_is_37 (by decide) (fun c37 => ?_) (fun c37 => ?_)
          ·
            have i37 := ci_le (x := r_25) (y := kk) rfl rfl c37
            refine lv_iload_n hx hb dX12_is_75 rfl (lv_at hl 1 rfl) ?_
            exact cs_zret F hr hlk hQ St () (r := bb) (by rcases IsI_nar hI2 with q | q <;> (rw [q]; rfl)) (IsI_out hb0 hb1 hI2 (fun q => (by omega))) [0, 1] rfl (by decide) [] rfl (by decide) (by decide) dX12_is_76
          ·
            have i37 := ci_nle (x := r_25) (y := kk) rfl rfl c37
            refine lv_iload_n hx hb dX12_is_40 rfl (lv_at hl 1 rfl) ?_
            refine lv_if_eq (tgt := 75) hx hb dX12_is_41 (by decide) (fun c41 => ?_) (fun c41 => ?_)
            ·
              have i41 := ci_eq (x := bb) (y := 0) rfl (show (0 : Int32).toInt = 0 by decide) c41
              refine lv_iload_n hx hb dX12_is_75 rfl (lv_at hl 1 rfl) ?_
              exact cs_zret F hr hlk hQ St () (r := bb) (by rcases IsI_nar hI2 with q | q <;> (rw [q]; rfl)) (IsI_out hb0 hb1 hI2 (fun q => absurd c41 q)) [0, 1] rfl (by decide) [] rfl (by decide) (by decide) dX12_is_76
            ·
              have i41 := ci_ne (x := bb) (y := 0) rfl (show (0 : Int32).toInt = 0 by decide) c41
              have h41 := IsI_1 hI2 c41
              have h42 := h41.2.1
              refine lv_aload_n hx hb dX12_is_44 rfl (lv_at hl 2 rfl) ?_
              refine cs_get F St 0 rfl rfl inX12 3 (by decide) kf_X12_20 rfl dX12_is_45 ?_
              refine lv_aload_n hx hb dX12_is_48 rfl (lv_at hl 2 rfl) ?_
              refine cs_get F St 0 rfl rfl inX12 6 (by decide) kf_X12_7 rfl dX12_is_49 ?_
              refine lv_iload_n hx hb dX12_is_52 rfl (lv_at hl 0 rfl) ?_
              refine lv_iadd hx hb dX12_is_53 ?_
              refine lv_topi (fun y_28 ey_28 => ?_)
              first | have jy_28 : y_28.toInt = v_from.toInt + kk.toInt := (by have q9 := ci_add (x := v_from) (y := kk) rfl rfl ey_28; omega) | have jy_28 := ci_add (x := v_from) (y := kk) rfl rfl ey_28
              refine cs_bld F St 1 0 rfl rfl (vp_in_iff.mpr ⟨by omega, by omega⟩) dX12_is_54 ?_
              refine lv_topi (fun y_29 ey_29 => ?_)
              refine lv_aload_n hx hb dX12_is_55 rfl (lv_at hl 3 rfl) ?_
              refine lv_iload_n hx hb dX12_is_56 rfl (lv_at hl 0 rfl) ?_
              refine cs_i St [] [0, 1] (wc := []) (wr := [(cMq a h v_taped v_size v_from v_behind v_hand v_value v_fault v_faultAt v_clock v_coin v_loan v_matched v_taxed v_paidStages v_grown v_pledges v_sums v_stages v_isStopped v_begun), (qarI (a 3) (d 3) 400 f_tape)]) rfl rfl (by decide) (by decide) (va_runV (As := [.int kk]) (rest := [.int y_29]) F (cJ_charAt l G k _ i (by first | assumption | decide) kk (by omega) (by omega)) (cwVt F mf_J0_charAt_5068e km_X12_50 rfl rfl ⟨Nat.le_of_ble_eq_true rfl, Nat.le_of_ble_eq_true rfl⟩) (cs_preVS St hi [] rfl) rfl rfl hl.1 rfl (lv_room (Nat.le_of_ble_eq_true rfl)) dX12_is_57 ⟨Nat.le_of_ble_eq_true rfl, Nat.le_of_ble_eq_true rfl⟩) (fun r_30 u_31 H locs hw St => ?_)
              try dsimp only at hw
              have z_32 := hw
              have St : cS G k [(cMq a h v_taped v_size v_from v_behind v_hand v_value v_fault v_faultAt v_clock v_coin v_loan v_matched v_taxed v_paidStages v_grown v_pledges v_sums v_stages v_isStopped v_begun), (qarI (a 3) (d 3) 400 f_tape)] [((d 3), .byte)] A s H locs := St
              refine lv_icmp_ne (tgt := 67) hx hb dX12_is_60 (by decide) (fun c60 => ?_) (fun c60 => ?_)
              ·
                have i60 := ci_ne (x := y_29) (y := r_30) rfl rfl c60
                refine lv_iconst (v := 0) hx hb dX12_is_67 (by decide) ?_
                refine lv_istore_n (lv' := [(2, .int 0), (3, .int kk), (0, .ref h), (1, .ref (k (10 + i)))]) hx hb dX12_is_68 rfl hl (by decide) rfl (fun ls hl => ?_)
                obtain ⟨y_33, ey_33⟩ : ∃ zz : Int32, zz = kk + 1 := ⟨_, rfl⟩
                first | have jy_33 : y_33.toInt = kk.toInt + 1 := (by have q9 := ci_add (x := kk) rfl (show (1 : Int32).toInt = 1 by decide) ey_33; omega) | have jy_33 := ci_add (x := kk) rfl (show (1 : Int32).toInt = 1 by decide) ey_33
                refine lv_iinc (v := y_33) (lv' := [(3, .int y_33), (2, .int 0), (0, .ref h), (1, .ref (k (10 + i)))]) hx hb dX12_is_69 hl (k := 1) rfl (by rw [ey_33]; rfl) (by decide) rfl (fun ls hl => ?_)
                refine lv_goto (tgt := 32) hx hb dX12_is_72 (by decide) ?_
                exact ih y_33 0 _ _ _ ⟨⟨by omega, by omega⟩, IsI_no hby9 hi (by omega) hI0 (by omega) (by omega) ey_29 z_32 c60⟩ (by omega) St (lv_sub hl [0, 1, 2, 3] rfl)
              ·
                have i60 := ci_eq (x := y_29) (y := r_30) rfl rfl c60
                refine lv_iconst (v := 1) hx hb dX12_is_63 (by decide) ?_
                refine lv_goto (tgt := 68) hx hb dX12_is_64 (by decide) ?_
                refine lv_istore_n (lv' := [(2, .int 1), (3, .int kk), (0, .ref h), (1, .ref (k (10 + i)))]) hx hb dX12_is_68 rfl hl (by decide) rfl (fun ls hl => ?_)
                obtain ⟨y_34, ey_34⟩ : ∃ zz : Int32, zz = kk + 1 := ⟨_, rfl⟩
                first | have jy_34 : y_34.toInt = kk.toInt + 1 := (by have q9 := ci_add (x := kk) rfl (show (1 : Int32).toInt = 1 by decide) ey_34; omega) | have jy_34 := ci_add (x := kk) rfl (show (1 : Int32).toInt = 1 by decide) ey_34
                refine lv_iinc (v := y_34) (lv' := [(3, .int y_34), (2, .int 1), (0, .ref h), (1, .ref (k (10 + i)))]) hx hb dX12_is_69 hl (k := 1) rfl (by rw [ey_34]; rfl) (by decide) rfl (fun ls hl => ?_)
                refine lv_goto (tgt := 32) hx hb dX12_is_72 (by decide) ?_
                exact ih y_34 1 _ _ _ ⟨⟨by omega, by omega⟩, IsI_go hby9 hi (by omega) hI0 (by omega) (by omega) (IsI_1 hI2 c41) ey_29 z_32 c60 (by omega)⟩ (by omega) St (lv_sub hl [0, 1, 2, 3] rfl)
      exact lp32 11 0 1 _ _ _ ⟨⟨by omega, by omega⟩, Or.inl ⟨rfl, c5, by omega, fun j q => absurd q (by omega)⟩⟩ (by omega) St (lv_sub hl [0, 1, 2, 3] rfl)

