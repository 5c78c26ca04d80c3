set_option maxHeartbeats 4000000 in
set_option maxRecDepth 100000 in
theorem mr_scan (l : Launch) (G : va_G) (k : Nat → Nat) (sz : Nat) (h : Nat) (a : Nat → Nat) (d : Nat → ClassId) (v_taped : Int32) (v_size : Int32) (v_from : Int32) (v_behind : Int32) (v_hand : Int32) (v_value : Int32) (v_fault : Int32) (v_faultAt : Int32) (v_clock : Int32) (v_coin : Int32) (v_loan : Int32) (v_matched : Int32) (v_taxed : Int32) (v_paidStages : Int32) (v_grown : Int32) (v_pledges : Int32) (v_sums : Int32) (v_stages : Int32) (v_isStopped : Int32) (v_begun : Int32) (f_tape : Nat → Int32) (hs0 : 0 ≤ v_size.toInt) (hs1 : v_size.toInt ≤ 400) (hb0 : 0 ≤ v_behind.toInt) (hb1 : v_behind.toInt ≤ v_size.toInt) (hby9 : Byt f_tape) : Met l yX12_scan (Cond.code yX12_scan cX12_scan 2 none :: tb) ({ frames := 1, cells := 0, slots := 0, locals := 21 } : Room) (va_Pc [.ref h] (cP G k [(cMq a h v_taped v_size v_from v_behind v_hand v_value v_fault v_faultAt v_clock v_coin v_loan v_matched v_taxed v_paidStages v_grown v_pledges v_sums v_stages v_isStopped v_begun), (qarI (a 3) (d 3) 400 f_tape)] [((d 3), .byte)] sz)) (va_Qv (fun (u : Int32 × Int32 × Int32 × Int32) => match u with | (w_from, w_behind, w_hand, w_value) => (TK f_tape v_size v_behind w_hand w_from w_behind w_value)) (cB G (fun u => match u with | (w_from, w_behind, w_hand, w_value) => [(cMq a h v_taped v_size w_from w_behind w_hand w_value v_fault v_faultAt v_clock v_coin v_loan v_matched v_taxed v_paidStages v_grown v_pledges v_sums v_stages v_isStopped v_begun), (qarI (a 3) (d 3) 400 f_tape)]) (fun u => match u with | (w_from, w_behind, w_hand, w_value) => []) (va_A [(cMq a h v_taped v_size v_from v_behind v_hand v_value v_fault v_faultAt v_clock v_coin v_loan v_matched v_taxed v_paidStages v_grown v_pledges v_sums v_stages v_isStopped v_begun), (qarI (a 3) (d 3) 400 f_tape)] sz)) (va_A [(cMq a h v_taped v_size v_from v_behind v_hand v_value v_fault v_faultAt v_clock v_coin v_loan v_matched v_taxed v_paidStages v_grown v_pledges v_sums v_stages v_isStopped v_begun), (qarI (a 3) (d 3) 400 f_tape)] sz)) 0 0 (va_A [(cMq a h v_taped v_size v_from v_behind v_hand v_value v_fault v_faultAt v_clock v_coin v_loan v_matched v_taxed v_paidStages v_grown v_pledges v_sums v_stages v_isStopped v_begun), (qarI (a 3) (d 3) 400 f_tape)] sz) := by
  refine ofC_v (cc := cX12_scan) (maxL := 2) (ret := none) (by decide) rfl (Nat.le_of_ble_eq_true rfl) ?_
  intro p e s m args below meth c A ls Q F hr hin hlk St hl hQ
  have hx := F.1
  have hb := F.2.1
  have hl : lv_has ls 2 [(0, .ref h)] := hl
  have St : cS G k [(cMq a h v_taped v_size v_from v_behind v_hand v_value v_fault v_faultAt v_clock v_coin v_loan v_matched v_taxed v_paidStages v_grown v_pledges v_sums v_stages v_isStopped v_begun), (qarI (a 3) (d 3) 400 f_tape)] [((d 3), .byte)] A s s.heap [] := St
  have y0 : (0 : Int32).toInt = 0 := by decide
  have lp0 : ∀ (n : Nat) (bh : Int32) (H : Heap) (locs : List Loc) (ls : Array Slot), (Run tS f_tape v_size v_behind bh) → ((v_size.toInt - bh.toInt).toNat) < n → cS G k [(cMq a h v_taped v_size v_from bh v_hand v_value v_fault v_faultAt v_clock v_coin v_loan v_matched v_taxed v_paidStages v_grown v_pledges v_sums v_stages v_isStopped v_begun), (qarI (a 3) (d 3) 400 f_tape)] [((d 3), .byte)] A s H locs → lv_has ls 2 [(0, .ref h)] → W p l e ({ frames := 1, cells := 0, slots := 0, locals := 21 } : Room) s m args below meth c H locs 0 0 Q (F0 m 0 ls []) := by
    intro n
    induction n with
    | zero => intro bh H locs ls hI hn; exact absurd hn (Nat.not_lt_zero _)
    | succ n ih =>
      intro bh H locs ls hI hn St hl
      have hRS := hI
      have hI0 := hI.1
      have hI1 := hI.2.1
      have nb := nc_int (x := bh) (by omega)
      refine lv_aload_n hx hb dX12_scan_0 rfl (lv_at hl 0 rfl) ?_
      refine cs_get F St 0 rfl rfl inX12 7 (by decide) kf_X12_24 rfl dX12_scan_1 ?_
      refine lv_aload_n hx hb dX12_scan_4 rfl (lv_at hl 0 rfl) ?_
      refine cs_get F St 0 rfl rfl inX12 5 (by decide) kf_X12_17 rfl dX12_scan_5 ?_
      refine lv_icmp_ge (tgt := 52) hx hb dX12_scan_8 (by decide) (fun c8 => ?_) (fun c8 => ?_)
      ·
        have i8 := ci_le (x := v_size) (y := bh) rfl rfl c8
        skip
        refine lv_aload_n hx hb dX12_scan_52 rfl (lv_at hl 0 rfl) ?_
        refine lv_aload_n hx hb dX12_scan_53 rfl (lv_at hl 0 rfl) ?_
        refine cs_get F St 0 rfl rfl inX12 7 (by decide) kf_X12_24 rfl dX12_scan_54 ?_
        refine cs_put F St 0 rfl rfl inX12 tyX12_ok nmX12 6 (by decide) kf_X12_7 rfl rfl rfl (Nat.le_of_ble_eq_true rfl) (w' := [(cMq a h v_taped v_size bh bh v_hand v_value v_fault v_faultAt v_clock v_coin v_loan v_matched v_taxed v_paidStages v_grown v_pledges v_sums v_stages v_isStopped v_begun), (qarI (a 3) (d 3) 400 f_tape)]) rfl dX12_scan_57 (fun H locs St => ?_)
        refine lv_aload_n hx hb dX12_scan_60 rfl (lv_at hl 0 rfl) ?_
        refine lv_aload_n hx hb dX12_scan_61 rfl (lv_at hl 0 rfl) ?_
        refine cs_get F St 0 rfl rfl inX12 6 (by decide) kf_X12_7 rfl dX12_scan_62 ?_
        refine cs_i St [0, 1] [] (wc := [(cMq a h v_taped v_size bh bh v_hand v_value v_fault v_faultAt v_clock v_coin v_loan v_matched v_taxed v_paidStages v_grown v_pledges v_sums v_stages v_isStopped v_begun), (qarI (a 3) (d 3) 400 f_tape)]) (wr := []) rfl rfl (by decide) (by decide) (va_runV (As := [.int bh]) (rest := []) F (m_byteAt l G k _ h a d v_taped v_size bh bh v_hand v_value v_fault v_faultAt v_clock v_coin v_loan v_matched v_taxed v_paidStages v_grown v_pledges v_sums v_stages v_isStopped v_begun f_tape bh (by omega) (by omega) (by omega)) (cwVt F mf_X12_byteAt km_X12_27 rfl rfl ⟨Nat.le_of_ble_eq_true rfl, Nat.le_of_ble_eq_true rfl⟩) (cs_preV St [0, 1] rfl (by decide) [0] rfl (ci := 12) (q0 := 0) rfl rfl) rfl rfl hl.1 rfl (lv_room (Nat.le_of_ble_eq_true rfl)) dX12_scan_65 ⟨Nat.le_of_ble_eq_true rfl, Nat.le_of_ble_eq_true rfl⟩) (fun r_1 u_2 H locs hw St => ?_)
        try dsimp only at hw
        obtain ⟨z_3, hby_4⟩ := hw
        have St : cS G k [(cMq a h v_taped v_size bh bh v_hand v_value v_fault v_faultAt v_clock v_coin v_loan v_matched v_taxed v_paidStages v_grown v_pledges v_sums v_stages v_isStopped v_begun), (qarI (a 3) (d 3) 400 f_tape)] [((d 3), .byte)] A s H locs := St
        refine lv_istore_n (lv' := [(1, .int r_1), (0, .ref h)]) hx hb dX12_scan_68 rfl hl (by decide) rfl (fun ls hl => ?_)
        refine lv_aload_n hx hb dX12_scan_69 rfl (lv_at hl 1 rfl) ?_
        refine cs_get F St 0 rfl rfl inX12 6 (by decide) kf_X12_7 rfl dX12_scan_70 ?_
        refine lv_aload_n hx hb dX12_scan_73 rfl (lv_at hl 1 rfl) ?_
        refine cs_get F St 0 rfl rfl inX12 5 (by decide) kf_X12_17 rfl dX12_scan_74 ?_
        refine lv_icmp_ne (tgt := 88) hx hb dX12_scan_77 (by decide) (fun c77 => ?_) (fun c77 => ?_)
        · have i77 := ci_ne (x := bh) (y := v_size) rfl rfl c77; exact False.elim (by omega)
        have i77 := ci_eq (x := bh) (y := v_size) rfl rfl c77
        refine lv_aload_n hx hb dX12_scan_80 rfl (lv_at hl 1 rfl) ?_
        refine lv_iconst (v := 0) hx hb dX12_scan_81 (by decide) ?_
        refine cs_put F St 0 rfl rfl inX12 tyX12_ok nmX12 8 (by decide) kf_X12_31 rfl rfl rfl (Nat.le_of_ble_eq_true rfl) (w' := [(cMq a h v_taped v_size bh bh 0 v_value v_fault v_faultAt v_clock v_coin v_loan v_matched v_taxed v_paidStages v_grown v_pledges v_sums v_stages v_isStopped v_begun), (qarI (a 3) (d 3) 400 f_tape)]) rfl dX12_scan_82 (fun H locs St => ?_)
        refine lv_goto (tgt := 257) hx hb dX12_scan_85 (by decide) ?_
        exact cs_vret F hr hlk hQ St (bh, bh, 0, v_value) (TK_end hb0 hRS (by omega)) [0, 1] rfl (by decide) [] rfl (by decide) (by decide) dX12_scan_257
      ·
        have i8 := ci_nle (x := v_size) (y := bh) rfl rfl c8
        refine lv_aload_n hx hb dX12_scan_11 rfl (lv_at hl 0 rfl) ?_
        refine cs_get F St 0 rfl rfl inX12 3 (by decide) kf_X12_20 rfl dX12_scan_12 ?_
        refine lv_aload_n hx hb dX12_scan_15 rfl (lv_at hl 0 rfl) ?_
        refine cs_get F St 0 rfl rfl inX12 7 (by decide) kf_X12_24 rfl dX12_scan_16 ?_
        refine cs_bld F St 1 0 rfl rfl (vp_in_iff.mpr ⟨by omega, by omega⟩) dX12_scan_19 ?_
        refine lv_topi (fun y_5 ey_5 => ?_)
        refine lv_bipush (v := 32) hx hb dX12_scan_20 (by decide) ?_
        refine lv_icmp_eq (tgt := 39) hx hb dX12_scan_22 (by decide) (fun c22 => ?_) (fun c22 => ?_)
        ·
          have i22 := ci_eq (x := y_5) (y := 32) rfl (show (32 : Int32).toInt = 32 by decide) c22
          refine lv_aload_n hx hb dX12_scan_39 rfl (lv_at hl 0 rfl) ?_
          refine lv_dup hx hb dX12_scan_40 rfl ?_
          refine cs_get F St 0 rfl rfl inX12 7 (by decide) kf_X12_24 rfl dX12_scan_41 ?_
          refine lv_iconst (v := 1) hx hb dX12_scan_44 (by decide) ?_
          refine lv_iadd hx hb dX12_scan_45 ?_
          refine lv_topi (fun y_6 ey_6 => ?_)
          first | have jy_6 : y_6.toInt = bh.toInt + 1 := (by have q9 := ci_add (x := bh) (y := 1) rfl (show (1 : Int32).toInt = 1 by decide) ey_6; omega) | have jy_6 := ci_add (x := bh) (y := 1) rfl (show (1 : Int32).toInt = 1 by decide) ey_6
          refine cs_put F St 0 rfl rfl inX12 tyX12_ok nmX12 7 (by decide) kf_X12_24 rfl rfl rfl (Nat.le_of_ble_eq_true rfl) (w' := [(cMq a h v_taped v_size v_from y_6 v_hand v_value v_fault v_faultAt v_clock v_coin v_loan v_matched v_taxed v_paidStages v_grown v_pledges v_sums v_stages v_isStopped v_begun), (qarI (a 3) (d 3) 400 f_tape)]) rfl dX12_scan_46 (fun H locs St => ?_)
          refine lv_goto (tgt := 0) hx hb dX12_scan_49 (by decide) ?_
          exact ih y_6 _ _ _ (Run_go hb0 hI (by omega) (raw_S hby9 ey_5 (Or.inl i22)) (by omega)) (by omega) St (lv_sub hl [0] rfl)
        ·
          have i22 := ci_ne (x := y_5) (y := 32) rfl (show (32 : Int32).toInt = 32 by decide) c22
          refine lv_aload_n hx hb dX12_scan_25 rfl (lv_at hl 0 rfl) ?_
          refine cs_get F St 0 rfl rfl inX12 3 (by decide) kf_X12_20 rfl dX12_scan_26 ?_
          refine lv_aload_n hx hb dX12_scan_29 rfl (lv_at hl 0 rfl) ?_
          refine cs_get F St 0 rfl rfl inX12 7 (by decide) kf_X12_24 rfl dX12_scan_30 ?_
          refine cs_bld F St 1 0 rfl rfl (vp_in_iff.mpr ⟨by omega, by omega⟩) dX12_scan_33 ?_
          refine lv_topi (fun y_7 ey_7 => ?_)
          refine lv_bipush (v := 10) hx hb dX12_scan_34 (by decide) ?_
          refine lv_icmp_ne (tgt := 52) hx hb dX12_scan_36 (by decide) (fun c36 => ?_) (fun c36 => ?_)
          ·
            have i36 := ci_ne (x := y_7) (y := 10) rfl (show (10 : Int32).toInt = 10 by decide) c36
            skip
            refine lv_aload_n hx hb dX12_scan_52 rfl (lv_at hl 0 rfl) ?_
            refine lv_aload_n hx hb dX12_scan_53 rfl (lv_at hl 0 rfl) ?_
            refine cs_get F St 0 rfl rfl inX12 7 (by decide) kf_X12_24 rfl dX12_scan_54 ?_
            refine cs_put F St 0 rfl rfl inX12 tyX12_ok nmX12 6 (by decide) kf_X12_7 rfl rfl rfl (Nat.le_of_ble_eq_true rfl) (w' := [(cMq a h v_taped v_size bh bh v_hand v_value v_fault v_faultAt v_clock v_coin v_loan v_matched v_taxed v_paidStages v_grown v_pledges v_sums v_stages v_isStopped v_begun), (qarI (a 3) (d 3) 400 f_tape)]) rfl dX12_scan_57 (fun H locs St => ?_)
            refine lv_aload_n hx hb dX12_scan_60 rfl (lv_at hl 0 rfl) ?_
            refine lv_aload_n hx hb dX12_scan_61 rfl (lv_at hl 0 rfl) ?_
            refine cs_get F St 0 rfl rfl inX12 6 (by decide) kf_X12_7 rfl dX12_scan_62 ?_
            refine cs_i St [0, 1] [] (wc := [(cMq a h v_taped v_size bh bh v_hand v_value v_fault v_faultAt v_clock v_coin v_loan v_matched v_taxed v_paidStages v_grown v_pledges v_sums v_stages v_isStopped v_begun), (qarI (a 3) (d 3) 400 f_tape)]) (wr := []) rfl rfl (by decide) (by decide) (va_runV (As := [.int bh]) (rest := []) F (m_byteAt l G k _ h a d v_taped v_size bh bh v_hand v_value v_fault v_faultAt v_clock v_coin v_loan v_matched v_taxed v_paidStages v_grown v_pledges v_sums v_stages v_isStopped v_begun f_tape bh (by omega) (by omega) (by omega)) (cwVt F mf_X12_byteAt km_X12_27 rfl rfl ⟨Nat.le_of_ble_eq_true rfl, Nat.le_of_ble_eq_true rfl⟩) (cs_preV St [0, 1] rfl (by decide) [0] rfl (ci := 12) (q0 := 0) rfl rfl) rfl rfl hl.1 rfl (lv_room (Nat.le_of_ble_eq_true rfl)) dX12_scan_65 ⟨Nat.le_of_ble_eq_true rfl, Nat.le_of_ble_eq_true rfl⟩) (fun r_8 u_9 H locs hw St => ?_)
            try dsimp only at hw
            obtain ⟨z_10, hby_11⟩ := hw
            have St : cS G k [(cMq a h v_taped v_size bh bh v_hand v_value v_fault v_faultAt v_clock v_coin v_loan v_matched v_taxed v_paidStages v_grown v_pledges v_sums v_stages v_isStopped v_begun), (qarI (a 3) (d 3) 400 f_tape)] [((d 3), .byte)] A s H locs := St
            refine lv_istore_n (lv' := [(1, .int r_8), (0, .ref h)]) hx hb dX12_scan_68 rfl hl (by decide) rfl (fun ls hl => ?_)
            refine lv_aload_n hx hb dX12_scan_69 rfl (lv_at hl 1 rfl) ?_
            refine cs_get F St 0 rfl rfl inX12 6 (by decide) kf_X12_7 rfl dX12_scan_70 ?_
            refine lv_aload_n hx hb dX12_scan_73 rfl (lv_at hl 1 rfl) ?_
            refine cs_get F St 0 rfl rfl inX12 5 (by decide) kf_X12_17 rfl dX12_scan_74 ?_
            refine lv_icmp_ne (tgt := 88) hx hb dX12_scan_77 (by decide) (fun c77 => ?_) (fun c77 => ?_)
            rotate_left
            · have i77 := ci_eq (x := bh) (y := v_size) rfl rfl c77; exact False.elim (by omega)
            have i77 := ci_ne (x := bh) (y := v_size) rfl rfl c77
            refine lv_iload_n hx hb dX12_scan_88 rfl (lv_at hl 0 rfl) ?_
            refine cs_i St [] [0, 1] (wc := []) (wr := [(cMq a h v_taped v_size bh bh v_hand v_value v_fault v_faultAt v_clock v_coin v_loan v_matched v_taxed v_paidStages v_grown v_pledges v_sums v_stages v_isStopped v_begun), (qarI (a 3) (d 3) 400 f_tape)]) rfl rfl (by decide) (by decide) (va_runS (As := [.int r_8]) (rest := []) F (c12_isLetter l G k _ r_8) (cwSt F mf_X12_isLetter km_X12_34 rfl rfl ⟨Nat.le_of_ble_eq_true rfl, Nat.le_of_ble_eq_true rfl⟩) (cs_pre St [] rfl (by decide) [] rfl) rfl rfl hl.1 rfl (lv_room (Nat.le_of_ble_eq_true rfl)) dX12_scan_89 ⟨Nat.le_of_ble_eq_true rfl, Nat.le_of_ble_eq_true rfl⟩) (fun r_12 u_13 H locs hw St => ?_)
            try dsimp only at hw
            rcases hw with ⟨z_14, hf_15⟩ | ⟨z_16, hf_17⟩
            ·
              subst r_12
              have St : cS G k [(cMq a h v_taped v_size bh bh v_hand v_value v_fault v_faultAt v_clock v_coin v_loan v_matched v_taxed v_paidStages v_grown v_pledges v_sums v_stages v_isStopped v_begun), (qarI (a 3) (d 3) 400 f_tape)] [((d 3), .byte)] A s H locs := St
              skip
              refine lv_if_eq (tgt := 130) hx hb dX12_scan_92 (by decide) (fun c92 => ?_) (fun c92 => ?_)
              · exact absurd c92 (by decide)
              have lp95 : ∀ (n : Nat) (b2 : Int32) (H : Heap) (locs : List Loc) (ls : Array Slot), (Run tL f_tape v_size bh b2) → ((v_size.toInt - b2.toInt).toNat) < n → cS G k [(cMq a h v_taped v_size bh b2 v_hand v_value v_fault v_faultAt v_clock v_coin v_loan v_matched v_taxed v_paidStages v_grown v_pledges v_sums v_stages v_isStopped v_begun), (qarI (a 3) (d 3) 400 f_tape)] [((d 3), .byte)] A s H locs → lv_has ls 2 [(1, .int r_8), (0, .ref h)] → W p l e ({ frames := 1, cells := 0, slots := 0, locals := 21 } : Room) s m args below meth c H locs 0 0 Q (F0 m 95 ls []) := by
                intro n
                induction n with
                | zero => intro b2 H locs ls hI hn; exact absurd hn (Nat.not_lt_zero _)
                | succ n ih95 =>
                  intro b2 H locs ls hI hn St hl
                  have hI2 := hI
                  have hI3 := hI2.1
                  have hI4 := hI2.2.1
                  refine lv_aload_n hx hb dX12_scan_95 rfl (lv_at hl 1 rfl) ?_
                  refine lv_aload_n hx hb dX12_scan_96 rfl (lv_at hl 1 rfl) ?_
                  refine cs_get F St 0 rfl rfl inX12 7 (by decide) kf_X12_24 rfl dX12_scan_97 ?_
                  refine cs_i St [0, 1] [] (wc := [(cMq a h v_taped v_size bh b2 v_hand v_value v_fault v_faultAt v_clock v_coin v_loan v_matched v_taxed v_paidStages v_grown v_pledges v_sums v_stages v_isStopped v_begun), (qarI (a 3) (d 3) 400 f_tape)]) (wr := []) rfl rfl (by decide) (by decide) (va_runV (As := [.int b2]) (rest := []) F (m_byteAt l G k _ h a d v_taped v_size bh b2 v_hand v_value v_fault v_faultAt v_clock v_coin v_loan v_matched v_taxed v_paidStages v_grown v_pledges v_sums v_stages v_isStopped v_begun f_tape b2 (by omega) (by omega) (by omega)) (cwVt F mf_X12_byteAt km_X12_27 rfl rfl ⟨Nat.le_of_ble_eq_true rfl, Nat.le_of_ble_eq_true rfl⟩) (cs_preV St [0, 1] rfl (by decide) [0] rfl (ci := 12) (q0 := 0) rfl rfl) rfl rfl hl.1 rfl (lv_room (Nat.le_of_ble_eq_true rfl)) dX12_scan_100 ⟨Nat.le_of_ble_eq_true rfl, Nat.le_of_ble_eq_true rfl⟩) (fun r_18 u_19 H locs hw St => ?_)
                  try dsimp only at hw
                  obtain ⟨z_20, hby_21⟩ := hw
                  have St : cS G k [(cMq a h v_taped v_size bh b2 v_hand v_value v_fault v_faultAt v_clock v_coin v_loan v_matched v_taxed v_paidStages v_grown v_pledges v_sums v_stages v_isStopped v_begun), (qarI (a 3) (d 3) 400 f_tape)] [((d 3), .byte)] A s H locs := St
                  refine cs_i St [] [0, 1] (wc := []) (wr := [(cMq a h v_taped v_size bh b2 v_hand v_value v_fault v_faultAt v_clock v_coin v_loan v_matched v_taxed v_paidStages v_grown v_pledges v_sums v_stages v_isStopped v_begun), (qarI (a 3) (d 3) 400 f_tape)]) rfl rfl (by decide) (by decide) (va_runS (As := [.int r_18]) (rest := []) F (c12_isLetter l G k _ r_18) (cwSt F mf_X12_isLetter km_X12_34 rfl rfl ⟨Nat.le_of_ble_eq_true rfl, Nat.le_of_ble_eq_true rfl⟩) (cs_pre St [] rfl (by decide) [] rfl) rfl rfl hl.1 rfl (lv_room (Nat.le_of_ble_eq_true rfl)) dX12_scan_103 ⟨Nat.le_of_ble_eq_true rfl, Nat.le_of_ble_eq_true rfl⟩) (fun r_22 u_23 H locs hw St => ?_)
                  try dsimp only at hw
                  rcases hw with ⟨z_24, hf_25⟩ | ⟨z_26, hf_27⟩
                  ·
                    subst r_22
                    have St : cS G k [(cMq a h v_taped v_size bh b2 v_hand v_value v_fault v_faultAt v_clock v_coin v_loan v_matched v_taxed v_paidStages v_grown v_pledges v_sums v_stages v_isStopped v_begun), (qarI (a 3) (d 3) 400 f_tape)] [((d 3), .byte)] A s H locs := St
                    refine lv_if_eq (tgt := 122) hx hb dX12_scan_106 (by decide) (fun c106 => ?_) (fun c106 => ?_)
                    · exact absurd c106 (by decide)
                    refine lv_aload_n hx hb dX12_scan_109 rfl (lv_at hl 1 rfl) ?_
                    refine lv_dup hx hb dX12_scan_110 rfl ?_
                    refine cs_get F St 0 rfl rfl inX12 7 (by decide) kf_X12_24 rfl dX12_scan_111 ?_
                    refine lv_iconst (v := 1) hx hb dX12_scan_114 (by decide) ?_
                    refine lv_iadd hx hb dX12_scan_115 ?_
                    refine lv_topi (fun y_28 ey_28 => ?_)
                    first | have jy_28 : y_28.toInt = b2.toInt + 1 := (by have q9 := ci_add (x := b2) (y := 1) rfl (show (1 : Int32).toInt = 1 by decide) ey_28; omega) | have jy_28 := ci_add (x := b2) (y := 1) rfl (show (1 : Int32).toInt = 1 by decide) ey_28
                    refine cs_put F St 0 rfl rfl inX12 tyX12_ok nmX12 7 (by decide) kf_X12_24 rfl rfl rfl (Nat.le_of_ble_eq_true rfl) (w' := [(cMq a h v_taped v_size bh y_28 v_hand v_value v_fault v_faultAt v_clock v_coin v_loan v_matched v_taxed v_paidStages v_grown v_pledges v_sums v_stages v_isStopped v_begun), (qarI (a 3) (d 3) 400 f_tape)]) rfl dX12_scan_116 (fun H locs St => ?_)
                    refine lv_goto (tgt := 95) hx hb dX12_scan_119 (by decide) ?_
                    exact ih95 y_28 _ _ _ (Run_go (by omega) hI2 (by omega) (tL_t (byA_b8 z_20 (by omega)) hf_25) (by omega)) (by omega) St (lv_sub hl [0, 1] rfl)
                  ·
                    subst r_22
                    have St : cS G k [(cMq a h v_taped v_size bh b2 v_hand v_value v_fault v_faultAt v_clock v_coin v_loan v_matched v_taxed v_paidStages v_grown v_pledges v_sums v_stages v_isStopped v_begun), (qarI (a 3) (d 3) 400 f_tape)] [((d 3), .byte)] A s H locs := St
                    refine lv_if_eq (tgt := 122) hx hb dX12_scan_106 (by decide) (fun c106 => ?_) (fun c106 => ?_)
                    rotate_left
                    · exact absurd (by decide) c106
                    refine lv_aload_n hx hb dX12_scan_122 rfl (lv_at hl 1 rfl) ?_
                    refine lv_iconst (v := 1) hx hb dX12_scan_123 (by decide) ?_
                    refine cs_put F St 0 rfl rfl inX12 tyX12_ok nmX12 8 (by decide) kf_X12_31 rfl rfl rfl (Nat.le_of_ble_eq_true rfl) (w' := [(cMq a h v_taped v_size bh b2 1 v_value v_fault v_faultAt v_clock v_coin v_loan v_matched v_taxed v_paidStages v_grown v_pledges v_sums v_stages v_isStopped v_begun), (qarI (a 3) (d 3) 400 f_tape)]) rfl dX12_scan_124 (fun H locs St => ?_)
                    refine lv_goto (tgt := 257) hx hb dX12_scan_127 (by decide) ?_
                    exact cs_vret F hr hlk hQ St (bh, b2, 1, v_value) (TK_word hb0 hRS (by omega) (raw_nS hby9 ey_5 ey_7 i22 i36) (tL_t (byA_b8 z_10 (by omega)) hf_15) (by omega) (Run_fin (by omega) hI2 z_20 (decide_eq_false hf_27)).symm) [0, 1] rfl (by decide) [] rfl (by decide) (by decide) dX12_scan_257
              exact lp95 401 bh _ _ _ (Run_0 (by omega)) (by omega) St (lv_sub hl [0, 1] rfl)
            ·
              subst r_12
              have St : cS G k [(cMq a h v_taped v_size bh bh v_hand v_value v_fault v_faultAt v_clock v_coin v_loan v_matched v_taxed v_paidStages v_grown v_pledges v_sums v_stages v_isStopped v_begun), (qarI (a 3) (d 3) 400 f_tape)] [((d 3), .byte)] A s H locs := St
              skip
              refine lv_if_eq (tgt := 130) hx hb dX12_scan_92 (by decide) (fun c92 => ?_) (fun c92 => ?_)
              rotate_left
              · exact absurd (by decide) c92
              refine lv_iload_n hx hb dX12_scan_130 rfl (lv_at hl 0 rfl) ?_
              refine cs_i St [] [0, 1] (wc := []) (wr := [(cMq a h v_taped v_size bh bh v_hand v_value v_fault v_faultAt v_clock v_coin v_loan v_matched v_taxed v_paidStages v_grown v_pledges v_sums v_stages v_isStopped v_begun), (qarI (a 3) (d 3) 400 f_tape)]) rfl rfl (by decide) (by decide) (va_runS (As := [.int r_8]) (rest := []) F (c12_isDigit l G k _ r_8) (cwSt F mf_X12_isDigit km_X12_38 rfl rfl ⟨Nat.le_of_ble_eq_true rfl, Nat.le_of_ble_eq_true rfl⟩) (cs_pre St [] rfl (by decide) [] rfl) rfl rfl hl.1 rfl (lv_room (Nat.le_of_ble_eq_true rfl)) dX12_scan_131 ⟨Nat.le_of_ble_eq_true rfl, Nat.le_of_ble_eq_true rfl⟩) (fun r_29 u_30 H locs hw St => ?_)
              try dsimp only at hw
              rcases hw with ⟨z_31, hf_32⟩ | ⟨z_33, hf_34⟩
              ·
                subst r_29
                have St : cS G k [(cMq a h v_taped v_size bh bh v_hand v_value v_fault v_faultAt v_clock v_coin v_loan v_matched v_taxed v_paidStages v_grown v_pledges v_sums v_stages v_isStopped v_begun), (qarI (a 3) (d 3) 400 f_tape)] [((d 3), .byte)] A s H locs := St
                refine lv_if_eq (tgt := 232) hx hb dX12_scan_134 (by decide) (fun c134 => ?_) (fun c134 => ?_)
                · exact absurd c134 (by decide)
                skip
                refine lv_aload_n hx hb dX12_scan_137 rfl (lv_at hl 1 rfl) ?_
                refine lv_iconst (v := 0) hx hb dX12_scan_138 (by decide) ?_
                refine cs_put F St 0 rfl rfl inX12 tyX12_ok nmX12 9 (by decide) kf_X12_41 rfl rfl rfl (Nat.le_of_ble_eq_true rfl) (w' := [(cMq a h v_taped v_size bh bh v_hand 0 v_fault v_faultAt v_clock v_coin v_loan v_matched v_taxed v_paidStages v_grown v_pledges v_sums v_stages v_isStopped v_begun), (qarI (a 3) (d 3) 400 f_tape)]) rfl dX12_scan_139 (fun H locs St => ?_)
                have lp142 : ∀ (n : Nat) (b3 : Int32) (vl9 : Int32) (H : Heap) (locs : List Loc) (ls : Array Slot), (Run tD f_tape v_size bh b3 ∧ vl9 = vl f_tape bh.toNatClampNeg (b3.toNatClampNeg - bh.toNatClampNeg)) → ((v_size.toInt - b3.toInt).toNat) < n → cS G k [(cMq a h v_taped v_size bh b3 v_hand vl9 v_fault v_faultAt v_clock v_coin v_loan v_matched v_taxed v_paidStages v_grown v_pledges v_sums v_stages v_isStopped v_begun), (qarI (a 3) (d 3) 400 f_tape)] [((d 3), .byte)] A s H locs → lv_has ls 2 [(1, .int r_8), (0, .ref h)] → W p l e ({ frames := 1, cells := 0, slots := 0, locals := 21 } : Room) s m args below meth c H locs 0 0 Q (F0 m 142 ls []) := by
                  intro n
                  induction n with
                  | zero => intro b3 vl9 H locs ls hI hn; exact absurd hn (Nat.not_lt_zero _)
                  | succ n ih142 =>
                    intro b3 vl9 H locs ls hI hn St hl
                    obtain ⟨hR3, hV⟩ := hI
                    have hI3 := hR3.1
                    have hI4 := hR3.2.1
                    have n3 := nc_int (x := b3) (by omega)
                    refine lv_aload_n hx hb dX12_scan_142 rfl (lv_at hl 1 rfl) ?_
                    refine lv_aload_n hx hb dX12_scan_143 rfl (lv_at hl 1 rfl) ?_
                    refine cs_get F St 0 rfl rfl inX12 7 (by decide) kf_X12_24 rfl dX12_scan_144 ?_
                    refine cs_i St [0, 1] [] (wc := [(cMq a h v_taped v_size bh b3 v_hand vl9 v_fault v_faultAt v_clock v_coin v_loan v_matched v_taxed v_paidStages v_grown v_pledges v_sums v_stages v_isStopped v_begun), (qarI (a 3) (d 3) 400 f_tape)]) (wr := []) rfl rfl (by decide) (by decide) (va_runV (As := [.int b3]) (rest := []) F (m_byteAt l G k _ h a d v_taped v_size bh b3 v_hand vl9 v_fault v_faultAt v_clock v_coin v_loan v_matched v_taxed v_paidStages v_grown v_pledges v_sums v_stages v_isStopped v_begun f_tape b3 (by omega) (by omega) (by omega)) (cwVt F mf_X12_byteAt km_X12_27 rfl rfl ⟨Nat.le_of_ble_eq_true rfl, Nat.le_of_ble_eq_true rfl⟩) (cs_preV St [0, 1] rfl (by decide) [0] rfl (ci := 12) (q0 := 0) rfl rfl) rfl rfl hl.1 rfl (lv_room (Nat.le_of_ble_eq_true rfl)) dX12_scan_147 ⟨Nat.le_of_ble_eq_true rfl, Nat.le_of_ble_eq_true rfl⟩) (fun r_35 u_36 H locs hw St => ?_)
                    try dsimp only at hw
                    obtain ⟨z_37, hby_38⟩ := hw
                    have St : cS G k [(cMq a h v_taped v_size bh b3 v_hand vl9 v_fault v_faultAt v_clock v_coin v_loan v_matched v_taxed v_paidStages v_grown v_pledges v_sums v_stages v_isStopped v_begun), (qarI (a 3) (d 3) 400 f_tape)] [((d 3), .byte)] A s H locs := St
                    refine cs_i St [] [0, 1] (wc := []) (wr := [(cMq a h v_taped v_size bh b3 v_hand vl9 v_fault v_faultAt v_clock v_coin v_loan v_matched v_taxed v_paidStages v_grown v_pledges v_sums v_stages v_isStopped v_begun), (qarI (a 3) (d 3) 400 f_tape)]) rfl rfl (by decide) (by decide) (va_runS (As := [.int r_35]) (rest := []) F (c12_isDigit l G k _ r_35) (cwSt F mf_X12_isDigit km_X12_38 rfl rfl ⟨Nat.le_of_ble_eq_true rfl, Nat.le_of_ble_eq_true rfl⟩) (cs_pre St [] rfl (by decide) [] rfl) rfl rfl hl.1 rfl (lv_room (Nat.le_of_ble_eq_true rfl)) dX12_scan_150 ⟨Nat.le_of_ble_eq_true rfl, Nat.le_of_ble_eq_true rfl⟩) (fun r_39 u_40 H locs hw St => ?_)
                    try dsimp only at hw
                    rcases hw with ⟨z_41, hf_42⟩ | ⟨z_43, hf_44⟩
                    ·
                      subst r_39
                      have St : cS G k [(cMq a h v_taped v_size bh b3 v_hand vl9 v_fault v_faultAt v_clock v_coin v_loan v_matched v_taxed v_paidStages v_grown v_pledges v_sums v_stages v_isStopped v_begun), (qarI (a 3) (d 3) 400 f_tape)] [((d 3), .byte)] A s H locs := St
                      refine lv_if_eq (tgt := 206) hx hb dX12_scan_153 (by decide) (fun c153 => ?_) (fun c153 => ?_)
                      · exact absurd c153 (by decide)
                      skip
                      refine lv_aload_n hx hb dX12_scan_156 rfl (lv_at hl 1 rfl) ?_
                      refine cs_get F St 0 rfl rfl inX12 7 (by decide) kf_X12_24 rfl dX12_scan_157 ?_
                      refine lv_aload_n hx hb dX12_scan_160 rfl (lv_at hl 1 rfl) ?_
                      refine cs_get F St 0 rfl rfl inX12 6 (by decide) kf_X12_7 rfl dX12_scan_161 ?_
                      refine lv_isub hx hb dX12_scan_164 ?_
                      refine lv_topi (fun y_45 ey_45 => ?_)
                      first | have jy_45 : y_45.toInt = b3.toInt - bh.toInt := (by have q9 := ci_sub (x := b3) (y := bh) rfl rfl ey_45; omega) | have jy_45 := ci_sub (x := b3) (y := bh) rfl rfl ey_45
                      refine lv_bipush (v := 6) hx hb dX12_scan_165 (by decide) ?_
                      refine lv_icmp_ge (tgt := 193) hx hb dX12_scan_167 (by decide) (fun c167 => ?_) (fun c167 => ?_)
                      ·
                        have i167 := ci_le (x := 6) (y := y_45) (show (6 : Int32).toInt = 6 by decide) rfl c167
                        refine lv_aload_n hx hb dX12_scan_193 rfl (lv_at hl 1 rfl) ?_
                        refine lv_dup hx hb dX12_scan_194 rfl ?_
                        refine cs_get F St 0 rfl rfl inX12 7 (by decide) kf_X12_24 rfl dX12_scan_195 ?_
                        refine lv_iconst (v := 1) hx hb dX12_scan_198 (by decide) ?_
                        refine lv_iadd hx hb dX12_scan_199 ?_
                        refine lv_topi (fun y_46 ey_46 => ?_)
                        first | have jy_46 : y_46.toInt = b3.toInt + 1 := (by have q9 := ci_add (x := b3) (y := 1) rfl (show (1 : Int32).toInt = 1 by decide) ey_46; omega) | have jy_46 := ci_add (x := b3) (y := 1) rfl (show (1 : Int32).toInt = 1 by decide) ey_46
                        refine cs_put F St 0 rfl rfl inX12 tyX12_ok nmX12 7 (by decide) kf_X12_24 rfl rfl rfl (Nat.le_of_ble_eq_true rfl) (w' := [(cMq a h v_taped v_size bh y_46 v_hand vl9 v_fault v_faultAt v_clock v_coin v_loan v_matched v_taxed v_paidStages v_grown v_pledges v_sums v_stages v_isStopped v_begun), (qarI (a 3) (d 3) 400 f_tape)]) rfl dX12_scan_200 (fun H locs St => ?_)
                        refine lv_goto (tgt := 142) hx hb dX12_scan_203 (by decide) ?_
                        exact ih142 y_46 vl9 _ _ _ ⟨Run_go (by omega) hR3 (by omega) (tD_t (byA_b8 z_37 (by omega)) hf_42) (by omega), by rw [show y_46.toNatClampNeg - bh.toNatClampNeg = (b3.toNatClampNeg - bh.toNatClampNeg) + 1 from (by have := nc_s (x := b3) (y := y_46) (by omega) (by omega); omega)]; exact vl_keep hV (by omega)⟩ (by omega) St (lv_sub hl [0, 1] rfl)
                      ·
                        have i167 := ci_nle (x := 6) (y := y_45) (show (6 : Int32).toInt = 6 by decide) rfl c167
                        refine lv_aload_n hx hb dX12_scan_170 rfl (lv_at hl 1 rfl) ?_
                        refine lv_bipush (v := 10) hx hb dX12_scan_171 (by decide) ?_
                        refine lv_aload_n hx hb dX12_scan_173 rfl (lv_at hl 1 rfl) ?_
                        refine cs_get F St 0 rfl rfl inX12 9 (by decide) kf_X12_41 rfl dX12_scan_174 ?_
                        refine lv_imul hx hb dX12_scan_177 ?_
                        refine lv_topi (fun y_47 ey_47 => ?_)
                        first | have jy_47 : y_47.toInt = 10 * vl9.toInt := (by have q9 := ci_mul (x := 10) (y := vl9) (show (10 : Int32).toInt = 10 by decide) rfl ey_47; omega) | have jy_47 := ci_mul (x := 10) (y := vl9) (show (10 : Int32).toInt = 10 by decide) rfl ey_47
                        refine lv_aload_n hx hb dX12_scan_178 rfl (lv_at hl 1 rfl) ?_
                        refine lv_aload_n hx hb dX12_scan_179 rfl (lv_at hl 1 rfl) ?_
                        refine cs_get F St 0 rfl rfl inX12 7 (by decide) kf_X12_24 rfl dX12_scan_180 ?_
                        refine cs_i St [0, 1] [] (wc := [(cMq a h v_taped v_size bh b3 v_hand vl9 v_fault v_faultAt v_clock v_coin v_loan v_matched v_taxed v_paidStages v_grown v_pledges v_sums v_stages v_isStopped v_begun), (qarI (a 3) (d 3) 400 f_tape)]) (wr := []) rfl rfl (by decide) (by decide) (va_runV (As := [.int b3]) (rest := [.int y_47, .ref h]) F (m_byteAt l G k _ h a d v_taped v_size bh b3 v_hand vl9 v_fault v_faultAt v_clock v_coin v_loan v_matched v_taxed v_paidStages v_grown v_pledges v_sums v_stages v_isStopped v_begun f_tape b3 (by omega) (by omega) (by omega)) (cwVt F mf_X12_byteAt km_X12_27 rfl rfl ⟨Nat.le_of_ble_eq_true rfl, Nat.le_of_ble_eq_true rfl⟩) (cs_preV St [0, 1] rfl (by decide) [0] rfl (ci := 12) (q0 := 0) rfl rfl) rfl rfl hl.1 rfl (lv_room (Nat.le_of_ble_eq_true rfl)) dX12_scan_183 ⟨Nat.le_of_ble_eq_true rfl, Nat.le_of_ble_eq_true rfl⟩) (fun r_48 u_49 H locs hw St => ?_)
                        try dsimp only at hw
                        obtain ⟨z_50, hby_51⟩ := hw
                        have St : cS G k [(cMq a h v_taped v_size bh b3 v_hand vl9 v_fault v_faultAt v_clock v_coin v_loan v_matched v_taxed v_paidStages v_grown v_pledges v_sums v_stages v_isStopped v_begun), (qarI (a 3) (d 3) 400 f_tape)] [((d 3), .byte)] A s H locs := St
                        skip
                        refine lv_iadd hx hb dX12_scan_186 ?_
                        refine lv_topi (fun y_52 ey_52 => ?_)
                        first | have jy_52 : y_52.toInt = y_47.toInt + r_48.toInt := (by have q9 := ci_add (x := y_47) (y := r_48) rfl rfl ey_52; omega) | have jy_52 := ci_add (x := y_47) (y := r_48) rfl rfl ey_52
                        refine lv_bipush (v := 48) hx hb dX12_scan_187 (by decide) ?_
                        skip
                        refine lv_isub hx hb dX12_scan_189 ?_
                        refine lv_topi (fun y_53 ey_53 => ?_)
                        first | have jy_53 : y_53.toInt = y_52.toInt - 48 := (by have q9 := ci_sub (x := y_52) (y := 48) rfl (show (48 : Int32).toInt = 48 by decide) ey_53; omega) | have jy_53 := ci_sub (x := y_52) (y := 48) rfl (show (48 : Int32).toInt = 48 by decide) ey_53
                        refine cs_put F St 0 rfl rfl inX12 tyX12_ok nmX12 9 (by decide) kf_X12_41 rfl rfl rfl (Nat.le_of_ble_eq_true rfl) (w' := [(cMq a h v_taped v_size bh b3 v_hand y_53 v_fault v_faultAt v_clock v_coin v_loan v_matched v_taxed v_paidStages v_grown v_pledges v_sums v_stages v_isStopped v_begun), (qarI (a 3) (d 3) 400 f_tape)]) rfl dX12_scan_190 (fun H locs St => ?_)
                        refine lv_aload_n hx hb dX12_scan_193 rfl (lv_at hl 1 rfl) ?_
                        refine lv_dup hx hb dX12_scan_194 rfl ?_
                        refine cs_get F St 0 rfl rfl inX12 7 (by decide) kf_X12_24 rfl dX12_scan_195 ?_
                        refine lv_iconst (v := 1) hx hb dX12_scan_198 (by decide) ?_
                        refine lv_iadd hx hb dX12_scan_199 ?_
                        refine lv_topi (fun y_54 ey_54 => ?_)
                        first | have jy_54 : y_54.toInt = b3.toInt + 1 := (by have q9 := ci_add (x := b3) (y := 1) rfl (show (1 : Int32).toInt = 1 by decide) ey_54; omega) | have jy_54 := ci_add (x := b3) (y := 1) rfl (show (1 : Int32).toInt = 1 by decide) ey_54
                        refine cs_put F St 0 rfl rfl inX12 tyX12_ok nmX12 7 (by decide) kf_X12_24 rfl rfl rfl (Nat.le_of_ble_eq_true rfl) (w' := [(cMq a h v_taped v_size bh y_54 v_hand y_53 v_fault v_faultAt v_clock v_coin v_loan v_matched v_taxed v_paidStages v_grown v_pledges v_sums v_stages v_isStopped v_begun), (qarI (a 3) (d 3) 400 f_tape)]) rfl dX12_scan_200 (fun H locs St => ?_)
                        refine lv_goto (tgt := 142) hx hb dX12_scan_203 (by decide) ?_
                        exact ih142 y_54 y_53 _ _ _ ⟨Run_go (by omega) hR3 (by omega) (tD_t (byA_b8 z_37 (by omega)) hf_42) (by omega), by rw [show y_54.toNatClampNeg - bh.toNatClampNeg = (b3.toNatClampNeg - bh.toNatClampNeg) + 1 from (by have := nc_s (x := b3) (y := y_54) (by omega) (by omega); omega)]; exact vl_up hV (by omega) ((byA_b8 z_50 (by omega)).trans (congrArg (b8 f_tape) (show b3.toNatClampNeg = bh.toNatClampNeg + (b3.toNatClampNeg - bh.toNatClampNeg) by omega))) (ey_47.trans (Int32.mul_comm _ _)) ey_52 ey_53⟩ (by omega) St (lv_sub hl [0, 1] rfl)
                    ·
                      subst r_39
                      have St : cS G k [(cMq a h v_taped v_size bh b3 v_hand vl9 v_fault v_faultAt v_clock v_coin v_loan v_matched v_taxed v_paidStages v_grown v_pledges v_sums v_stages v_isStopped v_begun), (qarI (a 3) (d 3) 400 f_tape)] [((d 3), .byte)] A s H locs := St
                      refine lv_if_eq (tgt := 206) hx hb dX12_scan_153 (by decide) (fun c153 => ?_) (fun c153 => ?_)
                      rotate_left
                      · exact absurd (by decide) c153
                      refine lv_aload_n hx hb dX12_scan_206 rfl (lv_at hl 1 rfl) ?_
                      refine lv_aload_n hx hb dX12_scan_207 rfl (lv_at hl 1 rfl) ?_
                      refine cs_get F St 0 rfl rfl inX12 7 (by decide) kf_X12_24 rfl dX12_scan_208 ?_
                      refine lv_aload_n hx hb dX12_scan_211 rfl (lv_at hl 1 rfl) ?_
                      refine cs_get F St 0 rfl rfl inX12 6 (by decide) kf_X12_7 rfl dX12_scan_212 ?_
                      refine lv_isub hx hb dX12_scan_215 ?_
                      refine lv_topi (fun y_55 ey_55 => ?_)
                      first | have jy_55 : y_55.toInt = b3.toInt - bh.toInt := (by have q9 := ci_sub (x := b3) (y := bh) rfl rfl ey_55; omega) | have jy_55 := ci_sub (x := b3) (y := bh) rfl rfl ey_55
                      refine lv_bipush (v := 6) hx hb dX12_scan_216 (by decide) ?_
                      refine lv_icmp_le (tgt := 225) hx hb dX12_scan_218 (by decide) (fun c218 => ?_) (fun c218 => ?_)
                      ·
                        have i218 := ci_le (x := y_55) (y := 6) rfl (show (6 : Int32).toInt = 6 by decide) c218
                        refine lv_iconst (v := 2) hx hb dX12_scan_225 (by decide) ?_
                        refine cs_put F St 0 rfl rfl inX12 tyX12_ok nmX12 8 (by decide) kf_X12_31 rfl rfl rfl (Nat.le_of_ble_eq_true rfl) (w' := [(cMq a h v_taped v_size bh b3 2 vl9 v_fault v_faultAt v_clock v_coin v_loan v_matched v_taxed v_paidStages v_grown v_pledges v_sums v_stages v_isStopped v_begun), (qarI (a 3) (d 3) 400 f_tape)]) rfl dX12_scan_226 (fun H locs St => ?_)
                        refine lv_goto (tgt := 257) hx hb dX12_scan_229 (by decide) ?_
                        exact cs_vret F hr hlk hQ St (bh, b3, 2, vl9) (TK_num hb0 hRS (by omega) (raw_nS hby9 ey_5 ey_7 i22 i36) (tL_f (byA_b8 z_10 (by omega)) hf_17) (tD_t (byA_b8 z_10 (by omega)) hf_32) (by omega) (Run_fin (by omega) hR3 z_37 (decide_eq_false hf_44)).symm hV (Or.inl ⟨rfl, by omega⟩)) [0, 1] rfl (by decide) [] rfl (by decide) (by decide) dX12_scan_257
                      ·
                        have i218 := ci_nle (x := y_55) (y := 6) rfl (show (6 : Int32).toInt = 6 by decide) c218
                        refine lv_iconst (v := 4) hx hb dX12_scan_221 (by decide) ?_
                        refine lv_goto (tgt := 226) hx hb dX12_scan_222 (by decide) ?_
                        refine cs_put F St 0 rfl rfl inX12 tyX12_ok nmX12 8 (by decide) kf_X12_31 rfl rfl rfl (Nat.le_of_ble_eq_true rfl) (w' := [(cMq a h v_taped v_size bh b3 4 vl9 v_fault v_faultAt v_clock v_coin v_loan v_matched v_taxed v_paidStages v_grown v_pledges v_sums v_stages v_isStopped v_begun), (qarI (a 3) (d 3) 400 f_tape)]) rfl dX12_scan_226 (fun H locs St => ?_)
                        refine lv_goto (tgt := 257) hx hb dX12_scan_229 (by decide) ?_
                        exact cs_vret F hr hlk hQ St (bh, b3, 4, vl9) (TK_num hb0 hRS (by omega) (raw_nS hby9 ey_5 ey_7 i22 i36) (tL_f (byA_b8 z_10 (by omega)) hf_17) (tD_t (byA_b8 z_10 (by omega)) hf_32) (by omega) (Run_fin (by omega) hR3 z_37 (decide_eq_false hf_44)).symm hV (Or.inr ⟨rfl, by omega⟩)) [0, 1] rfl (by decide) [] rfl (by decide) (by decide) dX12_scan_257
                exact lp142 401 bh 0 _ _ _ ⟨Run_0 (by omega), by rw [Nat.sub_self]; rfl⟩ (by omega) St (lv_sub hl [0, 1] rfl)
              ·
                subst r_29
                have St : cS G k [(cMq a h v_taped v_size bh bh v_hand v_value v_fault v_faultAt v_clock v_coin v_loan v_matched v_taxed v_paidStages v_grown v_pledges v_sums v_stages v_isStopped v_begun), (qarI (a 3) (d 3) 400 f_tape)] [((d 3), .byte)] A s H locs := St
                refine lv_if_eq (tgt := 232) hx hb dX12_scan_134 (by decide) (fun c134 => ?_) (fun c134 => ?_)
                rotate_left
                · exact absurd (by decide) c134
                refine lv_aload_n hx hb dX12_scan_232 rfl (lv_at hl 1 rfl) ?_
                refine lv_iload_n hx hb dX12_scan_233 rfl (lv_at hl 0 rfl) ?_
                refine lv_bipush (v := 59) hx hb dX12_scan_234 (by decide) ?_
                refine lv_icmp_ne (tgt := 243) hx hb dX12_scan_236 (by decide) (fun c236 => ?_) (fun c236 => ?_)
                ·
                  have i236 := ci_ne (x := r_8) (y := 59) rfl (show (59 : Int32).toInt = 59 by decide) c236
                  refine lv_iconst (v := 4) hx hb dX12_scan_243 (by decide) ?_
                  refine cs_put F St 0 rfl rfl inX12 tyX12_ok nmX12 8 (by decide) kf_X12_31 rfl rfl rfl (Nat.le_of_ble_eq_true rfl) (w' := [(cMq a h v_taped v_size bh bh 4 v_value v_fault v_faultAt v_clock v_coin v_loan v_matched v_taxed v_paidStages v_grown v_pledges v_sums v_stages v_isStopped v_begun), (qarI (a 3) (d 3) 400 f_tape)]) rfl dX12_scan_244 (fun H locs St => ?_)
                  refine lv_aload_n hx hb dX12_scan_247 rfl (lv_at hl 1 rfl) ?_
                  refine lv_dup hx hb dX12_scan_248 rfl ?_
                  refine cs_get F St 0 rfl rfl inX12 7 (by decide) kf_X12_24 rfl dX12_scan_249 ?_
                  refine lv_iconst (v := 1) hx hb dX12_scan_252 (by decide) ?_
                  refine lv_iadd hx hb dX12_scan_253 ?_
                  refine lv_topi (fun y_56 ey_56 => ?_)
                  first | have jy_56 : y_56.toInt = bh.toInt + 1 := (by have q9 := ci_add (x := bh) (y := 1) rfl (show (1 : Int32).toInt = 1 by decide) ey_56; omega) | have jy_56 := ci_add (x := bh) (y := 1) rfl (show (1 : Int32).toInt = 1 by decide) ey_56
                  refine cs_put F St 0 rfl rfl inX12 tyX12_ok nmX12 7 (by decide) kf_X12_24 rfl rfl rfl (Nat.le_of_ble_eq_true rfl) (w' := [(cMq a h v_taped v_size bh y_56 4 v_value v_fault v_faultAt v_clock v_coin v_loan v_matched v_taxed v_paidStages v_grown v_pledges v_sums v_stages v_isStopped v_begun), (qarI (a 3) (d 3) 400 f_tape)]) rfl dX12_scan_254 (fun H locs St => ?_)
                  exact cs_vret F hr hlk hQ St (bh, y_56, 4, v_value) (TK_sign hb0 hRS (by omega) (raw_nS hby9 ey_5 ey_7 i22 i36) (tL_f (byA_b8 z_10 (by omega)) hf_17) (tD_f (byA_b8 z_10 (by omega)) hf_34) (by omega) (Or.inr ⟨rfl, fun q => c236 ((byA_b8 z_10 (by omega)).trans q)⟩)) [0, 1] rfl (by decide) [] rfl (by decide) (by decide) dX12_scan_257
                ·
                  have i236 := ci_eq (x := r_8) (y := 59) rfl (show (59 : Int32).toInt = 59 by decide) c236
                  refine lv_iconst (v := 3) hx hb dX12_scan_239 (by decide) ?_
                  refine lv_goto (tgt := 244) hx hb dX12_scan_240 (by decide) ?_
                  refine cs_put F St 0 rfl rfl inX12 tyX12_ok nmX12 8 (by decide) kf_X12_31 rfl rfl rfl (Nat.le_of_ble_eq_true rfl) (w' := [(cMq a h v_taped v_size bh bh 3 v_value v_fault v_faultAt v_clock v_coin v_loan v_matched v_taxed v_paidStages v_grown v_pledges v_sums v_stages v_isStopped v_begun), (qarI (a 3) (d 3) 400 f_tape)]) rfl dX12_scan_244 (fun H locs St => ?_)
                  refine lv_aload_n hx hb dX12_scan_247 rfl (lv_at hl 1 rfl) ?_
                  refine lv_dup hx hb dX12_scan_248 rfl ?_
                  refine cs_get F St 0 rfl rfl inX12 7 (by decide) kf_X12_24 rfl dX12_scan_249 ?_
                  refine lv_iconst (v := 1) hx hb dX12_scan_252 (by decide) ?_
                  refine lv_iadd hx hb dX12_scan_253 ?_
                  refine lv_topi (fun y_57 ey_57 => ?_)
                  first | have jy_57 : y_57.toInt = bh.toInt + 1 := (by have q9 := ci_add (x := bh) (y := 1) rfl (show (1 : Int32).toInt = 1 by decide) ey_57; omega) | have jy_57 := ci_add (x := bh) (y := 1) rfl (show (1 : Int32).toInt = 1 by decide) ey_57
                  refine cs_put F St 0 rfl rfl inX12 tyX12_ok nmX12 7 (by decide) kf_X12_24 rfl rfl rfl (Nat.le_of_ble_eq_true rfl) (w' := [(cMq a h v_taped v_size bh y_57 3 v_value v_fault v_faultAt v_clock v_coin v_loan v_matched v_taxed v_paidStages v_grown v_pledges v_sums v_stages v_isStopped v_begun), (qarI (a 3) (d 3) 400 f_tape)]) rfl dX12_scan_254 (fun H locs St => ?_)
                  exact cs_vret F hr hlk hQ St (bh, y_57, 3, v_value) (TK_sign hb0 hRS (by omega) (raw_nS hby9 ey_5 ey_7 i22 i36) (tL_f (byA_b8 z_10 (by omega)) hf_17) (tD_f (byA_b8 z_10 (by omega)) hf_34) (by omega) (Or.inl ⟨rfl, (byA_b8 z_10 (by omega)).symm.trans c236⟩)) [0, 1] rfl (by decide) [] rfl (by decide) (by decide) dX12_scan_257
          ·
            have i36 := ci_eq (x := y_7) (y := 10) rfl (show (10 : Int32).toInt = 10 by decide) c36
            refine lv_aload_n hx hb dX12_scan_39 rfl (lv_at hl 0 rfl) ?_
            refine lv_dup hx hb dX12_scan_40 rfl ?_
            refine cs_get F St 0 rfl rfl inX12 7 (by decide) kf_X12_24 rfl dX12_scan_41 ?_
            refine lv_iconst (v := 1) hx hb dX12_scan_44 (by decide) ?_
            refine lv_iadd hx hb dX12_scan_45 ?_
            refine lv_topi (fun y_58 ey_58 => ?_)
            first | have jy_58 : y_58.toInt = bh.toInt + 1 := (by have q9 := ci_add (x := bh) (y := 1) rfl (show (1 : Int32).toInt = 1 by decide) ey_58; omega) | have jy_58 := ci_add (x := bh) (y := 1) rfl (show (1 : Int32).toInt = 1 by decide) ey_58
            refine cs_put F St 0 rfl rfl inX12 tyX12_ok nmX12 7 (by decide) kf_X12_24 rfl rfl rfl (Nat.le_of_ble_eq_true rfl) (w' := [(cMq a h v_taped v_size v_from y_58 v_hand v_value v_fault v_faultAt v_clock v_coin v_loan v_matched v_taxed v_paidStages v_grown v_pledges v_sums v_stages v_isStopped v_begun), (qarI (a 3) (d 3) 400 f_tape)]) rfl dX12_scan_46 (fun H locs St => ?_)
            refine lv_goto (tgt := 0) hx hb dX12_scan_49 (by decide) ?_
            exact ih y_58 _ _ _ (Run_go hb0 hI (by omega) (raw_S hby9 ey_7 (Or.inr i36)) (by omega)) (by omega) St (lv_sub hl [0] rfl)
  exact lp0 401 v_behind _ _ _ (Run_0 (by omega)) (by omega) St (lv_sub hl [0] rfl)

