set_option maxHeartbeats 4000000 in
set_option maxRecDepth 100000 in
theorem m_overdue (l : Launch) (G : va_G) (k : Nat → Nat) (sz : Nat) (h : Nat) (a : Nat → Nat) (d : Nat → ClassId) (v_taped : Int32) (v_size : Int32) (v_from : Int32) (v_behind : Int32) (v_hand : Int32) (v_value : Int32) (v_fault : Int32) (v_faultAt : Int32) (v_clock : Int32) (v_coin : Int32) (v_loan : Int32) (v_matched : Int32) (v_taxed : Int32) (v_paidStages : Int32) (v_grown : Int32) (v_pledges : Int32) (v_sums : Int32) (v_stages : Int32) (v_isStopped : Int32) (v_begun : Int32) (f_dues : Nat → Int32) (f_isThere : Nat → Int32) (f_first : Nat → Int32) (f_every : Nat → Int32) (f_filled : Nat → Int32) (f_due : Nat → Int32) (x1 : Int32) (hPd : mPd v_pledges f_dues) (hp1 : 0 ≤ x1.toInt) (hp2 : x1.toInt < v_pledges.toInt) : Met l yX12_overdue (Cond.code yX12_overdue cX12_overdue 4 (some .int) :: tb) ({ frames := 1, cells := 0, slots := 0, locals := 22 } : Room) (va_Pc [.ref h, .int x1] (cP G k [(h, .inr (12, [.ref (a 0), .ref (a 1), .ref (a 2), .ref (a 3), .int v_taped, .int v_size, .int v_from, .int v_behind, .int v_hand, .int v_value, .int v_fault, .int v_faultAt, .ref (a 4), .int v_clock, .int v_coin, .int v_loan, .int v_matched, .int v_taxed, .int v_paidStages, .int v_grown, .int v_pledges, .int v_sums, .int v_stages, .int v_isStopped, .ref (a 5), .ref (a 6), .ref (a 7), .ref (a 8), .ref (a 9), .ref (a 10), .ref (a 11), .ref (a 12), .ref (a 13), .ref (a 14), .ref (a 15), .ref (a 16), .ref (a 17), .ref (a 18), .ref (a 19), .ref (a 20), .ref (a 21), .ref (a 22), .ref (a 23), .ref (a 24), .ref (a 25), .ref (a 26), .ref (a 27), .ref (a 28), .ref (a 29), .ref (a 30), .int v_begun, .ref (a 31), .ref (a 32)])), ((a 14), .inl ((d 14), 60, .inl f_dues)), ((a 20), .inl ((d 20), 5040, .inl f_isThere)), ((a 12), .inl ((d 12), 60, .inl f_first)), ((a 13), .inl ((d 13), 60, .inl f_every)), ((a 19), .inl ((d 19), 5040, .inl f_filled)), ((a 18), .inl ((d 18), 5040, .inl f_due))] [((d 14), .int), ((d 20), .boolean), ((d 12), .int), ((d 13), .int), ((d 19), .int), ((d 18), .int)] sz)) (va_Qi (fun (r : Int32) (_ : Unit) => True) (cB G (fun (_ : Unit) => [(h, .inr (12, [.ref (a 0), .ref (a 1), .ref (a 2), .ref (a 3), .int v_taped, .int v_size, .int v_from, .int v_behind, .int v_hand, .int v_value, .int v_fault, .int v_faultAt, .ref (a 4), .int v_clock, .int v_coin, .int v_loan, .int v_matched, .int v_taxed, .int v_paidStages, .int v_grown, .int v_pledges, .int v_sums, .int v_stages, .int v_isStopped, .ref (a 5), .ref (a 6), .ref (a 7), .ref (a 8), .ref (a 9), .ref (a 10), .ref (a 11), .ref (a 12), .ref (a 13), .ref (a 14), .ref (a 15), .ref (a 16), .ref (a 17), .ref (a 18), .ref (a 19), .ref (a 20), .ref (a 21), .ref (a 22), .ref (a 23), .ref (a 24), .ref (a 25), .ref (a 26), .ref (a 27), .ref (a 28), .ref (a 29), .ref (a 30), .int v_begun, .ref (a 31), .ref (a 32)])), ((a 14), .inl ((d 14), 60, .inl f_dues)), ((a 20), .inl ((d 20), 5040, .inl f_isThere)), ((a 12), .inl ((d 12), 60, .inl f_first)), ((a 13), .inl ((d 13), 60, .inl f_every)), ((a 19), .inl ((d 19), 5040, .inl f_filled)), ((a 18), .inl ((d 18), 5040, .inl f_due))]) (fun (_ : Unit) => []) (va_A [(h, .inr (12, [.ref (a 0), .ref (a 1), .ref (a 2), .ref (a 3), .int v_taped, .int v_size, .int v_from, .int v_behind, .int v_hand, .int v_value, .int v_fault, .int v_faultAt, .ref (a 4), .int v_clock, .int v_coin, .int v_loan, .int v_matched, .int v_taxed, .int v_paidStages, .int v_grown, .int v_pledges, .int v_sums, .int v_stages, .int v_isStopped, .ref (a 5), .ref (a 6), .ref (a 7), .ref (a 8), .ref (a 9), .ref (a 10), .ref (a 11), .ref (a 12), .ref (a 13), .ref (a 14), .ref (a 15), .ref (a 16), .ref (a 17), .ref (a 18), .ref (a 19), .ref (a 20), .ref (a 21), .ref (a 22), .ref (a 23), .ref (a 24), .ref (a 25), .ref (a 26), .ref (a 27), .ref (a 28), .ref (a 29), .ref (a 30), .int v_begun, .ref (a 31), .ref (a 32)])), ((a 14), .inl ((d 14), 60, .inl f_dues)), ((a 20), .inl ((d 20), 5040, .inl f_isThere)), ((a 12), .inl ((d 12), 60, .inl f_first)), ((a 13), .inl ((d 13), 60, .inl f_every)), ((a 19), .inl ((d 19), 5040, .inl f_filled)), ((a 18), .inl ((d 18), 5040, .inl f_due))] sz)) (va_A [(h, .inr (12, [.ref (a 0), .ref (a 1), .ref (a 2), .ref (a 3), .int v_taped, .int v_size, .int v_from, .int v_behind, .int v_hand, .int v_value, .int v_fault, .int v_faultAt, .ref (a 4), .int v_clock, .int v_coin, .int v_loan, .int v_matched, .int v_taxed, .int v_paidStages, .int v_grown, .int v_pledges, .int v_sums, .int v_stages, .int v_isStopped, .ref (a 5), .ref (a 6), .ref (a 7), .ref (a 8), .ref (a 9), .ref (a 10), .ref (a 11), .ref (a 12), .ref (a 13), .ref (a 14), .ref (a 15), .ref (a 16), .ref (a 17), .ref (a 18), .ref (a 19), .ref (a 20), .ref (a 21), .ref (a 22), .ref (a 23), .ref (a 24), .ref (a 25), .ref (a 26), .ref (a 27), .ref (a 28), .ref (a 29), .ref (a 30), .int v_begun, .ref (a 31), .ref (a 32)])), ((a 14), .inl ((d 14), 60, .inl f_dues)), ((a 20), .inl ((d 20), 5040, .inl f_isThere)), ((a 12), .inl ((d 12), 60, .inl f_first)), ((a 13), .inl ((d 13), 60, .inl f_every)), ((a 19), .inl ((d 19), 5040, .inl f_filled)), ((a 18), .inl ((d 18), 5040, .inl f_due))] sz)) 0 0 (va_A [(h, .inr (12, [.ref (a 0), .ref (a 1), .ref (a 2), .ref (a 3), .int v_taped, .int v_size, .int v_from, .int v_behind, .int v_hand, .int v_value, .int v_fault, .int v_faultAt, .ref (a 4), .int v_clock, .int v_coin, .int v_loan, .int v_matched, .int v_taxed, .int v_paidStages, .int v_grown, .int v_pledges, .int v_sums, .int v_stages, .int v_isStopped, .ref (a 5), .ref (a 6), .ref (a 7), .ref (a 8), .ref (a 9), .ref (a 10), .ref (a 11), .ref (a 12), .ref (a 13), .ref (a 14), .ref (a 15), .ref (a 16), .ref (a 17), .ref (a 18), .ref (a 19), .ref (a 20), .ref (a 21), .ref (a 22), .ref (a 23), .ref (a 24), .ref (a 25), .ref (a 26), .ref (a 27), .ref (a 28), .ref (a 29), .ref (a 30), .int v_begun, .ref (a 31), .ref (a 32)])), ((a 14), .inl ((d 14), 60, .inl f_dues)), ((a 20), .inl ((d 20), 5040, .inl f_isThere)), ((a 12), .inl ((d 12), 60, .inl f_first)), ((a 13), .inl ((d 13), 60, .inl f_every)), ((a 19), .inl ((d 19), 5040, .inl f_filled)), ((a 18), .inl ((d 18), 5040, .inl f_due))] sz) := by
  refine ofC_i (cc := cX12_overdue) (maxL := 4) (ret := (some .int)) (by decide) rfl (Nat.le_of_ble_eq_true rfl) ?_
  intro p e s m args below meth c A ls Q F hr hin hlk St hl hQ
  have hx := F.1
  have hb := F.2.1
  have hl : lv_has ls 4 [(0, .ref h), (1, .int x1)] := hl
  have St : cS G k [(h, .inr (12, [.ref (a 0), .ref (a 1), .ref (a 2), .ref (a 3), .int v_taped, .int v_size, .int v_from, .int v_behind, .int v_hand, .int v_value, .int v_fault, .int v_faultAt, .ref (a 4), .int v_clock, .int v_coin, .int v_loan, .int v_matched, .int v_taxed, .int v_paidStages, .int v_grown, .int v_pledges, .int v_sums, .int v_stages, .int v_isStopped, .ref (a 5), .ref (a 6), .ref (a 7), .ref (a 8), .ref (a 9), .ref (a 10), .ref (a 11), .ref (a 12), .ref (a 13), .ref (a 14), .ref (a 15), .ref (a 16), .ref (a 17), .ref (a 18), .ref (a 19), .ref (a 20), .ref (a 21), .ref (a 22), .ref (a 23), .ref (a 24), .ref (a 25), .ref (a 26), .ref (a 27), .ref (a 28), .ref (a 29), .ref (a 30), .int v_begun, .ref (a 31), .ref (a 32)])), ((a 14), .inl ((d 14), 60, .inl f_dues)), ((a 20), .inl ((d 20), 5040, .inl f_isThere)), ((a 12), .inl ((d 12), 60, .inl f_first)), ((a 13), .inl ((d 13), 60, .inl f_every)), ((a 19), .inl ((d 19), 5040, .inl f_filled)), ((a 18), .inl ((d 18), 5040, .inl f_due))] [((d 14), .int), ((d 20), .boolean), ((d 12), .int), ((d 13), .int), ((d 19), .int), ((d 18), .int)] A s s.heap [] := St
  have hpd := hPd.1
  have y0 : (0 : Int32).toInt = 0 := by decide
  refine lv_iconst (v := 0) hx hb dX12_overdue_0 (by decide) ?_
  refine lv_istore_n (lv' := [(2, .int 0), (0, .ref h), (1, .int x1)]) hx hb dX12_overdue_1 rfl hl (by decide) rfl (fun ls hl => ?_)
  refine lv_iconst (v := 0) hx hb dX12_overdue_2 (by decide) ?_
  refine lv_istore_n (lv' := [(3, .int 0), (2, .int 0), (0, .ref h), (1, .int x1)]) hx hb dX12_overdue_3 rfl hl (by decide) rfl (fun ls hl => ?_)
  have lp4 : ∀ (n : Nat) (kk : Int32) (nn : Int32) (H : Heap) (locs : List Loc) (ls : Array Slot), (0 ≤ kk.toInt ∧ kk.toInt ≤ 0 + 84) → ((6000 - kk.toInt).toNat) < n → cS G k [(h, .inr (12, [.ref (a 0), .ref (a 1), .ref (a 2), .ref (a 3), .int v_taped, .int v_size, .int v_from, .int v_behind, .int v_hand, .int v_value, .int v_fault, .int v_faultAt, .ref (a 4), .int v_clock, .int v_coin, .int v_loan, .int v_matched, .int v_taxed, .int v_paidStages, .int v_grown, .int v_pledges, .int v_sums, .int v_stages, .int v_isStopped, .ref (a 5), .ref (a 6), .ref (a 7), .ref (a 8), .ref (a 9), .ref (a 10), .ref (a 11), .ref (a 12), .ref (a 13), .ref (a 14), .ref (a 15), .ref (a 16), .ref (a 17), .ref (a 18), .ref (a 19), .ref (a 20), .ref (a 21), .ref (a 22), .ref (a 23), .ref (a 24), .ref (a 25), .ref (a 26), .ref (a 27), .ref (a 28), .ref (a 29), .ref (a 30), .int v_begun, .ref (a 31), .ref (a 32)])), ((a 14), .inl ((d 14), 60, .inl f_dues)), ((a 20), .inl ((d 20), 5040, .inl f_isThere)), ((a 12), .inl ((d 12), 60, .inl f_first)), ((a 13), .inl ((d 13), 60, .inl f_every)), ((a 19), .inl ((d 19), 5040, .inl f_filled)), ((a 18), .inl ((d 18), 5040, .inl f_due))] [((d 14), .int), ((d 20), .boolean), ((d 12), .int), ((d 13), .int), ((d 19), .int), ((d 18), .int)] A s H locs → lv_has ls 4 [(3, .int kk), (2, .int nn), (0, .ref h), (1, .int x1)] → W p l e ({ frames := 1, cells := 0, slots := 0, locals := 22 } : Room) s m args below meth c H locs 0 0 Q (F0 m 4 ls []) := by
    intro n
    induction n with
    | zero => intro kk nn H locs ls hI hn; exact absurd hn (Nat.not_lt_zero _)
    | succ n ih =>
      intro kk nn H locs ls hI hn St hl
      obtain ⟨hI0, hI1⟩ := hI
      refine lv_iload_n hx hb dX12_overdue_4 rfl (lv_at hl 0 rfl) ?_
      refine lv_aload_n hx hb dX12_overdue_5 rfl (lv_at hl 2 rfl) ?_
      refine cs_get F St 0 rfl rfl inX12 33 (by decide) kf_X12_147 rfl dX12_overdue_6 ?_
      refine lv_iload_n hx hb dX12_overdue_9 rfl (lv_at hl 3 rfl) ?_
      refine cs_ild F St 1 0 rfl rfl (vp_in_iff.mpr ⟨by omega, by omega⟩) dX12_overdue_10 ?_
      refine lv_topi (fun y_1 ey_1 => ?_)
      have hdy_1 := mPd_d hPd (by omega) (by omega) ey_1
      refine lv_icmp_ge (tgt := 80) hx hb dX12_overdue_11 (by decide) (fun c11 => ?_) (fun c11 => ?_)
      ·
        have i11 := ci_le (x := y_1) (y := kk) rfl rfl c11
        refine lv_iload_n hx hb dX12_overdue_80 rfl (lv_at hl 1 rfl) ?_
        exact cs_iret F hr hlk hQ St () (r := nn) (by trivial) [0, 1, 2, 3, 4, 5, 6] rfl (by decide) [] rfl (by decide) (by decide) dX12_overdue_81
      ·
        have i11 := ci_nle (x := y_1) (y := kk) rfl rfl c11
        refine lv_iload_n hx hb dX12_overdue_14 rfl (lv_at hl 1 rfl) ?_
        refine lv_aload_n hx hb dX12_overdue_15 rfl (lv_at hl 2 rfl) ?_
        refine cs_get F St 0 rfl rfl inX12 39 (by decide) kf_X12_165 rfl dX12_overdue_16 ?_
        refine lv_bipush (v := 84) hx hb dX12_overdue_19 (by decide) ?_
        refine lv_iload_n hx hb dX12_overdue_21 rfl (lv_at hl 3 rfl) ?_
        refine lv_imul hx hb dX12_overdue_22 ?_
        refine lv_topi (fun y_2 ey_2 => ?_)
        first | have jy_2 : y_2.toInt = 84 * x1.toInt := (by have q9 := ci_mul (x := 84) (y := x1) (show (84 : Int32).toInt = 84 by decide) rfl ey_2; omega) | have jy_2 := ci_mul (x := 84) (y := x1) (show (84 : Int32).toInt = 84 by decide) rfl ey_2
        refine lv_iload_n hx hb dX12_overdue_23 rfl (lv_at hl 0 rfl) ?_
        refine lv_iadd hx hb dX12_overdue_24 ?_
        refine lv_topi (fun y_3 ey_3 => ?_)
        first | have jy_3 : y_3.toInt = y_2.toInt + kk.toInt := (by have q9 := ci_add (x := y_2) (y := kk) rfl rfl ey_3; omega) | have jy_3 := ci_add (x := y_2) (y := kk) rfl rfl ey_3
        refine cs_zld F St 2 1 rfl rfl (vp_in_iff.mpr ⟨by omega, by omega⟩) dX12_overdue_25 ?_
        refine lv_topi (fun y_4 ey_4 => ?_)
        refine lv_if_eq (tgt := 71) hx hb dX12_overdue_26 (by decide) (fun c26 => ?_) (fun c26 => ?_)
        ·
          have i26 := ci_eq (x := y_4) (y := 0) rfl (show (0 : Int32).toInt = 0 by decide) c26
          refine lv_iconst (v := 0) hx hb dX12_overdue_71 (by decide) ?_
          refine lv_iadd hx hb dX12_overdue_72 ?_
          refine lv_topi (fun y_5 ey_5 => ?_)
          first | have jy_5 : y_5.toInt = nn.toInt + 0 := (by have q9 := ci_add (x := nn) (y := 0) rfl (show (0 : Int32).toInt = 0 by decide) ey_5; omega) | have jy_5 := ci_add (x := nn) (y := 0) rfl (show (0 : Int32).toInt = 0 by decide) ey_5
          refine lv_istore_n (lv' := [(2, .int y_5), (3, .int kk), (0, .ref h), (1, .int x1)]) hx hb dX12_overdue_73 rfl hl (by decide) rfl (fun ls hl => ?_)
          obtain ⟨y_6, ey_6⟩ : ∃ zz : Int32, zz = kk + 1 := ⟨_, rfl⟩
          first | have jy_6 : y_6.toInt = kk.toInt + 1 := (by have q9 := ci_add (x := kk) rfl (show (1 : Int32).toInt = 1 by decide) ey_6; omega) | have jy_6 := ci_add (x := kk) rfl (show (1 : Int32).toInt = 1 by decide) ey_6
          refine lv_iinc (v := y_6) (lv' := [(3, .int y_6), (2, .int y_5), (0, .ref h), (1, .int x1)]) hx hb dX12_overdue_74 hl (k := 1) rfl (by rw [ey_6]; rfl) (by decide) rfl (fun ls hl => ?_)
          refine lv_goto (tgt := 4) hx hb dX12_overdue_77 (by decide) ?_
          exact ih y_6 y_5 _ _ _ ⟨by omega, by omega⟩ (by omega) St (lv_sub hl [0, 1, 2, 3] rfl)
        ·
          have i26 := ci_ne (x := y_4) (y := 0) rfl (show (0 : Int32).toInt = 0 by decide) c26
          refine lv_aload_n hx hb dX12_overdue_29 rfl (lv_at hl 2 rfl) ?_
          refine lv_iload_n hx hb dX12_overdue_30 rfl (lv_at hl 3 rfl) ?_
          refine lv_iload_n hx hb dX12_overdue_31 rfl (lv_at hl 0 rfl) ?_
          refine cs_i St [0, 3, 4] [1, 2, 5, 6] (wc := [(h, .inr (12, [.ref (a 0), .ref (a 1), .ref (a 2), .ref (a 3), .int v_taped, .int v_size, .int v_from, .int v_behind, .int v_hand, .int v_value, .int v_fault, .int v_faultAt, .ref (a 4), .int v_clock, .int v_coin, .int v_loan, .int v_matched, .int v_taxed, .int v_paidStages, .int v_grown, .int v_pledges, .int v_sums, .int v_stages, .int v_isStopped, .ref (a 5), .ref (a 6), .ref (a 7), .ref (a 8), .ref (a 9), .ref (a 10), .ref (a 11), .ref (a 12), .ref (a 13), .ref (a 14), .ref (a 15), .ref (a 16), .ref (a 17), .ref (a 18), .ref (a 19), .ref (a 20), .ref (a 21), .ref (a 22), .ref (a 23), .ref (a 24), .ref (a 25), .ref (a 26), .ref (a 27), .ref (a 28), .ref (a 29), .ref (a 30), .int v_begun, .ref (a 31), .ref (a 32)])), ((a 12), .inl ((d 12), 60, .inl f_first)), ((a 13), .inl ((d 13), 60, .inl f_every))]) (wr := [((a 14), .inl ((d 14), 60, .inl f_dues)), ((a 20), .inl ((d 20), 5040, .inl f_isThere)), ((a 19), .inl ((d 19), 5040, .inl f_filled)), ((a 18), .inl ((d 18), 5040, .inl f_due))]) rfl rfl (by decide) (by decide) (va_runV (As := [.int x1, .int kk]) (rest := [.int nn]) F (m_monthOf l G k _ h a d v_taped v_size v_from v_behind v_hand v_value v_fault v_faultAt v_clock v_coin v_loan v_matched v_taxed v_paidStages v_grown v_pledges v_sums v_stages v_isStopped v_begun f_first f_every x1 kk (by omega) (by omega)) (cwVt F mf_X12_monthOf km_X12_240 rfl rfl ⟨Nat.le_of_ble_eq_true rfl, Nat.le_of_ble_eq_true rfl⟩) (cs_preV St [0, 3, 4] rfl (by decide) [2, 3] rfl (ci := 12) (q0 := 0) rfl rfl) rfl rfl hl.1 rfl (lv_room (Nat.le_of_ble_eq_true rfl)) dX12_overdue_32 ⟨Nat.le_of_ble_eq_true rfl, Nat.le_of_ble_eq_true rfl⟩) (fun r_7 u_8 H locs hw St => ?_)
          try dsimp only at hw
          have St : cS G k [((a 14), .inl ((d 14), 60, .inl f_dues)), ((a 20), .inl ((d 20), 5040, .inl f_isThere)), ((a 19), .inl ((d 19), 5040, .inl f_filled)), ((a 18), .inl ((d 18), 5040, .inl f_due)), (h, .inr (12, [.ref (a 0), .ref (a 1), .ref (a 2), .ref (a 3), .int v_taped, .int v_size, .int v_from, .int v_behind, .int v_hand, .int v_value, .int v_fault, .int v_faultAt, .ref (a 4), .int v_clock, .int v_coin, .int v_loan, .int v_matched, .int v_taxed, .int v_paidStages, .int v_grown, .int v_pledges, .int v_sums, .int v_stages, .int v_isStopped, .ref (a 5), .ref (a 6), .ref (a 7), .ref (a 8), .ref (a 9), .ref (a 10), .ref (a 11), .ref (a 12), .ref (a 13), .ref (a 14), .ref (a 15), .ref (a 16), .ref (a 17), .ref (a 18), .ref (a 19), .ref (a 20), .ref (a 21), .ref (a 22), .ref (a 23), .ref (a 24), .ref (a 25), .ref (a 26), .ref (a 27), .ref (a 28), .ref (a 29), .ref (a 30), .int v_begun, .ref (a 31), .ref (a 32)])), ((a 12), .inl ((d 12), 60, .inl f_first)), ((a 13), .inl ((d 13), 60, .inl f_every))] [((d 14), .int), ((d 20), .boolean), ((d 12), .int), ((d 13), .int), ((d 19), .int), ((d 18), .int)] A s H locs := St
          refine lv_aload_n hx hb dX12_overdue_35 rfl (lv_at hl 2 rfl) ?_
          refine cs_get F St 4 rfl rfl inX12 13 (by decide) kf_X12_230 rfl dX12_overdue_36 ?_
          refine lv_icmp_gt (tgt := 71) hx hb dX12_overdue_39 (by decide) (fun c39 => ?_) (fun c39 => ?_)
          ·
            have i39 := ci_lt (x := v_clock) (y := r_7) rfl rfl c39
            refine lv_iconst (v := 0) hx hb dX12_overdue_71 (by decide) ?_
            refine lv_iadd hx hb dX12_overdue_72 ?_
            refine lv_topi (fun y_9 ey_9 => ?_)
            first | have jy_9 : y_9.toInt = nn.toInt + 0 := (by have q9 := ci_add (x := nn) (y := 0) rfl (show (0 : Int32).toInt = 0 by decide) ey_9; omega) | have jy_9 := ci_add (x := nn) (y := 0) rfl (show (0 : Int32).toInt = 0 by decide) ey_9
            refine lv_istore_n (lv' := [(2, .int y_9), (3, .int kk), (0, .ref h), (1, .int x1)]) hx hb dX12_overdue_73 rfl hl (by decide) rfl (fun ls hl => ?_)
            obtain ⟨y_10, ey_10⟩ : ∃ zz : Int32, zz = kk + 1 := ⟨_, rfl⟩
            first | have jy_10 : y_10.toInt = kk.toInt + 1 := (by have q9 := ci_add (x := kk) rfl (show (1 : Int32).toInt = 1 by decide) ey_10; omega) | have jy_10 := ci_add (x := kk) rfl (show (1 : Int32).toInt = 1 by decide) ey_10
            refine lv_iinc (v := y_10) (lv' := [(3, .int y_10), (2, .int y_9), (0, .ref h), (1, .int x1)]) hx hb dX12_overdue_74 hl (k := 1) rfl (by rw [ey_10]; rfl) (by decide) rfl (fun ls hl => ?_)
            refine lv_goto (tgt := 4) hx hb dX12_overdue_77 (by decide) ?_
            exact ih y_10 y_9 _ _ _ ⟨by omega, by omega⟩ (by omega) (cs_pick St [4, 0, 1, 5, 6, 2, 3] rfl (by decide) [0, 1, 2, 3, 4, 5] rfl) (lv_sub hl [0, 1, 2, 3] rfl)
          ·
            have i39 := ci_nlt (x := v_clock) (y := r_7) rfl rfl c39
            refine lv_aload_n hx hb dX12_overdue_42 rfl (lv_at hl 2 rfl) ?_
            refine cs_get F St 4 rfl rfl inX12 38 (by decide) kf_X12_162 rfl dX12_overdue_43 ?_
            refine lv_bipush (v := 84) hx hb dX12_overdue_46 (by decide) ?_
            refine lv_iload_n hx hb dX12_overdue_48 rfl (lv_at hl 3 rfl) ?_
            refine lv_imul hx hb dX12_overdue_49 ?_
            refine lv_topi (fun y_11 ey_11 => ?_)
            first | have jy_11 : y_11.toInt = 84 * x1.toInt := (by have q9 := ci_mul (x := 84) (y := x1) (show (84 : Int32).toInt = 84 by decide) rfl ey_11; omega) | have jy_11 := ci_mul (x := 84) (y := x1) (show (84 : Int32).toInt = 84 by decide) rfl ey_11
            refine lv_iload_n hx hb dX12_overdue_50 rfl (lv_at hl 0 rfl) ?_
            refine lv_iadd hx hb dX12_overdue_51 ?_
            refine lv_topi (fun y_12 ey_12 => ?_)
            first | have jy_12 : y_12.toInt = y_11.toInt + kk.toInt := (by have q9 := ci_add (x := y_11) (y := kk) rfl rfl ey_12; omega) | have jy_12 := ci_add (x := y_11) (y := kk) rfl rfl ey_12
            refine cs_ild F St 2 4 rfl rfl (vp_in_iff.mpr ⟨by omega, by omega⟩) dX12_overdue_52 ?_
            refine lv_topi (fun y_13 ey_13 => ?_)
            refine lv_aload_n hx hb dX12_overdue_53 rfl (lv_at hl 2 rfl) ?_
            refine cs_get F St 4 rfl rfl inX12 37 (by decide) kf_X12_159 rfl dX12_overdue_54 ?_
            refine lv_bipush (v := 84) hx hb dX12_overdue_57 (by decide) ?_
            refine lv_iload_n hx hb dX12_overdue_59 rfl (lv_at hl 3 rfl) ?_
            refine lv_imul hx hb dX12_overdue_60 ?_
            refine lv_topi (fun y_14 ey_14 => ?_)
            first | have jy_14 : y_14.toInt = 84 * x1.toInt := (by have q9 := ci_mul (x := 84) (y := x1) (show (84 : Int32).toInt = 84 by decide) rfl ey_14; omega) | have jy_14 := ci_mul (x := 84) (y := x1) (show (84 : Int32).toInt = 84 by decide) rfl ey_14
            refine lv_iload_n hx hb dX12_overdue_61 rfl (lv_at hl 0 rfl) ?_
            refine lv_iadd hx hb dX12_overdue_62 ?_
            refine lv_topi (fun y_15 ey_15 => ?_)
            first | have jy_15 : y_15.toInt = y_14.toInt + kk.toInt := (by have q9 := ci_add (x := y_14) (y := kk) rfl rfl ey_15; omega) | have jy_15 := ci_add (x := y_14) (y := kk) rfl rfl ey_15
            refine cs_ild F St 3 5 rfl rfl (vp_in_iff.mpr ⟨by omega, by omega⟩) dX12_overdue_63 ?_
            refine lv_topi (fun y_16 ey_16 => ?_)
            refine lv_icmp_ge (tgt := 71) hx hb dX12_overdue_64 (by decide) (fun c64 => ?_) (fun c64 => ?_)
            ·
              have i64 := ci_le (x := y_16) (y := y_13) rfl rfl c64
              refine lv_iconst (v := 0) hx hb dX12_overdue_71 (by decide) ?_
              refine lv_iadd hx hb dX12_overdue_72 ?_
              refine lv_topi (fun y_17 ey_17 => ?_)
              first | have jy_17 : y_17.toInt = nn.toInt + 0 := (by have q9 := ci_add (x := nn) (y := 0) rfl (show (0 : Int32).toInt = 0 by decide) ey_17; omega) | have jy_17 := ci_add (x := nn) (y := 0) rfl (show (0 : Int32).toInt = 0 by decide) ey_17
              refine lv_istore_n (lv' := [(2, .int y_17), (3, .int kk), (0, .ref h), (1, .int x1)]) hx hb dX12_overdue_73 rfl hl (by decide) rfl (fun ls hl => ?_)
              obtain ⟨y_18, ey_18⟩ : ∃ zz : Int32, zz = kk + 1 := ⟨_, rfl⟩
              first | have jy_18 : y_18.toInt = kk.toInt + 1 := (by have q9 := ci_add (x := kk) rfl (show (1 : Int32).toInt = 1 by decide) ey_18; omega) | have jy_18 := ci_add (x := kk) rfl (show (1 : Int32).toInt = 1 by decide) ey_18
              refine lv_iinc (v := y_18) (lv' := [(3, .int y_18), (2, .int y_17), (0, .ref h), (1, .int x1)]) hx hb dX12_overdue_74 hl (k := 1) rfl (by rw [ey_18]; rfl) (by decide) rfl (fun ls hl => ?_)
              refine lv_goto (tgt := 4) hx hb dX12_overdue_77 (by decide) ?_
              exact ih y_18 y_17 _ _ _ ⟨by omega, by omega⟩ (by omega) (cs_pick St [4, 0, 1, 5, 6, 2, 3] rfl (by decide) [0, 1, 2, 3, 4, 5] rfl) (lv_sub hl [0, 1, 2, 3] rfl)
            ·
              have i64 := ci_nle (x := y_16) (y := y_13) rfl rfl c64
              refine lv_iconst (v := 1) hx hb dX12_overdue_67 (by decide) ?_
              refine lv_goto (tgt := 72) hx hb dX12_overdue_68 (by decide) ?_
              refine lv_iadd hx hb dX12_overdue_72 ?_
              refine lv_topi (fun y_19 ey_19 => ?_)
              first | have jy_19 : y_19.toInt = nn.toInt + 1 := (by have q9 := ci_add (x := nn) (y := 1) rfl (show (1 : Int32).toInt = 1 by decide) ey_19; omega) | have jy_19 := ci_add (x := nn) (y := 1) rfl (show (1 : Int32).toInt = 1 by decide) ey_19
              refine lv_istore_n (lv' := [(2, .int y_19), (3, .int kk), (0, .ref h), (1, .int x1)]) hx hb dX12_overdue_73 rfl hl (by decide) rfl (fun ls hl => ?_)
              obtain ⟨y_20, ey_20⟩ : ∃ zz : Int32, zz = kk + 1 := ⟨_, rfl⟩
              first | have jy_20 : y_20.toInt = kk.toInt + 1 := (by have q9 := ci_add (x := kk) rfl (show (1 : Int32).toInt = 1 by decide) ey_20; omega) | have jy_20 := ci_add (x := kk) rfl (show (1 : Int32).toInt = 1 by decide) ey_20
              refine lv_iinc (v := y_20) (lv' := [(3, .int y_20), (2, .int y_19), (0, .ref h), (1, .int x1)]) hx hb dX12_overdue_74 hl (k := 1) rfl (by rw [ey_20]; rfl) (by decide) rfl (fun ls hl => ?_)
              refine lv_goto (tgt := 4) hx hb dX12_overdue_77 (by decide) ?_
              exact ih y_20 y_19 _ _ _ ⟨by omega, by omega⟩ (by omega) (cs_pick St [4, 0, 1, 5, 6, 2, 3] rfl (by decide) [0, 1, 2, 3, 4, 5] rfl) (lv_sub hl [0, 1, 2, 3] rfl)
  exact lp4 6001 0 0 _ _ _ ⟨by omega, by omega⟩ (by omega) St (lv_sub hl [0, 1, 2, 3] rfl)
set_option maxHeartbeats 4000000 in
set_option maxRecDepth 100000 in
theorem m_about (l : Launch) (G : va_G) (k : Nat → Nat) (sz : Nat) (h : Nat) (a : Nat → Nat) (d : Nat → ClassId) (v_taped : Int32) (v_size : Int32) (v_from : Int32) (v_behind : Int32) (v_hand : Int32) (v_value : Int32) (v_fault : Int32) (v_faultAt : Int32) (v_clock : Int32) (v_coin : Int32) (v_loan : Int32) (v_matched : Int32) (v_taxed : Int32) (v_paidStages : Int32) (v_grown : Int32) (v_pledges : Int32) (v_sums : Int32) (v_stages : Int32) (v_isStopped : Int32) (v_begun : Int32) (f_giver : Nat → Int32) (f_pence : Nat → Int32) (f_isLapsed : Nat → Int32) (f_lapsedAt : Nat → Int32) (f_dues : Nat → Int32) (f_isThere : Nat → Int32) (f_first : Nat → Int32) (f_every : Nat → Int32) (f_filled : Nat → Int32) (f_due : Nat → Int32) (x1 : Int32) (x2 : Int32) (hPd : mPd v_pledges f_dues) : Met l yX12_about (Cond.code yX12_about cX12_about 5 (some .int) :: tb) ({ frames := 2, cells := 0, slots := 0, locals := 46 } : Room) (va_Pc [.ref h, .int x1, .int x2] (cP G k [(h, .inr (12, [.ref (a 0), .ref (a 1), .ref (a 2), .ref (a 3), .int v_taped, .int v_size, .int v_from, .int v_behind, .int v_hand, .int v_value, .int v_fault, .int v_faultAt, .ref (a 4), .int v_clock, .int v_coin, .int v_loan, .int v_matched, .int v_taxed, .int v_paidStages, .int v_grown, .int v_pledges, .int v_sums, .int v_stages, .int v_isStopped, .ref (a 5), .ref (a 6), .ref (a 7), .ref (a 8), .ref (a 9), .ref (a 10), .ref (a 11), .ref (a 12), .ref (a 13), .ref (a 14), .ref (a 15), .ref (a 16), .ref (a 17), .ref (a 18), .ref (a 19), .ref (a 20), .ref (a 21), .ref (a 22), .ref (a 23), .ref (a 24), .ref (a 25), .ref (a 26), .ref (a 27), .ref (a 28), .ref (a 29), .ref (a 30), .int v_begun, .ref (a 31), .ref (a 32)])), ((a 10), .inl ((d 10), 60, .inl f_giver)), ((a 11), .inl ((d 11), 60, .inl f_pence)), ((a 16), .inl ((d 16), 60, .inl f_isLapsed)), ((a 15), .inl ((d 15), 60, .inl f_lapsedAt)), ((a 14), .inl ((d 14), 60, .inl f_dues)), ((a 20), .inl ((d 20), 5040, .inl f_isThere)), ((a 12), .inl ((d 12), 60, .inl f_first)), ((a 13), .inl ((d 13), 60, .inl f_every)), ((a 19), .inl ((d 19), 5040, .inl f_filled)), ((a 18), .inl ((d 18), 5040, .inl f_due))] [((d 10), .int), ((d 11), .int), ((d 16), .boolean), ((d 15), .int), ((d 14), .int), ((d 20), .boolean), ((d 12), .int), ((d 13), .int), ((d 19), .int), ((d 18), .int)] sz)) (va_Qi (fun (r : Int32) (_ : Unit) => True) (cB G (fun (_ : Unit) => [(h, .inr (12, [.ref (a 0), .ref (a 1), .ref (a 2), .ref (a 3), .int v_taped, .int v_size, .int v_from, .int v_behind, .int v_hand, .int v_value, .int v_fault, .int v_faultAt, .ref (a 4), .int v_clock, .int v_coin, .int v_loan, .int v_matched, .int v_taxed, .int v_paidStages, .int v_grown, .int v_pledges, .int v_sums, .int v_stages, .int v_isStopped, .ref (a 5), .ref (a 6), .ref (a 7), .ref (a 8), .ref (a 9), .ref (a 10), .ref (a 11), .ref (a 12), .ref (a 13), .ref (a 14), .ref (a 15), .ref (a 16), .ref (a 17), .ref (a 18), .ref (a 19), .ref (a 20), .ref (a 21), .ref (a 22), .ref (a 23), .ref (a 24), .ref (a 25), .ref (a 26), .ref (a 27), .ref (a 28), .ref (a 29), .ref (a 30), .int v_begun, .ref (a 31), .ref (a 32)])), ((a 10), .inl ((d 10), 60, .inl f_giver)), ((a 11), .inl ((d 11), 60, .inl f_pence)), ((a 16), .inl ((d 16), 60, .inl f_isLapsed)), ((a 15), .inl ((d 15), 60, .inl f_lapsedAt)), ((a 14), .inl ((d 14), 60, .inl f_dues)), ((a 20), .inl ((d 20), 5040, .inl f_isThere)), ((a 12), .inl ((d 12), 60, .inl f_first)), ((a 13), .inl ((d 13), 60, .inl f_every)), ((a 19), .inl ((d 19), 5040, .inl f_filled)), ((a 18), .inl ((d 18), 5040, .inl f_due))]) (fun (_ : Unit) => []) (va_A [(h, .inr (12, [.ref (a 0), .ref (a 1), .ref (a 2), .ref (a 3), .int v_taped, .int v_size, .int v_from, .int v_behind, .int v_hand, .int v_value, .int v_fault, .int v_faultAt, .ref (a 4), .int v_clock, .int v_coin, .int v_loan, .int v_matched, .int v_taxed, .int v_paidStages, .int v_grown, .int v_pledges, .int v_sums, .int v_stages, .int v_isStopped, .ref (a 5), .ref (a 6), .ref (a 7), .ref (a 8), .ref (a 9), .ref (a 10), .ref (a 11), .ref (a 12), .ref (a 13), .ref (a 14), .ref (a 15), .ref (a 16), .ref (a 17), .ref (a 18), .ref (a 19), .ref (a 20), .ref (a 21), .ref (a 22), .ref (a 23), .ref (a 24), .ref (a 25), .ref (a 26), .ref (a 27), .ref (a 28), .ref (a 29), .ref (a 30), .int v_begun, .ref (a 31), .ref (a 32)])), ((a 10), .inl ((d 10), 60, .inl f_giver)), ((a 11), .inl ((d 11), 60, .inl f_pence)), ((a 16), .inl ((d 16), 60, .inl f_isLapsed)), ((a 15), .inl ((d 15), 60, .inl f_lapsedAt)), ((a 14), .inl ((d 14), 60, .inl f_dues)), ((a 20), .inl ((d 20), 5040, .inl f_isThere)), ((a 12), .inl ((d 12), 60, .inl f_first)), ((a 13), .inl ((d 13), 60, .inl f_every)), ((a 19), .inl ((d 19), 5040, .inl f_filled)), ((a 18), .inl ((d 18), 5040, .inl f_due))] sz)) (va_A [(h, .inr (12, [.ref (a 0), .ref (a 1), .ref (a 2), .ref (a 3), .int v_taped, .int v_size, .int v_from, .int v_behind, .int v_hand, .int v_value, .int v_fault, .int v_faultAt, .ref (a 4), .int v_clock, .int v_coin, .int v_loan, .int v_matched, .int v_taxed, .int v_paidStages, .int v_grown, .int v_pledges, .int v_sums, .int v_stages, .int v_isStopped, .ref (a 5), .ref (a 6), .ref (a 7), .ref (a 8), .ref (a 9), .ref (a 10), .ref (a 11), .ref (a 12), .ref (a 13), .ref (a 14), .ref (a 15), .ref (a 16), .ref (a 17), .ref (a 18), .ref (a 19), .ref (a 20), .ref (a 21), .ref (a 22), .ref (a 23), .ref (a 24), .ref (a 25), .ref (a 26), .ref (a 27), .ref (a 28), .ref (a 29), .ref (a 30), .int v_begun, .ref (a 31), .ref (a 32)])), ((a 10), .inl ((d 10), 60, .inl f_giver)), ((a 11), .inl ((d 11), 60, .inl f_pence)), ((a 16), .inl ((d 16), 60, .inl f_isLapsed)), ((a 15), .inl ((d 15), 60, .inl f_lapsedAt)), ((a 14), .inl ((d 14), 60, .inl f_dues)), ((a 20), .inl ((d 20), 5040, .inl f_isThere)), ((a 12), .inl ((d 12), 60, .inl f_first)), ((a 13), .inl ((d 13), 60, .inl f_every)), ((a 19), .inl ((d 19), 5040, .inl f_filled)), ((a 18), .inl ((d 18), 5040, .inl f_due))] sz)) 0 0 (va_A [(h, .inr (12, [.ref (a 0), .ref (a 1), .ref (a 2), .ref (a 3), .int v_taped, .int v_size, .int v_from, .int v_behind, .int v_hand, .int v_value, .int v_fault, .int v_faultAt, .ref (a 4), .int v_clock, .int v_coin, .int v_loan, .int v_matched, .int v_taxed, .int v_paidStages, .int v_grown, .int v_pledges, .int v_sums, .int v_stages, .int v_isStopped, .ref (a 5), .ref (a 6), .ref (a 7), .ref (a 8), .ref (a 9), .ref (a 10), .ref (a 11), .ref (a 12), .ref (a 13), .ref (a 14), .ref (a 15), .ref (a 16), .ref (a 17), .ref (a 18), .ref (a 19), .ref (a 20), .ref (a 21), .ref (a 22), .ref (a 23), .ref (a 24), .ref (a 25), .ref (a 26), .ref (a 27), .ref (a 28), .ref (a 29), .ref (a 30), .int v_begun, .ref (a 31), .ref (a 32)])), ((a 10), .inl ((d 10), 60, .inl f_giver)), ((a 11), .inl ((d 11), 60, .inl f_pence)), ((a 16), .inl ((d 16), 60, .inl f_isLapsed)), ((a 15), .inl ((d 15), 60, .inl f_lapsedAt)), ((a 14), .inl ((d 14), 60, .inl f_dues)), ((a 20), .inl ((d 20), 5040, .inl f_isThere)), ((a 12), .inl ((d 12), 60, .inl f_first)), ((a 13), .inl ((d 13), 60, .inl f_every)), ((a 19), .inl ((d 19), 5040, .inl f_filled)), ((a 18), .inl ((d 18), 5040, .inl f_due))] sz) := by
  refine ofC_i (cc := cX12_about) (maxL := 5) (ret := (some .int)) (by decide) rfl (Nat.le_of_ble_eq_true rfl) ?_
  intro p e s m args below meth c A ls Q F hr hin hlk St hl hQ
  have hx := F.1
  have hb := F.2.1
  have hl : lv_has ls 5 [(0, .ref h), (1, .int x1), (2, .int x2)] := hl
  have St : cS G k [(h, .inr (12, [.ref (a 0), .ref (a 1), .ref (a 2), .ref (a 3), .int v_taped, .int v_size, .int v_from, .int v_behind, .int v_hand, .int v_value, .int v_fault, .int v_faultAt, .ref (a 4), .int v_clock, .int v_coin, .int v_loan, .int v_matched, .int v_taxed, .int v_paidStages, .int v_grown, .int v_pledges, .int v_sums, .int v_stages, .int v_isStopped, .ref (a 5), .ref (a 6), .ref (a 7), .ref (a 8), .ref (a 9), .ref (a 10), .ref (a 11), .ref (a 12), .ref (a 13), .ref (a 14), .ref (a 15), .ref (a 16), .ref (a 17), .ref (a 18), .ref (a 19), .ref (a 20), .ref (a 21), .ref (a 22), .ref (a 23), .ref (a 24), .ref (a 25), .ref (a 26), .ref (a 27), .ref (a 28), .ref (a 29), .ref (a 30), .int v_begun, .ref (a 31), .ref (a 32)])), ((a 10), .inl ((d 10), 60, .inl f_giver)), ((a 11), .inl ((d 11), 60, .inl f_pence)), ((a 16), .inl ((d 16), 60, .inl f_isLapsed)), ((a 15), .inl ((d 15), 60, .inl f_lapsedAt)), ((a 14), .inl ((d 14), 60, .inl f_dues)), ((a 20), .inl ((d 20), 5040, .inl f_isThere)), ((a 12), .inl ((d 12), 60, .inl f_first)), ((a 13), .inl ((d 13), 60, .inl f_every)), ((a 19), .inl ((d 19), 5040, .inl f_filled)), ((a 18), .inl ((d 18), 5040, .inl f_due))] [((d 10), .int), ((d 11), .int), ((d 16), .boolean), ((d 15), .int), ((d 14), .int), ((d 20), .boolean), ((d 12), .int), ((d 13), .int), ((d 19), .int), ((d 18), .int)] A s s.heap [] := St
  have hpd := hPd.1
  have y0 : (0 : Int32).toInt = 0 := by decide
  refine lv_aload_n hx hb dX12_about_0 rfl (lv_at hl 0 rfl) ?_
  refine lv_iload_n hx hb dX12_about_1 rfl (lv_at hl 1 rfl) ?_
  refine cs_i St [0] [1, 2, 3, 4, 5, 6, 7, 8, 9, 10] (wc := [(h, .inr (12, [.ref (a 0), .ref (a 1), .ref (a 2), .ref (a 3), .int v_taped, .int v_size, .int v_from, .int v_behind, .int v_hand, .int v_value, .int v_fault, .int v_faultAt, .ref (a 4), .int v_clock, .int v_coin, .int v_loan, .int v_matched, .int v_taxed, .int v_paidStages, .int v_grown, .int v_pledges, .int v_sums, .int v_stages, .int v_isStopped, .ref (a 5), .ref (a 6), .ref (a 7), .ref (a 8), .ref (a 9), .ref (a 10), .ref (a 11), .ref (a 12), .ref (a 13), .ref (a 14), .ref (a 15), .ref (a 16), .ref (a 17), .ref (a 18), .ref (a 19), .ref (a 20), .ref (a 21), .ref (a 22), .ref (a 23), .ref (a 24), .ref (a 25), .ref (a 26), .ref (a 27), .ref (a 28), .ref (a 29), .ref (a 30), .int v_begun, .ref (a 31), .ref (a 32)]))]) (wr := [((a 10), .inl ((d 10), 60, .inl f_giver)), ((a 11), .inl ((d 11), 60, .inl f_pence)), ((a 16), .inl ((d 16), 60, .inl f_isLapsed)), ((a 15), .inl ((d 15), 60, .inl f_lapsedAt)), ((a 14), .inl ((d 14), 60, .inl f_dues)), ((a 20), .inl ((d 20), 5040, .inl f_isThere)), ((a 12), .inl ((d 12), 60, .inl f_first)), ((a 13), .inl ((d 13), 60, .inl f_every)), ((a 19), .inl ((d 19), 5040, .inl f_filled)), ((a 18), .inl ((d 18), 5040, .inl f_due))]) rfl rfl (by decide) (by decide) (va_runV (As := [.int x1]) (rest := []) F (m_isPledge l G k _ h a (fun _ => default) v_taped v_size v_from v_behind v_hand v_value v_fault v_faultAt v_clock v_coin v_loan v_matched v_taxed v_paidStages v_grown v_pledges v_sums v_stages v_isStopped v_begun x1 (by omega)) (cwVt F mf_X12_isPledge km_X12_243 rfl rfl ⟨Nat.le_of_ble_eq_true rfl, Nat.le_of_ble_eq_true rfl⟩) (cs_preV St [0] rfl (by decide) [] rfl (ci := 12) (q0 := 0) rfl rfl) rfl rfl hl.1 rfl (lv_room (Nat.le_of_ble_eq_true rfl)) dX12_about_2 ⟨Nat.le_of_ble_eq_true rfl, Nat.le_of_ble_eq_true rfl⟩) (fun r_1 u_2 H locs hw St => ?_)
  try dsimp only at hw
  rcases hw with ⟨z_3, hf_4⟩ | ⟨z_5, hf_6⟩
  ·
    subst r_1
    have St : cS G k [((a 10), .inl ((d 10), 60, .inl f_giver)), ((a 11), .inl ((d 11), 60, .inl f_pence)), ((a 16), .inl ((d 16), 60, .inl f_isLapsed)), ((a 15), .inl ((d 15), 60, .inl f_lapsedAt)), ((a 14), .inl ((d 14), 60, .inl f_dues)), ((a 20), .inl ((d 20), 5040, .inl f_isThere)), ((a 12), .inl ((d 12), 60, .inl f_first)), ((a 13), .inl ((d 13), 60, .inl f_every)), ((a 19), .inl ((d 19), 5040, .inl f_filled)), ((a 18), .inl ((d 18), 5040, .inl f_due)), (h, .inr (12, [.ref (a 0), .ref (a 1), .ref (a 2), .ref (a 3), .int v_taped, .int v_size, .int v_from, .int v_behind, .int v_hand, .int v_value, .int v_fault, .int v_faultAt, .ref (a 4), .int v_clock, .int v_coin, .int v_loan, .int v_matched, .int v_taxed, .int v_paidStages, .int v_grown, .int v_pledges, .int v_sums, .int v_stages, .int v_isStopped, .ref (a 5), .ref (a 6), .ref (a 7), .ref (a 8), .ref (a 9), .ref (a 10), .ref (a 11), .ref (a 12), .ref (a 13), .ref (a 14), .ref (a 15), .ref (a 16), .ref (a 17), .ref (a 18), .ref (a 19), .ref (a 20), .ref (a 21), .ref (a 22), .ref (a 23), .ref (a 24), .ref (a 25), .ref (a 26), .ref (a 27), .ref (a 28), .ref (a 29), .ref (a 30), .int v_begun, .ref (a 31), .ref (a 32)]))] [((d 10), .int), ((d 11), .int), ((d 16), .boolean), ((d 15), .int), ((d 14), .int), ((d 20), .boolean), ((d 12), .int), ((d 13), .int), ((d 19), .int), ((d 18), .int)] A s H locs := St
    refine lv_if_ne (tgt := 10) hx hb dX12_about_5 (by decide) (fun c5 => ?_) (fun c5 => ?_)
    rotate_left
    · exact absurd c5 (by decide)
    refine lv_iconst (v := 0) hx hb dX12_about_10 (by decide) ?_
    refine lv_istore_n (lv' := [(3, .int 0), (0, .ref h), (1, .int x1), (2, .int x2)]) hx hb dX12_about_11 rfl hl (by decide) rfl (fun ls hl => ?_)
    refine lv_iload_n hx hb dX12_about_12 rfl (lv_at hl 3 rfl) ?_
    by_cases w13_0 : x2 = 0
    ·
      subst w13_0
      refine lv_tableIn (tgt := 60) (off := 47) hx hb dX12_about_13 (by decide) (by decide) (by decide) (by decide) ?_
      refine lv_aload_n hx hb dX12_about_60 rfl (lv_at hl 1 rfl) ?_
      refine cs_get F St 10 rfl rfl inX12 29 (by decide) kf_X12_135 rfl dX12_about_61 ?_
      refine lv_iload_n hx hb dX12_about_64 rfl (lv_at hl 2 rfl) ?_
      refine cs_ild F St 0 0 rfl rfl (vp_in_iff.mpr ⟨by omega, by omega⟩) dX12_about_65 ?_
      refine lv_topi (fun y_7 ey_7 => ?_)
      exact cs_iret F hr hlk hQ St () (r := y_7) (by trivial) [10, 0, 1, 2, 3, 4, 5, 6, 7, 8, 9] rfl (by decide) [] rfl (by decide) (by decide) dX12_about_66
    by_cases w13_1 : x2 = 1
    ·
      subst w13_1
      refine lv_tableIn (tgt := 67) (off := 54) hx hb dX12_about_13 (by decide) (by decide) (by decide) (by decide) ?_
      refine lv_aload_n hx hb dX12_about_67 rfl (lv_at hl 1 rfl) ?_
      refine cs_get F St 10 rfl rfl inX12 30 (by decide) kf_X12_138 rfl dX12_about_68 ?_
      refine lv_iload_n hx hb dX12_about_71 rfl (lv_at hl 2 rfl) ?_
      refine cs_ild F St 1 1 rfl rfl (vp_in_iff.mpr ⟨by omega, by omega⟩) dX12_about_72 ?_
      refine lv_topi (fun y_8 ey_8 => ?_)
      exact cs_iret F hr hlk hQ St () (r := y_8) (by trivial) [10, 0, 1, 2, 3, 4, 5, 6, 7, 8, 9] rfl (by decide) [] rfl (by decide) (by decide) dX12_about_73
    by_cases w13_2 : x2 = 2
    ·
      subst w13_2
      refine lv_tableIn (tgt := 74) (off := 61) hx hb dX12_about_13 (by decide) (by decide) (by decide) (by decide) ?_
      refine lv_aload_n hx hb dX12_about_74 rfl (lv_at hl 1 rfl) ?_
      refine cs_get F St 10 rfl rfl inX12 35 (by decide) kf_X12_153 rfl dX12_about_75 ?_
      refine lv_iload_n hx hb dX12_about_78 rfl (lv_at hl 2 rfl) ?_
      refine cs_zld F St 2 2 rfl rfl (vp_in_iff.mpr ⟨by omega, by omega⟩) dX12_about_79 ?_
      refine lv_topi (fun y_9 ey_9 => ?_)
      refine lv_if_eq (tgt := 87) hx hb dX12_about_80 (by decide) (fun c80 => ?_) (fun c80 => ?_)
      ·
        have i80 := ci_eq (x := y_9) (y := 0) rfl (show (0 : Int32).toInt = 0 by decide) c80
        refine lv_aload_n hx hb dX12_about_87 rfl (lv_at hl 1 rfl) ?_
        refine lv_iload_n hx hb dX12_about_88 rfl (lv_at hl 2 rfl) ?_
        refine cs_i St [10, 4, 5, 6, 7, 8, 9] [0, 1, 2, 3] (wc := [(h, .inr (12, [.ref (a 0), .ref (a 1), .ref (a 2), .ref (a 3), .int v_taped, .int v_size, .int v_from, .int v_behind, .int v_hand, .int v_value, .int v_fault, .int v_faultAt, .ref (a 4), .int v_clock, .int v_coin, .int v_loan, .int v_matched, .int v_taxed, .int v_paidStages, .int v_grown, .int v_pledges, .int v_sums, .int v_stages, .int v_isStopped, .ref (a 5), .ref (a 6), .ref (a 7), .ref (a 8), .ref (a 9), .ref (a 10), .ref (a 11), .ref (a 12), .ref (a 13), .ref (a 14), .ref (a 15), .ref (a 16), .ref (a 17), .ref (a 18), .ref (a 19), .ref (a 20), .ref (a 21), .ref (a 22), .ref (a 23), .ref (a 24), .ref (a 25), .ref (a 26), .ref (a 27), .ref (a 28), .ref (a 29), .ref (a 30), .int v_begun, .ref (a 31), .ref (a 32)])), ((a 14), .inl ((d 14), 60, .inl f_dues)), ((a 20), .inl ((d 20), 5040, .inl f_isThere)), ((a 12), .inl ((d 12), 60, .inl f_first)), ((a 13), .inl ((d 13), 60, .inl f_every)), ((a 19), .inl ((d 19), 5040, .inl f_filled)), ((a 18), .inl ((d 18), 5040, .inl f_due))]) (wr := [((a 10), .inl ((d 10), 60, .inl f_giver)), ((a 11), .inl ((d 11), 60, .inl f_pence)), ((a 16), .inl ((d 16), 60, .inl f_isLapsed)), ((a 15), .inl ((d 15), 60, .inl f_lapsedAt))]) rfl rfl (by decide) (by decide) (va_runV (As := [.int x1]) (rest := []) F (m_overdue l G k _ h a d v_taped v_size v_from v_behind v_hand v_value v_fault v_faultAt v_clock v_coin v_loan v_matched v_taxed v_paidStages v_grown v_pledges v_sums v_stages v_isStopped v_begun f_dues f_isThere f_first f_every f_filled f_due x1 hPd (by omega) (by omega)) (cwVt F mf_X12_overdue km_X12_279 rfl rfl ⟨Nat.le_of_ble_eq_true rfl, Nat.le_of_ble_eq_true rfl⟩) (cs_preV St [10, 4, 5, 6, 7, 8, 9] rfl (by decide) [4, 5, 6, 7, 8, 9] rfl (ci := 12) (q0 := 10) rfl rfl) rfl rfl hl.1 rfl (lv_room (Nat.le_of_ble_eq_true rfl)) dX12_about_89 ⟨Nat.le_of_ble_eq_true rfl, Nat.le_of_ble_eq_true rfl⟩) (fun r_10 u_11 H locs hw St => ?_)
        try dsimp only at hw
        have St : cS G k [((a 10), .inl ((d 10), 60, .inl f_giver)), ((a 11), .inl ((d 11), 60, .inl f_pence)), ((a 16), .inl ((d 16), 60, .inl f_isLapsed)), ((a 15), .inl ((d 15), 60, .inl f_lapsedAt)), (h, .inr (12, [.ref (a 0), .ref (a 1), .ref (a 2), .ref (a 3), .int v_taped, .int v_size, .int v_from, .int v_behind, .int v_hand, .int v_value, .int v_fault, .int v_faultAt, .ref (a 4), .int v_clock, .int v_coin, .int v_loan, .int v_matched, .int v_taxed, .int v_paidStages, .int v_grown, .int v_pledges, .int v_sums, .int v_stages, .int v_isStopped, .ref (a 5), .ref (a 6), .ref (a 7), .ref (a 8), .ref (a 9), .ref (a 10), .ref (a 11), .ref (a 12), .ref (a 13), .ref (a 14), .ref (a 15), .ref (a 16), .ref (a 17), .ref (a 18), .ref (a 19), .ref (a 20), .ref (a 21), .ref (a 22), .ref (a 23), .ref (a 24), .ref (a 25), .ref (a 26), .ref (a 27), .ref (a 28), .ref (a 29), .ref (a 30), .int v_begun, .ref (a 31), .ref (a 32)])), ((a 14), .inl ((d 14), 60, .inl f_dues)), ((a 20), .inl ((d 20), 5040, .inl f_isThere)), ((a 12), .inl ((d 12), 60, .inl f_first)), ((a 13), .inl ((d 13), 60, .inl f_every)), ((a 19), .inl ((d 19), 5040, .inl f_filled)), ((a 18), .inl ((d 18), 5040, .inl f_due))] [((d 10), .int), ((d 11), .int), ((d 16), .boolean), ((d 15), .int), ((d 14), .int), ((d 20), .boolean), ((d 12), .int), ((d 13), .int), ((d 19), .int), ((d 18), .int)] A s H locs := St
        exact cs_iret F hr hlk hQ St () (r := r_10) (by trivial) [4, 0, 1, 2, 3, 5, 6, 7, 8, 9, 10] rfl (by decide) [] rfl (by decide) (by decide) dX12_about_92
      ·
        have i80 := ci_ne (x := y_9) (y := 0) rfl (show (0 : Int32).toInt = 0 by decide) c80
        refine lv_iconst (v := 0) hx hb dX12_about_83 (by decide) ?_
        refine lv_goto (tgt := 92) hx hb dX12_about_84 (by decide) ?_
        exact cs_iret F hr hlk hQ St () (r := 0) (by trivial) [10, 0, 1, 2, 3, 4, 5, 6, 7, 8, 9] rfl (by decide) [] rfl (by decide) (by decide) dX12_about_92
    by_cases w13_3 : x2 = 3
    ·
      subst w13_3
      refine lv_tableIn (tgt := 93) (off := 80) hx hb dX12_about_13 (by decide) (by decide) (by decide) (by decide) ?_
      refine lv_bipush (v := 84) hx hb dX12_about_93 (by decide) ?_
      refine lv_iload_n hx hb dX12_about_95 rfl (lv_at hl 2 rfl) ?_
      refine lv_imul hx hb dX12_about_96 ?_
      refine lv_topi (fun y_12 ey_12 => ?_)
      first | have jy_12 : y_12.toInt = 84 * x1.toInt := (by have q9 := ci_mul (x := 84) (y := x1) (show (84 : Int32).toInt = 84 by decide) rfl ey_12; omega) | have jy_12 := ci_mul (x := 84) (y := x1) (show (84 : Int32).toInt = 84 by decide) rfl ey_12
      refine lv_istore (lv' := [(4, .int y_12), (3, .int 0), (0, .ref h), (1, .int x1), (2, .int 3)]) hx hb dX12_about_97 hl (by decide) rfl (fun ls hl => ?_)
      have lp99 : ∀ (n : Nat) (kk : Int32) (nn : Int32) (H : Heap) (locs : List Loc) (ls : Array Slot), (84 * x1.toInt ≤ kk.toInt ∧ kk.toInt ≤ 84 * x1.toInt + 84) → ((6000 - kk.toInt).toNat) < n → cS G k [((a 10), .inl ((d 10), 60, .inl f_giver)), ((a 11), .inl ((d 11), 60, .inl f_pence)), ((a 16), .inl ((d 16), 60, .inl f_isLapsed)), ((a 15), .inl ((d 15), 60, .inl f_lapsedAt)), ((a 14), .inl ((d 14), 60, .inl f_dues)), ((a 20), .inl ((d 20), 5040, .inl f_isThere)), ((a 12), .inl ((d 12), 60, .inl f_first)), ((a 13), .inl ((d 13), 60, .inl f_every)), ((a 19), .inl ((d 19), 5040, .inl f_filled)), ((a 18), .inl ((d 18), 5040, .inl f_due)), (h, .inr (12, [.ref (a 0), .ref (a 1), .ref (a 2), .ref (a 3), .int v_taped, .int v_size, .int v_from, .int v_behind, .int v_hand, .int v_value, .int v_fault, .int v_faultAt, .ref (a 4), .int v_clock, .int v_coin, .int v_loan, .int v_matched, .int v_taxed, .int v_paidStages, .int v_grown, .int v_pledges, .int v_sums, .int v_stages, .int v_isStopped, .ref (a 5), .ref (a 6), .ref (a 7), .ref (a 8), .ref (a 9), .ref (a 10), .ref (a 11), .ref (a 12), .ref (a 13), .ref (a 14), .ref (a 15), .ref (a 16), .ref (a 17), .ref (a 18), .ref (a 19), .ref (a 20), .ref (a 21), .ref (a 22), .ref (a 23), .ref (a 24), .ref (a 25), .ref (a 26), .ref (a 27), .ref (a 28), .ref (a 29), .ref (a 30), .int v_begun, .ref (a 31), .ref (a 32)]))] [((d 10), .int), ((d 11), .int), ((d 16), .boolean), ((d 15), .int), ((d 14), .int), ((d 20), .boolean), ((d 12), .int), ((d 13), .int), ((d 19), .int), ((d 18), .int)] A s H locs → lv_has ls 5 [(4, .int kk), (3, .int nn), (0, .ref h), (1, .int x1), (2, .int 3)] → W p l e ({ frames := 2, cells := 0, slots := 0, locals := 46 } : Room) s m args below meth c H locs 0 0 Q (F0 m 99 ls []) := by
        intro n
        induction n with
        | zero => intro kk nn H locs ls hI hn; exact absurd hn (Nat.not_lt_zero _)
        | succ n ih =>
          intro kk nn H locs ls hI hn St hl
          obtain ⟨hI0, hI1⟩ := hI
          refine lv_iload hx hb dX12_about_99 (lv_at hl 0 rfl) ?_
          refine lv_bipush (v := 84) hx hb dX12_about_101 (by decide) ?_
          refine lv_iload_n hx hb dX12_about_103 rfl (lv_at hl 3 rfl) ?_
          refine lv_imul hx hb dX12_about_104 ?_
          refine lv_topi (fun y_13 ey_13 => ?_)
          first | have jy_13 : y_13.toInt = 84 * x1.toInt := (by have q9 := ci_mul (x := 84) (y := x1) (show (84 : Int32).toInt = 84 by decide) rfl ey_13; omega) | have jy_13 := ci_mul (x := 84) (y := x1) (show (84 : Int32).toInt = 84 by decide) rfl ey_13
          refine lv_aload_n hx hb dX12_about_105 rfl (lv_at hl 2 rfl) ?_
          refine cs_get F St 10 rfl rfl inX12 33 (by decide) kf_X12_147 rfl dX12_about_106 ?_
          refine lv_iload_n hx hb dX12_about_109 rfl (lv_at hl 3 rfl) ?_
          refine cs_ild F St 4 4 rfl rfl (vp_in_iff.mpr ⟨by omega, by omega⟩) dX12_about_110 ?_
          refine lv_topi (fun y_14 ey_14 => ?_)
          have hdy_14 := mPd_d hPd (by omega) (by omega) ey_14
          refine lv_iadd hx hb dX12_about_111 ?_
          refine lv_topi (fun y_15 ey_15 => ?_)
          first | have jy_15 : y_15.toInt = y_13.toInt + y_14.toInt := (by have q9 := ci_add (x := y_13) (y := y_14) rfl rfl ey_15; omega) | have jy_15 := ci_add (x := y_13) (y := y_14) rfl rfl ey_15
          refine lv_icmp_ge (tgt := 131) hx hb dX12_about_112 (by decide) (fun c112 => ?_) (fun c112 => ?_)
          ·
            have i112 := ci_le (x := y_15) (y := kk) rfl rfl c112
            refine lv_iload_n hx hb dX12_about_131 rfl (lv_at hl 1 rfl) ?_
            exact cs_iret F hr hlk hQ St () (r := nn) (by trivial) [10, 0, 1, 2, 3, 4, 5, 6, 7, 8, 9] rfl (by decide) [] rfl (by decide) (by decide) dX12_about_132
          ·
            have i112 := ci_nle (x := y_15) (y := kk) rfl rfl c112
            refine lv_iload_n hx hb dX12_about_115 rfl (lv_at hl 1 rfl) ?_
            refine lv_aload_n hx hb dX12_about_116 rfl (lv_at hl 2 rfl) ?_
            refine cs_get F St 10 rfl rfl inX12 38 (by decide) kf_X12_162 rfl dX12_about_117 ?_
            refine lv_iload hx hb dX12_about_120 (lv_at hl 0 rfl) ?_
            refine cs_ild F St 8 8 rfl rfl (vp_in_iff.mpr ⟨by omega, by omega⟩) dX12_about_122 ?_
            refine lv_topi (fun y_16 ey_16 => ?_)
            refine lv_iadd hx hb dX12_about_123 ?_
            refine lv_topi (fun y_17 ey_17 => ?_)
            first | have jy_17 : y_17.toInt = nn.toInt + y_16.toInt := (by have q9 := ci_add (x := nn) (y := y_16) rfl rfl ey_17; omega) | have jy_17 := ci_add (x := nn) (y := y_16) rfl rfl ey_17
            refine lv_istore_n (lv' := [(3, .int y_17), (4, .int kk), (0, .ref h), (1, .int x1), (2, .int 3)]) hx hb dX12_about_124 rfl hl (by decide) rfl (fun ls hl => ?_)
            obtain ⟨y_18, ey_18⟩ : ∃ zz : Int32, zz = kk + 1 := ⟨_, rfl⟩
            first | have jy_18 : y_18.toInt = kk.toInt + 1 := (by have q9 := ci_add (x := kk) rfl (show (1 : Int32).toInt = 1 by decide) ey_18; omega) | have jy_18 := ci_add (x := kk) rfl (show (1 : Int32).toInt = 1 by decide) ey_18
            refine lv_iinc (v := y_18) (lv' := [(4, .int y_18), (3, .int y_17), (0, .ref h), (1, .int x1), (2, .int 3)]) hx hb dX12_about_125 hl (k := 1) rfl (by rw [ey_18]; rfl) (by decide) rfl (fun ls hl => ?_)
            refine lv_goto (tgt := 99) hx hb dX12_about_128 (by decide) ?_
            exact ih y_18 y_17 _ _ _ ⟨by omega, by omega⟩ (by omega) St (lv_sub hl [0, 1, 2, 3, 4] rfl)
      exact lp99 6001 y_12 0 _ _ _ ⟨by omega, by omega⟩ (by omega) St (lv_sub hl [0, 1, 2, 3, 4] rfl)
    by_cases w13_4 : x2 = 4
    ·
      subst w13_4
      refine lv_tableIn (tgt := 133) (off := 120) hx hb dX12_about_13 (by decide) (by decide) (by decide) (by decide) ?_
      refine lv_aload_n hx hb dX12_about_133 rfl (lv_at hl 1 rfl) ?_
      refine lv_iload_n hx hb dX12_about_134 rfl (lv_at hl 2 rfl) ?_
      refine cs_i St [10, 4, 5, 9, 8] [0, 1, 2, 3, 6, 7] (wc := [(h, .inr (12, [.ref (a 0), .ref (a 1), .ref (a 2), .ref (a 3), .int v_taped, .int v_size, .int v_from, .int v_behind, .int v_hand, .int v_value, .int v_fault, .int v_faultAt, .ref (a 4), .int v_clock, .int v_coin, .int v_loan, .int v_matched, .int v_taxed, .int v_paidStages, .int v_grown, .int v_pledges, .int v_sums, .int v_stages, .int v_isStopped, .ref (a 5), .ref (a 6), .ref (a 7), .ref (a 8), .ref (a 9), .ref (a 10), .ref (a 11), .ref (a 12), .ref (a 13), .ref (a 14), .ref (a 15), .ref (a 16), .ref (a 17), .ref (a 18), .ref (a 19), .ref (a 20), .ref (a 21), .ref (a 22), .ref (a 23), .ref (a 24), .ref (a 25), .ref (a 26), .ref (a 27), .ref (a 28), .ref (a 29), .ref (a 30), .int v_begun, .ref (a 31), .ref (a 32)])), ((a 14), .inl ((d 14), 60, .inl f_dues)), ((a 20), .inl ((d 20), 5040, .inl f_isThere)), ((a 18), .inl ((d 18), 5040, .inl f_due)), ((a 19), .inl ((d 19), 5040, .inl f_filled))]) (wr := [((a 10), .inl ((d 10), 60, .inl f_giver)), ((a 11), .inl ((d 11), 60, .inl f_pence)), ((a 16), .inl ((d 16), 60, .inl f_isLapsed)), ((a 15), .inl ((d 15), 60, .inl f_lapsedAt)), ((a 12), .inl ((d 12), 60, .inl f_first)), ((a 13), .inl ((d 13), 60, .inl f_every))]) rfl rfl (by decide) (by decide) (va_runV (As := [.int x1]) (rest := []) F (m_unfilled l G k _ h a d v_taped v_size v_from v_behind v_hand v_value v_fault v_faultAt v_clock v_coin v_loan v_matched v_taxed v_paidStages v_grown v_pledges v_sums v_stages v_isStopped v_begun f_dues f_isThere f_due f_filled x1 hPd (by omega) (by omega)) (cwVt F mf_X12_unfilled km_X12_267 rfl rfl ⟨Nat.le_of_ble_eq_true rfl, Nat.le_of_ble_eq_true rfl⟩) (cs_preV St [10, 4, 5, 9, 8] rfl (by decide) [4, 5, 9, 8] rfl (ci := 12) (q0 := 10) rfl rfl) rfl rfl hl.1 rfl (lv_room (Nat.le_of_ble_eq_true rfl)) dX12_about_135 ⟨Nat.le_of_ble_eq_true rfl, Nat.le_of_ble_eq_true rfl⟩) (fun r_19 u_20 H locs hw St => ?_)
      try dsimp only at hw
      have St : cS G k [((a 10), .inl ((d 10), 60, .inl f_giver)), ((a 11), .inl ((d 11), 60, .inl f_pence)), ((a 16), .inl ((d 16), 60, .inl f_isLapsed)), ((a 15), .inl ((d 15), 60, .inl f_lapsedAt)), ((a 12), .inl ((d 12), 60, .inl f_first)), ((a 13), .inl ((d 13), 60, .inl f_every)), (h, .inr (12, [.ref (a 0), .ref (a 1), .ref (a 2), .ref (a 3), .int v_taped, .int v_size, .int v_from, .int v_behind, .int v_hand, .int v_value, .int v_fault, .int v_faultAt, .ref (a 4), .int v_clock, .int v_coin, .int v_loan, .int v_matched, .int v_taxed, .int v_paidStages, .int v_grown, .int v_pledges, .int v_sums, .int v_stages, .int v_isStopped, .ref (a 5), .ref (a 6), .ref (a 7), .ref (a 8), .ref (a 9), .ref (a 10), .ref (a 11), .ref (a 12), .ref (a 13), .ref (a 14), .ref (a 15), .ref (a 16), .ref (a 17), .ref (a 18), .ref (a 19), .ref (a 20), .ref (a 21), .ref (a 22), .ref (a 23), .ref (a 24), .ref (a 25), .ref (a 26), .ref (a 27), .ref (a 28), .ref (a 29), .ref (a 30), .int v_begun, .ref (a 31), .ref (a 32)])), ((a 14), .inl ((d 14), 60, .inl f_dues)), ((a 20), .inl ((d 20), 5040, .inl f_isThere)), ((a 18), .inl ((d 18), 5040, .inl f_due)), ((a 19), .inl ((d 19), 5040, .inl f_filled))] [((d 10), .int), ((d 11), .int), ((d 16), .boolean), ((d 15), .int), ((d 14), .int), ((d 20), .boolean), ((d 12), .int), ((d 13), .int), ((d 19), .int), ((d 18), .int)] A s H locs := St
      exact cs_iret F hr hlk hQ St () (r := r_19) (by trivial) [6, 0, 1, 2, 3, 7, 8, 4, 5, 10, 9] rfl (by decide) [] rfl (by decide) (by decide) dX12_about_138
    by_cases w13_5 : x2 = 5
    ·
      subst w13_5
      refine lv_tableIn (tgt := 139) (off := 126) hx hb dX12_about_13 (by decide) (by decide) (by decide) (by decide) ?_
      refine lv_aload_n hx hb dX12_about_139 rfl (lv_at hl 1 rfl) ?_
      refine cs_get F St 10 rfl rfl inX12 35 (by decide) kf_X12_153 rfl dX12_about_140 ?_
      refine lv_iload_n hx hb dX12_about_143 rfl (lv_at hl 2 rfl) ?_
      refine cs_zld F St 2 2 rfl rfl (vp_in_iff.mpr ⟨by omega, by omega⟩) dX12_about_144 ?_
      refine lv_topi (fun y_21 ey_21 => ?_)
      refine lv_if_eq (tgt := 152) hx hb dX12_about_145 (by decide) (fun c145 => ?_) (fun c145 => ?_)
      ·
        have i145 := ci_eq (x := y_21) (y := 0) rfl (show (0 : Int32).toInt = 0 by decide) c145
        refine lv_iconst (v := 0) hx hb dX12_about_152 (by decide) ?_
        exact cs_iret F hr hlk hQ St () (r := 0) (by trivial) [10, 0, 1, 2, 3, 4, 5, 6, 7, 8, 9] rfl (by decide) [] rfl (by decide) (by decide) dX12_about_153
      ·
        have i145 := ci_ne (x := y_21) (y := 0) rfl (show (0 : Int32).toInt = 0 by decide) c145
        refine lv_iconst (v := 1) hx hb dX12_about_148 (by decide) ?_
        refine lv_goto (tgt := 153) hx hb dX12_about_149 (by decide) ?_
        exact cs_iret F hr hlk hQ St () (r := 1) (by trivial) [10, 0, 1, 2, 3, 4, 5, 6, 7, 8, 9] rfl (by decide) [] rfl (by decide) (by decide) dX12_about_153
    by_cases w13_6 : x2 = 6
    ·
      subst w13_6
      refine lv_tableIn (tgt := 154) (off := 141) hx hb dX12_about_13 (by decide) (by decide) (by decide) (by decide) ?_
      refine lv_aload_n hx hb dX12_about_154 rfl (lv_at hl 1 rfl) ?_
      refine cs_get F St 10 rfl rfl inX12 34 (by decide) kf_X12_150 rfl dX12_about_155 ?_
      refine lv_iload_n hx hb dX12_about_158 rfl (lv_at hl 2 rfl) ?_
      refine cs_ild F St 3 3 rfl rfl (vp_in_iff.mpr ⟨by omega, by omega⟩) dX12_about_159 ?_
      refine lv_topi (fun y_22 ey_22 => ?_)
      exact cs_iret F hr hlk hQ St () (r := y_22) (by trivial) [10, 0, 1, 2, 3, 4, 5, 6, 7, 8, 9] rfl (by decide) [] rfl (by decide) (by decide) dX12_about_160
    by_cases w13_7 : x2 = 7
    ·
      subst w13_7
      refine lv_tableIn (tgt := 161) (off := 148) hx hb dX12_about_13 (by decide) (by decide) (by decide) (by decide) ?_
      refine lv_iconst (v := 0) hx hb dX12_about_161 (by decide) ?_
      refine lv_istore (lv' := [(4, .int 0), (3, .int 0), (0, .ref h), (1, .int x1), (2, .int 7)]) hx hb dX12_about_162 hl (by decide) rfl (fun ls hl => ?_)
      have lp164 : ∀ (n : Nat) (kk : Int32) (H : Heap) (locs : List Loc) (ls : Array Slot), (0 ≤ kk.toInt ∧ kk.toInt ≤ 0 + 84) → ((6000 - kk.toInt).toNat) < n → cS G k [((a 10), .inl ((d 10), 60, .inl f_giver)), ((a 11), .inl ((d 11), 60, .inl f_pence)), ((a 16), .inl ((d 16), 60, .inl f_isLapsed)), ((a 15), .inl ((d 15), 60, .inl f_lapsedAt)), ((a 14), .inl ((d 14), 60, .inl f_dues)), ((a 20), .inl ((d 20), 5040, .inl f_isThere)), ((a 12), .inl ((d 12), 60, .inl f_first)), ((a 13), .inl ((d 13), 60, .inl f_every)), ((a 19), .inl ((d 19), 5040, .inl f_filled)), ((a 18), .inl ((d 18), 5040, .inl f_due)), (h, .inr (12, [.ref (a 0), .ref (a 1), .ref (a 2), .ref (a 3), .int v_taped, .int v_size, .int v_from, .int v_behind, .int v_hand, .int v_value, .int v_fault, .int v_faultAt, .ref (a 4), .int v_clock, .int v_coin, .int v_loan, .int v_matched, .int v_taxed, .int v_paidStages, .int v_grown, .int v_pledges, .int v_sums, .int v_stages, .int v_isStopped, .ref (a 5), .ref (a 6), .ref (a 7), .ref (a 8), .ref (a 9), .ref (a 10), .ref (a 11), .ref (a 12), .ref (a 13), .ref (a 14), .ref (a 15), .ref (a 16), .ref (a 17), .ref (a 18), .ref (a 19), .ref (a 20), .ref (a 21), .ref (a 22), .ref (a 23), .ref (a 24), .ref (a 25), .ref (a 26), .ref (a 27), .ref (a 28), .ref (a 29), .ref (a 30), .int v_begun, .ref (a 31), .ref (a 32)]))] [((d 10), .int), ((d 11), .int), ((d 16), .boolean), ((d 15), .int), ((d 14), .int), ((d 20), .boolean), ((d 12), .int), ((d 13), .int), ((d 19), .int), ((d 18), .int)] A s H locs → lv_has ls 5 [(4, .int kk), (3, .int 0), (0, .ref h), (1, .int x1), (2, .int 7)] → W p l e ({ frames := 2, cells := 0, slots := 0, locals := 46 } : Room) s m args below meth c H locs 0 0 Q (F0 m 164 ls []) := by
        intro n
        induction n with
        | zero => intro kk H locs ls hI hn; exact absurd hn (Nat.not_lt_zero _)
        | succ n ih =>
          intro kk H locs ls hI hn St hl
          obtain ⟨hI0, hI1⟩ := hI
          refine lv_iload hx hb dX12_about_164 (lv_at hl 0 rfl) ?_
          refine lv_aload_n hx hb dX12_about_166 rfl (lv_at hl 2 rfl) ?_
          refine cs_get F St 10 rfl rfl inX12 33 (by decide) kf_X12_147 rfl dX12_about_167 ?_
          refine lv_iload_n hx hb dX12_about_170 rfl (lv_at hl 3 rfl) ?_
          refine cs_ild F St 4 4 rfl rfl (vp_in_iff.mpr ⟨by omega, by omega⟩) dX12_about_171 ?_
          refine lv_topi (fun y_23 ey_23 => ?_)
          have hdy_23 := mPd_d hPd (by omega) (by omega) ey_23
          refine lv_icmp_ge (tgt := 227) hx hb dX12_about_172 (by decide) (fun c172 => ?_) (fun c172 => ?_)
          ·
            have i172 := ci_le (x := y_23) (y := kk) rfl rfl c172
            refine lv_iconst (v := (-1)) hx hb dX12_about_227 (by decide) ?_
            exact cs_iret F hr hlk hQ St () (r := (-1)) (by trivial) [10, 0, 1, 2, 3, 4, 5, 6, 7, 8, 9] rfl (by decide) [] rfl (by decide) (by decide) dX12_about_228
          ·
            have i172 := ci_nle (x := y_23) (y := kk) rfl rfl c172
            refine lv_aload_n hx hb dX12_about_175 rfl (lv_at hl 2 rfl) ?_
            refine cs_get F St 10 rfl rfl inX12 35 (by decide) kf_X12_153 rfl dX12_about_176 ?_
            refine lv_iload_n hx hb dX12_about_179 rfl (lv_at hl 3 rfl) ?_
            refine cs_zld F St 2 2 rfl rfl (vp_in_iff.mpr ⟨by omega, by omega⟩) dX12_about_180 ?_
            refine lv_topi (fun y_24 ey_24 => ?_)
            refine lv_if_ne (tgt := 227) hx hb dX12_about_181 (by decide) (fun c181 => ?_) (fun c181 => ?_)
            ·
              have i181 := ci_ne (x := y_24) (y := 0) rfl (show (0 : Int32).toInt = 0 by decide) c181
              refine lv_iconst (v := (-1)) hx hb dX12_about_227 (by decide) ?_
              exact cs_iret F hr hlk hQ St () (r := (-1)) (by trivial) [10, 0, 1, 2, 3, 4, 5, 6, 7, 8, 9] rfl (by decide) [] rfl (by decide) (by decide) dX12_about_228
            ·
              have i181 := ci_eq (x := y_24) (y := 0) rfl (show (0 : Int32).toInt = 0 by decide) c181
              refine lv_aload_n hx hb dX12_about_184 rfl (lv_at hl 2 rfl) ?_
              refine cs_get F St 10 rfl rfl inX12 39 (by decide) kf_X12_165 rfl dX12_about_185 ?_
              refine lv_bipush (v := 84) hx hb dX12_about_188 (by decide) ?_
              refine lv_iload_n hx hb dX12_about_190 rfl (lv_at hl 3 rfl) ?_
              refine lv_imul hx hb dX12_about_191 ?_
              refine lv_topi (fun y_25 ey_25 => ?_)
              first | have jy_25 : y_25.toInt = 84 * x1.toInt := (by have q9 := ci_mul (x := 84) (y := x1) (show (84 : Int32).toInt = 84 by decide) rfl ey_25; omega) | have jy_25 := ci_mul (x := 84) (y := x1) (show (84 : Int32).toInt = 84 by decide) rfl ey_25
              refine lv_iload hx hb dX12_about_192 (lv_at hl 0 rfl) ?_
              refine lv_iadd hx hb dX12_about_194 ?_
              refine lv_topi (fun y_26 ey_26 => ?_)
              first | have jy_26 : y_26.toInt = y_25.toInt + kk.toInt := (by have q9 := ci_add (x := y_25) (y := kk) rfl rfl ey_26; omega) | have jy_26 := ci_add (x := y_25) (y := kk) rfl rfl ey_26
              refine cs_zld F St 5 5 rfl rfl (vp_in_iff.mpr ⟨by omega, by omega⟩) dX12_about_195 ?_
              refine lv_topi (fun y_27 ey_27 => ?_)
              refine lv_if_eq (tgt := 221) hx hb dX12_about_196 (by decide) (fun c196 => ?_) (fun c196 => ?_)
              ·
                have i196 := ci_eq (x := y_27) (y := 0) rfl (show (0 : Int32).toInt = 0 by decide) c196
                obtain ⟨y_28, ey_28⟩ : ∃ zz : Int32, zz = kk + 1 := ⟨_, rfl⟩
                first | have jy_28 : y_28.toInt = kk.toInt + 1 := (by have q9 := ci_add (x := kk) rfl (show (1 : Int32).toInt = 1 by decide) ey_28; omega) | have jy_28 := ci_add (x := kk) rfl (show (1 : Int32).toInt = 1 by decide) ey_28
                refine lv_iinc (v := y_28) (lv' := [(4, .int y_28), (3, .int 0), (0, .ref h), (1, .int x1), (2, .int 7)]) hx hb dX12_about_221 hl (k := 0) rfl (by rw [ey_28]; rfl) (by decide) rfl (fun ls hl => ?_)
                refine lv_goto (tgt := 164) hx hb dX12_about_224 (by decide) ?_
                exact ih y_28 _ _ _ ⟨by omega, by omega⟩ (by omega) St (lv_sub hl [0, 1, 2, 3, 4] rfl)
              ·
                have i196 := ci_ne (x := y_27) (y := 0) rfl (show (0 : Int32).toInt = 0 by decide) c196
                refine lv_aload_n hx hb dX12_about_199 rfl (lv_at hl 2 rfl) ?_
                refine lv_iload_n hx hb dX12_about_200 rfl (lv_at hl 3 rfl) ?_
                refine lv_iload hx hb dX12_about_201 (lv_at hl 0 rfl) ?_
                refine cs_i St [10, 6, 7] [0, 1, 2, 3, 4, 5, 8, 9] (wc := [(h, .inr (12, [.ref (a 0), .ref (a 1), .ref (a 2), .ref (a 3), .int v_taped, .int v_size, .int v_from, .int v_behind, .int v_hand, .int v_value, .int v_fault, .int v_faultAt, .ref (a 4), .int v_clock, .int v_coin, .int v_loan, .int v_matched, .int v_taxed, .int v_paidStages, .int v_grown, .int v_pledges, .int v_sums, .int v_stages, .int v_isStopped, .ref (a 5), .ref (a 6), .ref (a 7), .ref (a 8), .ref (a 9), .ref (a 10), .ref (a 11), .ref (a 12), .ref (a 13), .ref (a 14), .ref (a 15), .ref (a 16), .ref (a 17), .ref (a 18), .ref (a 19), .ref (a 20), .ref (a 21), .ref (a 22), .ref (a 23), .ref (a 24), .ref (a 25), .ref (a 26), .ref (a 27), .ref (a 28), .ref (a 29), .ref (a 30), .int v_begun, .ref (a 31), .ref (a 32)])), ((a 12), .inl ((d 12), 60, .inl f_first)), ((a 13), .inl ((d 13), 60, .inl f_every))]) (wr := [((a 10), .inl ((d 10), 60, .inl f_giver)), ((a 11), .inl ((d 11), 60, .inl f_pence)), ((a 16), .inl ((d 16), 60, .inl f_isLapsed)), ((a 15), .inl ((d 15), 60, .inl f_lapsedAt)), ((a 14), .inl ((d 14), 60, .inl f_dues)), ((a 20), .inl ((d 20), 5040, .inl f_isThere)), ((a 19), .inl ((d 19), 5040, .inl f_filled)), ((a 18), .inl ((d 18), 5040, .inl f_due))]) rfl rfl (by decide) (by decide) (va_runV (As := [.int x1, .int kk]) (rest := []) F (m_monthOf l G k _ h a d v_taped v_size v_from v_behind v_hand v_value v_fault v_faultAt v_clock v_coin v_loan v_matched v_taxed v_paidStages v_grown v_pledges v_sums v_stages v_isStopped v_begun f_first f_every x1 kk (by omega) (by omega)) (cwVt F mf_X12_monthOf km_X12_240 rfl rfl ⟨Nat.le_of_ble_eq_true rfl, Nat.le_of_ble_eq_true rfl⟩) (cs_preV St [10, 6, 7] rfl (by decide) [6, 7] rfl (ci := 12) (q0 := 10) rfl rfl) rfl rfl hl.1 rfl (lv_room (Nat.le_of_ble_eq_true rfl)) dX12_about_203 ⟨Nat.le_of_ble_eq_true rfl, Nat.le_of_ble_eq_true rfl⟩) (fun r_29 u_30 H locs hw St => ?_)
                try dsimp only at hw
                have St : cS G k [((a 10), .inl ((d 10), 60, .inl f_giver)), ((a 11), .inl ((d 11), 60, .inl f_pence)), ((a 16), .inl ((d 16), 60, .inl f_isLapsed)), ((a 15), .inl ((d 15), 60, .inl f_lapsedAt)), ((a 14), .inl ((d 14), 60, .inl f_dues)), ((a 20), .inl ((d 20), 5040, .inl f_isThere)), ((a 19), .inl ((d 19), 5040, .inl f_filled)), ((a 18), .inl ((d 18), 5040, .inl f_due)), (h, .inr (12, [.ref (a 0), .ref (a 1), .ref (a 2), .ref (a 3), .int v_taped, .int v_size, .int v_from, .int v_behind, .int v_hand, .int v_value, .int v_fault, .int v_faultAt, .ref (a 4), .int v_clock, .int v_coin, .int v_loan, .int v_matched, .int v_taxed, .int v_paidStages, .int v_grown, .int v_pledges, .int v_sums, .int v_stages, .int v_isStopped, .ref (a 5), .ref (a 6), .ref (a 7), .ref (a 8), .ref (a 9), .ref (a 10), .ref (a 11), .ref (a 12), .ref (a 13), .ref (a 14), .ref (a 15), .ref (a 16), .ref (a 17), .ref (a 18), .ref (a 19), .ref (a 20), .ref (a 21), .ref (a 22), .ref (a 23), .ref (a 24), .ref (a 25), .ref (a 26), .ref (a 27), .ref (a 28), .ref (a 29), .ref (a 30), .int v_begun, .ref (a 31), .ref (a 32)])), ((a 12), .inl ((d 12), 60, .inl f_first)), ((a 13), .inl ((d 13), 60, .inl f_every))] [((d 10), .int), ((d 11), .int), ((d 16), .boolean), ((d 15), .int), ((d 14), .int), ((d 20), .boolean), ((d 12), .int), ((d 13), .int), ((d 19), .int), ((d 18), .int)] A s H locs := St
                refine lv_aload_n hx hb dX12_about_206 rfl (lv_at hl 2 rfl) ?_
                refine cs_get F St 8 rfl rfl inX12 13 (by decide) kf_X12_230 rfl dX12_about_207 ?_
                refine lv_icmp_le (tgt := 221) hx hb dX12_about_210 (by decide) (fun c210 => ?_) (fun c210 => ?_)
                ·
                  have i210 := ci_le (x := r_29) (y := v_clock) rfl rfl c210
                  obtain ⟨y_31, ey_31⟩ : ∃ zz : Int32, zz = kk + 1 := ⟨_, rfl⟩
                  first | have jy_31 : y_31.toInt = kk.toInt + 1 := (by have q9 := ci_add (x := kk) rfl (show (1 : Int32).toInt = 1 by decide) ey_31; omega) | have jy_31 := ci_add (x := kk) rfl (show (1 : Int32).toInt = 1 by decide) ey_31
                  refine lv_iinc (v := y_31) (lv' := [(4, .int y_31), (3, .int 0), (0, .ref h), (1, .int x1), (2, .int 7)]) hx hb dX12_about_221 hl (k := 0) rfl (by rw [ey_31]; rfl) (by decide) rfl (fun ls hl => ?_)
                  refine lv_goto (tgt := 164) hx hb dX12_about_224 (by decide) ?_
                  exact ih y_31 _ _ _ ⟨by omega, by omega⟩ (by omega) (cs_pick St [0, 1, 2, 3, 4, 5, 9, 10, 6, 7, 8] rfl (by decide) [0, 1, 2, 3, 4, 5, 6, 7, 8, 9] rfl) (lv_sub hl [0, 1, 2, 3, 4] rfl)
                ·
                  have i210 := ci_nle (x := r_29) (y := v_clock) rfl rfl c210
                  refine lv_aload_n hx hb dX12_about_213 rfl (lv_at hl 2 rfl) ?_
                  refine lv_iload_n hx hb dX12_about_214 rfl (lv_at hl 3 rfl) ?_
                  refine lv_iload hx hb dX12_about_215 (lv_at hl 0 rfl) ?_
                  refine cs_i St [8, 9, 10] [0, 1, 2, 3, 4, 5, 6, 7] (wc := [(h, .inr (12, [.ref (a 0), .ref (a 1), .ref (a 2), .ref (a 3), .int v_taped, .int v_size, .int v_from, .int v_behind, .int v_hand, .int v_value, .int v_fault, .int v_faultAt, .ref (a 4), .int v_clock, .int v_coin, .int v_loan, .int v_matched, .int v_taxed, .int v_paidStages, .int v_grown, .int v_pledges, .int v_sums, .int v_stages, .int v_isStopped, .ref (a 5), .ref (a 6), .ref (a 7), .ref (a 8), .ref (a 9), .ref (a 10), .ref (a 11), .ref (a 12), .ref (a 13), .ref (a 14), .ref (a 15), .ref (a 16), .ref (a 17), .ref (a 18), .ref (a 19), .ref (a 20), .ref (a 21), .ref (a 22), .ref (a 23), .ref (a 24), .ref (a 25), .ref (a 26), .ref (a 27), .ref (a 28), .ref (a 29), .ref (a 30), .int v_begun, .ref (a 31), .ref (a 32)])), ((a 12), .inl ((d 12), 60, .inl f_first)), ((a 13), .inl ((d 13), 60, .inl f_every))]) (wr := [((a 10), .inl ((d 10), 60, .inl f_giver)), ((a 11), .inl ((d 11), 60, .inl f_pence)), ((a 16), .inl ((d 16), 60, .inl f_isLapsed)), ((a 15), .inl ((d 15), 60, .inl f_lapsedAt)), ((a 14), .inl ((d 14), 60, .inl f_dues)), ((a 20), .inl ((d 20), 5040, .inl f_isThere)), ((a 19), .inl ((d 19), 5040, .inl f_filled)), ((a 18), .inl ((d 18), 5040, .inl f_due))]) rfl rfl (by decide) (by decide) (va_runV (As := [.int x1, .int kk]) (rest := []) F (m_monthOf l G k _ h a d v_taped v_size v_from v_behind v_hand v_value v_fault v_faultAt v_clock v_coin v_loan v_matched v_taxed v_paidStages v_grown v_pledges v_sums v_stages v_isStopped v_begun f_first f_every x1 kk (by omega) (by omega)) (cwVt F mf_X12_monthOf km_X12_240 rfl rfl ⟨Nat.le_of_ble_eq_true rfl, Nat.le_of_ble_eq_true rfl⟩) (cs_preV St [8, 9, 10] rfl (by decide) [6, 7] rfl (ci := 12) (q0 := 8) rfl rfl) rfl rfl hl.1 rfl (lv_room (Nat.le_of_ble_eq_true rfl)) dX12_about_217 ⟨Nat.le_of_ble_eq_true rfl, Nat.le_of_ble_eq_true rfl⟩) (fun r_32 u_33 H locs hw St => ?_)
                  try dsimp only at hw
                  have St : cS G k [((a 10), .inl ((d 10), 60, .inl f_giver)), ((a 11), .inl ((d 11), 60, .inl f_pence)), ((a 16), .inl ((d 16), 60, .inl f_isLapsed)), ((a 15), .inl ((d 15), 60, .inl f_lapsedAt)), ((a 14), .inl ((d 14), 60, .inl f_dues)), ((a 20), .inl ((d 20), 5040, .inl f_isThere)), ((a 19), .inl ((d 19), 5040, .inl f_filled)), ((a 18), .inl ((d 18), 5040, .inl f_due)), (h, .inr (12, [.ref (a 0), .ref (a 1), .ref (a 2), .ref (a 3), .int v_taped, .int v_size, .int v_from, .int v_behind, .int v_hand, .int v_value, .int v_fault, .int v_faultAt, .ref (a 4), .int v_clock, .int v_coin, .int v_loan, .int v_matched, .int v_taxed, .int v_paidStages, .int v_grown, .int v_pledges, .int v_sums, .int v_stages, .int v_isStopped, .ref (a 5), .ref (a 6), .ref (a 7), .ref (a 8), .ref (a 9), .ref (a 10), .ref (a 11), .ref (a 12), .ref (a 13), .ref (a 14), .ref (a 15), .ref (a 16), .ref (a 17), .ref (a 18), .ref (a 19), .ref (a 20), .ref (a 21), .ref (a 22), .ref (a 23), .ref (a 24), .ref (a 25), .ref (a 26), .ref (a 27), .ref (a 28), .ref (a 29), .ref (a 30), .int v_begun, .ref (a 31), .ref (a 32)])), ((a 12), .inl ((d 12), 60, .inl f_first)), ((a 13), .inl ((d 13), 60, .inl f_every))] [((d 10), .int), ((d 11), .int), ((d 16), .boolean), ((d 15), .int), ((d 14), .int), ((d 20), .boolean), ((d 12), .int), ((d 13), .int), ((d 19), .int), ((d 18), .int)] A s H locs := St
                  exact cs_iret F hr hlk hQ St () (r := r_32) (by trivial) [8, 0, 1, 2, 3, 4, 5, 9, 10, 6, 7] rfl (by decide) [] rfl (by decide) (by decide) dX12_about_220
      exact lp164 6001 0 _ _ _ ⟨by omega, by omega⟩ (by omega) St (lv_sub hl [0, 1, 2, 3, 4] rfl)
    have iw13_0 := lv_neT w13_0 (show (0 : Int32).toInt = 0 by decide)
    have iw13_1 := lv_neT w13_1 (show (1 : Int32).toInt = 1 by decide)
    have iw13_2 := lv_neT w13_2 (show (2 : Int32).toInt = 2 by decide)
    have iw13_3 := lv_neT w13_3 (show (3 : Int32).toInt = 3 by decide)
    have iw13_4 := lv_neT w13_4 (show (4 : Int32).toInt = 4 by decide)
    have iw13_5 := lv_neT w13_5 (show (5 : Int32).toInt = 5 by decide)
    have iw13_6 := lv_neT w13_6 (show (6 : Int32).toInt = 6 by decide)
    have iw13_7 := lv_neT w13_7 (show (7 : Int32).toInt = 7 by decide)
    refine lv_tableOut (tgt := 229) hx hb dX12_about_13 (by omega) (by decide) ?_
    refine lv_iconst (v := (-1)) hx hb dX12_about_229 (by decide) ?_
    exact cs_iret F hr hlk hQ St () (r := (-1)) (by trivial) [10, 0, 1, 2, 3, 4, 5, 6, 7, 8, 9] rfl (by decide) [] rfl (by decide) (by decide) dX12_about_230
  ·
    subst r_1
    have St : cS G k [((a 10), .inl ((d 10), 60, .inl f_giver)), ((a 11), .inl ((d 11), 60, .inl f_pence)), ((a 16), .inl ((d 16), 60, .inl f_isLapsed)), ((a 15), .inl ((d 15), 60, .inl f_lapsedAt)), ((a 14), .inl ((d 14), 60, .inl f_dues)), ((a 20), .inl ((d 20), 5040, .inl f_isThere)), ((a 12), .inl ((d 12), 60, .inl f_first)), ((a 13), .inl ((d 13), 60, .inl f_every)), ((a 19), .inl ((d 19), 5040, .inl f_filled)), ((a 18), .inl ((d 18), 5040, .inl f_due)), (h, .inr (12, [.ref (a 0), .ref (a 1), .ref (a 2), .ref (a 3), .int v_taped, .int v_size, .int v_from, .int v_behind, .int v_hand, .int v_value, .int v_fault, .int v_faultAt, .ref (a 4), .int v_clock, .int v_coin, .int v_loan, .int v_matched, .int v_taxed, .int v_paidStages, .int v_grown, .int v_pledges, .int v_sums, .int v_stages, .int v_isStopped, .ref (a 5), .ref (a 6), .ref (a 7), .ref (a 8), .ref (a 9), .ref (a 10), .ref (a 11), .ref (a 12), .ref (a 13), .ref (a 14), .ref (a 15), .ref (a 16), .ref (a 17), .ref (a 18), .ref (a 19), .ref (a 20), .ref (a 21), .ref (a 22), .ref (a 23), .ref (a 24), .ref (a 25), .ref (a 26), .ref (a 27), .ref (a 28), .ref (a 29), .ref (a 30), .int v_begun, .ref (a 31), .ref (a 32)]))] [((d 10), .int), ((d 11), .int), ((d 16), .boolean), ((d 15), .int), ((d 14), .int), ((d 20), .boolean), ((d 12), .int), ((d 13), .int), ((d 19), .int), ((d 18), .int)] A s H locs := St
    refine lv_if_ne (tgt := 10) hx hb dX12_about_5 (by decide) (fun c5 => ?_) (fun c5 => ?_)
    · exact absurd c5 (by decide)
    refine lv_iconst (v := (-1)) hx hb dX12_about_8 (by decide) ?_
    exact cs_iret F hr hlk hQ St () (r := (-1)) (by trivial) [10, 0, 1, 2, 3, 4, 5, 6, 7, 8, 9] rfl (by decide) [] rfl (by decide) (by decide) dX12_about_9
set_option maxHeartbeats 4000000 in
set_option maxRecDepth 100000 in
theorem m_giver (l : Launch) (G : va_G) (k : Nat → Nat) (sz : Nat) (h : Nat) (a : Nat → Nat) (d : Nat → ClassId) (v_taped : Int32) (v_size : Int32) (v_from : Int32) (v_behind : Int32) (v_hand : Int32) (v_value : Int32) (v_fault : Int32) (v_faultAt : Int32) (v_clock : Int32) (v_coin : Int32) (v_loan : Int32) (v_matched : Int32) (v_taxed : Int32) (v_paidStages : Int32) (v_grown : Int32) (v_pledges : Int32) (v_sums : Int32) (v_stages : Int32) (v_isStopped : Int32) (v_begun : Int32) (f_given : Nat → Int32) (f_sumGiver : Nat → Int32) (f_isClaimed : Nat → Int32) (f_sumPence : Nat → Int32) (f_declaredFrom : Nat → Int32) (f_declaredTo : Nat → Int32) (f_isNameless : Nat → Int32) (x1 : Int32) (x2 : Int32) (hSp : mSp v_sums f_sumPence) : Met l yX12_giver (Cond.code yX12_giver cX12_giver 5 (some .int) :: tb) ({ frames := 2, cells := 0, slots := 0, locals := 45 } : Room) (va_Pc [.ref h, .int x1, .int x2] (cP G k [(h, .inr (12, [.ref (a 0), .ref (a 1), .ref (a 2), .ref (a 3), .int v_taped, .int v_size, .int v_from, .int v_behind, .int v_hand, .int v_value, .int v_fault, .int v_faultAt, .ref (a 4), .int v_clock, .int v_coin, .int v_loan, .int v_matched, .int v_taxed, .int v_paidStages, .int v_grown, .int v_pledges, .int v_sums, .int v_stages, .int v_isStopped, .ref (a 5), .ref (a 6), .ref (a 7), .ref (a 8), .ref (a 9), .ref (a 10), .ref (a 11), .ref (a 12), .ref (a 13), .ref (a 14), .ref (a 15), .ref (a 16), .ref (a 17), .ref (a 18), .ref (a 19), .ref (a 20), .ref (a 21), .ref (a 22), .ref (a 23), .ref (a 24), .ref (a 25), .ref (a 26), .ref (a 27), .ref (a 28), .ref (a 29), .ref (a 30), .int v_begun, .ref (a 31), .ref (a 32)])), ((a 7), .inl ((d 7), 30, .inl f_given)), ((a 22), .inl ((d 22), 250, .inl f_sumGiver)), ((a 25), .inl ((d 25), 250, .inl f_isClaimed)), ((a 24), .inl ((d 24), 250, .inl f_sumPence)), ((a 5), .inl ((d 5), 30, .inl f_declaredFrom)), ((a 6), .inl ((d 6), 30, .inl f_declaredTo)), ((a 9), .inl ((d 9), 30, .inl f_isNameless))] [((d 7), .int), ((d 22), .int), ((d 25), .boolean), ((d 24), .int), ((d 5), .int), ((d 6), .int), ((d 9), .boolean)] sz)) (va_Qi (fun (r : Int32) (_ : Unit) => True) (cB G (fun (_ : Unit) => [(h, .inr (12, [.ref (a 0), .ref (a 1), .ref (a 2), .ref (a 3), .int v_taped, .int v_size, .int v_from, .int v_behind, .int v_hand, .int v_value, .int v_fault, .int v_faultAt, .ref (a 4), .int v_clock, .int v_coin, .int v_loan, .int v_matched, .int v_taxed, .int v_paidStages, .int v_grown, .int v_pledges, .int v_sums, .int v_stages, .int v_isStopped, .ref (a 5), .ref (a 6), .ref (a 7), .ref (a 8), .ref (a 9), .ref (a 10), .ref (a 11), .ref (a 12), .ref (a 13), .ref (a 14), .ref (a 15), .ref (a 16), .ref (a 17), .ref (a 18), .ref (a 19), .ref (a 20), .ref (a 21), .ref (a 22), .ref (a 23), .ref (a 24), .ref (a 25), .ref (a 26), .ref (a 27), .ref (a 28), .ref (a 29), .ref (a 30), .int v_begun, .ref (a 31), .ref (a 32)])), ((a 7), .inl ((d 7), 30, .inl f_given)), ((a 22), .inl ((d 22), 250, .inl f_sumGiver)), ((a 25), .inl ((d 25), 250, .inl f_isClaimed)), ((a 24), .inl ((d 24), 250, .inl f_sumPence)), ((a 5), .inl ((d 5), 30, .inl f_declaredFrom)), ((a 6), .inl ((d 6), 30, .inl f_declaredTo)), ((a 9), .inl ((d 9), 30, .inl f_isNameless))]) (fun (_ : Unit) => []) (va_A [(h, .inr (12, [.ref (a 0), .ref (a 1), .ref (a 2), .ref (a 3), .int v_taped, .int v_size, .int v_from, .int v_behind, .int v_hand, .int v_value, .int v_fault, .int v_faultAt, .ref (a 4), .int v_clock, .int v_coin, .int v_loan, .int v_matched, .int v_taxed, .int v_paidStages, .int v_grown, .int v_pledges, .int v_sums, .int v_stages, .int v_isStopped, .ref (a 5), .ref (a 6), .ref (a 7), .ref (a 8), .ref (a 9), .ref (a 10), .ref (a 11), .ref (a 12), .ref (a 13), .ref (a 14), .ref (a 15), .ref (a 16), .ref (a 17), .ref (a 18), .ref (a 19), .ref (a 20), .ref (a 21), .ref (a 22), .ref (a 23), .ref (a 24), .ref (a 25), .ref (a 26), .ref (a 27), .ref (a 28), .ref (a 29), .ref (a 30), .int v_begun, .ref (a 31), .ref (a 32)])), ((a 7), .inl ((d 7), 30, .inl f_given)), ((a 22), .inl ((d 22), 250, .inl f_sumGiver)), ((a 25), .inl ((d 25), 250, .inl f_isClaimed)), ((a 24), .inl ((d 24), 250, .inl f_sumPence)), ((a 5), .inl ((d 5), 30, .inl f_declaredFrom)), ((a 6), .inl ((d 6), 30, .inl f_declaredTo)), ((a 9), .inl ((d 9), 30, .inl f_isNameless))] sz)) (va_A [(h, .inr (12, [.ref (a 0), .ref (a 1), .ref (a 2), .ref (a 3), .int v_taped, .int v_size, .int v_from, .int v_behind, .int v_hand, .int v_value, .int v_fault, .int v_faultAt, .ref (a 4), .int v_clock, .int v_coin, .int v_loan, .int v_matched, .int v_taxed, .int v_paidStages, .int v_grown, .int v_pledges, .int v_sums, .int v_stages, .int v_isStopped, .ref (a 5), .ref (a 6), .ref (a 7), .ref (a 8), .ref (a 9), .ref (a 10), .ref (a 11), .ref (a 12), .ref (a 13), .ref (a 14), .ref (a 15), .ref (a 16), .ref (a 17), .ref (a 18), .ref (a 19), .ref (a 20), .ref (a 21), .ref (a 22), .ref (a 23), .ref (a 24), .ref (a 25), .ref (a 26), .ref (a 27), .ref (a 28), .ref (a 29), .ref (a 30), .int v_begun, .ref (a 31), .ref (a 32)])), ((a 7), .inl ((d 7), 30, .inl f_given)), ((a 22), .inl ((d 22), 250, .inl f_sumGiver)), ((a 25), .inl ((d 25), 250, .inl f_isClaimed)), ((a 24), .inl ((d 24), 250, .inl f_sumPence)), ((a 5), .inl ((d 5), 30, .inl f_declaredFrom)), ((a 6), .inl ((d 6), 30, .inl f_declaredTo)), ((a 9), .inl ((d 9), 30, .inl f_isNameless))] sz)) 0 0 (va_A [(h, .inr (12, [.ref (a 0), .ref (a 1), .ref (a 2), .ref (a 3), .int v_taped, .int v_size, .int v_from, .int v_behind, .int v_hand, .int v_value, .int v_fault, .int v_faultAt, .ref (a 4), .int v_clock, .int v_coin, .int v_loan, .int v_matched, .int v_taxed, .int v_paidStages, .int v_grown, .int v_pledges, .int v_sums, .int v_stages, .int v_isStopped, .ref (a 5), .ref (a 6), .ref (a 7), .ref (a 8), .ref (a 9), .ref (a 10), .ref (a 11), .ref (a 12), .ref (a 13), .ref (a 14), .ref (a 15), .ref (a 16), .ref (a 17), .ref (a 18), .ref (a 19), .ref (a 20), .ref (a 21), .ref (a 22), .ref (a 23), .ref (a 24), .ref (a 25), .ref (a 26), .ref (a 27), .ref (a 28), .ref (a 29), .ref (a 30), .int v_begun, .ref (a 31), .ref (a 32)])), ((a 7), .inl ((d 7), 30, .inl f_given)), ((a 22), .inl ((d 22), 250, .inl f_sumGiver)), ((a 25), .inl ((d 25), 250, .inl f_isClaimed)), ((a 24), .inl ((d 24), 250, .inl f_sumPence)), ((a 5), .inl ((d 5), 30, .inl f_declaredFrom)), ((a 6), .inl ((d 6), 30, .inl f_declaredTo)), ((a 9), .inl ((d 9), 30, .inl f_isNameless))] sz) := by
  refine ofC_i (cc := cX12_giver) (maxL := 5) (ret := (some .int)) (by decide) rfl (Nat.le_of_ble_eq_true rfl) ?_
  intro p e s m args below meth c A ls Q F hr hin hlk St hl hQ
  have hx := F.1
  have hb := F.2.1
  have hl : lv_has ls 5 [(0, .ref h), (1, .int x1), (2, .int x2)] := hl
  have St : cS G k [(h, .inr (12, [.ref (a 0), .ref (a 1), .ref (a 2), .ref (a 3), .int v_taped, .int v_size, .int v_from, .int v_behind, .int v_hand, .int v_value, .int v_fault, .int v_faultAt, .ref (a 4), .int v_clock, .int v_coin, .int v_loan, .int v_matched, .int v_taxed, .int v_paidStages, .int v_grown, .int v_pledges, .int v_sums, .int v_stages, .int v_isStopped, .ref (a 5), .ref (a 6), .ref (a 7), .ref (a 8), .ref (a 9), .ref (a 10), .ref (a 11), .ref (a 12), .ref (a 13), .ref (a 14), .ref (a 15), .ref (a 16), .ref (a 17), .ref (a 18), .ref (a 19), .ref (a 20), .ref (a 21), .ref (a 22), .ref (a 23), .ref (a 24), .ref (a 25), .ref (a 26), .ref (a 27), .ref (a 28), .ref (a 29), .ref (a 30), .int v_begun, .ref (a 31), .ref (a 32)])), ((a 7), .inl ((d 7), 30, .inl f_given)), ((a 22), .inl ((d 22), 250, .inl f_sumGiver)), ((a 25), .inl ((d 25), 250, .inl f_isClaimed)), ((a 24), .inl ((d 24), 250, .inl f_sumPence)), ((a 5), .inl ((d 5), 30, .inl f_declaredFrom)), ((a 6), .inl ((d 6), 30, .inl f_declaredTo)), ((a 9), .inl ((d 9), 30, .inl f_isNameless))] [((d 7), .int), ((d 22), .int), ((d 25), .boolean), ((d 24), .int), ((d 5), .int), ((d 6), .int), ((d 9), .boolean)] A s s.heap [] := St
  have hsd := hSp.1
  have y0 : (0 : Int32).toInt = 0 := by decide
  refine lv_iload_n hx hb dX12_giver_0 rfl (lv_at hl 1 rfl) ?_
  refine cs_i St [] [0, 1, 2, 3, 4, 5, 6, 7] (wc := []) (wr := [(h, .inr (12, [.ref (a 0), .ref (a 1), .ref (a 2), .ref (a 3), .int v_taped, .int v_size, .int v_from, .int v_behind, .int v_hand, .int v_value, .int v_fault, .int v_faultAt, .ref (a 4), .int v_clock, .int v_coin, .int v_loan, .int v_matched, .int v_taxed, .int v_paidStages, .int v_grown, .int v_pledges, .int v_sums, .int v_stages, .int v_isStopped, .ref (a 5), .ref (a 6), .ref (a 7), .ref (a 8), .ref (a 9), .ref (a 10), .ref (a 11), .ref (a 12), .ref (a 13), .ref (a 14), .ref (a 15), .ref (a 16), .ref (a 17), .ref (a 18), .ref (a 19), .ref (a 20), .ref (a 21), .ref (a 22), .ref (a 23), .ref (a 24), .ref (a 25), .ref (a 26), .ref (a 27), .ref (a 28), .ref (a 29), .ref (a 30), .int v_begun, .ref (a 31), .ref (a 32)])), ((a 7), .inl ((d 7), 30, .inl f_given)), ((a 22), .inl ((d 22), 250, .inl f_sumGiver)), ((a 25), .inl ((d 25), 250, .inl f_isClaimed)), ((a 24), .inl ((d 24), 250, .inl f_sumPence)), ((a 5), .inl ((d 5), 30, .inl f_declaredFrom)), ((a 6), .inl ((d 6), 30, .inl f_declaredTo)), ((a 9), .inl ((d 9), 30, .inl f_isNameless))]) rfl rfl (by decide) (by decide) (va_runS (As := [.int x1]) (rest := []) F (c12_isGiver l G k _ x1) (cwSt F mf_X12_isGiver km_X12_218 rfl rfl ⟨Nat.le_of_ble_eq_true rfl, Nat.le_of_ble_eq_true rfl⟩) (cs_pre St [] rfl (by decide) [] rfl) rfl rfl hl.1 rfl (lv_room (Nat.le_of_ble_eq_true rfl)) dX12_giver_1 ⟨Nat.le_of_ble_eq_true rfl, Nat.le_of_ble_eq_true rfl⟩) (fun r_1 u_2 H locs hw St => ?_)
  try dsimp only at hw
  rcases hw with ⟨z_3, hf_4⟩ | ⟨z_5, hf_6⟩
  ·
    subst r_1
    have St : cS G k [(h, .inr (12, [.ref (a 0), .ref (a 1), .ref (a 2), .ref (a 3), .int v_taped, .int v_size, .int v_from, .int v_behind, .int v_hand, .int v_value, .int v_fault, .int v_faultAt, .ref (a 4), .int v_clock, .int v_coin, .int v_loan, .int v_matched, .int v_taxed, .int v_paidStages, .int v_grown, .int v_pledges, .int v_sums, .int v_stages, .int v_isStopped, .ref (a 5), .ref (a 6), .ref (a 7), .ref (a 8), .ref (a 9), .ref (a 10), .ref (a 11), .ref (a 12), .ref (a 13), .ref (a 14), .ref (a 15), .ref (a 16), .ref (a 17), .ref (a 18), .ref (a 19), .ref (a 20), .ref (a 21), .ref (a 22), .ref (a 23), .ref (a 24), .ref (a 25), .ref (a 26), .ref (a 27), .ref (a 28), .ref (a 29), .ref (a 30), .int v_begun, .ref (a 31), .ref (a 32)])), ((a 7), .inl ((d 7), 30, .inl f_given)), ((a 22), .inl ((d 22), 250, .inl f_sumGiver)), ((a 25), .inl ((d 25), 250, .inl f_isClaimed)), ((a 24), .inl ((d 24), 250, .inl f_sumPence)), ((a 5), .inl ((d 5), 30, .inl f_declaredFrom)), ((a 6), .inl ((d 6), 30, .inl f_declaredTo)), ((a 9), .inl ((d 9), 30, .inl f_isNameless))] [((d 7), .int), ((d 22), .int), ((d 25), .boolean), ((d 24), .int), ((d 5), .int), ((d 6), .int), ((d 9), .boolean)] A s H locs := St
    refine lv_if_ne (tgt := 10) hx hb dX12_giver_4 (by decide) (fun c4 => ?_) (fun c4 => ?_)
    rotate_left
    · exact absurd c4 (by decide)
    refine lv_iload_n hx hb dX12_giver_10 rfl (lv_at hl 2 rfl) ?_
    by_cases w11_0 : x2 = 0
    ·
      subst w11_0
      refine lv_tableIn (tgt := 44) (off := 33) hx hb dX12_giver_11 (by decide) (by decide) (by decide) (by decide) ?_
      refine lv_aload_n hx hb dX12_giver_44 rfl (lv_at hl 0 rfl) ?_
      refine cs_get F St 0 rfl rfl inX12 26 (by decide) kf_X12_126 rfl dX12_giver_45 ?_
      refine lv_iload_n hx hb dX12_giver_48 rfl (lv_at hl 1 rfl) ?_
      refine cs_ild F St 1 0 rfl rfl (vp_in_iff.mpr ⟨by omega, by omega⟩) dX12_giver_49 ?_
      refine lv_topi (fun y_7 ey_7 => ?_)
      exact cs_iret F hr hlk hQ St () (r := y_7) (by trivial) [0, 1, 2, 3, 4, 5, 6, 7] rfl (by decide) [] rfl (by decide) (by decide) dX12_giver_50
    by_cases w11_1 : x2 = 1
    ·
      subst w11_1
      refine lv_tableIn (tgt := 51) (off := 40) hx hb dX12_giver_11 (by decide) (by decide) (by decide) (by decide) ?_
      refine lv_iconst (v := 0) hx hb dX12_giver_51 (by decide) ?_
      refine lv_istore_n (lv' := [(3, .int 0), (0, .ref h), (1, .int x1), (2, .int 1)]) hx hb dX12_giver_52 rfl hl (by decide) rfl (fun ls hl => ?_)
      refine lv_iconst (v := 0) hx hb dX12_giver_53 (by decide) ?_
      refine lv_istore (lv' := [(4, .int 0), (3, .int 0), (0, .ref h), (1, .int x1), (2, .int 1)]) hx hb dX12_giver_54 hl (by decide) rfl (fun ls hl => ?_)
      have lp56 : ∀ (n : Nat) (kk : Int32) (nn : Int32) (H : Heap) (locs : List Loc) (ls : Array Slot), (0 ≤ kk.toInt ∧ kk.toInt ≤ v_sums.toInt) → ((250 - kk.toInt).toNat) < n → cS G k [(h, .inr (12, [.ref (a 0), .ref (a 1), .ref (a 2), .ref (a 3), .int v_taped, .int v_size, .int v_from, .int v_behind, .int v_hand, .int v_value, .int v_fault, .int v_faultAt, .ref (a 4), .int v_clock, .int v_coin, .int v_loan, .int v_matched, .int v_taxed, .int v_paidStages, .int v_grown, .int v_pledges, .int v_sums, .int v_stages, .int v_isStopped, .ref (a 5), .ref (a 6), .ref (a 7), .ref (a 8), .ref (a 9), .ref (a 10), .ref (a 11), .ref (a 12), .ref (a 13), .ref (a 14), .ref (a 15), .ref (a 16), .ref (a 17), .ref (a 18), .ref (a 19), .ref (a 20), .ref (a 21), .ref (a 22), .ref (a 23), .ref (a 24), .ref (a 25), .ref (a 26), .ref (a 27), .ref (a 28), .ref (a 29), .ref (a 30), .int v_begun, .ref (a 31), .ref (a 32)])), ((a 7), .inl ((d 7), 30, .inl f_given)), ((a 22), .inl ((d 22), 250, .inl f_sumGiver)), ((a 25), .inl ((d 25), 250, .inl f_isClaimed)), ((a 24), .inl ((d 24), 250, .inl f_sumPence)), ((a 5), .inl ((d 5), 30, .inl f_declaredFrom)), ((a 6), .inl ((d 6), 30, .inl f_declaredTo)), ((a 9), .inl ((d 9), 30, .inl f_isNameless))] [((d 7), .int), ((d 22), .int), ((d 25), .boolean), ((d 24), .int), ((d 5), .int), ((d 6), .int), ((d 9), .boolean)] A s H locs → lv_has ls 5 [(4, .int kk), (3, .int nn), (0, .ref h), (1, .int x1), (2, .int 1)] → W p l e ({ frames := 2, cells := 0, slots := 0, locals := 45 } : Room) s m args below meth c H locs 0 0 Q (F0 m 56 ls []) := by
        intro n
        induction n with
        | zero => intro kk nn H locs ls hI hn; exact absurd hn (Nat.not_lt_zero _)
        | succ n ih =>
          intro kk nn H locs ls hI hn St hl
          obtain ⟨hI0, hI1⟩ := hI
          refine lv_iload hx hb dX12_giver_56 (lv_at hl 0 rfl) ?_
          refine lv_aload_n hx hb dX12_giver_58 rfl (lv_at hl 2 rfl) ?_
          refine cs_get F St 0 rfl rfl inX12 21 (by decide) kf_X12_246 rfl dX12_giver_59 ?_
          refine lv_icmp_ge (tgt := 106) hx hb dX12_giver_62 (by decide) (fun c62 => ?_) (fun c62 => ?_)
          ·
            have i62 := ci_le (x := v_sums) (y := kk) rfl rfl c62
            refine lv_iload_n hx hb dX12_giver_106 rfl (lv_at hl 1 rfl) ?_
            exact cs_iret F hr hlk hQ St () (r := nn) (by trivial) [0, 1, 2, 3, 4, 5, 6, 7] rfl (by decide) [] rfl (by decide) (by decide) dX12_giver_107
          ·
            have i62 := ci_nle (x := v_sums) (y := kk) rfl rfl c62
            refine lv_iload_n hx hb dX12_giver_65 rfl (lv_at hl 1 rfl) ?_
            refine lv_aload_n hx hb dX12_giver_66 rfl (lv_at hl 2 rfl) ?_
            refine cs_get F St 0 rfl rfl inX12 41 (by decide) kf_X12_171 rfl dX12_giver_67 ?_
            refine lv_iload hx hb dX12_giver_70 (lv_at hl 0 rfl) ?_
            refine cs_ild F St 2 1 rfl rfl (vp_in_iff.mpr ⟨by omega, by omega⟩) dX12_giver_72 ?_
            refine lv_topi (fun y_8 ey_8 => ?_)
            refine lv_iload_n hx hb dX12_giver_73 rfl (lv_at hl 3 rfl) ?_
            refine lv_icmp_ne (tgt := 97) hx hb dX12_giver_74 (by decide) (fun c74 => ?_) (fun c74 => ?_)
            ·
              have i74 := ci_ne (x := y_8) (y := x1) rfl rfl c74
              refine lv_iconst (v := 0) hx hb dX12_giver_97 (by decide) ?_
              refine lv_iadd hx hb dX12_giver_98 ?_
              refine lv_topi (fun y_9 ey_9 => ?_)
              first | have jy_9 : y_9.toInt = nn.toInt + 0 := (by have q9 := ci_add (x := nn) (y := 0) rfl (show (0 : Int32).toInt = 0 by decide) ey_9; omega) | have jy_9 := ci_add (x := nn) (y := 0) rfl (show (0 : Int32).toInt = 0 by decide) ey_9
              refine lv_istore_n (lv' := [(3, .int y_9), (4, .int kk), (0, .ref h), (1, .int x1), (2, .int 1)]) hx hb dX12_giver_99 rfl hl (by decide) rfl (fun ls hl => ?_)
              obtain ⟨y_10, ey_10⟩ : ∃ zz : Int32, zz = kk + 1 := ⟨_, rfl⟩
              first | have jy_10 : y_10.toInt = kk.toInt + 1 := (by have q9 := ci_add (x := kk) rfl (show (1 : Int32).toInt = 1 by decide) ey_10; omega) | have jy_10 := ci_add (x := kk) rfl (show (1 : Int32).toInt = 1 by decide) ey_10
              refine lv_iinc (v := y_10) (lv' := [(4, .int y_10), (3, .int y_9), (0, .ref h), (1, .int x1), (2, .int 1)]) hx hb dX12_giver_100 hl (k := 1) rfl (by rw [ey_10]; rfl) (by decide) rfl (fun ls hl => ?_)
              refine lv_goto (tgt := 56) hx hb dX12_giver_103 (by decide) ?_
              exact ih y_10 y_9 _ _ _ ⟨by omega, by omega⟩ (by omega) St (lv_sub hl [0, 1, 2, 3, 4] rfl)
            ·
              have i74 := ci_eq (x := y_8) (y := x1) rfl rfl c74
              refine lv_aload_n hx hb dX12_giver_77 rfl (lv_at hl 2 rfl) ?_
              refine cs_get F St 0 rfl rfl inX12 44 (by decide) kf_X12_180 rfl dX12_giver_78 ?_
              refine lv_iload hx hb dX12_giver_81 (lv_at hl 0 rfl) ?_
              refine cs_zld F St 3 2 rfl rfl (vp_in_iff.mpr ⟨by omega, by omega⟩) dX12_giver_83 ?_
              refine lv_topi (fun y_11 ey_11 => ?_)
              refine lv_if_ne (tgt := 97) hx hb dX12_giver_84 (by decide) (fun c84 => ?_) (fun c84 => ?_)
              ·
                have i84 := ci_ne (x := y_11) (y := 0) rfl (show (0 : Int32).toInt = 0 by decide) c84
                refine lv_iconst (v := 0) hx hb dX12_giver_97 (by decide) ?_
                refine lv_iadd hx hb dX12_giver_98 ?_
                refine lv_topi (fun y_12 ey_12 => ?_)
                first | have jy_12 : y_12.toInt = nn.toInt + 0 := (by have q9 := ci_add (x := nn) (y := 0) rfl (show (0 : Int32).toInt = 0 by decide) ey_12; omega) | have jy_12 := ci_add (x := nn) (y := 0) rfl (show (0 : Int32).toInt = 0 by decide) ey_12
                refine lv_istore_n (lv' := [(3, .int y_12), (4, .int kk), (0, .ref h), (1, .int x1), (2, .int 1)]) hx hb dX12_giver_99 rfl hl (by decide) rfl (fun ls hl => ?_)
                obtain ⟨y_13, ey_13⟩ : ∃ zz : Int32, zz = kk + 1 := ⟨_, rfl⟩
                first | have jy_13 : y_13.toInt = kk.toInt + 1 := (by have q9 := ci_add (x := kk) rfl (show (1 : Int32).toInt = 1 by decide) ey_13; omega) | have jy_13 := ci_add (x := kk) rfl (show (1 : Int32).toInt = 1 by decide) ey_13
                refine lv_iinc (v := y_13) (lv' := [(4, .int y_13), (3, .int y_12), (0, .ref h), (1, .int x1), (2, .int 1)]) hx hb dX12_giver_100 hl (k := 1) rfl (by rw [ey_13]; rfl) (by decide) rfl (fun ls hl => ?_)
                refine lv_goto (tgt := 56) hx hb dX12_giver_103 (by decide) ?_
                exact ih y_13 y_12 _ _ _ ⟨by omega, by omega⟩ (by omega) St (lv_sub hl [0, 1, 2, 3, 4] rfl)
              ·
                have i84 := ci_eq (x := y_11) (y := 0) rfl (show (0 : Int32).toInt = 0 by decide) c84
                refine lv_aload_n hx hb dX12_giver_87 rfl (lv_at hl 2 rfl) ?_
                refine cs_get F St 0 rfl rfl inX12 43 (by decide) kf_X12_177 rfl dX12_giver_88 ?_
                refine lv_iload hx hb dX12_giver_91 (lv_at hl 0 rfl) ?_
                refine cs_ild F St 4 3 rfl rfl (vp_in_iff.mpr ⟨by omega, by omega⟩) dX12_giver_93 ?_
                refine lv_topi (fun y_14 ey_14 => ?_)
                have hdy_14 := mSp_p hSp (by omega) (by omega) ey_14
                refine lv_goto (tgt := 98) hx hb dX12_giver_94 (by decide) ?_
                refine lv_iadd hx hb dX12_giver_98 ?_
                refine lv_topi (fun y_15 ey_15 => ?_)
                first | have jy_15 : y_15.toInt = nn.toInt + y_14.toInt := (by have q9 := ci_add (x := nn) (y := y_14) rfl rfl ey_15; omega) | have jy_15 := ci_add (x := nn) (y := y_14) rfl rfl ey_15
                refine lv_istore_n (lv' := [(3, .int y_15), (4, .int kk), (0, .ref h), (1, .int x1), (2, .int 1)]) hx hb dX12_giver_99 rfl hl (by decide) rfl (fun ls hl => ?_)
                obtain ⟨y_16, ey_16⟩ : ∃ zz : Int32, zz = kk + 1 := ⟨_, rfl⟩
                first | have jy_16 : y_16.toInt = kk.toInt + 1 := (by have q9 := ci_add (x := kk) rfl (show (1 : Int32).toInt = 1 by decide) ey_16; omega) | have jy_16 := ci_add (x := kk) rfl (show (1 : Int32).toInt = 1 by decide) ey_16
                refine lv_iinc (v := y_16) (lv' := [(4, .int y_16), (3, .int y_15), (0, .ref h), (1, .int x1), (2, .int 1)]) hx hb dX12_giver_100 hl (k := 1) rfl (by rw [ey_16]; rfl) (by decide) rfl (fun ls hl => ?_)
                refine lv_goto (tgt := 56) hx hb dX12_giver_103 (by decide) ?_
                exact ih y_16 y_15 _ _ _ ⟨by omega, by omega⟩ (by omega) St (lv_sub hl [0, 1, 2, 3, 4] rfl)
      exact lp56 251 0 0 _ _ _ ⟨by omega, by omega⟩ (by omega) St (lv_sub hl [0, 1, 2, 3, 4] rfl)
    by_cases w11_2 : x2 = 2
    ·
      subst w11_2
      refine lv_tableIn (tgt := 108) (off := 97) hx hb dX12_giver_11 (by decide) (by decide) (by decide) (by decide) ?_
      refine lv_aload_n hx hb dX12_giver_108 rfl (lv_at hl 0 rfl) ?_
      refine cs_get F St 0 rfl rfl inX12 24 (by decide) kf_X12_120 rfl dX12_giver_109 ?_
      refine lv_iload_n hx hb dX12_giver_112 rfl (lv_at hl 1 rfl) ?_
      refine cs_ild F St 5 4 rfl rfl (vp_in_iff.mpr ⟨by omega, by omega⟩) dX12_giver_113 ?_
      refine lv_topi (fun y_17 ey_17 => ?_)
      exact cs_iret F hr hlk hQ St () (r := y_17) (by trivial) [0, 1, 2, 3, 4, 5, 6, 7] rfl (by decide) [] rfl (by decide) (by decide) dX12_giver_114
    by_cases w11_3 : x2 = 3
    ·
      subst w11_3
      refine lv_tableIn (tgt := 115) (off := 104) hx hb dX12_giver_11 (by decide) (by decide) (by decide) (by decide) ?_
      refine lv_aload_n hx hb dX12_giver_115 rfl (lv_at hl 0 rfl) ?_
      refine cs_get F St 0 rfl rfl inX12 25 (by decide) kf_X12_123 rfl dX12_giver_116 ?_
      refine lv_iload_n hx hb dX12_giver_119 rfl (lv_at hl 1 rfl) ?_
      refine cs_ild F St 6 5 rfl rfl (vp_in_iff.mpr ⟨by omega, by omega⟩) dX12_giver_120 ?_
      refine lv_topi (fun y_18 ey_18 => ?_)
      exact cs_iret F hr hlk hQ St () (r := y_18) (by trivial) [0, 1, 2, 3, 4, 5, 6, 7] rfl (by decide) [] rfl (by decide) (by decide) dX12_giver_121
    by_cases w11_4 : x2 = 4
    ·
      subst w11_4
      refine lv_tableIn (tgt := 122) (off := 111) hx hb dX12_giver_11 (by decide) (by decide) (by decide) (by decide) ?_
      refine lv_aload_n hx hb dX12_giver_122 rfl (lv_at hl 0 rfl) ?_
      refine cs_get F St 0 rfl rfl inX12 28 (by decide) kf_X12_132 rfl dX12_giver_123 ?_
      refine lv_iload_n hx hb dX12_giver_126 rfl (lv_at hl 1 rfl) ?_
      refine cs_zld F St 7 6 rfl rfl (vp_in_iff.mpr ⟨by omega, by omega⟩) dX12_giver_127 ?_
      refine lv_topi (fun y_19 ey_19 => ?_)
      refine lv_if_eq (tgt := 135) hx hb dX12_giver_128 (by decide) (fun c128 => ?_) (fun c128 => ?_)
      ·
        have i128 := ci_eq (x := y_19) (y := 0) rfl (show (0 : Int32).toInt = 0 by decide) c128
        refine lv_iconst (v := 0) hx hb dX12_giver_135 (by decide) ?_
        exact cs_iret F hr hlk hQ St () (r := 0) (by trivial) [0, 1, 2, 3, 4, 5, 6, 7] rfl (by decide) [] rfl (by decide) (by decide) dX12_giver_136
      ·
        have i128 := ci_ne (x := y_19) (y := 0) rfl (show (0 : Int32).toInt = 0 by decide) c128
        refine lv_iconst (v := 1) hx hb dX12_giver_131 (by decide) ?_
        refine lv_goto (tgt := 136) hx hb dX12_giver_132 (by decide) ?_
        exact cs_iret F hr hlk hQ St () (r := 1) (by trivial) [0, 1, 2, 3, 4, 5, 6, 7] rfl (by decide) [] rfl (by decide) (by decide) dX12_giver_136
    have iw11_0 := lv_neT w11_0 (show (0 : Int32).toInt = 0 by decide)
    have iw11_1 := lv_neT w11_1 (show (1 : Int32).toInt = 1 by decide)
    have iw11_2 := lv_neT w11_2 (show (2 : Int32).toInt = 2 by decide)
    have iw11_3 := lv_neT w11_3 (show (3 : Int32).toInt = 3 by decide)
    have iw11_4 := lv_neT w11_4 (show (4 : Int32).toInt = 4 by decide)
    refine lv_tableOut (tgt := 137) hx hb dX12_giver_11 (by omega) (by decide) ?_
    refine lv_bipush (v := (-2)) hx hb dX12_giver_137 (by decide) ?_
    exact cs_iret F hr hlk hQ St () (r := (-2)) (by trivial) [0, 1, 2, 3, 4, 5, 6, 7] rfl (by decide) [] rfl (by decide) (by decide) dX12_giver_139
  ·
    subst r_1
    have St : cS G k [(h, .inr (12, [.ref (a 0), .ref (a 1), .ref (a 2), .ref (a 3), .int v_taped, .int v_size, .int v_from, .int v_behind, .int v_hand, .int v_value, .int v_fault, .int v_faultAt, .ref (a 4), .int v_clock, .int v_coin, .int v_loan, .int v_matched, .int v_taxed, .int v_paidStages, .int v_grown, .int v_pledges, .int v_sums, .int v_stages, .int v_isStopped, .ref (a 5), .ref (a 6), .ref (a 7), .ref (a 8), .ref (a 9), .ref (a 10), .ref (a 11), .ref (a 12), .ref (a 13), .ref (a 14), .ref (a 15), .ref (a 16), .ref (a 17), .ref (a 18), .ref (a 19), .ref (a 20), .ref (a 21), .ref (a 22), .ref (a 23), .ref (a 24), .ref (a 25), .ref (a 26), .ref (a 27), .ref (a 28), .ref (a 29), .ref (a 30), .int v_begun, .ref (a 31), .ref (a 32)])), ((a 7), .inl ((d 7), 30, .inl f_given)), ((a 22), .inl ((d 22), 250, .inl f_sumGiver)), ((a 25), .inl ((d 25), 250, .inl f_isClaimed)), ((a 24), .inl ((d 24), 250, .inl f_sumPence)), ((a 5), .inl ((d 5), 30, .inl f_declaredFrom)), ((a 6), .inl ((d 6), 30, .inl f_declaredTo)), ((a 9), .inl ((d 9), 30, .inl f_isNameless))] [((d 7), .int), ((d 22), .int), ((d 25), .boolean), ((d 24), .int), ((d 5), .int), ((d 6), .int), ((d 9), .boolean)] A s H locs := St
    refine lv_if_ne (tgt := 10) hx hb dX12_giver_4 (by decide) (fun c4 => ?_) (fun c4 => ?_)
    · exact absurd c4 (by decide)
    refine lv_bipush (v := (-2)) hx hb dX12_giver_7 (by decide) ?_
    exact cs_iret F hr hlk hQ St () (r := (-2)) (by trivial) [0, 1, 2, 3, 4, 5, 6, 7] rfl (by decide) [] rfl (by decide) (by decide) dX12_giver_9
