set_option maxHeartbeats 4000000 in
set_option maxRecDepth 100000 in
theorem m_overdue (l : Launch) (G : va_G) (k : Nat → Nat) (sz : Nat) (h : Nat) (a : Nat → Nat) (d : Nat → ClassId) (v_taped : Int32) (v_size : Int32) (v_from : Int32) (v_behind : Int32) (v_hand : Int32) (v_value : Int32) (v_fault : Int32) (v_faultAt : Int32) (v_clock : Int32) (v_coin : Int32) (v_loan : Int32) (v_matched : Int32) (v_taxed : Int32) (v_paidStages : Int32) (v_grown : Int32) (v_pledges : Int32) (v_sums : Int32) (v_stages : Int32) (v_isStopped : Int32) (v_begun : Int32) (f_dues : Nat → Int32) (f_isThere : Nat → Int32) (f_first : Nat → Int32) (f_every : Nat → Int32) (f_filled : Nat → Int32) (f_due : Nat → Int32) (x1 : Int32) (hPd : mPd v_pledges f_dues) (hp1 : 0 ≤ x1.toInt) (hp2 : x1.toInt < v_pledges.toInt) : Met l yX12_overdue (Cond.code yX12_overdue cX12_overdue 4 (some .int) :: tb) ({ frames := 1, cells := 0, slots := 0, locals := 22 } : Room) (va_Pc [.ref h, .int x1] (cP G k [(h, .inr (12, [.ref (a 0), .ref (a 1), .ref (a 2), .ref (a 3), .int v_taped, .int v_size, .int v_from, .int v_behind, .int v_hand, .int v_value, .int v_fault, .int v_faultAt, .ref (a 4), .int v_clock, .int v_coin, .int v_loan, .int v_matched, .int v_taxed, .int v_paidStages, .int v_grown, .int v_pledges, .int v_sums, .int v_stages, .int v_isStopped, .ref (a 5), .ref (a 6), .ref (a 7), .ref (a 8), .ref (a 9), .ref (a 10), .ref (a 11), .ref (a 12), .ref (a 13), .ref (a 14), .ref (a 15), .ref (a 16), .ref (a 17), .ref (a 18), .ref (a 19), .ref (a 20), .ref (a 21), .ref (a 22), .ref (a 23), .ref (a 24), .ref (a 25), .ref (a 26), .ref (a 27), .ref (a 28), .ref (a 29), .ref (a 30), .int v_begun, .ref (a 31), .ref (a 32)])), ((a 14), .inl ((d 14), 60, .inl f_dues)), ((a 20), .inl ((d 20), 5040, .inl f_isThere)), ((a 12), .inl ((d 12), 60, .inl f_first)), ((a 13), .inl ((d 13), 60, .inl f_every)), ((a 19), .inl ((d 19), 5040, .inl f_filled)), ((a 18), .inl ((d 18), 5040, .inl f_due))] [((d 14), .int), ((d 20), .boolean), ((d 12), .int), ((d 13), .int), ((d 19), .int), ((d 18), .int)] sz)) (va_Qi (fun (r : Int32) (_ : Unit) => True) (cB G (fun (_ : Unit) => [(h, .inr (12, [.ref (a 0), .ref (a 1), .ref (a 2), .ref (a 3), .int v_taped, .int v_size, .int v_from, .int v_behind, .int v_hand, .int v_value, .int v_fault, .int v_faultAt, .ref (a 4), .int v_clock, .int v_coin, .int v_loan, .int v_matched, .int v_taxed, .int v_paidStages, .int v_grown, .int v_pledges, .int v_sums, .int v_stages, .int v_isStopped, .ref (a 5), .ref (a 6), .ref (a 7), .ref (a 8), .ref (a 9), .ref (a 10), .ref (a 11), .ref (a 12), .ref (a 13), .ref (a 14), .ref (a 15), .ref (a 16), .ref (a 17), .ref (a 18), .ref (a 19), .ref (a 20), .ref (a 21), .ref (a 22), .ref (a 23), .ref (a 24), .ref (a 25), .ref (a 26), .ref (a 27), .ref (a 28), .ref (a 29), .ref (a 30), .int v_begun, .ref (a 31), .ref (a 32)])), ((a 14), .inl ((d 14), 60, .inl f_dues)), ((a 20), .inl ((d 20), 5040, .inl f_isThere)), ((a 12), .inl ((d 12), 60, .inl f_first)), ((a 13), .inl ((d 13), 60, .inl f_every)), ((a 19), .inl ((d 19), 5040, .inl f_filled)), ((a 18), .inl ((d 18), 5040, .inl f_due))]) (fun (_ : Unit) => []) (va_A [(h, .inr (12, [.ref (a 0), .ref (a 1), .ref (a 2), .ref (a 3), .int v_taped, .int v_size, .int v_from, .int v_behind, .int v_hand, .int v_value, .int v_fault, .int v_faultAt, .ref (a 4), .int v_clock, .int v_coin, .int v_loan, .int v_matched, .int v_taxed, .int v_paidStages, .int v_grown, .int v_pledges, .int v_sums, .int v_stages, .int v_isStopped, .ref (a 5), .ref (a 6), .ref (a 7), .ref (a 8), .ref (a 9), .ref (a 10), .ref (a 11), .ref (a 12), .ref (a 13), .ref (a 14), .ref (a 15), .ref (a 16), .ref (a 17), .ref (a 18), .ref (a 19), .ref (a 20), .ref (a 21), .ref (a 22), .ref (a 23), .ref (a 24), .ref (a 25), .ref (a 26), .ref (a 27), .ref (a 28), .ref (a 29), .ref (a 30), .int v_begun, .ref (a 31), .ref (a 32)])), ((a 14), .inl ((d 14), 60, .inl f_dues)), ((a 20), .inl ((d 20), 5040, .inl f_isThere)), ((a 12), .inl ((d 12), 60, .inl f_first)), ((a 13), .inl ((d 13), 60, .inl f_every)), ((a 19), .inl ((d 19), 5040, .inl f_filled)), ((a 18), .inl ((d 18), 5040, .inl f_due))] sz)) (va_A [(h, .inr (12, [.ref (a 0), .ref (a 1), .ref (a 2), .ref (a 3), .int v_taped, .int v_size, .int v_from, .int v_behind, .int v_hand, .int v_value, .int v_fault, .int v_faultAt, .ref (a 4), .int v_clock, .int v_coin, .int v_loan, .int v_matched, .int v_taxed, .int v_paidStages, .int v_grown, .int v_pledges, .int v_sums, .int v_stages, .int v_isStopped, .ref (a 5), .ref (a 6), .ref (a 7), .ref (a 8), .ref (a 9), .ref (a 10), .ref (a 11), .ref (a 12), .ref (a 13), .ref (a 14), .ref (a 15), .ref (a 16), .ref (a 17), .ref (a 18), .ref (a 19), .ref (a 20), .ref (a 21), .ref (a 22), .ref (a 23), .ref (a 24), .ref (a 25), .ref (a 26), .ref (a 27), .ref (a 28), .ref (a 29), .ref (a 30), .int v_begun, .ref (a 31), .ref (a 32)])), ((a 14), .inl ((d 14), 60, .inl f_dues)), ((a 20), .inl ((d 20), 5040, .inl f_isThere)), ((a 12), .inl ((d 12), 60, .inl f_first)), ((a 13), .inl ((d 13), 60, .inl f_every)), ((a 19), .inl ((d 19), 5040, .inl f_filled)), ((a 18), .inl ((d 18), 5040, .inl f_due))] sz)) 0 0 (va_A [(h, .inr (12, [.ref (a 0), .ref (a 1), .ref (a 2), .ref (a 3), .int v_taped, .int v_size, .int v_from, .int v_behind, .int v_hand, .int v_value, .int v_fault, .int v_faultAt, .ref (a 4), .int v_clock, .int v_coin, .int v_loan, .int v_matched, .int v_taxed, .int v_paidStages, .int v_grown, .int v_pledges, .int v_sums, .int v_stages, .int v_isStopped, .ref (a 5), .ref (a 6), .ref (a 7), .ref (a 8), .ref (a 9), .ref (a 10), .ref (a 11), .ref (a 12), .ref (a 13), .ref (a 14), .ref (a 15), .ref (a 16), .ref (a 17), .ref (a 18), .ref (a 19), .ref (a 20), .ref (a 21), .ref (a 22), .ref (a 23), .ref (a 24), .ref (a 25), .ref (a 26), .ref (a 27), .ref (a 28), .ref (a 29), .ref (a 30), .int v_begun, .ref (a 31), .ref (a 32)])), ((a 14), .inl ((d 14), 60, .inl f_dues)), ((a 20), .inl ((d 20), 5040, .inl f_isThere)), ((a 12), .inl ((d 12), 60, .inl f_first)), ((a 13), .inl ((d 13), 60, .inl f_every)), ((a 19), .inl ((d 19), 5040, .inl f_filled)), ((a 18), .inl ((d 18), 5040, .inl f_due))] sz) := by
  refine ofC_i (cc := cX12_overdue) (maxL := 4) (ret := (some .int)) (by decide) rfl (Nat.le_of_ble_eq_true rfl) ?_
  intro p e s m args below meth c A ls Q F hr hin hlk St hl hQ
  have hx := F.1
  have hb := F.2.1
  have hl : lv_has ls 4 [(0, .ref h), (1, .int x1)] := hl
  have St : cS G k [(h, .inr (12, [.ref (a 0), .ref (a 1), .ref (a 2), .ref (a 3), .int v_taped, .int v_size, .int v_from, .int v_behind, .int v_hand, .int v_value, .int v_fault, .int v_faultAt, .ref (a 4), .int v_clock, .int v_coin, .int v_loan, .int v_matched, .int v_taxed, .int v_paidStages, .int v_grown, .int v_pledges, .int v_sums, .int v_stages, .int v_isStopped, .ref (a 5), .ref (a 6), .ref (a 7), .ref (a 8), .ref (a 9), .ref (a 10), .ref (a 11), .ref (a 12), .ref (a 13), .ref (a 14), .ref (a 15), .ref (a 16), .ref (a 17), .ref (a 18), .ref (a 19), .ref (a 20), .ref (a 21), .ref (a 22), .ref (a 23), .ref (a 24), .ref (a 25), .ref (a 26), .ref (a 27), .ref (a 28), .ref (a 29), .ref (a 30), .int v_begun, .ref (a 31), .ref (a 32)])), ((a 14), .inl ((d 14), 60, .inl f_dues)), ((a 20), .inl ((d 20), 5040, .inl f_isThere)), ((a 12), .inl ((d 12), 60, .inl f_first)), ((a 13), .inl ((d 13), 60, .inl f_every)), ((a 19), .inl ((d 19), 5040, .inl f_filled)), ((a 18), .inl ((d 18), 5040, .inl f_due))] [((d 14), .int), ((d 20), .boolean), ((d 12), .int), ((d 13), .int), ((d 19), .int), ((d 18), .int)] A s s.heap [] := St
  have hpd := hPd.1
  have y0 : (0 : Int32).toInt = 0 := by decide
  refine lv_iconst (v := 0) hx hb dX12_overdue_0 (by decide) ?_
  refine lv_istore_n (lv' := [(2, .int 0), (0, .ref h), (1, .int x1)]) hx hb dX12_overdue_1 rfl hl (by decide) rfl (fun ls hl => ?_)
  refine lv_iconst (v := 0) hx hb dX12_overdue_2 (by decide) ?_
  refine lv_istore_n (lv' := [(3, .int 0), (2, .int 0), (0, .ref h), (1, .int x1)]) hx hb dX12_overdue_3 rfl hl (by decide) rfl (fun ls hl => ?_)
  have lp4 : ∀ (n : Nat) (kk : Int32) (nn : Int32) (H : Heap) (locs : List Loc) (ls : Array Slot), (0 ≤ kk.toInt ∧ kk.toInt ≤ 0 + 84) → ((6000 - kk.toInt).toNat) < n → cS G k [(h, .inr (12, [.ref (a 0), .ref (a 1), .ref (a 2), .ref (a 3), .int v_taped, .int v_size, .int v_from, .int v_behind, .int v_hand, .int v_value, .int v_fault, .int v_faultAt, .ref (a 4), .int v_clock, .int v_coin, .int v_loan, .int v_matched, .int v_taxed, .int v_paidStages, .int v_grown, .int v_pledges, .int v_sums, .int v_stages, .int v_isStopped, .ref (a 5), .ref (a 6), .ref (a 7), .ref (a 8), .ref (a 9), .ref (a 10), .ref (a 11), .ref (a 12), .ref (a 13), .ref (a 14), .ref (a 15), .ref (a 16), .ref (a 17), .ref (a 18), .ref (a 19), .ref (a 20), .ref (a 21), .ref (a 22), .ref (a 23), .ref (a 24), .ref (a 25), .ref (a 26), .ref (a 27), .ref (a 28), .ref (a 29), .ref (a 30), .int v_begun, .ref (a 31), .ref (a 32)])), ((a 14), .inl ((d 14), 60, .inl f_dues)), ((a 20), .inl ((d 20), 5040, .inl f_isThere)), ((a 12), .inl ((d 12), 60, .inl f_first)), ((a 13), .inl ((d 13), 60, .inl f_every)), ((a 19), .inl ((d 19), 5040, .inl f_filled)), ((a 18), .inl ((d 18), 5040, .inl f_due))] [((d 14), .int), ((d 20), .boolean), ((d 12), .int), ((d 13), .int), ((d 19), .int), ((d 18), .int)] A s H locs → lv_has ls 4 [(3, .int kk), (2, .int nn), (0, .ref h), (1, .int x1)] → W p l e ({ frames := 1, cells := 0, slots := 0, locals := 22 } : Room) s m args below meth c H locs 0 0 Q (F0 m 4 ls []) := by
    intro n
    induction n with
    | zero => intro kk nn H locs ls hI hn; exact absurd hn (Nat.not_lt_zero _)
    | succ n ih =>
      intro kk nn H locs ls hI hn St hl
      obtain ⟨hI0, hI1⟩ := hI
      refine lv_iload_n hx hb dX12_overdue_4 rfl (lv_at hl 0 rfl) ?_
      refine lv_aload_n hx hb dX12_overdue_5 rfl (lv_at hl 2 rfl) ?_
      refine cs_get F St 0 rfl rfl inX12 33 (by decide) kf_X12_147 rfl dX12_overdue_6 ?_
      refine lv_iload_n hx hb dX12_overdue_9 rfl (lv_at hl 3 rfl) ?_
      refine cs_ild F St 1 0 rfl rfl (vp_in_iff.mpr ⟨by omega, by omega⟩) dX12_overdue_10 ?_
      refine lv_topi (fun y_1 ey_1 => ?_)
      have hdy_1 := mPd_d hPd (by omega) (by omega) ey_1
      refine lv_icmp_ge (tgt := 80) hx hb dX12_overdue_11 (by decide) (fun c11 => ?_) (fun c11 => ?_)
      ·
        have i11 := ci_le (x := y_1) (y := kk) rfl rfl c11
        refine lv_iload_n hx hb dX12_overdue_80 rfl (lv_at hl 1 rfl) ?_
        exact cs_iret F hr hlk hQ St () (r := nn) (by trivial) [0, 1, 2, 3, 4, 5, 6] rfl (by decide) [] rfl (by decide) (by decide) dX12_overdue_81
      ·
        have i11 := ci_nle (x := y_1) (y := kk) rfl rfl c11
        refine lv_iload_n hx hb dX12_overdue_14 rfl (lv_at hl 1 rfl) ?_
        refine lv_aload_n hx hb dX12_overdue_15 rfl (lv_at hl 2 rfl) ?_
        refine cs_get F St 0 rfl rfl inX12 39 (by decide) kf_X12_165 rfl dX12_overdue_16 ?_
        refine lv_bipush (v := 84) hx hb dX12_overdue_19 (by decide) ?_
        refine lv_iload_n hx hb dX12_overdue_21 rfl (lv_at hl 3 rfl) ?_
        refine lv_imul hx hb dX12_overdue_22 ?_
        refine lv_topi (fun y_2 ey_2 => ?_)
        first | have jy_2 : y_2.toInt = 84 * x1.toInt := (by have q9 := ci_mul (x := 84) (y := x1) (show (84 : Int32).toInt = 84 by decide) rfl ey_2; omega) | have jy_2 := ci_mul (x := 84) (y := x1) (show (84 : Int32).toInt = 84 by decide) rfl ey_2
        refine lv_iload_n hx hb dX12_overdue_23 rfl (lv_at hl 0 rfl) ?_
        refine lv_iadd hx hb dX12_overdue_24 ?_
        refine lv_topi (fun y_3 ey_3 => ?_)
        first | have jy_3 : y_3.toInt = y_2.toInt + kk.toInt := (by have q9 := ci_add (x := y_2) (y := kk) rfl rfl ey_3; omega) | have jy_3 := ci_add (x := y_2) (y := kk) rfl rfl ey_3
        refine cs_zld F St 2 1 rfl rfl (vp_in_iff.mpr ⟨by omega, by omega⟩) dX12_overdue_25 ?_
        refine lv_topi (fun y_4 ey_4 => ?_)
        refine lv_if_eq (tgt := 71) hx hb dX12_overdue_26 (by decide) (fun c26 => ?_) (fun c26 => ?_)
        ·
          have i26 := ci_eq (x := y_4) (y := 0) rfl (show (0 : Int32).toInt = 0 by decide) c26
          refine lv_iconst (v := 0) hx hb dX12_overdue_71 (by decide) ?_
          refine lv_iadd hx hb dX12_overdue_72 ?_
          refine lv_topi (fun y_5 ey_5 => ?_)
          first | have jy_5 : y_5.toInt = nn.toInt + 0 := (by have q9 := ci_add (x := nn) (y := 0) rfl (show (0 : Int32).toInt = 0 by decide) ey_5; omega) | have jy_5 := ci_add (x := nn) (y := 0) rfl (show (0 : Int32).toInt = 0 by decide) ey_5
          refine lv_istore_n (lv' := [(2, .int y_5), (3, .int kk), (0, .ref h), (1, .int x1)]) hx hb dX12_overdue_73 rfl hl (by decide) rfl (fun ls hl => ?_)
          obtain ⟨y_6, ey_6⟩ : ∃ zz : Int32, zz = kk + 1 := ⟨_, rfl⟩
          first | have jy_6 : y_6.toInt = kk.toInt + 1 := (by have q9 := ci_add (x := kk) rfl (show (1 : Int32).toInt = 1 by decide) ey_6; omega) | have jy_6 := ci_add (x := kk) rfl (show (1 : Int32).toInt = 1 by decide) ey_6
          refine lv_iinc (v := y_6) (lv' := [(3, .int y_6), (2, .int y_5), (0, .ref h), (1, .int x1)]) hx hb dX12_overdue_74 hl (k := 1) rfl (by rw [ey_6]; rfl) (by decide) rfl (fun ls hl => ?_)
          refine lv_goto (tgt := 4) hx hb dX12_overdue_77 (by decide) ?_
          exact ih y_6 y_5 _ _ _ ⟨by omega, by omega⟩ (by omega) St (lv_sub hl [0, 1, 2, 3] rfl)
        ·
          have i26 := ci_ne (x := y_4) (y := 0) rfl (show (0 : Int32).toInt = 0 by decide) c26
          refine lv_aload_n hx hb dX12_overdue_29 rfl (lv_at hl 2 rfl) ?_
          refine lv_iload_n hx hb dX12_overdue_30 rfl (lv_at hl 3 rfl) ?_
          refine lv_iload_n hx hb dX12_overdue_31 rfl (lv_at hl 0 rfl) ?_
          refine cs_i St [0, 3, 4] [1, 2, 5, 6] (wc := [(h, .inr (12, [.ref (a 0), .ref (a 1), .ref (a 2), .ref (a 3), .int v_taped, .int v_size, .int v_from, .int v_behind, .int v_hand, .int v_value, .int v_fault, .int v_faultAt, .ref (a 4), .int v_clock, .int v_coin, .int v_loan, .int v_matched, .int v_taxed, .int v_paidStages, .int v_grown, .int v_pledges, .int v_sums, .int v_stages, .int v_isStopped, .ref (a 5), .ref (a 6), .ref (a 7), .ref (a 8), .ref (a 9), .ref (a 10), .ref (a 11), .ref (a 12), .ref (a 13), .ref (a 14), .ref (a 15), .ref (a 16), .ref (a 17), .ref (a 18), .ref (a 19), .ref (a 20), .ref (a 21), .ref (a 22), .ref (a 23), .ref (a 24), .ref (a 25), .ref (a 26), .ref (a 27), .ref (a 28), .ref (a 29), .ref (a 30), .int v_begun, .ref (a 31), .ref (a 32)])), ((a 12), .inl ((d 12), 60, .inl f_first)), ((a 13), .inl ((d 13), 60, .inl f_every))]) (wr := [((a 14), .inl ((d 14), 60, .inl f_dues)), ((a 20), .inl ((d 20), 5040, .inl f_isThere)), ((a 19), .inl ((d 19), 5040, .inl f_filled)), ((a 18), .inl ((d 18), 5040, .inl f_due))]) rfl rfl (by decide) (by decide) (va_runV (As := [.int x1, .int kk]) (rest := [.int nn]) F (m_monthOf l G k _ h a d v_taped v_size v_from v_behind v_hand v_value v_fault v_faultAt v_clock v_coin v_loan v_matched v_taxed v_paidStages v_grown v_pledges v_sums v_stages v_isStopped v_begun f_first f_every x1 kk (by omega) (by omega)) (cwVt F mf_X12_monthOf km_X12_240 rfl rfl ⟨Nat.le_of_ble_eq_true rfl, Nat.le_of_ble_eq_true rfl⟩) (cs_preV St [0, 3, 4] rfl (by decide) [2, 3] rfl (ci := 12) (q0 := 0) rfl rfl) rfl rfl hl.1 rfl (lv_room (Nat.le_of_ble_eq_true rfl)) dX12_overdue_32 ⟨Nat.le_of_ble_eq_true rfl, Nat.le_of_ble_eq_true rfl⟩) (fun r_7 u_8 H locs hw St => ?_)
          try dsimp only at hw
          have St : cS G k [((a 14), .inl ((d 14), 60, .inl f_dues)), ((a 20), .inl ((d 20), 5040, .inl f_isThere)), ((a 19), .inl ((d 19), 5040, .inl f_filled)), ((a 18), .inl ((d 18), 5040, .inl f_due)), (h, .inr (12, [.ref (a 0), .ref (a 1), .ref (a 2), .ref (a 3), .int v_taped, .int v_size, .int v_from, .int v_behind, .int v_hand, .int v_value, .int v_fault, .int v_faultAt, .ref (a 4), .int v_clock, .int v_coin, .int v_loan, .int v_matched, .int v_taxed, .int v_paidStages, .int v_grown, .int v_pledges, .int v_sums, .int v_stages, .int v_isStopped, .ref (a 5), .ref (a 6), .ref (a 7), .ref (a 8), .ref (a 9), .ref (a 10), .ref (a 11), .ref (a 12), .ref (a 13), .ref (a 14), .ref (a 15), .ref (a 16), .ref (a 17), .ref (a 18), .ref (a 19), .ref (a 20), .ref (a 21), .ref (a 22), .ref (a 23), .ref (a 24), .ref (a 25), .ref (a 26), .ref (a 27), .ref (a 28), .ref (a 29), .ref (a 30), .int v_begun, .ref (a 31), .ref (a 32)])), ((a 12), .inl ((d 12), 60, .inl f_first)), ((a 13), .inl ((d 13), 60, .inl f_every))] [((d 14), .int), ((d 20), .boolean), ((d 12), .int), ((d 13), .int), ((d 19), .int), ((d 18), .int)] A s H locs := St
          refine lv_aload_n hx hb dX12_overdue_35 rfl (lv_at hl 2 rfl) ?_
          refine cs_get F St 4 rfl rfl inX12 13 (by decide) kf_X12_230 rfl dX12_overdue_36 ?_
          refine lv_icmp_gt (tgt := 71) hx hb dX12_overdue_39 (by decide) (fun c39 => ?_) (fun c39 => ?_)
          ·
            have i39 := ci_lt (x := v_clock) (y := r_7) rfl rfl c39
            refine lv_iconst (v := 0) hx hb dX12_overdue_71 (by decide) ?_
            refine lv_iadd hx hb dX12_overdue_72 ?_
            refine lv_topi (fun y_9 ey_9 => ?_)
            first | have jy_9 : y_9.toInt = nn.toInt + 0 := (by have q9 := ci_add (x := nn) (y := 0) rfl (show (0 : Int32).toInt = 0 by decide) ey_9; omega) | have jy_9 := ci_add (x := nn) (y := 0) rfl (show (0 : Int32).toInt = 0 by decide) ey_9
            refine lv_istore_n (lv' := [(2, .int y_9), (3, .int kk), (0, .ref h), (1, .int x1)]) hx hb dX12_overdue_73 rfl hl (by decide) rfl (fun ls hl => ?_)
            obtain ⟨y_10, ey_10⟩ : ∃ zz : Int32, zz = kk + 1 := ⟨_, rfl⟩
            first | have jy_10 : y_10.toInt = kk.toInt + 1 := (by have q9 := ci_add (x := kk) rfl (show (1 : Int32).toInt = 1 by decide) ey_10; omega) | have jy_10 := ci_add (x := kk) rfl (show (1 : Int32).toInt = 1 by decide) ey_10
            refine lv_iinc (v := y_10) (lv' := [(3, .int y_10), (2, .int y_9), (0, .ref h), (1, .int x1)]) hx hb dX12_overdue_74 hl (k := 1) rfl (by rw [ey_10]; rfl) (by decide) rfl (fun ls hl => ?_)
            refine lv_goto (tgt := 4) hx hb dX12_overdue_77 (by decide) ?_
            exact ih y_10 y_9 _ _ _ ⟨by omega, by omega⟩ (by omega) (cs_pick St [4, 0, 1, 5, 6, 2, 3] rfl (by decide) [0, 1, 2, 3, 4, 5] rfl) (lv_sub hl [0, 1, 2, 3] rfl)
          ·
            have i39 := ci_nlt (x := v_clock) (y := r_7) rfl rfl c39
            refine lv_aload_n hx hb dX12_overdue_42 rfl (lv_at hl 2 rfl) ?_
            refine cs_get F St 4 rfl rfl inX12 38 (by decide) kf_X12_162 rfl dX12_overdue_43 ?_
            refine lv_bipush (v := 84) hx hb dX12_overdue_46 (by decide) ?_
            refine lv_iload_n hx hb dX12_overdue_48 rfl (lv_at hl 3 rfl) ?_
            refine lv_imul hx hb dX12_overdue_49 ?_
            refine lv_topi (fun y_11 ey_11 => ?_)
            first | have jy_11 : y_11.toInt = 84 * x1.toInt := (by have q9 := ci_mul (x := 84) (y := x1) (show (84 : Int32).toInt = 84 by decide) rfl ey_11; omega) | have jy_11 := ci_mul (x := 84) (y := x1) (show (84 : Int32).toInt = 84 by decide) rfl ey_11
            refine lv_iload_n hx hb dX12_overdue_50 rfl (lv_at hl 0 rfl) ?_
            refine lv_iadd hx hb dX12_overdue_51 ?_
            refine lv_topi (fun y_12 ey_12 => ?_)
            first | have jy_12 : y_12.toInt = y_11.toInt + kk.toInt := (by have q9 := ci_add (x := y_11) (y := kk) rfl rfl ey_12; omega) | have jy_12 := ci_add (x := y_11) (y := kk) rfl rfl ey_12
            refine cs_ild F St 2 4 rfl rfl (vp_in_iff.mpr ⟨by omega, by omega⟩) dX12_overdue_52 ?_
            refine lv_topi (fun y_13 ey_13 => ?_)
            refine lv_aload_n hx hb dX12_overdue_53 rfl (lv_at hl 2 rfl) ?_
            refine cs_get F St 4 rfl rfl inX12 37 (by decide) kf_X12_159 rfl dX12_overdue_54 ?_
            refine lv_bipush (v := 84) hx hb dX12_overdue_57 (by decide) ?_
            refine lv_iload_n hx hb dX12_overdue_59 rfl (lv_at hl 3 rfl) ?_
            refine lv_imul hx hb dX12_overdue_60 ?_
            refine lv_topi (fun y_14 ey_14 => ?_)
            first | have jy_14 : y_14.toInt = 84 * x1.toInt := (by have q9 := ci_mul (x := 84) (y := x1) (show (84 : Int32).toInt = 84 by decide) rfl ey_14; omega) | have jy_14 := ci_mul (x := 84) (y := x1) (show (84 : Int32).toInt = 84 by decide) rfl ey_14
            refine lv_iload_n hx hb dX12_overdue_61 rfl (lv_at hl 0 rfl) ?_
            refine lv_iadd hx hb dX12_overdue_62 ?_
            refine lv_topi (fun y_15 ey_15 => ?_)
            first | have jy_15 : y_15.toInt = y_14.toInt + kk.toInt := (by have q9 := ci_add (x := y_14) (y := kk) rfl rfl ey_15; omega) | have jy_15 := ci_add (x := y_14) (y := kk) rfl rfl ey_15
            refine cs_ild F St 3 5 rfl rfl (vp_in_iff.mpr ⟨by omega, by omega⟩) dX12_overdue_63 ?_
            refine lv_topi (fun y_16 ey_16 => ?_)
            refine lv_icmp_ge (tgt := 71) hx hb dX12_overdue_64 (by decide) (fun c64 => ?_) (fun c64 => ?_)
            ·
              have i64 := ci_le (x := y_16) (y := y_13) rfl rfl c64
              refine lv_iconst (v := 0) hx hb dX12_overdue_71 (by decide) ?_
              refine lv_iadd hx hb dX12_overdue_72 ?_
              refine lv_topi (fun y_17 ey_17 => ?_)
              first | have jy_17 : y_17.toInt = nn.toInt + 0 := (by have q9 := ci_add (x := nn) (y := 0) rfl (show (0 : Int32).toInt = 0 by decide) ey_17; omega) | have jy_17 := ci_add (x := nn) (y := 0) rfl (show (0 : Int32).toInt = 0 by decide) ey_17
              refine lv_istore_n (lv' := [(2, .int y_17), (3, .int kk), (0, .ref h), (1, .int x1)]) hx hb dX12_overdue_73 rfl hl (by decide) rfl (fun ls hl => ?_)
              obtain ⟨y_18, ey_18⟩ : ∃ zz : Int32, zz = kk + 1 := ⟨_, rfl⟩
              first | have jy_18 : y_18.toInt = kk.toInt + 1 := (by have q9 := ci_add (x := kk) rfl (show (1 : Int32).toInt = 1 by decide) ey_18; omega) | have jy_18 := ci_add (x := kk) rfl (show (1 : Int32).toInt = 1 by decide) ey_18
              refine lv_iinc (v := y_18) (lv' := [(3, .int y_18), (2, .int y_17), (0, .ref h), (1, .int x1)]) hx hb dX12_overdue_74 hl (k := 1) rfl (by rw [ey_18]; rfl) (by decide) rfl (fun ls hl => ?_)
              refine lv_goto (tgt := 4) hx hb dX12_overdue_77 (by decide) ?_
              exact ih y_18 y_17 _ _ _ ⟨by omega, by omega⟩ (by omega) (cs_pick St [4, 0, 1, 5, 6, 2, 3] rfl (by decide) [0, 1, 2, 3, 4, 5] rfl) (lv_sub hl [0, 1, 2, 3] rfl)
            ·
              have i64 := ci_nle (x := y_16) (y := y_13) rfl rfl c64
              refine lv_iconst (v := 1) hx hb dX12_overdue_67 (by decide) ?_
              refine lv_goto (tgt := 72) hx hb dX12_overdue_68 (by decide) ?_
              refine lv_iadd hx hb dX12_overdue_72 ?_
              refine lv_topi (fun y_19 ey_19 => ?_)
              first | have jy_19 : y_19.toInt = nn.toInt + 1 := (by have q9 := ci_add (x := nn) (y := 1) rfl (show (1 : Int32).toInt = 1 by decide) ey_19; omega) | have jy_19 := ci_add (x := nn) (y := 1) rfl (show (1 : Int32).toInt = 1 by decide) ey_19
              refine lv_istore_n (lv' := [(2, .int y_19), (3, .int kk), (0, .ref h), (1, .int x1)]) hx hb dX12_overdue_73 rfl hl (by decide) rfl (fun ls hl => ?_)
              obtain ⟨y_20, ey_20⟩ : ∃ zz : Int32, zz = kk + 1 := ⟨_, rfl⟩
              first | have jy_20 : y_20.toInt = kk.toInt + 1 := (by have q9 := ci_add (x := kk) rfl (show (1 : Int32).toInt = 1 by decide) ey_20; omega) | have jy_20 := ci_add (x := kk) rfl (show (1 : Int32).toInt = 1 by decide) ey_20
              refine lv_iinc (v := y_20) (lv' := [(3, .int y_20), (2, .int y_19), (0, .ref h), (1, .int x1)]) hx hb dX12_overdue_74 hl (k := 1) rfl (by rw [ey_20]; rfl) (by decide) rfl (fun ls hl => ?_)
              refine lv_goto (tgt := 4) hx hb dX12_overdue_77 (by decide) ?_
              exact ih y_20 y_19 _ _ _ ⟨by omega, by omega⟩ (by omega) (cs_pick St [4, 0, 1, 5, 6, 2, 3] rfl (by decide) [0, 1, 2, 3, 4, 5] rfl) (lv_sub hl [0, 1, 2, 3] rfl)
  exact lp4 6001 0 0 _ _ _ ⟨by omega, by omega⟩ (by omega) St (lv_sub hl [0, 1, 2, 3] rfl)
set_option maxHeartbeats 4000000 in
set_option maxRecDepth 100000 in
theorem m_about (l : Launch) (G : va_G) (k : Nat → Nat) (sz : Nat) (h : Nat) (a : Nat → Nat) (d : Nat → ClassId) (v_taped : Int32) (v_size : Int32) (v_from : Int32) (v_behind : Int32) (v_hand : Int32) (v_value : Int32) (v_fault : Int32) (v_faultAt : Int32) (v_clock : Int32) (v_coin : Int32) (v_loan : Int32) (v_matched : Int32) (v_taxed : Int32) (v_paidStages : Int32) (v_grown : Int32) (v_pledges : Int32) (v_sums : Int32) (v_stages : Int32) (v_isStopped : Int32) (v_begun : Int32) (f_giver : Nat → Int32) (f_pence : Nat → Int32) (f_isLapsed : Nat → Int32) (f_lapsedAt : Nat → Int32) (f_dues : Nat → Int32) (f_isThere : Nat → Int32) (f_first : Nat → Int32) (f_every : Nat → Int32) (f_filled : Nat → Int32) (f_due : Nat → Int32) (x1 : Int32) (x2 : Int32) (hPd : mPd v_pledges f_dues) : Met l yX12_about (Cond.code yX12_about cX12_about 5 (some .int) :: tb) ({ frames := 2, cells := 0, slots := 0, locals := 46 } : Room) (va_Pc [.ref h, .int x1, .int x2] (cP G k [(h, .inr (12, [.ref (a 0), .ref (a 1), .ref (a 2), .ref (a 3), .int v_taped, .int v_size, .int v_from, .int v_behind, .int v_hand, .int v_value, .int v_fault, .int v_faultAt, .ref (a 4), .int v_clock, .int v_coin, .int v_loan, .int v_matched, .int v_taxed, .int v_paidStages, .int v_grown, .int v_pledges, .int v_sums, .int v_stages, .int v_isStopped, .ref (a 5), .ref (a 6), .ref (a 7), .ref (a 8), .ref (a 9), .ref (a 10), .ref (a 11), .ref (a 12), .ref (a 13), .ref (a 14), .ref (a 15), .ref (a 16), .ref (a 17), .ref (a 18), .ref (a 19), .ref (a 20), .ref (a 21), .ref (a 22), .ref (a 23), .ref (a 24), .ref (a 25), .ref (a 26), .ref (a 27), .ref (a 28), .ref (a 29), .ref (a 30), .int v_begun, .ref (a 31), .ref (a 32)])), ((a 10), .inl ((d 10), 60, .inl f_giver)), ((a 11), .inl ((d 11), 60, .inl f_pence)), ((a 16), .inl ((d 16), 60, .inl f_isLapsed)), ((a 15), .inl ((d 15), 60, .inl f_lapsedAt)), ((a 14), .inl ((d 14), 60, .inl f_dues)), ((a 20), .inl ((d 20), 5040, .inl f_isThere)), ((a 12), .inl ((d 12), 60, .inl f_first)), ((a 13), .inl ((d 13), 60, .inl f_every)), ((a 19), .inl ((d 19), 5040, .inl f_filled)), ((a 18), .inl ((d 18), 5040, .inl f_due))] [((d 10), .int), ((d 11), .int), ((d 16), .boolean), ((d 15), .int), ((d 14), .int), ((d 20), .boolean), ((d 12), .int), ((d 13), .int), ((d 19), .int), ((d 18), .int)] sz)) (va_Qi (fun (r : Int32) (_ : Unit) => True) (cB G (fun (_ : Unit) => [(h, .inr (12, [.ref (a 0), .ref (a 1), .ref (a 2), .ref (a 3), .int v_taped, .int v_size, .int v_from, .int v_behind, .int v_hand, .int v_value, .int v_fault, .int v_faultAt, .ref (a 4), .int v_clock, .int v_coin, .int v_loan, .int v_matched, .int v_taxed, .int v_paidStages, .int v_grown, .int v_pledges, .int v_sums, .int v_stages, .int v_isStopped, .ref (a 5), .ref (a 6), .ref (a 7), .ref (a 8), .ref (a 9), .ref (a 10), .ref (a 11), .ref (a 12), .ref (a 13), .ref (a 14), .ref (a 15), .ref (a 16), .ref (a 17), .ref (a 18), .ref (a 19), .ref (a 20), .ref (a 21), .ref (a 22), .ref (a 23), .ref (a 24), .ref (a 25), .ref (a 26), .ref (a 27), .ref (a 28), .ref (a 29), .ref (a 30), .int v_begun, .ref (a 31), .ref (a 32)])), ((a 10), .inl ((d 10), 60, .inl f_giver)), ((a 11), .inl ((d 11), 60, .inl f_pence)), ((a 16), .inl ((d 16), 60, .inl f_isLapsed)), ((a 15), .inl ((d 15), 60, .inl f_lapsedAt)), ((a 14), .inl ((d 14), 60, .inl f_dues)), ((a 20), .inl ((d 20), 5040, .inl f_isThere)), ((a 12), .inl ((d 12), 60, .inl f_first)), ((a 13), .inl ((d 13), 60, .inl f_every)), ((a 19), .inl ((d 19), 5040, .inl f_filled)), ((a 18), .inl ((d 18), 5040, .inl f_due))]) (fun (_ : Unit) => []) (va_A [(h, .inr (12, [.ref (a 0), .ref (a 1), .ref (a 2), .ref (a 3), .int v_taped, .int v_size, .int v_from, .int v_behind, .int v_hand, .int v_value, .int v_fault, .int v_faultAt, .ref (a 4), .int v_clock, .int v_coin, .int v_loan, .int v_matched, .int v_taxed, .int v_paidStages, .int v_grown, .int v_pledges, .int v_sums, .int v_stages, .int v_isStopped, .ref (a 5), .ref (a 6), .ref (a 7), .ref (a 8), .ref (a 9), .ref (a 10), .ref (a 11), .ref (a 12), .ref (a 13), .ref (a 14), .ref (a 15), .ref (a 16), .ref (a 17), .ref (a 18), .ref (a 19), .ref (a 20), .ref (a 21), .ref (a 22), .ref (a 23), .ref (a 24), .ref (a 25), .ref (a 26), .ref (a 27), .ref (a 28), .ref (a 29), .ref (a 30), .int v_begun, .ref (a 31), .ref (a 32)])), ((a 10), .inl ((d 10), 60, .inl f_giver)), ((a 11), .inl ((d 11), 60, .inl f_pence)), ((a 16), .inl ((d 16), 60, .inl f_isLapsed)), ((a 15), .inl ((d 15), 60, .inl f_lapsedAt)), ((a 14), .inl ((d 14), 60, .inl f_dues)), ((a 20), .inl ((d 20), 5040, .inl f_isThere)), ((a 12), .inl ((d 12), 60, .inl f_first)), ((a 13), .inl ((d 13), 60, .inl f_every)), ((a 19), .inl ((d 19), 5040, .inl f_filled)), ((a 18), .inl ((d 18), 5040, .inl f_due))] sz)) (va_A [(h, .inr (12, [.ref (a 0), .ref (a 1), .ref (a 2), .ref (a 3), .int v_taped, .int v_size, .int v_from, .int v_behind, .int v_hand, .int v_value, .int v_fault, .int v_faultAt, .ref (a 4), .int v_clock, .int v_coin, .int v_loan, .int v_matched, .int v_taxed, .int v_paidStages, .int v_grown, .int v_pledges, .int v_sums, .int v_stages, .int v_isStopped, .ref (a 5), .ref (a 6), .ref (a 7), .ref (a 8), .ref (a 9), .ref (a 10), .ref (a 11), .ref (a 12), .ref (a 13), .ref (a 14), .ref (a 15), .ref (a 16), .ref (a 17), .ref (a 18), .ref (a 19), .ref (a 20), .ref (a 21), .ref (a 22), .ref (a 23), .ref (a 24), .ref (a 25), .ref (a 26), .ref (a 27), .ref (a 28), .ref (a 29), .ref (a 30), .int v_begun, .ref (a 31), .ref (a 32)])), ((a 10), .inl ((d 10), 60, .inl f_giver)), ((a 11), .inl ((d 11), 60, .inl f_pence)), ((a 16), .inl ((d 16), 60, .inl f_isLapsed)), ((a 15), .inl ((d 15), 60, .inl f_lapsedAt)), ((a 14), .inl ((d 14), 60, .inl f_dues)), ((a 20), .inl ((d 20), 5040, .inl f_isThere)), ((a 12), .inl ((d 12), 60, .inl f_first)), ((a 13), .inl ((d 13), 60, .inl f_every)), ((a 19), .inl ((d 19), 5040, .inl f_filled)), ((a 18), .inl ((d 18), 5040, .inl f_due))] sz)) 0 0 (va_A [(h, .inr (12, [.ref (a 0), .ref (a 1), .ref (a 2), .ref (a 3), .int v_taped, .int v_size, .int v_from, .int v_behind, .int v_hand, .int v_value, .int v_fault, .int v_faultAt, .ref (a 4), .int v_clock, .int v_coin, .int v_loan, .int v_matched, .int v_taxed, .int v_paidStages, .int v_grown, .int v_pledges, .int v_sums, .int v_stages, .int v_isStopped, .ref (a 5), .ref (a 6), .ref (a 7), .ref (a 8), .ref (a 9), .ref (a 10), .ref (a 11), .ref (a 12), .ref (a 13), .ref (a 14), .ref (a 15), .ref (a 16), .ref (a 17), .ref (a 18), .ref (a 19), .ref (a 20), .ref (a 21), .ref (a 22), .ref (a 23), .ref (a 24), .ref (a 25), .ref (a 26), .ref (a 27), .ref (a 28), .ref (a 29), .ref (a 30), .int v_begun, .ref (a 31), .ref (a 32)])), ((a 10), .inl ((d 10), 60, .inl f_giver)), ((a 11), .inl ((d 11), 60, .inl f_pence)), ((a 16), .inl ((d 16), 60, .inl f_isLapsed)), ((a 15), .inl ((d 15), 60, .inl f_lapsedAt)), ((a 14), .inl ((d 14), 60, .inl f_dues)), ((a 20), .inl ((d 20), 5040, .inl f_isThere)), ((a 12), .inl ((d 12), 60, .inl f_first)), ((a 13), .inl ((d 13), 60, .inl f_every)), ((a 19), .inl ((d 19), 5040, .inl f_filled)), ((a 18), .inl ((d 18), 5040, .inl f_due))] sz) := by
  refine ofC_i (cc := cX12_about) (maxL := 5) (ret := (some .int)) (by decide) rfl (Nat.le_of_ble_eq_true rfl) ?_
  intro p e s m args below meth c A ls Q F hr hin hlk St hl hQ
  have hx := F.1
  have hb := F.2.1
  have hl : lv_has ls 5 [(0, .ref h), (1, .int x1), (2, .int x2)] := hl
  have St : cS G k [(h, .inr (12, [.ref (a 0), .ref (a 1), .ref (a 2), .ref (a 3), .int v_taped, .int v_size, .int v_from, .int v_behind, .int v_hand, .int v_value, .int v_fault, .int v_faultAt, .ref (a 4), .int v_clock, .int v_coin, .int v_loan, .int v_matched, .int v_taxed, .int v_paidStages, .int v_grown, .int v_pledges, .int v_sums, .int v_stages, .int v_isStopped, .ref (a 5), .ref (a 6), .ref (a 7), .ref (a 8), .ref (a 9), .ref (a 10), .ref (a 11), .ref (a 12), .ref (a 13), .ref (a 14), .ref (a 15), .ref (a 16), .ref (a 17), .ref (a 18), .ref (a 19), .ref (a 20), .ref (a 21), .ref (a 22), .ref (a 23), .ref (a 24), .ref (a 25), .ref (a 26), .ref (a 27), .ref (a 28), .ref (a 29), .ref (a 30), .int v_begun, .ref (a 31), .ref (a 32)])), ((a 10), .inl ((d 10), 60, .inl f_giver)), ((a 11), .inl ((d 11), 60, .inl f_pence)), ((a 16), .inl ((d 16), 60, .inl f_isLapsed)), ((a 15), .inl ((d 15), 60, .inl f_lapsedAt)), ((a 14), .inl ((d 14), 60, .inl f_dues)), ((a 20), .inl ((d 20), 5040, .inl f_isThere)), ((a 12), .inl ((d 12), 60, .inl f_first)), ((a 13), .inl ((d 13), 60, .inl f_every)), ((a 19), .inl ((d 19), 5040, .inl f_filled)), ((a 18), .inl ((d 18), 5040, .inl f_due))] [((d 10), .int), ((d 11), .int), ((d 16), .boolean), ((d 15), .int), ((d 14), .int), ((d 20), .boolean), ((d 12), .int), ((d 13), .int), ((d 19), .int), ((d 18), .int)] A s s.heap [] := St
  have hpd := hPd.1
  have y0 : (0 : Int32).toInt = 0 := by decide
  refine lv_aload_n hx hb dX12_about_0 rfl (lv_at hl 0 rfl) ?_
  refine lv_iload_n hx hb dX12_about_1 rfl (lv_at hl 1 rfl) ?_
  refine cs_i St [0] [1, 2, 3, 4, 5, 6, 7, 8, 9, 10] (wc := [(h, .inr (12, [.ref (a 0), .ref (a 1), .ref (a 2), .ref (a 3), .int v_taped, .int v_size, .int v_from, .int v_behind, .int v_hand, .int v_value, .int v_fault, .int v_faultAt, .ref (a 4), .int v_clock, .int v_coin, .int v_loan, .int v_matched, .int v_taxed, .int v_paidStages, .int v_grown, .int v_pledges, .int v_sums, .int v_stages, .int v_isStopped, .ref (a 5), .ref (a 6), .ref (a 7), .ref (a 8), .ref (a 9), .ref (a 10), .ref (a 11), .ref (a 12), .ref (a 13), .ref (a 14), .ref (a 15), .ref (a 16), .ref (a 17), .ref (a 18), .ref (a 19), .ref (a 20), .ref (a 21), .ref (a 22), .ref (a 23), .ref (a 24), .ref (a 25), .ref (a 26), .ref (a 27), .ref (a 28), .ref (a 29), .ref (a 30), .int v_begun, .ref (a 31), .ref (a 32)]))]) (wr := [((a 10), .inl ((d 10), 60, .inl f_giver)), ((a 11), .inl ((d 11), 60, .inl f_pence)), ((a 16), .inl ((d 16), 60, .inl f_isLapsed)), ((a 15), .inl ((d 15), 60, .inl f_lapsedAt)), ((a 14), .inl ((d 14), 60, .inl f_dues)), ((a 20), .inl ((d 20), 5040, .inl f_isThere)), ((a 12), .inl ((d 12), 60, .inl f_first)), ((a 13), .inl ((d 13), 60, .inl f_every)), ((a 19), .inl ((d 19), 5040, .inl f_filled)), ((a 18), .inl ((d 18), 5040, .inl f_due))]) rfl rfl (by decide) (by decide) (va_runV (As := [.int x1]) (rest := []) F (m_isPledge l G k _ h a (fun _ => default) v_taped v_size v_from v_behind v_hand v_value v_fault v_faultAt v_clock v_coin v_loan v_matched v_taxed v_paidStages v_grown v_pledges v_sums v_stages v_isStopped v_begun x1 (by omega)) (cwVt F mf_X12_isPledge km_X12_243 rfl rfl ⟨Nat.le_of_ble_eq_true rfl, Nat.le_of_ble_eq_true rfl⟩) (cs_preV St [0] rfl (by decide) [] rfl (ci := 12) (q0 := 0) rfl rfl) rfl rfl hl.1 rfl (lv_room (Nat.le_of_ble_eq_true rfl)) dX12_about_2 ⟨Nat.le_of_ble_eq_true rfl, Nat.le_of_ble_eq_true rfl⟩) (fun r_1 u_2 H locs hw St => ?_)
  try dsimp only at hw
  rcases hw with ⟨z_3, hf_4⟩ | ⟨z_5, hf_6⟩
  ·
    subst r_1
    have St : cS G k [((a 10), .inl ((d 10), 60, .inl f_giver)), ((a 11), .inl ((d 11), 60, .inl f_pence)), ((a 16), .inl ((d 16), 60, .inl f_isLapsed)), ((a 15), .inl ((d 15), 60, .inl f_lapsedAt)), ((a 14), .inl ((d 14), 60, .inl f_dues)), ((a 20), .inl ((d 20), 5040, .inl f_isThere)), ((a 12), .inl ((d 12), 60, .inl f_first)), ((a 13), .inl ((d 13), 60, .inl f_every)), ((a 19), .inl ((d 19), 5040, .inl f_filled)), ((a 18), .inl ((d 18), 5040, .inl f_due)), (h, .inr (12, [.ref (a 0), .ref (a 1), .ref (a 2), .ref (a 3), .int v_taped, .int v_size, .int v_from, .int v_behind, .int v_hand, .int v_value, .int v_fault, .int v_faultAt, .ref (a 4), .int v_clock, .int v_coin, .int v_loan, .int v_matched, .int v_taxed, .int v_paidStages, .int v_grown, .int v_pledges, .int v_sums, .int v_stages, .int v_isStopped, .ref (a 5), .ref (a 6), .ref (a 7), .ref (a 8), .ref (a 9), .ref (a 10), .ref (a 11), .ref (a 12), .ref (a 13), .ref (a 14), .ref (a 15), .ref (a 16), .ref (a 17), .ref (a 18), .ref (a 19), .ref (a 20), .ref (a 21), .ref (a 22), .ref (a 23), .ref (a 24), .ref (a 25), .ref (a 26), .ref (a 27), .ref (a 28), .ref (a 29), .ref (a 30), .int v_begun, .ref (a 31), .ref (a 32)]))] [((d 10), .int), ((d 11), .int), ((d 16), .boolean), ((d 15), .int), ((d 14), .int), ((d 20), .boolean), ((d 12), .int), ((d 13), .int), ((d 19), .int), ((d 18), .int)] A s H locs := St
    refine lv_if_ne (tgt := 10) hx hb dX12_about_5 (by decide) (fun c5 => ?_) (fun c5 => ?_)
    rotate_left
    · exact absurd c5 (by decide)
    refine lv_iconst (v := 0) hx hb dX12_about_10 (by decide) ?_
    refine lv_istore_n (lv' := [(3, .int 0), (0, .ref h), (1, .int x1), (2, .int x2)]) hx hb dX12_about_11 rfl hl (by decide) rfl (fun ls hl => ?_)
    refine lv_iload_n hx hb dX12_about_12 rfl (lv_at hl 3 rfl) ?_
    by_cases w13_0 : x2 = 0
    ·
      subst w13_0
      refine lv_tableIn (tgt := 60) (off := 47) hx hb dX12_about_13 (by decide) (by decide) (by decide) (by decide) ?_
      refine lv_aload_n hx hb dX12_about_60 rfl (lv_at hl 1 rfl) ?_
      refine cs_get F St 10 rfl rfl inX12 29 (by decide) kf_X12_135 rfl dX12_about_61 ?_
      refine lv_iload_n hx hb dX12_about_64 rfl (lv_at hl 2 rfl) ?_
      refine cs_ild F St 0 0 rfl rfl (vp_in_iff.mpr ⟨by omega, by omega⟩) dX12_about_65 ?_
      refine lv_topi (fun y_7 ey_7 => ?_)
      exact cs_iret F hr hlk hQ St () (r := y_7) (by trivial) [10, 0, 1, 2, 3, 4, 5, 6, 7, 8, 9] rfl (by decide) [] rfl (by decide) (by decide) dX12_about_66
    by_cases w13_1 : x2 = 1
    ·
      subst w13_1
      refine lv_tableIn (tgt := 67) (off := 54) hx hb dX12_about_13 (by decide) (by decide) (by decide) (by decide) ?_
      refine lv_aload_n hx hb dX12_about_67 rfl (lv_at hl 1 rfl) ?_
      refine cs_get F St 10 rfl rfl inX12 30 (by decide) kf_X12_138 rfl dX12_about_68 ?_
      refine lv_iload_n hx hb dX12_about_71 rfl (lv_at hl 2 rfl) ?_
      refine cs_ild F St 1 1 rfl rfl (vp_in_iff.mpr ⟨by omega, by omega⟩) dX12_about_72 ?_
      refine lv_topi (fun y_8 ey_8 => ?_)
      exact cs_iret F hr hlk hQ St () (r := y_8) (by trivial) [10, 0, 1, 2, 3, 4, 5, 6, 7, 8, 9] rfl (by decide) [] rfl (by decide) (by decide) dX12_about_73
    by_cases w13_2 : x2 = 2
    ·
      subst w13_2
      refine lv_tableIn (tgt := 74) (off := 61) hx hb dX12_about_13 (by decide) (by decide) (by decide) (by decide) ?_
      refine lv_aload_n hx hb dX12_about_74 rfl (lv_at hl 1 rfl) ?_
      refine cs_get F St 10 rfl rfl inX12 35 (by decide) kf_X12_153 rfl dX12_about_75 ?_
      refine lv_iload_n hx hb dX12_about_78 rfl (lv_at hl 2 rfl) ?_
      refine cs_zld F St 2 2 rfl rfl (vp_in_iff.mpr ⟨by omega, by omega⟩) dX12_about_79 ?_
      refine lv_topi (fun y_9 ey_9 => ?_)
      refine lv_if_eq (tgt := 87) hx hb dX12_about_80 (by decide) (fun c80 => ?_) (fun c80 => ?_)
      ·
        have i80 := ci_eq (x := y_9) (y := 0) rfl (show (0 : Int32).toInt = 0 by decide) c80
        refine lv_aload_n hx hb dX12_about_87 rfl (lv_at hl 1 rfl) ?_
        refine lv_iload_n hx hb dX12_about_88 rfl (lv_at hl 2 rfl) ?_
        refine cs_i St [10, 4, 5, 6, 7, 8, 9] [0, 1, 2, 3] (wc := [(h, .inr (12, [.ref (a 0), .ref (a 1), .ref (a 2), .ref (a 3), .int v_taped, .int v_size, .int v_from, .int v_behind, .int v_hand, .int v_value, .int v_fault, .int v_faultAt, .ref (a 4), .int v_clock, .int v_coin, .int v_loan, .int v_matched, .int v_taxed, .int v_paidStages, .int v_grown, .int v_pledges, .int v_sums, .int v_stages, .int v_isStopped, .ref (a 5), .ref (a 6), .ref (a 7), .ref (a 8), .ref (a 9), .ref (a 10), .ref (a 11), .ref (a 12), .ref (a 13), .ref (a 14), .ref (a 15), .ref (a 16), .ref (a 17), .ref (a 18), .ref (a 19), .ref (a 20), .ref (a 21), .ref (a 22), .ref (a 23), .ref (a 24), .ref (a 25), .ref (a 26), .ref (a 27), .ref (a 28), .ref (a 29), .ref (a 30), .int v_begun, .ref (a 31), .ref (a 32)])), ((a 14), .inl ((d 14), 60, .inl f_dues)), ((a 20), .inl ((d 20), 5040, .inl f_isThere)), ((a 12), .inl ((d 12), 60, .inl f_first)), ((a 13), .inl ((d 13), 60, .inl f_every)), ((a 19), .inl ((d 19), 5040, .inl f_filled)), ((a 18), .inl ((d 18), 5040, .inl f_due))]) (wr := [((a 10), .inl ((d 10), 60, .inl f_giver)), ((a 11), .inl ((d 11), 60, .inl f_pence)), ((a 16), .inl ((d 16), 60, .inl f_isLapsed)), ((a 15), .inl ((d 15), 60, .inl f_lapsedAt))]) rfl rfl (by decide) (by decide) (va_runV (As := [.int x1]) (rest := []) F (m_overdue l G k _ h a d v_taped v_size v_from v_behind v_hand v_value v_fault v_faultAt v_clock v_coin v_loan v_matched v_taxed v_paidStages v_grown v_pledges v_sums v_stages v_isStopped v_begun f_dues f_isThere f_first f_every f_filled f_due x1 hPd (by omega) (by omega)) (cwVt F mf_X12_overdue km_X12_279 rfl rfl ⟨Nat.le_of_ble_eq_true rfl, Nat.le_of_ble_eq_true rfl⟩) (cs_preV St [10, 4, 5, 6, 7, 8, 9] rfl (by decide) [4, 5, 6, 7, 8, 9] rfl (ci := 12) (q0 := 10) rfl rfl) rfl rfl hl.1 rfl (lv_room (Nat.le_of_ble_eq_true rfl)) dX12_about_89 ⟨Nat.le_of_ble_eq_true rfl, Nat.le_of_ble_eq_true rfl⟩) (fun r_10 u_11 H locs hw St => ?_)
        try dsimp only at hw
        have St : cS G k [((a 10), .inl ((d 10), 60, .inl f_giver)), ((a 11), .inl ((d 11), 60, .inl f_pence)), ((a 16), .inl ((d 16), 60, .inl f_isLapsed)), ((a 15), .inl ((d 15), 60, .inl f_lapsedAt)), (h, .inr (12, [.ref (a 0), .ref (a 1), .ref (a 2), .ref (a 3), .int v_taped, .int v_size, .int v_from, .int v_behind, .int v_hand, .int v_value, .int v_fault, .int v_faultAt, .ref (a 4), .int v_clock, .int v_coin, .int v_loan, .int v_matched, .int v_taxed, .int v_paidStages, .int v_grown, .int v_pledges, .int v_sums, .int v_stages, .int v_isStopped, .ref (a 5), .ref (a 6), .ref (a 7), .ref (a 8), .ref (a 9), .ref (a 10), .ref (a 11), .ref (a 12), .ref (a 13), .ref (a 14), .ref (a 15), .ref (a 16), .ref (a 17), .ref (a 18), .ref (a 19), .ref (a 20), .ref (a 21), .ref (a 22), .ref (a 23), .ref (a 24), .ref (a 25), .ref (a 26), .ref (a 27), .ref (a 28), .ref (a 29), .ref (a 30), .int v_begun, .ref (a 31), .ref (a 32)])), ((a 14), .inl ((d 14), 60, .inl f_dues)), ((a 20), .inl ((d 20), 5040, .inl f_isThere)), ((a 12), .inl ((d 12), 60, .inl f_first)), ((a 13), .inl ((d 13), 60, .inl f_every)), ((a 19), .inl ((d 19), 5040, .inl f_filled)), ((a 18), .inl ((d 18), 5040, .inl f_due))] [((d 10), .int), ((d 11), .int), ((d 16), .boolean), ((d 15), .int), ((d 14), .int), ((d 20), .boolean), ((d 12), .int), ((d 13), .int), ((d 19), .int), ((d 18), .int)] A s H locs := St
        exact cs_iret F hr hlk hQ St () (r := r_10) (by trivial) [4, 0, 1, 2, 3, 5, 6, 7, 8, 9, 10] rfl (by decide) [] rfl (by decide) (by decide) dX12_about_92
      ·
        have i80 := ci_ne (x := y_9) (y := 0) rfl (show (0 : Int32).toInt = 0 by decide) c80
        refine lv_iconst (v := 0) hx hb dX12_about_83 (by decide) ?_
        refine lv_goto (tgt := 92) hx hb dX12_about_84 (by decide) ?_
        exact cs_iret F hr hlk hQ St () (r := 0) (by trivial) [10, 0, 1, 2, 3, 4, 5, 6, 7, 8, 9] rfl (by decide) [] rfl (by decide) (by decide) dX12_about_92
    by_cases w13_3 : x2 = 3
    ·
      subst w13_3
      refine lv_tableIn (tgt := 93) (off := 80) hx hb dX12_about_13 (by decide) (by decide) (by decide) (by decide) ?_
      refine lv_bipush (v := 84) hx hb dX12_about_93 (by decide) ?_
      refine lv_iload_n hx hb dX12_about_95 rfl (lv_at hl 2 rfl) ?_
      refine lv_imul hx hb dX12_about_96 ?_
      refine lv_topi (fun y_12 ey_12 => ?_)
      first | have jy_12 : y_12.toInt = 84 * x1.toInt := (by have q9 := ci_mul (x := 84) (y := x1) (show (84 : Int32).toInt = 84 by decide) rfl ey_12; omega) | have jy_12 := ci_mul (x := 84) (y := x1) (show (84 : Int32).toInt = 84 by decide) rfl ey_12
      refine lv_istore (lv' := [(4, .int y_12), (3, .int 0), (0, .ref h), (1, .int x1), (2, .int 3)]) hx hb dX12_about_97 hl (by decide) rfl (fun ls hl => ?_)
      have lp99 : ∀ (n : Nat) (kk : Int32) (nn : Int32) (H : Heap) (locs : List Loc) (ls : Array Slot), (84 * x1.toInt ≤ kk.toInt ∧ kk.toInt ≤ 84 * x1.toInt + 84) → ((6000 - kk.toInt).toNat) < n → cS G k [((a 10), .inl ((d 10), 60, .inl f_giver)), ((a 11), .inl ((d 11), 60, .inl f_pence)), ((a 16), .inl ((d 16), 60, .inl f_isLapsed)), ((a 15), .inl ((d 15), 60, .inl f_lapsedAt)), ((a 14), .inl ((d 14), 60, .inl f_dues)), ((a 20), .inl ((d 20), 5040, .inl f_isThere)), ((a 12), .inl ((d 12), 60, .inl f_first)), ((a 13), .inl ((d 13), 60, .inl f_every)), ((a 19), .inl ((d 19), 5040, .inl f_filled)), ((a 18), .inl ((d 18), 5040, .inl f_due)), (h, .inr (12, [.ref (a 0), .ref (a 1), .ref (a 2), .ref (a 3), .int v_taped, .int v_size, .int v_from, .int v_behind, .int v_hand, .int v_value, .int v_fault, .int v_faultAt, .ref (a 4), .int v_clock, .int v_coin, .int v_loan, .int v_matched, .int v_taxed, .int v_paidStages, .int v_grown, .int v_pledges, .int v_sums, .int v_stages, .int v_isStopped, .ref (a 5), .ref (a 6), .ref (a 7), .ref (a 8), .ref (a 9), .ref (a 10), .ref (a 11), .ref (a 12), .ref (a 13), .ref (a 14), .ref (a 15), .ref (a 16), .ref (a 17), .ref (a 18), .ref (a 19), .ref (a 20), .ref (a 21), .ref (a 22), .ref (a 23), .ref (a 24), .ref (a 25), .ref (a 26), .ref (a 27), .ref (a 28), .ref (a 29), .ref (a 30), .int v_begun, .ref (a 31), .ref (a 32)]))] [((d 10), .int), ((d 11), .int), ((d 16), .boolean), ((d 15), .int), ((d 14), .int), ((d 20), .boolean), ((d 12), .int), ((d 13), .int), ((d 19), .int), ((d 18), .int)] A s H locs → lv_has ls 5 [(4, .int kk), (3, .int nn), (0, .ref h), (1, .int x1), (2, .int 3)] → W p l e ({ frames := 2, cells := 0, slots := 0, locals := 46 } : Room) s m args below meth c H locs 0 0 Q (F0 m 99 ls []) := by
        intro n
        induction n with
        | zero => intro kk nn H locs ls hI hn; exact absurd hn (Nat.not_lt_zero _)
        | succ n ih =>
          intro kk nn H locs ls hI hn St hl
          obtain ⟨hI0, hI1⟩ := hI
          refine lv_iload hx hb dX12_about_99 (lv_at hl 0 rfl) ?_
          refine lv_bipush (v := 84) hx hb dX12_about_101 (by decide) ?_
          refine lv_iload_n hx hb dX12_about_103 rfl (lv_at hl 3 rfl) ?_
          refine lv_imul hx hb dX12_about_104 ?_
          refine lv_topi (fun y_13 ey_13 => ?_)
          first | have jy_13 : y_13.toInt = 84 * x1.toInt := (by have q9 := ci_mul (x := 84) (y := x1) (show (84 : Int32).toInt = 84 by decide) rfl ey_13; omega) | have jy_13 := ci_mul (x := 84) (y := x1) (show (84 : Int32).toInt = 84 by decide) rfl ey_13
          refine lv_aload_n hx hb dX12_about_105 rfl (lv_at hl 2 rfl) ?_
          refine cs_get F St 10 rfl rfl inX12 33 (by decide) kf_X12_147 rfl dX12_about_106 ?_
          refine lv_iload_n hx hb dX12_about_109 rfl (lv_at hl 3 rfl) ?_
          refine cs_ild F St 4 4 rfl rfl (vp_in_iff.mpr ⟨by omega, by omega⟩) dX12_about_110 ?_
          refine lv_topi (fun y_14 ey_14 => ?_)
          have hdy_14 := mPd_d hPd (by omega) (by omega) ey_14
          refine lv_iadd hx hb dX12_about_111 ?_
          refine lv_topi (fun y_15 ey_15 => ?_)
          first | have jy_15 : y_15.toInt = y_13.toInt + y_14.toInt := (by have q9 := ci_add (x := y_13) (y := y_14) rfl rfl ey_15; omega) | have jy_15 := ci_add (x := y_13) (y := y_14) rfl rfl ey_15
          refine lv_icmp_ge (tgt := 131) hx hb dX12_about_112 (by decide) (fun c112 => ?_) (fun c112 => ?_)
          ·
            have i112 := ci_le (x := y_15) (y := kk) rfl rfl c112
            refine lv_iload_n hx hb dX12_about_131 rfl (lv_at hl 1 rfl) ?_
            exact cs_iret F hr hlk hQ St () (r := nn) (by trivial) [10, 0, 1, 2, 3, 4, 5, 6, 7, 8, 9] rfl (by decide) [] rfl (by decide) (by decide) dX12_about_132
          ·
            have i112 := ci_nle (x := y_15) (y := kk) rfl rfl c112
            refine lv_iload_n hx hb dX12_about_115 rfl (lv_at hl 1 rfl) ?_
            refine lv_aload_n hx hb dX12_about_116 rfl (lv_at hl 2 rfl) ?_
            refine cs_get F St 10 rfl rfl inX12 38 (by decide) kf_X12_162 rfl dX12_about_117 ?_
            refine lv_iload hx hb dX12_about_120 (lv_at hl 0 rfl) ?_
            refine cs_ild F St 8 8 rfl rfl (vp_in_iff.mpr ⟨by omega, by omega⟩) dX12_about_122 ?_
            refine lv_topi (fun y_16 ey_16 => ?_)
            refine lv_iadd hx hb dX12_about_123 ?_
            refine lv_topi (fun y_17 ey_17 => ?_)
            first | have jy_17 : y_17.toInt = nn.toInt + y_16.toInt := (by have q9 := ci_add (x := nn) (y := y_16) rfl rfl ey_17; omega) | have jy_17 := ci_add (x := nn) (y := y_16) rfl rfl ey_17
            refine lv_istore_n (lv' := [(3, .int y_17), (4, .int kk), (0, .ref h), (1, .int x1), (2, .int 3)]) hx hb dX12_about_124 rfl hl (by decide) rfl (fun ls hl => ?_)
            obtain ⟨y_18, ey_18⟩ : ∃ zz : Int32, zz = kk + 1 := ⟨_, rfl⟩
            first | have jy_18 : y_18.toInt = kk.toInt + 1 := (by have q9 := ci_add (x := kk) rfl (show (1 : Int32).toInt = 1 by decide) ey_18; omega) | have jy_18 := ci_add (x := kk) rfl (show (1 : Int32).toInt = 1 by decide) ey_18
            refine lv_iinc (v := y_18) (lv' := [(4, .int y_18), (3, .int y_17), (0, .ref h), (1, .int x1), (2, .int 3)]) hx hb dX12_about_125 hl (k := 1) rfl (by rw [ey_18]; rfl) (by decide) rfl (fun ls hl => ?_)
            refine lv_goto (tgt := 99) hx hb dX12_about_128 (by decide) ?_
            exact ih y_18 y_17 _ _ _ ⟨by omega, by omega⟩ (by omega) St (lv_sub hl [0, 1, 2, 3, 4] rfl)
      exact lp99 6001 y_12 0 _ _ _ ⟨by omega, by omega⟩ (by omega) St (lv_sub hl [0, 1, 2, 3, 4] rfl)
    by_cases w13_4 : x2 = 4
    ·
      subst w13_4
      refine lv_tableIn (tgt := 133) (off := 120) hx hb dX12_about_13 (by decide) (by decide) (by decide) (by decide) ?_
      refine lv_aload_n hx hb dX12_about_133 rfl (lv_at hl 1 rfl) ?_
      refine lv_iload_n hx hb dX12_about_134 rfl (lv_at hl 2 rfl) ?_
      refine cs_i St [10, 4, 5, 9, 8] [0, 1, 2, 3, 6, 7] (wc := [(h, .inr (12, [.ref (a 0), .ref (a 1), .ref (a 2), .ref (a 3), .int v_taped, .int v_size, .int v_from, .int v_behind, .int v_hand, .int v_value, .int v_fault, .int v_faultAt, .ref (a 4), .int v_clock, .int v_coin, .int v_loan, .int v_matched, .int v_taxed, .int v_paidStages, .int v_grown, .int v_pledges, .int v_sums, .int v_stages, .int v_isStopped, .ref (a 5), .ref (a 6), .ref (a 7), .ref (a 8), .ref (a 9), .ref (a 10), .ref (a 11), .ref (a 12), .ref (a 13), .ref (a 14), .ref (a 15), .ref (a 16), .ref (a 17), .ref (a 18), .ref (a 19), .ref (a 20), .ref (a 21), .ref (a 22), .ref (a 23), .ref (a 24), .ref (a 25), .ref (a 26), .ref (a 27), .ref (a 28), .ref (a 29), .ref (a 30), .int v_begun, .ref (a 31), .ref (a 32)])), ((a 14), .inl ((d 14), 60, .inl f_dues)), ((a 20), .inl ((d 20), 5040, .inl f_isThere)), ((a 18), .inl ((d 18), 5040, .inl f_due)), ((a 19), .inl ((d 19), 5040, .inl f_filled))]) (wr := [((a 10), .inl ((d 10), 60, .inl f_giver)), ((a 11), .inl ((d 11), 60, .inl f_pence)), ((a 16), .inl ((d 16), 60, .inl f_isLapsed)), ((a 15), .inl ((d 15), 60, .inl f_lapsedAt)), ((a 12), .inl ((d 12), 60, .inl f_first)), ((a 13), .inl ((d 13), 60, .inl f_every))]) rfl rfl (by decide) (by decide) (va_runV (As := [.int x1]) (rest := []) F (m_unfilled l G k _ h a d v_taped v_size v_from v_behind v_hand v_value v_fault v_faultAt v_clock v_coin v_loan v_matched v_taxed v_paidStages v_grown v_pledges v_sums v_stages v_isStopped v_begun f_dues f_isThere f_due f_filled x1 hPd (by omega) (by omega)) (cwVt F mf_X12_unfilled km_X12_267 rfl rfl ⟨Nat.le_of_ble_eq_true rfl, Nat.le_of_ble_eq_true rfl⟩) (cs_preV St [10, 4, 5, 9, 8] rfl (by decide) [4, 5, 9, 8] rfl (ci := 12) (q0 := 10) rfl rfl) rfl rfl hl.1 rfl (lv_room (Nat.le_of_ble_eq_true rfl)) dX12_about_135 ⟨Nat.le_of_ble_eq_true rfl, Nat.le_of_ble_eq_true rfl⟩) (fun r_19 u_20 H locs hw St => ?_)
      try dsimp only at hw
      have St : cS G k [((a 10), .inl ((d 10), 60, .inl f_giver)), ((a 11), .inl ((d 11), 60, .inl f_pence)), ((a 16), .inl ((d 16), 60, .inl f_isLapsed)), ((a 15), .inl ((d 15), 60, .inl f_lapsedAt)), ((a 12), .inl ((d 12), 60, .inl f_first)), ((a 13), .inl ((d 13), 60, .inl f_every)), (h, .inr (12, [.ref (a 0), .ref (a 1), .ref (a 2), .ref (a 3), .int v_taped, .int v_size, .int v_from, .int v_behind, .int v_hand, .int v_value, .int v_fault, .int v_faultAt, .ref (a 4), .int v_clock, .int v_coin, .int v_loan, .int v_matched, .int v_taxed, .int v_paidStages, .int v_grown, .int v_pledges, .int v_sums, .int v_stages, .int v_isStopped, .ref (a 5), .ref (a 6), .ref (a 7), .ref (a 8), .ref (a 9), .ref (a 10), .ref (a 11), .ref (a 12), .ref (a 13), .ref (a 14), .ref (a 15), .ref (a 16), .ref (a 17), .ref (a 18), .ref (a 19), .ref (a 20), .ref (a 21), .ref (a 22), .ref (a 23), .ref (a 24), .ref (a 25), .ref (a 26), .ref (a 27), .ref (a 28), .ref (a 29), .ref (a 30), .int v_begun, .ref (a 31), .ref (a 32)])), ((a 14), .inl ((d 14), 60, .inl f_dues)), ((a 20), .inl ((d 20), 5040, .inl f_isThere)), ((a 18), .inl ((d 18), 5040, .inl f_due)), ((a 19), .inl ((d 19), 5040, .inl f_filled))] [((d 10), .int), ((d 11), .int), ((d 16), .boolean), ((d 15), .int), ((d 14), .int), ((d 20), .boolean), ((d 12), .int), ((d 13), .int), ((d 19), .int), ((d 18), .int)] A s H locs := St
      exact cs_iret F hr hlk hQ St () (r := r_19) (by trivial) [6, 0, 1, 2, 3, 7, 8, 4, 5, 10, 9] rfl (by decide) [] rfl (by decide) (by decide) dX12_about_138
    by_cases w13_5 : x2 = 5
    ·
      subst w13_5
      refine lv_tableIn (tgt := 139) (off := 126) hx hb dX12_about_13 (by decide) (by decide) (by decide) (by decide) ?_
      refine lv_aload_n hx hb dX12_about_139 rfl (lv_at hl 1 rfl) ?_
      refine cs_get F St 10 rfl rfl inX12 35 (by decide) kf_X12_153 rfl dX12_about_140 ?_
      refine lv_iload_n hx hb dX12_about_143 rfl (lv_at hl 2 rfl) ?_
      refine cs_zld F St 2 2 rfl rfl (vp_in_iff.mpr ⟨by omega, by omega⟩) dX12_about_144 ?_
      refine lv_topi (fun y_21 ey_21 => ?_)
      refine lv_if_eq (tgt := 152) hx hb dX12_about_145 (by decide) (fun c145 => ?_) (fun c145 => ?_)
      ·
        have i145 := ci_eq (x := y_21) (y := 0) rfl (show (0 : Int32).toInt = 0 by decide) c145
        refine lv_iconst (v := 0) hx hb dX12_about_152 (by decide) ?_
        exact cs_iret F hr hlk hQ St () (r := 0) (by trivial) [10, 0, 1, 2, 3, 4, 5, 6, 7, 8, 9] rfl (by decide) [] rfl (by decide) (by decide) dX12_about_153
      ·
        have i145 := ci_ne (x := y_21) (y := 0) rfl (show (0 : Int32).toInt = 0 by decide) c145
        refine lv_iconst (v := 1) hx hb dX12_about_148 (by decide) ?_
        refine lv_goto (tgt := 153) hx hb dX12_about_149 (by decide) ?_
        exact cs_iret F hr hlk hQ St () (r := 1) (by trivial) [10, 0, 1, 2, 3, 4, 5, 6, 7, 8, 9] rfl (by decide) [] rfl (by decide) (by decide) dX12_about_153
    by_cases w13_6 : x2 = 6
    ·
      subst w13_6
      refine lv_tableIn (tgt := 154) (off := 141) hx hb dX12_about_13 (by decide) (by decide) (by decide) (by decide) ?_
      refine lv_aload_n hx hb dX12_about_154 rfl (lv_at hl 1 rfl) ?_
      refine cs_get F St 10 rfl rfl inX12 34 (by decide) kf_X12_150 rfl dX12_about_155 ?_
      refine lv_iload_n hx hb dX12_about_158 rfl (lv_at hl 2 rfl) ?_
      refine cs_ild F St 3 3 rfl rfl (vp_in_iff.mpr ⟨by omega, by omega⟩) dX12_about_159 ?_
      refine lv_topi (fun y_22 ey_22 => ?_)
      exact cs_iret F hr hlk hQ St () (r := y_22) (by trivial) [10, 0, 1, 2, 3, 4, 5, 6, 7, 8, 9] rfl (by decide) [] rfl (by decide) (by decide) dX12_about_160
    by_cases w13_7 : x2 = 7
    ·
      subst w13_7
      refine lv_tableIn (tgt := 161) (off := 148) hx hb dX12_about_13 (by decide) (by decide) (by decide) (by decide) ?_
      refine lv_iconst (v := 0) hx hb dX12_about_161 (by decide) ?_
      refine lv_istore (lv' := [(4, .int 0), (3, .int 0), (0, .ref h), (1, .int x1), (2, .int 7)]) hx hb dX12_about_162 hl (by decide) rfl (fun ls hl => ?_)
      have lp164 : ∀ (n : Nat) (kk : Int32) (H : Heap) (locs : List Loc) (ls : Array Slot), (0 ≤ kk.toInt ∧ kk.toInt ≤ 0 + 84) → ((6000 - kk.toInt).toNat) < n → cS G k [((a 10), .inl ((d 10), 60, .inl f_giver)), ((a 11), .inl ((d 11), 60, .inl f_pence)), ((a 16), .inl ((d 16), 60, .inl f_isLapsed)), ((a 15), .inl ((d 15), 60, .inl f_lapsedAt)), ((a 14), .inl ((d 14), 60, .inl f_dues)), ((a 20), .inl ((d 20), 5040, .inl f_isThere)), ((a 12), .inl ((d 12), 60, .inl f_first)), ((a 13), .inl ((d 13), 60, .inl f_every)), ((a 19), .inl ((d 19), 5040, .inl f_filled)), ((a 18), .inl ((d 18), 5040, .inl f_due)), (h, .inr (12, [.ref (a 0), .ref (a 1), .ref (a 2), .ref (a 3), .int v_taped, .int v_size, .int v_from, .int v_behind, .int v_hand, .int v_value, .int v_fault, .int v_faultAt, .ref (a 4), .int v_clock, .int v_coin, .int v_loan, .int v_matched, .int v_taxed, .int v_paidStages, .int v_grown, .int v_pledges, .int v_sums, .int v_stages, .int v_isStopped, .ref (a 5), .ref (a 6), .ref (a 7), .ref (a 8), .ref (a 9), .ref (a 10), .ref (a 11), .ref (a 12), .ref (a 13), .ref (a 14), .ref (a 15), .ref (a 16), .ref (a 17), .ref (a 18), .ref (a 19), .ref (a 20), .ref (a 21), .ref (a 22), .ref (a 23), .ref (a 24), .ref (a 25), .ref (a 26), .ref (a 27), .ref (a 28), .ref (a 29), .ref (a 30), .int v_begun, .ref (a 31), .ref (a 32)]))] [((d 10), .int), ((d 11), .int), ((d 16), .boolean), ((d 15), .int), ((d 14), .int), ((d 20), .boolean), ((d 12), .int), ((d 13), .int), ((d 19), .int), ((d 18), .int)] A s H locs → lv_has ls 5 [(4, .int kk), (3, .int 0), (0, .ref h), (1, .int x1), (2, .int 7)] → W p l e ({ frames := 2, cells := 0, slots := 0, locals := 46 } : Room) s m args below meth c H locs 0 0 Q (F0 m 164 ls []) := by
        intro n
        induction n with
        | zero => intro kk H locs ls hI hn; exact absurd hn (Nat.not_lt_zero _)
        | succ n ih =>
          intro kk H locs ls hI hn St hl
          obtain ⟨hI0, hI1⟩ := hI
          refine lv_iload hx hb dX12_about_164 (lv_at hl 0 rfl) ?_
          refine lv_aload_n hx hb dX12_about_166 rfl (lv_at hl 2 rfl) ?_
          refine cs_get F St 10 rfl rfl inX12 33 (by decide) kf_X12_147 rfl dX12_about_167 ?_
          refine lv_iload_n hx hb dX12_about_170 rfl (lv_at hl 3 rfl) ?_
          refine cs_ild F St 4 4 rfl rfl (vp_in_iff.mpr ⟨by omega, by omega⟩) dX12_about_171 ?_
          refine lv_topi (fun y_23 ey_23 => ?_)
          have hdy_23 := mPd_d hPd (by omega) (by omega) ey_23
          refine lv_icmp_ge (tgt := 227) hx hb dX12_about_172 (by decide) (fun c172 => ?_) (fun c172 => ?_)
          ·
            have i172 := ci_le (x := y_23) (y := kk) rfl rfl c172
            refine lv_iconst (v := (-1)) hx hb dX12_about_227 (by decide) ?_
            exact cs_iret F hr hlk hQ St () (r := (-1)) (by trivial) [10, 0, 1, 2, 3, 4, 5, 6, 7, 8, 9] rfl (by decide) [] rfl (by decide) (by decide) dX12_about_228
          ·
            have i172 := ci_nle (x := y_23) (y := kk) rfl rfl c172
            refine lv_aload_n hx hb dX12_about_175 rfl (lv_at hl 2 rfl) ?_
            refine cs_get F St 10 rfl rfl inX12 35 (by decide) kf_X12_153 rfl dX12_about_176 ?_
            refine lv_iload_n hx hb dX12_about_179 rfl (lv_at hl 3 rfl) ?_
            refine cs_zld F St 2 2 rfl rfl (vp_in_iff.mpr ⟨by omega, by omega⟩) dX12_about_180 ?_
            refine lv_topi (fun y_24 ey_24 => ?_)
            refine lv_if_ne (tgt := 227) hx hb dX12_about_181 (by decide) (fun c181 => ?_) (fun c181 => ?_)
            ·
              have i181 := ci_ne (x := y_24) (y := 0) rfl (show (0 : Int32).toInt = 0 by decide) c181
              refine lv_iconst (v := (-1)) hx hb dX12_about_227 (by decide) ?_
              exact cs_iret F hr hlk hQ St () (r := (-1)) (by trivial) [10, 0, 1, 2, 3, 4, 5, 6, 7, 8, 9] rfl (by decide) [] rfl (by decide) (by decide) dX12_about_228
            ·
              have i181 := ci_eq (x := y_24) (y := 0) rfl (show (0 : Int32).toInt = 0 by decide) c181
              refine lv_aload_n hx hb dX12_about_184 rfl (lv_at hl 2 rfl) ?_
              refine cs_get F St 10 rfl rfl inX12 39 (by decide) kf_X12_165 rfl dX12_about_185 ?_
              refine lv_bipush (v := 84) hx hb dX12_about_188 (by decide) ?_
              refine lv_iload_n hx hb dX12_about_190 rfl (lv_at hl 3 rfl) ?_
              refine lv_imul hx hb dX12_about_191 ?_
              refine lv_topi (fun y_25 ey_25 => ?_)
              first | have jy_25 : y_25.toInt = 84 * x1.toInt := (by have q9 := ci_mul (x := 84) (y := x1) (show (84 : Int32).toInt = 84 by decide) rfl ey_25; omega) | have jy_25 := ci_mul (x := 84) (y := x1) (show (84 : Int32).toInt = 84 by decide) rfl ey_25
              refine lv_iload hx hb dX12_about_192 (lv_at hl 0 rfl) ?_
              refine lv_iadd hx hb dX12_about_194 ?_
              refine lv_topi (fun y_26 ey_26 => ?_)
              first | have jy_26 : y_26.toInt = y_25.toInt + kk.toInt := (by have q9 := ci_add (x := y_25) (y := kk) rfl rfl ey_26; omega) | have jy_26 := ci_add (x := y_25) (y := kk) rfl rfl ey_26
              refine cs_zld F St 5 5 rfl rfl (vp_in_iff.mpr ⟨by omega, by omega⟩) dX12_about_195 ?_
              refine lv_topi (fun y_27 ey_27 => ?_)
              refine lv_if_eq (tgt := 221) hx hb dX12_about_196 (by decide) (fun c196 => ?_) (fun c196 => ?_)
              ·
                have i196 := ci_eq (x := y_27) (y := 0) rfl (show (0 : Int32).toInt = 0 by decide) c196
                obtain ⟨y_28, ey_28⟩ : ∃ zz : Int32, zz = kk + 1 := ⟨_, rfl⟩
                first | have jy_28 : y_28.toInt = kk.toInt + 1 := (by have q9 := ci_add (x := kk) rfl (show (1 : Int32).toInt = 1 by decide) ey_28; omega) | have jy_28 := ci_add (x := kk) rfl (show (1 : Int32).toInt = 1 by decide) ey_28
                refine lv_iinc (v := y_28) (lv' := [(4, .int y_28), (3, .int 0), (0, .ref h), (1, .int x1), (2, .int 7)]) hx hb dX12_about_221 hl (k := 0) rfl (by rw [ey_28]; rfl) (by decide) rfl (fun ls hl => ?_)
                refine lv_goto (tgt := 164) hx hb dX12_about_224 (by decide) ?_
                exact ih y_28 _ _ _ ⟨by omega, by omega⟩ (by omega) St (lv_sub hl [0, 1, 2, 3, 4] rfl)
              ·
                have i196 := ci_ne (x := y_27) (y := 0) rfl (show (0 : Int32).toInt = 0 by decide) c196
                refine lv_aload_n hx hb dX12_about_199 rfl (lv_at hl 2 rfl) ?_
                refine lv_iload_n hx hb dX12_about_200 rfl (lv_at hl 3 rfl) ?_
                refine lv_iload hx hb dX12_about_201 (lv_at hl 0 rfl) ?_
                refine cs_i St [10, 6, 7] [0, 1, 2, 3, 4, 5, 8, 9] (wc := [(h, .inr (12, [.ref (a 0), .ref (a 1), .ref (a 2), .ref (a 3), .int v_taped, .int v_size, .int v_from, .int v_behind, .int v_hand, .int v_value, .int v_fault, .int v_faultAt, .ref (a 4), .int v_clock, .int v_coin, .int v_loan, .int v_matched, .int v_taxed, .int v_paidStages, .int v_grown, .int v_pledges, .int v_sums, .int v_stages, .int v_isStopped, .ref (a 5), .ref (a 6), .ref (a 7), .ref (a 8), .ref (a 9), .ref (a 10), .ref (a 11), .ref (a 12), .ref (a 13), .ref (a 14), .ref (a 15), .ref (a 16), .ref (a 17), .ref (a 18), .ref (a 19), .ref (a 20), .ref (a 21), .ref (a 22), .ref (a 23), .ref (a 24), .ref (a 25), .ref (a 26), .ref (a 27), .ref (a 28), .ref (a 29), .ref (a 30), .int v_begun, .ref (a 31), .ref (a 32)])), ((a 12), .inl ((d 12), 60, .inl f_first)), ((a 13), .inl ((d 13), 60, .inl f_every))]) (wr := [((a 10), .inl ((d 10), 60, .inl f_giver)), ((a 11), .inl ((d 11), 60, .inl f_pence)), ((a 16), .inl ((d 16), 60, .inl f_isLapsed)), ((a 15), .inl ((d 15), 60, .inl f_lapsedAt)), ((a 14), .inl ((d 14), 60, .inl f_dues)), ((a 20), .inl ((d 20), 5040, .inl f_isThere)), ((a 19), .inl ((d 19), 5040, .inl f_filled)), ((a 18), .inl ((d 18), 5040, .inl f_due))]) rfl rfl (by decide) (by decide) (va_runV (As := [.int x1, .int kk]) (rest := []) F (m_monthOf l G k _ h a d v_taped v_size v_from v_behind v_hand v_value v_fault v_faultAt v_clock v_coin v_loan v_matched v_taxed v_paidStages v_grown v_pledges v_sums v_stages v_isStopped v_begun f_first f_every x1 kk (by omega) (by omega)) (cwVt F mf_X12_monthOf km_X12_240 rfl rfl ⟨Nat.le_of_ble_eq_true rfl, Nat.le_of_ble_eq_true rfl⟩) (cs_preV St [10, 6, 7] rfl (by decide) [6, 7] rfl (ci := 12) (q0 := 10) rfl rfl) rfl rfl hl.1 rfl (lv_room (Nat.le_of_ble_eq_true rfl)) dX12_about_203 ⟨Nat.le_of_ble_eq_true rfl, Nat.le_of_ble_eq_true rfl⟩) (fun r_29 u_30 H locs hw St => ?_)
                try dsimp only at hw
                have St : cS G k [((a 10), .inl ((d 10), 60, .inl f_giver)), ((a 11), .inl ((d 11), 60, .inl f_pence)), ((a 16), .inl ((d 16), 60, .inl f_isLapsed)), ((a 15), .inl ((d 15), 60, .inl f_lapsedAt)), ((a 14), .inl ((d 14), 60, .inl f_dues)), ((a 20), .inl ((d 20), 5040, .inl f_isThere)), ((a 19), .inl ((d 19), 5040, .inl f_filled)), ((a 18), .inl ((d 18), 5040, .inl f_due)), (h, .inr (12, [.ref (a 0), .ref (a 1), .ref (a 2), .ref (a 3), .int v_taped, .int v_size, .int v_from, .int v_behind, .int v_hand, .int v_value, .int v_fault, .int v_faultAt, .ref (a 4), .int v_clock, .int v_coin, .int v_loan, .int v_matched, .int v_taxed, .int v_paidStages, .int v_grown, .int v_pledges, .int v_sums, .int v_stages, .int v_isStopped, .ref (a 5), .ref (a 6), .ref (a 7), .ref (a 8), .ref (a 9), .ref (a 10), .ref (a 11), .ref (a 12), .ref (a 13), .ref (a 14), .ref (a 15), .ref (a 16), .ref (a 17), .ref (a 18), .ref (a 19), .ref (a 20), .ref (a 21), .ref (a 22), .ref (a 23), .ref (a 24), .ref (a 25), .ref (a 26), .ref (a 27), .ref (a 28), .ref (a 29), .ref (a 30), .int v_begun, .ref (a 31), .ref (a 32)])), ((a 12), .inl ((d 12), 60, .inl f_first)), ((a 13), .inl ((d 13), 60, .inl f_every))] [((d 10), .int), ((d 11), .int), ((d 16), .boolean), ((d 15), .int), ((d 14), .int), ((d 20), .boolean), ((d 12), .int), ((d 13), .int), ((d 19), .int), ((d 18), .int)] A s H locs := St
                refine lv_aload_n hx hb dX12_about_206 rfl (lv_at hl 2 rfl) ?_
                refine cs_get F St 8 rfl rfl inX12 13 (by decide) kf_X12_230 rfl dX12_about_207 ?_
                refine lv_icmp_le (tgt := 221) hx hb dX12_about_210 (by decide) (fun c210 => ?_) (fun c210 => ?_)
                ·
                  have i210 := ci_le (x := r_29) (y := v_clock) rfl rfl c210
                  obtain ⟨y_31, ey_31⟩ : ∃ zz : Int32, zz = kk + 1 := ⟨_, rfl⟩
                  first | have jy_31 : y_31.toInt = kk.toInt + 1 := (by have q9 := ci_add (x := kk) rfl (show (1 : Int32).toInt = 1 by decide) ey_31; omega) | have jy_31 := ci_add (x := kk) rfl (show (1 : Int32).toInt = 1 by decide) ey_31
                  refine lv_iinc (v := y_31) (lv' := [(4, .int y_31), (3, .int 0), (0, .ref h), (1, .int x1), (2, .int 7)]) hx hb dX12_about_221 hl (k := 0) rfl (by rw [ey_31]; rfl) (by decide) rfl (fun ls hl => ?_)
                  refine lv_goto (tgt := 164) hx hb dX12_about_224 (by decide) ?_
                  exact ih y_31 _ _ _ ⟨by omega, by omega⟩ (by omega) (cs_pick St [0, 1, 2, 3, 4, 5, 9, 10, 6, 7, 8] rfl (by decide) [0, 1, 2, 3, 4, 5, 6, 7, 8, 9] rfl) (lv_sub hl [0, 1, 2, 3, 4] rfl)
                ·
                  have i210 := ci_nle (x := r_29) (y := v_clock) rfl rfl c210
                  refine lv_aload_n hx hb dX12_about_213 rfl (lv_at hl 2 rfl) ?_
                  refine lv_iload_n hx hb dX12_about_214 rfl (lv_at hl 3 rfl) ?_
                  refine lv_iload hx hb dX12_about_215 (lv_at hl 0 rfl) ?_
                  refine cs_i St [8, 9, 10] [0, 1, 2, 3, 4, 5, 6, 7] (wc := [(h, .inr (12, [.ref (a 0), .ref (a 1), .ref (a 2), .ref (a 3), .int v_taped, .int v_size, .int v_from, .int v_behind, .int v_hand, .int v_value, .int v_fault, .int v_faultAt, .ref (a 4), .int v_clock, .int v_coin, .int v_loan, .int v_matched, .int v_taxed, .int v_paidStages, .int v_grown, .int v_pledges, .int v_sums, .int v_stages, .int v_isStopped, .ref (a 5), .ref (a 6), .ref (a 7), .ref (a 8), .ref (a 9), .ref (a 10), .ref (a 11), .ref (a 12), .ref (a 13), .ref (a 14), .ref (a 15), .ref (a 16), .ref (a 17), .ref (a 18), .ref (a 19), .ref (a 20), .ref (a 21), .ref (a 22), .ref (a 23), .ref (a 24), .ref (a 25), .ref (a 26), .ref (a 27), .ref (a 28), .ref (a 29), .ref (a 30), .int v_begun, .ref (a 31), .ref (a 32)])), ((a 12), .inl ((d 12), 60, .inl f_first)), ((a 13), .inl ((d 13), 60, .inl f_every))]) (wr := [((a 10), .inl ((d 10), 60, .inl f_giver)), ((a 11), .inl ((d 11), 60, .inl f_pence)), ((a 16), .inl ((d 16), 60, .inl f_isLapsed)), ((a 15), .inl ((d 15), 60, .inl f_lapsedAt)), ((a 14), .inl ((d 14), 60, .inl f_dues)), ((a 20), .inl ((d 20), 5040, .inl f_isThere)), ((a 19), .inl ((d 19), 5040, .inl f_filled)), ((a 18), .inl ((d 18), 5040, .inl f_due))]) rfl rfl (by decide) (by decide) (va_runV (As := [.int x1, .int kk]) (rest := []) F (m_monthOf l G k _ h a d v_taped v_size v_from v_behind v_hand v_value v_fault v_faultAt v_clock v_coin v_loan v_matched v_taxed v_paidStages v_grown v_pledges v_sums v_stages v_isStopped v_begun f_first f_every x1 kk (by omega) (by omega)) (cwVt F mf_X12_monthOf km_X12_240 rfl rfl ⟨Nat.le_of_ble_eq_true rfl, Nat.le_of_ble_eq_true rfl⟩) (cs_preV St [8, 9, 10] rfl (by decide) [6, 7] rfl (ci := 12) (q0 := 8) rfl rfl) rfl rfl hl.1 rfl (lv_room (Nat.le_of_ble_eq_true rfl)) dX12_about_217 ⟨Nat.le_of_ble_eq_true rfl, Nat.le_of_ble_eq_true rfl⟩) (fun r_32 u_33 H locs hw St => ?_)
                  try dsimp only at hw
                  have St : cS G k [((a 10), .inl ((d 10), 60, .inl f_giver)), ((a 11), .inl ((d 11), 60, .inl f_pence)), ((a 16), .inl ((d 16), 60, .inl f_isLapsed)), ((a 15), .inl ((d 15), 60, .inl f_lapsedAt)), ((a 14), .inl ((d 14), 60, .inl f_dues)), ((a 20), .inl ((d 20), 5040, .inl f_isThere)), ((a 19), .inl ((d 19), 5040, .inl f_filled)), ((a 18), .inl ((d 18), 5040, .inl f_due)), (h, .inr (12, [.ref (a 0), .ref (a 1), .ref (a 2), .ref (a 3), .int v_taped, .int v_size, .int v_from, .int v_behind, .int v_hand, .int v_value, .int v_fault, .int v_faultAt, .ref (a 4), .int v_clock, .int v_coin, .int v_loan, .int v_matched, .int v_taxed, .int v_paidStages, .int v_grown, .int v_pledges, .int v_sums, .int v_stages, .int v_isStopped, .ref (a 5), .ref (a 6), .ref (a 7), .ref (a 8), .ref (a 9), .ref (a 10), .ref (a 11), .ref (a 12), .ref (a 13), .ref (a 14), .ref (a 15), .ref (a 16), .ref (a 17), .ref (a 18), .ref (a 19), .ref (a 20), .ref (a 21), .ref (a 22), .ref (a 23), .ref (a 24), .ref (a 25), .ref (a 26), .ref (a 27), .ref (a 28), .ref (a 29), .ref (a 30), .int v_begun, .ref (a 31), .ref (a 32)])), ((a 12), .inl ((d 12), 60, .inl f_first)), ((a 13), .inl ((d 13), 60, .inl f_every))] [((d 10), .int), ((d 11), .int), ((d 16), .boolean), ((d 15), .int), ((d 14), .int), ((d 20), .boolean), ((d 12), .int), ((d 13), .int), ((d 19), .int), ((d 18), .int)] A s H locs := St
                  exact cs_iret F hr hlk hQ St () (r := r_32) (by trivial) [8, 0, 1, 2, 3, 4, 5, 9, 10, 6, 7] rfl (by decide) [] rfl (by decide) (by decide) dX12_about_220
      exact lp164 6001 0 _ _ _ ⟨by omega, by omega⟩ (by omega) St (lv_sub hl [0, 1, 2, 3, 4] rfl)
    have iw13_0 := lv_neT w13_0 (show (0 : Int32).toInt = 0 by decide)
    have iw13_1 := lv_neT w13_1 (show (1 : Int32).toInt = 1 by decide)
    have iw13_2 := lv_neT w13_2 (show (2 : Int32).toInt = 2 by decide)
    have iw13_3 := lv_neT w13_3 (show (3 : Int32).toInt = 3 by decide)
    have iw13_4 := lv_neT w13_4 (show (4 : Int32).toInt = 4 by decide)
    have iw13_5 := lv_neT w13_5 (show (5 : Int32).toInt = 5 by decide)
    have iw13_6 := lv_neT w13_6 (show (6 : Int32).toInt = 6 by decide)
    have iw13_7 := lv_neT w13_7 (show (7 : Int32).toInt = 7 by decide)
    refine lv_tableOut (tgt := 229) hx hb dX12_about_13 (by omega) (by decide) ?_
    refine lv_iconst (v := (-1)) hx hb dX12_about_229 (by decide) ?_
    exact cs_iret F hr hlk hQ St () (r := (-1)) (by trivial) [10, 0, 1, 2, 3, 4, 5, 6, 7, 8, 9] rfl (by decide) [] rfl (by decide) (by decide) dX12_about_230
  ·
    subst r_1
    have St : cS G k [((a 10), .inl ((d 10), 60, .inl f_giver)), ((a 11), .inl ((d 11), 60, .inl f_pence)), ((a 16), .inl ((d 16), 60, .inl f_isLapsed)), ((a 15), .inl ((d 15), 60, .inl f_lapsedAt)), ((a 14), .inl ((d 14), 60, .inl f_dues)), ((a 20), .inl ((d 20), 5040, .inl f_isThere)), ((a 12), .inl ((d 12), 60, .inl f_first)), ((a 13), .inl ((d 13), 60, .inl f_every)), ((a 19), .inl ((d 19), 5040, .inl f_filled)), ((a 18), .inl ((d 18), 5040, .inl f_due)), (h, .inr (12, [.ref (a 0), .ref (a 1), .ref (a 2), .ref (a 3), .int v_taped, .int v_size, .int v_from, .int v_behind, .int v_hand, .int v_value, .int v_fault, .int v_faultAt, .ref (a 4), .int v_clock, .int v_coin, .int v_loan, .int v_matched, .int v_taxed, .int v_paidStages, .int v_grown, .int v_pledges, .int v_sums, .int v_stages, .int v_isStopped, .ref (a 5), .ref (a 6), .ref (a 7), .ref (a 8), .ref (a 9), .ref (a 10), .ref (a 11), .ref (a 12), .ref (a 13), .ref (a 14), .ref (a 15), .ref (a 16), .ref (a 17), .ref (a 18), .ref (a 19), .ref (a 20), .ref (a 21), .ref (a 22), .ref (a 23), .ref (a 24), .ref (a 25), .ref (a 26), .ref (a 27), .ref (a 28), .ref (a 29), .ref (a 30), .int v_begun, .ref (a 31), .ref (a 32)]))] [((d 10), .int), ((d 11), .int), ((d 16), .boolean), ((d 15), .int), ((d 14), .int), ((d 20), .boolean), ((d 12), .int), ((d 13), .int), ((d 19), .int), ((d 18), .int)] A s H locs := St
    refine lv_if_ne (tgt := 10) hx hb dX12_about_5 (by decide) (fun c5 => ?_) (fun c5 => ?_)
    · exact absurd c5 (by decide)
    refine lv_iconst (v := (-1)) hx hb dX12_about_8 (by decide) ?_
    exact cs_iret F hr hlk hQ St () (r := (-1)) (by trivial) [10, 0, 1, 2, 3, 4, 5, 6, 7, 8, 9] rfl (by decide) [] rfl (by decide) (by decide) dX12_about_9
set_option maxHeartbeats 4000000 in
set_option maxRecDepth 100000 in
theorem m_giver (l : Launch) (G : va_G) (k : Nat → Nat) (sz : Nat) (h : Nat) (a : Nat → Nat) (d : Nat → ClassId) (v_taped : Int32) (v_size : Int32) (v_from : Int32) (v_behind : Int32) (v_hand : Int32) (v_value : Int32) (v_fault : Int32) (v_faultAt : Int32) (v_clock : Int32) (v_coin : Int32) (v_loan : Int32) (v_matched : Int32) (v_taxed : Int32) (v_paidStages : Int32) (v_grown : Int32) (v_pledges : Int32) (v_sums : Int32) (v_stages : Int32) (v_isStopped : Int32) (v_begun : Int32) (f_given : Nat → Int32) (f_sumGiver : Nat → Int32) (f_isClaimed : Nat → Int32) (f_sumPence : Nat → Int32) (f_declaredFrom : Nat → Int32) (f_declaredTo : Nat → Int32) (f_isNameless : Nat → Int32) (x1 : Int32) (x2 : Int32) (hSp : mSp v_sums f_sumPence) : Met l yX12_giver (Cond.code yX12_giver cX12_giver 5 (some .int) :: tb) ({ frames := 2, cells := 0, slots := 0, locals := 45 } : Room) (va_Pc [.ref h, .int x1, .int x2] (cP G k [(h, .inr (12, [.ref (a 0), .ref (a 1), .ref (a 2), .ref (a 3), .int v_taped, .int v_size, .int v_from, .int v_behind, .int v_hand, .int v_value, .int v_fault, .int v_faultAt, .ref (a 4), .int v_clock, .int v_coin, .int v_loan, .int v_matched, .int v_taxed, .int v_paidStages, .int v_grown, .int v_pledges, .int v_sums, .int v_stages, .int v_isStopped, .ref (a 5), .ref (a 6), .ref (a 7), .ref (a 8), .ref (a 9), .ref (a 10), .ref (a 11), .ref (a 12), .ref (a 13), .ref (a 14), .ref (a 15), .ref (a 16), .ref (a 17), .ref (a 18), .ref (a 19), .ref (a 20), .ref (a 21), .ref (a 22), .ref (a 23), .ref (a 24), .ref (a 25), .ref (a 26), .ref (a 27), .ref (a 28), .ref (a 29), .ref (a 30), .int v_begun, .ref (a 31), .ref (a 32)])), ((a 7), .inl ((d 7), 30, .inl f_given)), ((a 22), .inl ((d 22), 250, .inl f_sumGiver)), ((a 25), .inl ((d 25), 250, .inl f_isClaimed)), ((a 24), .inl ((d 24), 250, .inl f_sumPence)), ((a 5), .inl ((d 5), 30, .inl f_declaredFrom)), ((a 6), .inl ((d 6), 30, .inl f_declaredTo)), ((a 9), .inl ((d 9), 30, .inl f_isNameless))] [((d 7), .int), ((d 22), .int), ((d 25), .boolean), ((d 24), .int), ((d 5), .int), ((d 6), .int), ((d 9), .boolean)] sz)) (va_Qi (fun (r : Int32) (_ : Unit) => True) (cB G (fun (_ : Unit) => [(h, .inr (12, [.ref (a 0), .ref (a 1), .ref (a 2), .ref (a 3), .int v_taped, .int v_size, .int v_from, .int v_behind, .int v_hand, .int v_value, .int v_fault, .int v_faultAt, .ref (a 4), .int v_clock, .int v_coin, .int v_loan, .int v_matched, .int v_taxed, .int v_paidStages, .int v_grown, .int v_pledges, .int v_sums, .int v_stages, .int v_isStopped, .ref (a 5), .ref (a 6), .ref (a 7), .ref (a 8), .ref (a 9), .ref (a 10), .ref (a 11), .ref (a 12), .ref (a 13), .ref (a 14), .ref (a 15), .ref (a 16), .ref (a 17), .ref (a 18), .ref (a 19), .ref (a 20), .ref (a 21), .ref (a 22), .ref (a 23), .ref (a 24), .ref (a 25), .ref (a 26), .ref (a 27), .ref (a 28), .ref (a 29), .ref (a 30), .int v_begun, .ref (a 31), .ref (a 32)])), ((a 7), .inl ((d 7), 30, .inl f_given)), ((a 22), .inl ((d 22), 250, .inl f_sumGiver)), ((a 25), .inl ((d 25), 250, .inl f_isClaimed)), ((a 24), .inl ((d 24), 250, .inl f_sumPence)), ((a 5), .inl ((d 5), 30, .inl f_declaredFrom)), ((a 6), .inl ((d 6), 30, .inl f_declaredTo)), ((a 9), .inl ((d 9), 30, .inl f_isNameless))]) (fun (_ : Unit) => []) (va_A [(h, .inr (12, [.ref (a 0), .ref (a 1), .ref (a 2), .ref (a 3), .int v_taped, .int v_size, .int v_from, .int v_behind, .int v_hand, .int v_value, .int v_fault, .int v_faultAt, .ref (a 4), .int v_clock, .int v_coin, .int v_loan, .int v_matched, .int v_taxed, .int v_paidStages, .int v_grown, .int v_pledges, .int v_sums, .int v_stages, .int v_isStopped, .ref (a 5), .ref (a 6), .ref (a 7), .ref (a 8), .ref (a 9), .ref (a 10), .ref (a 11), .ref (a 12), .ref (a 13), .ref (a 14), .ref (a 15), .ref (a 16), .ref (a 17), .ref (a 18), .ref (a 19), .ref (a 20), .ref (a 21), .ref (a 22), .ref (a 23), .ref (a 24), .ref (a 25), .ref (a 26), .ref (a 27), .ref (a 28), .ref (a 29), .ref (a 30), .int v_begun, .ref (a 31), .ref (a 32)])), ((a 7), .inl ((d 7), 30, .inl f_given)), ((a 22), .inl ((d 22), 250, .inl f_sumGiver)), ((a 25), .inl ((d 25), 250, .inl f_isClaimed)), ((a 24), .inl ((d 24), 250, .inl f_sumPence)), ((a 5), .inl ((d 5), 30, .inl f_declaredFrom)), ((a 6), .inl ((d 6), 30, .inl f_declaredTo)), ((a 9), .inl ((d 9), 30, .inl f_isNameless))] sz)) (va_A [(h, .inr (12, [.ref (a 0), .ref (a 1), .ref (a 2), .ref (a 3), .int v_taped, .int v_size, .int v_from, .int v_behind, .int v_hand, .int v_value, .int v_fault, .int v_faultAt, .ref (a 4), .int v_clock, .int v_coin, .int v_loan, .int v_matched, .int v_taxed, .int v_paidStages, .int v_grown, .int v_pledges, .int v_sums, .int v_stages, .int v_isStopped, .ref (a 5), .ref (a 6), .ref (a 7), .ref (a 8), .ref (a 9), .ref (a 10), .ref (a 11), .ref (a 12), .ref (a 13), .ref (a 14), .ref (a 15), .ref (a 16), .ref (a 17), .ref (a 18), .ref (a 19), .ref (a 20), .ref (a 21), .ref (a 22), .ref (a 23), .ref (a 24), .ref (a 25), .ref (a 26), .ref (a 27), .ref (a 28), .ref (a 29), .ref (a 30), .int v_begun, .ref (a 31), .ref (a 32)])), ((a 7), .inl ((d 7), 30, .inl f_given)), ((a 22), .inl ((d 22), 250, .inl f_sumGiver)), ((a 25), .inl ((d 25), 250, .inl f_isClaimed)), ((a 24), .inl ((d 24), 250, .inl f_sumPence)), ((a 5), .inl ((d 5), 30, .inl f_declaredFrom)), ((a 6), .inl ((d 6), 30, .inl f_declaredTo)), ((a 9), .inl ((d 9), 30, .inl f_isNameless))] sz)) 0 0 (va_A [(h, .inr (12, [.ref (a 0), .ref (a 1), .ref (a 2), .ref (a 3), .int v_taped, .int v_size, .int v_from, .int v_behind, .int v_hand, .int v_value, .int v_fault, .int v_faultAt, .ref (a 4), .int v_clock, .int v_coin, .int v_loan, .int v_matched, .int v_taxed, .int v_paidStages, .int v_grown, .int v_pledges, .int v_sums, .int v_stages, .int v_isStopped, .ref (a 5), .ref (a 6), .ref (a 7), .ref (a 8), .ref (a 9), .ref (a 10), .ref (a 11), .ref (a 12), .ref (a 13), .ref (a 14), .ref (a 15), .ref (a 16), .ref (a 17), .ref (a 18), .ref (a 19), .ref (a 20), .ref (a 21), .ref (a 22), .ref (a 23), .ref (a 24), .ref (a 25), .ref (a 26), .ref (a 27), .ref (a 28), .ref (a 29), .ref (a 30), .int v_begun, .ref (a 31), .ref (a 32)])), ((a 7), .inl ((d 7), 30, .inl f_given)), ((a 22), .inl ((d 22), 250, .inl f_sumGiver)), ((a 25), .inl ((d 25), 250, .inl f_isClaimed)), ((a 24), .inl ((d 24), 250, .inl f_sumPence)), ((a 5), .inl ((d 5), 30, .inl f_declaredFrom)), ((a 6), .inl ((d 6), 30, .inl f_declaredTo)), ((a 9), .inl ((d 9), 30, .inl f_isNameless))] sz) := by
  refine ofC_i (cc := cX12_giver) (maxL := 5) (ret := (some .int)) (by decide) rfl (Nat.le_of_ble_eq_true rfl) ?_
  intro p e s m args below meth c A ls Q F hr hin hlk St hl hQ
  have hx := F.1
  have hb := F.2.1
  have hl : lv_has ls 5 [(0, .ref h), (1, .int x1), (2, .int x2)] := hl
  have St : cS G k [(h, .inr (12, [.ref (a 0), .ref (a 1), .ref (a 2), .ref (a 3), .int v_taped, .int v_size, .int v_from, .int v_behind, .int v_hand, .int v_value, .int v_fault, .int v_faultAt, .ref (a 4), .int v_clock, .int v_coin, .int v_loan, .int v_matched, .int v_taxed, .int v_paidStages, .int v_grown, .int v_pledges, .int v_sums, .int v_stages, .int v_isStopped, .ref (a 5), .ref (a 6), .ref (a 7), .ref (a 8), .ref (a 9), .ref (a 10), .ref (a 11), .ref (a 12), .ref (a 13), .ref (a 14), .ref (a 15), .ref (a 16), .ref (a 17), .ref (a 18), .ref (a 19), .ref (a 20), .ref (a 21), .ref (a 22), .ref (a 23), .ref (a 24), .ref (a 25), .ref (a 26), .ref (a 27), .ref (a 28), .ref (a 29), .ref (a 30), .int v_begun, .ref (a 31), .ref (a 32)])), ((a 7), .inl ((d 7), 30, .inl f_given)), ((a 22), .inl ((d 22), 250, .inl f_sumGiver)), ((a 25), .inl ((d 25), 250, .inl f_isClaimed)), ((a 24), .inl ((d 24), 250, .inl f_sumPence)), ((a 5), .inl ((d 5), 30, .inl f_declaredFrom)), ((a 6), .inl ((d 6), 30, .inl f_declaredTo)), ((a 9), .inl ((d 9), 30, .inl f_isNameless))] [((d 7), .int), ((d 22), .int), ((d 25), .boolean), ((d 24), .int), ((d 5), .int), ((d 6), .int), ((d 9), .boolean)] A s s.heap [] := St
  have hsd := hSp.1
  have y0 : (0 : Int32).toInt = 0 := by decide
  refine lv_iload_n hx hb dX12_giver_0 rfl (lv_at hl 1 rfl) ?_
  refine cs_i St [] [0, 1, 2, 3, 4, 5, 6, 7] (wc := []) (wr := [(h, .inr (12, [.ref (a 0), .ref (a 1), .ref (a 2), .ref (a 3), .int v_taped, .int v_size, .int v_from, .int v_behind, .int v_hand, .int v_value, .int v_fault, .int v_faultAt, .ref (a 4), .int v_clock, .int v_coin, .int v_loan, .int v_matched, .int v_taxed, .int v_paidStages, .int v_grown, .int v_pledges, .int v_sums, .int v_stages, .int v_isStopped, .ref (a 5), .ref (a 6), .ref (a 7), .ref (a 8), .ref (a 9), .ref (a 10), .ref (a 11), .ref (a 12), .ref (a 13), .ref (a 14), .ref (a 15), .ref (a 16), .ref (a 17), .ref (a 18), .ref (a 19), .ref (a 20), .ref (a 21), .ref (a 22), .ref (a 23), .ref (a 24), .ref (a 25), .ref (a 26), .ref (a 27), .ref (a 28), .ref (a 29), .ref (a 30), .int v_begun, .ref (a 31), .ref (a 32)])), ((a 7), .inl ((d 7), 30, .inl f_given)), ((a 22), .inl ((d 22), 250, .inl f_sumGiver)), ((a 25), .inl ((d 25), 250, .inl f_isClaimed)), ((a 24), .inl ((d 24), 250, .inl f_sumPence)), ((a 5), .inl ((d 5), 30, .inl f_declaredFrom)), ((a 6), .inl ((d 6), 30, .inl f_declaredTo)), ((a 9), .inl ((d 9), 30, .inl f_isNameless))]) rfl rfl (by decide) (by decide) (va_runS (As := [.int x1]) (rest := []) F (c12_isGiver l G k _ x1) (cwSt F mf_X12_isGiver km_X12_218 rfl rfl ⟨Nat.le_of_ble_eq_true rfl, Nat.le_of_ble_eq_true rfl⟩) (cs_pre St [] rfl (by decide) [] rfl) rfl rfl hl.1 rfl (lv_room (Nat.le_of_ble_eq_true rfl)) dX12_giver_1 ⟨Nat.le_of_ble_eq_true rfl, Nat.le_of_ble_eq_true rfl⟩) (fun r_1 u_2 H locs hw St => ?_)
  try dsimp only at hw
  rcases hw with ⟨z_3, hf_4⟩ | ⟨z_5, hf_6⟩
  ·
    subst r_1
    have St : cS G k [(h, .inr (12, [.ref (a 0), .ref (a 1), .ref (a 2), .ref (a 3), .int v_taped, .int v_size, .int v_from, .int v_behind, .int v_hand, .int v_value, .int v_fault, .int v_faultAt, .ref (a 4), .int v_clock, .int v_coin, .int v_loan, .int v_matched, .int v_taxed, .int v_paidStages, .int v_grown, .int v_pledges, .int v_sums, .int v_stages, .int v_isStopped, .ref (a 5), .ref (a 6), .ref (a 7), .ref (a 8), .ref (a 9), .ref (a 10), .ref (a 11), .ref (a 12), .ref (a 13), .ref (a 14), .ref (a 15), .ref (a 16), .ref (a 17), .ref (a 18), .ref (a 19), .ref (a 20), .ref (a 21), .ref (a 22), .ref (a 23), .ref (a 24), .ref (a 25), .ref (a 26), .ref (a 27), .ref (a 28), .ref (a 29), .ref (a 30), .int v_begun, .ref (a 31), .ref (a 32)])), ((a 7), .inl ((d 7), 30, .inl f_given)), ((a 22), .inl ((d 22), 250, .inl f_sumGiver)), ((a 25), .inl ((d 25), 250, .inl f_isClaimed)), ((a 24), .inl ((d 24), 250, .inl f_sumPence)), ((a 5), .inl ((d 5), 30, .inl f_declaredFrom)), ((a 6), .inl ((d 6), 30, .inl f_declaredTo)), ((a 9), .inl ((d 9), 30, .inl f_isNameless))] [((d 7), .int), ((d 22), .int), ((d 25), .boolean), ((d 24), .int), ((d 5), .int), ((d 6), .int), ((d 9), .boolean)] A s H locs := St
    refine lv_if_ne (tgt := 10) hx hb dX12_giver_4 (by decide) (fun c4 => ?_) (fun c4 => ?_)
    rotate_left
    · exact absurd c4 (by decide)
    refine lv_iload_n hx hb dX12_giver_10 rfl (lv_at hl 2 rfl) ?_
    by_cases w11_0 : x2 = 0
    ·
      subst w11_0
      refine lv_tableIn (tgt := 44) (off := 33) hx hb dX12_giver_11 (by decide) (by decide) (by decide) (by decide) ?_
      refine lv_aload_n hx hb dX12_giver_44 rfl (lv_at hl 0 rfl) ?_
      refine cs_get F St 0 rfl rfl inX12 26 (by decide) kf_X12_126 rfl dX12_giver_45 ?_
      refine lv_iload_n hx hb dX12_giver_48 rfl (lv_at hl 1 rfl) ?_
      refine cs_ild F St 1 0 rfl rfl (vp_in_iff.mpr ⟨by omega, by omega⟩) dX12_giver_49 ?_
      refine lv_topi (fun y_7 ey_7 => ?_)
      exact cs_iret F hr hlk hQ St () (r := y_7) (by trivial) [0, 1, 2, 3, 4, 5, 6, 7] rfl (by decide) [] rfl (by decide) (by decide) dX12_giver_50
    by_cases w11_1 : x2 = 1
    ·
      subst w11_1
      refine lv_tableIn (tgt := 51) (off := 40) hx hb dX12_giver_11 (by decide) (by decide) (by decide) (by decide) ?_
      refine lv_iconst (v := 0) hx hb dX12_giver_51 (by decide) ?_
      refine lv_istore_n (lv' := [(3, .int 0), (0, .ref h), (1, .int x1), (2, .int 1)]) hx hb dX12_giver_52 rfl hl (by decide) rfl (fun ls hl => ?_)
      refine lv_iconst (v := 0) hx hb dX12_giver_53 (by decide) ?_
      refine lv_istore (lv' := [(4, .int 0), (3, .int 0), (0, .ref h), (1, .int x1), (2, .int 1)]) hx hb dX12_giver_54 hl (by decide) rfl (fun ls hl => ?_)
      have lp56 : ∀ (n : Nat) (kk : Int32) (nn : Int32) (H : Heap) (locs : List Loc) (ls : Array Slot), (0 ≤ kk.toInt ∧ kk.toInt ≤ v_sums.toInt) → ((250 - kk.toInt).toNat) < n → cS G k [(h, .inr (12, [.ref (a 0), .ref (a 1), .ref (a 2), .ref (a 3), .int v_taped, .int v_size, .int v_from, .int v_behind, .int v_hand, .int v_value, .int v_fault, .int v_faultAt, .ref (a 4), .int v_clock, .int v_coin, .int v_loan, .int v_matched, .int v_taxed, .int v_paidStages, .int v_grown, .int v_pledges, .int v_sums, .int v_stages, .int v_isStopped, .ref (a 5), .ref (a 6), .ref (a 7), .ref (a 8), .ref (a 9), .ref (a 10), .ref (a 11), .ref (a 12), .ref (a 13), .ref (a 14), .ref (a 15), .ref (a 16), .ref (a 17), .ref (a 18), .ref (a 19), .ref (a 20), .ref (a 21), .ref (a 22), .ref (a 23), .ref (a 24), .ref (a 25), .ref (a 26), .ref (a 27), .ref (a 28), .ref (a 29), .ref (a 30), .int v_begun, .ref (a 31), .ref (a 32)])), ((a 7), .inl ((d 7), 30, .inl f_given)), ((a 22), .inl ((d 22), 250, .inl f_sumGiver)), ((a 25), .inl ((d 25), 250, .inl f_isClaimed)), ((a 24), .inl ((d 24), 250, .inl f_sumPence)), ((a 5), .inl ((d 5), 30, .inl f_declaredFrom)), ((a 6), .inl ((d 6), 30, .inl f_declaredTo)), ((a 9), .inl ((d 9), 30, .inl f_isNameless))] [((d 7), .int), ((d 22), .int), ((d 25), .boolean), ((d 24), .int), ((d 5), .int), ((d 6), .int), ((d 9), .boolean)] A s H locs → lv_has ls 5 [(4, .int kk), (3, .int nn), (0, .ref h), (1, .int x1), (2, .int 1)] → W p l e ({ frames := 2, cells := 0, slots := 0, locals := 45 } : Room) s m args below meth c H locs 0 0 Q (F0 m 56 ls []) := by
        intro n
        induction n with
        | zero => intro kk nn H locs ls hI hn; exact absurd hn (Nat.not_lt_zero _)
        | succ n ih =>
          intro kk nn H locs ls hI hn St hl
          obtain ⟨hI0, hI1⟩ := hI
          refine lv_iload hx hb dX12_giver_56 (lv_at hl 0 rfl) ?_
          refine lv_aload_n hx hb dX12_giver_58 rfl (lv_at hl 2 rfl) ?_
          refine cs_get F St 0 rfl rfl inX12 21 (by decide) kf_X12_246 rfl dX12_giver_59 ?_
          refine lv_icmp_ge (tgt := 106) hx hb dX12_giver_62 (by decide) (fun c62 => ?_) (fun c62 => ?_)
          ·
            have i62 := ci_le (x := v_sums) (y := kk) rfl rfl c62
            refine lv_iload_n hx hb dX12_giver_106 rfl (lv_at hl 1 rfl) ?_
            exact cs_iret F hr hlk hQ St () (r := nn) (by trivial) [0, 1, 2, 3, 4, 5, 6, 7] rfl (by decide) [] rfl (by decide) (by decide) dX12_giver_107
          ·
            have i62 := ci_nle (x := v_sums) (y := kk) rfl rfl c62
            refine lv_iload_n hx hb dX12_giver_65 rfl (lv_at hl 1 rfl) ?_
            refine lv_aload_n hx hb dX12_giver_66 rfl (lv_at hl 2 rfl) ?_
            refine cs_get F St 0 rfl rfl inX12 41 (by decide) kf_X12_171 rfl dX12_giver_67 ?_
            refine lv_iload hx hb dX12_giver_70 (lv_at hl 0 rfl) ?_
            refine cs_ild F St 2 1 rfl rfl (vp_in_iff.mpr ⟨by omega, by omega⟩) dX12_giver_72 ?_
            refine lv_topi (fun y_8 ey_8 => ?_)
            refine lv_iload_n hx hb dX12_giver_73 rfl (lv_at hl 3 rfl) ?_
            refine lv_icmp_ne (tgt := 97) hx hb dX12_giver_74 (by decide) (fun c74 => ?_) (fun c74 => ?_)
            ·
              have i74 := ci_ne (x := y_8) (y := x1) rfl rfl c74
              refine lv_iconst (v := 0) hx hb dX12_giver_97 (by decide) ?_
              refine lv_iadd hx hb dX12_giver_98 ?_
              refine lv_topi (fun y_9 ey_9 => ?_)
              first | have jy_9 : y_9.toInt = nn.toInt + 0 := (by have q9 := ci_add (x := nn) (y := 0) rfl (show (0 : Int32).toInt = 0 by decide) ey_9; omega) | have jy_9 := ci_add (x := nn) (y := 0) rfl (show (0 : Int32).toInt = 0 by decide) ey_9
              refine lv_istore_n (lv' := [(3, .int y_9), (4, .int kk), (0, .ref h), (1, .int x1), (2, .int 1)]) hx hb dX12_giver_99 rfl hl (by decide) rfl (fun ls hl => ?_)
              obtain ⟨y_10, ey_10⟩ : ∃ zz : Int32, zz = kk + 1 := ⟨_, rfl⟩
              first | have jy_10 : y_10.toInt = kk.toInt + 1 := (by have q9 := ci_add (x := kk) rfl (show (1 : Int32).toInt = 1 by decide) ey_10; omega) | have jy_10 := ci_add (x := kk) rfl (show (1 : Int32).toInt = 1 by decide) ey_10
              refine lv_iinc (v := y_10) (lv' := [(4, .int y_10), (3, .int y_9), (0, .ref h), (1, .int x1), (2, .int 1)]) hx hb dX12_giver_100 hl (k := 1) rfl (by rw [ey_10]; rfl) (by decide) rfl (fun ls hl => ?_)
              refine lv_goto (tgt := 56) hx hb dX12_giver_103 (by decide) ?_
              exact ih y_10 y_9 _ _ _ ⟨by omega, by omega⟩ (by omega) St (lv_sub hl [0, 1, 2, 3, 4] rfl)
            ·
              have i74 := ci_eq (x := y_8) (y := x1) rfl rfl c74
              refine lv_aload_n hx hb dX12_giver_77 rfl (lv_at hl 2 rfl) ?_
              refine cs_get F St 0 rfl rfl inX12 44 (by decide) kf_X12_180 rfl dX12_giver_78 ?_
              refine lv_iload hx hb dX12_giver_81 (lv_at hl 0 rfl) ?_
              refine cs_zld F St 3 2 rfl rfl (vp_in_iff.mpr ⟨by omega, by omega⟩) dX12_giver_83 ?_
              refine lv_topi (fun y_11 ey_11 => ?_)
              refine lv_if_ne (tgt := 97) hx hb dX12_giver_84 (by decide) (fun c84 => ?_) (fun c84 => ?_)
              ·
                have i84 := ci_ne (x := y_11) (y := 0) rfl (show (0 : Int32).toInt = 0 by decide) c84
                refine lv_iconst (v := 0) hx hb dX12_giver_97 (by decide) ?_
                refine lv_iadd hx hb dX12_giver_98 ?_
                refine lv_topi (fun y_12 ey_12 => ?_)
                first | have jy_12 : y_12.toInt = nn.toInt + 0 := (by have q9 := ci_add (x := nn) (y := 0) rfl (show (0 : Int32).toInt = 0 by decide) ey_12; omega) | have jy_12 := ci_add (x := nn) (y := 0) rfl (show (0 : Int32).toInt = 0 by decide) ey_12
                refine lv_istore_n (lv' := [(3, .int y_12), (4, .int kk), (0, .ref h), (1, .int x1), (2, .int 1)]) hx hb dX12_giver_99 rfl hl (by decide) rfl (fun ls hl => ?_)
                obtain ⟨y_13, ey_13⟩ : ∃ zz : Int32, zz = kk + 1 := ⟨_, rfl⟩
                first | have jy_13 : y_13.toInt = kk.toInt + 1 := (by have q9 := ci_add (x := kk) rfl (show (1 : Int32).toInt = 1 by decide) ey_13; omega) | have jy_13 := ci_add (x := kk) rfl (show (1 : Int32).toInt = 1 by decide) ey_13
                refine lv_iinc (v := y_13) (lv' := [(4, .int y_13), (3, .int y_12), (0, .ref h), (1, .int x1), (2, .int 1)]) hx hb dX12_giver_100 hl (k := 1) rfl (by rw [ey_13]; rfl) (by decide) rfl (fun ls hl => ?_)
                refine lv_goto (tgt := 56) hx hb dX12_giver_103 (by decide) ?_
                exact ih y_13 y_12 _ _ _ ⟨by omega, by omega⟩ (by omega) St (lv_sub hl [0, 1, 2, 3, 4] rfl)
              ·
                have i84 := ci_eq (x := y_11) (y := 0) rfl (show (0 : Int32).toInt = 0 by decide) c84
                refine lv_aload_n hx hb dX12_giver_87 rfl (lv_at hl 2 rfl) ?_
                refine cs_get F St 0 rfl rfl inX12 43 (by decide) kf_X12_177 rfl dX12_giver_88 ?_
                refine lv_iload hx hb dX12_giver_91 (lv_at hl 0 rfl) ?_
                refine cs_ild F St 4 3 rfl rfl (vp_in_iff.mpr ⟨by omega, by omega⟩) dX12_giver_93 ?_
                refine lv_topi (fun y_14 ey_14 => ?_)
                have hdy_14 := mSp_p hSp (by omega) (by omega) ey_14
                refine lv_goto (tgt := 98) hx hb dX12_giver_94 (by decide) ?_
                refine lv_iadd hx hb dX12_giver_98 ?_
                refine lv_topi (fun y_15 ey_15 => ?_)
                first | have jy_15 : y_15.toInt = nn.toInt + y_14.toInt := (by have q9 := ci_add (x := nn) (y := y_14) rfl rfl ey_15; omega) | have jy_15 := ci_add (x := nn) (y := y_14) rfl rfl ey_15
                refine lv_istore_n (lv' := [(3, .int y_15), (4, .int kk), (0, .ref h), (1, .int x1), (2, .int 1)]) hx hb dX12_giver_99 rfl hl (by decide) rfl (fun ls hl => ?_)
                obtain ⟨y_16, ey_16⟩ : ∃ zz : Int32, zz = kk + 1 := ⟨_, rfl⟩
                first | have jy_16 : y_16.toInt = kk.toInt + 1 := (by have q9 := ci_add (x := kk) rfl (show (1 : Int32).toInt = 1 by decide) ey_16; omega) | have jy_16 := ci_add (x := kk) rfl (show (1 : Int32).toInt = 1 by decide) ey_16
                refine lv_iinc (v := y_16) (lv' := [(4, .int y_16), (3, .int y_15), (0, .ref h), (1, .int x1), (2, .int 1)]) hx hb dX12_giver_100 hl (k := 1) rfl (by rw [ey_16]; rfl) (by decide) rfl (fun ls hl => ?_)
                refine lv_goto (tgt := 56) hx hb dX12_giver_103 (by decide) ?_
                exact ih y_16 y_15 _ _ _ ⟨by omega, by omega⟩ (by omega) St (lv_sub hl [0, 1, 2, 3, 4] rfl)
      exact lp56 251 0 0 _ _ _ ⟨by omega, by omega⟩ (by omega) St (lv_sub hl [0, 1, 2, 3, 4] rfl)
    by_cases w11_2 : x2 = 2
    ·
      subst w11_2
      refine lv_tableIn (tgt := 108) (off := 97) hx hb dX12_giver_11 (by decide) (by decide) (by decide) (by decide) ?_
      refine lv_aload_n hx hb dX12_giver_108 rfl (lv_at hl 0 rfl) ?_
      refine cs_get F St 0 rfl rfl inX12 24 (by decide) kf_X12_120 rfl dX12_giver_109 ?_
      refine lv_iload_n hx hb dX12_giver_112 rfl (lv_at hl 1 rfl) ?_
      refine cs_ild F St 5 4 rfl rfl (vp_in_iff.mpr ⟨by omega, by omega⟩) dX12_giver_113 ?_
      refine lv_topi (fun y_17 ey_17 => ?_)
      exact cs_iret F hr hlk hQ St () (r := y_17) (by trivial) [0, 1, 2, 3, 4, 5, 6, 7] rfl (by decide) [] rfl (by decide) (by decide) dX12_giver_114
    by_cases w11_3 : x2 = 3
    ·
      subst w11_3
      refine lv_tableIn (tgt := 115) (off := 104) hx hb dX12_giver_11 (by decide) (by decide) (by decide) (by decide) ?_
      refine lv_aload_n hx hb dX12_giver_115 rfl (lv_at hl 0 rfl) ?_
      refine cs_get F St 0 rfl rfl inX12 25 (by decide) kf_X12_123 rfl dX12_giver_116 ?_
      refine lv_iload_n hx hb dX12_giver_119 rfl (lv_at hl 1 rfl) ?_
      refine cs_ild F St 6 5 rfl rfl (vp_in_iff.mpr ⟨by omega, by omega⟩) dX12_giver_120 ?_
      refine lv_topi (fun y_18 ey_18 => ?_)
      exact cs_iret F hr hlk hQ St () (r := y_18) (by trivial) [0, 1, 2, 3, 4, 5, 6, 7] rfl (by decide) [] rfl (by decide) (by decide) dX12_giver_121
    by_cases w11_4 : x2 = 4
    ·
      subst w11_4
      refine lv_tableIn (tgt := 122) (off := 111) hx hb dX12_giver_11 (by decide) (by decide) (by decide) (by decide) ?_
      refine lv_aload_n hx hb dX12_giver_122 rfl (lv_at hl 0 rfl) ?_
      refine cs_get F St 0 rfl rfl inX12 28 (by decide) kf_X12_132 rfl dX12_giver_123 ?_
      refine lv_iload_n hx hb dX12_giver_126 rfl (lv_at hl 1 rfl) ?_
      refine cs_zld F St 7 6 rfl rfl (vp_in_iff.mpr ⟨by omega, by omega⟩) dX12_giver_127 ?_
      refine lv_topi (fun y_19 ey_19 => ?_)
      refine lv_if_eq (tgt := 135) hx hb dX12_giver_128 (by decide) (fun c128 => ?_) (fun c128 => ?_)
      ·
        have i128 := ci_eq (x := y_19) (y := 0) rfl (show (0 : Int32).toInt = 0 by decide) c128
        refine lv_iconst (v := 0) hx hb dX12_giver_135 (by decide) ?_
        exact cs_iret F hr hlk hQ St () (r := 0) (by trivial) [0, 1, 2, 3, 4, 5, 6, 7] rfl (by decide) [] rfl (by decide) (by decide) dX12_giver_136
      ·
        have i128 := ci_ne (x := y_19) (y := 0) rfl (show (0 : Int32).toInt = 0 by decide) c128
        refine lv_iconst (v := 1) hx hb dX12_giver_131 (by decide) ?_
        refine lv_goto (tgt := 136) hx hb dX12_giver_132 (by decide) ?_
        exact cs_iret F hr hlk hQ St () (r := 1) (by trivial) [0, 1, 2, 3, 4, 5, 6, 7] rfl (by decide) [] rfl (by decide) (by decide) dX12_giver_136
    have iw11_0 := lv_neT w11_0 (show (0 : Int32).toInt = 0 by decide)
    have iw11_1 := lv_neT w11_1 (show (1 : Int32).toInt = 1 by decide)
    have iw11_2 := lv_neT w11_2 (show (2 : Int32).toInt = 2 by decide)
    have iw11_3 := lv_neT w11_3 (show (3 : Int32).toInt = 3 by decide)
    have iw11_4 := lv_neT w11_4 (show (4 : Int32).toInt = 4 by decide)
    refine lv_tableOut (tgt := 137) hx hb dX12_giver_11 (by omega) (by decide) ?_
    refine lv_bipush (v := (-2)) hx hb dX12_giver_137 (by decide) ?_
    exact cs_iret F hr hlk hQ St () (r := (-2)) (by trivial) [0, 1, 2, 3, 4, 5, 6, 7] rfl (by decide) [] rfl (by decide) (by decide) dX12_giver_139
  ·
    subst r_1
    have St : cS G k [(h, .inr (12, [.ref (a 0), .ref (a 1), .ref (a 2), .ref (a 3), .int v_taped, .int v_size, .int v_from, .int v_behind, .int v_hand, .int v_value, .int v_fault, .int v_faultAt, .ref (a 4), .int v_clock, .int v_coin, .int v_loan, .int v_matched, .int v_taxed, .int v_paidStages, .int v_grown, .int v_pledges, .int v_sums, .int v_stages, .int v_isStopped, .ref (a 5), .ref (a 6), .ref (a 7), .ref (a 8), .ref (a 9), .ref (a 10), .ref (a 11), .ref (a 12), .ref (a 13), .ref (a 14), .ref (a 15), .ref (a 16), .ref (a 17), .ref (a 18), .ref (a 19), .ref (a 20), .ref (a 21), .ref (a 22), .ref (a 23), .ref (a 24), .ref (a 25), .ref (a 26), .ref (a 27), .ref (a 28), .ref (a 29), .ref (a 30), .int v_begun, .ref (a 31), .ref (a 32)])), ((a 7), .inl ((d 7), 30, .inl f_given)), ((a 22), .inl ((d 22), 250, .inl f_sumGiver)), ((a 25), .inl ((d 25), 250, .inl f_isClaimed)), ((a 24), .inl ((d 24), 250, .inl f_sumPence)), ((a 5), .inl ((d 5), 30, .inl f_declaredFrom)), ((a 6), .inl ((d 6), 30, .inl f_declaredTo)), ((a 9), .inl ((d 9), 30, .inl f_isNameless))] [((d 7), .int), ((d 22), .int), ((d 25), .boolean), ((d 24), .int), ((d 5), .int), ((d 6), .int), ((d 9), .boolean)] A s H locs := St
    refine lv_if_ne (tgt := 10) hx hb dX12_giver_4 (by decide) (fun c4 => ?_) (fun c4 => ?_)
    · exact absurd c4 (by decide)
    refine lv_bipush (v := (-2)) hx hb dX12_giver_7 (by decide) ?_
    exact cs_iret F hr hlk hQ St () (r := (-2)) (by trivial) [0, 1, 2, 3, 4, 5, 6, 7] rfl (by decide) [] rfl (by decide) (by decide) dX12_giver_9
set_option maxHeartbeats 4000000 in
set_option maxRecDepth 100000 in
theorem m_stage (l : Launch) (G : va_G) (k : Nat → Nat) (sz : Nat) (h : Nat) (a : Nat → Nat) (d : Nat → ClassId) (v_taped : Int32) (v_size : Int32) (v_from : Int32) (v_behind : Int32) (v_hand : Int32) (v_value : Int32) (v_fault : Int32) (v_faultAt : Int32) (v_clock : Int32) (v_coin : Int32) (v_loan : Int32) (v_matched : Int32) (v_taxed : Int32) (v_paidStages : Int32) (v_grown : Int32) (v_pledges : Int32) (v_sums : Int32) (v_stages : Int32) (v_isStopped : Int32) (v_begun : Int32) (f_cost : Nat → Int32) (f_length : Nat → Int32) (x1 : Int32) (x2 : Int32) (hSt : mSt v_stages v_begun f_length) : Met l yX12_stage (Cond.code yX12_stage cX12_stage 3 (some .int) :: tb) ({ frames := 1, cells := 0, slots := 0, locals := 25 } : Room) (va_Pc [.ref h, .int x1, .int x2] (cP G k [(h, .inr (12, [.ref (a 0), .ref (a 1), .ref (a 2), .ref (a 3), .int v_taped, .int v_size, .int v_from, .int v_behind, .int v_hand, .int v_value, .int v_fault, .int v_faultAt, .ref (a 4), .int v_clock, .int v_coin, .int v_loan, .int v_matched, .int v_taxed, .int v_paidStages, .int v_grown, .int v_pledges, .int v_sums, .int v_stages, .int v_isStopped, .ref (a 5), .ref (a 6), .ref (a 7), .ref (a 8), .ref (a 9), .ref (a 10), .ref (a 11), .ref (a 12), .ref (a 13), .ref (a 14), .ref (a 15), .ref (a 16), .ref (a 17), .ref (a 18), .ref (a 19), .ref (a 20), .ref (a 21), .ref (a 22), .ref (a 23), .ref (a 24), .ref (a 25), .ref (a 26), .ref (a 27), .ref (a 28), .ref (a 29), .ref (a 30), .int v_begun, .ref (a 31), .ref (a 32)])), ((a 26), .inl ((d 26), 8, .inl f_cost)), ((a 27), .inl ((d 27), 8, .inl f_length))] [((d 26), .int), ((d 27), .int)] sz)) (va_Qi (fun (r : Int32) (u : Int32 × (Nat → Int32) × (Nat → Int32)) => match u with | (w_stages, g_cost, g_length) => ((r = (-2) ∧ ¬ ((1 ≤ x1.toInt ∧ x1.toInt ≤ 100000000) ∧ 1 ≤ x2.toInt ∧ x2.toInt ≤ 24) ∧ w_stages = v_stages) ∨ (r = (-4) ∧ (((1 ≤ x1.toInt ∧ x1.toInt ≤ 100000000) ∧ 1 ≤ x2.toInt ∧ x2.toInt ≤ 24) ∧ ¬ v_isStopped.toInt = 0) ∧ w_stages = v_stages) ∨ (r = (-3) ∧ (((1 ≤ x1.toInt ∧ x1.toInt ≤ 100000000) ∧ 1 ≤ x2.toInt ∧ x2.toInt ≤ 24) ∧ v_isStopped.toInt = 0 ∧ v_stages.toInt = 8) ∧ w_stages = v_stages) ∨ (r = v_stages ∧ ((1 ≤ x1.toInt ∧ x1.toInt ≤ 100000000) ∧ 1 ≤ x2.toInt ∧ x2.toInt ≤ 24) ∧ v_isStopped.toInt = 0 ∧ v_stages.toInt < 8 ∧ w_stages.toInt = v_stages.toInt + 1)) ∧ (mSt w_stages v_begun g_length)) (cB G (fun u => match u with | (w_stages, g_cost, g_length) => [(h, .inr (12, [.ref (a 0), .ref (a 1), .ref (a 2), .ref (a 3), .int v_taped, .int v_size, .int v_from, .int v_behind, .int v_hand, .int v_value, .int v_fault, .int v_faultAt, .ref (a 4), .int v_clock, .int v_coin, .int v_loan, .int v_matched, .int v_taxed, .int v_paidStages, .int v_grown, .int v_pledges, .int v_sums, .int w_stages, .int v_isStopped, .ref (a 5), .ref (a 6), .ref (a 7), .ref (a 8), .ref (a 9), .ref (a 10), .ref (a 11), .ref (a 12), .ref (a 13), .ref (a 14), .ref (a 15), .ref (a 16), .ref (a 17), .ref (a 18), .ref (a 19), .ref (a 20), .ref (a 21), .ref (a 22), .ref (a 23), .ref (a 24), .ref (a 25), .ref (a 26), .ref (a 27), .ref (a 28), .ref (a 29), .ref (a 30), .int v_begun, .ref (a 31), .ref (a 32)])), ((a 26), .inl ((d 26), 8, .inl g_cost)), ((a 27), .inl ((d 27), 8, .inl g_length))]) (fun u => match u with | (w_stages, g_cost, g_length) => []) (va_A [(h, .inr (12, [.ref (a 0), .ref (a 1), .ref (a 2), .ref (a 3), .int v_taped, .int v_size, .int v_from, .int v_behind, .int v_hand, .int v_value, .int v_fault, .int v_faultAt, .ref (a 4), .int v_clock, .int v_coin, .int v_loan, .int v_matched, .int v_taxed, .int v_paidStages, .int v_grown, .int v_pledges, .int v_sums, .int v_stages, .int v_isStopped, .ref (a 5), .ref (a 6), .ref (a 7), .ref (a 8), .ref (a 9), .ref (a 10), .ref (a 11), .ref (a 12), .ref (a 13), .ref (a 14), .ref (a 15), .ref (a 16), .ref (a 17), .ref (a 18), .ref (a 19), .ref (a 20), .ref (a 21), .ref (a 22), .ref (a 23), .ref (a 24), .ref (a 25), .ref (a 26), .ref (a 27), .ref (a 28), .ref (a 29), .ref (a 30), .int v_begun, .ref (a 31), .ref (a 32)])), ((a 26), .inl ((d 26), 8, .inl f_cost)), ((a 27), .inl ((d 27), 8, .inl f_length))] sz)) (va_A [(h, .inr (12, [.ref (a 0), .ref (a 1), .ref (a 2), .ref (a 3), .int v_taped, .int v_size, .int v_from, .int v_behind, .int v_hand, .int v_value, .int v_fault, .int v_faultAt, .ref (a 4), .int v_clock, .int v_coin, .int v_loan, .int v_matched, .int v_taxed, .int v_paidStages, .int v_grown, .int v_pledges, .int v_sums, .int v_stages, .int v_isStopped, .ref (a 5), .ref (a 6), .ref (a 7), .ref (a 8), .ref (a 9), .ref (a 10), .ref (a 11), .ref (a 12), .ref (a 13), .ref (a 14), .ref (a 15), .ref (a 16), .ref (a 17), .ref (a 18), .ref (a 19), .ref (a 20), .ref (a 21), .ref (a 22), .ref (a 23), .ref (a 24), .ref (a 25), .ref (a 26), .ref (a 27), .ref (a 28), .ref (a 29), .ref (a 30), .int v_begun, .ref (a 31), .ref (a 32)])), ((a 26), .inl ((d 26), 8, .inl f_cost)), ((a 27), .inl ((d 27), 8, .inl f_length))] sz)) 0 0 (va_A [(h, .inr (12, [.ref (a 0), .ref (a 1), .ref (a 2), .ref (a 3), .int v_taped, .int v_size, .int v_from, .int v_behind, .int v_hand, .int v_value, .int v_fault, .int v_faultAt, .ref (a 4), .int v_clock, .int v_coin, .int v_loan, .int v_matched, .int v_taxed, .int v_paidStages, .int v_grown, .int v_pledges, .int v_sums, .int v_stages, .int v_isStopped, .ref (a 5), .ref (a 6), .ref (a 7), .ref (a 8), .ref (a 9), .ref (a 10), .ref (a 11), .ref (a 12), .ref (a 13), .ref (a 14), .ref (a 15), .ref (a 16), .ref (a 17), .ref (a 18), .ref (a 19), .ref (a 20), .ref (a 21), .ref (a 22), .ref (a 23), .ref (a 24), .ref (a 25), .ref (a 26), .ref (a 27), .ref (a 28), .ref (a 29), .ref (a 30), .int v_begun, .ref (a 31), .ref (a 32)])), ((a 26), .inl ((d 26), 8, .inl f_cost)), ((a 27), .inl ((d 27), 8, .inl f_length))] sz) := by
  refine ofC_i (cc := cX12_stage) (maxL := 3) (ret := (some .int)) (by decide) rfl (Nat.le_of_ble_eq_true rfl) ?_
  intro p e s m args below meth c A ls Q F hr hin hlk St hl hQ
  have hx := F.1
  have hb := F.2.1
  have hl : lv_has ls 3 [(0, .ref h), (1, .int x1), (2, .int x2)] := hl
  have St : cS G k [(h, .inr (12, [.ref (a 0), .ref (a 1), .ref (a 2), .ref (a 3), .int v_taped, .int v_size, .int v_from, .int v_behind, .int v_hand, .int v_value, .int v_fault, .int v_faultAt, .ref (a 4), .int v_clock, .int v_coin, .int v_loan, .int v_matched, .int v_taxed, .int v_paidStages, .int v_grown, .int v_pledges, .int v_sums, .int v_stages, .int v_isStopped, .ref (a 5), .ref (a 6), .ref (a 7), .ref (a 8), .ref (a 9), .ref (a 10), .ref (a 11), .ref (a 12), .ref (a 13), .ref (a 14), .ref (a 15), .ref (a 16), .ref (a 17), .ref (a 18), .ref (a 19), .ref (a 20), .ref (a 21), .ref (a 22), .ref (a 23), .ref (a 24), .ref (a 25), .ref (a 26), .ref (a 27), .ref (a 28), .ref (a 29), .ref (a 30), .int v_begun, .ref (a 31), .ref (a 32)])), ((a 26), .inl ((d 26), 8, .inl f_cost)), ((a 27), .inl ((d 27), 8, .inl f_length))] [((d 26), .int), ((d 27), .int)] A s s.heap [] := St
  have htd := hSt.1
  refine lv_iload_n hx hb dX12_stage_0 rfl (lv_at hl 1 rfl) ?_
  refine lv_i2l (v := x1.toInt64) hx hb dX12_stage_1 rfl ?_
  refine lv_lconst (v := 1) hx hb dX12_stage_2 (by decide) ?_
  refine lv_ldc2 (v := 100000000) hx hb F.2.2.2.1 (F.2.2.2.2 _ kk_X12_282) dX12_stage_3 ?_
  refine cs_i St [] [0, 1, 2] (wc := []) (wr := [(h, .inr (12, [.ref (a 0), .ref (a 1), .ref (a 2), .ref (a 3), .int v_taped, .int v_size, .int v_from, .int v_behind, .int v_hand, .int v_value, .int v_fault, .int v_faultAt, .ref (a 4), .int v_clock, .int v_coin, .int v_loan, .int v_matched, .int v_taxed, .int v_paidStages, .int v_grown, .int v_pledges, .int v_sums, .int v_stages, .int v_isStopped, .ref (a 5), .ref (a 6), .ref (a 7), .ref (a 8), .ref (a 9), .ref (a 10), .ref (a 11), .ref (a 12), .ref (a 13), .ref (a 14), .ref (a 15), .ref (a 16), .ref (a 17), .ref (a 18), .ref (a 19), .ref (a 20), .ref (a 21), .ref (a 22), .ref (a 23), .ref (a 24), .ref (a 25), .ref (a 26), .ref (a 27), .ref (a 28), .ref (a 29), .ref (a 30), .int v_begun, .ref (a 31), .ref (a 32)])), ((a 26), .inl ((d 26), 8, .inl f_cost)), ((a 27), .inl ((d 27), 8, .inl f_length))]) rfl rfl (by decide) (by decide) (va_runS (As := [.long x1.toInt64, .long 1, .long 100000000]) (rest := []) F (c12_in l G k _ x1.toInt64 1 100000000 x1.toInt 1 100000000 (Int32.toInt_toInt64 x1) (by decide) (by decide)) (cwSt F mf_X12_in km_X12_58 rfl rfl ⟨Nat.le_of_ble_eq_true rfl, Nat.le_of_ble_eq_true rfl⟩) (cs_pre St [] rfl (by decide) [] rfl) rfl rfl hl.1 rfl (lv_room (Nat.le_of_ble_eq_true rfl)) dX12_stage_6 ⟨Nat.le_of_ble_eq_true rfl, Nat.le_of_ble_eq_true rfl⟩) (fun r_1 u_2 H locs hw St => ?_)
  try dsimp only at hw
  rcases hw with ⟨z_3, hf_4⟩ | ⟨z_5, hf_6⟩
  ·
    subst r_1
    have St : cS G k [(h, .inr (12, [.ref (a 0), .ref (a 1), .ref (a 2), .ref (a 3), .int v_taped, .int v_size, .int v_from, .int v_behind, .int v_hand, .int v_value, .int v_fault, .int v_faultAt, .ref (a 4), .int v_clock, .int v_coin, .int v_loan, .int v_matched, .int v_taxed, .int v_paidStages, .int v_grown, .int v_pledges, .int v_sums, .int v_stages, .int v_isStopped, .ref (a 5), .ref (a 6), .ref (a 7), .ref (a 8), .ref (a 9), .ref (a 10), .ref (a 11), .ref (a 12), .ref (a 13), .ref (a 14), .ref (a 15), .ref (a 16), .ref (a 17), .ref (a 18), .ref (a 19), .ref (a 20), .ref (a 21), .ref (a 22), .ref (a 23), .ref (a 24), .ref (a 25), .ref (a 26), .ref (a 27), .ref (a 28), .ref (a 29), .ref (a 30), .int v_begun, .ref (a 31), .ref (a 32)])), ((a 26), .inl ((d 26), 8, .inl f_cost)), ((a 27), .inl ((d 27), 8, .inl f_length))] [((d 26), .int), ((d 27), .int)] A s H locs := St
    refine lv_if_eq (tgt := 24) hx hb dX12_stage_9 (by decide) (fun c9 => ?_) (fun c9 => ?_)
    · exact absurd c9 (by decide)
    refine lv_iload_n hx hb dX12_stage_12 rfl (lv_at hl 2 rfl) ?_
    refine lv_i2l (v := x2.toInt64) hx hb dX12_stage_13 rfl ?_
    refine lv_lconst (v := 1) hx hb dX12_stage_14 (by decide) ?_
    refine lv_ldc2 (v := 24) hx hb F.2.2.2.1 (F.2.2.2.2 _ kk_X12_284) dX12_stage_15 ?_
    refine cs_i St [] [0, 1, 2] (wc := []) (wr := [(h, .inr (12, [.ref (a 0), .ref (a 1), .ref (a 2), .ref (a 3), .int v_taped, .int v_size, .int v_from, .int v_behind, .int v_hand, .int v_value, .int v_fault, .int v_faultAt, .ref (a 4), .int v_clock, .int v_coin, .int v_loan, .int v_matched, .int v_taxed, .int v_paidStages, .int v_grown, .int v_pledges, .int v_sums, .int v_stages, .int v_isStopped, .ref (a 5), .ref (a 6), .ref (a 7), .ref (a 8), .ref (a 9), .ref (a 10), .ref (a 11), .ref (a 12), .ref (a 13), .ref (a 14), .ref (a 15), .ref (a 16), .ref (a 17), .ref (a 18), .ref (a 19), .ref (a 20), .ref (a 21), .ref (a 22), .ref (a 23), .ref (a 24), .ref (a 25), .ref (a 26), .ref (a 27), .ref (a 28), .ref (a 29), .ref (a 30), .int v_begun, .ref (a 31), .ref (a 32)])), ((a 26), .inl ((d 26), 8, .inl f_cost)), ((a 27), .inl ((d 27), 8, .inl f_length))]) rfl rfl (by decide) (by decide) (va_runS (As := [.long x2.toInt64, .long 1, .long 24]) (rest := []) F (c12_in l G k _ x2.toInt64 1 24 x2.toInt 1 24 (Int32.toInt_toInt64 x2) (by decide) (by decide)) (cwSt F mf_X12_in km_X12_58 rfl rfl ⟨Nat.le_of_ble_eq_true rfl, Nat.le_of_ble_eq_true rfl⟩) (cs_pre St [] rfl (by decide) [] rfl) rfl rfl hl.1 rfl (lv_room (Nat.le_of_ble_eq_true rfl)) dX12_stage_18 ⟨Nat.le_of_ble_eq_true rfl, Nat.le_of_ble_eq_true rfl⟩) (fun r_7 u_8 H locs hw St => ?_)
    try dsimp only at hw
    rcases hw with ⟨z_9, hf_10⟩ | ⟨z_11, hf_12⟩
    ·
      subst r_7
      have St : cS G k [(h, .inr (12, [.ref (a 0), .ref (a 1), .ref (a 2), .ref (a 3), .int v_taped, .int v_size, .int v_from, .int v_behind, .int v_hand, .int v_value, .int v_fault, .int v_faultAt, .ref (a 4), .int v_clock, .int v_coin, .int v_loan, .int v_matched, .int v_taxed, .int v_paidStages, .int v_grown, .int v_pledges, .int v_sums, .int v_stages, .int v_isStopped, .ref (a 5), .ref (a 6), .ref (a 7), .ref (a 8), .ref (a 9), .ref (a 10), .ref (a 11), .ref (a 12), .ref (a 13), .ref (a 14), .ref (a 15), .ref (a 16), .ref (a 17), .ref (a 18), .ref (a 19), .ref (a 20), .ref (a 21), .ref (a 22), .ref (a 23), .ref (a 24), .ref (a 25), .ref (a 26), .ref (a 27), .ref (a 28), .ref (a 29), .ref (a 30), .int v_begun, .ref (a 31), .ref (a 32)])), ((a 26), .inl ((d 26), 8, .inl f_cost)), ((a 27), .inl ((d 27), 8, .inl f_length))] [((d 26), .int), ((d 27), .int)] A s H locs := St
      refine lv_if_ne (tgt := 27) hx hb dX12_stage_21 (by decide) (fun c21 => ?_) (fun c21 => ?_)
      rotate_left
      · exact absurd c21 (by decide)
      refine lv_aload_n hx hb dX12_stage_27 rfl (lv_at hl 0 rfl) ?_
      refine cs_get F St 0 rfl rfl inX12 23 (by decide) kf_X12_224 rfl dX12_stage_28 ?_
      refine lv_if_eq (tgt := 37) hx hb dX12_stage_31 (by decide) (fun c31 => ?_) (fun c31 => ?_)
      ·
        have i31 := ci_eq (x := v_isStopped) (y := 0) rfl (show (0 : Int32).toInt = 0 by decide) c31
        refine lv_aload_n hx hb dX12_stage_37 rfl (lv_at hl 0 rfl) ?_
        refine cs_get F St 0 rfl rfl inX12 22 (by decide) kf_X12_286 rfl dX12_stage_38 ?_
        refine lv_bipush (v := 8) hx hb dX12_stage_41 (by decide) ?_
        refine lv_icmp_ne (tgt := 49) hx hb dX12_stage_43 (by decide) (fun c43 => ?_) (fun c43 => ?_)
        ·
          have i43 := ci_ne (x := v_stages) (y := 8) rfl (show (8 : Int32).toInt = 8 by decide) c43
          refine lv_aload_n hx hb dX12_stage_49 rfl (lv_at hl 0 rfl) ?_
          refine cs_get F St 0 rfl rfl inX12 45 (by decide) kf_X12_183 rfl dX12_stage_50 ?_
          refine lv_aload_n hx hb dX12_stage_53 rfl (lv_at hl 0 rfl) ?_
          refine cs_get F St 0 rfl rfl inX12 22 (by decide) kf_X12_286 rfl dX12_stage_54 ?_
          refine lv_iload_n hx hb dX12_stage_57 rfl (lv_at hl 1 rfl) ?_
          refine cs_ist F St 1 0 rfl rfl (vp_in_iff.mpr ⟨by omega, by omega⟩) (w' := [(h, .inr (12, [.ref (a 0), .ref (a 1), .ref (a 2), .ref (a 3), .int v_taped, .int v_size, .int v_from, .int v_behind, .int v_hand, .int v_value, .int v_fault, .int v_faultAt, .ref (a 4), .int v_clock, .int v_coin, .int v_loan, .int v_matched, .int v_taxed, .int v_paidStages, .int v_grown, .int v_pledges, .int v_sums, .int v_stages, .int v_isStopped, .ref (a 5), .ref (a 6), .ref (a 7), .ref (a 8), .ref (a 9), .ref (a 10), .ref (a 11), .ref (a 12), .ref (a 13), .ref (a 14), .ref (a 15), .ref (a 16), .ref (a 17), .ref (a 18), .ref (a 19), .ref (a 20), .ref (a 21), .ref (a 22), .ref (a 23), .ref (a 24), .ref (a 25), .ref (a 26), .ref (a 27), .ref (a 28), .ref (a 29), .ref (a 30), .int v_begun, .ref (a 31), .ref (a 32)])), ((a 26), .inl ((d 26), 8, .inl (upd f_cost (v_stages : Int32).toNatClampNeg x1))), ((a 27), .inl ((d 27), 8, .inl f_length))]) rfl dX12_stage_58 (fun H locs St => ?_)
          obtain ⟨f_13, ef_13⟩ : ∃ zz : Nat → Int32, zz = upd f_cost (v_stages : Int32).toNatClampNeg x1 := ⟨_, rfl⟩
          rw [← ef_13] at St
          refine lv_aload_n hx hb dX12_stage_59 rfl (lv_at hl 0 rfl) ?_
          refine cs_get F St 0 rfl rfl inX12 46 (by decide) kf_X12_186 rfl dX12_stage_60 ?_
          refine lv_aload_n hx hb dX12_stage_63 rfl (lv_at hl 0 rfl) ?_
          refine cs_get F St 0 rfl rfl inX12 22 (by decide) kf_X12_286 rfl dX12_stage_64 ?_
          refine lv_iload_n hx hb dX12_stage_67 rfl (lv_at hl 2 rfl) ?_
          refine cs_ist F St 2 1 rfl rfl (vp_in_iff.mpr ⟨by omega, by omega⟩) (w' := [(h, .inr (12, [.ref (a 0), .ref (a 1), .ref (a 2), .ref (a 3), .int v_taped, .int v_size, .int v_from, .int v_behind, .int v_hand, .int v_value, .int v_fault, .int v_faultAt, .ref (a 4), .int v_clock, .int v_coin, .int v_loan, .int v_matched, .int v_taxed, .int v_paidStages, .int v_grown, .int v_pledges, .int v_sums, .int v_stages, .int v_isStopped, .ref (a 5), .ref (a 6), .ref (a 7), .ref (a 8), .ref (a 9), .ref (a 10), .ref (a 11), .ref (a 12), .ref (a 13), .ref (a 14), .ref (a 15), .ref (a 16), .ref (a 17), .ref (a 18), .ref (a 19), .ref (a 20), .ref (a 21), .ref (a 22), .ref (a 23), .ref (a 24), .ref (a 25), .ref (a 26), .ref (a 27), .ref (a 28), .ref (a 29), .ref (a 30), .int v_begun, .ref (a 31), .ref (a 32)])), ((a 26), .inl ((d 26), 8, .inl f_13)), ((a 27), .inl ((d 27), 8, .inl (upd f_length (v_stages : Int32).toNatClampNeg x2)))]) rfl dX12_stage_68 (fun H locs St => ?_)
          obtain ⟨f_14, ef_14⟩ : ∃ zz : Nat → Int32, zz = upd f_length (v_stages : Int32).toNatClampNeg x2 := ⟨_, rfl⟩
          rw [← ef_14] at St
          refine lv_aload_n hx hb dX12_stage_69 rfl (lv_at hl 0 rfl) ?_
          refine lv_dup hx hb dX12_stage_70 rfl ?_
          refine cs_get F St 0 rfl rfl inX12 22 (by decide) kf_X12_286 rfl dX12_stage_71 ?_
          refine lv_iconst (v := 1) hx hb dX12_stage_74 (by decide) ?_
          refine lv_iadd hx hb dX12_stage_75 ?_
          refine lv_topi (fun y_15 ey_15 => ?_)
          first | have jy_15 : y_15.toInt = v_stages.toInt + 1 := (by have q9 := ci_add (x := v_stages) (y := 1) rfl (show (1 : Int32).toInt = 1 by decide) ey_15; omega) | have jy_15 := ci_add (x := v_stages) (y := 1) rfl (show (1 : Int32).toInt = 1 by decide) ey_15
          refine cs_put F St 0 rfl rfl inX12 tyX12_ok nmX12 22 (by decide) kf_X12_286 rfl rfl rfl (Nat.le_of_ble_eq_true rfl) (w' := [(h, .inr (12, [.ref (a 0), .ref (a 1), .ref (a 2), .ref (a 3), .int v_taped, .int v_size, .int v_from, .int v_behind, .int v_hand, .int v_value, .int v_fault, .int v_faultAt, .ref (a 4), .int v_clock, .int v_coin, .int v_loan, .int v_matched, .int v_taxed, .int v_paidStages, .int v_grown, .int v_pledges, .int v_sums, .int y_15, .int v_isStopped, .ref (a 5), .ref (a 6), .ref (a 7), .ref (a 8), .ref (a 9), .ref (a 10), .ref (a 11), .ref (a 12), .ref (a 13), .ref (a 14), .ref (a 15), .ref (a 16), .ref (a 17), .ref (a 18), .ref (a 19), .ref (a 20), .ref (a 21), .ref (a 22), .ref (a 23), .ref (a 24), .ref (a 25), .ref (a 26), .ref (a 27), .ref (a 28), .ref (a 29), .ref (a 30), .int v_begun, .ref (a 31), .ref (a 32)])), ((a 26), .inl ((d 26), 8, .inl f_13)), ((a 27), .inl ((d 27), 8, .inl f_14))]) rfl dX12_stage_76 (fun H locs St => ?_)
          refine lv_aload_n hx hb dX12_stage_79 rfl (lv_at hl 0 rfl) ?_
          refine cs_get F St 0 rfl rfl inX12 22 (by decide) kf_X12_286 rfl dX12_stage_80 ?_
          refine lv_iconst (v := 1) hx hb dX12_stage_83 (by decide) ?_
          refine lv_isub hx hb dX12_stage_84 ?_
          refine lv_topi (fun y_16 ey_16 => ?_)
          first | have jy_16 : y_16.toInt = y_15.toInt - 1 := (by have q9 := ci_sub (x := y_15) (y := 1) rfl (show (1 : Int32).toInt = 1 by decide) ey_16; omega) | have jy_16 := ci_sub (x := y_15) (y := 1) rfl (show (1 : Int32).toInt = 1 by decide) ey_16
          exact cs_iret F hr hlk hQ St (y_15, f_13, f_14) (r := y_16) ⟨Or.inr (Or.inr (Or.inr (⟨Int32.toInt_inj.mp (by omega), by omega⟩))), by rw [ef_14]; exact mSt_up hSt (by omega) (by omega) (by omega)⟩ [0, 1, 2] rfl (by decide) [] rfl (by decide) (by decide) dX12_stage_85
        ·
          have i43 := ci_eq (x := v_stages) (y := 8) rfl (show (8 : Int32).toInt = 8 by decide) c43
          refine lv_bipush (v := (-3)) hx hb dX12_stage_46 (by decide) ?_
          exact cs_iret F hr hlk hQ St (v_stages, f_cost, f_length) (r := (-3)) ⟨Or.inr (Or.inr (Or.inl ⟨rfl, by omega, rfl⟩)), hSt⟩ [0, 1, 2] rfl (by decide) [] rfl (by decide) (by decide) dX12_stage_48
      ·
        have i31 := ci_ne (x := v_isStopped) (y := 0) rfl (show (0 : Int32).toInt = 0 by decide) c31
        refine lv_bipush (v := (-4)) hx hb dX12_stage_34 (by decide) ?_
        exact cs_iret F hr hlk hQ St (v_stages, f_cost, f_length) (r := (-4)) ⟨Or.inr (Or.inl ⟨rfl, by omega, rfl⟩), hSt⟩ [0, 1, 2] rfl (by decide) [] rfl (by decide) (by decide) dX12_stage_36
    ·
      subst r_7
      have St : cS G k [(h, .inr (12, [.ref (a 0), .ref (a 1), .ref (a 2), .ref (a 3), .int v_taped, .int v_size, .int v_from, .int v_behind, .int v_hand, .int v_value, .int v_fault, .int v_faultAt, .ref (a 4), .int v_clock, .int v_coin, .int v_loan, .int v_matched, .int v_taxed, .int v_paidStages, .int v_grown, .int v_pledges, .int v_sums, .int v_stages, .int v_isStopped, .ref (a 5), .ref (a 6), .ref (a 7), .ref (a 8), .ref (a 9), .ref (a 10), .ref (a 11), .ref (a 12), .ref (a 13), .ref (a 14), .ref (a 15), .ref (a 16), .ref (a 17), .ref (a 18), .ref (a 19), .ref (a 20), .ref (a 21), .ref (a 22), .ref (a 23), .ref (a 24), .ref (a 25), .ref (a 26), .ref (a 27), .ref (a 28), .ref (a 29), .ref (a 30), .int v_begun, .ref (a 31), .ref (a 32)])), ((a 26), .inl ((d 26), 8, .inl f_cost)), ((a 27), .inl ((d 27), 8, .inl f_length))] [((d 26), .int), ((d 27), .int)] A s H locs := St
      refine lv_if_ne (tgt := 27) hx hb dX12_stage_21 (by decide) (fun c21 => ?_) (fun c21 => ?_)
      · exact absurd c21 (by decide)
      refine lv_bipush (v := (-2)) hx hb dX12_stage_24 (by decide) ?_
      exact cs_iret F hr hlk hQ St (v_stages, f_cost, f_length) (r := (-2)) ⟨Or.inl ⟨rfl, by omega, rfl⟩, hSt⟩ [0, 1, 2] rfl (by decide) [] rfl (by decide) (by decide) dX12_stage_26
  ·
    subst r_1
    have St : cS G k [(h, .inr (12, [.ref (a 0), .ref (a 1), .ref (a 2), .ref (a 3), .int v_taped, .int v_size, .int v_from, .int v_behind, .int v_hand, .int v_value, .int v_fault, .int v_faultAt, .ref (a 4), .int v_clock, .int v_coin, .int v_loan, .int v_matched, .int v_taxed, .int v_paidStages, .int v_grown, .int v_pledges, .int v_sums, .int v_stages, .int v_isStopped, .ref (a 5), .ref (a 6), .ref (a 7), .ref (a 8), .ref (a 9), .ref (a 10), .ref (a 11), .ref (a 12), .ref (a 13), .ref (a 14), .ref (a 15), .ref (a 16), .ref (a 17), .ref (a 18), .ref (a 19), .ref (a 20), .ref (a 21), .ref (a 22), .ref (a 23), .ref (a 24), .ref (a 25), .ref (a 26), .ref (a 27), .ref (a 28), .ref (a 29), .ref (a 30), .int v_begun, .ref (a 31), .ref (a 32)])), ((a 26), .inl ((d 26), 8, .inl f_cost)), ((a 27), .inl ((d 27), 8, .inl f_length))] [((d 26), .int), ((d 27), .int)] A s H locs := St
    refine lv_if_eq (tgt := 24) hx hb dX12_stage_9 (by decide) (fun c9 => ?_) (fun c9 => ?_)
    rotate_left
    · exact absurd (by decide) c9
    refine lv_bipush (v := (-2)) hx hb dX12_stage_24 (by decide) ?_
    exact cs_iret F hr hlk hQ St (v_stages, f_cost, f_length) (r := (-2)) ⟨Or.inl ⟨rfl, by omega, rfl⟩, hSt⟩ [0, 1, 2] rfl (by decide) [] rfl (by decide) (by decide) dX12_stage_26
set_option maxHeartbeats 4000000 in
set_option maxRecDepth 100000 in
theorem m_runs (l : Launch) (G : va_G) (k : Nat → Nat) (sz : Nat) (h : Nat) (a : Nat → Nat) (d : Nat → ClassId) (v_taped : Int32) (v_size : Int32) (v_from : Int32) (v_behind : Int32) (v_hand : Int32) (v_value : Int32) (v_fault : Int32) (v_faultAt : Int32) (v_clock : Int32) (v_coin : Int32) (v_loan : Int32) (v_matched : Int32) (v_taxed : Int32) (v_paidStages : Int32) (v_grown : Int32) (v_pledges : Int32) (v_sums : Int32) (v_stages : Int32) (v_isStopped : Int32) (v_begun : Int32) (f_parts : Nat → Int32) (f_length : Nat → Int32) (hSt : mSt v_stages v_begun f_length) : Met l yX12_runs (Cond.code yX12_runs cX12_runs 1 (some .boolean) :: tb) ({ frames := 0, cells := 0, slots := 0, locals := 0 } : Room) (va_Pc [.ref h] (cP G k [(h, .inr (12, [.ref (a 0), .ref (a 1), .ref (a 2), .ref (a 3), .int v_taped, .int v_size, .int v_from, .int v_behind, .int v_hand, .int v_value, .int v_fault, .int v_faultAt, .ref (a 4), .int v_clock, .int v_coin, .int v_loan, .int v_matched, .int v_taxed, .int v_paidStages, .int v_grown, .int v_pledges, .int v_sums, .int v_stages, .int v_isStopped, .ref (a 5), .ref (a 6), .ref (a 7), .ref (a 8), .ref (a 9), .ref (a 10), .ref (a 11), .ref (a 12), .ref (a 13), .ref (a 14), .ref (a 15), .ref (a 16), .ref (a 17), .ref (a 18), .ref (a 19), .ref (a 20), .ref (a 21), .ref (a 22), .ref (a 23), .ref (a 24), .ref (a 25), .ref (a 26), .ref (a 27), .ref (a 28), .ref (a 29), .ref (a 30), .int v_begun, .ref (a 31), .ref (a 32)])), ((a 28), .inl ((d 28), 8, .inl f_parts)), ((a 27), .inl ((d 27), 8, .inl f_length))] [((d 28), .int), ((d 27), .int)] sz)) (va_Qi (fun (r : Int32) (_ : Unit) => ((r = 1) ∧ (1 ≤ v_begun.toInt)) ∨ ((r = 0))) (cB G (fun (_ : Unit) => [(h, .inr (12, [.ref (a 0), .ref (a 1), .ref (a 2), .ref (a 3), .int v_taped, .int v_size, .int v_from, .int v_behind, .int v_hand, .int v_value, .int v_fault, .int v_faultAt, .ref (a 4), .int v_clock, .int v_coin, .int v_loan, .int v_matched, .int v_taxed, .int v_paidStages, .int v_grown, .int v_pledges, .int v_sums, .int v_stages, .int v_isStopped, .ref (a 5), .ref (a 6), .ref (a 7), .ref (a 8), .ref (a 9), .ref (a 10), .ref (a 11), .ref (a 12), .ref (a 13), .ref (a 14), .ref (a 15), .ref (a 16), .ref (a 17), .ref (a 18), .ref (a 19), .ref (a 20), .ref (a 21), .ref (a 22), .ref (a 23), .ref (a 24), .ref (a 25), .ref (a 26), .ref (a 27), .ref (a 28), .ref (a 29), .ref (a 30), .int v_begun, .ref (a 31), .ref (a 32)])), ((a 28), .inl ((d 28), 8, .inl f_parts)), ((a 27), .inl ((d 27), 8, .inl f_length))]) (fun (_ : Unit) => []) (va_A [(h, .inr (12, [.ref (a 0), .ref (a 1), .ref (a 2), .ref (a 3), .int v_taped, .int v_size, .int v_from, .int v_behind, .int v_hand, .int v_value, .int v_fault, .int v_faultAt, .ref (a 4), .int v_clock, .int v_coin, .int v_loan, .int v_matched, .int v_taxed, .int v_paidStages, .int v_grown, .int v_pledges, .int v_sums, .int v_stages, .int v_isStopped, .ref (a 5), .ref (a 6), .ref (a 7), .ref (a 8), .ref (a 9), .ref (a 10), .ref (a 11), .ref (a 12), .ref (a 13), .ref (a 14), .ref (a 15), .ref (a 16), .ref (a 17), .ref (a 18), .ref (a 19), .ref (a 20), .ref (a 21), .ref (a 22), .ref (a 23), .ref (a 24), .ref (a 25), .ref (a 26), .ref (a 27), .ref (a 28), .ref (a 29), .ref (a 30), .int v_begun, .ref (a 31), .ref (a 32)])), ((a 28), .inl ((d 28), 8, .inl f_parts)), ((a 27), .inl ((d 27), 8, .inl f_length))] sz)) (va_A [(h, .inr (12, [.ref (a 0), .ref (a 1), .ref (a 2), .ref (a 3), .int v_taped, .int v_size, .int v_from, .int v_behind, .int v_hand, .int v_value, .int v_fault, .int v_faultAt, .ref (a 4), .int v_clock, .int v_coin, .int v_loan, .int v_matched, .int v_taxed, .int v_paidStages, .int v_grown, .int v_pledges, .int v_sums, .int v_stages, .int v_isStopped, .ref (a 5), .ref (a 6), .ref (a 7), .ref (a 8), .ref (a 9), .ref (a 10), .ref (a 11), .ref (a 12), .ref (a 13), .ref (a 14), .ref (a 15), .ref (a 16), .ref (a 17), .ref (a 18), .ref (a 19), .ref (a 20), .ref (a 21), .ref (a 22), .ref (a 23), .ref (a 24), .ref (a 25), .ref (a 26), .ref (a 27), .ref (a 28), .ref (a 29), .ref (a 30), .int v_begun, .ref (a 31), .ref (a 32)])), ((a 28), .inl ((d 28), 8, .inl f_parts)), ((a 27), .inl ((d 27), 8, .inl f_length))] sz)) 0 0 (va_A [(h, .inr (12, [.ref (a 0), .ref (a 1), .ref (a 2), .ref (a 3), .int v_taped, .int v_size, .int v_from, .int v_behind, .int v_hand, .int v_value, .int v_fault, .int v_faultAt, .ref (a 4), .int v_clock, .int v_coin, .int v_loan, .int v_matched, .int v_taxed, .int v_paidStages, .int v_grown, .int v_pledges, .int v_sums, .int v_stages, .int v_isStopped, .ref (a 5), .ref (a 6), .ref (a 7), .ref (a 8), .ref (a 9), .ref (a 10), .ref (a 11), .ref (a 12), .ref (a 13), .ref (a 14), .ref (a 15), .ref (a 16), .ref (a 17), .ref (a 18), .ref (a 19), .ref (a 20), .ref (a 21), .ref (a 22), .ref (a 23), .ref (a 24), .ref (a 25), .ref (a 26), .ref (a 27), .ref (a 28), .ref (a 29), .ref (a 30), .int v_begun, .ref (a 31), .ref (a 32)])), ((a 28), .inl ((d 28), 8, .inl f_parts)), ((a 27), .inl ((d 27), 8, .inl f_length))] sz) := by
  refine ofC_i (cc := cX12_runs) (maxL := 1) (ret := (some .boolean)) (by decide) rfl (Nat.le_of_ble_eq_true rfl) ?_
  intro p e s m args below meth c A ls Q F hr hin hlk St hl hQ
  have hx := F.1
  have hb := F.2.1
  have hl : lv_has ls 1 [(0, .ref h)] := hl
  have St : cS G k [(h, .inr (12, [.ref (a 0), .ref (a 1), .ref (a 2), .ref (a 3), .int v_taped, .int v_size, .int v_from, .int v_behind, .int v_hand, .int v_value, .int v_fault, .int v_faultAt, .ref (a 4), .int v_clock, .int v_coin, .int v_loan, .int v_matched, .int v_taxed, .int v_paidStages, .int v_grown, .int v_pledges, .int v_sums, .int v_stages, .int v_isStopped, .ref (a 5), .ref (a 6), .ref (a 7), .ref (a 8), .ref (a 9), .ref (a 10), .ref (a 11), .ref (a 12), .ref (a 13), .ref (a 14), .ref (a 15), .ref (a 16), .ref (a 17), .ref (a 18), .ref (a 19), .ref (a 20), .ref (a 21), .ref (a 22), .ref (a 23), .ref (a 24), .ref (a 25), .ref (a 26), .ref (a 27), .ref (a 28), .ref (a 29), .ref (a 30), .int v_begun, .ref (a 31), .ref (a 32)])), ((a 28), .inl ((d 28), 8, .inl f_parts)), ((a 27), .inl ((d 27), 8, .inl f_length))] [((d 28), .int), ((d 27), .int)] A s s.heap [] := St
  have htd := hSt.1
  have y0 : (0 : Int32).toInt = 0 := by decide
  refine lv_aload_n hx hb dX12_runs_0 rfl (lv_at hl 0 rfl) ?_
  refine cs_get F St 0 rfl rfl inX12 50 (by decide) kf_X12_289 rfl dX12_runs_1 ?_
  refine lv_if_le (tgt := 36) hx hb dX12_runs_4 (by decide) (fun c4 => ?_) (fun c4 => ?_)
  ·
    have i4 := ci_le (x := v_begun) (y := 0) rfl (show (0 : Int32).toInt = 0 by decide) c4
    refine lv_iconst (v := 0) hx hb dX12_runs_36 (by decide) ?_
    exact cs_zret F hr hlk hQ St () (r := 0) rfl (Or.inr rfl) [0, 1, 2] rfl (by decide) [] rfl (by decide) (by decide) dX12_runs_37
  ·
    have i4 := ci_nle (x := v_begun) (y := 0) rfl (show (0 : Int32).toInt = 0 by decide) c4
    refine lv_aload_n hx hb dX12_runs_7 rfl (lv_at hl 0 rfl) ?_
    refine cs_get F St 0 rfl rfl inX12 47 (by decide) kf_X12_188 rfl dX12_runs_8 ?_
    refine lv_aload_n hx hb dX12_runs_11 rfl (lv_at hl 0 rfl) ?_
    refine cs_get F St 0 rfl rfl inX12 50 (by decide) kf_X12_289 rfl dX12_runs_12 ?_
    refine lv_iconst (v := 1) hx hb dX12_runs_15 (by decide) ?_
    refine lv_isub hx hb dX12_runs_16 ?_
    refine lv_topi (fun y_1 ey_1 => ?_)
    first | have jy_1 : y_1.toInt = v_begun.toInt - 1 := (by have q9 := ci_sub (x := v_begun) (y := 1) rfl (show (1 : Int32).toInt = 1 by decide) ey_1; omega) | have jy_1 := ci_sub (x := v_begun) (y := 1) rfl (show (1 : Int32).toInt = 1 by decide) ey_1
    refine cs_ild F St 1 0 rfl rfl (vp_in_iff.mpr ⟨by omega, by omega⟩) dX12_runs_17 ?_
    refine lv_topi (fun y_2 ey_2 => ?_)
    refine lv_aload_n hx hb dX12_runs_18 rfl (lv_at hl 0 rfl) ?_
    refine cs_get F St 0 rfl rfl inX12 46 (by decide) kf_X12_186 rfl dX12_runs_19 ?_
    refine lv_aload_n hx hb dX12_runs_22 rfl (lv_at hl 0 rfl) ?_
    refine cs_get F St 0 rfl rfl inX12 50 (by decide) kf_X12_289 rfl dX12_runs_23 ?_
    refine lv_iconst (v := 1) hx hb dX12_runs_26 (by decide) ?_
    refine lv_isub hx hb dX12_runs_27 ?_
    refine lv_topi (fun y_3 ey_3 => ?_)
    first | have jy_3 : y_3.toInt = v_begun.toInt - 1 := (by have q9 := ci_sub (x := v_begun) (y := 1) rfl (show (1 : Int32).toInt = 1 by decide) ey_3; omega) | have jy_3 := ci_sub (x := v_begun) (y := 1) rfl (show (1 : Int32).toInt = 1 by decide) ey_3
    refine cs_ild F St 2 1 rfl rfl (vp_in_iff.mpr ⟨by omega, by omega⟩) dX12_runs_28 ?_
    refine lv_topi (fun y_4 ey_4 => ?_)
    have hdy_4 := mSt_l hSt (by omega) (by omega) ey_4
    refine lv_icmp_ge (tgt := 36) hx hb dX12_runs_29 (by decide) (fun c29 => ?_) (fun c29 => ?_)
    ·
      have i29 := ci_le (x := y_4) (y := y_2) rfl rfl c29
      refine lv_iconst (v := 0) hx hb dX12_runs_36 (by decide) ?_
      exact cs_zret F hr hlk hQ St () (r := 0) rfl (Or.inr rfl) [0, 1, 2] rfl (by decide) [] rfl (by decide) (by decide) dX12_runs_37
    ·
      have i29 := ci_nle (x := y_4) (y := y_2) rfl rfl c29
      refine lv_iconst (v := 1) hx hb dX12_runs_32 (by decide) ?_
      refine lv_goto (tgt := 37) hx hb dX12_runs_33 (by decide) ?_
      exact cs_zret F hr hlk hQ St () (r := 1) rfl (Or.inl ⟨rfl, by omega⟩) [0, 1, 2] rfl (by decide) [] rfl (by decide) (by decide) dX12_runs_37
set_option maxHeartbeats 4000000 in
set_option maxRecDepth 100000 in
theorem m_begin (l : Launch) (G : va_G) (k : Nat → Nat) (sz : Nat) (h : Nat) (a : Nat → Nat) (d : Nat → ClassId) (v_taped : Int32) (v_size : Int32) (v_from : Int32) (v_behind : Int32) (v_hand : Int32) (v_value : Int32) (v_fault : Int32) (v_faultAt : Int32) (v_clock : Int32) (v_coin : Int32) (v_loan : Int32) (v_matched : Int32) (v_taxed : Int32) (v_paidStages : Int32) (v_grown : Int32) (v_pledges : Int32) (v_sums : Int32) (v_stages : Int32) (v_isStopped : Int32) (v_begun : Int32) (f_parts : Nat → Int32) (f_length : Nat → Int32) (hSt : mSt v_stages v_begun f_length) : Met l yX12_begin (Cond.code yX12_begin cX12_begin 1 (some .int) :: tb) ({ frames := 1, cells := 0, slots := 0, locals := 20 } : Room) (va_Pc [.ref h] (cP G k [(h, .inr (12, [.ref (a 0), .ref (a 1), .ref (a 2), .ref (a 3), .int v_taped, .int v_size, .int v_from, .int v_behind, .int v_hand, .int v_value, .int v_fault, .int v_faultAt, .ref (a 4), .int v_clock, .int v_coin, .int v_loan, .int v_matched, .int v_taxed, .int v_paidStages, .int v_grown, .int v_pledges, .int v_sums, .int v_stages, .int v_isStopped, .ref (a 5), .ref (a 6), .ref (a 7), .ref (a 8), .ref (a 9), .ref (a 10), .ref (a 11), .ref (a 12), .ref (a 13), .ref (a 14), .ref (a 15), .ref (a 16), .ref (a 17), .ref (a 18), .ref (a 19), .ref (a 20), .ref (a 21), .ref (a 22), .ref (a 23), .ref (a 24), .ref (a 25), .ref (a 26), .ref (a 27), .ref (a 28), .ref (a 29), .ref (a 30), .int v_begun, .ref (a 31), .ref (a 32)])), ((a 28), .inl ((d 28), 8, .inl f_parts)), ((a 27), .inl ((d 27), 8, .inl f_length))] [((d 28), .int), ((d 27), .int)] sz)) (va_Qi (fun (r : Int32) (w_begun : Int32) => (mSt v_stages w_begun f_length)) (cB G (fun (w_begun : Int32) => [(h, .inr (12, [.ref (a 0), .ref (a 1), .ref (a 2), .ref (a 3), .int v_taped, .int v_size, .int v_from, .int v_behind, .int v_hand, .int v_value, .int v_fault, .int v_faultAt, .ref (a 4), .int v_clock, .int v_coin, .int v_loan, .int v_matched, .int v_taxed, .int v_paidStages, .int v_grown, .int v_pledges, .int v_sums, .int v_stages, .int v_isStopped, .ref (a 5), .ref (a 6), .ref (a 7), .ref (a 8), .ref (a 9), .ref (a 10), .ref (a 11), .ref (a 12), .ref (a 13), .ref (a 14), .ref (a 15), .ref (a 16), .ref (a 17), .ref (a 18), .ref (a 19), .ref (a 20), .ref (a 21), .ref (a 22), .ref (a 23), .ref (a 24), .ref (a 25), .ref (a 26), .ref (a 27), .ref (a 28), .ref (a 29), .ref (a 30), .int w_begun, .ref (a 31), .ref (a 32)])), ((a 28), .inl ((d 28), 8, .inl f_parts)), ((a 27), .inl ((d 27), 8, .inl f_length))]) (fun (w_begun : Int32) => []) (va_A [(h, .inr (12, [.ref (a 0), .ref (a 1), .ref (a 2), .ref (a 3), .int v_taped, .int v_size, .int v_from, .int v_behind, .int v_hand, .int v_value, .int v_fault, .int v_faultAt, .ref (a 4), .int v_clock, .int v_coin, .int v_loan, .int v_matched, .int v_taxed, .int v_paidStages, .int v_grown, .int v_pledges, .int v_sums, .int v_stages, .int v_isStopped, .ref (a 5), .ref (a 6), .ref (a 7), .ref (a 8), .ref (a 9), .ref (a 10), .ref (a 11), .ref (a 12), .ref (a 13), .ref (a 14), .ref (a 15), .ref (a 16), .ref (a 17), .ref (a 18), .ref (a 19), .ref (a 20), .ref (a 21), .ref (a 22), .ref (a 23), .ref (a 24), .ref (a 25), .ref (a 26), .ref (a 27), .ref (a 28), .ref (a 29), .ref (a 30), .int v_begun, .ref (a 31), .ref (a 32)])), ((a 28), .inl ((d 28), 8, .inl f_parts)), ((a 27), .inl ((d 27), 8, .inl f_length))] sz)) (va_A [(h, .inr (12, [.ref (a 0), .ref (a 1), .ref (a 2), .ref (a 3), .int v_taped, .int v_size, .int v_from, .int v_behind, .int v_hand, .int v_value, .int v_fault, .int v_faultAt, .ref (a 4), .int v_clock, .int v_coin, .int v_loan, .int v_matched, .int v_taxed, .int v_paidStages, .int v_grown, .int v_pledges, .int v_sums, .int v_stages, .int v_isStopped, .ref (a 5), .ref (a 6), .ref (a 7), .ref (a 8), .ref (a 9), .ref (a 10), .ref (a 11), .ref (a 12), .ref (a 13), .ref (a 14), .ref (a 15), .ref (a 16), .ref (a 17), .ref (a 18), .ref (a 19), .ref (a 20), .ref (a 21), .ref (a 22), .ref (a 23), .ref (a 24), .ref (a 25), .ref (a 26), .ref (a 27), .ref (a 28), .ref (a 29), .ref (a 30), .int v_begun, .ref (a 31), .ref (a 32)])), ((a 28), .inl ((d 28), 8, .inl f_parts)), ((a 27), .inl ((d 27), 8, .inl f_length))] sz)) 0 0 (va_A [(h, .inr (12, [.ref (a 0), .ref (a 1), .ref (a 2), .ref (a 3), .int v_taped, .int v_size, .int v_from, .int v_behind, .int v_hand, .int v_value, .int v_fault, .int v_faultAt, .ref (a 4), .int v_clock, .int v_coin, .int v_loan, .int v_matched, .int v_taxed, .int v_paidStages, .int v_grown, .int v_pledges, .int v_sums, .int v_stages, .int v_isStopped, .ref (a 5), .ref (a 6), .ref (a 7), .ref (a 8), .ref (a 9), .ref (a 10), .ref (a 11), .ref (a 12), .ref (a 13), .ref (a 14), .ref (a 15), .ref (a 16), .ref (a 17), .ref (a 18), .ref (a 19), .ref (a 20), .ref (a 21), .ref (a 22), .ref (a 23), .ref (a 24), .ref (a 25), .ref (a 26), .ref (a 27), .ref (a 28), .ref (a 29), .ref (a 30), .int v_begun, .ref (a 31), .ref (a 32)])), ((a 28), .inl ((d 28), 8, .inl f_parts)), ((a 27), .inl ((d 27), 8, .inl f_length))] sz) := by
  refine ofC_i (cc := cX12_begin) (maxL := 1) (ret := (some .int)) (by decide) rfl (Nat.le_of_ble_eq_true rfl) ?_
  intro p e s m args below meth c A ls Q F hr hin hlk St hl hQ
  have hx := F.1
  have hb := F.2.1
  have hl : lv_has ls 1 [(0, .ref h)] := hl
  have St : cS G k [(h, .inr (12, [.ref (a 0), .ref (a 1), .ref (a 2), .ref (a 3), .int v_taped, .int v_size, .int v_from, .int v_behind, .int v_hand, .int v_value, .int v_fault, .int v_faultAt, .ref (a 4), .int v_clock, .int v_coin, .int v_loan, .int v_matched, .int v_taxed, .int v_paidStages, .int v_grown, .int v_pledges, .int v_sums, .int v_stages, .int v_isStopped, .ref (a 5), .ref (a 6), .ref (a 7), .ref (a 8), .ref (a 9), .ref (a 10), .ref (a 11), .ref (a 12), .ref (a 13), .ref (a 14), .ref (a 15), .ref (a 16), .ref (a 17), .ref (a 18), .ref (a 19), .ref (a 20), .ref (a 21), .ref (a 22), .ref (a 23), .ref (a 24), .ref (a 25), .ref (a 26), .ref (a 27), .ref (a 28), .ref (a 29), .ref (a 30), .int v_begun, .ref (a 31), .ref (a 32)])), ((a 28), .inl ((d 28), 8, .inl f_parts)), ((a 27), .inl ((d 27), 8, .inl f_length))] [((d 28), .int), ((d 27), .int)] A s s.heap [] := St
  have htd := hSt.1
  have y0 : (0 : Int32).toInt = 0 := by decide
  refine lv_aload_n hx hb dX12_begin_0 rfl (lv_at hl 0 rfl) ?_
  refine cs_get F St 0 rfl rfl inX12 23 (by decide) kf_X12_224 rfl dX12_begin_1 ?_
  refine lv_if_ne (tgt := 25) hx hb dX12_begin_4 (by decide) (fun c4 => ?_) (fun c4 => ?_)
  ·
    have i4 := ci_ne (x := v_isStopped) (y := 0) rfl (show (0 : Int32).toInt = 0 by decide) c4
    refine lv_bipush (v := (-4)) hx hb dX12_begin_25 (by decide) ?_
    exact cs_iret F hr hlk hQ St v_begun (r := (-4)) hSt [0, 1, 2] rfl (by decide) [] rfl (by decide) (by decide) dX12_begin_27
  ·
    have i4 := ci_eq (x := v_isStopped) (y := 0) rfl (show (0 : Int32).toInt = 0 by decide) c4
    refine lv_aload_n hx hb dX12_begin_7 rfl (lv_at hl 0 rfl) ?_
    refine cs_i St [0, 1, 2] [] (wc := [(h, .inr (12, [.ref (a 0), .ref (a 1), .ref (a 2), .ref (a 3), .int v_taped, .int v_size, .int v_from, .int v_behind, .int v_hand, .int v_value, .int v_fault, .int v_faultAt, .ref (a 4), .int v_clock, .int v_coin, .int v_loan, .int v_matched, .int v_taxed, .int v_paidStages, .int v_grown, .int v_pledges, .int v_sums, .int v_stages, .int v_isStopped, .ref (a 5), .ref (a 6), .ref (a 7), .ref (a 8), .ref (a 9), .ref (a 10), .ref (a 11), .ref (a 12), .ref (a 13), .ref (a 14), .ref (a 15), .ref (a 16), .ref (a 17), .ref (a 18), .ref (a 19), .ref (a 20), .ref (a 21), .ref (a 22), .ref (a 23), .ref (a 24), .ref (a 25), .ref (a 26), .ref (a 27), .ref (a 28), .ref (a 29), .ref (a 30), .int v_begun, .ref (a 31), .ref (a 32)])), ((a 28), .inl ((d 28), 8, .inl f_parts)), ((a 27), .inl ((d 27), 8, .inl f_length))]) (wr := []) rfl rfl (by decide) (by decide) (va_runV (As := []) (rest := []) F (m_runs l G k _ h a d v_taped v_size v_from v_behind v_hand v_value v_fault v_faultAt v_clock v_coin v_loan v_matched v_taxed v_paidStages v_grown v_pledges v_sums v_stages v_isStopped v_begun f_parts f_length hSt) (cwVt F mf_X12_runs km_X12_292 rfl rfl ⟨Nat.le_of_ble_eq_true rfl, Nat.le_of_ble_eq_true rfl⟩) (cs_preV St [0, 1, 2] rfl (by decide) [0, 1] rfl (ci := 12) (q0 := 0) rfl rfl) rfl rfl hl.1 rfl (lv_room (Nat.le_of_ble_eq_true rfl)) dX12_begin_8 ⟨Nat.le_of_ble_eq_true rfl, Nat.le_of_ble_eq_true rfl⟩) (fun r_1 u_2 H locs hw St => ?_)
    try dsimp only at hw
    rcases hw with ⟨z_3, hr_4⟩ | z_5
    ·
      subst r_1
      have St : cS G k [(h, .inr (12, [.ref (a 0), .ref (a 1), .ref (a 2), .ref (a 3), .int v_taped, .int v_size, .int v_from, .int v_behind, .int v_hand, .int v_value, .int v_fault, .int v_faultAt, .ref (a 4), .int v_clock, .int v_coin, .int v_loan, .int v_matched, .int v_taxed, .int v_paidStages, .int v_grown, .int v_pledges, .int v_sums, .int v_stages, .int v_isStopped, .ref (a 5), .ref (a 6), .ref (a 7), .ref (a 8), .ref (a 9), .ref (a 10), .ref (a 11), .ref (a 12), .ref (a 13), .ref (a 14), .ref (a 15), .ref (a 16), .ref (a 17), .ref (a 18), .ref (a 19), .ref (a 20), .ref (a 21), .ref (a 22), .ref (a 23), .ref (a 24), .ref (a 25), .ref (a 26), .ref (a 27), .ref (a 28), .ref (a 29), .ref (a 30), .int v_begun, .ref (a 31), .ref (a 32)])), ((a 28), .inl ((d 28), 8, .inl f_parts)), ((a 27), .inl ((d 27), 8, .inl f_length))] [((d 28), .int), ((d 27), .int)] A s H locs := St
      refine lv_if_ne (tgt := 25) hx hb dX12_begin_11 (by decide) (fun c11 => ?_) (fun c11 => ?_)
      rotate_left
      · exact absurd c11 (by decide)
      refine lv_bipush (v := (-4)) hx hb dX12_begin_25 (by decide) ?_
      exact cs_iret F hr hlk hQ St v_begun (r := (-4)) hSt [0, 1, 2] rfl (by decide) [] rfl (by decide) (by decide) dX12_begin_27
    ·
      subst r_1
      have St : cS G k [(h, .inr (12, [.ref (a 0), .ref (a 1), .ref (a 2), .ref (a 3), .int v_taped, .int v_size, .int v_from, .int v_behind, .int v_hand, .int v_value, .int v_fault, .int v_faultAt, .ref (a 4), .int v_clock, .int v_coin, .int v_loan, .int v_matched, .int v_taxed, .int v_paidStages, .int v_grown, .int v_pledges, .int v_sums, .int v_stages, .int v_isStopped, .ref (a 5), .ref (a 6), .ref (a 7), .ref (a 8), .ref (a 9), .ref (a 10), .ref (a 11), .ref (a 12), .ref (a 13), .ref (a 14), .ref (a 15), .ref (a 16), .ref (a 17), .ref (a 18), .ref (a 19), .ref (a 20), .ref (a 21), .ref (a 22), .ref (a 23), .ref (a 24), .ref (a 25), .ref (a 26), .ref (a 27), .ref (a 28), .ref (a 29), .ref (a 30), .int v_begun, .ref (a 31), .ref (a 32)])), ((a 28), .inl ((d 28), 8, .inl f_parts)), ((a 27), .inl ((d 27), 8, .inl f_length))] [((d 28), .int), ((d 27), .int)] A s H locs := St
      refine lv_if_ne (tgt := 25) hx hb dX12_begin_11 (by decide) (fun c11 => ?_) (fun c11 => ?_)
      · exact absurd c11 (by decide)
      refine lv_aload_n hx hb dX12_begin_14 rfl (lv_at hl 0 rfl) ?_
      refine cs_get F St 0 rfl rfl inX12 50 (by decide) kf_X12_289 rfl dX12_begin_15 ?_
      refine lv_aload_n hx hb dX12_begin_18 rfl (lv_at hl 0 rfl) ?_
      refine cs_get F St 0 rfl rfl inX12 22 (by decide) kf_X12_286 rfl dX12_begin_19 ?_
      refine lv_icmp_ne (tgt := 28) hx hb dX12_begin_22 (by decide) (fun c22 => ?_) (fun c22 => ?_)
      ·
        have i22 := ci_ne (x := v_begun) (y := v_stages) rfl rfl c22
        refine lv_aload_n hx hb dX12_begin_28 rfl (lv_at hl 0 rfl) ?_
        refine lv_dup hx hb dX12_begin_29 rfl ?_
        refine cs_get F St 0 rfl rfl inX12 50 (by decide) kf_X12_289 rfl dX12_begin_30 ?_
        refine lv_iconst (v := 1) hx hb dX12_begin_33 (by decide) ?_
        refine lv_iadd hx hb dX12_begin_34 ?_
        refine lv_topi (fun y_6 ey_6 => ?_)
        first | have jy_6 : y_6.toInt = v_begun.toInt + 1 := (by have q9 := ci_add (x := v_begun) (y := 1) rfl (show (1 : Int32).toInt = 1 by decide) ey_6; omega) | have jy_6 := ci_add (x := v_begun) (y := 1) rfl (show (1 : Int32).toInt = 1 by decide) ey_6
        refine cs_put F St 0 rfl rfl inX12 tyX12_ok nmX12 50 (by decide) kf_X12_289 rfl rfl rfl (Nat.le_of_ble_eq_true rfl) (w' := [(h, .inr (12, [.ref (a 0), .ref (a 1), .ref (a 2), .ref (a 3), .int v_taped, .int v_size, .int v_from, .int v_behind, .int v_hand, .int v_value, .int v_fault, .int v_faultAt, .ref (a 4), .int v_clock, .int v_coin, .int v_loan, .int v_matched, .int v_taxed, .int v_paidStages, .int v_grown, .int v_pledges, .int v_sums, .int v_stages, .int v_isStopped, .ref (a 5), .ref (a 6), .ref (a 7), .ref (a 8), .ref (a 9), .ref (a 10), .ref (a 11), .ref (a 12), .ref (a 13), .ref (a 14), .ref (a 15), .ref (a 16), .ref (a 17), .ref (a 18), .ref (a 19), .ref (a 20), .ref (a 21), .ref (a 22), .ref (a 23), .ref (a 24), .ref (a 25), .ref (a 26), .ref (a 27), .ref (a 28), .ref (a 29), .ref (a 30), .int y_6, .ref (a 31), .ref (a 32)])), ((a 28), .inl ((d 28), 8, .inl f_parts)), ((a 27), .inl ((d 27), 8, .inl f_length))]) rfl dX12_begin_35 (fun H locs St => ?_)
        refine lv_aload_n hx hb dX12_begin_38 rfl (lv_at hl 0 rfl) ?_
        refine cs_get F St 0 rfl rfl inX12 50 (by decide) kf_X12_289 rfl dX12_begin_39 ?_
        refine lv_iconst (v := 1) hx hb dX12_begin_42 (by decide) ?_
        refine lv_isub hx hb dX12_begin_43 ?_
        refine lv_topi (fun y_7 ey_7 => ?_)
        first | have jy_7 : y_7.toInt = y_6.toInt - 1 := (by have q9 := ci_sub (x := y_6) (y := 1) rfl (show (1 : Int32).toInt = 1 by decide) ey_7; omega) | have jy_7 := ci_sub (x := y_6) (y := 1) rfl (show (1 : Int32).toInt = 1 by decide) ey_7
        exact cs_iret F hr hlk hQ St y_6 (r := y_7) (mSt_go hSt (by omega) (by omega)) [0, 1, 2] rfl (by decide) [] rfl (by decide) (by decide) dX12_begin_44
      ·
        have i22 := ci_eq (x := v_begun) (y := v_stages) rfl rfl c22
        refine lv_bipush (v := (-4)) hx hb dX12_begin_25 (by decide) ?_
        exact cs_iret F hr hlk hQ St v_begun (r := (-4)) hSt [0, 1, 2] rfl (by decide) [] rfl (by decide) (by decide) dX12_begin_27
set_option maxHeartbeats 4000000 in
set_option maxRecDepth 100000 in
theorem m_built (l : Launch) (G : va_G) (k : Nat → Nat) (sz : Nat) (h : Nat) (a : Nat → Nat) (d : Nat → ClassId) (v_taped : Int32) (v_size : Int32) (v_from : Int32) (v_behind : Int32) (v_hand : Int32) (v_value : Int32) (v_fault : Int32) (v_faultAt : Int32) (v_clock : Int32) (v_coin : Int32) (v_loan : Int32) (v_matched : Int32) (v_taxed : Int32) (v_paidStages : Int32) (v_grown : Int32) (v_pledges : Int32) (v_sums : Int32) (v_stages : Int32) (v_isStopped : Int32) (v_begun : Int32) (f_cost : Nat → Int32) (f_length : Nat → Int32) (f_parts : Nat → Int32) (f_stagePaid : Nat → Int32) (f_paused : Nat → Int32) (x1 : Int32) (x2 : Int32) (hSt : mSt v_stages v_begun f_length) : Met l yX12_built (Cond.code yX12_built cX12_built 3 (some .int) :: tb) ({ frames := 1, cells := 0, slots := 0, locals := 25 } : Room) (va_Pc [.ref h, .int x1, .int x2] (cP G k [(h, .inr (12, [.ref (a 0), .ref (a 1), .ref (a 2), .ref (a 3), .int v_taped, .int v_size, .int v_from, .int v_behind, .int v_hand, .int v_value, .int v_fault, .int v_faultAt, .ref (a 4), .int v_clock, .int v_coin, .int v_loan, .int v_matched, .int v_taxed, .int v_paidStages, .int v_grown, .int v_pledges, .int v_sums, .int v_stages, .int v_isStopped, .ref (a 5), .ref (a 6), .ref (a 7), .ref (a 8), .ref (a 9), .ref (a 10), .ref (a 11), .ref (a 12), .ref (a 13), .ref (a 14), .ref (a 15), .ref (a 16), .ref (a 17), .ref (a 18), .ref (a 19), .ref (a 20), .ref (a 21), .ref (a 22), .ref (a 23), .ref (a 24), .ref (a 25), .ref (a 26), .ref (a 27), .ref (a 28), .ref (a 29), .ref (a 30), .int v_begun, .ref (a 31), .ref (a 32)])), ((a 26), .inl ((d 26), 8, .inl f_cost)), ((a 27), .inl ((d 27), 8, .inl f_length)), ((a 28), .inl ((d 28), 8, .inl f_parts)), ((a 29), .inl ((d 29), 8, .inl f_stagePaid)), ((a 30), .inl ((d 30), 8, .inl f_paused))] [((d 26), .int), ((d 27), .int), ((d 28), .int), ((d 29), .int), ((d 30), .int)] sz)) (va_Qi (fun (r : Int32) (_ : Unit) => True) (cB G (fun (_ : Unit) => [(h, .inr (12, [.ref (a 0), .ref (a 1), .ref (a 2), .ref (a 3), .int v_taped, .int v_size, .int v_from, .int v_behind, .int v_hand, .int v_value, .int v_fault, .int v_faultAt, .ref (a 4), .int v_clock, .int v_coin, .int v_loan, .int v_matched, .int v_taxed, .int v_paidStages, .int v_grown, .int v_pledges, .int v_sums, .int v_stages, .int v_isStopped, .ref (a 5), .ref (a 6), .ref (a 7), .ref (a 8), .ref (a 9), .ref (a 10), .ref (a 11), .ref (a 12), .ref (a 13), .ref (a 14), .ref (a 15), .ref (a 16), .ref (a 17), .ref (a 18), .ref (a 19), .ref (a 20), .ref (a 21), .ref (a 22), .ref (a 23), .ref (a 24), .ref (a 25), .ref (a 26), .ref (a 27), .ref (a 28), .ref (a 29), .ref (a 30), .int v_begun, .ref (a 31), .ref (a 32)])), ((a 26), .inl ((d 26), 8, .inl f_cost)), ((a 27), .inl ((d 27), 8, .inl f_length)), ((a 28), .inl ((d 28), 8, .inl f_parts)), ((a 29), .inl ((d 29), 8, .inl f_stagePaid)), ((a 30), .inl ((d 30), 8, .inl f_paused))]) (fun (_ : Unit) => []) (va_A [(h, .inr (12, [.ref (a 0), .ref (a 1), .ref (a 2), .ref (a 3), .int v_taped, .int v_size, .int v_from, .int v_behind, .int v_hand, .int v_value, .int v_fault, .int v_faultAt, .ref (a 4), .int v_clock, .int v_coin, .int v_loan, .int v_matched, .int v_taxed, .int v_paidStages, .int v_grown, .int v_pledges, .int v_sums, .int v_stages, .int v_isStopped, .ref (a 5), .ref (a 6), .ref (a 7), .ref (a 8), .ref (a 9), .ref (a 10), .ref (a 11), .ref (a 12), .ref (a 13), .ref (a 14), .ref (a 15), .ref (a 16), .ref (a 17), .ref (a 18), .ref (a 19), .ref (a 20), .ref (a 21), .ref (a 22), .ref (a 23), .ref (a 24), .ref (a 25), .ref (a 26), .ref (a 27), .ref (a 28), .ref (a 29), .ref (a 30), .int v_begun, .ref (a 31), .ref (a 32)])), ((a 26), .inl ((d 26), 8, .inl f_cost)), ((a 27), .inl ((d 27), 8, .inl f_length)), ((a 28), .inl ((d 28), 8, .inl f_parts)), ((a 29), .inl ((d 29), 8, .inl f_stagePaid)), ((a 30), .inl ((d 30), 8, .inl f_paused))] sz)) (va_A [(h, .inr (12, [.ref (a 0), .ref (a 1), .ref (a 2), .ref (a 3), .int v_taped, .int v_size, .int v_from, .int v_behind, .int v_hand, .int v_value, .int v_fault, .int v_faultAt, .ref (a 4), .int v_clock, .int v_coin, .int v_loan, .int v_matched, .int v_taxed, .int v_paidStages, .int v_grown, .int v_pledges, .int v_sums, .int v_stages, .int v_isStopped, .ref (a 5), .ref (a 6), .ref (a 7), .ref (a 8), .ref (a 9), .ref (a 10), .ref (a 11), .ref (a 12), .ref (a 13), .ref (a 14), .ref (a 15), .ref (a 16), .ref (a 17), .ref (a 18), .ref (a 19), .ref (a 20), .ref (a 21), .ref (a 22), .ref (a 23), .ref (a 24), .ref (a 25), .ref (a 26), .ref (a 27), .ref (a 28), .ref (a 29), .ref (a 30), .int v_begun, .ref (a 31), .ref (a 32)])), ((a 26), .inl ((d 26), 8, .inl f_cost)), ((a 27), .inl ((d 27), 8, .inl f_length)), ((a 28), .inl ((d 28), 8, .inl f_parts)), ((a 29), .inl ((d 29), 8, .inl f_stagePaid)), ((a 30), .inl ((d 30), 8, .inl f_paused))] sz)) 0 0 (va_A [(h, .inr (12, [.ref (a 0), .ref (a 1), .ref (a 2), .ref (a 3), .int v_taped, .int v_size, .int v_from, .int v_behind, .int v_hand, .int v_value, .int v_fault, .int v_faultAt, .ref (a 4), .int v_clock, .int v_coin, .int v_loan, .int v_matched, .int v_taxed, .int v_paidStages, .int v_grown, .int v_pledges, .int v_sums, .int v_stages, .int v_isStopped, .ref (a 5), .ref (a 6), .ref (a 7), .ref (a 8), .ref (a 9), .ref (a 10), .ref (a 11), .ref (a 12), .ref (a 13), .ref (a 14), .ref (a 15), .ref (a 16), .ref (a 17), .ref (a 18), .ref (a 19), .ref (a 20), .ref (a 21), .ref (a 22), .ref (a 23), .ref (a 24), .ref (a 25), .ref (a 26), .ref (a 27), .ref (a 28), .ref (a 29), .ref (a 30), .int v_begun, .ref (a 31), .ref (a 32)])), ((a 26), .inl ((d 26), 8, .inl f_cost)), ((a 27), .inl ((d 27), 8, .inl f_length)), ((a 28), .inl ((d 28), 8, .inl f_parts)), ((a 29), .inl ((d 29), 8, .inl f_stagePaid)), ((a 30), .inl ((d 30), 8, .inl f_paused))] sz) := by
  refine ofC_i (cc := cX12_built) (maxL := 3) (ret := (some .int)) (by decide) rfl (Nat.le_of_ble_eq_true rfl) ?_
  intro p e s m args below meth c A ls Q F hr hin hlk St hl hQ
  have hx := F.1
  have hb := F.2.1
  have hl : lv_has ls 3 [(0, .ref h), (1, .int x1), (2, .int x2)] := hl
  have St : cS G k [(h, .inr (12, [.ref (a 0), .ref (a 1), .ref (a 2), .ref (a 3), .int v_taped, .int v_size, .int v_from, .int v_behind, .int v_hand, .int v_value, .int v_fault, .int v_faultAt, .ref (a 4), .int v_clock, .int v_coin, .int v_loan, .int v_matched, .int v_taxed, .int v_paidStages, .int v_grown, .int v_pledges, .int v_sums, .int v_stages, .int v_isStopped, .ref (a 5), .ref (a 6), .ref (a 7), .ref (a 8), .ref (a 9), .ref (a 10), .ref (a 11), .ref (a 12), .ref (a 13), .ref (a 14), .ref (a 15), .ref (a 16), .ref (a 17), .ref (a 18), .ref (a 19), .ref (a 20), .ref (a 21), .ref (a 22), .ref (a 23), .ref (a 24), .ref (a 25), .ref (a 26), .ref (a 27), .ref (a 28), .ref (a 29), .ref (a 30), .int v_begun, .ref (a 31), .ref (a 32)])), ((a 26), .inl ((d 26), 8, .inl f_cost)), ((a 27), .inl ((d 27), 8, .inl f_length)), ((a 28), .inl ((d 28), 8, .inl f_parts)), ((a 29), .inl ((d 29), 8, .inl f_stagePaid)), ((a 30), .inl ((d 30), 8, .inl f_paused))] [((d 26), .int), ((d 27), .int), ((d 28), .int), ((d 29), .int), ((d 30), .int)] A s s.heap [] := St
  have htd := hSt.1
  have y0 : (0 : Int32).toInt = 0 := by decide
  refine lv_iload_n hx hb dX12_built_0 rfl (lv_at hl 1 rfl) ?_
  refine lv_i2l (v := x1.toInt64) hx hb dX12_built_1 rfl ?_
  refine lv_lconst (v := 0) hx hb dX12_built_2 (by decide) ?_
  refine lv_aload_n hx hb dX12_built_3 rfl (lv_at hl 0 rfl) ?_
  refine cs_get F St 0 rfl rfl inX12 22 (by decide) kf_X12_286 rfl dX12_built_4 ?_
  refine lv_i2l (v := v_stages.toInt64) hx hb dX12_built_7 rfl ?_
  refine lv_lconst (v := 1) hx hb dX12_built_8 (by decide) ?_
  refine lv_lsub hx hb dX12_built_9 ?_
  refine lv_topl (fun y_1 ey_1 => ?_)
  first | have jy_1 : y_1.toInt = v_stages.toInt - 1 := (by have q7 := ci_rng v_stages; have q9 := cl_sub (x := v_stages.toInt64) (y := 1) (u := v_stages.toInt) (v := 1) (Int32.toInt_toInt64 v_stages) (by decide) ey_1; omega) | have jy_1 := cl_sub (x := v_stages.toInt64) (y := 1) (u := v_stages.toInt) (v := 1) (Int32.toInt_toInt64 v_stages) (by decide) ey_1
  refine cs_i St [] [0, 1, 2, 3, 4, 5] (wc := []) (wr := [(h, .inr (12, [.ref (a 0), .ref (a 1), .ref (a 2), .ref (a 3), .int v_taped, .int v_size, .int v_from, .int v_behind, .int v_hand, .int v_value, .int v_fault, .int v_faultAt, .ref (a 4), .int v_clock, .int v_coin, .int v_loan, .int v_matched, .int v_taxed, .int v_paidStages, .int v_grown, .int v_pledges, .int v_sums, .int v_stages, .int v_isStopped, .ref (a 5), .ref (a 6), .ref (a 7), .ref (a 8), .ref (a 9), .ref (a 10), .ref (a 11), .ref (a 12), .ref (a 13), .ref (a 14), .ref (a 15), .ref (a 16), .ref (a 17), .ref (a 18), .ref (a 19), .ref (a 20), .ref (a 21), .ref (a 22), .ref (a 23), .ref (a 24), .ref (a 25), .ref (a 26), .ref (a 27), .ref (a 28), .ref (a 29), .ref (a 30), .int v_begun, .ref (a 31), .ref (a 32)])), ((a 26), .inl ((d 26), 8, .inl f_cost)), ((a 27), .inl ((d 27), 8, .inl f_length)), ((a 28), .inl ((d 28), 8, .inl f_parts)), ((a 29), .inl ((d 29), 8, .inl f_stagePaid)), ((a 30), .inl ((d 30), 8, .inl f_paused))]) rfl rfl (by decide) (by decide) (va_runS (As := [.long x1.toInt64, .long 0, .long y_1]) (rest := []) F (c12_in l G k _ x1.toInt64 0 y_1 x1.toInt 0 y_1.toInt (Int32.toInt_toInt64 x1) (by decide) rfl) (cwSt F mf_X12_in km_X12_58 rfl rfl ⟨Nat.le_of_ble_eq_true rfl, Nat.le_of_ble_eq_true rfl⟩) (cs_pre St [] rfl (by decide) [] rfl) rfl rfl hl.1 rfl (lv_room (Nat.le_of_ble_eq_true rfl)) dX12_built_10 ⟨Nat.le_of_ble_eq_true rfl, Nat.le_of_ble_eq_true rfl⟩) (fun r_2 u_3 H locs hw St => ?_)
  try dsimp only at hw
  rcases hw with ⟨z_4, hf_5⟩ | ⟨z_6, hf_7⟩
  ·
    subst r_2
    have St : cS G k [(h, .inr (12, [.ref (a 0), .ref (a 1), .ref (a 2), .ref (a 3), .int v_taped, .int v_size, .int v_from, .int v_behind, .int v_hand, .int v_value, .int v_fault, .int v_faultAt, .ref (a 4), .int v_clock, .int v_coin, .int v_loan, .int v_matched, .int v_taxed, .int v_paidStages, .int v_grown, .int v_pledges, .int v_sums, .int v_stages, .int v_isStopped, .ref (a 5), .ref (a 6), .ref (a 7), .ref (a 8), .ref (a 9), .ref (a 10), .ref (a 11), .ref (a 12), .ref (a 13), .ref (a 14), .ref (a 15), .ref (a 16), .ref (a 17), .ref (a 18), .ref (a 19), .ref (a 20), .ref (a 21), .ref (a 22), .ref (a 23), .ref (a 24), .ref (a 25), .ref (a 26), .ref (a 27), .ref (a 28), .ref (a 29), .ref (a 30), .int v_begun, .ref (a 31), .ref (a 32)])), ((a 26), .inl ((d 26), 8, .inl f_cost)), ((a 27), .inl ((d 27), 8, .inl f_length)), ((a 28), .inl ((d 28), 8, .inl f_parts)), ((a 29), .inl ((d 29), 8, .inl f_stagePaid)), ((a 30), .inl ((d 30), 8, .inl f_paused))] [((d 26), .int), ((d 27), .int), ((d 28), .int), ((d 29), .int), ((d 30), .int)] A s H locs := St
    refine lv_if_ne (tgt := 18) hx hb dX12_built_13 (by decide) (fun c13 => ?_) (fun c13 => ?_)
    rotate_left
    · exact absurd c13 (by decide)
    refine lv_iload_n hx hb dX12_built_18 rfl (lv_at hl 2 rfl) ?_
    by_cases w19_0 : x2 = 0
    ·
      subst w19_0
      refine lv_tableIn (tgt := 52) (off := 33) hx hb dX12_built_19 (by decide) (by decide) (by decide) (by decide) ?_
      refine lv_aload_n hx hb dX12_built_52 rfl (lv_at hl 0 rfl) ?_
      refine cs_get F St 0 rfl rfl inX12 45 (by decide) kf_X12_183 rfl dX12_built_53 ?_
      refine lv_iload_n hx hb dX12_built_56 rfl (lv_at hl 1 rfl) ?_
      refine cs_ild F St 1 0 rfl rfl (vp_in_iff.mpr ⟨by omega, by omega⟩) dX12_built_57 ?_
      refine lv_topi (fun y_8 ey_8 => ?_)
      exact cs_iret F hr hlk hQ St () (r := y_8) (by trivial) [0, 1, 2, 3, 4, 5] rfl (by decide) [] rfl (by decide) (by decide) dX12_built_58
    by_cases w19_1 : x2 = 1
    ·
      subst w19_1
      refine lv_tableIn (tgt := 59) (off := 40) hx hb dX12_built_19 (by decide) (by decide) (by decide) (by decide) ?_
      refine lv_aload_n hx hb dX12_built_59 rfl (lv_at hl 0 rfl) ?_
      refine cs_get F St 0 rfl rfl inX12 46 (by decide) kf_X12_186 rfl dX12_built_60 ?_
      refine lv_iload_n hx hb dX12_built_63 rfl (lv_at hl 1 rfl) ?_
      refine cs_ild F St 2 1 rfl rfl (vp_in_iff.mpr ⟨by omega, by omega⟩) dX12_built_64 ?_
      refine lv_topi (fun y_9 ey_9 => ?_)
      have hdy_9 := mSt_l hSt (by omega) (by omega) ey_9
      exact cs_iret F hr hlk hQ St () (r := y_9) (by trivial) [0, 1, 2, 3, 4, 5] rfl (by decide) [] rfl (by decide) (by decide) dX12_built_65
    by_cases w19_2 : x2 = 2
    ·
      subst w19_2
      refine lv_tableIn (tgt := 66) (off := 47) hx hb dX12_built_19 (by decide) (by decide) (by decide) (by decide) ?_
      refine lv_iload_n hx hb dX12_built_66 rfl (lv_at hl 1 rfl) ?_
      refine lv_aload_n hx hb dX12_built_67 rfl (lv_at hl 0 rfl) ?_
      refine cs_get F St 0 rfl rfl inX12 50 (by decide) kf_X12_289 rfl dX12_built_68 ?_
      refine lv_icmp_lt (tgt := 78) hx hb dX12_built_71 (by decide) (fun c71 => ?_) (fun c71 => ?_)
      ·
        have i71 := ci_lt (x := x1) (y := v_begun) rfl rfl c71
        refine lv_aload_n hx hb dX12_built_78 rfl (lv_at hl 0 rfl) ?_
        refine cs_get F St 0 rfl rfl inX12 47 (by decide) kf_X12_188 rfl dX12_built_79 ?_
        refine lv_iload_n hx hb dX12_built_82 rfl (lv_at hl 1 rfl) ?_
        refine cs_ild F St 3 2 rfl rfl (vp_in_iff.mpr ⟨by omega, by omega⟩) dX12_built_83 ?_
        refine lv_topi (fun y_10 ey_10 => ?_)
        refine lv_aload_n hx hb dX12_built_84 rfl (lv_at hl 0 rfl) ?_
        refine cs_get F St 0 rfl rfl inX12 46 (by decide) kf_X12_186 rfl dX12_built_85 ?_
        refine lv_iload_n hx hb dX12_built_88 rfl (lv_at hl 1 rfl) ?_
        refine cs_ild F St 2 1 rfl rfl (vp_in_iff.mpr ⟨by omega, by omega⟩) dX12_built_89 ?_
        refine lv_topi (fun y_11 ey_11 => ?_)
        have hdy_11 := mSt_l hSt (by omega) (by omega) ey_11
        refine lv_icmp_ge (tgt := 97) hx hb dX12_built_90 (by decide) (fun c90 => ?_) (fun c90 => ?_)
        ·
          have i90 := ci_le (x := y_11) (y := y_10) rfl rfl c90
          refine lv_iconst (v := 2) hx hb dX12_built_97 (by decide) ?_
          exact cs_iret F hr hlk hQ St () (r := 2) (by trivial) [0, 1, 2, 3, 4, 5] rfl (by decide) [] rfl (by decide) (by decide) dX12_built_98
        ·
          have i90 := ci_nle (x := y_11) (y := y_10) rfl rfl c90
          refine lv_iconst (v := 1) hx hb dX12_built_93 (by decide) ?_
          refine lv_goto (tgt := 98) hx hb dX12_built_94 (by decide) ?_
          exact cs_iret F hr hlk hQ St () (r := 1) (by trivial) [0, 1, 2, 3, 4, 5] rfl (by decide) [] rfl (by decide) (by decide) dX12_built_98
      ·
        have i71 := ci_nlt (x := x1) (y := v_begun) rfl rfl c71
        refine lv_iconst (v := 0) hx hb dX12_built_74 (by decide) ?_
        refine lv_goto (tgt := 98) hx hb dX12_built_75 (by decide) ?_
        exact cs_iret F hr hlk hQ St () (r := 0) (by trivial) [0, 1, 2, 3, 4, 5] rfl (by decide) [] rfl (by decide) (by decide) dX12_built_98
    by_cases w19_3 : x2 = 3
    ·
      subst w19_3
      refine lv_tableIn (tgt := 99) (off := 80) hx hb dX12_built_19 (by decide) (by decide) (by decide) (by decide) ?_
      refine lv_aload_n hx hb dX12_built_99 rfl (lv_at hl 0 rfl) ?_
      refine cs_get F St 0 rfl rfl inX12 48 (by decide) kf_X12_191 rfl dX12_built_100 ?_
      refine lv_iload_n hx hb dX12_built_103 rfl (lv_at hl 1 rfl) ?_
      refine cs_ild F St 4 3 rfl rfl (vp_in_iff.mpr ⟨by omega, by omega⟩) dX12_built_104 ?_
      refine lv_topi (fun y_12 ey_12 => ?_)
      exact cs_iret F hr hlk hQ St () (r := y_12) (by trivial) [0, 1, 2, 3, 4, 5] rfl (by decide) [] rfl (by decide) (by decide) dX12_built_105
    by_cases w19_4 : x2 = 4
    ·
      subst w19_4
      refine lv_tableIn (tgt := 106) (off := 87) hx hb dX12_built_19 (by decide) (by decide) (by decide) (by decide) ?_
      refine lv_aload_n hx hb dX12_built_106 rfl (lv_at hl 0 rfl) ?_
      refine cs_get F St 0 rfl rfl inX12 49 (by decide) kf_X12_194 rfl dX12_built_107 ?_
      refine lv_iload_n hx hb dX12_built_110 rfl (lv_at hl 1 rfl) ?_
      refine cs_ild F St 5 4 rfl rfl (vp_in_iff.mpr ⟨by omega, by omega⟩) dX12_built_111 ?_
      refine lv_topi (fun y_13 ey_13 => ?_)
      exact cs_iret F hr hlk hQ St () (r := y_13) (by trivial) [0, 1, 2, 3, 4, 5] rfl (by decide) [] rfl (by decide) (by decide) dX12_built_112
    have iw19_0 := lv_neT w19_0 (show (0 : Int32).toInt = 0 by decide)
    have iw19_1 := lv_neT w19_1 (show (1 : Int32).toInt = 1 by decide)
    have iw19_2 := lv_neT w19_2 (show (2 : Int32).toInt = 2 by decide)
    have iw19_3 := lv_neT w19_3 (show (3 : Int32).toInt = 3 by decide)
    have iw19_4 := lv_neT w19_4 (show (4 : Int32).toInt = 4 by decide)
    refine lv_tableOut (tgt := 113) hx hb dX12_built_19 (by omega) (by decide) ?_
    refine lv_iconst (v := (-1)) hx hb dX12_built_113 (by decide) ?_
    exact cs_iret F hr hlk hQ St () (r := (-1)) (by trivial) [0, 1, 2, 3, 4, 5] rfl (by decide) [] rfl (by decide) (by decide) dX12_built_114
  ·
    subst r_2
    have St : cS G k [(h, .inr (12, [.ref (a 0), .ref (a 1), .ref (a 2), .ref (a 3), .int v_taped, .int v_size, .int v_from, .int v_behind, .int v_hand, .int v_value, .int v_fault, .int v_faultAt, .ref (a 4), .int v_clock, .int v_coin, .int v_loan, .int v_matched, .int v_taxed, .int v_paidStages, .int v_grown, .int v_pledges, .int v_sums, .int v_stages, .int v_isStopped, .ref (a 5), .ref (a 6), .ref (a 7), .ref (a 8), .ref (a 9), .ref (a 10), .ref (a 11), .ref (a 12), .ref (a 13), .ref (a 14), .ref (a 15), .ref (a 16), .ref (a 17), .ref (a 18), .ref (a 19), .ref (a 20), .ref (a 21), .ref (a 22), .ref (a 23), .ref (a 24), .ref (a 25), .ref (a 26), .ref (a 27), .ref (a 28), .ref (a 29), .ref (a 30), .int v_begun, .ref (a 31), .ref (a 32)])), ((a 26), .inl ((d 26), 8, .inl f_cost)), ((a 27), .inl ((d 27), 8, .inl f_length)), ((a 28), .inl ((d 28), 8, .inl f_parts)), ((a 29), .inl ((d 29), 8, .inl f_stagePaid)), ((a 30), .inl ((d 30), 8, .inl f_paused))] [((d 26), .int), ((d 27), .int), ((d 28), .int), ((d 29), .int), ((d 30), .int)] A s H locs := St
    refine lv_if_ne (tgt := 18) hx hb dX12_built_13 (by decide) (fun c13 => ?_) (fun c13 => ?_)
    · exact absurd c13 (by decide)
    refine lv_iconst (v := (-1)) hx hb dX12_built_16 (by decide) ?_
    exact cs_iret F hr hlk hQ St () (r := (-1)) (by trivial) [0, 1, 2, 3, 4, 5] rfl (by decide) [] rfl (by decide) (by decide) dX12_built_17
set_option maxHeartbeats 4000000 in
set_option maxRecDepth 100000 in
theorem m_lapse (l : Launch) (G : va_G) (k : Nat → Nat) (sz : Nat) (h : Nat) (a : Nat → Nat) (d : Nat → ClassId) (v_taped : Int32) (v_size : Int32) (v_from : Int32) (v_behind : Int32) (v_hand : Int32) (v_value : Int32) (v_fault : Int32) (v_faultAt : Int32) (v_clock : Int32) (v_coin : Int32) (v_loan : Int32) (v_matched : Int32) (v_taxed : Int32) (v_paidStages : Int32) (v_grown : Int32) (v_pledges : Int32) (v_sums : Int32) (v_stages : Int32) (v_isStopped : Int32) (v_begun : Int32) (f_dues : Nat → Int32) (f_first : Nat → Int32) (f_every : Nat → Int32) (f_filled : Nat → Int32) (f_due : Nat → Int32) (f_rule : Nat → Int32) (f_isLapsed : Nat → Int32) (f_lapsedAt : Nat → Int32) (f_isThere : Nat → Int32) (f_counts : Nat → Int32) (x1 : Int32) (hPd : mPd v_pledges f_dues) (hp1 : 0 ≤ x1.toInt) (hp2 : x1.toInt < v_pledges.toInt) : Met l yX12_lapse (Cond.code yX12_lapse cX12_lapse 4 none :: tb) ({ frames := 2, cells := 0, slots := 0, locals := 45 } : Room) (va_Pc [.ref h, .int x1] (cP G k [(h, .inr (12, [.ref (a 0), .ref (a 1), .ref (a 2), .ref (a 3), .int v_taped, .int v_size, .int v_from, .int v_behind, .int v_hand, .int v_value, .int v_fault, .int v_faultAt, .ref (a 4), .int v_clock, .int v_coin, .int v_loan, .int v_matched, .int v_taxed, .int v_paidStages, .int v_grown, .int v_pledges, .int v_sums, .int v_stages, .int v_isStopped, .ref (a 5), .ref (a 6), .ref (a 7), .ref (a 8), .ref (a 9), .ref (a 10), .ref (a 11), .ref (a 12), .ref (a 13), .ref (a 14), .ref (a 15), .ref (a 16), .ref (a 17), .ref (a 18), .ref (a 19), .ref (a 20), .ref (a 21), .ref (a 22), .ref (a 23), .ref (a 24), .ref (a 25), .ref (a 26), .ref (a 27), .ref (a 28), .ref (a 29), .ref (a 30), .int v_begun, .ref (a 31), .ref (a 32)])), ((a 14), .inl ((d 14), 60, .inl f_dues)), ((a 12), .inl ((d 12), 60, .inl f_first)), ((a 13), .inl ((d 13), 60, .inl f_every)), ((a 19), .inl ((d 19), 5040, .inl f_filled)), ((a 18), .inl ((d 18), 5040, .inl f_due)), ((a 0), .inl ((d 0), 9, .inl f_rule)), ((a 16), .inl ((d 16), 60, .inl f_isLapsed)), ((a 15), .inl ((d 15), 60, .inl f_lapsedAt)), ((a 20), .inl ((d 20), 5040, .inl f_isThere)), ((a 21), .inl ((d 21), 5040, .inl f_counts))] [((d 14), .int), ((d 12), .int), ((d 13), .int), ((d 19), .int), ((d 18), .int), ((d 0), .int), ((d 16), .boolean), ((d 15), .int), ((d 20), .boolean), ((d 21), .boolean)] sz)) (va_Qv (fun (u : (Nat → Int32) × (Nat → Int32) × (Nat → Int32) × (Nat → Int32)) => match u with | (g_isLapsed, g_lapsedAt, g_isThere, g_counts) => True) (cB G (fun u => match u with | (g_isLapsed, g_lapsedAt, g_isThere, g_counts) => [(h, .inr (12, [.ref (a 0), .ref (a 1), .ref (a 2), .ref (a 3), .int v_taped, .int v_size, .int v_from, .int v_behind, .int v_hand, .int v_value, .int v_fault, .int v_faultAt, .ref (a 4), .int v_clock, .int v_coin, .int v_loan, .int v_matched, .int v_taxed, .int v_paidStages, .int v_grown, .int v_pledges, .int v_sums, .int v_stages, .int v_isStopped, .ref (a 5), .ref (a 6), .ref (a 7), .ref (a 8), .ref (a 9), .ref (a 10), .ref (a 11), .ref (a 12), .ref (a 13), .ref (a 14), .ref (a 15), .ref (a 16), .ref (a 17), .ref (a 18), .ref (a 19), .ref (a 20), .ref (a 21), .ref (a 22), .ref (a 23), .ref (a 24), .ref (a 25), .ref (a 26), .ref (a 27), .ref (a 28), .ref (a 29), .ref (a 30), .int v_begun, .ref (a 31), .ref (a 32)])), ((a 14), .inl ((d 14), 60, .inl f_dues)), ((a 12), .inl ((d 12), 60, .inl f_first)), ((a 13), .inl ((d 13), 60, .inl f_every)), ((a 19), .inl ((d 19), 5040, .inl f_filled)), ((a 18), .inl ((d 18), 5040, .inl f_due)), ((a 0), .inl ((d 0), 9, .inl f_rule)), ((a 16), .inl ((d 16), 60, .inl g_isLapsed)), ((a 15), .inl ((d 15), 60, .inl g_lapsedAt)), ((a 20), .inl ((d 20), 5040, .inl g_isThere)), ((a 21), .inl ((d 21), 5040, .inl g_counts))]) (fun u => match u with | (g_isLapsed, g_lapsedAt, g_isThere, g_counts) => []) (va_A [(h, .inr (12, [.ref (a 0), .ref (a 1), .ref (a 2), .ref (a 3), .int v_taped, .int v_size, .int v_from, .int v_behind, .int v_hand, .int v_value, .int v_fault, .int v_faultAt, .ref (a 4), .int v_clock, .int v_coin, .int v_loan, .int v_matched, .int v_taxed, .int v_paidStages, .int v_grown, .int v_pledges, .int v_sums, .int v_stages, .int v_isStopped, .ref (a 5), .ref (a 6), .ref (a 7), .ref (a 8), .ref (a 9), .ref (a 10), .ref (a 11), .ref (a 12), .ref (a 13), .ref (a 14), .ref (a 15), .ref (a 16), .ref (a 17), .ref (a 18), .ref (a 19), .ref (a 20), .ref (a 21), .ref (a 22), .ref (a 23), .ref (a 24), .ref (a 25), .ref (a 26), .ref (a 27), .ref (a 28), .ref (a 29), .ref (a 30), .int v_begun, .ref (a 31), .ref (a 32)])), ((a 14), .inl ((d 14), 60, .inl f_dues)), ((a 12), .inl ((d 12), 60, .inl f_first)), ((a 13), .inl ((d 13), 60, .inl f_every)), ((a 19), .inl ((d 19), 5040, .inl f_filled)), ((a 18), .inl ((d 18), 5040, .inl f_due)), ((a 0), .inl ((d 0), 9, .inl f_rule)), ((a 16), .inl ((d 16), 60, .inl f_isLapsed)), ((a 15), .inl ((d 15), 60, .inl f_lapsedAt)), ((a 20), .inl ((d 20), 5040, .inl f_isThere)), ((a 21), .inl ((d 21), 5040, .inl f_counts))] sz)) (va_A [(h, .inr (12, [.ref (a 0), .ref (a 1), .ref (a 2), .ref (a 3), .int v_taped, .int v_size, .int v_from, .int v_behind, .int v_hand, .int v_value, .int v_fault, .int v_faultAt, .ref (a 4), .int v_clock, .int v_coin, .int v_loan, .int v_matched, .int v_taxed, .int v_paidStages, .int v_grown, .int v_pledges, .int v_sums, .int v_stages, .int v_isStopped, .ref (a 5), .ref (a 6), .ref (a 7), .ref (a 8), .ref (a 9), .ref (a 10), .ref (a 11), .ref (a 12), .ref (a 13), .ref (a 14), .ref (a 15), .ref (a 16), .ref (a 17), .ref (a 18), .ref (a 19), .ref (a 20), .ref (a 21), .ref (a 22), .ref (a 23), .ref (a 24), .ref (a 25), .ref (a 26), .ref (a 27), .ref (a 28), .ref (a 29), .ref (a 30), .int v_begun, .ref (a 31), .ref (a 32)])), ((a 14), .inl ((d 14), 60, .inl f_dues)), ((a 12), .inl ((d 12), 60, .inl f_first)), ((a 13), .inl ((d 13), 60, .inl f_every)), ((a 19), .inl ((d 19), 5040, .inl f_filled)), ((a 18), .inl ((d 18), 5040, .inl f_due)), ((a 0), .inl ((d 0), 9, .inl f_rule)), ((a 16), .inl ((d 16), 60, .inl f_isLapsed)), ((a 15), .inl ((d 15), 60, .inl f_lapsedAt)), ((a 20), .inl ((d 20), 5040, .inl f_isThere)), ((a 21), .inl ((d 21), 5040, .inl f_counts))] sz)) 0 0 (va_A [(h, .inr (12, [.ref (a 0), .ref (a 1), .ref (a 2), .ref (a 3), .int v_taped, .int v_size, .int v_from, .int v_behind, .int v_hand, .int v_value, .int v_fault, .int v_faultAt, .ref (a 4), .int v_clock, .int v_coin, .int v_loan, .int v_matched, .int v_taxed, .int v_paidStages, .int v_grown, .int v_pledges, .int v_sums, .int v_stages, .int v_isStopped, .ref (a 5), .ref (a 6), .ref (a 7), .ref (a 8), .ref (a 9), .ref (a 10), .ref (a 11), .ref (a 12), .ref (a 13), .ref (a 14), .ref (a 15), .ref (a 16), .ref (a 17), .ref (a 18), .ref (a 19), .ref (a 20), .ref (a 21), .ref (a 22), .ref (a 23), .ref (a 24), .ref (a 25), .ref (a 26), .ref (a 27), .ref (a 28), .ref (a 29), .ref (a 30), .int v_begun, .ref (a 31), .ref (a 32)])), ((a 14), .inl ((d 14), 60, .inl f_dues)), ((a 12), .inl ((d 12), 60, .inl f_first)), ((a 13), .inl ((d 13), 60, .inl f_every)), ((a 19), .inl ((d 19), 5040, .inl f_filled)), ((a 18), .inl ((d 18), 5040, .inl f_due)), ((a 0), .inl ((d 0), 9, .inl f_rule)), ((a 16), .inl ((d 16), 60, .inl f_isLapsed)), ((a 15), .inl ((d 15), 60, .inl f_lapsedAt)), ((a 20), .inl ((d 20), 5040, .inl f_isThere)), ((a 21), .inl ((d 21), 5040, .inl f_counts))] sz) := by
  refine ofC_v (cc := cX12_lapse) (maxL := 4) (ret := none) (by decide) rfl (Nat.le_of_ble_eq_true rfl) ?_
  intro p e s m args below meth c A ls Q F hr hin hlk St hl hQ
  have hx := F.1
  have hb := F.2.1
  have hl : lv_has ls 4 [(0, .ref h), (1, .int x1)] := hl
  have St : cS G k [(h, .inr (12, [.ref (a 0), .ref (a 1), .ref (a 2), .ref (a 3), .int v_taped, .int v_size, .int v_from, .int v_behind, .int v_hand, .int v_value, .int v_fault, .int v_faultAt, .ref (a 4), .int v_clock, .int v_coin, .int v_loan, .int v_matched, .int v_taxed, .int v_paidStages, .int v_grown, .int v_pledges, .int v_sums, .int v_stages, .int v_isStopped, .ref (a 5), .ref (a 6), .ref (a 7), .ref (a 8), .ref (a 9), .ref (a 10), .ref (a 11), .ref (a 12), .ref (a 13), .ref (a 14), .ref (a 15), .ref (a 16), .ref (a 17), .ref (a 18), .ref (a 19), .ref (a 20), .ref (a 21), .ref (a 22), .ref (a 23), .ref (a 24), .ref (a 25), .ref (a 26), .ref (a 27), .ref (a 28), .ref (a 29), .ref (a 30), .int v_begun, .ref (a 31), .ref (a 32)])), ((a 14), .inl ((d 14), 60, .inl f_dues)), ((a 12), .inl ((d 12), 60, .inl f_first)), ((a 13), .inl ((d 13), 60, .inl f_every)), ((a 19), .inl ((d 19), 5040, .inl f_filled)), ((a 18), .inl ((d 18), 5040, .inl f_due)), ((a 0), .inl ((d 0), 9, .inl f_rule)), ((a 16), .inl ((d 16), 60, .inl f_isLapsed)), ((a 15), .inl ((d 15), 60, .inl f_lapsedAt)), ((a 20), .inl ((d 20), 5040, .inl f_isThere)), ((a 21), .inl ((d 21), 5040, .inl f_counts))] [((d 14), .int), ((d 12), .int), ((d 13), .int), ((d 19), .int), ((d 18), .int), ((d 0), .int), ((d 16), .boolean), ((d 15), .int), ((d 20), .boolean), ((d 21), .boolean)] A s s.heap [] := St
  have hpd := hPd.1
  have y0 : (0 : Int32).toInt = 0 := by decide
  refine lv_aload_n hx hb dX12_lapse_0 rfl (lv_at hl 0 rfl) ?_
  refine cs_get F St 0 rfl rfl inX12 35 (by decide) kf_X12_153 rfl dX12_lapse_1 ?_
  refine lv_iload_n hx hb dX12_lapse_4 rfl (lv_at hl 1 rfl) ?_
  refine cs_zld F St 7 6 rfl rfl (vp_in_iff.mpr ⟨by omega, by omega⟩) dX12_lapse_5 ?_
  refine lv_topi (fun y_1 ey_1 => ?_)
  refine lv_if_ne (tgt := 23) hx hb dX12_lapse_6 (by decide) (fun c6 => ?_) (fun c6 => ?_)
  ·
    have i6 := ci_ne (x := y_1) (y := 0) rfl (show (0 : Int32).toInt = 0 by decide) c6
    exact cs_vret F hr hlk hQ St (f_isLapsed, f_lapsedAt, f_isThere, f_counts) (by trivial) [0, 1, 2, 3, 4, 5, 6, 7, 8, 9, 10] rfl (by decide) [] rfl (by decide) (by decide) dX12_lapse_23
  ·
    have i6 := ci_eq (x := y_1) (y := 0) rfl (show (0 : Int32).toInt = 0 by decide) c6
    refine lv_aload_n hx hb dX12_lapse_9 rfl (lv_at hl 0 rfl) ?_
    refine lv_iload_n hx hb dX12_lapse_10 rfl (lv_at hl 1 rfl) ?_
    refine cs_i St [0, 1, 9, 2, 3, 4, 5] [6, 7, 8, 10] (wc := [(h, .inr (12, [.ref (a 0), .ref (a 1), .ref (a 2), .ref (a 3), .int v_taped, .int v_size, .int v_from, .int v_behind, .int v_hand, .int v_value, .int v_fault, .int v_faultAt, .ref (a 4), .int v_clock, .int v_coin, .int v_loan, .int v_matched, .int v_taxed, .int v_paidStages, .int v_grown, .int v_pledges, .int v_sums, .int v_stages, .int v_isStopped, .ref (a 5), .ref (a 6), .ref (a 7), .ref (a 8), .ref (a 9), .ref (a 10), .ref (a 11), .ref (a 12), .ref (a 13), .ref (a 14), .ref (a 15), .ref (a 16), .ref (a 17), .ref (a 18), .ref (a 19), .ref (a 20), .ref (a 21), .ref (a 22), .ref (a 23), .ref (a 24), .ref (a 25), .ref (a 26), .ref (a 27), .ref (a 28), .ref (a 29), .ref (a 30), .int v_begun, .ref (a 31), .ref (a 32)])), ((a 14), .inl ((d 14), 60, .inl f_dues)), ((a 20), .inl ((d 20), 5040, .inl f_isThere)), ((a 12), .inl ((d 12), 60, .inl f_first)), ((a 13), .inl ((d 13), 60, .inl f_every)), ((a 19), .inl ((d 19), 5040, .inl f_filled)), ((a 18), .inl ((d 18), 5040, .inl f_due))]) (wr := [((a 0), .inl ((d 0), 9, .inl f_rule)), ((a 16), .inl ((d 16), 60, .inl f_isLapsed)), ((a 15), .inl ((d 15), 60, .inl f_lapsedAt)), ((a 21), .inl ((d 21), 5040, .inl f_counts))]) rfl rfl (by decide) (by decide) (va_runV (As := [.int x1]) (rest := []) F (m_overdue l G k _ h a d v_taped v_size v_from v_behind v_hand v_value v_fault v_faultAt v_clock v_coin v_loan v_matched v_taxed v_paidStages v_grown v_pledges v_sums v_stages v_isStopped v_begun f_dues f_isThere f_first f_every f_filled f_due x1 hPd (by omega) (by omega)) (cwVt F mf_X12_overdue km_X12_279 rfl rfl ⟨Nat.le_of_ble_eq_true rfl, Nat.le_of_ble_eq_true rfl⟩) (cs_preV St [0, 1, 9, 2, 3, 4, 5] rfl (by decide) [0, 8, 1, 2, 3, 4] rfl (ci := 12) (q0 := 0) rfl rfl) rfl rfl hl.1 rfl (lv_room (Nat.le_of_ble_eq_true rfl)) dX12_lapse_11 ⟨Nat.le_of_ble_eq_true rfl, Nat.le_of_ble_eq_true rfl⟩) (fun r_2 u_3 H locs hw St => ?_)
    try dsimp only at hw
    have St : cS G k [((a 0), .inl ((d 0), 9, .inl f_rule)), ((a 16), .inl ((d 16), 60, .inl f_isLapsed)), ((a 15), .inl ((d 15), 60, .inl f_lapsedAt)), ((a 21), .inl ((d 21), 5040, .inl f_counts)), (h, .inr (12, [.ref (a 0), .ref (a 1), .ref (a 2), .ref (a 3), .int v_taped, .int v_size, .int v_from, .int v_behind, .int v_hand, .int v_value, .int v_fault, .int v_faultAt, .ref (a 4), .int v_clock, .int v_coin, .int v_loan, .int v_matched, .int v_taxed, .int v_paidStages, .int v_grown, .int v_pledges, .int v_sums, .int v_stages, .int v_isStopped, .ref (a 5), .ref (a 6), .ref (a 7), .ref (a 8), .ref (a 9), .ref (a 10), .ref (a 11), .ref (a 12), .ref (a 13), .ref (a 14), .ref (a 15), .ref (a 16), .ref (a 17), .ref (a 18), .ref (a 19), .ref (a 20), .ref (a 21), .ref (a 22), .ref (a 23), .ref (a 24), .ref (a 25), .ref (a 26), .ref (a 27), .ref (a 28), .ref (a 29), .ref (a 30), .int v_begun, .ref (a 31), .ref (a 32)])), ((a 14), .inl ((d 14), 60, .inl f_dues)), ((a 20), .inl ((d 20), 5040, .inl f_isThere)), ((a 12), .inl ((d 12), 60, .inl f_first)), ((a 13), .inl ((d 13), 60, .inl f_every)), ((a 19), .inl ((d 19), 5040, .inl f_filled)), ((a 18), .inl ((d 18), 5040, .inl f_due))] [((d 14), .int), ((d 12), .int), ((d 13), .int), ((d 19), .int), ((d 18), .int), ((d 0), .int), ((d 16), .boolean), ((d 15), .int), ((d 20), .boolean), ((d 21), .boolean)] A s H locs := St
    refine lv_aload_n hx hb dX12_lapse_14 rfl (lv_at hl 0 rfl) ?_
    refine cs_get F St 4 rfl rfl inX12 0 (by decide) kf_X12_114 rfl dX12_lapse_15 ?_
    refine lv_iconst (v := 4) hx hb dX12_lapse_18 (by decide) ?_
    refine cs_ild F St 0 5 rfl rfl (vp_in_iff.mpr (by decide)) dX12_lapse_19 ?_
    refine lv_topi (fun y_4 ey_4 => ?_)
    refine lv_icmp_ge (tgt := 24) hx hb dX12_lapse_20 (by decide) (fun c20 => ?_) (fun c20 => ?_)
    ·
      have i20 := ci_le (x := y_4) (y := r_2) rfl rfl c20
      refine lv_aload_n hx hb dX12_lapse_24 rfl (lv_at hl 0 rfl) ?_
      refine cs_get F St 4 rfl rfl inX12 35 (by decide) kf_X12_153 rfl dX12_lapse_25 ?_
      refine lv_iload_n hx hb dX12_lapse_28 rfl (lv_at hl 1 rfl) ?_
      refine lv_iconst (v := 1) hx hb dX12_lapse_29 (by decide) ?_
      refine cs_zst F St 1 6 rfl rfl (vp_in_iff.mpr ⟨by omega, by omega⟩) (w' := [((a 0), .inl ((d 0), 9, .inl f_rule)), ((a 16), .inl ((d 16), 60, .inl (upd f_isLapsed (x1 : Int32).toNatClampNeg (vp_nar .boolean 1)))), ((a 15), .inl ((d 15), 60, .inl f_lapsedAt)), ((a 21), .inl ((d 21), 5040, .inl f_counts)), (h, .inr (12, [.ref (a 0), .ref (a 1), .ref (a 2), .ref (a 3), .int v_taped, .int v_size, .int v_from, .int v_behind, .int v_hand, .int v_value, .int v_fault, .int v_faultAt, .ref (a 4), .int v_clock, .int v_coin, .int v_loan, .int v_matched, .int v_taxed, .int v_paidStages, .int v_grown, .int v_pledges, .int v_sums, .int v_stages, .int v_isStopped, .ref (a 5), .ref (a 6), .ref (a 7), .ref (a 8), .ref (a 9), .ref (a 10), .ref (a 11), .ref (a 12), .ref (a 13), .ref (a 14), .ref (a 15), .ref (a 16), .ref (a 17), .ref (a 18), .ref (a 19), .ref (a 20), .ref (a 21), .ref (a 22), .ref (a 23), .ref (a 24), .ref (a 25), .ref (a 26), .ref (a 27), .ref (a 28), .ref (a 29), .ref (a 30), .int v_begun, .ref (a 31), .ref (a 32)])), ((a 14), .inl ((d 14), 60, .inl f_dues)), ((a 20), .inl ((d 20), 5040, .inl f_isThere)), ((a 12), .inl ((d 12), 60, .inl f_first)), ((a 13), .inl ((d 13), 60, .inl f_every)), ((a 19), .inl ((d 19), 5040, .inl f_filled)), ((a 18), .inl ((d 18), 5040, .inl f_due))]) rfl dX12_lapse_30 (fun H locs St => ?_)
      obtain ⟨f_5, ef_5⟩ : ∃ zz : Nat → Int32, zz = upd f_isLapsed (x1 : Int32).toNatClampNeg (vp_nar .boolean 1) := ⟨_, rfl⟩
      rw [← ef_5] at St
      refine lv_aload_n hx hb dX12_lapse_31 rfl (lv_at hl 0 rfl) ?_
      refine cs_get F St 4 rfl rfl inX12 34 (by decide) kf_X12_150 rfl dX12_lapse_32 ?_
      refine lv_iload_n hx hb dX12_lapse_35 rfl (lv_at hl 1 rfl) ?_
      refine cs_ild F St 2 7 rfl rfl (vp_in_iff.mpr ⟨by omega, by omega⟩) dX12_lapse_36 ?_
      refine lv_topi (fun y_6 ey_6 => ?_)
      refine lv_iconst (v := (-1)) hx hb dX12_lapse_37 (by decide) ?_
      refine lv_icmp_ne (tgt := 51) hx hb dX12_lapse_38 (by decide) (fun c38 => ?_) (fun c38 => ?_)
      ·
        have i38 := ci_ne (x := y_6) (y := (-1)) rfl (show ((-1) : Int32).toInt = -1 by decide) c38
        refine lv_iconst (v := 0) hx hb dX12_lapse_51 (by decide) ?_
        refine lv_istore_n (lv' := [(2, .int 0), (0, .ref h), (1, .int x1)]) hx hb dX12_lapse_52 rfl hl (by decide) rfl (fun ls hl => ?_)
        have lp53 : ∀ (n : Nat) (kk : Int32) (ft : Nat → Int32) (fc : Nat → Int32) (H : Heap) (locs : List Loc) (ls : Array Slot), (0 ≤ kk.toInt ∧ kk.toInt ≤ 0 + 84) → ((6000 - kk.toInt).toNat) < n → cS G k [((a 0), .inl ((d 0), 9, .inl f_rule)), ((a 16), .inl ((d 16), 60, .inl f_5)), ((a 15), .inl ((d 15), 60, .inl f_lapsedAt)), ((a 21), .inl ((d 21), 5040, .inl fc)), (h, .inr (12, [.ref (a 0), .ref (a 1), .ref (a 2), .ref (a 3), .int v_taped, .int v_size, .int v_from, .int v_behind, .int v_hand, .int v_value, .int v_fault, .int v_faultAt, .ref (a 4), .int v_clock, .int v_coin, .int v_loan, .int v_matched, .int v_taxed, .int v_paidStages, .int v_grown, .int v_pledges, .int v_sums, .int v_stages, .int v_isStopped, .ref (a 5), .ref (a 6), .ref (a 7), .ref (a 8), .ref (a 9), .ref (a 10), .ref (a 11), .ref (a 12), .ref (a 13), .ref (a 14), .ref (a 15), .ref (a 16), .ref (a 17), .ref (a 18), .ref (a 19), .ref (a 20), .ref (a 21), .ref (a 22), .ref (a 23), .ref (a 24), .ref (a 25), .ref (a 26), .ref (a 27), .ref (a 28), .ref (a 29), .ref (a 30), .int v_begun, .ref (a 31), .ref (a 32)])), ((a 14), .inl ((d 14), 60, .inl f_dues)), ((a 20), .inl ((d 20), 5040, .inl ft)), ((a 12), .inl ((d 12), 60, .inl f_first)), ((a 13), .inl ((d 13), 60, .inl f_every)), ((a 19), .inl ((d 19), 5040, .inl f_filled)), ((a 18), .inl ((d 18), 5040, .inl f_due))] [((d 14), .int), ((d 12), .int), ((d 13), .int), ((d 19), .int), ((d 18), .int), ((d 0), .int), ((d 16), .boolean), ((d 15), .int), ((d 20), .boolean), ((d 21), .boolean)] A s H locs → lv_has ls 4 [(2, .int kk), (0, .ref h), (1, .int x1)] → W p l e ({ frames := 2, cells := 0, slots := 0, locals := 45 } : Room) s m args below meth c H locs 0 0 Q (F0 m 53 ls []) := by
          intro n
          induction n with
          | zero => intro kk ft fc H locs ls hI hn; exact absurd hn (Nat.not_lt_zero _)
          | succ n ih =>
            intro kk ft fc H locs ls hI hn St hl
            obtain ⟨hI0, hI1⟩ := hI
            refine lv_iload_n hx hb dX12_lapse_53 rfl (lv_at hl 0 rfl) ?_
            refine lv_aload_n hx hb dX12_lapse_54 rfl (lv_at hl 1 rfl) ?_
            refine cs_get F St 4 rfl rfl inX12 33 (by decide) kf_X12_147 rfl dX12_lapse_55 ?_
            refine lv_iload_n hx hb dX12_lapse_58 rfl (lv_at hl 2 rfl) ?_
            refine cs_ild F St 5 0 rfl rfl (vp_in_iff.mpr ⟨by omega, by omega⟩) dX12_lapse_59 ?_
            refine lv_topi (fun y_7 ey_7 => ?_)
            have hdy_7 := mPd_d hPd (by omega) (by omega) ey_7
            refine lv_icmp_ge (tgt := 121) hx hb dX12_lapse_60 (by decide) (fun c60 => ?_) (fun c60 => ?_)
            ·
              have i60 := ci_le (x := y_7) (y := kk) rfl rfl c60
              exact cs_vret F hr hlk hQ St (f_5, f_lapsedAt, ft, fc) (by trivial) [4, 5, 7, 8, 9, 10, 0, 1, 2, 6, 3] rfl (by decide) [] rfl (by decide) (by decide) dX12_lapse_121
            ·
              have i60 := ci_nle (x := y_7) (y := kk) rfl rfl c60
              refine lv_bipush (v := 84) hx hb dX12_lapse_63 (by decide) ?_
              refine lv_iload_n hx hb dX12_lapse_65 rfl (lv_at hl 2 rfl) ?_
              refine lv_imul hx hb dX12_lapse_66 ?_
              refine lv_topi (fun y_8 ey_8 => ?_)
              first | have jy_8 : y_8.toInt = 84 * x1.toInt := (by have q9 := ci_mul (x := 84) (y := x1) (show (84 : Int32).toInt = 84 by decide) rfl ey_8; omega) | have jy_8 := ci_mul (x := 84) (y := x1) (show (84 : Int32).toInt = 84 by decide) rfl ey_8
              refine lv_iload_n hx hb dX12_lapse_67 rfl (lv_at hl 0 rfl) ?_
              refine lv_iadd hx hb dX12_lapse_68 ?_
              refine lv_topi (fun y_9 ey_9 => ?_)
              first | have jy_9 : y_9.toInt = y_8.toInt + kk.toInt := (by have q9 := ci_add (x := y_8) (y := kk) rfl rfl ey_9; omega) | have jy_9 := ci_add (x := y_8) (y := kk) rfl rfl ey_9
              refine lv_istore_n (lv' := [(3, .int y_9), (2, .int kk), (0, .ref h), (1, .int x1)]) hx hb dX12_lapse_69 rfl hl (by decide) rfl (fun ls hl => ?_)
              refine lv_aload_n hx hb dX12_lapse_70 rfl (lv_at hl 2 rfl) ?_
              refine cs_get F St 4 rfl rfl inX12 38 (by decide) kf_X12_162 rfl dX12_lapse_71 ?_
              refine lv_iload_n hx hb dX12_lapse_74 rfl (lv_at hl 0 rfl) ?_
              refine cs_ild F St 9 3 rfl rfl (vp_in_iff.mpr ⟨by omega, by omega⟩) dX12_lapse_75 ?_
              refine lv_topi (fun y_10 ey_10 => ?_)
              refine lv_aload_n hx hb dX12_lapse_76 rfl (lv_at hl 2 rfl) ?_
              refine cs_get F St 4 rfl rfl inX12 37 (by decide) kf_X12_159 rfl dX12_lapse_77 ?_
              refine lv_iload_n hx hb dX12_lapse_80 rfl (lv_at hl 0 rfl) ?_
              refine cs_ild F St 10 4 rfl rfl (vp_in_iff.mpr ⟨by omega, by omega⟩) dX12_lapse_81 ?_
              refine lv_topi (fun y_11 ey_11 => ?_)
              refine lv_icmp_ne (tgt := 88) hx hb dX12_lapse_82 (by decide) (fun c82 => ?_) (fun c82 => ?_)
              ·
                have i82 := ci_ne (x := y_10) (y := y_11) rfl rfl c82
                refine lv_aload_n hx hb dX12_lapse_88 rfl (lv_at hl 2 rfl) ?_
                refine cs_get F St 4 rfl rfl inX12 39 (by decide) kf_X12_165 rfl dX12_lapse_89 ?_
                refine lv_iload_n hx hb dX12_lapse_92 rfl (lv_at hl 0 rfl) ?_
                refine lv_iconst (v := 0) hx hb dX12_lapse_93 (by decide) ?_
                refine cs_zst F St 6 8 rfl rfl (vp_in_iff.mpr ⟨by omega, by omega⟩) (w' := [((a 0), .inl ((d 0), 9, .inl f_rule)), ((a 16), .inl ((d 16), 60, .inl f_5)), ((a 15), .inl ((d 15), 60, .inl f_lapsedAt)), ((a 21), .inl ((d 21), 5040, .inl fc)), (h, .inr (12, [.ref (a 0), .ref (a 1), .ref (a 2), .ref (a 3), .int v_taped, .int v_size, .int v_from, .int v_behind, .int v_hand, .int v_value, .int v_fault, .int v_faultAt, .ref (a 4), .int v_clock, .int v_coin, .int v_loan, .int v_matched, .int v_taxed, .int v_paidStages, .int v_grown, .int v_pledges, .int v_sums, .int v_stages, .int v_isStopped, .ref (a 5), .ref (a 6), .ref (a 7), .ref (a 8), .ref (a 9), .ref (a 10), .ref (a 11), .ref (a 12), .ref (a 13), .ref (a 14), .ref (a 15), .ref (a 16), .ref (a 17), .ref (a 18), .ref (a 19), .ref (a 20), .ref (a 21), .ref (a 22), .ref (a 23), .ref (a 24), .ref (a 25), .ref (a 26), .ref (a 27), .ref (a 28), .ref (a 29), .ref (a 30), .int v_begun, .ref (a 31), .ref (a 32)])), ((a 14), .inl ((d 14), 60, .inl f_dues)), ((a 20), .inl ((d 20), 5040, .inl (upd ft (y_9 : Int32).toNatClampNeg (vp_nar .boolean 0)))), ((a 12), .inl ((d 12), 60, .inl f_first)), ((a 13), .inl ((d 13), 60, .inl f_every)), ((a 19), .inl ((d 19), 5040, .inl f_filled)), ((a 18), .inl ((d 18), 5040, .inl f_due))]) rfl dX12_lapse_94 (fun H locs St => ?_)
                obtain ⟨f_12, ef_12⟩ : ∃ zz : Nat → Int32, zz = upd ft (y_9 : Int32).toNatClampNeg (vp_nar .boolean 0) := ⟨_, rfl⟩
                rw [← ef_12] at St
                refine lv_aload_n hx hb dX12_lapse_95 rfl (lv_at hl 2 rfl) ?_
                refine lv_iload_n hx hb dX12_lapse_96 rfl (lv_at hl 3 rfl) ?_
                refine lv_iload_n hx hb dX12_lapse_97 rfl (lv_at hl 1 rfl) ?_
                refine cs_i St [4, 7, 8] [0, 1, 2, 3, 5, 6, 9, 10] (wc := [(h, .inr (12, [.ref (a 0), .ref (a 1), .ref (a 2), .ref (a 3), .int v_taped, .int v_size, .int v_from, .int v_behind, .int v_hand, .int v_value, .int v_fault, .int v_faultAt, .ref (a 4), .int v_clock, .int v_coin, .int v_loan, .int v_matched, .int v_taxed, .int v_paidStages, .int v_grown, .int v_pledges, .int v_sums, .int v_stages, .int v_isStopped, .ref (a 5), .ref (a 6), .ref (a 7), .ref (a 8), .ref (a 9), .ref (a 10), .ref (a 11), .ref (a 12), .ref (a 13), .ref (a 14), .ref (a 15), .ref (a 16), .ref (a 17), .ref (a 18), .ref (a 19), .ref (a 20), .ref (a 21), .ref (a 22), .ref (a 23), .ref (a 24), .ref (a 25), .ref (a 26), .ref (a 27), .ref (a 28), .ref (a 29), .ref (a 30), .int v_begun, .ref (a 31), .ref (a 32)])), ((a 12), .inl ((d 12), 60, .inl f_first)), ((a 13), .inl ((d 13), 60, .inl f_every))]) (wr := [((a 0), .inl ((d 0), 9, .inl f_rule)), ((a 16), .inl ((d 16), 60, .inl f_5)), ((a 15), .inl ((d 15), 60, .inl f_lapsedAt)), ((a 21), .inl ((d 21), 5040, .inl fc)), ((a 14), .inl ((d 14), 60, .inl f_dues)), ((a 20), .inl ((d 20), 5040, .inl f_12)), ((a 19), .inl ((d 19), 5040, .inl f_filled)), ((a 18), .inl ((d 18), 5040, .inl f_due))]) rfl rfl (by decide) (by decide) (va_runV (As := [.int x1, .int kk]) (rest := []) F (m_monthOf l G k _ h a d v_taped v_size v_from v_behind v_hand v_value v_fault v_faultAt v_clock v_coin v_loan v_matched v_taxed v_paidStages v_grown v_pledges v_sums v_stages v_isStopped v_begun f_first f_every x1 kk (by omega) (by omega)) (cwVt F mf_X12_monthOf km_X12_240 rfl rfl ⟨Nat.le_of_ble_eq_true rfl, Nat.le_of_ble_eq_true rfl⟩) (cs_preV St [4, 7, 8] rfl (by decide) [1, 2] rfl (ci := 12) (q0 := 4) rfl rfl) rfl rfl hl.1 rfl (lv_room (Nat.le_of_ble_eq_true rfl)) dX12_lapse_98 ⟨Nat.le_of_ble_eq_true rfl, Nat.le_of_ble_eq_true rfl⟩) (fun r_13 u_14 H locs hw St => ?_)
                try dsimp only at hw
                have St : cS G k [((a 0), .inl ((d 0), 9, .inl f_rule)), ((a 16), .inl ((d 16), 60, .inl f_5)), ((a 15), .inl ((d 15), 60, .inl f_lapsedAt)), ((a 21), .inl ((d 21), 5040, .inl fc)), ((a 14), .inl ((d 14), 60, .inl f_dues)), ((a 20), .inl ((d 20), 5040, .inl f_12)), ((a 19), .inl ((d 19), 5040, .inl f_filled)), ((a 18), .inl ((d 18), 5040, .inl f_due)), (h, .inr (12, [.ref (a 0), .ref (a 1), .ref (a 2), .ref (a 3), .int v_taped, .int v_size, .int v_from, .int v_behind, .int v_hand, .int v_value, .int v_fault, .int v_faultAt, .ref (a 4), .int v_clock, .int v_coin, .int v_loan, .int v_matched, .int v_taxed, .int v_paidStages, .int v_grown, .int v_pledges, .int v_sums, .int v_stages, .int v_isStopped, .ref (a 5), .ref (a 6), .ref (a 7), .ref (a 8), .ref (a 9), .ref (a 10), .ref (a 11), .ref (a 12), .ref (a 13), .ref (a 14), .ref (a 15), .ref (a 16), .ref (a 17), .ref (a 18), .ref (a 19), .ref (a 20), .ref (a 21), .ref (a 22), .ref (a 23), .ref (a 24), .ref (a 25), .ref (a 26), .ref (a 27), .ref (a 28), .ref (a 29), .ref (a 30), .int v_begun, .ref (a 31), .ref (a 32)])), ((a 12), .inl ((d 12), 60, .inl f_first)), ((a 13), .inl ((d 13), 60, .inl f_every))] [((d 14), .int), ((d 12), .int), ((d 13), .int), ((d 19), .int), ((d 18), .int), ((d 0), .int), ((d 16), .boolean), ((d 15), .int), ((d 20), .boolean), ((d 21), .boolean)] A s H locs := St
                refine lv_aload_n hx hb dX12_lapse_101 rfl (lv_at hl 2 rfl) ?_
                refine cs_get F St 8 rfl rfl inX12 13 (by decide) kf_X12_230 rfl dX12_lapse_102 ?_
                refine lv_icmp_le (tgt := 115) hx hb dX12_lapse_105 (by decide) (fun c105 => ?_) (fun c105 => ?_)
                ·
                  have i105 := ci_le (x := r_13) (y := v_clock) rfl rfl c105
                  obtain ⟨y_15, ey_15⟩ : ∃ zz : Int32, zz = kk + 1 := ⟨_, rfl⟩
                  first | have jy_15 : y_15.toInt = kk.toInt + 1 := (by have q9 := ci_add (x := kk) rfl (show (1 : Int32).toInt = 1 by decide) ey_15; omega) | have jy_15 := ci_add (x := kk) rfl (show (1 : Int32).toInt = 1 by decide) ey_15
                  refine lv_iinc (v := y_15) (lv' := [(2, .int y_15), (3, .int y_9), (0, .ref h), (1, .int x1)]) hx hb dX12_lapse_115 hl (k := 1) rfl (by rw [ey_15]; rfl) (by decide) rfl (fun ls hl => ?_)
                  refine lv_goto (tgt := 53) hx hb dX12_lapse_118 (by decide) ?_
                  exact ih y_15 f_12 fc _ _ _ ⟨by omega, by omega⟩ (by omega) (cs_pick St [0, 1, 2, 3, 8, 4, 5, 9, 10, 6, 7] rfl (by decide) [0, 1, 2, 3, 4, 5, 6, 7, 8, 9] rfl) (lv_sub hl [0, 2, 3] rfl)
                ·
                  have i105 := ci_nle (x := r_13) (y := v_clock) rfl rfl c105
                  refine lv_aload_n hx hb dX12_lapse_108 rfl (lv_at hl 2 rfl) ?_
                  refine cs_get F St 8 rfl rfl inX12 40 (by decide) kf_X12_168 rfl dX12_lapse_109 ?_
                  refine lv_iload_n hx hb dX12_lapse_112 rfl (lv_at hl 0 rfl) ?_
                  refine lv_iconst (v := 0) hx hb dX12_lapse_113 (by decide) ?_
                  refine cs_zst F St 3 9 rfl rfl (vp_in_iff.mpr ⟨by omega, by omega⟩) (w' := [((a 0), .inl ((d 0), 9, .inl f_rule)), ((a 16), .inl ((d 16), 60, .inl f_5)), ((a 15), .inl ((d 15), 60, .inl f_lapsedAt)), ((a 21), .inl ((d 21), 5040, .inl (upd fc (y_9 : Int32).toNatClampNeg (vp_nar .boolean 0)))), ((a 14), .inl ((d 14), 60, .inl f_dues)), ((a 20), .inl ((d 20), 5040, .inl f_12)), ((a 19), .inl ((d 19), 5040, .inl f_filled)), ((a 18), .inl ((d 18), 5040, .inl f_due)), (h, .inr (12, [.ref (a 0), .ref (a 1), .ref (a 2), .ref (a 3), .int v_taped, .int v_size, .int v_from, .int v_behind, .int v_hand, .int v_value, .int v_fault, .int v_faultAt, .ref (a 4), .int v_clock, .int v_coin, .int v_loan, .int v_matched, .int v_taxed, .int v_paidStages, .int v_grown, .int v_pledges, .int v_sums, .int v_stages, .int v_isStopped, .ref (a 5), .ref (a 6), .ref (a 7), .ref (a 8), .ref (a 9), .ref (a 10), .ref (a 11), .ref (a 12), .ref (a 13), .ref (a 14), .ref (a 15), .ref (a 16), .ref (a 17), .ref (a 18), .ref (a 19), .ref (a 20), .ref (a 21), .ref (a 22), .ref (a 23), .ref (a 24), .ref (a 25), .ref (a 26), .ref (a 27), .ref (a 28), .ref (a 29), .ref (a 30), .int v_begun, .ref (a 31), .ref (a 32)])), ((a 12), .inl ((d 12), 60, .inl f_first)), ((a 13), .inl ((d 13), 60, .inl f_every))]) rfl dX12_lapse_114 (fun H locs St => ?_)
                  obtain ⟨f_16, ef_16⟩ : ∃ zz : Nat → Int32, zz = upd fc (y_9 : Int32).toNatClampNeg (vp_nar .boolean 0) := ⟨_, rfl⟩
                  rw [← ef_16] at St
                  obtain ⟨y_17, ey_17⟩ : ∃ zz : Int32, zz = kk + 1 := ⟨_, rfl⟩
                  first | have jy_17 : y_17.toInt = kk.toInt + 1 := (by have q9 := ci_add (x := kk) rfl (show (1 : Int32).toInt = 1 by decide) ey_17; omega) | have jy_17 := ci_add (x := kk) rfl (show (1 : Int32).toInt = 1 by decide) ey_17
                  refine lv_iinc (v := y_17) (lv' := [(2, .int y_17), (3, .int y_9), (0, .ref h), (1, .int x1)]) hx hb dX12_lapse_115 hl (k := 1) rfl (by rw [ey_17]; rfl) (by decide) rfl (fun ls hl => ?_)
                  refine lv_goto (tgt := 53) hx hb dX12_lapse_118 (by decide) ?_
                  exact ih y_17 f_12 f_16 _ _ _ ⟨by omega, by omega⟩ (by omega) (cs_pick St [0, 1, 2, 3, 8, 4, 5, 9, 10, 6, 7] rfl (by decide) [0, 1, 2, 3, 4, 5, 6, 7, 8, 9] rfl) (lv_sub hl [0, 2, 3] rfl)
              ·
                have i82 := ci_eq (x := y_10) (y := y_11) rfl rfl c82
                refine lv_goto (tgt := 115) hx hb dX12_lapse_85 (by decide) ?_
                obtain ⟨y_18, ey_18⟩ : ∃ zz : Int32, zz = kk + 1 := ⟨_, rfl⟩
                first | have jy_18 : y_18.toInt = kk.toInt + 1 := (by have q9 := ci_add (x := kk) rfl (show (1 : Int32).toInt = 1 by decide) ey_18; omega) | have jy_18 := ci_add (x := kk) rfl (show (1 : Int32).toInt = 1 by decide) ey_18
                refine lv_iinc (v := y_18) (lv' := [(2, .int y_18), (3, .int y_9), (0, .ref h), (1, .int x1)]) hx hb dX12_lapse_115 hl (k := 1) rfl (by rw [ey_18]; rfl) (by decide) rfl (fun ls hl => ?_)
                refine lv_goto (tgt := 53) hx hb dX12_lapse_118 (by decide) ?_
                exact ih y_18 ft fc _ _ _ ⟨by omega, by omega⟩ (by omega) St (lv_sub hl [0, 2, 3] rfl)
        exact lp53 6001 0 f_isThere f_counts _ _ _ ⟨by omega, by omega⟩ (by omega) St (lv_sub hl [0, 1, 2] rfl)
      ·
        have i38 := ci_eq (x := y_6) (y := (-1)) rfl (show ((-1) : Int32).toInt = -1 by decide) c38
        refine lv_aload_n hx hb dX12_lapse_41 rfl (lv_at hl 0 rfl) ?_
        refine cs_get F St 4 rfl rfl inX12 34 (by decide) kf_X12_150 rfl dX12_lapse_42 ?_
        refine lv_iload_n hx hb dX12_lapse_45 rfl (lv_at hl 1 rfl) ?_
        refine lv_aload_n hx hb dX12_lapse_46 rfl (lv_at hl 0 rfl) ?_
        refine cs_get F St 4 rfl rfl inX12 13 (by decide) kf_X12_230 rfl dX12_lapse_47 ?_
        refine cs_ist F St 2 7 rfl rfl (vp_in_iff.mpr ⟨by omega, by omega⟩) (w' := [((a 0), .inl ((d 0), 9, .inl f_rule)), ((a 16), .inl ((d 16), 60, .inl f_5)), ((a 15), .inl ((d 15), 60, .inl (upd f_lapsedAt (x1 : Int32).toNatClampNeg v_clock))), ((a 21), .inl ((d 21), 5040, .inl f_counts)), (h, .inr (12, [.ref (a 0), .ref (a 1), .ref (a 2), .ref (a 3), .int v_taped, .int v_size, .int v_from, .int v_behind, .int v_hand, .int v_value, .int v_fault, .int v_faultAt, .ref (a 4), .int v_clock, .int v_coin, .int v_loan, .int v_matched, .int v_taxed, .int v_paidStages, .int v_grown, .int v_pledges, .int v_sums, .int v_stages, .int v_isStopped, .ref (a 5), .ref (a 6), .ref (a 7), .ref (a 8), .ref (a 9), .ref (a 10), .ref (a 11), .ref (a 12), .ref (a 13), .ref (a 14), .ref (a 15), .ref (a 16), .ref (a 17), .ref (a 18), .ref (a 19), .ref (a 20), .ref (a 21), .ref (a 22), .ref (a 23), .ref (a 24), .ref (a 25), .ref (a 26), .ref (a 27), .ref (a 28), .ref (a 29), .ref (a 30), .int v_begun, .ref (a 31), .ref (a 32)])), ((a 14), .inl ((d 14), 60, .inl f_dues)), ((a 20), .inl ((d 20), 5040, .inl f_isThere)), ((a 12), .inl ((d 12), 60, .inl f_first)), ((a 13), .inl ((d 13), 60, .inl f_every)), ((a 19), .inl ((d 19), 5040, .inl f_filled)), ((a 18), .inl ((d 18), 5040, .inl f_due))]) rfl dX12_lapse_50 (fun H locs St => ?_)
        obtain ⟨f_19, ef_19⟩ : ∃ zz : Nat → Int32, zz = upd f_lapsedAt (x1 : Int32).toNatClampNeg v_clock := ⟨_, rfl⟩
        rw [← ef_19] at St
        refine lv_iconst (v := 0) hx hb dX12_lapse_51 (by decide) ?_
        refine lv_istore_n (lv' := [(2, .int 0), (0, .ref h), (1, .int x1)]) hx hb dX12_lapse_52 rfl hl (by decide) rfl (fun ls hl => ?_)
        have lp53 : ∀ (n : Nat) (kk : Int32) (ft : Nat → Int32) (fc : Nat → Int32) (H : Heap) (locs : List Loc) (ls : Array Slot), (0 ≤ kk.toInt ∧ kk.toInt ≤ 0 + 84) → ((6000 - kk.toInt).toNat) < n → cS G k [((a 0), .inl ((d 0), 9, .inl f_rule)), ((a 16), .inl ((d 16), 60, .inl f_5)), ((a 15), .inl ((d 15), 60, .inl f_19)), ((a 21), .inl ((d 21), 5040, .inl fc)), (h, .inr (12, [.ref (a 0), .ref (a 1), .ref (a 2), .ref (a 3), .int v_taped, .int v_size, .int v_from, .int v_behind, .int v_hand, .int v_value, .int v_fault, .int v_faultAt, .ref (a 4), .int v_clock, .int v_coin, .int v_loan, .int v_matched, .int v_taxed, .int v_paidStages, .int v_grown, .int v_pledges, .int v_sums, .int v_stages, .int v_isStopped, .ref (a 5), .ref (a 6), .ref (a 7), .ref (a 8), .ref (a 9), .ref (a 10), .ref (a 11), .ref (a 12), .ref (a 13), .ref (a 14), .ref (a 15), .ref (a 16), .ref (a 17), .ref (a 18), .ref (a 19), .ref (a 20), .ref (a 21), .ref (a 22), .ref (a 23), .ref (a 24), .ref (a 25), .ref (a 26), .ref (a 27), .ref (a 28), .ref (a 29), .ref (a 30), .int v_begun, .ref (a 31), .ref (a 32)])), ((a 14), .inl ((d 14), 60, .inl f_dues)), ((a 20), .inl ((d 20), 5040, .inl ft)), ((a 12), .inl ((d 12), 60, .inl f_first)), ((a 13), .inl ((d 13), 60, .inl f_every)), ((a 19), .inl ((d 19), 5040, .inl f_filled)), ((a 18), .inl ((d 18), 5040, .inl f_due))] [((d 14), .int), ((d 12), .int), ((d 13), .int), ((d 19), .int), ((d 18), .int), ((d 0), .int), ((d 16), .boolean), ((d 15), .int), ((d 20), .boolean), ((d 21), .boolean)] A s H locs → lv_has ls 4 [(2, .int kk), (0, .ref h), (1, .int x1)] → W p l e ({ frames := 2, cells := 0, slots := 0, locals := 45 } : Room) s m args below meth c H locs 0 0 Q (F0 m 53 ls []) := by
          intro n
          induction n with
          | zero => intro kk ft fc H locs ls hI hn; exact absurd hn (Nat.not_lt_zero _)
          | succ n ih =>
            intro kk ft fc H locs ls hI hn St hl
            obtain ⟨hI0, hI1⟩ := hI
            refine lv_iload_n hx hb dX12_lapse_53 rfl (lv_at hl 0 rfl) ?_
            refine lv_aload_n hx hb dX12_lapse_54 rfl (lv_at hl 1 rfl) ?_
            refine cs_get F St 4 rfl rfl inX12 33 (by decide) kf_X12_147 rfl dX12_lapse_55 ?_
            refine lv_iload_n hx hb dX12_lapse_58 rfl (lv_at hl 2 rfl) ?_
            refine cs_ild F St 5 0 rfl rfl (vp_in_iff.mpr ⟨by omega, by omega⟩) dX12_lapse_59 ?_
            refine lv_topi (fun y_20 ey_20 => ?_)
            have hdy_20 := mPd_d hPd (by omega) (by omega) ey_20
            refine lv_icmp_ge (tgt := 121) hx hb dX12_lapse_60 (by decide) (fun c60 => ?_) (fun c60 => ?_)
            ·
              have i60 := ci_le (x := y_20) (y := kk) rfl rfl c60
              exact cs_vret F hr hlk hQ St (f_5, f_19, ft, fc) (by trivial) [4, 5, 7, 8, 9, 10, 0, 1, 2, 6, 3] rfl (by decide) [] rfl (by decide) (by decide) dX12_lapse_121
            ·
              have i60 := ci_nle (x := y_20) (y := kk) rfl rfl c60
              refine lv_bipush (v := 84) hx hb dX12_lapse_63 (by decide) ?_
              refine lv_iload_n hx hb dX12_lapse_65 rfl (lv_at hl 2 rfl) ?_
              refine lv_imul hx hb dX12_lapse_66 ?_
              refine lv_topi (fun y_21 ey_21 => ?_)
              first | have jy_21 : y_21.toInt = 84 * x1.toInt := (by have q9 := ci_mul (x := 84) (y := x1) (show (84 : Int32).toInt = 84 by decide) rfl ey_21; omega) | have jy_21 := ci_mul (x := 84) (y := x1) (show (84 : Int32).toInt = 84 by decide) rfl ey_21
              refine lv_iload_n hx hb dX12_lapse_67 rfl (lv_at hl 0 rfl) ?_
              refine lv_iadd hx hb dX12_lapse_68 ?_
              refine lv_topi (fun y_22 ey_22 => ?_)
              first | have jy_22 : y_22.toInt = y_21.toInt + kk.toInt := (by have q9 := ci_add (x := y_21) (y := kk) rfl rfl ey_22; omega) | have jy_22 := ci_add (x := y_21) (y := kk) rfl rfl ey_22
              refine lv_istore_n (lv' := [(3, .int y_22), (2, .int kk), (0, .ref h), (1, .int x1)]) hx hb dX12_lapse_69 rfl hl (by decide) rfl (fun ls hl => ?_)
              refine lv_aload_n hx hb dX12_lapse_70 rfl (lv_at hl 2 rfl) ?_
              refine cs_get F St 4 rfl rfl inX12 38 (by decide) kf_X12_162 rfl dX12_lapse_71 ?_
              refine lv_iload_n hx hb dX12_lapse_74 rfl (lv_at hl 0 rfl) ?_
              refine cs_ild F St 9 3 rfl rfl (vp_in_iff.mpr ⟨by omega, by omega⟩) dX12_lapse_75 ?_
              refine lv_topi (fun y_23 ey_23 => ?_)
              refine lv_aload_n hx hb dX12_lapse_76 rfl (lv_at hl 2 rfl) ?_
              refine cs_get F St 4 rfl rfl inX12 37 (by decide) kf_X12_159 rfl dX12_lapse_77 ?_
              refine lv_iload_n hx hb dX12_lapse_80 rfl (lv_at hl 0 rfl) ?_
              refine cs_ild F St 10 4 rfl rfl (vp_in_iff.mpr ⟨by omega, by omega⟩) dX12_lapse_81 ?_
              refine lv_topi (fun y_24 ey_24 => ?_)
              refine lv_icmp_ne (tgt := 88) hx hb dX12_lapse_82 (by decide) (fun c82 => ?_) (fun c82 => ?_)
              ·
                have i82 := ci_ne (x := y_23) (y := y_24) rfl rfl c82
                refine lv_aload_n hx hb dX12_lapse_88 rfl (lv_at hl 2 rfl) ?_
                refine cs_get F St 4 rfl rfl inX12 39 (by decide) kf_X12_165 rfl dX12_lapse_89 ?_
                refine lv_iload_n hx hb dX12_lapse_92 rfl (lv_at hl 0 rfl) ?_
                refine lv_iconst (v := 0) hx hb dX12_lapse_93 (by decide) ?_
                refine cs_zst F St 6 8 rfl rfl (vp_in_iff.mpr ⟨by omega, by omega⟩) (w' := [((a 0), .inl ((d 0), 9, .inl f_rule)), ((a 16), .inl ((d 16), 60, .inl f_5)), ((a 15), .inl ((d 15), 60, .inl f_19)), ((a 21), .inl ((d 21), 5040, .inl fc)), (h, .inr (12, [.ref (a 0), .ref (a 1), .ref (a 2), .ref (a 3), .int v_taped, .int v_size, .int v_from, .int v_behind, .int v_hand, .int v_value, .int v_fault, .int v_faultAt, .ref (a 4), .int v_clock, .int v_coin, .int v_loan, .int v_matched, .int v_taxed, .int v_paidStages, .int v_grown, .int v_pledges, .int v_sums, .int v_stages, .int v_isStopped, .ref (a 5), .ref (a 6), .ref (a 7), .ref (a 8), .ref (a 9), .ref (a 10), .ref (a 11), .ref (a 12), .ref (a 13), .ref (a 14), .ref (a 15), .ref (a 16), .ref (a 17), .ref (a 18), .ref (a 19), .ref (a 20), .ref (a 21), .ref (a 22), .ref (a 23), .ref (a 24), .ref (a 25), .ref (a 26), .ref (a 27), .ref (a 28), .ref (a 29), .ref (a 30), .int v_begun, .ref (a 31), .ref (a 32)])), ((a 14), .inl ((d 14), 60, .inl f_dues)), ((a 20), .inl ((d 20), 5040, .inl (upd ft (y_22 : Int32).toNatClampNeg (vp_nar .boolean 0)))), ((a 12), .inl ((d 12), 60, .inl f_first)), ((a 13), .inl ((d 13), 60, .inl f_every)), ((a 19), .inl ((d 19), 5040, .inl f_filled)), ((a 18), .inl ((d 18), 5040, .inl f_due))]) rfl dX12_lapse_94 (fun H locs St => ?_)
                obtain ⟨f_25, ef_25⟩ : ∃ zz : Nat → Int32, zz = upd ft (y_22 : Int32).toNatClampNeg (vp_nar .boolean 0) := ⟨_, rfl⟩
                rw [← ef_25] at St
                refine lv_aload_n hx hb dX12_lapse_95 rfl (lv_at hl 2 rfl) ?_
                refine lv_iload_n hx hb dX12_lapse_96 rfl (lv_at hl 3 rfl) ?_
                refine lv_iload_n hx hb dX12_lapse_97 rfl (lv_at hl 1 rfl) ?_
                refine cs_i St [4, 7, 8] [0, 1, 2, 3, 5, 6, 9, 10] (wc := [(h, .inr (12, [.ref (a 0), .ref (a 1), .ref (a 2), .ref (a 3), .int v_taped, .int v_size, .int v_from, .int v_behind, .int v_hand, .int v_value, .int v_fault, .int v_faultAt, .ref (a 4), .int v_clock, .int v_coin, .int v_loan, .int v_matched, .int v_taxed, .int v_paidStages, .int v_grown, .int v_pledges, .int v_sums, .int v_stages, .int v_isStopped, .ref (a 5), .ref (a 6), .ref (a 7), .ref (a 8), .ref (a 9), .ref (a 10), .ref (a 11), .ref (a 12), .ref (a 13), .ref (a 14), .ref (a 15), .ref (a 16), .ref (a 17), .ref (a 18), .ref (a 19), .ref (a 20), .ref (a 21), .ref (a 22), .ref (a 23), .ref (a 24), .ref (a 25), .ref (a 26), .ref (a 27), .ref (a 28), .ref (a 29), .ref (a 30), .int v_begun, .ref (a 31), .ref (a 32)])), ((a 12), .inl ((d 12), 60, .inl f_first)), ((a 13), .inl ((d 13), 60, .inl f_every))]) (wr := [((a 0), .inl ((d 0), 9, .inl f_rule)), ((a 16), .inl ((d 16), 60, .inl f_5)), ((a 15), .inl ((d 15), 60, .inl f_19)), ((a 21), .inl ((d 21), 5040, .inl fc)), ((a 14), .inl ((d 14), 60, .inl f_dues)), ((a 20), .inl ((d 20), 5040, .inl f_25)), ((a 19), .inl ((d 19), 5040, .inl f_filled)), ((a 18), .inl ((d 18), 5040, .inl f_due))]) rfl rfl (by decide) (by decide) (va_runV (As := [.int x1, .int kk]) (rest := []) F (m_monthOf l G k _ h a d v_taped v_size v_from v_behind v_hand v_value v_fault v_faultAt v_clock v_coin v_loan v_matched v_taxed v_paidStages v_grown v_pledges v_sums v_stages v_isStopped v_begun f_first f_every x1 kk (by omega) (by omega)) (cwVt F mf_X12_monthOf km_X12_240 rfl rfl ⟨Nat.le_of_ble_eq_true rfl, Nat.le_of_ble_eq_true rfl⟩) (cs_preV St [4, 7, 8] rfl (by decide) [1, 2] rfl (ci := 12) (q0 := 4) rfl rfl) rfl rfl hl.1 rfl (lv_room (Nat.le_of_ble_eq_true rfl)) dX12_lapse_98 ⟨Nat.le_of_ble_eq_true rfl, Nat.le_of_ble_eq_true rfl⟩) (fun r_26 u_27 H locs hw St => ?_)
                try dsimp only at hw
                have St : cS G k [((a 0), .inl ((d 0), 9, .inl f_rule)), ((a 16), .inl ((d 16), 60, .inl f_5)), ((a 15), .inl ((d 15), 60, .inl f_19)), ((a 21), .inl ((d 21), 5040, .inl fc)), ((a 14), .inl ((d 14), 60, .inl f_dues)), ((a 20), .inl ((d 20), 5040, .inl f_25)), ((a 19), .inl ((d 19), 5040, .inl f_filled)), ((a 18), .inl ((d 18), 5040, .inl f_due)), (h, .inr (12, [.ref (a 0), .ref (a 1), .ref (a 2), .ref (a 3), .int v_taped, .int v_size, .int v_from, .int v_behind, .int v_hand, .int v_value, .int v_fault, .int v_faultAt, .ref (a 4), .int v_clock, .int v_coin, .int v_loan, .int v_matched, .int v_taxed, .int v_paidStages, .int v_grown, .int v_pledges, .int v_sums, .int v_stages, .int v_isStopped, .ref (a 5), .ref (a 6), .ref (a 7), .ref (a 8), .ref (a 9), .ref (a 10), .ref (a 11), .ref (a 12), .ref (a 13), .ref (a 14), .ref (a 15), .ref (a 16), .ref (a 17), .ref (a 18), .ref (a 19), .ref (a 20), .ref (a 21), .ref (a 22), .ref (a 23), .ref (a 24), .ref (a 25), .ref (a 26), .ref (a 27), .ref (a 28), .ref (a 29), .ref (a 30), .int v_begun, .ref (a 31), .ref (a 32)])), ((a 12), .inl ((d 12), 60, .inl f_first)), ((a 13), .inl ((d 13), 60, .inl f_every))] [((d 14), .int), ((d 12), .int), ((d 13), .int), ((d 19), .int), ((d 18), .int), ((d 0), .int), ((d 16), .boolean), ((d 15), .int), ((d 20), .boolean), ((d 21), .boolean)] A s H locs := St
                refine lv_aload_n hx hb dX12_lapse_101 rfl (lv_at hl 2 rfl) ?_
                refine cs_get F St 8 rfl rfl inX12 13 (by decide) kf_X12_230 rfl dX12_lapse_102 ?_
                refine lv_icmp_le (tgt := 115) hx hb dX12_lapse_105 (by decide) (fun c105 => ?_) (fun c105 => ?_)
                ·
                  have i105 := ci_le (x := r_26) (y := v_clock) rfl rfl c105
                  obtain ⟨y_28, ey_28⟩ : ∃ zz : Int32, zz = kk + 1 := ⟨_, rfl⟩
                  first | have jy_28 : y_28.toInt = kk.toInt + 1 := (by have q9 := ci_add (x := kk) rfl (show (1 : Int32).toInt = 1 by decide) ey_28; omega) | have jy_28 := ci_add (x := kk) rfl (show (1 : Int32).toInt = 1 by decide) ey_28
                  refine lv_iinc (v := y_28) (lv' := [(2, .int y_28), (3, .int y_22), (0, .ref h), (1, .int x1)]) hx hb dX12_lapse_115 hl (k := 1) rfl (by rw [ey_28]; rfl) (by decide) rfl (fun ls hl => ?_)
                  refine lv_goto (tgt := 53) hx hb dX12_lapse_118 (by decide) ?_
                  exact ih y_28 f_25 fc _ _ _ ⟨by omega, by omega⟩ (by omega) (cs_pick St [0, 1, 2, 3, 8, 4, 5, 9, 10, 6, 7] rfl (by decide) [0, 1, 2, 3, 4, 5, 6, 7, 8, 9] rfl) (lv_sub hl [0, 2, 3] rfl)
                ·
                  have i105 := ci_nle (x := r_26) (y := v_clock) rfl rfl c105
                  refine lv_aload_n hx hb dX12_lapse_108 rfl (lv_at hl 2 rfl) ?_
                  refine cs_get F St 8 rfl rfl inX12 40 (by decide) kf_X12_168 rfl dX12_lapse_109 ?_
                  refine lv_iload_n hx hb dX12_lapse_112 rfl (lv_at hl 0 rfl) ?_
                  refine lv_iconst (v := 0) hx hb dX12_lapse_113 (by decide) ?_
                  refine cs_zst F St 3 9 rfl rfl (vp_in_iff.mpr ⟨by omega, by omega⟩) (w' := [((a 0), .inl ((d 0), 9, .inl f_rule)), ((a 16), .inl ((d 16), 60, .inl f_5)), ((a 15), .inl ((d 15), 60, .inl f_19)), ((a 21), .inl ((d 21), 5040, .inl (upd fc (y_22 : Int32).toNatClampNeg (vp_nar .boolean 0)))), ((a 14), .inl ((d 14), 60, .inl f_dues)), ((a 20), .inl ((d 20), 5040, .inl f_25)), ((a 19), .inl ((d 19), 5040, .inl f_filled)), ((a 18), .inl ((d 18), 5040, .inl f_due)), (h, .inr (12, [.ref (a 0), .ref (a 1), .ref (a 2), .ref (a 3), .int v_taped, .int v_size, .int v_from, .int v_behind, .int v_hand, .int v_value, .int v_fault, .int v_faultAt, .ref (a 4), .int v_clock, .int v_coin, .int v_loan, .int v_matched, .int v_taxed, .int v_paidStages, .int v_grown, .int v_pledges, .int v_sums, .int v_stages, .int v_isStopped, .ref (a 5), .ref (a 6), .ref (a 7), .ref (a 8), .ref (a 9), .ref (a 10), .ref (a 11), .ref (a 12), .ref (a 13), .ref (a 14), .ref (a 15), .ref (a 16), .ref (a 17), .ref (a 18), .ref (a 19), .ref (a 20), .ref (a 21), .ref (a 22), .ref (a 23), .ref (a 24), .ref (a 25), .ref (a 26), .ref (a 27), .ref (a 28), .ref (a 29), .ref (a 30), .int v_begun, .ref (a 31), .ref (a 32)])), ((a 12), .inl ((d 12), 60, .inl f_first)), ((a 13), .inl ((d 13), 60, .inl f_every))]) rfl dX12_lapse_114 (fun H locs St => ?_)
                  obtain ⟨f_29, ef_29⟩ : ∃ zz : Nat → Int32, zz = upd fc (y_22 : Int32).toNatClampNeg (vp_nar .boolean 0) := ⟨_, rfl⟩
                  rw [← ef_29] at St
                  obtain ⟨y_30, ey_30⟩ : ∃ zz : Int32, zz = kk + 1 := ⟨_, rfl⟩
                  first | have jy_30 : y_30.toInt = kk.toInt + 1 := (by have q9 := ci_add (x := kk) rfl (show (1 : Int32).toInt = 1 by decide) ey_30; omega) | have jy_30 := ci_add (x := kk) rfl (show (1 : Int32).toInt = 1 by decide) ey_30
                  refine lv_iinc (v := y_30) (lv' := [(2, .int y_30), (3, .int y_22), (0, .ref h), (1, .int x1)]) hx hb dX12_lapse_115 hl (k := 1) rfl (by rw [ey_30]; rfl) (by decide) rfl (fun ls hl => ?_)
                  refine lv_goto (tgt := 53) hx hb dX12_lapse_118 (by decide) ?_
                  exact ih y_30 f_25 f_29 _ _ _ ⟨by omega, by omega⟩ (by omega) (cs_pick St [0, 1, 2, 3, 8, 4, 5, 9, 10, 6, 7] rfl (by decide) [0, 1, 2, 3, 4, 5, 6, 7, 8, 9] rfl) (lv_sub hl [0, 2, 3] rfl)
              ·
                have i82 := ci_eq (x := y_23) (y := y_24) rfl rfl c82
                refine lv_goto (tgt := 115) hx hb dX12_lapse_85 (by decide) ?_
                obtain ⟨y_31, ey_31⟩ : ∃ zz : Int32, zz = kk + 1 := ⟨_, rfl⟩
                first | have jy_31 : y_31.toInt = kk.toInt + 1 := (by have q9 := ci_add (x := kk) rfl (show (1 : Int32).toInt = 1 by decide) ey_31; omega) | have jy_31 := ci_add (x := kk) rfl (show (1 : Int32).toInt = 1 by decide) ey_31
                refine lv_iinc (v := y_31) (lv' := [(2, .int y_31), (3, .int y_22), (0, .ref h), (1, .int x1)]) hx hb dX12_lapse_115 hl (k := 1) rfl (by rw [ey_31]; rfl) (by decide) rfl (fun ls hl => ?_)
                refine lv_goto (tgt := 53) hx hb dX12_lapse_118 (by decide) ?_
                exact ih y_31 ft fc _ _ _ ⟨by omega, by omega⟩ (by omega) St (lv_sub hl [0, 2, 3] rfl)
        exact lp53 6001 0 f_isThere f_counts _ _ _ ⟨by omega, by omega⟩ (by omega) St (lv_sub hl [0, 1, 2] rfl)
    ·
      have i20 := ci_nle (x := y_4) (y := r_2) rfl rfl c20
      exact cs_vret F hr hlk hQ St (f_isLapsed, f_lapsedAt, f_isThere, f_counts) (by trivial) [4, 5, 7, 8, 9, 10, 0, 1, 2, 6, 3] rfl (by decide) [] rfl (by decide) (by decide) dX12_lapse_23
set_option maxHeartbeats 4000000 in
set_option maxRecDepth 100000 in
theorem m_build (l : Launch) (G : va_G) (k : Nat → Nat) (sz : Nat) (h : Nat) (a : Nat → Nat) (d : Nat → ClassId) (v_taped : Int32) (v_size : Int32) (v_from : Int32) (v_behind : Int32) (v_hand : Int32) (v_value : Int32) (v_fault : Int32) (v_faultAt : Int32) (v_clock : Int32) (v_coin : Int32) (v_loan : Int32) (v_matched : Int32) (v_taxed : Int32) (v_paidStages : Int32) (v_grown : Int32) (v_pledges : Int32) (v_sums : Int32) (v_stages : Int32) (v_isStopped : Int32) (v_begun : Int32) (f_cost : Nat → Int32) (f_length : Nat → Int32) (f_rule : Nat → Int32) (f_paused : Nat → Int32) (f_stagePaid : Nat → Int32) (f_parts : Nat → Int32) (hSt : mSt v_stages v_begun f_length) (hb1 : 1 ≤ v_begun.toInt) : Met l yX12_build (Cond.code yX12_build cX12_build 6 none :: tb) ({ frames := 1, cells := 0, slots := 0, locals := 23 } : Room) (va_Pc [.ref h] (cP G k [(h, .inr (12, [.ref (a 0), .ref (a 1), .ref (a 2), .ref (a 3), .int v_taped, .int v_size, .int v_from, .int v_behind, .int v_hand, .int v_value, .int v_fault, .int v_faultAt, .ref (a 4), .int v_clock, .int v_coin, .int v_loan, .int v_matched, .int v_taxed, .int v_paidStages, .int v_grown, .int v_pledges, .int v_sums, .int v_stages, .int v_isStopped, .ref (a 5), .ref (a 6), .ref (a 7), .ref (a 8), .ref (a 9), .ref (a 10), .ref (a 11), .ref (a 12), .ref (a 13), .ref (a 14), .ref (a 15), .ref (a 16), .ref (a 17), .ref (a 18), .ref (a 19), .ref (a 20), .ref (a 21), .ref (a 22), .ref (a 23), .ref (a 24), .ref (a 25), .ref (a 26), .ref (a 27), .ref (a 28), .ref (a 29), .ref (a 30), .int v_begun, .ref (a 31), .ref (a 32)])), ((a 26), .inl ((d 26), 8, .inl f_cost)), ((a 27), .inl ((d 27), 8, .inl f_length)), ((a 0), .inl ((d 0), 9, .inl f_rule)), ((a 30), .inl ((d 30), 8, .inl f_paused)), ((a 29), .inl ((d 29), 8, .inl f_stagePaid)), ((a 28), .inl ((d 28), 8, .inl f_parts))] [((d 26), .int), ((d 27), .int), ((d 0), .int), ((d 30), .int), ((d 29), .int), ((d 28), .int)] sz)) (va_Qv (fun (u : Int32 × Int32 × Int32 × (Nat → Int32) × (Nat → Int32) × (Nat → Int32)) => match u with | (w_coin, w_loan, w_paidStages, g_paused, g_stagePaid, g_parts) => True) (cB G (fun u => match u with | (w_coin, w_loan, w_paidStages, g_paused, g_stagePaid, g_parts) => [(h, .inr (12, [.ref (a 0), .ref (a 1), .ref (a 2), .ref (a 3), .int v_taped, .int v_size, .int v_from, .int v_behind, .int v_hand, .int v_value, .int v_fault, .int v_faultAt, .ref (a 4), .int v_clock, .int w_coin, .int w_loan, .int v_matched, .int v_taxed, .int w_paidStages, .int v_grown, .int v_pledges, .int v_sums, .int v_stages, .int v_isStopped, .ref (a 5), .ref (a 6), .ref (a 7), .ref (a 8), .ref (a 9), .ref (a 10), .ref (a 11), .ref (a 12), .ref (a 13), .ref (a 14), .ref (a 15), .ref (a 16), .ref (a 17), .ref (a 18), .ref (a 19), .ref (a 20), .ref (a 21), .ref (a 22), .ref (a 23), .ref (a 24), .ref (a 25), .ref (a 26), .ref (a 27), .ref (a 28), .ref (a 29), .ref (a 30), .int v_begun, .ref (a 31), .ref (a 32)])), ((a 26), .inl ((d 26), 8, .inl f_cost)), ((a 27), .inl ((d 27), 8, .inl f_length)), ((a 0), .inl ((d 0), 9, .inl f_rule)), ((a 30), .inl ((d 30), 8, .inl g_paused)), ((a 29), .inl ((d 29), 8, .inl g_stagePaid)), ((a 28), .inl ((d 28), 8, .inl g_parts))]) (fun u => match u with | (w_coin, w_loan, w_paidStages, g_paused, g_stagePaid, g_parts) => []) (va_A [(h, .inr (12, [.ref (a 0), .ref (a 1), .ref (a 2), .ref (a 3), .int v_taped, .int v_size, .int v_from, .int v_behind, .int v_hand, .int v_value, .int v_fault, .int v_faultAt, .ref (a 4), .int v_clock, .int v_coin, .int v_loan, .int v_matched, .int v_taxed, .int v_paidStages, .int v_grown, .int v_pledges, .int v_sums, .int v_stages, .int v_isStopped, .ref (a 5), .ref (a 6), .ref (a 7), .ref (a 8), .ref (a 9), .ref (a 10), .ref (a 11), .ref (a 12), .ref (a 13), .ref (a 14), .ref (a 15), .ref (a 16), .ref (a 17), .ref (a 18), .ref (a 19), .ref (a 20), .ref (a 21), .ref (a 22), .ref (a 23), .ref (a 24), .ref (a 25), .ref (a 26), .ref (a 27), .ref (a 28), .ref (a 29), .ref (a 30), .int v_begun, .ref (a 31), .ref (a 32)])), ((a 26), .inl ((d 26), 8, .inl f_cost)), ((a 27), .inl ((d 27), 8, .inl f_length)), ((a 0), .inl ((d 0), 9, .inl f_rule)), ((a 30), .inl ((d 30), 8, .inl f_paused)), ((a 29), .inl ((d 29), 8, .inl f_stagePaid)), ((a 28), .inl ((d 28), 8, .inl f_parts))] sz)) (va_A [(h, .inr (12, [.ref (a 0), .ref (a 1), .ref (a 2), .ref (a 3), .int v_taped, .int v_size, .int v_from, .int v_behind, .int v_hand, .int v_value, .int v_fault, .int v_faultAt, .ref (a 4), .int v_clock, .int v_coin, .int v_loan, .int v_matched, .int v_taxed, .int v_paidStages, .int v_grown, .int v_pledges, .int v_sums, .int v_stages, .int v_isStopped, .ref (a 5), .ref (a 6), .ref (a 7), .ref (a 8), .ref (a 9), .ref (a 10), .ref (a 11), .ref (a 12), .ref (a 13), .ref (a 14), .ref (a 15), .ref (a 16), .ref (a 17), .ref (a 18), .ref (a 19), .ref (a 20), .ref (a 21), .ref (a 22), .ref (a 23), .ref (a 24), .ref (a 25), .ref (a 26), .ref (a 27), .ref (a 28), .ref (a 29), .ref (a 30), .int v_begun, .ref (a 31), .ref (a 32)])), ((a 26), .inl ((d 26), 8, .inl f_cost)), ((a 27), .inl ((d 27), 8, .inl f_length)), ((a 0), .inl ((d 0), 9, .inl f_rule)), ((a 30), .inl ((d 30), 8, .inl f_paused)), ((a 29), .inl ((d 29), 8, .inl f_stagePaid)), ((a 28), .inl ((d 28), 8, .inl f_parts))] sz)) 0 0 (va_A [(h, .inr (12, [.ref (a 0), .ref (a 1), .ref (a 2), .ref (a 3), .int v_taped, .int v_size, .int v_from, .int v_behind, .int v_hand, .int v_value, .int v_fault, .int v_faultAt, .ref (a 4), .int v_clock, .int v_coin, .int v_loan, .int v_matched, .int v_taxed, .int v_paidStages, .int v_grown, .int v_pledges, .int v_sums, .int v_stages, .int v_isStopped, .ref (a 5), .ref (a 6), .ref (a 7), .ref (a 8), .ref (a 9), .ref (a 10), .ref (a 11), .ref (a 12), .ref (a 13), .ref (a 14), .ref (a 15), .ref (a 16), .ref (a 17), .ref (a 18), .ref (a 19), .ref (a 20), .ref (a 21), .ref (a 22), .ref (a 23), .ref (a 24), .ref (a 25), .ref (a 26), .ref (a 27), .ref (a 28), .ref (a 29), .ref (a 30), .int v_begun, .ref (a 31), .ref (a 32)])), ((a 26), .inl ((d 26), 8, .inl f_cost)), ((a 27), .inl ((d 27), 8, .inl f_length)), ((a 0), .inl ((d 0), 9, .inl f_rule)), ((a 30), .inl ((d 30), 8, .inl f_paused)), ((a 29), .inl ((d 29), 8, .inl f_stagePaid)), ((a 28), .inl ((d 28), 8, .inl f_parts))] sz) := by
  refine ofC_v (cc := cX12_build) (maxL := 6) (ret := none) (by decide) rfl (Nat.le_of_ble_eq_true rfl) ?_
  intro p e s m args below meth c A ls Q F hr hin hlk St hl hQ
  have hx := F.1
  have hb := F.2.1
  have hl : lv_has ls 6 [(0, .ref h)] := hl
  have St : cS G k [(h, .inr (12, [.ref (a 0), .ref (a 1), .ref (a 2), .ref (a 3), .int v_taped, .int v_size, .int v_from, .int v_behind, .int v_hand, .int v_value, .int v_fault, .int v_faultAt, .ref (a 4), .int v_clock, .int v_coin, .int v_loan, .int v_matched, .int v_taxed, .int v_paidStages, .int v_grown, .int v_pledges, .int v_sums, .int v_stages, .int v_isStopped, .ref (a 5), .ref (a 6), .ref (a 7), .ref (a 8), .ref (a 9), .ref (a 10), .ref (a 11), .ref (a 12), .ref (a 13), .ref (a 14), .ref (a 15), .ref (a 16), .ref (a 17), .ref (a 18), .ref (a 19), .ref (a 20), .ref (a 21), .ref (a 22), .ref (a 23), .ref (a 24), .ref (a 25), .ref (a 26), .ref (a 27), .ref (a 28), .ref (a 29), .ref (a 30), .int v_begun, .ref (a 31), .ref (a 32)])), ((a 26), .inl ((d 26), 8, .inl f_cost)), ((a 27), .inl ((d 27), 8, .inl f_length)), ((a 0), .inl ((d 0), 9, .inl f_rule)), ((a 30), .inl ((d 30), 8, .inl f_paused)), ((a 29), .inl ((d 29), 8, .inl f_stagePaid)), ((a 28), .inl ((d 28), 8, .inl f_parts))] [((d 26), .int), ((d 27), .int), ((d 0), .int), ((d 30), .int), ((d 29), .int), ((d 28), .int)] A s s.heap [] := St
  have htd := hSt.1
  have y0 : (0 : Int32).toInt = 0 := by decide
  refine lv_aload_n hx hb dX12_build_0 rfl (lv_at hl 0 rfl) ?_
  refine cs_get F St 0 rfl rfl inX12 50 (by decide) kf_X12_289 rfl dX12_build_1 ?_
  refine lv_iconst (v := 1) hx hb dX12_build_4 (by decide) ?_
  refine lv_isub hx hb dX12_build_5 ?_
  refine lv_topi (fun y_1 ey_1 => ?_)
  first | have jy_1 : y_1.toInt = v_begun.toInt - 1 := (by have q9 := ci_sub (x := v_begun) (y := 1) rfl (show (1 : Int32).toInt = 1 by decide) ey_1; omega) | have jy_1 := ci_sub (x := v_begun) (y := 1) rfl (show (1 : Int32).toInt = 1 by decide) ey_1
  refine lv_istore_n (lv' := [(1, .int y_1), (0, .ref h)]) hx hb dX12_build_6 rfl hl (by decide) rfl (fun ls hl => ?_)
  refine lv_aload_n hx hb dX12_build_7 rfl (lv_at hl 1 rfl) ?_
  refine cs_get F St 0 rfl rfl inX12 45 (by decide) kf_X12_183 rfl dX12_build_8 ?_
  refine lv_iload_n hx hb dX12_build_11 rfl (lv_at hl 0 rfl) ?_
  refine cs_ild F St 1 0 rfl rfl (vp_in_iff.mpr ⟨by omega, by omega⟩) dX12_build_12 ?_
  refine lv_topi (fun y_2 ey_2 => ?_)
  refine lv_aload_n hx hb dX12_build_13 rfl (lv_at hl 1 rfl) ?_
  refine cs_get F St 0 rfl rfl inX12 46 (by decide) kf_X12_186 rfl dX12_build_14 ?_
  refine lv_iload_n hx hb dX12_build_17 rfl (lv_at hl 0 rfl) ?_
  refine cs_ild F St 2 1 rfl rfl (vp_in_iff.mpr ⟨by omega, by omega⟩) dX12_build_18 ?_
  refine lv_topi (fun y_3 ey_3 => ?_)
  have hdy_3 := mSt_l hSt (by omega) (by omega) ey_3
  refine lv_idiv hx hb dX12_build_19 (ne0_i hdy_3.1) ?_
  refine lv_topi (fun y_4 ey_4 => ?_)
  refine lv_istore_n (lv' := [(2, .int y_4), (1, .int y_1), (0, .ref h)]) hx hb dX12_build_20 rfl hl (by decide) rfl (fun ls hl => ?_)
  refine lv_aload_n hx hb dX12_build_21 rfl (lv_at hl 2 rfl) ?_
  refine cs_get F St 0 rfl rfl inX12 47 (by decide) kf_X12_188 rfl dX12_build_22 ?_
  refine lv_iload_n hx hb dX12_build_25 rfl (lv_at hl 1 rfl) ?_
  refine cs_ild F St 6 5 rfl rfl (vp_in_iff.mpr ⟨by omega, by omega⟩) dX12_build_26 ?_
  refine lv_topi (fun y_5 ey_5 => ?_)
  refine lv_aload_n hx hb dX12_build_27 rfl (lv_at hl 2 rfl) ?_
  refine cs_get F St 0 rfl rfl inX12 46 (by decide) kf_X12_186 rfl dX12_build_28 ?_
  refine lv_iload_n hx hb dX12_build_31 rfl (lv_at hl 1 rfl) ?_
  refine cs_ild F St 2 1 rfl rfl (vp_in_iff.mpr ⟨by omega, by omega⟩) dX12_build_32 ?_
  refine lv_topi (fun y_6 ey_6 => ?_)
  have hdy_6 := mSt_l hSt (by omega) (by omega) ey_6
  refine lv_iconst (v := 1) hx hb dX12_build_33 (by decide) ?_
  refine lv_isub hx hb dX12_build_34 ?_
  refine lv_topi (fun y_7 ey_7 => ?_)
  first | have jy_7 : y_7.toInt = y_6.toInt - 1 := (by have q9 := ci_sub (x := y_6) (y := 1) rfl (show (1 : Int32).toInt = 1 by decide) ey_7; omega) | have jy_7 := ci_sub (x := y_6) (y := 1) rfl (show (1 : Int32).toInt = 1 by decide) ey_7
  refine lv_icmp_ne (tgt := 56) hx hb dX12_build_35 (by decide) (fun c35 => ?_) (fun c35 => ?_)
  ·
    have i35 := ci_ne (x := y_5) (y := y_7) rfl rfl c35
    refine lv_iload_n hx hb dX12_build_56 rfl (lv_at hl 0 rfl) ?_
    refine lv_istore_n (lv' := [(3, .int y_4), (2, .int y_4), (1, .int y_1), (0, .ref h)]) hx hb dX12_build_57 rfl hl (by decide) rfl (fun ls hl => ?_)
    refine lv_iconst (v := 0) hx hb dX12_build_58 (by decide) ?_
    refine lv_bipush (v := 100) hx hb dX12_build_59 (by decide) ?_
    refine lv_aload_n hx hb dX12_build_61 rfl (lv_at hl 3 rfl) ?_
    refine cs_get F St 0 rfl rfl inX12 0 (by decide) kf_X12_114 rfl dX12_build_62 ?_
    refine lv_iconst (v := 5) hx hb dX12_build_65 (by decide) ?_
    refine cs_ild F St 3 2 rfl rfl (vp_in_iff.mpr (by decide)) dX12_build_66 ?_
    refine lv_topi (fun y_8 ey_8 => ?_)
    refine lv_imul hx hb dX12_build_67 ?_
    refine lv_topi (fun y_9 ey_9 => ?_)
    first | have jy_9 : y_9.toInt = 100 * y_8.toInt := (by have q9 := ci_mul (x := 100) (y := y_8) (show (100 : Int32).toInt = 100 by decide) rfl ey_9; omega) | have jy_9 := ci_mul (x := 100) (y := y_8) (show (100 : Int32).toInt = 100 by decide) rfl ey_9
    refine lv_aload_n hx hb dX12_build_68 rfl (lv_at hl 3 rfl) ?_
    refine cs_get F St 0 rfl rfl inX12 15 (by decide) kf_X12_296 rfl dX12_build_69 ?_
    refine lv_isub hx hb dX12_build_72 ?_
    refine lv_topi (fun y_10 ey_10 => ?_)
    first | have jy_10 : y_10.toInt = y_9.toInt - v_loan.toInt := (by have q9 := ci_sub (x := y_9) (y := v_loan) rfl rfl ey_10; omega) | have jy_10 := ci_sub (x := y_9) (y := v_loan) rfl rfl ey_10
    refine va_mmax hx hb (F.2.2.1.trans hl.1.symm) F.2.2.2.1 (F.2.2.2.2 _ km_X12_259) (F.2.2.2.2 _ ks_J9_max_7cf53) (F.2.2.2.2 _ ki_J9) (F.2.2.2.2 _ kd_J9_max_7cf53) (Nat.le_of_ble_eq_true rfl) (Nat.le_of_ble_eq_true rfl) (Nat.le_of_ble_eq_true rfl) (Nat.le_of_ble_eq_true rfl) dX12_build_73 ?_
    refine lv_topi (fun y_11 ey_11 => ?_)
    refine lv_istore (lv' := [(4, .int y_11), (3, .int y_4), (2, .int y_4), (1, .int y_1), (0, .ref h)]) hx hb dX12_build_76 hl (by decide) rfl (fun ls hl => ?_)
    refine lv_aload_n hx hb dX12_build_78 rfl (lv_at hl 4 rfl) ?_
    refine cs_get F St 0 rfl rfl inX12 14 (by decide) kf_X12_262 rfl dX12_build_79 ?_
    refine lv_i2l (v := v_coin.toInt64) hx hb dX12_build_82 rfl ?_
    refine lv_iload hx hb dX12_build_83 (lv_at hl 0 rfl) ?_
    refine lv_i2l (v := y_11.toInt64) hx hb dX12_build_85 rfl ?_
    refine lv_ladd hx hb dX12_build_86 ?_
    refine lv_topl (fun y_12 ey_12 => ?_)
    first | have jy_12 : y_12.toInt = v_coin.toInt + y_11.toInt := (by have q7 := ci_rng v_coin; have q8 := ci_rng y_11; have q9 := cl_add (x := v_coin.toInt64) (y := y_11.toInt64) (u := v_coin.toInt) (v := y_11.toInt) (Int32.toInt_toInt64 v_coin) (Int32.toInt_toInt64 y_11) ey_12; omega) | have jy_12 := cl_add (x := v_coin.toInt64) (y := y_11.toInt64) (u := v_coin.toInt) (v := y_11.toInt) (Int32.toInt_toInt64 v_coin) (Int32.toInt_toInt64 y_11) ey_12
    refine lv_iload_n hx hb dX12_build_87 rfl (lv_at hl 1 rfl) ?_
    refine lv_i2l (v := y_4.toInt64) hx hb dX12_build_88 rfl ?_
    refine W.lcmp hx hb dX12_build_89 ?_
    refine lv_if_ge (tgt := 104) hx hb dX12_build_90 (by decide) (fun c90 => ?_) (fun c90 => ?_)
    ·
      have i90 := cl_le (x := y_4.toInt64) (y := y_12) (u := y_4.toInt) (v := y_12.toInt) (Int32.toInt_toInt64 y_4) rfl ((lg_cmp_ge _ _).mp c90)
      refine lv_aload_n hx hb dX12_build_104 rfl (lv_at hl 4 rfl) ?_
      refine cs_get F St 0 rfl rfl inX12 14 (by decide) kf_X12_262 rfl dX12_build_105 ?_
      refine lv_iload_n hx hb dX12_build_108 rfl (lv_at hl 1 rfl) ?_
      refine va_mmin hx hb (F.2.2.1.trans hl.1.symm) F.2.2.2.1 (F.2.2.2.2 _ km_X12_254) (F.2.2.2.2 _ ks_J9_min_7cf53) (F.2.2.2.2 _ ki_J9) (F.2.2.2.2 _ kd_J9_min_7cf53) (Nat.le_of_ble_eq_true rfl) (Nat.le_of_ble_eq_true rfl) (Nat.le_of_ble_eq_true rfl) (Nat.le_of_ble_eq_true rfl) dX12_build_109 ?_
      refine lv_topi (fun y_13 ey_13 => ?_)
      refine lv_istore (lv' := [(5, .int y_13), (4, .int y_11), (3, .int y_4), (2, .int y_4), (1, .int y_1), (0, .ref h)]) hx hb dX12_build_112 hl (by decide) rfl (fun ls hl => ?_)
      refine lv_aload_n hx hb dX12_build_114 rfl (lv_at hl 5 rfl) ?_
      refine lv_dup hx hb dX12_build_115 rfl ?_
      refine cs_get F St 0 rfl rfl inX12 14 (by decide) kf_X12_262 rfl dX12_build_116 ?_
      refine lv_iload hx hb dX12_build_119 (lv_at hl 0 rfl) ?_
      refine lv_isub hx hb dX12_build_121 ?_
      refine lv_topi (fun y_14 ey_14 => ?_)
      first | have jy_14 : y_14.toInt = v_coin.toInt - y_13.toInt := (by have q9 := ci_sub (x := v_coin) (y := y_13) rfl rfl ey_14; omega) | have jy_14 := ci_sub (x := v_coin) (y := y_13) rfl rfl ey_14
      refine cs_put F St 0 rfl rfl inX12 tyX12_ok nmX12 14 (by decide) kf_X12_262 rfl rfl rfl (Nat.le_of_ble_eq_true rfl) (w' := [(h, .inr (12, [.ref (a 0), .ref (a 1), .ref (a 2), .ref (a 3), .int v_taped, .int v_size, .int v_from, .int v_behind, .int v_hand, .int v_value, .int v_fault, .int v_faultAt, .ref (a 4), .int v_clock, .int y_14, .int v_loan, .int v_matched, .int v_taxed, .int v_paidStages, .int v_grown, .int v_pledges, .int v_sums, .int v_stages, .int v_isStopped, .ref (a 5), .ref (a 6), .ref (a 7), .ref (a 8), .ref (a 9), .ref (a 10), .ref (a 11), .ref (a 12), .ref (a 13), .ref (a 14), .ref (a 15), .ref (a 16), .ref (a 17), .ref (a 18), .ref (a 19), .ref (a 20), .ref (a 21), .ref (a 22), .ref (a 23), .ref (a 24), .ref (a 25), .ref (a 26), .ref (a 27), .ref (a 28), .ref (a 29), .ref (a 30), .int v_begun, .ref (a 31), .ref (a 32)])), ((a 26), .inl ((d 26), 8, .inl f_cost)), ((a 27), .inl ((d 27), 8, .inl f_length)), ((a 0), .inl ((d 0), 9, .inl f_rule)), ((a 30), .inl ((d 30), 8, .inl f_paused)), ((a 29), .inl ((d 29), 8, .inl f_stagePaid)), ((a 28), .inl ((d 28), 8, .inl f_parts))]) rfl dX12_build_122 (fun H locs St => ?_)
      refine lv_aload_n hx hb dX12_build_125 rfl (lv_at hl 5 rfl) ?_
      refine lv_dup hx hb dX12_build_126 rfl ?_
      refine cs_get F St 0 rfl rfl inX12 15 (by decide) kf_X12_296 rfl dX12_build_127 ?_
      refine lv_iload_n hx hb dX12_build_130 rfl (lv_at hl 2 rfl) ?_
      refine lv_iload hx hb dX12_build_131 (lv_at hl 0 rfl) ?_
      refine lv_isub hx hb dX12_build_133 ?_
      refine lv_topi (fun y_15 ey_15 => ?_)
      first | have jy_15 : y_15.toInt = y_4.toInt - y_13.toInt := (by have q9 := ci_sub (x := y_4) (y := y_13) rfl rfl ey_15; omega) | have jy_15 := ci_sub (x := y_4) (y := y_13) rfl rfl ey_15
      refine lv_iadd hx hb dX12_build_134 ?_
      refine lv_topi (fun y_16 ey_16 => ?_)
      first | have jy_16 : y_16.toInt = v_loan.toInt + y_15.toInt := (by have q9 := ci_add (x := v_loan) (y := y_15) rfl rfl ey_16; omega) | have jy_16 := ci_add (x := v_loan) (y := y_15) rfl rfl ey_16
      refine cs_put F St 0 rfl rfl inX12 tyX12_ok nmX12 15 (by decide) kf_X12_296 rfl rfl rfl (Nat.le_of_ble_eq_true rfl) (w' := [(h, .inr (12, [.ref (a 0), .ref (a 1), .ref (a 2), .ref (a 3), .int v_taped, .int v_size, .int v_from, .int v_behind, .int v_hand, .int v_value, .int v_fault, .int v_faultAt, .ref (a 4), .int v_clock, .int y_14, .int y_16, .int v_matched, .int v_taxed, .int v_paidStages, .int v_grown, .int v_pledges, .int v_sums, .int v_stages, .int v_isStopped, .ref (a 5), .ref (a 6), .ref (a 7), .ref (a 8), .ref (a 9), .ref (a 10), .ref (a 11), .ref (a 12), .ref (a 13), .ref (a 14), .ref (a 15), .ref (a 16), .ref (a 17), .ref (a 18), .ref (a 19), .ref (a 20), .ref (a 21), .ref (a 22), .ref (a 23), .ref (a 24), .ref (a 25), .ref (a 26), .ref (a 27), .ref (a 28), .ref (a 29), .ref (a 30), .int v_begun, .ref (a 31), .ref (a 32)])), ((a 26), .inl ((d 26), 8, .inl f_cost)), ((a 27), .inl ((d 27), 8, .inl f_length)), ((a 0), .inl ((d 0), 9, .inl f_rule)), ((a 30), .inl ((d 30), 8, .inl f_paused)), ((a 29), .inl ((d 29), 8, .inl f_stagePaid)), ((a 28), .inl ((d 28), 8, .inl f_parts))]) rfl dX12_build_135 (fun H locs St => ?_)
      refine lv_aload_n hx hb dX12_build_138 rfl (lv_at hl 5 rfl) ?_
      refine lv_dup hx hb dX12_build_139 rfl ?_
      refine cs_get F St 0 rfl rfl inX12 18 (by decide) kf_X12_298 rfl dX12_build_140 ?_
      refine lv_iload_n hx hb dX12_build_143 rfl (lv_at hl 2 rfl) ?_
      refine lv_iadd hx hb dX12_build_144 ?_
      refine lv_topi (fun y_17 ey_17 => ?_)
      first | have jy_17 : y_17.toInt = v_paidStages.toInt + y_4.toInt := (by have q9 := ci_add (x := v_paidStages) (y := y_4) rfl rfl ey_17; omega) | have jy_17 := ci_add (x := v_paidStages) (y := y_4) rfl rfl ey_17
      refine cs_put F St 0 rfl rfl inX12 tyX12_ok nmX12 18 (by decide) kf_X12_298 rfl rfl rfl (Nat.le_of_ble_eq_true rfl) (w' := [(h, .inr (12, [.ref (a 0), .ref (a 1), .ref (a 2), .ref (a 3), .int v_taped, .int v_size, .int v_from, .int v_behind, .int v_hand, .int v_value, .int v_fault, .int v_faultAt, .ref (a 4), .int v_clock, .int y_14, .int y_16, .int v_matched, .int v_taxed, .int y_17, .int v_grown, .int v_pledges, .int v_sums, .int v_stages, .int v_isStopped, .ref (a 5), .ref (a 6), .ref (a 7), .ref (a 8), .ref (a 9), .ref (a 10), .ref (a 11), .ref (a 12), .ref (a 13), .ref (a 14), .ref (a 15), .ref (a 16), .ref (a 17), .ref (a 18), .ref (a 19), .ref (a 20), .ref (a 21), .ref (a 22), .ref (a 23), .ref (a 24), .ref (a 25), .ref (a 26), .ref (a 27), .ref (a 28), .ref (a 29), .ref (a 30), .int v_begun, .ref (a 31), .ref (a 32)])), ((a 26), .inl ((d 26), 8, .inl f_cost)), ((a 27), .inl ((d 27), 8, .inl f_length)), ((a 0), .inl ((d 0), 9, .inl f_rule)), ((a 30), .inl ((d 30), 8, .inl f_paused)), ((a 29), .inl ((d 29), 8, .inl f_stagePaid)), ((a 28), .inl ((d 28), 8, .inl f_parts))]) rfl dX12_build_145 (fun H locs St => ?_)
      refine lv_aload_n hx hb dX12_build_148 rfl (lv_at hl 5 rfl) ?_
      refine cs_get F St 0 rfl rfl inX12 48 (by decide) kf_X12_191 rfl dX12_build_149 ?_
      refine lv_iload_n hx hb dX12_build_152 rfl (lv_at hl 4 rfl) ?_
      refine lv_dup2_11 hx hb dX12_build_153 rfl rfl ?_
      refine cs_ild F St 5 4 rfl rfl (vp_in_iff.mpr ⟨by omega, by omega⟩) dX12_build_154 ?_
      refine lv_topi (fun y_18 ey_18 => ?_)
      refine lv_iload_n hx hb dX12_build_155 rfl (lv_at hl 2 rfl) ?_
      refine lv_iadd hx hb dX12_build_156 ?_
      refine lv_topi (fun y_19 ey_19 => ?_)
      first | have jy_19 : y_19.toInt = y_18.toInt + y_4.toInt := (by have q9 := ci_add (x := y_18) (y := y_4) rfl rfl ey_19; omega) | have jy_19 := ci_add (x := y_18) (y := y_4) rfl rfl ey_19
      refine cs_ist F St 5 4 rfl rfl (vp_in_iff.mpr ⟨by omega, by omega⟩) (w' := [(h, .inr (12, [.ref (a 0), .ref (a 1), .ref (a 2), .ref (a 3), .int v_taped, .int v_size, .int v_from, .int v_behind, .int v_hand, .int v_value, .int v_fault, .int v_faultAt, .ref (a 4), .int v_clock, .int y_14, .int y_16, .int v_matched, .int v_taxed, .int y_17, .int v_grown, .int v_pledges, .int v_sums, .int v_stages, .int v_isStopped, .ref (a 5), .ref (a 6), .ref (a 7), .ref (a 8), .ref (a 9), .ref (a 10), .ref (a 11), .ref (a 12), .ref (a 13), .ref (a 14), .ref (a 15), .ref (a 16), .ref (a 17), .ref (a 18), .ref (a 19), .ref (a 20), .ref (a 21), .ref (a 22), .ref (a 23), .ref (a 24), .ref (a 25), .ref (a 26), .ref (a 27), .ref (a 28), .ref (a 29), .ref (a 30), .int v_begun, .ref (a 31), .ref (a 32)])), ((a 26), .inl ((d 26), 8, .inl f_cost)), ((a 27), .inl ((d 27), 8, .inl f_length)), ((a 0), .inl ((d 0), 9, .inl f_rule)), ((a 30), .inl ((d 30), 8, .inl f_paused)), ((a 29), .inl ((d 29), 8, .inl (upd f_stagePaid (y_1 : Int32).toNatClampNeg y_19))), ((a 28), .inl ((d 28), 8, .inl f_parts))]) rfl dX12_build_157 (fun H locs St => ?_)
      obtain ⟨f_20, ef_20⟩ : ∃ zz : Nat → Int32, zz = upd f_stagePaid (y_1 : Int32).toNatClampNeg y_19 := ⟨_, rfl⟩
      rw [← ef_20] at St
      refine lv_aload_n hx hb dX12_build_158 rfl (lv_at hl 5 rfl) ?_
      refine cs_get F St 0 rfl rfl inX12 47 (by decide) kf_X12_188 rfl dX12_build_159 ?_
      refine lv_iload_n hx hb dX12_build_162 rfl (lv_at hl 4 rfl) ?_
      refine lv_dup2_11 hx hb dX12_build_163 rfl rfl ?_
      refine cs_ild F St 6 5 rfl rfl (vp_in_iff.mpr ⟨by omega, by omega⟩) dX12_build_164 ?_
      refine lv_topi (fun y_21 ey_21 => ?_)
      refine lv_iconst (v := 1) hx hb dX12_build_165 (by decide) ?_
      refine lv_iadd hx hb dX12_build_166 ?_
      refine lv_topi (fun y_22 ey_22 => ?_)
      first | have jy_22 : y_22.toInt = y_21.toInt + 1 := (by have q9 := ci_add (x := y_21) (y := 1) rfl (show (1 : Int32).toInt = 1 by decide) ey_22; omega) | have jy_22 := ci_add (x := y_21) (y := 1) rfl (show (1 : Int32).toInt = 1 by decide) ey_22
      refine cs_ist F St 6 5 rfl rfl (vp_in_iff.mpr ⟨by omega, by omega⟩) (w' := [(h, .inr (12, [.ref (a 0), .ref (a 1), .ref (a 2), .ref (a 3), .int v_taped, .int v_size, .int v_from, .int v_behind, .int v_hand, .int v_value, .int v_fault, .int v_faultAt, .ref (a 4), .int v_clock, .int y_14, .int y_16, .int v_matched, .int v_taxed, .int y_17, .int v_grown, .int v_pledges, .int v_sums, .int v_stages, .int v_isStopped, .ref (a 5), .ref (a 6), .ref (a 7), .ref (a 8), .ref (a 9), .ref (a 10), .ref (a 11), .ref (a 12), .ref (a 13), .ref (a 14), .ref (a 15), .ref (a 16), .ref (a 17), .ref (a 18), .ref (a 19), .ref (a 20), .ref (a 21), .ref (a 22), .ref (a 23), .ref (a 24), .ref (a 25), .ref (a 26), .ref (a 27), .ref (a 28), .ref (a 29), .ref (a 30), .int v_begun, .ref (a 31), .ref (a 32)])), ((a 26), .inl ((d 26), 8, .inl f_cost)), ((a 27), .inl ((d 27), 8, .inl f_length)), ((a 0), .inl ((d 0), 9, .inl f_rule)), ((a 30), .inl ((d 30), 8, .inl f_paused)), ((a 29), .inl ((d 29), 8, .inl f_20)), ((a 28), .inl ((d 28), 8, .inl (upd f_parts (y_1 : Int32).toNatClampNeg y_22)))]) rfl dX12_build_167 (fun H locs St => ?_)
      obtain ⟨f_23, ef_23⟩ : ∃ zz : Nat → Int32, zz = upd f_parts (y_1 : Int32).toNatClampNeg y_22 := ⟨_, rfl⟩
      rw [← ef_23] at St
      exact cs_vret F hr hlk hQ St (y_14, y_16, y_17, f_paused, f_20, f_23) (by trivial) [0, 1, 2, 3, 4, 5, 6] rfl (by decide) [] rfl (by decide) (by decide) dX12_build_168
    ·
      have i90 := cl_nle (x := y_4.toInt64) (y := y_12) (u := y_4.toInt) (v := y_12.toInt) (Int32.toInt_toInt64 y_4) rfl (fun q => c90 ((lg_cmp_ge _ _).mpr q))
      refine lv_aload_n hx hb dX12_build_93 rfl (lv_at hl 4 rfl) ?_
      refine cs_get F St 0 rfl rfl inX12 49 (by decide) kf_X12_194 rfl dX12_build_94 ?_
      refine lv_iload_n hx hb dX12_build_97 rfl (lv_at hl 3 rfl) ?_
      refine lv_dup2_11 hx hb dX12_build_98 rfl rfl ?_
      refine cs_ild F St 4 3 rfl rfl (vp_in_iff.mpr ⟨by omega, by omega⟩) dX12_build_99 ?_
      refine lv_topi (fun y_24 ey_24 => ?_)
      refine lv_iconst (v := 1) hx hb dX12_build_100 (by decide) ?_
      refine lv_iadd hx hb dX12_build_101 ?_
      refine lv_topi (fun y_25 ey_25 => ?_)
      first | have jy_25 : y_25.toInt = y_24.toInt + 1 := (by have q9 := ci_add (x := y_24) (y := 1) rfl (show (1 : Int32).toInt = 1 by decide) ey_25; omega) | have jy_25 := ci_add (x := y_24) (y := 1) rfl (show (1 : Int32).toInt = 1 by decide) ey_25
      refine cs_ist F St 4 3 rfl rfl (vp_in_iff.mpr ⟨by omega, by omega⟩) (w' := [(h, .inr (12, [.ref (a 0), .ref (a 1), .ref (a 2), .ref (a 3), .int v_taped, .int v_size, .int v_from, .int v_behind, .int v_hand, .int v_value, .int v_fault, .int v_faultAt, .ref (a 4), .int v_clock, .int v_coin, .int v_loan, .int v_matched, .int v_taxed, .int v_paidStages, .int v_grown, .int v_pledges, .int v_sums, .int v_stages, .int v_isStopped, .ref (a 5), .ref (a 6), .ref (a 7), .ref (a 8), .ref (a 9), .ref (a 10), .ref (a 11), .ref (a 12), .ref (a 13), .ref (a 14), .ref (a 15), .ref (a 16), .ref (a 17), .ref (a 18), .ref (a 19), .ref (a 20), .ref (a 21), .ref (a 22), .ref (a 23), .ref (a 24), .ref (a 25), .ref (a 26), .ref (a 27), .ref (a 28), .ref (a 29), .ref (a 30), .int v_begun, .ref (a 31), .ref (a 32)])), ((a 26), .inl ((d 26), 8, .inl f_cost)), ((a 27), .inl ((d 27), 8, .inl f_length)), ((a 0), .inl ((d 0), 9, .inl f_rule)), ((a 30), .inl ((d 30), 8, .inl (upd f_paused (y_1 : Int32).toNatClampNeg y_25))), ((a 29), .inl ((d 29), 8, .inl f_stagePaid)), ((a 28), .inl ((d 28), 8, .inl f_parts))]) rfl dX12_build_102 (fun H locs St => ?_)
      obtain ⟨f_26, ef_26⟩ : ∃ zz : Nat → Int32, zz = upd f_paused (y_1 : Int32).toNatClampNeg y_25 := ⟨_, rfl⟩
      rw [← ef_26] at St
      exact cs_vret F hr hlk hQ St (v_coin, v_loan, v_paidStages, f_26, f_stagePaid, f_parts) (by trivial) [0, 1, 2, 3, 4, 5, 6] rfl (by decide) [] rfl (by decide) (by decide) dX12_build_103
  ·
    have i35 := ci_eq (x := y_5) (y := y_7) rfl rfl c35
    refine lv_aload_n hx hb dX12_build_38 rfl (lv_at hl 2 rfl) ?_
    refine cs_get F St 0 rfl rfl inX12 45 (by decide) kf_X12_183 rfl dX12_build_39 ?_
    refine lv_iload_n hx hb dX12_build_42 rfl (lv_at hl 1 rfl) ?_
    refine cs_ild F St 1 0 rfl rfl (vp_in_iff.mpr ⟨by omega, by omega⟩) dX12_build_43 ?_
    refine lv_topi (fun y_27 ey_27 => ?_)
    refine lv_iload_n hx hb dX12_build_44 rfl (lv_at hl 0 rfl) ?_
    refine lv_aload_n hx hb dX12_build_45 rfl (lv_at hl 2 rfl) ?_
    refine cs_get F St 0 rfl rfl inX12 47 (by decide) kf_X12_188 rfl dX12_build_46 ?_
    refine lv_iload_n hx hb dX12_build_49 rfl (lv_at hl 1 rfl) ?_
    refine cs_ild F St 6 5 rfl rfl (vp_in_iff.mpr ⟨by omega, by omega⟩) dX12_build_50 ?_
    refine lv_topi (fun y_28 ey_28 => ?_)
    refine lv_imul hx hb dX12_build_51 ?_
    refine lv_topi (fun y_29 ey_29 => ?_)
    refine lv_isub hx hb dX12_build_52 ?_
    refine lv_topi (fun y_30 ey_30 => ?_)
    first | have jy_30 : y_30.toInt = y_27.toInt - y_29.toInt := (by have q9 := ci_sub (x := y_27) (y := y_29) rfl rfl ey_30; omega) | have jy_30 := ci_sub (x := y_27) (y := y_29) rfl rfl ey_30
    refine lv_goto (tgt := 57) hx hb dX12_build_53 (by decide) ?_
    refine lv_istore_n (lv' := [(3, .int y_30), (2, .int y_4), (1, .int y_1), (0, .ref h)]) hx hb dX12_build_57 rfl hl (by decide) rfl (fun ls hl => ?_)
    refine lv_iconst (v := 0) hx hb dX12_build_58 (by decide) ?_
    refine lv_bipush (v := 100) hx hb dX12_build_59 (by decide) ?_
    refine lv_aload_n hx hb dX12_build_61 rfl (lv_at hl 3 rfl) ?_
    refine cs_get F St 0 rfl rfl inX12 0 (by decide) kf_X12_114 rfl dX12_build_62 ?_
    refine lv_iconst (v := 5) hx hb dX12_build_65 (by decide) ?_
    refine cs_ild F St 3 2 rfl rfl (vp_in_iff.mpr (by decide)) dX12_build_66 ?_
    refine lv_topi (fun y_31 ey_31 => ?_)
    refine lv_imul hx hb dX12_build_67 ?_
    refine lv_topi (fun y_32 ey_32 => ?_)
    first | have jy_32 : y_32.toInt = 100 * y_31.toInt := (by have q9 := ci_mul (x := 100) (y := y_31) (show (100 : Int32).toInt = 100 by decide) rfl ey_32; omega) | have jy_32 := ci_mul (x := 100) (y := y_31) (show (100 : Int32).toInt = 100 by decide) rfl ey_32
    refine lv_aload_n hx hb dX12_build_68 rfl (lv_at hl 3 rfl) ?_
    refine cs_get F St 0 rfl rfl inX12 15 (by decide) kf_X12_296 rfl dX12_build_69 ?_
    refine lv_isub hx hb dX12_build_72 ?_
    refine lv_topi (fun y_33 ey_33 => ?_)
    first | have jy_33 : y_33.toInt = y_32.toInt - v_loan.toInt := (by have q9 := ci_sub (x := y_32) (y := v_loan) rfl rfl ey_33; omega) | have jy_33 := ci_sub (x := y_32) (y := v_loan) rfl rfl ey_33
    refine va_mmax hx hb (F.2.2.1.trans hl.1.symm) F.2.2.2.1 (F.2.2.2.2 _ km_X12_259) (F.2.2.2.2 _ ks_J9_max_7cf53) (F.2.2.2.2 _ ki_J9) (F.2.2.2.2 _ kd_J9_max_7cf53) (Nat.le_of_ble_eq_true rfl) (Nat.le_of_ble_eq_true rfl) (Nat.le_of_ble_eq_true rfl) (Nat.le_of_ble_eq_true rfl) dX12_build_73 ?_
    refine lv_topi (fun y_34 ey_34 => ?_)
    refine lv_istore (lv' := [(4, .int y_34), (3, .int y_30), (2, .int y_4), (1, .int y_1), (0, .ref h)]) hx hb dX12_build_76 hl (by decide) rfl (fun ls hl => ?_)
    refine lv_aload_n hx hb dX12_build_78 rfl (lv_at hl 4 rfl) ?_
    refine cs_get F St 0 rfl rfl inX12 14 (by decide) kf_X12_262 rfl dX12_build_79 ?_
    refine lv_i2l (v := v_coin.toInt64) hx hb dX12_build_82 rfl ?_
    refine lv_iload hx hb dX12_build_83 (lv_at hl 0 rfl) ?_
    refine lv_i2l (v := y_34.toInt64) hx hb dX12_build_85 rfl ?_
    refine lv_ladd hx hb dX12_build_86 ?_
    refine lv_topl (fun y_35 ey_35 => ?_)
    first | have jy_35 : y_35.toInt = v_coin.toInt + y_34.toInt := (by have q7 := ci_rng v_coin; have q8 := ci_rng y_34; have q9 := cl_add (x := v_coin.toInt64) (y := y_34.toInt64) (u := v_coin.toInt) (v := y_34.toInt) (Int32.toInt_toInt64 v_coin) (Int32.toInt_toInt64 y_34) ey_35; omega) | have jy_35 := cl_add (x := v_coin.toInt64) (y := y_34.toInt64) (u := v_coin.toInt) (v := y_34.toInt) (Int32.toInt_toInt64 v_coin) (Int32.toInt_toInt64 y_34) ey_35
    refine lv_iload_n hx hb dX12_build_87 rfl (lv_at hl 1 rfl) ?_
    refine lv_i2l (v := y_30.toInt64) hx hb dX12_build_88 rfl ?_
    refine W.lcmp hx hb dX12_build_89 ?_
    refine lv_if_ge (tgt := 104) hx hb dX12_build_90 (by decide) (fun c90 => ?_) (fun c90 => ?_)
    ·
      have i90 := cl_le (x := y_30.toInt64) (y := y_35) (u := y_30.toInt) (v := y_35.toInt) (Int32.toInt_toInt64 y_30) rfl ((lg_cmp_ge _ _).mp c90)
      refine lv_aload_n hx hb dX12_build_104 rfl (lv_at hl 4 rfl) ?_
      refine cs_get F St 0 rfl rfl inX12 14 (by decide) kf_X12_262 rfl dX12_build_105 ?_
      refine lv_iload_n hx hb dX12_build_108 rfl (lv_at hl 1 rfl) ?_
      refine va_mmin hx hb (F.2.2.1.trans hl.1.symm) F.2.2.2.1 (F.2.2.2.2 _ km_X12_254) (F.2.2.2.2 _ ks_J9_min_7cf53) (F.2.2.2.2 _ ki_J9) (F.2.2.2.2 _ kd_J9_min_7cf53) (Nat.le_of_ble_eq_true rfl) (Nat.le_of_ble_eq_true rfl) (Nat.le_of_ble_eq_true rfl) (Nat.le_of_ble_eq_true rfl) dX12_build_109 ?_
      refine lv_topi (fun y_36 ey_36 => ?_)
      refine lv_istore (lv' := [(5, .int y_36), (4, .int y_34), (3, .int y_30), (2, .int y_4), (1, .int y_1), (0, .ref h)]) hx hb dX12_build_112 hl (by decide) rfl (fun ls hl => ?_)
      refine lv_aload_n hx hb dX12_build_114 rfl (lv_at hl 5 rfl) ?_
      refine lv_dup hx hb dX12_build_115 rfl ?_
      refine cs_get F St 0 rfl rfl inX12 14 (by decide) kf_X12_262 rfl dX12_build_116 ?_
      refine lv_iload hx hb dX12_build_119 (lv_at hl 0 rfl) ?_
      refine lv_isub hx hb dX12_build_121 ?_
      refine lv_topi (fun y_37 ey_37 => ?_)
      first | have jy_37 : y_37.toInt = v_coin.toInt - y_36.toInt := (by have q9 := ci_sub (x := v_coin) (y := y_36) rfl rfl ey_37; omega) | have jy_37 := ci_sub (x := v_coin) (y := y_36) rfl rfl ey_37
      refine cs_put F St 0 rfl rfl inX12 tyX12_ok nmX12 14 (by decide) kf_X12_262 rfl rfl rfl (Nat.le_of_ble_eq_true rfl) (w' := [(h, .inr (12, [.ref (a 0), .ref (a 1), .ref (a 2), .ref (a 3), .int v_taped, .int v_size, .int v_from, .int v_behind, .int v_hand, .int v_value, .int v_fault, .int v_faultAt, .ref (a 4), .int v_clock, .int y_37, .int v_loan, .int v_matched, .int v_taxed, .int v_paidStages, .int v_grown, .int v_pledges, .int v_sums, .int v_stages, .int v_isStopped, .ref (a 5), .ref (a 6), .ref (a 7), .ref (a 8), .ref (a 9), .ref (a 10), .ref (a 11), .ref (a 12), .ref (a 13), .ref (a 14), .ref (a 15), .ref (a 16), .ref (a 17), .ref (a 18), .ref (a 19), .ref (a 20), .ref (a 21), .ref (a 22), .ref (a 23), .ref (a 24), .ref (a 25), .ref (a 26), .ref (a 27), .ref (a 28), .ref (a 29), .ref (a 30), .int v_begun, .ref (a 31), .ref (a 32)])), ((a 26), .inl ((d 26), 8, .inl f_cost)), ((a 27), .inl ((d 27), 8, .inl f_length)), ((a 0), .inl ((d 0), 9, .inl f_rule)), ((a 30), .inl ((d 30), 8, .inl f_paused)), ((a 29), .inl ((d 29), 8, .inl f_stagePaid)), ((a 28), .inl ((d 28), 8, .inl f_parts))]) rfl dX12_build_122 (fun H locs St => ?_)
      refine lv_aload_n hx hb dX12_build_125 rfl (lv_at hl 5 rfl) ?_
      refine lv_dup hx hb dX12_build_126 rfl ?_
      refine cs_get F St 0 rfl rfl inX12 15 (by decide) kf_X12_296 rfl dX12_build_127 ?_
      refine lv_iload_n hx hb dX12_build_130 rfl (lv_at hl 2 rfl) ?_
      refine lv_iload hx hb dX12_build_131 (lv_at hl 0 rfl) ?_
      refine lv_isub hx hb dX12_build_133 ?_
      refine lv_topi (fun y_38 ey_38 => ?_)
      first | have jy_38 : y_38.toInt = y_30.toInt - y_36.toInt := (by have q9 := ci_sub (x := y_30) (y := y_36) rfl rfl ey_38; omega) | have jy_38 := ci_sub (x := y_30) (y := y_36) rfl rfl ey_38
      refine lv_iadd hx hb dX12_build_134 ?_
      refine lv_topi (fun y_39 ey_39 => ?_)
      first | have jy_39 : y_39.toInt = v_loan.toInt + y_38.toInt := (by have q9 := ci_add (x := v_loan) (y := y_38) rfl rfl ey_39; omega) | have jy_39 := ci_add (x := v_loan) (y := y_38) rfl rfl ey_39
      refine cs_put F St 0 rfl rfl inX12 tyX12_ok nmX12 15 (by decide) kf_X12_296 rfl rfl rfl (Nat.le_of_ble_eq_true rfl) (w' := [(h, .inr (12, [.ref (a 0), .ref (a 1), .ref (a 2), .ref (a 3), .int v_taped, .int v_size, .int v_from, .int v_behind, .int v_hand, .int v_value, .int v_fault, .int v_faultAt, .ref (a 4), .int v_clock, .int y_37, .int y_39, .int v_matched, .int v_taxed, .int v_paidStages, .int v_grown, .int v_pledges, .int v_sums, .int v_stages, .int v_isStopped, .ref (a 5), .ref (a 6), .ref (a 7), .ref (a 8), .ref (a 9), .ref (a 10), .ref (a 11), .ref (a 12), .ref (a 13), .ref (a 14), .ref (a 15), .ref (a 16), .ref (a 17), .ref (a 18), .ref (a 19), .ref (a 20), .ref (a 21), .ref (a 22), .ref (a 23), .ref (a 24), .ref (a 25), .ref (a 26), .ref (a 27), .ref (a 28), .ref (a 29), .ref (a 30), .int v_begun, .ref (a 31), .ref (a 32)])), ((a 26), .inl ((d 26), 8, .inl f_cost)), ((a 27), .inl ((d 27), 8, .inl f_length)), ((a 0), .inl ((d 0), 9, .inl f_rule)), ((a 30), .inl ((d 30), 8, .inl f_paused)), ((a 29), .inl ((d 29), 8, .inl f_stagePaid)), ((a 28), .inl ((d 28), 8, .inl f_parts))]) rfl dX12_build_135 (fun H locs St => ?_)
      refine lv_aload_n hx hb dX12_build_138 rfl (lv_at hl 5 rfl) ?_
      refine lv_dup hx hb dX12_build_139 rfl ?_
      refine cs_get F St 0 rfl rfl inX12 18 (by decide) kf_X12_298 rfl dX12_build_140 ?_
      refine lv_iload_n hx hb dX12_build_143 rfl (lv_at hl 2 rfl) ?_
      refine lv_iadd hx hb dX12_build_144 ?_
      refine lv_topi (fun y_40 ey_40 => ?_)
      first | have jy_40 : y_40.toInt = v_paidStages.toInt + y_30.toInt := (by have q9 := ci_add (x := v_paidStages) (y := y_30) rfl rfl ey_40; omega) | have jy_40 := ci_add (x := v_paidStages) (y := y_30) rfl rfl ey_40
      refine cs_put F St 0 rfl rfl inX12 tyX12_ok nmX12 18 (by decide) kf_X12_298 rfl rfl rfl (Nat.le_of_ble_eq_true rfl) (w' := [(h, .inr (12, [.ref (a 0), .ref (a 1), .ref (a 2), .ref (a 3), .int v_taped, .int v_size, .int v_from, .int v_behind, .int v_hand, .int v_value, .int v_fault, .int v_faultAt, .ref (a 4), .int v_clock, .int y_37, .int y_39, .int v_matched, .int v_taxed, .int y_40, .int v_grown, .int v_pledges, .int v_sums, .int v_stages, .int v_isStopped, .ref (a 5), .ref (a 6), .ref (a 7), .ref (a 8), .ref (a 9), .ref (a 10), .ref (a 11), .ref (a 12), .ref (a 13), .ref (a 14), .ref (a 15), .ref (a 16), .ref (a 17), .ref (a 18), .ref (a 19), .ref (a 20), .ref (a 21), .ref (a 22), .ref (a 23), .ref (a 24), .ref (a 25), .ref (a 26), .ref (a 27), .ref (a 28), .ref (a 29), .ref (a 30), .int v_begun, .ref (a 31), .ref (a 32)])), ((a 26), .inl ((d 26), 8, .inl f_cost)), ((a 27), .inl ((d 27), 8, .inl f_length)), ((a 0), .inl ((d 0), 9, .inl f_rule)), ((a 30), .inl ((d 30), 8, .inl f_paused)), ((a 29), .inl ((d 29), 8, .inl f_stagePaid)), ((a 28), .inl ((d 28), 8, .inl f_parts))]) rfl dX12_build_145 (fun H locs St => ?_)
      refine lv_aload_n hx hb dX12_build_148 rfl (lv_at hl 5 rfl) ?_
      refine cs_get F St 0 rfl rfl inX12 48 (by decide) kf_X12_191 rfl dX12_build_149 ?_
      refine lv_iload_n hx hb dX12_build_152 rfl (lv_at hl 4 rfl) ?_
      refine lv_dup2_11 hx hb dX12_build_153 rfl rfl ?_
      refine cs_ild F St 5 4 rfl rfl (vp_in_iff.mpr ⟨by omega, by omega⟩) dX12_build_154 ?_
      refine lv_topi (fun y_41 ey_41 => ?_)
      refine lv_iload_n hx hb dX12_build_155 rfl (lv_at hl 2 rfl) ?_
      refine lv_iadd hx hb dX12_build_156 ?_
      refine lv_topi (fun y_42 ey_42 => ?_)
      first | have jy_42 : y_42.toInt = y_41.toInt + y_30.toInt := (by have q9 := ci_add (x := y_41) (y := y_30) rfl rfl ey_42; omega) | have jy_42 := ci_add (x := y_41) (y := y_30) rfl rfl ey_42
      refine cs_ist F St 5 4 rfl rfl (vp_in_iff.mpr ⟨by omega, by omega⟩) (w' := [(h, .inr (12, [.ref (a 0), .ref (a 1), .ref (a 2), .ref (a 3), .int v_taped, .int v_size, .int v_from, .int v_behind, .int v_hand, .int v_value, .int v_fault, .int v_faultAt, .ref (a 4), .int v_clock, .int y_37, .int y_39, .int v_matched, .int v_taxed, .int y_40, .int v_grown, .int v_pledges, .int v_sums, .int v_stages, .int v_isStopped, .ref (a 5), .ref (a 6), .ref (a 7), .ref (a 8), .ref (a 9), .ref (a 10), .ref (a 11), .ref (a 12), .ref (a 13), .ref (a 14), .ref (a 15), .ref (a 16), .ref (a 17), .ref (a 18), .ref (a 19), .ref (a 20), .ref (a 21), .ref (a 22), .ref (a 23), .ref (a 24), .ref (a 25), .ref (a 26), .ref (a 27), .ref (a 28), .ref (a 29), .ref (a 30), .int v_begun, .ref (a 31), .ref (a 32)])), ((a 26), .inl ((d 26), 8, .inl f_cost)), ((a 27), .inl ((d 27), 8, .inl f_length)), ((a 0), .inl ((d 0), 9, .inl f_rule)), ((a 30), .inl ((d 30), 8, .inl f_paused)), ((a 29), .inl ((d 29), 8, .inl (upd f_stagePaid (y_1 : Int32).toNatClampNeg y_42))), ((a 28), .inl ((d 28), 8, .inl f_parts))]) rfl dX12_build_157 (fun H locs St => ?_)
      obtain ⟨f_43, ef_43⟩ : ∃ zz : Nat → Int32, zz = upd f_stagePaid (y_1 : Int32).toNatClampNeg y_42 := ⟨_, rfl⟩
      rw [← ef_43] at St
      refine lv_aload_n hx hb dX12_build_158 rfl (lv_at hl 5 rfl) ?_
      refine cs_get F St 0 rfl rfl inX12 47 (by decide) kf_X12_188 rfl dX12_build_159 ?_
      refine lv_iload_n hx hb dX12_build_162 rfl (lv_at hl 4 rfl) ?_
      refine lv_dup2_11 hx hb dX12_build_163 rfl rfl ?_
      refine cs_ild F St 6 5 rfl rfl (vp_in_iff.mpr ⟨by omega, by omega⟩) dX12_build_164 ?_
      refine lv_topi (fun y_44 ey_44 => ?_)
      refine lv_iconst (v := 1) hx hb dX12_build_165 (by decide) ?_
      refine lv_iadd hx hb dX12_build_166 ?_
      refine lv_topi (fun y_45 ey_45 => ?_)
      first | have jy_45 : y_45.toInt = y_44.toInt + 1 := (by have q9 := ci_add (x := y_44) (y := 1) rfl (show (1 : Int32).toInt = 1 by decide) ey_45; omega) | have jy_45 := ci_add (x := y_44) (y := 1) rfl (show (1 : Int32).toInt = 1 by decide) ey_45
      refine cs_ist F St 6 5 rfl rfl (vp_in_iff.mpr ⟨by omega, by omega⟩) (w' := [(h, .inr (12, [.ref (a 0), .ref (a 1), .ref (a 2), .ref (a 3), .int v_taped, .int v_size, .int v_from, .int v_behind, .int v_hand, .int v_value, .int v_fault, .int v_faultAt, .ref (a 4), .int v_clock, .int y_37, .int y_39, .int v_matched, .int v_taxed, .int y_40, .int v_grown, .int v_pledges, .int v_sums, .int v_stages, .int v_isStopped, .ref (a 5), .ref (a 6), .ref (a 7), .ref (a 8), .ref (a 9), .ref (a 10), .ref (a 11), .ref (a 12), .ref (a 13), .ref (a 14), .ref (a 15), .ref (a 16), .ref (a 17), .ref (a 18), .ref (a 19), .ref (a 20), .ref (a 21), .ref (a 22), .ref (a 23), .ref (a 24), .ref (a 25), .ref (a 26), .ref (a 27), .ref (a 28), .ref (a 29), .ref (a 30), .int v_begun, .ref (a 31), .ref (a 32)])), ((a 26), .inl ((d 26), 8, .inl f_cost)), ((a 27), .inl ((d 27), 8, .inl f_length)), ((a 0), .inl ((d 0), 9, .inl f_rule)), ((a 30), .inl ((d 30), 8, .inl f_paused)), ((a 29), .inl ((d 29), 8, .inl f_43)), ((a 28), .inl ((d 28), 8, .inl (upd f_parts (y_1 : Int32).toNatClampNeg y_45)))]) rfl dX12_build_167 (fun H locs St => ?_)
      obtain ⟨f_46, ef_46⟩ : ∃ zz : Nat → Int32, zz = upd f_parts (y_1 : Int32).toNatClampNeg y_45 := ⟨_, rfl⟩
      rw [← ef_46] at St
      exact cs_vret F hr hlk hQ St (y_37, y_39, y_40, f_paused, f_43, f_46) (by trivial) [0, 1, 2, 3, 4, 5, 6] rfl (by decide) [] rfl (by decide) (by decide) dX12_build_168
    ·
      have i90 := cl_nle (x := y_30.toInt64) (y := y_35) (u := y_30.toInt) (v := y_35.toInt) (Int32.toInt_toInt64 y_30) rfl (fun q => c90 ((lg_cmp_ge _ _).mpr q))
      refine lv_aload_n hx hb dX12_build_93 rfl (lv_at hl 4 rfl) ?_
      refine cs_get F St 0 rfl rfl inX12 49 (by decide) kf_X12_194 rfl dX12_build_94 ?_
      refine lv_iload_n hx hb dX12_build_97 rfl (lv_at hl 3 rfl) ?_
      refine lv_dup2_11 hx hb dX12_build_98 rfl rfl ?_
      refine cs_ild F St 4 3 rfl rfl (vp_in_iff.mpr ⟨by omega, by omega⟩) dX12_build_99 ?_
      refine lv_topi (fun y_47 ey_47 => ?_)
      refine lv_iconst (v := 1) hx hb dX12_build_100 (by decide) ?_
      refine lv_iadd hx hb dX12_build_101 ?_
      refine lv_topi (fun y_48 ey_48 => ?_)
      first | have jy_48 : y_48.toInt = y_47.toInt + 1 := (by have q9 := ci_add (x := y_47) (y := 1) rfl (show (1 : Int32).toInt = 1 by decide) ey_48; omega) | have jy_48 := ci_add (x := y_47) (y := 1) rfl (show (1 : Int32).toInt = 1 by decide) ey_48
      refine cs_ist F St 4 3 rfl rfl (vp_in_iff.mpr ⟨by omega, by omega⟩) (w' := [(h, .inr (12, [.ref (a 0), .ref (a 1), .ref (a 2), .ref (a 3), .int v_taped, .int v_size, .int v_from, .int v_behind, .int v_hand, .int v_value, .int v_fault, .int v_faultAt, .ref (a 4), .int v_clock, .int v_coin, .int v_loan, .int v_matched, .int v_taxed, .int v_paidStages, .int v_grown, .int v_pledges, .int v_sums, .int v_stages, .int v_isStopped, .ref (a 5), .ref (a 6), .ref (a 7), .ref (a 8), .ref (a 9), .ref (a 10), .ref (a 11), .ref (a 12), .ref (a 13), .ref (a 14), .ref (a 15), .ref (a 16), .ref (a 17), .ref (a 18), .ref (a 19), .ref (a 20), .ref (a 21), .ref (a 22), .ref (a 23), .ref (a 24), .ref (a 25), .ref (a 26), .ref (a 27), .ref (a 28), .ref (a 29), .ref (a 30), .int v_begun, .ref (a 31), .ref (a 32)])), ((a 26), .inl ((d 26), 8, .inl f_cost)), ((a 27), .inl ((d 27), 8, .inl f_length)), ((a 0), .inl ((d 0), 9, .inl f_rule)), ((a 30), .inl ((d 30), 8, .inl (upd f_paused (y_1 : Int32).toNatClampNeg y_48))), ((a 29), .inl ((d 29), 8, .inl f_stagePaid)), ((a 28), .inl ((d 28), 8, .inl f_parts))]) rfl dX12_build_102 (fun H locs St => ?_)
      obtain ⟨f_49, ef_49⟩ : ∃ zz : Nat → Int32, zz = upd f_paused (y_1 : Int32).toNatClampNeg y_48 := ⟨_, rfl⟩
      rw [← ef_49] at St
      exact cs_vret F hr hlk hQ St (v_coin, v_loan, v_paidStages, f_49, f_stagePaid, f_parts) (by trivial) [0, 1, 2, 3, 4, 5, 6] rfl (by decide) [] rfl (by decide) (by decide) dX12_build_103
set_option maxHeartbeats 4000000 in
set_option maxRecDepth 100000 in
theorem m_endMonth (l : Launch) (G : va_G) (k : Nat → Nat) (sz : Nat) (h : Nat) (a : Nat → Nat) (d : Nat → ClassId) (v_taped : Int32) (v_size : Int32) (v_from : Int32) (v_behind : Int32) (v_hand : Int32) (v_value : Int32) (v_fault : Int32) (v_faultAt : Int32) (v_clock : Int32) (v_coin : Int32) (v_loan : Int32) (v_matched : Int32) (v_taxed : Int32) (v_paidStages : Int32) (v_grown : Int32) (v_pledges : Int32) (v_sums : Int32) (v_stages : Int32) (v_isStopped : Int32) (v_begun : Int32) (f_dues : Nat → Int32) (f_first : Nat → Int32) (f_every : Nat → Int32) (f_filled : Nat → Int32) (f_due : Nat → Int32) (f_rule : Nat → Int32) (f_cost : Nat → Int32) (f_length : Nat → Int32) (f_isLapsed : Nat → Int32) (f_lapsedAt : Nat → Int32) (f_isThere : Nat → Int32) (f_counts : Nat → Int32) (f_paused : Nat → Int32) (f_stagePaid : Nat → Int32) (f_parts : Nat → Int32) (hPd : mPd v_pledges f_dues) (hSt : mSt v_stages v_begun f_length) (hc0 : 0 ≤ v_clock.toInt) (hc1 : v_clock.toInt ≤ 119) : Met l yX12_endMonth (Cond.code yX12_endMonth cX12_endMonth 3 none :: tb) ({ frames := 3, cells := 0, slots := 0, locals := 68 } : Room) (va_Pc [.ref h] (cP G k [(h, .inr (12, [.ref (a 0), .ref (a 1), .ref (a 2), .ref (a 3), .int v_taped, .int v_size, .int v_from, .int v_behind, .int v_hand, .int v_value, .int v_fault, .int v_faultAt, .ref (a 4), .int v_clock, .int v_coin, .int v_loan, .int v_matched, .int v_taxed, .int v_paidStages, .int v_grown, .int v_pledges, .int v_sums, .int v_stages, .int v_isStopped, .ref (a 5), .ref (a 6), .ref (a 7), .ref (a 8), .ref (a 9), .ref (a 10), .ref (a 11), .ref (a 12), .ref (a 13), .ref (a 14), .ref (a 15), .ref (a 16), .ref (a 17), .ref (a 18), .ref (a 19), .ref (a 20), .ref (a 21), .ref (a 22), .ref (a 23), .ref (a 24), .ref (a 25), .ref (a 26), .ref (a 27), .ref (a 28), .ref (a 29), .ref (a 30), .int v_begun, .ref (a 31), .ref (a 32)])), ((a 14), .inl ((d 14), 60, .inl f_dues)), ((a 12), .inl ((d 12), 60, .inl f_first)), ((a 13), .inl ((d 13), 60, .inl f_every)), ((a 19), .inl ((d 19), 5040, .inl f_filled)), ((a 18), .inl ((d 18), 5040, .inl f_due)), ((a 0), .inl ((d 0), 9, .inl f_rule)), ((a 26), .inl ((d 26), 8, .inl f_cost)), ((a 27), .inl ((d 27), 8, .inl f_length)), ((a 16), .inl ((d 16), 60, .inl f_isLapsed)), ((a 15), .inl ((d 15), 60, .inl f_lapsedAt)), ((a 20), .inl ((d 20), 5040, .inl f_isThere)), ((a 21), .inl ((d 21), 5040, .inl f_counts)), ((a 30), .inl ((d 30), 8, .inl f_paused)), ((a 29), .inl ((d 29), 8, .inl f_stagePaid)), ((a 28), .inl ((d 28), 8, .inl f_parts))] [((d 14), .int), ((d 12), .int), ((d 13), .int), ((d 19), .int), ((d 18), .int), ((d 0), .int), ((d 26), .int), ((d 27), .int), ((d 16), .boolean), ((d 15), .int), ((d 20), .boolean), ((d 21), .boolean), ((d 30), .int), ((d 29), .int), ((d 28), .int)] sz)) (va_Qv (fun (u : Int32 × Int32 × Int32 × Int32 × Int32 × (Nat → Int32) × (Nat → Int32) × (Nat → Int32) × (Nat → Int32) × (Nat → Int32) × (Nat → Int32) × (Nat → Int32)) => match u with | (w_coin, w_loan, w_grown, w_paidStages, w_clock, g_isLapsed, g_lapsedAt, g_isThere, g_counts, g_paused, g_stagePaid, g_parts) => (w_clock.toInt = v_clock.toInt + 1)) (cB G (fun u => match u with | (w_coin, w_loan, w_grown, w_paidStages, w_clock, g_isLapsed, g_lapsedAt, g_isThere, g_counts, g_paused, g_stagePaid, g_parts) => [(h, .inr (12, [.ref (a 0), .ref (a 1), .ref (a 2), .ref (a 3), .int v_taped, .int v_size, .int v_from, .int v_behind, .int v_hand, .int v_value, .int v_fault, .int v_faultAt, .ref (a 4), .int w_clock, .int w_coin, .int w_loan, .int v_matched, .int v_taxed, .int w_paidStages, .int w_grown, .int v_pledges, .int v_sums, .int v_stages, .int v_isStopped, .ref (a 5), .ref (a 6), .ref (a 7), .ref (a 8), .ref (a 9), .ref (a 10), .ref (a 11), .ref (a 12), .ref (a 13), .ref (a 14), .ref (a 15), .ref (a 16), .ref (a 17), .ref (a 18), .ref (a 19), .ref (a 20), .ref (a 21), .ref (a 22), .ref (a 23), .ref (a 24), .ref (a 25), .ref (a 26), .ref (a 27), .ref (a 28), .ref (a 29), .ref (a 30), .int v_begun, .ref (a 31), .ref (a 32)])), ((a 14), .inl ((d 14), 60, .inl f_dues)), ((a 12), .inl ((d 12), 60, .inl f_first)), ((a 13), .inl ((d 13), 60, .inl f_every)), ((a 19), .inl ((d 19), 5040, .inl f_filled)), ((a 18), .inl ((d 18), 5040, .inl f_due)), ((a 0), .inl ((d 0), 9, .inl f_rule)), ((a 26), .inl ((d 26), 8, .inl f_cost)), ((a 27), .inl ((d 27), 8, .inl f_length)), ((a 16), .inl ((d 16), 60, .inl g_isLapsed)), ((a 15), .inl ((d 15), 60, .inl g_lapsedAt)), ((a 20), .inl ((d 20), 5040, .inl g_isThere)), ((a 21), .inl ((d 21), 5040, .inl g_counts)), ((a 30), .inl ((d 30), 8, .inl g_paused)), ((a 29), .inl ((d 29), 8, .inl g_stagePaid)), ((a 28), .inl ((d 28), 8, .inl g_parts))]) (fun u => match u with | (w_coin, w_loan, w_grown, w_paidStages, w_clock, g_isLapsed, g_lapsedAt, g_isThere, g_counts, g_paused, g_stagePaid, g_parts) => []) (va_A [(h, .inr (12, [.ref (a 0), .ref (a 1), .ref (a 2), .ref (a 3), .int v_taped, .int v_size, .int v_from, .int v_behind, .int v_hand, .int v_value, .int v_fault, .int v_faultAt, .ref (a 4), .int v_clock, .int v_coin, .int v_loan, .int v_matched, .int v_taxed, .int v_paidStages, .int v_grown, .int v_pledges, .int v_sums, .int v_stages, .int v_isStopped, .ref (a 5), .ref (a 6), .ref (a 7), .ref (a 8), .ref (a 9), .ref (a 10), .ref (a 11), .ref (a 12), .ref (a 13), .ref (a 14), .ref (a 15), .ref (a 16), .ref (a 17), .ref (a 18), .ref (a 19), .ref (a 20), .ref (a 21), .ref (a 22), .ref (a 23), .ref (a 24), .ref (a 25), .ref (a 26), .ref (a 27), .ref (a 28), .ref (a 29), .ref (a 30), .int v_begun, .ref (a 31), .ref (a 32)])), ((a 14), .inl ((d 14), 60, .inl f_dues)), ((a 12), .inl ((d 12), 60, .inl f_first)), ((a 13), .inl ((d 13), 60, .inl f_every)), ((a 19), .inl ((d 19), 5040, .inl f_filled)), ((a 18), .inl ((d 18), 5040, .inl f_due)), ((a 0), .inl ((d 0), 9, .inl f_rule)), ((a 26), .inl ((d 26), 8, .inl f_cost)), ((a 27), .inl ((d 27), 8, .inl f_length)), ((a 16), .inl ((d 16), 60, .inl f_isLapsed)), ((a 15), .inl ((d 15), 60, .inl f_lapsedAt)), ((a 20), .inl ((d 20), 5040, .inl f_isThere)), ((a 21), .inl ((d 21), 5040, .inl f_counts)), ((a 30), .inl ((d 30), 8, .inl f_paused)), ((a 29), .inl ((d 29), 8, .inl f_stagePaid)), ((a 28), .inl ((d 28), 8, .inl f_parts))] sz)) (va_A [(h, .inr (12, [.ref (a 0), .ref (a 1), .ref (a 2), .ref (a 3), .int v_taped, .int v_size, .int v_from, .int v_behind, .int v_hand, .int v_value, .int v_fault, .int v_faultAt, .ref (a 4), .int v_clock, .int v_coin, .int v_loan, .int v_matched, .int v_taxed, .int v_paidStages, .int v_grown, .int v_pledges, .int v_sums, .int v_stages, .int v_isStopped, .ref (a 5), .ref (a 6), .ref (a 7), .ref (a 8), .ref (a 9), .ref (a 10), .ref (a 11), .ref (a 12), .ref (a 13), .ref (a 14), .ref (a 15), .ref (a 16), .ref (a 17), .ref (a 18), .ref (a 19), .ref (a 20), .ref (a 21), .ref (a 22), .ref (a 23), .ref (a 24), .ref (a 25), .ref (a 26), .ref (a 27), .ref (a 28), .ref (a 29), .ref (a 30), .int v_begun, .ref (a 31), .ref (a 32)])), ((a 14), .inl ((d 14), 60, .inl f_dues)), ((a 12), .inl ((d 12), 60, .inl f_first)), ((a 13), .inl ((d 13), 60, .inl f_every)), ((a 19), .inl ((d 19), 5040, .inl f_filled)), ((a 18), .inl ((d 18), 5040, .inl f_due)), ((a 0), .inl ((d 0), 9, .inl f_rule)), ((a 26), .inl ((d 26), 8, .inl f_cost)), ((a 27), .inl ((d 27), 8, .inl f_length)), ((a 16), .inl ((d 16), 60, .inl f_isLapsed)), ((a 15), .inl ((d 15), 60, .inl f_lapsedAt)), ((a 20), .inl ((d 20), 5040, .inl f_isThere)), ((a 21), .inl ((d 21), 5040, .inl f_counts)), ((a 30), .inl ((d 30), 8, .inl f_paused)), ((a 29), .inl ((d 29), 8, .inl f_stagePaid)), ((a 28), .inl ((d 28), 8, .inl f_parts))] sz)) 0 0 (va_A [(h, .inr (12, [.ref (a 0), .ref (a 1), .ref (a 2), .ref (a 3), .int v_taped, .int v_size, .int v_from, .int v_behind, .int v_hand, .int v_value, .int v_fault, .int v_faultAt, .ref (a 4), .int v_clock, .int v_coin, .int v_loan, .int v_matched, .int v_taxed, .int v_paidStages, .int v_grown, .int v_pledges, .int v_sums, .int v_stages, .int v_isStopped, .ref (a 5), .ref (a 6), .ref (a 7), .ref (a 8), .ref (a 9), .ref (a 10), .ref (a 11), .ref (a 12), .ref (a 13), .ref (a 14), .ref (a 15), .ref (a 16), .ref (a 17), .ref (a 18), .ref (a 19), .ref (a 20), .ref (a 21), .ref (a 22), .ref (a 23), .ref (a 24), .ref (a 25), .ref (a 26), .ref (a 27), .ref (a 28), .ref (a 29), .ref (a 30), .int v_begun, .ref (a 31), .ref (a 32)])), ((a 14), .inl ((d 14), 60, .inl f_dues)), ((a 12), .inl ((d 12), 60, .inl f_first)), ((a 13), .inl ((d 13), 60, .inl f_every)), ((a 19), .inl ((d 19), 5040, .inl f_filled)), ((a 18), .inl ((d 18), 5040, .inl f_due)), ((a 0), .inl ((d 0), 9, .inl f_rule)), ((a 26), .inl ((d 26), 8, .inl f_cost)), ((a 27), .inl ((d 27), 8, .inl f_length)), ((a 16), .inl ((d 16), 60, .inl f_isLapsed)), ((a 15), .inl ((d 15), 60, .inl f_lapsedAt)), ((a 20), .inl ((d 20), 5040, .inl f_isThere)), ((a 21), .inl ((d 21), 5040, .inl f_counts)), ((a 30), .inl ((d 30), 8, .inl f_paused)), ((a 29), .inl ((d 29), 8, .inl f_stagePaid)), ((a 28), .inl ((d 28), 8, .inl f_parts))] sz) := by
  refine ofC_v (cc := cX12_endMonth) (maxL := 3) (ret := none) (by decide) rfl (Nat.le_of_ble_eq_true rfl) ?_
  intro p e s m args below meth c A ls Q F hr hin hlk St hl hQ
  have hx := F.1
  have hb := F.2.1
  have hl : lv_has ls 3 [(0, .ref h)] := hl
  have St : cS G k [(h, .inr (12, [.ref (a 0), .ref (a 1), .ref (a 2), .ref (a 3), .int v_taped, .int v_size, .int v_from, .int v_behind, .int v_hand, .int v_value, .int v_fault, .int v_faultAt, .ref (a 4), .int v_clock, .int v_coin, .int v_loan, .int v_matched, .int v_taxed, .int v_paidStages, .int v_grown, .int v_pledges, .int v_sums, .int v_stages, .int v_isStopped, .ref (a 5), .ref (a 6), .ref (a 7), .ref (a 8), .ref (a 9), .ref (a 10), .ref (a 11), .ref (a 12), .ref (a 13), .ref (a 14), .ref (a 15), .ref (a 16), .ref (a 17), .ref (a 18), .ref (a 19), .ref (a 20), .ref (a 21), .ref (a 22), .ref (a 23), .ref (a 24), .ref (a 25), .ref (a 26), .ref (a 27), .ref (a 28), .ref (a 29), .ref (a 30), .int v_begun, .ref (a 31), .ref (a 32)])), ((a 14), .inl ((d 14), 60, .inl f_dues)), ((a 12), .inl ((d 12), 60, .inl f_first)), ((a 13), .inl ((d 13), 60, .inl f_every)), ((a 19), .inl ((d 19), 5040, .inl f_filled)), ((a 18), .inl ((d 18), 5040, .inl f_due)), ((a 0), .inl ((d 0), 9, .inl f_rule)), ((a 26), .inl ((d 26), 8, .inl f_cost)), ((a 27), .inl ((d 27), 8, .inl f_length)), ((a 16), .inl ((d 16), 60, .inl f_isLapsed)), ((a 15), .inl ((d 15), 60, .inl f_lapsedAt)), ((a 20), .inl ((d 20), 5040, .inl f_isThere)), ((a 21), .inl ((d 21), 5040, .inl f_counts)), ((a 30), .inl ((d 30), 8, .inl f_paused)), ((a 29), .inl ((d 29), 8, .inl f_stagePaid)), ((a 28), .inl ((d 28), 8, .inl f_parts))] [((d 14), .int), ((d 12), .int), ((d 13), .int), ((d 19), .int), ((d 18), .int), ((d 0), .int), ((d 26), .int), ((d 27), .int), ((d 16), .boolean), ((d 15), .int), ((d 20), .boolean), ((d 21), .boolean), ((d 30), .int), ((d 29), .int), ((d 28), .int)] A s s.heap [] := St
  have hpd := hPd.1
  have htd := hSt.1
  have y0 : (0 : Int32).toInt = 0 := by decide
  refine lv_iconst (v := 0) hx hb dX12_endMonth_0 (by decide) ?_
  refine lv_istore_n (lv' := [(1, .int 0), (0, .ref h)]) hx hb dX12_endMonth_1 rfl hl (by decide) rfl (fun ls hl => ?_)
  have lp2 : ∀ (n : Nat) (kk : Int32) (q_isLapsed : Nat → Int32) (q_lapsedAt : Nat → Int32) (q_isThere : Nat → Int32) (q_counts : Nat → Int32) (H : Heap) (locs : List Loc) (ls : Array Slot), (0 ≤ kk.toInt ∧ kk.toInt ≤ v_pledges.toInt) → ((60 - kk.toInt).toNat) < n → cS G k [(h, .inr (12, [.ref (a 0), .ref (a 1), .ref (a 2), .ref (a 3), .int v_taped, .int v_size, .int v_from, .int v_behind, .int v_hand, .int v_value, .int v_fault, .int v_faultAt, .ref (a 4), .int v_clock, .int v_coin, .int v_loan, .int v_matched, .int v_taxed, .int v_paidStages, .int v_grown, .int v_pledges, .int v_sums, .int v_stages, .int v_isStopped, .ref (a 5), .ref (a 6), .ref (a 7), .ref (a 8), .ref (a 9), .ref (a 10), .ref (a 11), .ref (a 12), .ref (a 13), .ref (a 14), .ref (a 15), .ref (a 16), .ref (a 17), .ref (a 18), .ref (a 19), .ref (a 20), .ref (a 21), .ref (a 22), .ref (a 23), .ref (a 24), .ref (a 25), .ref (a 26), .ref (a 27), .ref (a 28), .ref (a 29), .ref (a 30), .int v_begun, .ref (a 31), .ref (a 32)])), ((a 14), .inl ((d 14), 60, .inl f_dues)), ((a 12), .inl ((d 12), 60, .inl f_first)), ((a 13), .inl ((d 13), 60, .inl f_every)), ((a 19), .inl ((d 19), 5040, .inl f_filled)), ((a 18), .inl ((d 18), 5040, .inl f_due)), ((a 0), .inl ((d 0), 9, .inl f_rule)), ((a 26), .inl ((d 26), 8, .inl f_cost)), ((a 27), .inl ((d 27), 8, .inl f_length)), ((a 16), .inl ((d 16), 60, .inl q_isLapsed)), ((a 15), .inl ((d 15), 60, .inl q_lapsedAt)), ((a 20), .inl ((d 20), 5040, .inl q_isThere)), ((a 21), .inl ((d 21), 5040, .inl q_counts)), ((a 30), .inl ((d 30), 8, .inl f_paused)), ((a 29), .inl ((d 29), 8, .inl f_stagePaid)), ((a 28), .inl ((d 28), 8, .inl f_parts))] [((d 14), .int), ((d 12), .int), ((d 13), .int), ((d 19), .int), ((d 18), .int), ((d 0), .int), ((d 26), .int), ((d 27), .int), ((d 16), .boolean), ((d 15), .int), ((d 20), .boolean), ((d 21), .boolean), ((d 30), .int), ((d 29), .int), ((d 28), .int)] A s H locs → lv_has ls 3 [(1, .int kk), (0, .ref h)] → W p l e ({ frames := 3, cells := 0, slots := 0, locals := 68 } : Room) s m args below meth c H locs 0 0 Q (F0 m 2 ls []) := by
    intro n
    induction n with
    | zero => intro kk q_isLapsed q_lapsedAt q_isThere q_counts H locs ls hI hn; exact absurd hn (Nat.not_lt_zero _)
    | succ n ih =>
      intro kk q_isLapsed q_lapsedAt q_isThere q_counts H locs ls hI hn St hl
      obtain ⟨hI0, hI1⟩ := hI
      refine lv_iload_n hx hb dX12_endMonth_2 rfl (lv_at hl 0 rfl) ?_
      refine lv_aload_n hx hb dX12_endMonth_3 rfl (lv_at hl 1 rfl) ?_
      refine cs_get F St 0 rfl rfl inX12 20 (by decide) kf_X12_237 rfl dX12_endMonth_4 ?_
      refine lv_icmp_ge (tgt := 21) hx hb dX12_endMonth_7 (by decide) (fun c7 => ?_) (fun c7 => ?_)
      ·
        have i7 := ci_le (x := v_pledges) (y := kk) rfl rfl c7
        refine lv_aload_n hx hb dX12_endMonth_21 rfl (lv_at hl 1 rfl) ?_
        refine cs_get F St 0 rfl rfl inX12 15 (by decide) kf_X12_296 rfl dX12_endMonth_22 ?_
        refine lv_i2l (v := v_loan.toInt64) hx hb dX12_endMonth_25 rfl ?_
        refine lv_aload_n hx hb dX12_endMonth_26 rfl (lv_at hl 1 rfl) ?_
        refine cs_get F St 0 rfl rfl inX12 0 (by decide) kf_X12_114 rfl dX12_endMonth_27 ?_
        refine lv_bipush (v := 6) hx hb dX12_endMonth_30 (by decide) ?_
        refine cs_ild F St 6 5 rfl rfl (vp_in_iff.mpr (by decide)) dX12_endMonth_32 ?_
        refine lv_topi (fun y_1 ey_1 => ?_)
        refine lv_i2l (v := y_1.toInt64) hx hb dX12_endMonth_33 rfl ?_
        refine lv_lmul hx hb dX12_endMonth_34 ?_
        refine lv_topl (fun y_2 ey_2 => ?_)
        refine lv_ldc2 (v := 1000) hx hb F.2.2.2.1 (F.2.2.2.2 _ kk_X12_303) dX12_endMonth_35 ?_
        refine lv_ldiv hx hb dX12_endMonth_38 (by decide) ?_
        refine lv_topl (fun y_3 ey_3 => ?_)
        refine lv_l2i (v := y_3.toInt32) hx hb dX12_endMonth_39 rfl ?_
        refine lv_istore_n (lv' := [(1, .int y_3.toInt32), (0, .ref h)]) hx hb dX12_endMonth_40 rfl hl (by decide) rfl (fun ls hl => ?_)
        refine lv_aload_n hx hb dX12_endMonth_41 rfl (lv_at hl 1 rfl) ?_
        refine lv_dup hx hb dX12_endMonth_42 rfl ?_
        refine cs_get F St 0 rfl rfl inX12 15 (by decide) kf_X12_296 rfl dX12_endMonth_43 ?_
        refine lv_iload_n hx hb dX12_endMonth_46 rfl (lv_at hl 0 rfl) ?_
        refine lv_iadd hx hb dX12_endMonth_47 ?_
        refine lv_topi (fun y_4 ey_4 => ?_)
        first | have jy_4 : y_4.toInt = v_loan.toInt + y_3.toInt32.toInt := (by have q9 := ci_add (x := v_loan) (y := y_3.toInt32) rfl rfl ey_4; omega) | have jy_4 := ci_add (x := v_loan) (y := y_3.toInt32) rfl rfl ey_4
        refine cs_put F St 0 rfl rfl inX12 tyX12_ok nmX12 15 (by decide) kf_X12_296 rfl rfl rfl (Nat.le_of_ble_eq_true rfl) (w' := [(h, .inr (12, [.ref (a 0), .ref (a 1), .ref (a 2), .ref (a 3), .int v_taped, .int v_size, .int v_from, .int v_behind, .int v_hand, .int v_value, .int v_fault, .int v_faultAt, .ref (a 4), .int v_clock, .int v_coin, .int y_4, .int v_matched, .int v_taxed, .int v_paidStages, .int v_grown, .int v_pledges, .int v_sums, .int v_stages, .int v_isStopped, .ref (a 5), .ref (a 6), .ref (a 7), .ref (a 8), .ref (a 9), .ref (a 10), .ref (a 11), .ref (a 12), .ref (a 13), .ref (a 14), .ref (a 15), .ref (a 16), .ref (a 17), .ref (a 18), .ref (a 19), .ref (a 20), .ref (a 21), .ref (a 22), .ref (a 23), .ref (a 24), .ref (a 25), .ref (a 26), .ref (a 27), .ref (a 28), .ref (a 29), .ref (a 30), .int v_begun, .ref (a 31), .ref (a 32)])), ((a 14), .inl ((d 14), 60, .inl f_dues)), ((a 12), .inl ((d 12), 60, .inl f_first)), ((a 13), .inl ((d 13), 60, .inl f_every)), ((a 19), .inl ((d 19), 5040, .inl f_filled)), ((a 18), .inl ((d 18), 5040, .inl f_due)), ((a 0), .inl ((d 0), 9, .inl f_rule)), ((a 26), .inl ((d 26), 8, .inl f_cost)), ((a 27), .inl ((d 27), 8, .inl f_length)), ((a 16), .inl ((d 16), 60, .inl q_isLapsed)), ((a 15), .inl ((d 15), 60, .inl q_lapsedAt)), ((a 20), .inl ((d 20), 5040, .inl q_isThere)), ((a 21), .inl ((d 21), 5040, .inl q_counts)), ((a 30), .inl ((d 30), 8, .inl f_paused)), ((a 29), .inl ((d 29), 8, .inl f_stagePaid)), ((a 28), .inl ((d 28), 8, .inl f_parts))]) rfl dX12_endMonth_48 (fun H locs St => ?_)
        refine lv_aload_n hx hb dX12_endMonth_51 rfl (lv_at hl 1 rfl) ?_
        refine lv_dup hx hb dX12_endMonth_52 rfl ?_
        refine cs_get F St 0 rfl rfl inX12 19 (by decide) kf_X12_305 rfl dX12_endMonth_53 ?_
        refine lv_iload_n hx hb dX12_endMonth_56 rfl (lv_at hl 0 rfl) ?_
        refine lv_iadd hx hb dX12_endMonth_57 ?_
        refine lv_topi (fun y_5 ey_5 => ?_)
        first | have jy_5 : y_5.toInt = v_grown.toInt + y_3.toInt32.toInt := (by have q9 := ci_add (x := v_grown) (y := y_3.toInt32) rfl rfl ey_5; omega) | have jy_5 := ci_add (x := v_grown) (y := y_3.toInt32) rfl rfl ey_5
        refine cs_put F St 0 rfl rfl inX12 tyX12_ok nmX12 19 (by decide) kf_X12_305 rfl rfl rfl (Nat.le_of_ble_eq_true rfl) (w' := [(h, .inr (12, [.ref (a 0), .ref (a 1), .ref (a 2), .ref (a 3), .int v_taped, .int v_size, .int v_from, .int v_behind, .int v_hand, .int v_value, .int v_fault, .int v_faultAt, .ref (a 4), .int v_clock, .int v_coin, .int y_4, .int v_matched, .int v_taxed, .int v_paidStages, .int y_5, .int v_pledges, .int v_sums, .int v_stages, .int v_isStopped, .ref (a 5), .ref (a 6), .ref (a 7), .ref (a 8), .ref (a 9), .ref (a 10), .ref (a 11), .ref (a 12), .ref (a 13), .ref (a 14), .ref (a 15), .ref (a 16), .ref (a 17), .ref (a 18), .ref (a 19), .ref (a 20), .ref (a 21), .ref (a 22), .ref (a 23), .ref (a 24), .ref (a 25), .ref (a 26), .ref (a 27), .ref (a 28), .ref (a 29), .ref (a 30), .int v_begun, .ref (a 31), .ref (a 32)])), ((a 14), .inl ((d 14), 60, .inl f_dues)), ((a 12), .inl ((d 12), 60, .inl f_first)), ((a 13), .inl ((d 13), 60, .inl f_every)), ((a 19), .inl ((d 19), 5040, .inl f_filled)), ((a 18), .inl ((d 18), 5040, .inl f_due)), ((a 0), .inl ((d 0), 9, .inl f_rule)), ((a 26), .inl ((d 26), 8, .inl f_cost)), ((a 27), .inl ((d 27), 8, .inl f_length)), ((a 16), .inl ((d 16), 60, .inl q_isLapsed)), ((a 15), .inl ((d 15), 60, .inl q_lapsedAt)), ((a 20), .inl ((d 20), 5040, .inl q_isThere)), ((a 21), .inl ((d 21), 5040, .inl q_counts)), ((a 30), .inl ((d 30), 8, .inl f_paused)), ((a 29), .inl ((d 29), 8, .inl f_stagePaid)), ((a 28), .inl ((d 28), 8, .inl f_parts))]) rfl dX12_endMonth_58 (fun H locs St => ?_)
        refine lv_aload_n hx hb dX12_endMonth_61 rfl (lv_at hl 1 rfl) ?_
        refine cs_i St [0, 15, 8] [1, 2, 3, 4, 5, 6, 7, 9, 10, 11, 12, 13, 14] (wc := [(h, .inr (12, [.ref (a 0), .ref (a 1), .ref (a 2), .ref (a 3), .int v_taped, .int v_size, .int v_from, .int v_behind, .int v_hand, .int v_value, .int v_fault, .int v_faultAt, .ref (a 4), .int v_clock, .int v_coin, .int y_4, .int v_matched, .int v_taxed, .int v_paidStages, .int y_5, .int v_pledges, .int v_sums, .int v_stages, .int v_isStopped, .ref (a 5), .ref (a 6), .ref (a 7), .ref (a 8), .ref (a 9), .ref (a 10), .ref (a 11), .ref (a 12), .ref (a 13), .ref (a 14), .ref (a 15), .ref (a 16), .ref (a 17), .ref (a 18), .ref (a 19), .ref (a 20), .ref (a 21), .ref (a 22), .ref (a 23), .ref (a 24), .ref (a 25), .ref (a 26), .ref (a 27), .ref (a 28), .ref (a 29), .ref (a 30), .int v_begun, .ref (a 31), .ref (a 32)])), ((a 28), .inl ((d 28), 8, .inl f_parts)), ((a 27), .inl ((d 27), 8, .inl f_length))]) (wr := [((a 14), .inl ((d 14), 60, .inl f_dues)), ((a 12), .inl ((d 12), 60, .inl f_first)), ((a 13), .inl ((d 13), 60, .inl f_every)), ((a 19), .inl ((d 19), 5040, .inl f_filled)), ((a 18), .inl ((d 18), 5040, .inl f_due)), ((a 0), .inl ((d 0), 9, .inl f_rule)), ((a 26), .inl ((d 26), 8, .inl f_cost)), ((a 16), .inl ((d 16), 60, .inl q_isLapsed)), ((a 15), .inl ((d 15), 60, .inl q_lapsedAt)), ((a 20), .inl ((d 20), 5040, .inl q_isThere)), ((a 21), .inl ((d 21), 5040, .inl q_counts)), ((a 30), .inl ((d 30), 8, .inl f_paused)), ((a 29), .inl ((d 29), 8, .inl f_stagePaid))]) rfl rfl (by decide) (by decide) (va_runV (As := []) (rest := []) F (m_runs l G k _ h a d v_taped v_size v_from v_behind v_hand v_value v_fault v_faultAt v_clock v_coin y_4 v_matched v_taxed v_paidStages y_5 v_pledges v_sums v_stages v_isStopped v_begun f_parts f_length hSt) (cwVt F mf_X12_runs km_X12_292 rfl rfl ⟨Nat.le_of_ble_eq_true rfl, Nat.le_of_ble_eq_true rfl⟩) (cs_preV St [0, 15, 8] rfl (by decide) [14, 7] rfl (ci := 12) (q0 := 0) rfl rfl) rfl rfl hl.1 rfl (lv_room (Nat.le_of_ble_eq_true rfl)) dX12_endMonth_62 ⟨Nat.le_of_ble_eq_true rfl, Nat.le_of_ble_eq_true rfl⟩) (fun r_6 u_7 H locs hw St => ?_)
        try dsimp only at hw
        rcases hw with ⟨z_8, hr_9⟩ | z_10
        ·
          subst r_6
          have St : cS G k [((a 14), .inl ((d 14), 60, .inl f_dues)), ((a 12), .inl ((d 12), 60, .inl f_first)), ((a 13), .inl ((d 13), 60, .inl f_every)), ((a 19), .inl ((d 19), 5040, .inl f_filled)), ((a 18), .inl ((d 18), 5040, .inl f_due)), ((a 0), .inl ((d 0), 9, .inl f_rule)), ((a 26), .inl ((d 26), 8, .inl f_cost)), ((a 16), .inl ((d 16), 60, .inl q_isLapsed)), ((a 15), .inl ((d 15), 60, .inl q_lapsedAt)), ((a 20), .inl ((d 20), 5040, .inl q_isThere)), ((a 21), .inl ((d 21), 5040, .inl q_counts)), ((a 30), .inl ((d 30), 8, .inl f_paused)), ((a 29), .inl ((d 29), 8, .inl f_stagePaid)), (h, .inr (12, [.ref (a 0), .ref (a 1), .ref (a 2), .ref (a 3), .int v_taped, .int v_size, .int v_from, .int v_behind, .int v_hand, .int v_value, .int v_fault, .int v_faultAt, .ref (a 4), .int v_clock, .int v_coin, .int y_4, .int v_matched, .int v_taxed, .int v_paidStages, .int y_5, .int v_pledges, .int v_sums, .int v_stages, .int v_isStopped, .ref (a 5), .ref (a 6), .ref (a 7), .ref (a 8), .ref (a 9), .ref (a 10), .ref (a 11), .ref (a 12), .ref (a 13), .ref (a 14), .ref (a 15), .ref (a 16), .ref (a 17), .ref (a 18), .ref (a 19), .ref (a 20), .ref (a 21), .ref (a 22), .ref (a 23), .ref (a 24), .ref (a 25), .ref (a 26), .ref (a 27), .ref (a 28), .ref (a 29), .ref (a 30), .int v_begun, .ref (a 31), .ref (a 32)])), ((a 28), .inl ((d 28), 8, .inl f_parts)), ((a 27), .inl ((d 27), 8, .inl f_length))] [((d 14), .int), ((d 12), .int), ((d 13), .int), ((d 19), .int), ((d 18), .int), ((d 0), .int), ((d 26), .int), ((d 27), .int), ((d 16), .boolean), ((d 15), .int), ((d 20), .boolean), ((d 21), .boolean), ((d 30), .int), ((d 29), .int), ((d 28), .int)] A s H locs := St
          refine lv_if_eq (tgt := 72) hx hb dX12_endMonth_65 (by decide) (fun c65 => ?_) (fun c65 => ?_)
          · exact absurd c65 (by decide)
          refine lv_aload_n hx hb dX12_endMonth_68 rfl (lv_at hl 1 rfl) ?_
          refine cs_v St [13, 6, 15, 5, 11, 12, 14] [0, 1, 2, 3, 4, 7, 8, 9, 10] (wc := [(h, .inr (12, [.ref (a 0), .ref (a 1), .ref (a 2), .ref (a 3), .int v_taped, .int v_size, .int v_from, .int v_behind, .int v_hand, .int v_value, .int v_fault, .int v_faultAt, .ref (a 4), .int v_clock, .int v_coin, .int y_4, .int v_matched, .int v_taxed, .int v_paidStages, .int y_5, .int v_pledges, .int v_sums, .int v_stages, .int v_isStopped, .ref (a 5), .ref (a 6), .ref (a 7), .ref (a 8), .ref (a 9), .ref (a 10), .ref (a 11), .ref (a 12), .ref (a 13), .ref (a 14), .ref (a 15), .ref (a 16), .ref (a 17), .ref (a 18), .ref (a 19), .ref (a 20), .ref (a 21), .ref (a 22), .ref (a 23), .ref (a 24), .ref (a 25), .ref (a 26), .ref (a 27), .ref (a 28), .ref (a 29), .ref (a 30), .int v_begun, .ref (a 31), .ref (a 32)])), ((a 26), .inl ((d 26), 8, .inl f_cost)), ((a 27), .inl ((d 27), 8, .inl f_length)), ((a 0), .inl ((d 0), 9, .inl f_rule)), ((a 30), .inl ((d 30), 8, .inl f_paused)), ((a 29), .inl ((d 29), 8, .inl f_stagePaid)), ((a 28), .inl ((d 28), 8, .inl f_parts))]) (wr := [((a 14), .inl ((d 14), 60, .inl f_dues)), ((a 12), .inl ((d 12), 60, .inl f_first)), ((a 13), .inl ((d 13), 60, .inl f_every)), ((a 19), .inl ((d 19), 5040, .inl f_filled)), ((a 18), .inl ((d 18), 5040, .inl f_due)), ((a 16), .inl ((d 16), 60, .inl q_isLapsed)), ((a 15), .inl ((d 15), 60, .inl q_lapsedAt)), ((a 20), .inl ((d 20), 5040, .inl q_isThere)), ((a 21), .inl ((d 21), 5040, .inl q_counts))]) rfl rfl (by decide) (by decide) (va_runV (As := []) (rest := []) F (m_build l G k _ h a d v_taped v_size v_from v_behind v_hand v_value v_fault v_faultAt v_clock v_coin y_4 v_matched v_taxed v_paidStages y_5 v_pledges v_sums v_stages v_isStopped v_begun f_cost f_length f_rule f_paused f_stagePaid f_parts hSt (by omega)) (cwVt F mf_X12_build km_X12_308 rfl rfl ⟨Nat.le_of_ble_eq_true rfl, Nat.le_of_ble_eq_true rfl⟩) (cs_preV St [13, 6, 15, 5, 11, 12, 14] rfl (by decide) [6, 7, 5, 12, 13, 14] rfl (ci := 12) (q0 := 13) rfl rfl) rfl rfl hl.1 rfl (lv_room (Nat.le_of_ble_eq_true rfl)) dX12_endMonth_69 ⟨Nat.le_of_ble_eq_true rfl, Nat.le_of_ble_eq_true rfl⟩) (fun u_12 H locs hw St => ?_)
          obtain ⟨w_coin_13, w_loan_14, w_paidStages_15, g_paused_16, g_stagePaid_17, g_parts_18⟩ := u_12
          try dsimp only at hw
          have St : cS G k [((a 14), .inl ((d 14), 60, .inl f_dues)), ((a 12), .inl ((d 12), 60, .inl f_first)), ((a 13), .inl ((d 13), 60, .inl f_every)), ((a 19), .inl ((d 19), 5040, .inl f_filled)), ((a 18), .inl ((d 18), 5040, .inl f_due)), ((a 16), .inl ((d 16), 60, .inl q_isLapsed)), ((a 15), .inl ((d 15), 60, .inl q_lapsedAt)), ((a 20), .inl ((d 20), 5040, .inl q_isThere)), ((a 21), .inl ((d 21), 5040, .inl q_counts)), (h, .inr (12, [.ref (a 0), .ref (a 1), .ref (a 2), .ref (a 3), .int v_taped, .int v_size, .int v_from, .int v_behind, .int v_hand, .int v_value, .int v_fault, .int v_faultAt, .ref (a 4), .int v_clock, .int w_coin_13, .int w_loan_14, .int v_matched, .int v_taxed, .int w_paidStages_15, .int y_5, .int v_pledges, .int v_sums, .int v_stages, .int v_isStopped, .ref (a 5), .ref (a 6), .ref (a 7), .ref (a 8), .ref (a 9), .ref (a 10), .ref (a 11), .ref (a 12), .ref (a 13), .ref (a 14), .ref (a 15), .ref (a 16), .ref (a 17), .ref (a 18), .ref (a 19), .ref (a 20), .ref (a 21), .ref (a 22), .ref (a 23), .ref (a 24), .ref (a 25), .ref (a 26), .ref (a 27), .ref (a 28), .ref (a 29), .ref (a 30), .int v_begun, .ref (a 31), .ref (a 32)])), ((a 26), .inl ((d 26), 8, .inl f_cost)), ((a 27), .inl ((d 27), 8, .inl f_length)), ((a 0), .inl ((d 0), 9, .inl f_rule)), ((a 30), .inl ((d 30), 8, .inl g_paused_16)), ((a 29), .inl ((d 29), 8, .inl g_stagePaid_17)), ((a 28), .inl ((d 28), 8, .inl g_parts_18))] [((d 14), .int), ((d 12), .int), ((d 13), .int), ((d 19), .int), ((d 18), .int), ((d 0), .int), ((d 26), .int), ((d 27), .int), ((d 16), .boolean), ((d 15), .int), ((d 20), .boolean), ((d 21), .boolean), ((d 30), .int), ((d 29), .int), ((d 28), .int)] A s H locs := St
          refine lv_aload_n hx hb dX12_endMonth_72 rfl (lv_at hl 1 rfl) ?_
          refine cs_get F St 9 rfl rfl inX12 14 (by decide) kf_X12_262 rfl dX12_endMonth_73 ?_
          refine lv_aload_n hx hb dX12_endMonth_76 rfl (lv_at hl 1 rfl) ?_
          refine cs_get F St 9 rfl rfl inX12 15 (by decide) kf_X12_296 rfl dX12_endMonth_77 ?_
          refine va_mmin hx hb (F.2.2.1.trans hl.1.symm) F.2.2.2.1 (F.2.2.2.2 _ km_X12_254) (F.2.2.2.2 _ ks_J9_min_7cf53) (F.2.2.2.2 _ ki_J9) (F.2.2.2.2 _ kd_J9_min_7cf53) (Nat.le_of_ble_eq_true rfl) (Nat.le_of_ble_eq_true rfl) (Nat.le_of_ble_eq_true rfl) (Nat.le_of_ble_eq_true rfl) dX12_endMonth_80 ?_
          refine lv_topi (fun y_19 ey_19 => ?_)
          refine lv_istore_n (lv' := [(2, .int y_19), (1, .int y_3.toInt32), (0, .ref h)]) hx hb dX12_endMonth_83 rfl hl (by decide) rfl (fun ls hl => ?_)
          refine lv_aload_n hx hb dX12_endMonth_84 rfl (lv_at hl 2 rfl) ?_
          refine lv_dup hx hb dX12_endMonth_85 rfl ?_
          refine cs_get F St 9 rfl rfl inX12 14 (by decide) kf_X12_262 rfl dX12_endMonth_86 ?_
          refine lv_iload_n hx hb dX12_endMonth_89 rfl (lv_at hl 0 rfl) ?_
          refine lv_isub hx hb dX12_endMonth_90 ?_
          refine lv_topi (fun y_20 ey_20 => ?_)
          first | have jy_20 : y_20.toInt = w_coin_13.toInt - y_19.toInt := (by have q9 := ci_sub (x := w_coin_13) (y := y_19) rfl rfl ey_20; omega) | have jy_20 := ci_sub (x := w_coin_13) (y := y_19) rfl rfl ey_20
          refine cs_put F St 9 rfl rfl inX12 tyX12_ok nmX12 14 (by decide) kf_X12_262 rfl rfl rfl (Nat.le_of_ble_eq_true rfl) (w' := [((a 14), .inl ((d 14), 60, .inl f_dues)), ((a 12), .inl ((d 12), 60, .inl f_first)), ((a 13), .inl ((d 13), 60, .inl f_every)), ((a 19), .inl ((d 19), 5040, .inl f_filled)), ((a 18), .inl ((d 18), 5040, .inl f_due)), ((a 16), .inl ((d 16), 60, .inl q_isLapsed)), ((a 15), .inl ((d 15), 60, .inl q_lapsedAt)), ((a 20), .inl ((d 20), 5040, .inl q_isThere)), ((a 21), .inl ((d 21), 5040, .inl q_counts)), (h, .inr (12, [.ref (a 0), .ref (a 1), .ref (a 2), .ref (a 3), .int v_taped, .int v_size, .int v_from, .int v_behind, .int v_hand, .int v_value, .int v_fault, .int v_faultAt, .ref (a 4), .int v_clock, .int y_20, .int w_loan_14, .int v_matched, .int v_taxed, .int w_paidStages_15, .int y_5, .int v_pledges, .int v_sums, .int v_stages, .int v_isStopped, .ref (a 5), .ref (a 6), .ref (a 7), .ref (a 8), .ref (a 9), .ref (a 10), .ref (a 11), .ref (a 12), .ref (a 13), .ref (a 14), .ref (a 15), .ref (a 16), .ref (a 17), .ref (a 18), .ref (a 19), .ref (a 20), .ref (a 21), .ref (a 22), .ref (a 23), .ref (a 24), .ref (a 25), .ref (a 26), .ref (a 27), .ref (a 28), .ref (a 29), .ref (a 30), .int v_begun, .ref (a 31), .ref (a 32)])), ((a 26), .inl ((d 26), 8, .inl f_cost)), ((a 27), .inl ((d 27), 8, .inl f_length)), ((a 0), .inl ((d 0), 9, .inl f_rule)), ((a 30), .inl ((d 30), 8, .inl g_paused_16)), ((a 29), .inl ((d 29), 8, .inl g_stagePaid_17)), ((a 28), .inl ((d 28), 8, .inl g_parts_18))]) rfl dX12_endMonth_91 (fun H locs St => ?_)
          refine lv_aload_n hx hb dX12_endMonth_94 rfl (lv_at hl 2 rfl) ?_
          refine lv_dup hx hb dX12_endMonth_95 rfl ?_
          refine cs_get F St 9 rfl rfl inX12 15 (by decide) kf_X12_296 rfl dX12_endMonth_96 ?_
          refine lv_iload_n hx hb dX12_endMonth_99 rfl (lv_at hl 0 rfl) ?_
          refine lv_isub hx hb dX12_endMonth_100 ?_
          refine lv_topi (fun y_21 ey_21 => ?_)
          first | have jy_21 : y_21.toInt = w_loan_14.toInt - y_19.toInt := (by have q9 := ci_sub (x := w_loan_14) (y := y_19) rfl rfl ey_21; omega) | have jy_21 := ci_sub (x := w_loan_14) (y := y_19) rfl rfl ey_21
          refine cs_put F St 9 rfl rfl inX12 tyX12_ok nmX12 15 (by decide) kf_X12_296 rfl rfl rfl (Nat.le_of_ble_eq_true rfl) (w' := [((a 14), .inl ((d 14), 60, .inl f_dues)), ((a 12), .inl ((d 12), 60, .inl f_first)), ((a 13), .inl ((d 13), 60, .inl f_every)), ((a 19), .inl ((d 19), 5040, .inl f_filled)), ((a 18), .inl ((d 18), 5040, .inl f_due)), ((a 16), .inl ((d 16), 60, .inl q_isLapsed)), ((a 15), .inl ((d 15), 60, .inl q_lapsedAt)), ((a 20), .inl ((d 20), 5040, .inl q_isThere)), ((a 21), .inl ((d 21), 5040, .inl q_counts)), (h, .inr (12, [.ref (a 0), .ref (a 1), .ref (a 2), .ref (a 3), .int v_taped, .int v_size, .int v_from, .int v_behind, .int v_hand, .int v_value, .int v_fault, .int v_faultAt, .ref (a 4), .int v_clock, .int y_20, .int y_21, .int v_matched, .int v_taxed, .int w_paidStages_15, .int y_5, .int v_pledges, .int v_sums, .int v_stages, .int v_isStopped, .ref (a 5), .ref (a 6), .ref (a 7), .ref (a 8), .ref (a 9), .ref (a 10), .ref (a 11), .ref (a 12), .ref (a 13), .ref (a 14), .ref (a 15), .ref (a 16), .ref (a 17), .ref (a 18), .ref (a 19), .ref (a 20), .ref (a 21), .ref (a 22), .ref (a 23), .ref (a 24), .ref (a 25), .ref (a 26), .ref (a 27), .ref (a 28), .ref (a 29), .ref (a 30), .int v_begun, .ref (a 31), .ref (a 32)])), ((a 26), .inl ((d 26), 8, .inl f_cost)), ((a 27), .inl ((d 27), 8, .inl f_length)), ((a 0), .inl ((d 0), 9, .inl f_rule)), ((a 30), .inl ((d 30), 8, .inl g_paused_16)), ((a 29), .inl ((d 29), 8, .inl g_stagePaid_17)), ((a 28), .inl ((d 28), 8, .inl g_parts_18))]) rfl dX12_endMonth_101 (fun H locs St => ?_)
          refine lv_aload_n hx hb dX12_endMonth_104 rfl (lv_at hl 2 rfl) ?_
          refine lv_dup hx hb dX12_endMonth_105 rfl ?_
          refine cs_get F St 9 rfl rfl inX12 13 (by decide) kf_X12_230 rfl dX12_endMonth_106 ?_
          refine lv_iconst (v := 1) hx hb dX12_endMonth_109 (by decide) ?_
          refine lv_iadd hx hb dX12_endMonth_110 ?_
          refine lv_topi (fun y_22 ey_22 => ?_)
          first | have jy_22 : y_22.toInt = v_clock.toInt + 1 := (by have q9 := ci_add (x := v_clock) (y := 1) rfl (show (1 : Int32).toInt = 1 by decide) ey_22; omega) | have jy_22 := ci_add (x := v_clock) (y := 1) rfl (show (1 : Int32).toInt = 1 by decide) ey_22
          refine cs_put F St 9 rfl rfl inX12 tyX12_ok nmX12 13 (by decide) kf_X12_230 rfl rfl rfl (Nat.le_of_ble_eq_true rfl) (w' := [((a 14), .inl ((d 14), 60, .inl f_dues)), ((a 12), .inl ((d 12), 60, .inl f_first)), ((a 13), .inl ((d 13), 60, .inl f_every)), ((a 19), .inl ((d 19), 5040, .inl f_filled)), ((a 18), .inl ((d 18), 5040, .inl f_due)), ((a 16), .inl ((d 16), 60, .inl q_isLapsed)), ((a 15), .inl ((d 15), 60, .inl q_lapsedAt)), ((a 20), .inl ((d 20), 5040, .inl q_isThere)), ((a 21), .inl ((d 21), 5040, .inl q_counts)), (h, .inr (12, [.ref (a 0), .ref (a 1), .ref (a 2), .ref (a 3), .int v_taped, .int v_size, .int v_from, .int v_behind, .int v_hand, .int v_value, .int v_fault, .int v_faultAt, .ref (a 4), .int y_22, .int y_20, .int y_21, .int v_matched, .int v_taxed, .int w_paidStages_15, .int y_5, .int v_pledges, .int v_sums, .int v_stages, .int v_isStopped, .ref (a 5), .ref (a 6), .ref (a 7), .ref (a 8), .ref (a 9), .ref (a 10), .ref (a 11), .ref (a 12), .ref (a 13), .ref (a 14), .ref (a 15), .ref (a 16), .ref (a 17), .ref (a 18), .ref (a 19), .ref (a 20), .ref (a 21), .ref (a 22), .ref (a 23), .ref (a 24), .ref (a 25), .ref (a 26), .ref (a 27), .ref (a 28), .ref (a 29), .ref (a 30), .int v_begun, .ref (a 31), .ref (a 32)])), ((a 26), .inl ((d 26), 8, .inl f_cost)), ((a 27), .inl ((d 27), 8, .inl f_length)), ((a 0), .inl ((d 0), 9, .inl f_rule)), ((a 30), .inl ((d 30), 8, .inl g_paused_16)), ((a 29), .inl ((d 29), 8, .inl g_stagePaid_17)), ((a 28), .inl ((d 28), 8, .inl g_parts_18))]) rfl dX12_endMonth_111 (fun H locs St => ?_)
          exact cs_vret F hr hlk hQ St (y_20, y_21, y_5, w_paidStages_15, y_22, q_isLapsed, q_lapsedAt, q_isThere, q_counts, g_paused_16, g_stagePaid_17, g_parts_18) (by omega) [9, 0, 1, 2, 3, 4, 12, 10, 11, 5, 6, 7, 8, 13, 14, 15] rfl (by decide) [] rfl (by decide) (by decide) dX12_endMonth_114
        ·
          subst r_6
          have St : cS G k [((a 14), .inl ((d 14), 60, .inl f_dues)), ((a 12), .inl ((d 12), 60, .inl f_first)), ((a 13), .inl ((d 13), 60, .inl f_every)), ((a 19), .inl ((d 19), 5040, .inl f_filled)), ((a 18), .inl ((d 18), 5040, .inl f_due)), ((a 0), .inl ((d 0), 9, .inl f_rule)), ((a 26), .inl ((d 26), 8, .inl f_cost)), ((a 16), .inl ((d 16), 60, .inl q_isLapsed)), ((a 15), .inl ((d 15), 60, .inl q_lapsedAt)), ((a 20), .inl ((d 20), 5040, .inl q_isThere)), ((a 21), .inl ((d 21), 5040, .inl q_counts)), ((a 30), .inl ((d 30), 8, .inl f_paused)), ((a 29), .inl ((d 29), 8, .inl f_stagePaid)), (h, .inr (12, [.ref (a 0), .ref (a 1), .ref (a 2), .ref (a 3), .int v_taped, .int v_size, .int v_from, .int v_behind, .int v_hand, .int v_value, .int v_fault, .int v_faultAt, .ref (a 4), .int v_clock, .int v_coin, .int y_4, .int v_matched, .int v_taxed, .int v_paidStages, .int y_5, .int v_pledges, .int v_sums, .int v_stages, .int v_isStopped, .ref (a 5), .ref (a 6), .ref (a 7), .ref (a 8), .ref (a 9), .ref (a 10), .ref (a 11), .ref (a 12), .ref (a 13), .ref (a 14), .ref (a 15), .ref (a 16), .ref (a 17), .ref (a 18), .ref (a 19), .ref (a 20), .ref (a 21), .ref (a 22), .ref (a 23), .ref (a 24), .ref (a 25), .ref (a 26), .ref (a 27), .ref (a 28), .ref (a 29), .ref (a 30), .int v_begun, .ref (a 31), .ref (a 32)])), ((a 28), .inl ((d 28), 8, .inl f_parts)), ((a 27), .inl ((d 27), 8, .inl f_length))] [((d 14), .int), ((d 12), .int), ((d 13), .int), ((d 19), .int), ((d 18), .int), ((d 0), .int), ((d 26), .int), ((d 27), .int), ((d 16), .boolean), ((d 15), .int), ((d 20), .boolean), ((d 21), .boolean), ((d 30), .int), ((d 29), .int), ((d 28), .int)] A s H locs := St
          refine lv_if_eq (tgt := 72) hx hb dX12_endMonth_65 (by decide) (fun c65 => ?_) (fun c65 => ?_)
          rotate_left
          · exact absurd (by decide) c65
          refine lv_aload_n hx hb dX12_endMonth_72 rfl (lv_at hl 1 rfl) ?_
          refine cs_get F St 13 rfl rfl inX12 14 (by decide) kf_X12_262 rfl dX12_endMonth_73 ?_
          refine lv_aload_n hx hb dX12_endMonth_76 rfl (lv_at hl 1 rfl) ?_
          refine cs_get F St 13 rfl rfl inX12 15 (by decide) kf_X12_296 rfl dX12_endMonth_77 ?_
          refine va_mmin hx hb (F.2.2.1.trans hl.1.symm) F.2.2.2.1 (F.2.2.2.2 _ km_X12_254) (F.2.2.2.2 _ ks_J9_min_7cf53) (F.2.2.2.2 _ ki_J9) (F.2.2.2.2 _ kd_J9_min_7cf53) (Nat.le_of_ble_eq_true rfl) (Nat.le_of_ble_eq_true rfl) (Nat.le_of_ble_eq_true rfl) (Nat.le_of_ble_eq_true rfl) dX12_endMonth_80 ?_
          refine lv_topi (fun y_23 ey_23 => ?_)
          refine lv_istore_n (lv' := [(2, .int y_23), (1, .int y_3.toInt32), (0, .ref h)]) hx hb dX12_endMonth_83 rfl hl (by decide) rfl (fun ls hl => ?_)
          refine lv_aload_n hx hb dX12_endMonth_84 rfl (lv_at hl 2 rfl) ?_
          refine lv_dup hx hb dX12_endMonth_85 rfl ?_
          refine cs_get F St 13 rfl rfl inX12 14 (by decide) kf_X12_262 rfl dX12_endMonth_86 ?_
          refine lv_iload_n hx hb dX12_endMonth_89 rfl (lv_at hl 0 rfl) ?_
          refine lv_isub hx hb dX12_endMonth_90 ?_
          refine lv_topi (fun y_24 ey_24 => ?_)
          first | have jy_24 : y_24.toInt = v_coin.toInt - y_23.toInt := (by have q9 := ci_sub (x := v_coin) (y := y_23) rfl rfl ey_24; omega) | have jy_24 := ci_sub (x := v_coin) (y := y_23) rfl rfl ey_24
          refine cs_put F St 13 rfl rfl inX12 tyX12_ok nmX12 14 (by decide) kf_X12_262 rfl rfl rfl (Nat.le_of_ble_eq_true rfl) (w' := [((a 14), .inl ((d 14), 60, .inl f_dues)), ((a 12), .inl ((d 12), 60, .inl f_first)), ((a 13), .inl ((d 13), 60, .inl f_every)), ((a 19), .inl ((d 19), 5040, .inl f_filled)), ((a 18), .inl ((d 18), 5040, .inl f_due)), ((a 0), .inl ((d 0), 9, .inl f_rule)), ((a 26), .inl ((d 26), 8, .inl f_cost)), ((a 16), .inl ((d 16), 60, .inl q_isLapsed)), ((a 15), .inl ((d 15), 60, .inl q_lapsedAt)), ((a 20), .inl ((d 20), 5040, .inl q_isThere)), ((a 21), .inl ((d 21), 5040, .inl q_counts)), ((a 30), .inl ((d 30), 8, .inl f_paused)), ((a 29), .inl ((d 29), 8, .inl f_stagePaid)), (h, .inr (12, [.ref (a 0), .ref (a 1), .ref (a 2), .ref (a 3), .int v_taped, .int v_size, .int v_from, .int v_behind, .int v_hand, .int v_value, .int v_fault, .int v_faultAt, .ref (a 4), .int v_clock, .int y_24, .int y_4, .int v_matched, .int v_taxed, .int v_paidStages, .int y_5, .int v_pledges, .int v_sums, .int v_stages, .int v_isStopped, .ref (a 5), .ref (a 6), .ref (a 7), .ref (a 8), .ref (a 9), .ref (a 10), .ref (a 11), .ref (a 12), .ref (a 13), .ref (a 14), .ref (a 15), .ref (a 16), .ref (a 17), .ref (a 18), .ref (a 19), .ref (a 20), .ref (a 21), .ref (a 22), .ref (a 23), .ref (a 24), .ref (a 25), .ref (a 26), .ref (a 27), .ref (a 28), .ref (a 29), .ref (a 30), .int v_begun, .ref (a 31), .ref (a 32)])), ((a 28), .inl ((d 28), 8, .inl f_parts)), ((a 27), .inl ((d 27), 8, .inl f_length))]) rfl dX12_endMonth_91 (fun H locs St => ?_)
          refine lv_aload_n hx hb dX12_endMonth_94 rfl (lv_at hl 2 rfl) ?_
          refine lv_dup hx hb dX12_endMonth_95 rfl ?_
          refine cs_get F St 13 rfl rfl inX12 15 (by decide) kf_X12_296 rfl dX12_endMonth_96 ?_
          refine lv_iload_n hx hb dX12_endMonth_99 rfl (lv_at hl 0 rfl) ?_
          refine lv_isub hx hb dX12_endMonth_100 ?_
          refine lv_topi (fun y_25 ey_25 => ?_)
          first | have jy_25 : y_25.toInt = y_4.toInt - y_23.toInt := (by have q9 := ci_sub (x := y_4) (y := y_23) rfl rfl ey_25; omega) | have jy_25 := ci_sub (x := y_4) (y := y_23) rfl rfl ey_25
          refine cs_put F St 13 rfl rfl inX12 tyX12_ok nmX12 15 (by decide) kf_X12_296 rfl rfl rfl (Nat.le_of_ble_eq_true rfl) (w' := [((a 14), .inl ((d 14), 60, .inl f_dues)), ((a 12), .inl ((d 12), 60, .inl f_first)), ((a 13), .inl ((d 13), 60, .inl f_every)), ((a 19), .inl ((d 19), 5040, .inl f_filled)), ((a 18), .inl ((d 18), 5040, .inl f_due)), ((a 0), .inl ((d 0), 9, .inl f_rule)), ((a 26), .inl ((d 26), 8, .inl f_cost)), ((a 16), .inl ((d 16), 60, .inl q_isLapsed)), ((a 15), .inl ((d 15), 60, .inl q_lapsedAt)), ((a 20), .inl ((d 20), 5040, .inl q_isThere)), ((a 21), .inl ((d 21), 5040, .inl q_counts)), ((a 30), .inl ((d 30), 8, .inl f_paused)), ((a 29), .inl ((d 29), 8, .inl f_stagePaid)), (h, .inr (12, [.ref (a 0), .ref (a 1), .ref (a 2), .ref (a 3), .int v_taped, .int v_size, .int v_from, .int v_behind, .int v_hand, .int v_value, .int v_fault, .int v_faultAt, .ref (a 4), .int v_clock, .int y_24, .int y_25, .int v_matched, .int v_taxed, .int v_paidStages, .int y_5, .int v_pledges, .int v_sums, .int v_stages, .int v_isStopped, .ref (a 5), .ref (a 6), .ref (a 7), .ref (a 8), .ref (a 9), .ref (a 10), .ref (a 11), .ref (a 12), .ref (a 13), .ref (a 14), .ref (a 15), .ref (a 16), .ref (a 17), .ref (a 18), .ref (a 19), .ref (a 20), .ref (a 21), .ref (a 22), .ref (a 23), .ref (a 24), .ref (a 25), .ref (a 26), .ref (a 27), .ref (a 28), .ref (a 29), .ref (a 30), .int v_begun, .ref (a 31), .ref (a 32)])), ((a 28), .inl ((d 28), 8, .inl f_parts)), ((a 27), .inl ((d 27), 8, .inl f_length))]) rfl dX12_endMonth_101 (fun H locs St => ?_)
          refine lv_aload_n hx hb dX12_endMonth_104 rfl (lv_at hl 2 rfl) ?_
          refine lv_dup hx hb dX12_endMonth_105 rfl ?_
          refine cs_get F St 13 rfl rfl inX12 13 (by decide) kf_X12_230 rfl dX12_endMonth_106 ?_
          refine lv_iconst (v := 1) hx hb dX12_endMonth_109 (by decide) ?_
          refine lv_iadd hx hb dX12_endMonth_110 ?_
          refine lv_topi (fun y_26 ey_26 => ?_)
          first | have jy_26 : y_26.toInt = v_clock.toInt + 1 := (by have q9 := ci_add (x := v_clock) (y := 1) rfl (show (1 : Int32).toInt = 1 by decide) ey_26; omega) | have jy_26 := ci_add (x := v_clock) (y := 1) rfl (show (1 : Int32).toInt = 1 by decide) ey_26
          refine cs_put F St 13 rfl rfl inX12 tyX12_ok nmX12 13 (by decide) kf_X12_230 rfl rfl rfl (Nat.le_of_ble_eq_true rfl) (w' := [((a 14), .inl ((d 14), 60, .inl f_dues)), ((a 12), .inl ((d 12), 60, .inl f_first)), ((a 13), .inl ((d 13), 60, .inl f_every)), ((a 19), .inl ((d 19), 5040, .inl f_filled)), ((a 18), .inl ((d 18), 5040, .inl f_due)), ((a 0), .inl ((d 0), 9, .inl f_rule)), ((a 26), .inl ((d 26), 8, .inl f_cost)), ((a 16), .inl ((d 16), 60, .inl q_isLapsed)), ((a 15), .inl ((d 15), 60, .inl q_lapsedAt)), ((a 20), .inl ((d 20), 5040, .inl q_isThere)), ((a 21), .inl ((d 21), 5040, .inl q_counts)), ((a 30), .inl ((d 30), 8, .inl f_paused)), ((a 29), .inl ((d 29), 8, .inl f_stagePaid)), (h, .inr (12, [.ref (a 0), .ref (a 1), .ref (a 2), .ref (a 3), .int v_taped, .int v_size, .int v_from, .int v_behind, .int v_hand, .int v_value, .int v_fault, .int v_faultAt, .ref (a 4), .int y_26, .int y_24, .int y_25, .int v_matched, .int v_taxed, .int v_paidStages, .int y_5, .int v_pledges, .int v_sums, .int v_stages, .int v_isStopped, .ref (a 5), .ref (a 6), .ref (a 7), .ref (a 8), .ref (a 9), .ref (a 10), .ref (a 11), .ref (a 12), .ref (a 13), .ref (a 14), .ref (a 15), .ref (a 16), .ref (a 17), .ref (a 18), .ref (a 19), .ref (a 20), .ref (a 21), .ref (a 22), .ref (a 23), .ref (a 24), .ref (a 25), .ref (a 26), .ref (a 27), .ref (a 28), .ref (a 29), .ref (a 30), .int v_begun, .ref (a 31), .ref (a 32)])), ((a 28), .inl ((d 28), 8, .inl f_parts)), ((a 27), .inl ((d 27), 8, .inl f_length))]) rfl dX12_endMonth_111 (fun H locs St => ?_)
          exact cs_vret F hr hlk hQ St (y_24, y_25, y_5, v_paidStages, y_26, q_isLapsed, q_lapsedAt, q_isThere, q_counts, f_paused, f_stagePaid, f_parts) (by omega) [13, 0, 1, 2, 3, 4, 5, 6, 15, 7, 8, 9, 10, 11, 12, 14] rfl (by decide) [] rfl (by decide) (by decide) dX12_endMonth_114
      ·
        have i7 := ci_nle (x := v_pledges) (y := kk) rfl rfl c7
        refine lv_aload_n hx hb dX12_endMonth_10 rfl (lv_at hl 1 rfl) ?_
        refine lv_iload_n hx hb dX12_endMonth_11 rfl (lv_at hl 0 rfl) ?_
        refine cs_v St [0, 1, 2, 3, 4, 5, 6, 9, 10, 11, 12] [7, 8, 13, 14, 15] (wc := [(h, .inr (12, [.ref (a 0), .ref (a 1), .ref (a 2), .ref (a 3), .int v_taped, .int v_size, .int v_from, .int v_behind, .int v_hand, .int v_value, .int v_fault, .int v_faultAt, .ref (a 4), .int v_clock, .int v_coin, .int v_loan, .int v_matched, .int v_taxed, .int v_paidStages, .int v_grown, .int v_pledges, .int v_sums, .int v_stages, .int v_isStopped, .ref (a 5), .ref (a 6), .ref (a 7), .ref (a 8), .ref (a 9), .ref (a 10), .ref (a 11), .ref (a 12), .ref (a 13), .ref (a 14), .ref (a 15), .ref (a 16), .ref (a 17), .ref (a 18), .ref (a 19), .ref (a 20), .ref (a 21), .ref (a 22), .ref (a 23), .ref (a 24), .ref (a 25), .ref (a 26), .ref (a 27), .ref (a 28), .ref (a 29), .ref (a 30), .int v_begun, .ref (a 31), .ref (a 32)])), ((a 14), .inl ((d 14), 60, .inl f_dues)), ((a 12), .inl ((d 12), 60, .inl f_first)), ((a 13), .inl ((d 13), 60, .inl f_every)), ((a 19), .inl ((d 19), 5040, .inl f_filled)), ((a 18), .inl ((d 18), 5040, .inl f_due)), ((a 0), .inl ((d 0), 9, .inl f_rule)), ((a 16), .inl ((d 16), 60, .inl q_isLapsed)), ((a 15), .inl ((d 15), 60, .inl q_lapsedAt)), ((a 20), .inl ((d 20), 5040, .inl q_isThere)), ((a 21), .inl ((d 21), 5040, .inl q_counts))]) (wr := [((a 26), .inl ((d 26), 8, .inl f_cost)), ((a 27), .inl ((d 27), 8, .inl f_length)), ((a 30), .inl ((d 30), 8, .inl f_paused)), ((a 29), .inl ((d 29), 8, .inl f_stagePaid)), ((a 28), .inl ((d 28), 8, .inl f_parts))]) rfl rfl (by decide) (by decide) (va_runV (As := [.int kk]) (rest := []) F (m_lapse l G k _ h a d v_taped v_size v_from v_behind v_hand v_value v_fault v_faultAt v_clock v_coin v_loan v_matched v_taxed v_paidStages v_grown v_pledges v_sums v_stages v_isStopped v_begun f_dues f_first f_every f_filled f_due f_rule q_isLapsed q_lapsedAt q_isThere q_counts kk hPd (by omega) (by omega)) (cwVt F mf_X12_lapse km_X12_301 rfl rfl ⟨Nat.le_of_ble_eq_true rfl, Nat.le_of_ble_eq_true rfl⟩) (cs_preV St [0, 1, 2, 3, 4, 5, 6, 9, 10, 11, 12] rfl (by decide) [0, 1, 2, 3, 4, 5, 8, 9, 10, 11] rfl (ci := 12) (q0 := 0) rfl rfl) rfl rfl hl.1 rfl (lv_room (Nat.le_of_ble_eq_true rfl)) dX12_endMonth_12 ⟨Nat.le_of_ble_eq_true rfl, Nat.le_of_ble_eq_true rfl⟩) (fun u_28 H locs hw St => ?_)
        obtain ⟨g_isLapsed_29, g_lapsedAt_30, g_isThere_31, g_counts_32⟩ := u_28
        try dsimp only at hw
        have St : cS G k [((a 26), .inl ((d 26), 8, .inl f_cost)), ((a 27), .inl ((d 27), 8, .inl f_length)), ((a 30), .inl ((d 30), 8, .inl f_paused)), ((a 29), .inl ((d 29), 8, .inl f_stagePaid)), ((a 28), .inl ((d 28), 8, .inl f_parts)), (h, .inr (12, [.ref (a 0), .ref (a 1), .ref (a 2), .ref (a 3), .int v_taped, .int v_size, .int v_from, .int v_behind, .int v_hand, .int v_value, .int v_fault, .int v_faultAt, .ref (a 4), .int v_clock, .int v_coin, .int v_loan, .int v_matched, .int v_taxed, .int v_paidStages, .int v_grown, .int v_pledges, .int v_sums, .int v_stages, .int v_isStopped, .ref (a 5), .ref (a 6), .ref (a 7), .ref (a 8), .ref (a 9), .ref (a 10), .ref (a 11), .ref (a 12), .ref (a 13), .ref (a 14), .ref (a 15), .ref (a 16), .ref (a 17), .ref (a 18), .ref (a 19), .ref (a 20), .ref (a 21), .ref (a 22), .ref (a 23), .ref (a 24), .ref (a 25), .ref (a 26), .ref (a 27), .ref (a 28), .ref (a 29), .ref (a 30), .int v_begun, .ref (a 31), .ref (a 32)])), ((a 14), .inl ((d 14), 60, .inl f_dues)), ((a 12), .inl ((d 12), 60, .inl f_first)), ((a 13), .inl ((d 13), 60, .inl f_every)), ((a 19), .inl ((d 19), 5040, .inl f_filled)), ((a 18), .inl ((d 18), 5040, .inl f_due)), ((a 0), .inl ((d 0), 9, .inl f_rule)), ((a 16), .inl ((d 16), 60, .inl g_isLapsed_29)), ((a 15), .inl ((d 15), 60, .inl g_lapsedAt_30)), ((a 20), .inl ((d 20), 5040, .inl g_isThere_31)), ((a 21), .inl ((d 21), 5040, .inl g_counts_32))] [((d 14), .int), ((d 12), .int), ((d 13), .int), ((d 19), .int), ((d 18), .int), ((d 0), .int), ((d 26), .int), ((d 27), .int), ((d 16), .boolean), ((d 15), .int), ((d 20), .boolean), ((d 21), .boolean), ((d 30), .int), ((d 29), .int), ((d 28), .int)] A s H locs := St
        obtain ⟨y_33, ey_33⟩ : ∃ zz : Int32, zz = kk + 1 := ⟨_, rfl⟩
        first | have jy_33 : y_33.toInt = kk.toInt + 1 := (by have q9 := ci_add (x := kk) rfl (show (1 : Int32).toInt = 1 by decide) ey_33; omega) | have jy_33 := ci_add (x := kk) rfl (show (1 : Int32).toInt = 1 by decide) ey_33
        refine lv_iinc (v := y_33) (lv' := [(1, .int y_33), (0, .ref h)]) hx hb dX12_endMonth_15 hl (k := 0) rfl (by rw [ey_33]; rfl) (by decide) rfl (fun ls hl => ?_)
        refine lv_goto (tgt := 2) hx hb dX12_endMonth_18 (by decide) ?_
        exact ih y_33 g_isLapsed_29 g_lapsedAt_30 g_isThere_31 g_counts_32 _ _ _ ⟨by omega, by omega⟩ (by omega) (cs_pick St [5, 6, 7, 8, 9, 10, 11, 0, 1, 12, 13, 14, 15, 2, 3, 4] rfl (by decide) [0, 1, 2, 3, 4, 5, 6, 7, 8, 9, 10, 11, 12, 13, 14] rfl) (lv_sub hl [0, 1] rfl)
  exact lp2 61 0 f_isLapsed f_lapsedAt f_isThere f_counts _ _ _ ⟨by omega, by omega⟩ (by omega) St (lv_sub hl [0, 1] rfl)
set_option maxHeartbeats 4000000 in
set_option maxRecDepth 100000 in
theorem m_months (l : Launch) (G : va_G) (k : Nat → Nat) (sz : Nat) (h : Nat) (a : Nat → Nat) (d : Nat → ClassId) (v_taped : Int32) (v_size : Int32) (v_from : Int32) (v_behind : Int32) (v_hand : Int32) (v_value : Int32) (v_fault : Int32) (v_faultAt : Int32) (v_clock : Int32) (v_coin : Int32) (v_loan : Int32) (v_matched : Int32) (v_taxed : Int32) (v_paidStages : Int32) (v_grown : Int32) (v_pledges : Int32) (v_sums : Int32) (v_stages : Int32) (v_isStopped : Int32) (v_begun : Int32) (f_dues : Nat → Int32) (f_first : Nat → Int32) (f_every : Nat → Int32) (f_filled : Nat → Int32) (f_due : Nat → Int32) (f_rule : Nat → Int32) (f_cost : Nat → Int32) (f_length : Nat → Int32) (f_isLapsed : Nat → Int32) (f_lapsedAt : Nat → Int32) (f_isThere : Nat → Int32) (f_counts : Nat → Int32) (f_paused : Nat → Int32) (f_stagePaid : Nat → Int32) (f_parts : Nat → Int32) (x1 : Int32) (hPd : mPd v_pledges f_dues) (hSt : mSt v_stages v_begun f_length) (hc0 : 0 ≤ v_clock.toInt) (hc1 : v_clock.toInt ≤ 119) : Met l yX12_months (Cond.code yX12_months cX12_months 3 (some .int) :: tb) ({ frames := 4, cells := 0, slots := 0, locals := 90 } : Room) (va_Pc [.ref h, .int x1] (cP G k [(h, .inr (12, [.ref (a 0), .ref (a 1), .ref (a 2), .ref (a 3), .int v_taped, .int v_size, .int v_from, .int v_behind, .int v_hand, .int v_value, .int v_fault, .int v_faultAt, .ref (a 4), .int v_clock, .int v_coin, .int v_loan, .int v_matched, .int v_taxed, .int v_paidStages, .int v_grown, .int v_pledges, .int v_sums, .int v_stages, .int v_isStopped, .ref (a 5), .ref (a 6), .ref (a 7), .ref (a 8), .ref (a 9), .ref (a 10), .ref (a 11), .ref (a 12), .ref (a 13), .ref (a 14), .ref (a 15), .ref (a 16), .ref (a 17), .ref (a 18), .ref (a 19), .ref (a 20), .ref (a 21), .ref (a 22), .ref (a 23), .ref (a 24), .ref (a 25), .ref (a 26), .ref (a 27), .ref (a 28), .ref (a 29), .ref (a 30), .int v_begun, .ref (a 31), .ref (a 32)])), ((a 14), .inl ((d 14), 60, .inl f_dues)), ((a 12), .inl ((d 12), 60, .inl f_first)), ((a 13), .inl ((d 13), 60, .inl f_every)), ((a 19), .inl ((d 19), 5040, .inl f_filled)), ((a 18), .inl ((d 18), 5040, .inl f_due)), ((a 0), .inl ((d 0), 9, .inl f_rule)), ((a 26), .inl ((d 26), 8, .inl f_cost)), ((a 27), .inl ((d 27), 8, .inl f_length)), ((a 16), .inl ((d 16), 60, .inl f_isLapsed)), ((a 15), .inl ((d 15), 60, .inl f_lapsedAt)), ((a 20), .inl ((d 20), 5040, .inl f_isThere)), ((a 21), .inl ((d 21), 5040, .inl f_counts)), ((a 30), .inl ((d 30), 8, .inl f_paused)), ((a 29), .inl ((d 29), 8, .inl f_stagePaid)), ((a 28), .inl ((d 28), 8, .inl f_parts))] [((d 14), .int), ((d 12), .int), ((d 13), .int), ((d 19), .int), ((d 18), .int), ((d 0), .int), ((d 26), .int), ((d 27), .int), ((d 16), .boolean), ((d 15), .int), ((d 20), .boolean), ((d 21), .boolean), ((d 30), .int), ((d 29), .int), ((d 28), .int)] sz)) (va_Qi (fun (r : Int32) (u : Int32 × Int32 × Int32 × Int32 × Int32 × (Nat → Int32) × (Nat → Int32) × (Nat → Int32) × (Nat → Int32) × (Nat → Int32) × (Nat → Int32) × (Nat → Int32)) => match u with | (w_coin, w_loan, w_grown, w_paidStages, w_clock, g_isLapsed, g_lapsedAt, g_isThere, g_counts, g_paused, g_stagePaid, g_parts) => ((r = (-2) ∧ ¬ ((1 ≤ x1.toInt ∧ x1.toInt ≤ 24) ∧ v_clock.toInt + x1.toInt ≤ 119) ∧ w_clock = v_clock) ∨ (r = (-4) ∧ (((1 ≤ x1.toInt ∧ x1.toInt ≤ 24) ∧ v_clock.toInt + x1.toInt ≤ 119) ∧ ¬ v_isStopped.toInt = 0) ∧ w_clock = v_clock) ∨ (r = w_clock ∧ (((1 ≤ x1.toInt ∧ x1.toInt ≤ 24) ∧ v_clock.toInt + x1.toInt ≤ 119) ∧ v_isStopped.toInt = 0) ∧ w_clock.toInt = v_clock.toInt + x1.toInt))) (cB G (fun u => match u with | (w_coin, w_loan, w_grown, w_paidStages, w_clock, g_isLapsed, g_lapsedAt, g_isThere, g_counts, g_paused, g_stagePaid, g_parts) => [(h, .inr (12, [.ref (a 0), .ref (a 1), .ref (a 2), .ref (a 3), .int v_taped, .int v_size, .int v_from, .int v_behind, .int v_hand, .int v_value, .int v_fault, .int v_faultAt, .ref (a 4), .int w_clock, .int w_coin, .int w_loan, .int v_matched, .int v_taxed, .int w_paidStages, .int w_grown, .int v_pledges, .int v_sums, .int v_stages, .int v_isStopped, .ref (a 5), .ref (a 6), .ref (a 7), .ref (a 8), .ref (a 9), .ref (a 10), .ref (a 11), .ref (a 12), .ref (a 13), .ref (a 14), .ref (a 15), .ref (a 16), .ref (a 17), .ref (a 18), .ref (a 19), .ref (a 20), .ref (a 21), .ref (a 22), .ref (a 23), .ref (a 24), .ref (a 25), .ref (a 26), .ref (a 27), .ref (a 28), .ref (a 29), .ref (a 30), .int v_begun, .ref (a 31), .ref (a 32)])), ((a 14), .inl ((d 14), 60, .inl f_dues)), ((a 12), .inl ((d 12), 60, .inl f_first)), ((a 13), .inl ((d 13), 60, .inl f_every)), ((a 19), .inl ((d 19), 5040, .inl f_filled)), ((a 18), .inl ((d 18), 5040, .inl f_due)), ((a 0), .inl ((d 0), 9, .inl f_rule)), ((a 26), .inl ((d 26), 8, .inl f_cost)), ((a 27), .inl ((d 27), 8, .inl f_length)), ((a 16), .inl ((d 16), 60, .inl g_isLapsed)), ((a 15), .inl ((d 15), 60, .inl g_lapsedAt)), ((a 20), .inl ((d 20), 5040, .inl g_isThere)), ((a 21), .inl ((d 21), 5040, .inl g_counts)), ((a 30), .inl ((d 30), 8, .inl g_paused)), ((a 29), .inl ((d 29), 8, .inl g_stagePaid)), ((a 28), .inl ((d 28), 8, .inl g_parts))]) (fun u => match u with | (w_coin, w_loan, w_grown, w_paidStages, w_clock, g_isLapsed, g_lapsedAt, g_isThere, g_counts, g_paused, g_stagePaid, g_parts) => []) (va_A [(h, .inr (12, [.ref (a 0), .ref (a 1), .ref (a 2), .ref (a 3), .int v_taped, .int v_size, .int v_from, .int v_behind, .int v_hand, .int v_value, .int v_fault, .int v_faultAt, .ref (a 4), .int v_clock, .int v_coin, .int v_loan, .int v_matched, .int v_taxed, .int v_paidStages, .int v_grown, .int v_pledges, .int v_sums, .int v_stages, .int v_isStopped, .ref (a 5), .ref (a 6), .ref (a 7), .ref (a 8), .ref (a 9), .ref (a 10), .ref (a 11), .ref (a 12), .ref (a 13), .ref (a 14), .ref (a 15), .ref (a 16), .ref (a 17), .ref (a 18), .ref (a 19), .ref (a 20), .ref (a 21), .ref (a 22), .ref (a 23), .ref (a 24), .ref (a 25), .ref (a 26), .ref (a 27), .ref (a 28), .ref (a 29), .ref (a 30), .int v_begun, .ref (a 31), .ref (a 32)])), ((a 14), .inl ((d 14), 60, .inl f_dues)), ((a 12), .inl ((d 12), 60, .inl f_first)), ((a 13), .inl ((d 13), 60, .inl f_every)), ((a 19), .inl ((d 19), 5040, .inl f_filled)), ((a 18), .inl ((d 18), 5040, .inl f_due)), ((a 0), .inl ((d 0), 9, .inl f_rule)), ((a 26), .inl ((d 26), 8, .inl f_cost)), ((a 27), .inl ((d 27), 8, .inl f_length)), ((a 16), .inl ((d 16), 60, .inl f_isLapsed)), ((a 15), .inl ((d 15), 60, .inl f_lapsedAt)), ((a 20), .inl ((d 20), 5040, .inl f_isThere)), ((a 21), .inl ((d 21), 5040, .inl f_counts)), ((a 30), .inl ((d 30), 8, .inl f_paused)), ((a 29), .inl ((d 29), 8, .inl f_stagePaid)), ((a 28), .inl ((d 28), 8, .inl f_parts))] sz)) (va_A [(h, .inr (12, [.ref (a 0), .ref (a 1), .ref (a 2), .ref (a 3), .int v_taped, .int v_size, .int v_from, .int v_behind, .int v_hand, .int v_value, .int v_fault, .int v_faultAt, .ref (a 4), .int v_clock, .int v_coin, .int v_loan, .int v_matched, .int v_taxed, .int v_paidStages, .int v_grown, .int v_pledges, .int v_sums, .int v_stages, .int v_isStopped, .ref (a 5), .ref (a 6), .ref (a 7), .ref (a 8), .ref (a 9), .ref (a 10), .ref (a 11), .ref (a 12), .ref (a 13), .ref (a 14), .ref (a 15), .ref (a 16), .ref (a 17), .ref (a 18), .ref (a 19), .ref (a 20), .ref (a 21), .ref (a 22), .ref (a 23), .ref (a 24), .ref (a 25), .ref (a 26), .ref (a 27), .ref (a 28), .ref (a 29), .ref (a 30), .int v_begun, .ref (a 31), .ref (a 32)])), ((a 14), .inl ((d 14), 60, .inl f_dues)), ((a 12), .inl ((d 12), 60, .inl f_first)), ((a 13), .inl ((d 13), 60, .inl f_every)), ((a 19), .inl ((d 19), 5040, .inl f_filled)), ((a 18), .inl ((d 18), 5040, .inl f_due)), ((a 0), .inl ((d 0), 9, .inl f_rule)), ((a 26), .inl ((d 26), 8, .inl f_cost)), ((a 27), .inl ((d 27), 8, .inl f_length)), ((a 16), .inl ((d 16), 60, .inl f_isLapsed)), ((a 15), .inl ((d 15), 60, .inl f_lapsedAt)), ((a 20), .inl ((d 20), 5040, .inl f_isThere)), ((a 21), .inl ((d 21), 5040, .inl f_counts)), ((a 30), .inl ((d 30), 8, .inl f_paused)), ((a 29), .inl ((d 29), 8, .inl f_stagePaid)), ((a 28), .inl ((d 28), 8, .inl f_parts))] sz)) 0 0 (va_A [(h, .inr (12, [.ref (a 0), .ref (a 1), .ref (a 2), .ref (a 3), .int v_taped, .int v_size, .int v_from, .int v_behind, .int v_hand, .int v_value, .int v_fault, .int v_faultAt, .ref (a 4), .int v_clock, .int v_coin, .int v_loan, .int v_matched, .int v_taxed, .int v_paidStages, .int v_grown, .int v_pledges, .int v_sums, .int v_stages, .int v_isStopped, .ref (a 5), .ref (a 6), .ref (a 7), .ref (a 8), .ref (a 9), .ref (a 10), .ref (a 11), .ref (a 12), .ref (a 13), .ref (a 14), .ref (a 15), .ref (a 16), .ref (a 17), .ref (a 18), .ref (a 19), .ref (a 20), .ref (a 21), .ref (a 22), .ref (a 23), .ref (a 24), .ref (a 25), .ref (a 26), .ref (a 27), .ref (a 28), .ref (a 29), .ref (a 30), .int v_begun, .ref (a 31), .ref (a 32)])), ((a 14), .inl ((d 14), 60, .inl f_dues)), ((a 12), .inl ((d 12), 60, .inl f_first)), ((a 13), .inl ((d 13), 60, .inl f_every)), ((a 19), .inl ((d 19), 5040, .inl f_filled)), ((a 18), .inl ((d 18), 5040, .inl f_due)), ((a 0), .inl ((d 0), 9, .inl f_rule)), ((a 26), .inl ((d 26), 8, .inl f_cost)), ((a 27), .inl ((d 27), 8, .inl f_length)), ((a 16), .inl ((d 16), 60, .inl f_isLapsed)), ((a 15), .inl ((d 15), 60, .inl f_lapsedAt)), ((a 20), .inl ((d 20), 5040, .inl f_isThere)), ((a 21), .inl ((d 21), 5040, .inl f_counts)), ((a 30), .inl ((d 30), 8, .inl f_paused)), ((a 29), .inl ((d 29), 8, .inl f_stagePaid)), ((a 28), .inl ((d 28), 8, .inl f_parts))] sz) := by
  refine ofC_i (cc := cX12_months) (maxL := 3) (ret := (some .int)) (by decide) rfl (Nat.le_of_ble_eq_true rfl) ?_
  intro p e s m args below meth c A ls Q F hr hin hlk St hl hQ
  have hx := F.1
  have hb := F.2.1
  have hl : lv_has ls 3 [(0, .ref h), (1, .int x1)] := hl
  have St : cS G k [(h, .inr (12, [.ref (a 0), .ref (a 1), .ref (a 2), .ref (a 3), .int v_taped, .int v_size, .int v_from, .int v_behind, .int v_hand, .int v_value, .int v_fault, .int v_faultAt, .ref (a 4), .int v_clock, .int v_coin, .int v_loan, .int v_matched, .int v_taxed, .int v_paidStages, .int v_grown, .int v_pledges, .int v_sums, .int v_stages, .int v_isStopped, .ref (a 5), .ref (a 6), .ref (a 7), .ref (a 8), .ref (a 9), .ref (a 10), .ref (a 11), .ref (a 12), .ref (a 13), .ref (a 14), .ref (a 15), .ref (a 16), .ref (a 17), .ref (a 18), .ref (a 19), .ref (a 20), .ref (a 21), .ref (a 22), .ref (a 23), .ref (a 24), .ref (a 25), .ref (a 26), .ref (a 27), .ref (a 28), .ref (a 29), .ref (a 30), .int v_begun, .ref (a 31), .ref (a 32)])), ((a 14), .inl ((d 14), 60, .inl f_dues)), ((a 12), .inl ((d 12), 60, .inl f_first)), ((a 13), .inl ((d 13), 60, .inl f_every)), ((a 19), .inl ((d 19), 5040, .inl f_filled)), ((a 18), .inl ((d 18), 5040, .inl f_due)), ((a 0), .inl ((d 0), 9, .inl f_rule)), ((a 26), .inl ((d 26), 8, .inl f_cost)), ((a 27), .inl ((d 27), 8, .inl f_length)), ((a 16), .inl ((d 16), 60, .inl f_isLapsed)), ((a 15), .inl ((d 15), 60, .inl f_lapsedAt)), ((a 20), .inl ((d 20), 5040, .inl f_isThere)), ((a 21), .inl ((d 21), 5040, .inl f_counts)), ((a 30), .inl ((d 30), 8, .inl f_paused)), ((a 29), .inl ((d 29), 8, .inl f_stagePaid)), ((a 28), .inl ((d 28), 8, .inl f_parts))] [((d 14), .int), ((d 12), .int), ((d 13), .int), ((d 19), .int), ((d 18), .int), ((d 0), .int), ((d 26), .int), ((d 27), .int), ((d 16), .boolean), ((d 15), .int), ((d 20), .boolean), ((d 21), .boolean), ((d 30), .int), ((d 29), .int), ((d 28), .int)] A s s.heap [] := St
  have hpd := hPd.1
  have htd := hSt.1
  have y0 : (0 : Int32).toInt = 0 := by decide
  refine lv_iload_n hx hb dX12_months_0 rfl (lv_at hl 1 rfl) ?_
  refine lv_i2l (v := x1.toInt64) hx hb dX12_months_1 rfl ?_
  refine lv_lconst (v := 1) hx hb dX12_months_2 (by decide) ?_
  refine lv_ldc2 (v := 24) hx hb F.2.2.2.1 (F.2.2.2.2 _ kk_X12_284) dX12_months_3 ?_
  refine cs_i St [] [0, 1, 2, 3, 4, 5, 6, 7, 8, 9, 10, 11, 12, 13, 14, 15] (wc := []) (wr := [(h, .inr (12, [.ref (a 0), .ref (a 1), .ref (a 2), .ref (a 3), .int v_taped, .int v_size, .int v_from, .int v_behind, .int v_hand, .int v_value, .int v_fault, .int v_faultAt, .ref (a 4), .int v_clock, .int v_coin, .int v_loan, .int v_matched, .int v_taxed, .int v_paidStages, .int v_grown, .int v_pledges, .int v_sums, .int v_stages, .int v_isStopped, .ref (a 5), .ref (a 6), .ref (a 7), .ref (a 8), .ref (a 9), .ref (a 10), .ref (a 11), .ref (a 12), .ref (a 13), .ref (a 14), .ref (a 15), .ref (a 16), .ref (a 17), .ref (a 18), .ref (a 19), .ref (a 20), .ref (a 21), .ref (a 22), .ref (a 23), .ref (a 24), .ref (a 25), .ref (a 26), .ref (a 27), .ref (a 28), .ref (a 29), .ref (a 30), .int v_begun, .ref (a 31), .ref (a 32)])), ((a 14), .inl ((d 14), 60, .inl f_dues)), ((a 12), .inl ((d 12), 60, .inl f_first)), ((a 13), .inl ((d 13), 60, .inl f_every)), ((a 19), .inl ((d 19), 5040, .inl f_filled)), ((a 18), .inl ((d 18), 5040, .inl f_due)), ((a 0), .inl ((d 0), 9, .inl f_rule)), ((a 26), .inl ((d 26), 8, .inl f_cost)), ((a 27), .inl ((d 27), 8, .inl f_length)), ((a 16), .inl ((d 16), 60, .inl f_isLapsed)), ((a 15), .inl ((d 15), 60, .inl f_lapsedAt)), ((a 20), .inl ((d 20), 5040, .inl f_isThere)), ((a 21), .inl ((d 21), 5040, .inl f_counts)), ((a 30), .inl ((d 30), 8, .inl f_paused)), ((a 29), .inl ((d 29), 8, .inl f_stagePaid)), ((a 28), .inl ((d 28), 8, .inl f_parts))]) rfl rfl (by decide) (by decide) (va_runS (As := [.long x1.toInt64, .long 1, .long 24]) (rest := []) F (c12_in l G k _ x1.toInt64 1 24 x1.toInt 1 24 (Int32.toInt_toInt64 x1) (by decide) (by decide)) (cwSt F mf_X12_in km_X12_58 rfl rfl ⟨Nat.le_of_ble_eq_true rfl, Nat.le_of_ble_eq_true rfl⟩) (cs_pre St [] rfl (by decide) [] rfl) rfl rfl hl.1 rfl (lv_room (Nat.le_of_ble_eq_true rfl)) dX12_months_6 ⟨Nat.le_of_ble_eq_true rfl, Nat.le_of_ble_eq_true rfl⟩) (fun r_1 u_2 H locs hw St => ?_)
  try dsimp only at hw
  rcases hw with ⟨z_3, hf_4⟩ | ⟨z_5, hf_6⟩
  ·
    subst r_1
    have St : cS G k [(h, .inr (12, [.ref (a 0), .ref (a 1), .ref (a 2), .ref (a 3), .int v_taped, .int v_size, .int v_from, .int v_behind, .int v_hand, .int v_value, .int v_fault, .int v_faultAt, .ref (a 4), .int v_clock, .int v_coin, .int v_loan, .int v_matched, .int v_taxed, .int v_paidStages, .int v_grown, .int v_pledges, .int v_sums, .int v_stages, .int v_isStopped, .ref (a 5), .ref (a 6), .ref (a 7), .ref (a 8), .ref (a 9), .ref (a 10), .ref (a 11), .ref (a 12), .ref (a 13), .ref (a 14), .ref (a 15), .ref (a 16), .ref (a 17), .ref (a 18), .ref (a 19), .ref (a 20), .ref (a 21), .ref (a 22), .ref (a 23), .ref (a 24), .ref (a 25), .ref (a 26), .ref (a 27), .ref (a 28), .ref (a 29), .ref (a 30), .int v_begun, .ref (a 31), .ref (a 32)])), ((a 14), .inl ((d 14), 60, .inl f_dues)), ((a 12), .inl ((d 12), 60, .inl f_first)), ((a 13), .inl ((d 13), 60, .inl f_every)), ((a 19), .inl ((d 19), 5040, .inl f_filled)), ((a 18), .inl ((d 18), 5040, .inl f_due)), ((a 0), .inl ((d 0), 9, .inl f_rule)), ((a 26), .inl ((d 26), 8, .inl f_cost)), ((a 27), .inl ((d 27), 8, .inl f_length)), ((a 16), .inl ((d 16), 60, .inl f_isLapsed)), ((a 15), .inl ((d 15), 60, .inl f_lapsedAt)), ((a 20), .inl ((d 20), 5040, .inl f_isThere)), ((a 21), .inl ((d 21), 5040, .inl f_counts)), ((a 30), .inl ((d 30), 8, .inl f_paused)), ((a 29), .inl ((d 29), 8, .inl f_stagePaid)), ((a 28), .inl ((d 28), 8, .inl f_parts))] [((d 14), .int), ((d 12), .int), ((d 13), .int), ((d 19), .int), ((d 18), .int), ((d 0), .int), ((d 26), .int), ((d 27), .int), ((d 16), .boolean), ((d 15), .int), ((d 20), .boolean), ((d 21), .boolean), ((d 30), .int), ((d 29), .int), ((d 28), .int)] A s H locs := St
    refine lv_if_eq (tgt := 23) hx hb dX12_months_9 (by decide) (fun c9 => ?_) (fun c9 => ?_)
    · exact absurd c9 (by decide)
    refine lv_aload_n hx hb dX12_months_12 rfl (lv_at hl 0 rfl) ?_
    refine cs_get F St 0 rfl rfl inX12 13 (by decide) kf_X12_230 rfl dX12_months_13 ?_
    refine lv_iload_n hx hb dX12_months_16 rfl (lv_at hl 1 rfl) ?_
    refine lv_iadd hx hb dX12_months_17 ?_
    refine lv_topi (fun y_7 ey_7 => ?_)
    first | have jy_7 : y_7.toInt = v_clock.toInt + x1.toInt := (by have q9 := ci_add (x := v_clock) (y := x1) rfl rfl ey_7; omega) | have jy_7 := ci_add (x := v_clock) (y := x1) rfl rfl ey_7
    refine lv_bipush (v := 119) hx hb dX12_months_18 (by decide) ?_
    refine lv_icmp_le (tgt := 26) hx hb dX12_months_20 (by decide) (fun c20 => ?_) (fun c20 => ?_)
    ·
      have i20 := ci_le (x := y_7) (y := 119) rfl (show (119 : Int32).toInt = 119 by decide) c20
      refine lv_aload_n hx hb dX12_months_26 rfl (lv_at hl 0 rfl) ?_
      refine cs_get F St 0 rfl rfl inX12 23 (by decide) kf_X12_224 rfl dX12_months_27 ?_
      refine lv_if_eq (tgt := 36) hx hb dX12_months_30 (by decide) (fun c30 => ?_) (fun c30 => ?_)
      ·
        have i30 := ci_eq (x := v_isStopped) (y := 0) rfl (show (0 : Int32).toInt = 0 by decide) c30
        refine lv_iconst (v := 0) hx hb dX12_months_36 (by decide) ?_
        refine lv_istore_n (lv' := [(2, .int 0), (0, .ref h), (1, .int x1)]) hx hb dX12_months_37 rfl hl (by decide) rfl (fun ls hl => ?_)
        have lp38 : ∀ (n : Nat) (kk : Int32) (q_coin : Int32) (q_loan : Int32) (q_grown : Int32) (q_paidStages : Int32) (q_clock : Int32) (q_isLapsed : Nat → Int32) (q_lapsedAt : Nat → Int32) (q_isThere : Nat → Int32) (q_counts : Nat → Int32) (q_paused : Nat → Int32) (q_stagePaid : Nat → Int32) (q_parts : Nat → Int32) (H : Heap) (locs : List Loc) (ls : Array Slot), ((0 ≤ kk.toInt ∧ kk.toInt ≤ x1.toInt) ∧ q_clock.toInt = v_clock.toInt + kk.toInt) → ((24 - kk.toInt).toNat) < n → cS G k [(h, .inr (12, [.ref (a 0), .ref (a 1), .ref (a 2), .ref (a 3), .int v_taped, .int v_size, .int v_from, .int v_behind, .int v_hand, .int v_value, .int v_fault, .int v_faultAt, .ref (a 4), .int q_clock, .int q_coin, .int q_loan, .int v_matched, .int v_taxed, .int q_paidStages, .int q_grown, .int v_pledges, .int v_sums, .int v_stages, .int v_isStopped, .ref (a 5), .ref (a 6), .ref (a 7), .ref (a 8), .ref (a 9), .ref (a 10), .ref (a 11), .ref (a 12), .ref (a 13), .ref (a 14), .ref (a 15), .ref (a 16), .ref (a 17), .ref (a 18), .ref (a 19), .ref (a 20), .ref (a 21), .ref (a 22), .ref (a 23), .ref (a 24), .ref (a 25), .ref (a 26), .ref (a 27), .ref (a 28), .ref (a 29), .ref (a 30), .int v_begun, .ref (a 31), .ref (a 32)])), ((a 14), .inl ((d 14), 60, .inl f_dues)), ((a 12), .inl ((d 12), 60, .inl f_first)), ((a 13), .inl ((d 13), 60, .inl f_every)), ((a 19), .inl ((d 19), 5040, .inl f_filled)), ((a 18), .inl ((d 18), 5040, .inl f_due)), ((a 0), .inl ((d 0), 9, .inl f_rule)), ((a 26), .inl ((d 26), 8, .inl f_cost)), ((a 27), .inl ((d 27), 8, .inl f_length)), ((a 16), .inl ((d 16), 60, .inl q_isLapsed)), ((a 15), .inl ((d 15), 60, .inl q_lapsedAt)), ((a 20), .inl ((d 20), 5040, .inl q_isThere)), ((a 21), .inl ((d 21), 5040, .inl q_counts)), ((a 30), .inl ((d 30), 8, .inl q_paused)), ((a 29), .inl ((d 29), 8, .inl q_stagePaid)), ((a 28), .inl ((d 28), 8, .inl q_parts))] [((d 14), .int), ((d 12), .int), ((d 13), .int), ((d 19), .int), ((d 18), .int), ((d 0), .int), ((d 26), .int), ((d 27), .int), ((d 16), .boolean), ((d 15), .int), ((d 20), .boolean), ((d 21), .boolean), ((d 30), .int), ((d 29), .int), ((d 28), .int)] A s H locs → lv_has ls 3 [(2, .int kk), (0, .ref h), (1, .int x1)] → W p l e ({ frames := 4, cells := 0, slots := 0, locals := 90 } : Room) s m args below meth c H locs 0 0 Q (F0 m 38 ls []) := by
          intro n
          induction n with
          | zero => intro kk q_coin q_loan q_grown q_paidStages q_clock q_isLapsed q_lapsedAt q_isThere q_counts q_paused q_stagePaid q_parts H locs ls hI hn; exact absurd hn (Nat.not_lt_zero _)
          | succ n ih =>
            intro kk q_coin q_loan q_grown q_paidStages q_clock q_isLapsed q_lapsedAt q_isThere q_counts q_paused q_stagePaid q_parts H locs ls hI hn St hl
            obtain ⟨hI0, hI1⟩ := hI
            refine lv_iload_n hx hb dX12_months_38 rfl (lv_at hl 0 rfl) ?_
            refine lv_iload_n hx hb dX12_months_39 rfl (lv_at hl 2 rfl) ?_
            refine lv_icmp_ge (tgt := 53) hx hb dX12_months_40 (by decide) (fun c40 => ?_) (fun c40 => ?_)
            ·
              have i40 := ci_le (x := x1) (y := kk) rfl rfl c40
              refine lv_aload_n hx hb dX12_months_53 rfl (lv_at hl 1 rfl) ?_
              refine cs_get F St 0 rfl rfl inX12 13 (by decide) kf_X12_230 rfl dX12_months_54 ?_
              exact cs_iret F hr hlk hQ St (q_coin, q_loan, q_grown, q_paidStages, q_clock, q_isLapsed, q_lapsedAt, q_isThere, q_counts, q_paused, q_stagePaid, q_parts) (r := q_clock) (Or.inr (Or.inr (⟨rfl, by omega, by omega⟩))) [0, 1, 2, 3, 4, 5, 6, 7, 8, 9, 10, 11, 12, 13, 14, 15] rfl (by decide) [] rfl (by decide) (by decide) dX12_months_57
            ·
              have i40 := ci_nle (x := x1) (y := kk) rfl rfl c40
              refine lv_aload_n hx hb dX12_months_43 rfl (lv_at hl 1 rfl) ?_
              refine cs_v St [0, 1, 2, 3, 4, 5, 6, 7, 8, 9, 10, 11, 12, 13, 14, 15] [] (wc := [(h, .inr (12, [.ref (a 0), .ref (a 1), .ref (a 2), .ref (a 3), .int v_taped, .int v_size, .int v_from, .int v_behind, .int v_hand, .int v_value, .int v_fault, .int v_faultAt, .ref (a 4), .int q_clock, .int q_coin, .int q_loan, .int v_matched, .int v_taxed, .int q_paidStages, .int q_grown, .int v_pledges, .int v_sums, .int v_stages, .int v_isStopped, .ref (a 5), .ref (a 6), .ref (a 7), .ref (a 8), .ref (a 9), .ref (a 10), .ref (a 11), .ref (a 12), .ref (a 13), .ref (a 14), .ref (a 15), .ref (a 16), .ref (a 17), .ref (a 18), .ref (a 19), .ref (a 20), .ref (a 21), .ref (a 22), .ref (a 23), .ref (a 24), .ref (a 25), .ref (a 26), .ref (a 27), .ref (a 28), .ref (a 29), .ref (a 30), .int v_begun, .ref (a 31), .ref (a 32)])), ((a 14), .inl ((d 14), 60, .inl f_dues)), ((a 12), .inl ((d 12), 60, .inl f_first)), ((a 13), .inl ((d 13), 60, .inl f_every)), ((a 19), .inl ((d 19), 5040, .inl f_filled)), ((a 18), .inl ((d 18), 5040, .inl f_due)), ((a 0), .inl ((d 0), 9, .inl f_rule)), ((a 26), .inl ((d 26), 8, .inl f_cost)), ((a 27), .inl ((d 27), 8, .inl f_length)), ((a 16), .inl ((d 16), 60, .inl q_isLapsed)), ((a 15), .inl ((d 15), 60, .inl q_lapsedAt)), ((a 20), .inl ((d 20), 5040, .inl q_isThere)), ((a 21), .inl ((d 21), 5040, .inl q_counts)), ((a 30), .inl ((d 30), 8, .inl q_paused)), ((a 29), .inl ((d 29), 8, .inl q_stagePaid)), ((a 28), .inl ((d 28), 8, .inl q_parts))]) (wr := []) rfl rfl (by decide) (by decide) (va_runV (As := []) (rest := []) F (m_endMonth l G k _ h a d v_taped v_size v_from v_behind v_hand v_value v_fault v_faultAt q_clock q_coin q_loan v_matched v_taxed q_paidStages q_grown v_pledges v_sums v_stages v_isStopped v_begun f_dues f_first f_every f_filled f_due f_rule f_cost f_length q_isLapsed q_lapsedAt q_isThere q_counts q_paused q_stagePaid q_parts hPd hSt (by omega) (by omega)) (cwVt F mf_X12_endMonth km_X12_311 rfl rfl ⟨Nat.le_of_ble_eq_true rfl, Nat.le_of_ble_eq_true rfl⟩) (cs_preV St [0, 1, 2, 3, 4, 5, 6, 7, 8, 9, 10, 11, 12, 13, 14, 15] rfl (by decide) [0, 1, 2, 3, 4, 5, 6, 7, 8, 9, 10, 11, 12, 13, 14] rfl (ci := 12) (q0 := 0) rfl rfl) rfl rfl hl.1 rfl (lv_room (Nat.le_of_ble_eq_true rfl)) dX12_months_44 ⟨Nat.le_of_ble_eq_true rfl, Nat.le_of_ble_eq_true rfl⟩) (fun u_9 H locs hw St => ?_)
              obtain ⟨w_coin_10, w_loan_11, w_grown_12, w_paidStages_13, w_clock_14, g_isLapsed_15, g_lapsedAt_16, g_isThere_17, g_counts_18, g_paused_19, g_stagePaid_20, g_parts_21⟩ := u_9
              try dsimp only at hw
              have hcl_22 := hw
              have St : cS G k [(h, .inr (12, [.ref (a 0), .ref (a 1), .ref (a 2), .ref (a 3), .int v_taped, .int v_size, .int v_from, .int v_behind, .int v_hand, .int v_value, .int v_fault, .int v_faultAt, .ref (a 4), .int w_clock_14, .int w_coin_10, .int w_loan_11, .int v_matched, .int v_taxed, .int w_paidStages_13, .int w_grown_12, .int v_pledges, .int v_sums, .int v_stages, .int v_isStopped, .ref (a 5), .ref (a 6), .ref (a 7), .ref (a 8), .ref (a 9), .ref (a 10), .ref (a 11), .ref (a 12), .ref (a 13), .ref (a 14), .ref (a 15), .ref (a 16), .ref (a 17), .ref (a 18), .ref (a 19), .ref (a 20), .ref (a 21), .ref (a 22), .ref (a 23), .ref (a 24), .ref (a 25), .ref (a 26), .ref (a 27), .ref (a 28), .ref (a 29), .ref (a 30), .int v_begun, .ref (a 31), .ref (a 32)])), ((a 14), .inl ((d 14), 60, .inl f_dues)), ((a 12), .inl ((d 12), 60, .inl f_first)), ((a 13), .inl ((d 13), 60, .inl f_every)), ((a 19), .inl ((d 19), 5040, .inl f_filled)), ((a 18), .inl ((d 18), 5040, .inl f_due)), ((a 0), .inl ((d 0), 9, .inl f_rule)), ((a 26), .inl ((d 26), 8, .inl f_cost)), ((a 27), .inl ((d 27), 8, .inl f_length)), ((a 16), .inl ((d 16), 60, .inl g_isLapsed_15)), ((a 15), .inl ((d 15), 60, .inl g_lapsedAt_16)), ((a 20), .inl ((d 20), 5040, .inl g_isThere_17)), ((a 21), .inl ((d 21), 5040, .inl g_counts_18)), ((a 30), .inl ((d 30), 8, .inl g_paused_19)), ((a 29), .inl ((d 29), 8, .inl g_stagePaid_20)), ((a 28), .inl ((d 28), 8, .inl g_parts_21))] [((d 14), .int), ((d 12), .int), ((d 13), .int), ((d 19), .int), ((d 18), .int), ((d 0), .int), ((d 26), .int), ((d 27), .int), ((d 16), .boolean), ((d 15), .int), ((d 20), .boolean), ((d 21), .boolean), ((d 30), .int), ((d 29), .int), ((d 28), .int)] A s H locs := St
              obtain ⟨y_23, ey_23⟩ : ∃ zz : Int32, zz = kk + 1 := ⟨_, rfl⟩
              first | have jy_23 : y_23.toInt = kk.toInt + 1 := (by have q9 := ci_add (x := kk) rfl (show (1 : Int32).toInt = 1 by decide) ey_23; omega) | have jy_23 := ci_add (x := kk) rfl (show (1 : Int32).toInt = 1 by decide) ey_23
              refine lv_iinc (v := y_23) (lv' := [(2, .int y_23), (0, .ref h), (1, .int x1)]) hx hb dX12_months_47 hl (k := 0) rfl (by rw [ey_23]; rfl) (by decide) rfl (fun ls hl => ?_)
              refine lv_goto (tgt := 38) hx hb dX12_months_50 (by decide) ?_
              exact ih y_23 w_coin_10 w_loan_11 w_grown_12 w_paidStages_13 w_clock_14 g_isLapsed_15 g_lapsedAt_16 g_isThere_17 g_counts_18 g_paused_19 g_stagePaid_20 g_parts_21 _ _ _ ⟨by omega, by omega⟩ (by omega) St (lv_sub hl [0, 1, 2] rfl)
        exact lp38 25 0 v_coin v_loan v_grown v_paidStages v_clock f_isLapsed f_lapsedAt f_isThere f_counts f_paused f_stagePaid f_parts _ _ _ ⟨by omega, by omega⟩ (by omega) St (lv_sub hl [0, 1, 2] rfl)
      ·
        have i30 := ci_ne (x := v_isStopped) (y := 0) rfl (show (0 : Int32).toInt = 0 by decide) c30
        refine lv_bipush (v := (-4)) hx hb dX12_months_33 (by decide) ?_
        exact cs_iret F hr hlk hQ St (v_coin, v_loan, v_grown, v_paidStages, v_clock, f_isLapsed, f_lapsedAt, f_isThere, f_counts, f_paused, f_stagePaid, f_parts) (r := (-4)) (Or.inr (Or.inl ⟨rfl, by omega, rfl⟩)) [0, 1, 2, 3, 4, 5, 6, 7, 8, 9, 10, 11, 12, 13, 14, 15] rfl (by decide) [] rfl (by decide) (by decide) dX12_months_35
    ·
      have i20 := ci_nle (x := y_7) (y := 119) rfl (show (119 : Int32).toInt = 119 by decide) c20
      refine lv_bipush (v := (-2)) hx hb dX12_months_23 (by decide) ?_
      exact cs_iret F hr hlk hQ St (v_coin, v_loan, v_grown, v_paidStages, v_clock, f_isLapsed, f_lapsedAt, f_isThere, f_counts, f_paused, f_stagePaid, f_parts) (r := (-2)) (Or.inl ⟨rfl, by omega, rfl⟩) [0, 1, 2, 3, 4, 5, 6, 7, 8, 9, 10, 11, 12, 13, 14, 15] rfl (by decide) [] rfl (by decide) (by decide) dX12_months_25
  ·
    subst r_1
    have St : cS G k [(h, .inr (12, [.ref (a 0), .ref (a 1), .ref (a 2), .ref (a 3), .int v_taped, .int v_size, .int v_from, .int v_behind, .int v_hand, .int v_value, .int v_fault, .int v_faultAt, .ref (a 4), .int v_clock, .int v_coin, .int v_loan, .int v_matched, .int v_taxed, .int v_paidStages, .int v_grown, .int v_pledges, .int v_sums, .int v_stages, .int v_isStopped, .ref (a 5), .ref (a 6), .ref (a 7), .ref (a 8), .ref (a 9), .ref (a 10), .ref (a 11), .ref (a 12), .ref (a 13), .ref (a 14), .ref (a 15), .ref (a 16), .ref (a 17), .ref (a 18), .ref (a 19), .ref (a 20), .ref (a 21), .ref (a 22), .ref (a 23), .ref (a 24), .ref (a 25), .ref (a 26), .ref (a 27), .ref (a 28), .ref (a 29), .ref (a 30), .int v_begun, .ref (a 31), .ref (a 32)])), ((a 14), .inl ((d 14), 60, .inl f_dues)), ((a 12), .inl ((d 12), 60, .inl f_first)), ((a 13), .inl ((d 13), 60, .inl f_every)), ((a 19), .inl ((d 19), 5040, .inl f_filled)), ((a 18), .inl ((d 18), 5040, .inl f_due)), ((a 0), .inl ((d 0), 9, .inl f_rule)), ((a 26), .inl ((d 26), 8, .inl f_cost)), ((a 27), .inl ((d 27), 8, .inl f_length)), ((a 16), .inl ((d 16), 60, .inl f_isLapsed)), ((a 15), .inl ((d 15), 60, .inl f_lapsedAt)), ((a 20), .inl ((d 20), 5040, .inl f_isThere)), ((a 21), .inl ((d 21), 5040, .inl f_counts)), ((a 30), .inl ((d 30), 8, .inl f_paused)), ((a 29), .inl ((d 29), 8, .inl f_stagePaid)), ((a 28), .inl ((d 28), 8, .inl f_parts))] [((d 14), .int), ((d 12), .int), ((d 13), .int), ((d 19), .int), ((d 18), .int), ((d 0), .int), ((d 26), .int), ((d 27), .int), ((d 16), .boolean), ((d 15), .int), ((d 20), .boolean), ((d 21), .boolean), ((d 30), .int), ((d 29), .int), ((d 28), .int)] A s H locs := St
    refine lv_if_eq (tgt := 23) hx hb dX12_months_9 (by decide) (fun c9 => ?_) (fun c9 => ?_)
    rotate_left
    · exact absurd (by decide) c9
    refine lv_bipush (v := (-2)) hx hb dX12_months_23 (by decide) ?_
    exact cs_iret F hr hlk hQ St (v_coin, v_loan, v_grown, v_paidStages, v_clock, f_isLapsed, f_lapsedAt, f_isThere, f_counts, f_paused, f_stagePaid, f_parts) (r := (-2)) (Or.inl ⟨rfl, by omega, rfl⟩) [0, 1, 2, 3, 4, 5, 6, 7, 8, 9, 10, 11, 12, 13, 14, 15] rfl (by decide) [] rfl (by decide) (by decide) dX12_months_25
set_option maxHeartbeats 4000000 in
set_option maxRecDepth 100000 in
theorem m_sure (l : Launch) (G : va_G) (k : Nat → Nat) (sz : Nat) (h : Nat) (a : Nat → Nat) (d : Nat → ClassId) (v_taped : Int32) (v_size : Int32) (v_from : Int32) (v_behind : Int32) (v_hand : Int32) (v_value : Int32) (v_fault : Int32) (v_faultAt : Int32) (v_clock : Int32) (v_coin : Int32) (v_loan : Int32) (v_matched : Int32) (v_taxed : Int32) (v_paidStages : Int32) (v_grown : Int32) (v_pledges : Int32) (v_sums : Int32) (v_stages : Int32) (v_isStopped : Int32) (v_begun : Int32) (f_dues : Nat → Int32) (f_first : Nat → Int32) (f_every : Nat → Int32) (f_isThere : Nat → Int32) (f_counts : Nat → Int32) (f_due : Nat → Int32) (f_filled : Nat → Int32) (x1 : Int32) (hPd : mPd v_pledges f_dues) : Met l yX12_sure (Cond.code yX12_sure cX12_sure 12 (some .int) :: tb) ({ frames := 1, cells := 0, slots := 0, locals := 25 } : Room) (va_Pc [.ref h, .int x1] (cP G k [(h, .inr (12, [.ref (a 0), .ref (a 1), .ref (a 2), .ref (a 3), .int v_taped, .int v_size, .int v_from, .int v_behind, .int v_hand, .int v_value, .int v_fault, .int v_faultAt, .ref (a 4), .int v_clock, .int v_coin, .int v_loan, .int v_matched, .int v_taxed, .int v_paidStages, .int v_grown, .int v_pledges, .int v_sums, .int v_stages, .int v_isStopped, .ref (a 5), .ref (a 6), .ref (a 7), .ref (a 8), .ref (a 9), .ref (a 10), .ref (a 11), .ref (a 12), .ref (a 13), .ref (a 14), .ref (a 15), .ref (a 16), .ref (a 17), .ref (a 18), .ref (a 19), .ref (a 20), .ref (a 21), .ref (a 22), .ref (a 23), .ref (a 24), .ref (a 25), .ref (a 26), .ref (a 27), .ref (a 28), .ref (a 29), .ref (a 30), .int v_begun, .ref (a 31), .ref (a 32)])), ((a 14), .inl ((d 14), 60, .inl f_dues)), ((a 12), .inl ((d 12), 60, .inl f_first)), ((a 13), .inl ((d 13), 60, .inl f_every)), ((a 20), .inl ((d 20), 5040, .inl f_isThere)), ((a 21), .inl ((d 21), 5040, .inl f_counts)), ((a 18), .inl ((d 18), 5040, .inl f_due)), ((a 19), .inl ((d 19), 5040, .inl f_filled))] [((d 14), .int), ((d 12), .int), ((d 13), .int), ((d 20), .boolean), ((d 21), .boolean), ((d 18), .int), ((d 19), .int)] sz)) (va_Qi (fun (r : Int32) (_ : Unit) => True) (cB G (fun (_ : Unit) => [(h, .inr (12, [.ref (a 0), .ref (a 1), .ref (a 2), .ref (a 3), .int v_taped, .int v_size, .int v_from, .int v_behind, .int v_hand, .int v_value, .int v_fault, .int v_faultAt, .ref (a 4), .int v_clock, .int v_coin, .int v_loan, .int v_matched, .int v_taxed, .int v_paidStages, .int v_grown, .int v_pledges, .int v_sums, .int v_stages, .int v_isStopped, .ref (a 5), .ref (a 6), .ref (a 7), .ref (a 8), .ref (a 9), .ref (a 10), .ref (a 11), .ref (a 12), .ref (a 13), .ref (a 14), .ref (a 15), .ref (a 16), .ref (a 17), .ref (a 18), .ref (a 19), .ref (a 20), .ref (a 21), .ref (a 22), .ref (a 23), .ref (a 24), .ref (a 25), .ref (a 26), .ref (a 27), .ref (a 28), .ref (a 29), .ref (a 30), .int v_begun, .ref (a 31), .ref (a 32)])), ((a 14), .inl ((d 14), 60, .inl f_dues)), ((a 12), .inl ((d 12), 60, .inl f_first)), ((a 13), .inl ((d 13), 60, .inl f_every)), ((a 20), .inl ((d 20), 5040, .inl f_isThere)), ((a 21), .inl ((d 21), 5040, .inl f_counts)), ((a 18), .inl ((d 18), 5040, .inl f_due)), ((a 19), .inl ((d 19), 5040, .inl f_filled))]) (fun (_ : Unit) => []) (va_A [(h, .inr (12, [.ref (a 0), .ref (a 1), .ref (a 2), .ref (a 3), .int v_taped, .int v_size, .int v_from, .int v_behind, .int v_hand, .int v_value, .int v_fault, .int v_faultAt, .ref (a 4), .int v_clock, .int v_coin, .int v_loan, .int v_matched, .int v_taxed, .int v_paidStages, .int v_grown, .int v_pledges, .int v_sums, .int v_stages, .int v_isStopped, .ref (a 5), .ref (a 6), .ref (a 7), .ref (a 8), .ref (a 9), .ref (a 10), .ref (a 11), .ref (a 12), .ref (a 13), .ref (a 14), .ref (a 15), .ref (a 16), .ref (a 17), .ref (a 18), .ref (a 19), .ref (a 20), .ref (a 21), .ref (a 22), .ref (a 23), .ref (a 24), .ref (a 25), .ref (a 26), .ref (a 27), .ref (a 28), .ref (a 29), .ref (a 30), .int v_begun, .ref (a 31), .ref (a 32)])), ((a 14), .inl ((d 14), 60, .inl f_dues)), ((a 12), .inl ((d 12), 60, .inl f_first)), ((a 13), .inl ((d 13), 60, .inl f_every)), ((a 20), .inl ((d 20), 5040, .inl f_isThere)), ((a 21), .inl ((d 21), 5040, .inl f_counts)), ((a 18), .inl ((d 18), 5040, .inl f_due)), ((a 19), .inl ((d 19), 5040, .inl f_filled))] sz)) (va_A [(h, .inr (12, [.ref (a 0), .ref (a 1), .ref (a 2), .ref (a 3), .int v_taped, .int v_size, .int v_from, .int v_behind, .int v_hand, .int v_value, .int v_fault, .int v_faultAt, .ref (a 4), .int v_clock, .int v_coin, .int v_loan, .int v_matched, .int v_taxed, .int v_paidStages, .int v_grown, .int v_pledges, .int v_sums, .int v_stages, .int v_isStopped, .ref (a 5), .ref (a 6), .ref (a 7), .ref (a 8), .ref (a 9), .ref (a 10), .ref (a 11), .ref (a 12), .ref (a 13), .ref (a 14), .ref (a 15), .ref (a 16), .ref (a 17), .ref (a 18), .ref (a 19), .ref (a 20), .ref (a 21), .ref (a 22), .ref (a 23), .ref (a 24), .ref (a 25), .ref (a 26), .ref (a 27), .ref (a 28), .ref (a 29), .ref (a 30), .int v_begun, .ref (a 31), .ref (a 32)])), ((a 14), .inl ((d 14), 60, .inl f_dues)), ((a 12), .inl ((d 12), 60, .inl f_first)), ((a 13), .inl ((d 13), 60, .inl f_every)), ((a 20), .inl ((d 20), 5040, .inl f_isThere)), ((a 21), .inl ((d 21), 5040, .inl f_counts)), ((a 18), .inl ((d 18), 5040, .inl f_due)), ((a 19), .inl ((d 19), 5040, .inl f_filled))] sz)) 0 0 (va_A [(h, .inr (12, [.ref (a 0), .ref (a 1), .ref (a 2), .ref (a 3), .int v_taped, .int v_size, .int v_from, .int v_behind, .int v_hand, .int v_value, .int v_fault, .int v_faultAt, .ref (a 4), .int v_clock, .int v_coin, .int v_loan, .int v_matched, .int v_taxed, .int v_paidStages, .int v_grown, .int v_pledges, .int v_sums, .int v_stages, .int v_isStopped, .ref (a 5), .ref (a 6), .ref (a 7), .ref (a 8), .ref (a 9), .ref (a 10), .ref (a 11), .ref (a 12), .ref (a 13), .ref (a 14), .ref (a 15), .ref (a 16), .ref (a 17), .ref (a 18), .ref (a 19), .ref (a 20), .ref (a 21), .ref (a 22), .ref (a 23), .ref (a 24), .ref (a 25), .ref (a 26), .ref (a 27), .ref (a 28), .ref (a 29), .ref (a 30), .int v_begun, .ref (a 31), .ref (a 32)])), ((a 14), .inl ((d 14), 60, .inl f_dues)), ((a 12), .inl ((d 12), 60, .inl f_first)), ((a 13), .inl ((d 13), 60, .inl f_every)), ((a 20), .inl ((d 20), 5040, .inl f_isThere)), ((a 21), .inl ((d 21), 5040, .inl f_counts)), ((a 18), .inl ((d 18), 5040, .inl f_due)), ((a 19), .inl ((d 19), 5040, .inl f_filled))] sz) := by
  refine ofC_i (cc := cX12_sure) (maxL := 12) (ret := (some .int)) (by decide) rfl (Nat.le_of_ble_eq_true rfl) ?_
  intro p e s m args below meth c A ls Q F hr hin hlk St hl hQ
  have hx := F.1
  have hb := F.2.1
  have hl : lv_has ls 12 [(0, .ref h), (1, .int x1)] := hl
  have St : cS G k [(h, .inr (12, [.ref (a 0), .ref (a 1), .ref (a 2), .ref (a 3), .int v_taped, .int v_size, .int v_from, .int v_behind, .int v_hand, .int v_value, .int v_fault, .int v_faultAt, .ref (a 4), .int v_clock, .int v_coin, .int v_loan, .int v_matched, .int v_taxed, .int v_paidStages, .int v_grown, .int v_pledges, .int v_sums, .int v_stages, .int v_isStopped, .ref (a 5), .ref (a 6), .ref (a 7), .ref (a 8), .ref (a 9), .ref (a 10), .ref (a 11), .ref (a 12), .ref (a 13), .ref (a 14), .ref (a 15), .ref (a 16), .ref (a 17), .ref (a 18), .ref (a 19), .ref (a 20), .ref (a 21), .ref (a 22), .ref (a 23), .ref (a 24), .ref (a 25), .ref (a 26), .ref (a 27), .ref (a 28), .ref (a 29), .ref (a 30), .int v_begun, .ref (a 31), .ref (a 32)])), ((a 14), .inl ((d 14), 60, .inl f_dues)), ((a 12), .inl ((d 12), 60, .inl f_first)), ((a 13), .inl ((d 13), 60, .inl f_every)), ((a 20), .inl ((d 20), 5040, .inl f_isThere)), ((a 21), .inl ((d 21), 5040, .inl f_counts)), ((a 18), .inl ((d 18), 5040, .inl f_due)), ((a 19), .inl ((d 19), 5040, .inl f_filled))] [((d 14), .int), ((d 12), .int), ((d 13), .int), ((d 20), .boolean), ((d 21), .boolean), ((d 18), .int), ((d 19), .int)] A s s.heap [] := St
  have hpd := hPd.1
  have y0 : (0 : Int32).toInt = 0 := by decide
  refine lv_iload_n hx hb dX12_sure_0 rfl (lv_at hl 1 rfl) ?_
  refine lv_i2l (v := x1.toInt64) hx hb dX12_sure_1 rfl ?_
  refine lv_lconst (v := 1) hx hb dX12_sure_2 (by decide) ?_
  refine lv_ldc2 (v := 84) hx hb F.2.2.2.1 (F.2.2.2.2 _ kk_X12_235) dX12_sure_3 ?_
  refine cs_i St [] [0, 1, 2, 3, 4, 5, 6, 7] (wc := []) (wr := [(h, .inr (12, [.ref (a 0), .ref (a 1), .ref (a 2), .ref (a 3), .int v_taped, .int v_size, .int v_from, .int v_behind, .int v_hand, .int v_value, .int v_fault, .int v_faultAt, .ref (a 4), .int v_clock, .int v_coin, .int v_loan, .int v_matched, .int v_taxed, .int v_paidStages, .int v_grown, .int v_pledges, .int v_sums, .int v_stages, .int v_isStopped, .ref (a 5), .ref (a 6), .ref (a 7), .ref (a 8), .ref (a 9), .ref (a 10), .ref (a 11), .ref (a 12), .ref (a 13), .ref (a 14), .ref (a 15), .ref (a 16), .ref (a 17), .ref (a 18), .ref (a 19), .ref (a 20), .ref (a 21), .ref (a 22), .ref (a 23), .ref (a 24), .ref (a 25), .ref (a 26), .ref (a 27), .ref (a 28), .ref (a 29), .ref (a 30), .int v_begun, .ref (a 31), .ref (a 32)])), ((a 14), .inl ((d 14), 60, .inl f_dues)), ((a 12), .inl ((d 12), 60, .inl f_first)), ((a 13), .inl ((d 13), 60, .inl f_every)), ((a 20), .inl ((d 20), 5040, .inl f_isThere)), ((a 21), .inl ((d 21), 5040, .inl f_counts)), ((a 18), .inl ((d 18), 5040, .inl f_due)), ((a 19), .inl ((d 19), 5040, .inl f_filled))]) rfl rfl (by decide) (by decide) (va_runS (As := [.long x1.toInt64, .long 1, .long 84]) (rest := []) F (c12_in l G k _ x1.toInt64 1 84 x1.toInt 1 84 (Int32.toInt_toInt64 x1) (by decide) (by decide)) (cwSt F mf_X12_in km_X12_58 rfl rfl ⟨Nat.le_of_ble_eq_true rfl, Nat.le_of_ble_eq_true rfl⟩) (cs_pre St [] rfl (by decide) [] rfl) rfl rfl hl.1 rfl (lv_room (Nat.le_of_ble_eq_true rfl)) dX12_sure_6 ⟨Nat.le_of_ble_eq_true rfl, Nat.le_of_ble_eq_true rfl⟩) (fun r_1 u_2 H locs hw St => ?_)
  try dsimp only at hw
  rcases hw with ⟨z_3, hf_4⟩ | ⟨z_5, hf_6⟩
  ·
    subst r_1
    have St : cS G k [(h, .inr (12, [.ref (a 0), .ref (a 1), .ref (a 2), .ref (a 3), .int v_taped, .int v_size, .int v_from, .int v_behind, .int v_hand, .int v_value, .int v_fault, .int v_faultAt, .ref (a 4), .int v_clock, .int v_coin, .int v_loan, .int v_matched, .int v_taxed, .int v_paidStages, .int v_grown, .int v_pledges, .int v_sums, .int v_stages, .int v_isStopped, .ref (a 5), .ref (a 6), .ref (a 7), .ref (a 8), .ref (a 9), .ref (a 10), .ref (a 11), .ref (a 12), .ref (a 13), .ref (a 14), .ref (a 15), .ref (a 16), .ref (a 17), .ref (a 18), .ref (a 19), .ref (a 20), .ref (a 21), .ref (a 22), .ref (a 23), .ref (a 24), .ref (a 25), .ref (a 26), .ref (a 27), .ref (a 28), .ref (a 29), .ref (a 30), .int v_begun, .ref (a 31), .ref (a 32)])), ((a 14), .inl ((d 14), 60, .inl f_dues)), ((a 12), .inl ((d 12), 60, .inl f_first)), ((a 13), .inl ((d 13), 60, .inl f_every)), ((a 20), .inl ((d 20), 5040, .inl f_isThere)), ((a 21), .inl ((d 21), 5040, .inl f_counts)), ((a 18), .inl ((d 18), 5040, .inl f_due)), ((a 19), .inl ((d 19), 5040, .inl f_filled))] [((d 14), .int), ((d 12), .int), ((d 13), .int), ((d 20), .boolean), ((d 21), .boolean), ((d 18), .int), ((d 19), .int)] A s H locs := St
    refine lv_if_ne (tgt := 15) hx hb dX12_sure_9 (by decide) (fun c9 => ?_) (fun c9 => ?_)
    rotate_left
    · exact absurd c9 (by decide)
    refine lv_lconst (v := 0) hx hb dX12_sure_15 (by decide) ?_
    refine lv_lstore_n (lv' := [(2, .long 0), (0, .ref h), (1, .int x1)]) hx hb dX12_sure_16 rfl hl (by decide) rfl (fun ls hl => ?_)
    refine lv_lconst (v := 0) hx hb dX12_sure_17 (by decide) ?_
    refine lv_lstore (lv' := [(4, .long 0), (2, .long 0), (0, .ref h), (1, .int x1)]) hx hb dX12_sure_18 hl (by decide) rfl (fun ls hl => ?_)
    refine lv_lconst (v := 0) hx hb dX12_sure_20 (by decide) ?_
    refine lv_lstore (lv' := [(6, .long 0), (4, .long 0), (2, .long 0), (0, .ref h), (1, .int x1)]) hx hb dX12_sure_21 hl (by decide) rfl (fun ls hl => ?_)
    refine lv_iconst (v := 0) hx hb dX12_sure_23 (by decide) ?_
    refine lv_istore (lv' := [(8, .int 0), (6, .long 0), (4, .long 0), (2, .long 0), (0, .ref h), (1, .int x1)]) hx hb dX12_sure_24 hl (by decide) rfl (fun ls hl => ?_)
    have lp26 : ∀ (n : Nat) (pp : Int32) (nx : Int64) (bs : Int64) (cm : Int64) (H : Heap) (locs : List Loc) (ls : Array Slot), (0 ≤ pp.toInt ∧ pp.toInt ≤ v_pledges.toInt) → ((60 - pp.toInt).toNat) < n → cS G k [(h, .inr (12, [.ref (a 0), .ref (a 1), .ref (a 2), .ref (a 3), .int v_taped, .int v_size, .int v_from, .int v_behind, .int v_hand, .int v_value, .int v_fault, .int v_faultAt, .ref (a 4), .int v_clock, .int v_coin, .int v_loan, .int v_matched, .int v_taxed, .int v_paidStages, .int v_grown, .int v_pledges, .int v_sums, .int v_stages, .int v_isStopped, .ref (a 5), .ref (a 6), .ref (a 7), .ref (a 8), .ref (a 9), .ref (a 10), .ref (a 11), .ref (a 12), .ref (a 13), .ref (a 14), .ref (a 15), .ref (a 16), .ref (a 17), .ref (a 18), .ref (a 19), .ref (a 20), .ref (a 21), .ref (a 22), .ref (a 23), .ref (a 24), .ref (a 25), .ref (a 26), .ref (a 27), .ref (a 28), .ref (a 29), .ref (a 30), .int v_begun, .ref (a 31), .ref (a 32)])), ((a 14), .inl ((d 14), 60, .inl f_dues)), ((a 12), .inl ((d 12), 60, .inl f_first)), ((a 13), .inl ((d 13), 60, .inl f_every)), ((a 20), .inl ((d 20), 5040, .inl f_isThere)), ((a 21), .inl ((d 21), 5040, .inl f_counts)), ((a 18), .inl ((d 18), 5040, .inl f_due)), ((a 19), .inl ((d 19), 5040, .inl f_filled))] [((d 14), .int), ((d 12), .int), ((d 13), .int), ((d 20), .boolean), ((d 21), .boolean), ((d 18), .int), ((d 19), .int)] A s H locs → lv_has ls 12 [(8, .int pp), (6, .long cm), (4, .long bs), (2, .long nx), (0, .ref h), (1, .int x1)] → W p l e ({ frames := 1, cells := 0, slots := 0, locals := 25 } : Room) s m args below meth c H locs 0 0 Q (F0 m 26 ls []) := by
      intro n
      induction n with
      | zero => intro pp nx bs cm H locs ls hI hn; exact absurd hn (Nat.not_lt_zero _)
      | succ n ih =>
        intro pp nx bs cm H locs ls hI hn St hl
        obtain ⟨hI0, hI1⟩ := hI
        refine lv_iload hx hb dX12_sure_26 (lv_at hl 0 rfl) ?_
        refine lv_aload_n hx hb dX12_sure_28 rfl (lv_at hl 4 rfl) ?_
        refine cs_get F St 0 rfl rfl inX12 20 (by decide) kf_X12_237 rfl dX12_sure_29 ?_
        refine lv_icmp_ge (tgt := 182) hx hb dX12_sure_32 (by decide) (fun c32 => ?_) (fun c32 => ?_)
        ·
          have i32 := ci_le (x := v_pledges) (y := pp) rfl rfl c32
          refine lv_lload hx hb dX12_sure_182 (lv_at hl 2 rfl) ?_
          refine lv_lconst (v := 0) hx hb dX12_sure_184 (by decide) ?_
          refine W.lcmp hx hb dX12_sure_185 ?_
          refine lv_if_ne (tgt := 193) hx hb dX12_sure_186 (by decide) (fun c186 => ?_) (fun c186 => ?_)
          ·
            have i186 := cl_ne (x := bs) (y := 0) (u := bs.toInt) (v := 0) rfl (by decide) (fun q => c186 ((lg_cmp_eq _ _).mpr q))
            refine lv_lload_n hx hb dX12_sure_193 rfl (lv_at hl 3 rfl) ?_
            refine lv_lload hx hb dX12_sure_194 (lv_at hl 1 rfl) ?_
            refine lv_lmul hx hb dX12_sure_196 ?_
            refine lv_topl (fun y_7 ey_7 => ?_)
            refine lv_lload hx hb dX12_sure_197 (lv_at hl 2 rfl) ?_
            refine lv_ldiv hx hb dX12_sure_199 (ne0_l i186) ?_
            refine lv_topl (fun y_8 ey_8 => ?_)
            refine lv_l2i (v := y_8.toInt32) hx hb dX12_sure_200 rfl ?_
            exact cs_iret F hr hlk hQ St () (r := y_8.toInt32) (by trivial) [0, 1, 2, 3, 4, 5, 6, 7] rfl (by decide) [] rfl (by decide) (by decide) dX12_sure_201
          ·
            have i186 := cl_eq (x := bs) (y := 0) (u := bs.toInt) (v := 0) rfl (by decide) ((lg_cmp_eq _ _).mp c186)
            refine lv_iconst (v := 0) hx hb dX12_sure_189 (by decide) ?_
            refine lv_goto (tgt := 201) hx hb dX12_sure_190 (by decide) ?_
            exact cs_iret F hr hlk hQ St () (r := 0) (by trivial) [0, 1, 2, 3, 4, 5, 6, 7] rfl (by decide) [] rfl (by decide) (by decide) dX12_sure_201
        ·
          have i32 := ci_nle (x := v_pledges) (y := pp) rfl rfl c32
          refine lv_iconst (v := 0) hx hb dX12_sure_35 (by decide) ?_
          refine lv_istore (lv' := [(9, .int 0), (8, .int pp), (6, .long cm), (4, .long bs), (2, .long nx), (0, .ref h), (1, .int x1)]) hx hb dX12_sure_36 hl (by decide) rfl (fun ls hl => ?_)
          have lp38 : ∀ (n : Nat) (kk : Int32) (nx2 : Int64) (bs2 : Int64) (cm2 : Int64) (H : Heap) (locs : List Loc) (ls : Array Slot), (0 ≤ kk.toInt ∧ kk.toInt ≤ 0 + 84) → ((6000 - kk.toInt).toNat) < n → cS G k [(h, .inr (12, [.ref (a 0), .ref (a 1), .ref (a 2), .ref (a 3), .int v_taped, .int v_size, .int v_from, .int v_behind, .int v_hand, .int v_value, .int v_fault, .int v_faultAt, .ref (a 4), .int v_clock, .int v_coin, .int v_loan, .int v_matched, .int v_taxed, .int v_paidStages, .int v_grown, .int v_pledges, .int v_sums, .int v_stages, .int v_isStopped, .ref (a 5), .ref (a 6), .ref (a 7), .ref (a 8), .ref (a 9), .ref (a 10), .ref (a 11), .ref (a 12), .ref (a 13), .ref (a 14), .ref (a 15), .ref (a 16), .ref (a 17), .ref (a 18), .ref (a 19), .ref (a 20), .ref (a 21), .ref (a 22), .ref (a 23), .ref (a 24), .ref (a 25), .ref (a 26), .ref (a 27), .ref (a 28), .ref (a 29), .ref (a 30), .int v_begun, .ref (a 31), .ref (a 32)])), ((a 14), .inl ((d 14), 60, .inl f_dues)), ((a 12), .inl ((d 12), 60, .inl f_first)), ((a 13), .inl ((d 13), 60, .inl f_every)), ((a 20), .inl ((d 20), 5040, .inl f_isThere)), ((a 21), .inl ((d 21), 5040, .inl f_counts)), ((a 18), .inl ((d 18), 5040, .inl f_due)), ((a 19), .inl ((d 19), 5040, .inl f_filled))] [((d 14), .int), ((d 12), .int), ((d 13), .int), ((d 20), .boolean), ((d 21), .boolean), ((d 18), .int), ((d 19), .int)] A s H locs → lv_has ls 12 [(9, .int kk), (8, .int pp), (6, .long cm2), (4, .long bs2), (2, .long nx2), (0, .ref h), (1, .int x1)] → W p l e ({ frames := 1, cells := 0, slots := 0, locals := 25 } : Room) s m args below meth c H locs 0 0 Q (F0 m 38 ls []) := by
            intro n
            induction n with
            | zero => intro kk nx2 bs2 cm2 H locs ls hI hn; exact absurd hn (Nat.not_lt_zero _)
            | succ n ih38 =>
              intro kk nx2 bs2 cm2 H locs ls hI hn St hl
              obtain ⟨hJ0, hJ1⟩ := hI
              refine lv_iload hx hb dX12_sure_38 (lv_at hl 0 rfl) ?_
              refine lv_aload_n hx hb dX12_sure_40 rfl (lv_at hl 5 rfl) ?_
              refine cs_get F St 0 rfl rfl inX12 33 (by decide) kf_X12_147 rfl dX12_sure_41 ?_
              refine lv_iload hx hb dX12_sure_44 (lv_at hl 1 rfl) ?_
              refine cs_ild F St 1 0 rfl rfl (vp_in_iff.mpr ⟨by omega, by omega⟩) dX12_sure_46 ?_
              refine lv_topi (fun y_9 ey_9 => ?_)
              have hdy_9 := mPd_d hPd (by omega) (by omega) ey_9
              refine lv_icmp_ge (tgt := 176) hx hb dX12_sure_47 (by decide) (fun c47 => ?_) (fun c47 => ?_)
              ·
                have i47 := ci_le (x := y_9) (y := kk) rfl rfl c47
                obtain ⟨y_10, ey_10⟩ : ∃ zz : Int32, zz = pp + 1 := ⟨_, rfl⟩
                first | have jy_10 : y_10.toInt = pp.toInt + 1 := (by have q9 := ci_add (x := pp) rfl (show (1 : Int32).toInt = 1 by decide) ey_10; omega) | have jy_10 := ci_add (x := pp) rfl (show (1 : Int32).toInt = 1 by decide) ey_10
                refine lv_iinc (v := y_10) (lv' := [(8, .int y_10), (9, .int kk), (6, .long cm2), (4, .long bs2), (2, .long nx2), (0, .ref h), (1, .int x1)]) hx hb dX12_sure_176 hl (k := 1) rfl (by rw [ey_10]; rfl) (by decide) rfl (fun ls hl => ?_)
                refine lv_goto (tgt := 26) hx hb dX12_sure_179 (by decide) ?_
                exact ih y_10 nx2 bs2 cm2 _ _ _ ⟨by omega, by omega⟩ (by omega) St (lv_sub hl [0, 2, 3, 4, 5, 6] rfl)
              ·
                have i47 := ci_nle (x := y_9) (y := kk) rfl rfl c47
                refine lv_bipush (v := 84) hx hb dX12_sure_50 (by decide) ?_
                refine lv_iload hx hb dX12_sure_52 (lv_at hl 1 rfl) ?_
                refine lv_imul hx hb dX12_sure_54 ?_
                refine lv_topi (fun y_11 ey_11 => ?_)
                first | have jy_11 : y_11.toInt = 84 * pp.toInt := (by have q9 := ci_mul (x := 84) (y := pp) (show (84 : Int32).toInt = 84 by decide) rfl ey_11; omega) | have jy_11 := ci_mul (x := 84) (y := pp) (show (84 : Int32).toInt = 84 by decide) rfl ey_11
                refine lv_iload hx hb dX12_sure_55 (lv_at hl 0 rfl) ?_
                refine lv_iadd hx hb dX12_sure_57 ?_
                refine lv_topi (fun y_12 ey_12 => ?_)
                first | have jy_12 : y_12.toInt = y_11.toInt + kk.toInt := (by have q9 := ci_add (x := y_11) (y := kk) rfl rfl ey_12; omega) | have jy_12 := ci_add (x := y_11) (y := kk) rfl rfl ey_12
                refine lv_istore (lv' := [(10, .int y_12), (9, .int kk), (8, .int pp), (6, .long cm2), (4, .long bs2), (2, .long nx2), (0, .ref h), (1, .int x1)]) hx hb dX12_sure_58 hl (by decide) rfl (fun ls hl => ?_)
                refine lv_aload_n hx hb dX12_sure_60 rfl (lv_at hl 6 rfl) ?_
                refine lv_iload hx hb dX12_sure_61 (lv_at hl 2 rfl) ?_
                refine lv_iload hx hb dX12_sure_63 (lv_at hl 1 rfl) ?_
                refine cs_i St [0, 2, 3] [1, 4, 5, 6, 7] (wc := [(h, .inr (12, [.ref (a 0), .ref (a 1), .ref (a 2), .ref (a 3), .int v_taped, .int v_size, .int v_from, .int v_behind, .int v_hand, .int v_value, .int v_fault, .int v_faultAt, .ref (a 4), .int v_clock, .int v_coin, .int v_loan, .int v_matched, .int v_taxed, .int v_paidStages, .int v_grown, .int v_pledges, .int v_sums, .int v_stages, .int v_isStopped, .ref (a 5), .ref (a 6), .ref (a 7), .ref (a 8), .ref (a 9), .ref (a 10), .ref (a 11), .ref (a 12), .ref (a 13), .ref (a 14), .ref (a 15), .ref (a 16), .ref (a 17), .ref (a 18), .ref (a 19), .ref (a 20), .ref (a 21), .ref (a 22), .ref (a 23), .ref (a 24), .ref (a 25), .ref (a 26), .ref (a 27), .ref (a 28), .ref (a 29), .ref (a 30), .int v_begun, .ref (a 31), .ref (a 32)])), ((a 12), .inl ((d 12), 60, .inl f_first)), ((a 13), .inl ((d 13), 60, .inl f_every))]) (wr := [((a 14), .inl ((d 14), 60, .inl f_dues)), ((a 20), .inl ((d 20), 5040, .inl f_isThere)), ((a 21), .inl ((d 21), 5040, .inl f_counts)), ((a 18), .inl ((d 18), 5040, .inl f_due)), ((a 19), .inl ((d 19), 5040, .inl f_filled))]) rfl rfl (by decide) (by decide) (va_runV (As := [.int pp, .int kk]) (rest := []) F (m_monthOf l G k _ h a d v_taped v_size v_from v_behind v_hand v_value v_fault v_faultAt v_clock v_coin v_loan v_matched v_taxed v_paidStages v_grown v_pledges v_sums v_stages v_isStopped v_begun f_first f_every pp kk (by omega) (by omega)) (cwVt F mf_X12_monthOf km_X12_240 rfl rfl ⟨Nat.le_of_ble_eq_true rfl, Nat.le_of_ble_eq_true rfl⟩) (cs_preV St [0, 2, 3] rfl (by decide) [1, 2] rfl (ci := 12) (q0 := 0) rfl rfl) rfl rfl hl.1 rfl (lv_room (Nat.le_of_ble_eq_true rfl)) dX12_sure_65 ⟨Nat.le_of_ble_eq_true rfl, Nat.le_of_ble_eq_true rfl⟩) (fun r_13 u_14 H locs hw St => ?_)
                try dsimp only at hw
                have St : cS G k [((a 14), .inl ((d 14), 60, .inl f_dues)), ((a 20), .inl ((d 20), 5040, .inl f_isThere)), ((a 21), .inl ((d 21), 5040, .inl f_counts)), ((a 18), .inl ((d 18), 5040, .inl f_due)), ((a 19), .inl ((d 19), 5040, .inl f_filled)), (h, .inr (12, [.ref (a 0), .ref (a 1), .ref (a 2), .ref (a 3), .int v_taped, .int v_size, .int v_from, .int v_behind, .int v_hand, .int v_value, .int v_fault, .int v_faultAt, .ref (a 4), .int v_clock, .int v_coin, .int v_loan, .int v_matched, .int v_taxed, .int v_paidStages, .int v_grown, .int v_pledges, .int v_sums, .int v_stages, .int v_isStopped, .ref (a 5), .ref (a 6), .ref (a 7), .ref (a 8), .ref (a 9), .ref (a 10), .ref (a 11), .ref (a 12), .ref (a 13), .ref (a 14), .ref (a 15), .ref (a 16), .ref (a 17), .ref (a 18), .ref (a 19), .ref (a 20), .ref (a 21), .ref (a 22), .ref (a 23), .ref (a 24), .ref (a 25), .ref (a 26), .ref (a 27), .ref (a 28), .ref (a 29), .ref (a 30), .int v_begun, .ref (a 31), .ref (a 32)])), ((a 12), .inl ((d 12), 60, .inl f_first)), ((a 13), .inl ((d 13), 60, .inl f_every))] [((d 14), .int), ((d 12), .int), ((d 13), .int), ((d 20), .boolean), ((d 21), .boolean), ((d 18), .int), ((d 19), .int)] A s H locs := St
                refine lv_istore (lv' := [(11, .int r_13), (10, .int y_12), (9, .int kk), (8, .int pp), (6, .long cm2), (4, .long bs2), (2, .long nx2), (0, .ref h), (1, .int x1)]) hx hb dX12_sure_68 hl (by decide) rfl (fun ls hl => ?_)
                refine lv_aload_n hx hb dX12_sure_70 rfl (lv_at hl 7 rfl) ?_
                refine cs_get F St 5 rfl rfl inX12 39 (by decide) kf_X12_165 rfl dX12_sure_71 ?_
                refine lv_iload hx hb dX12_sure_74 (lv_at hl 1 rfl) ?_
                refine cs_zld F St 1 3 rfl rfl (vp_in_iff.mpr ⟨by omega, by omega⟩) dX12_sure_76 ?_
                refine lv_topi (fun y_15 ey_15 => ?_)
                refine lv_if_eq (tgt := 122) hx hb dX12_sure_77 (by decide) (fun c77 => ?_) (fun c77 => ?_)
                ·
                  have i77 := ci_eq (x := y_15) (y := 0) rfl (show (0 : Int32).toInt = 0 by decide) c77
                  refine lv_aload_n hx hb dX12_sure_122 rfl (lv_at hl 7 rfl) ?_
                  refine cs_get F St 5 rfl rfl inX12 40 (by decide) kf_X12_168 rfl dX12_sure_123 ?_
                  refine lv_iload hx hb dX12_sure_126 (lv_at hl 1 rfl) ?_
                  refine cs_zld F St 2 4 rfl rfl (vp_in_iff.mpr ⟨by omega, by omega⟩) dX12_sure_128 ?_
                  refine lv_topi (fun y_16 ey_16 => ?_)
                  refine lv_if_eq (tgt := 170) hx hb dX12_sure_129 (by decide) (fun c129 => ?_) (fun c129 => ?_)
                  ·
                    have i129 := ci_eq (x := y_16) (y := 0) rfl (show (0 : Int32).toInt = 0 by decide) c129
                    obtain ⟨y_17, ey_17⟩ : ∃ zz : Int32, zz = kk + 1 := ⟨_, rfl⟩
                    first | have jy_17 : y_17.toInt = kk.toInt + 1 := (by have q9 := ci_add (x := kk) rfl (show (1 : Int32).toInt = 1 by decide) ey_17; omega) | have jy_17 := ci_add (x := kk) rfl (show (1 : Int32).toInt = 1 by decide) ey_17
                    refine lv_iinc (v := y_17) (lv' := [(9, .int y_17), (11, .int r_13), (10, .int y_12), (8, .int pp), (6, .long cm2), (4, .long bs2), (2, .long nx2), (0, .ref h), (1, .int x1)]) hx hb dX12_sure_170 hl (k := 2) rfl (by rw [ey_17]; rfl) (by decide) rfl (fun ls hl => ?_)
                    refine lv_goto (tgt := 38) hx hb dX12_sure_173 (by decide) ?_
                    exact ih38 y_17 nx2 bs2 cm2 _ _ _ ⟨by omega, by omega⟩ (by omega) (cs_pick St [5, 0, 6, 7, 1, 2, 3, 4] rfl (by decide) [0, 1, 2, 3, 4, 5, 6] rfl) (lv_sub hl [0, 3, 4, 5, 6, 7, 8] rfl)
                  ·
                    have i129 := ci_ne (x := y_16) (y := 0) rfl (show (0 : Int32).toInt = 0 by decide) c129
                    refine lv_iload hx hb dX12_sure_132 (lv_at hl 0 rfl) ?_
                    refine lv_aload_n hx hb dX12_sure_134 rfl (lv_at hl 7 rfl) ?_
                    refine cs_get F St 5 rfl rfl inX12 13 (by decide) kf_X12_230 rfl dX12_sure_135 ?_
                    refine lv_icmp_le (tgt := 144) hx hb dX12_sure_138 (by decide) (fun c138 => ?_) (fun c138 => ?_)
                    ·
                      have i138 := ci_le (x := r_13) (y := v_clock) rfl rfl c138
                      refine lv_lload hx hb dX12_sure_144 (lv_at hl 5 rfl) ?_
                      refine lv_aload_n hx hb dX12_sure_146 rfl (lv_at hl 7 rfl) ?_
                      refine cs_get F St 5 rfl rfl inX12 37 (by decide) kf_X12_159 rfl dX12_sure_147 ?_
                      refine lv_iload hx hb dX12_sure_150 (lv_at hl 1 rfl) ?_
                      refine cs_ild F St 3 5 rfl rfl (vp_in_iff.mpr ⟨by omega, by omega⟩) dX12_sure_152 ?_
                      refine lv_topi (fun y_18 ey_18 => ?_)
                      refine lv_i2l (v := y_18.toInt64) hx hb dX12_sure_153 rfl ?_
                      refine lv_ladd hx hb dX12_sure_154 ?_
                      refine lv_topl (fun y_19 ey_19 => ?_)
                      first | have jy_19 : y_19.toInt = bs2.toInt + y_18.toInt := (by have q8 := ci_rng y_18; have q9 := cl_add (x := bs2) (y := y_18.toInt64) (u := bs2.toInt) (v := y_18.toInt) rfl (Int32.toInt_toInt64 y_18) ey_19; omega) | have jy_19 := cl_add (x := bs2) (y := y_18.toInt64) (u := bs2.toInt) (v := y_18.toInt) rfl (Int32.toInt_toInt64 y_18) ey_19
                      refine lv_lstore (lv' := [(4, .long y_19), (11, .int r_13), (10, .int y_12), (9, .int kk), (8, .int pp), (6, .long cm2), (2, .long nx2), (0, .ref h), (1, .int x1)]) hx hb dX12_sure_155 hl (by decide) rfl (fun ls hl => ?_)
                      refine lv_lload hx hb dX12_sure_157 (lv_at hl 5 rfl) ?_
                      refine lv_aload_n hx hb dX12_sure_159 rfl (lv_at hl 7 rfl) ?_
                      refine cs_get F St 5 rfl rfl inX12 38 (by decide) kf_X12_162 rfl dX12_sure_160 ?_
                      refine lv_iload hx hb dX12_sure_163 (lv_at hl 2 rfl) ?_
                      refine cs_ild F St 4 6 rfl rfl (vp_in_iff.mpr ⟨by omega, by omega⟩) dX12_sure_165 ?_
                      refine lv_topi (fun y_20 ey_20 => ?_)
                      refine lv_i2l (v := y_20.toInt64) hx hb dX12_sure_166 rfl ?_
                      refine lv_ladd hx hb dX12_sure_167 ?_
                      refine lv_topl (fun y_21 ey_21 => ?_)
                      first | have jy_21 : y_21.toInt = cm2.toInt + y_20.toInt := (by have q8 := ci_rng y_20; have q9 := cl_add (x := cm2) (y := y_20.toInt64) (u := cm2.toInt) (v := y_20.toInt) rfl (Int32.toInt_toInt64 y_20) ey_21; omega) | have jy_21 := cl_add (x := cm2) (y := y_20.toInt64) (u := cm2.toInt) (v := y_20.toInt) rfl (Int32.toInt_toInt64 y_20) ey_21
                      refine lv_lstore (lv' := [(6, .long y_21), (4, .long y_19), (11, .int r_13), (10, .int y_12), (9, .int kk), (8, .int pp), (2, .long nx2), (0, .ref h), (1, .int x1)]) hx hb dX12_sure_168 hl (by decide) rfl (fun ls hl => ?_)
                      obtain ⟨y_22, ey_22⟩ : ∃ zz : Int32, zz = kk + 1 := ⟨_, rfl⟩
                      first | have jy_22 : y_22.toInt = kk.toInt + 1 := (by have q9 := ci_add (x := kk) rfl (show (1 : Int32).toInt = 1 by decide) ey_22; omega) | have jy_22 := ci_add (x := kk) rfl (show (1 : Int32).toInt = 1 by decide) ey_22
                      refine lv_iinc (v := y_22) (lv' := [(9, .int y_22), (6, .long y_21), (4, .long y_19), (11, .int r_13), (10, .int y_12), (8, .int pp), (2, .long nx2), (0, .ref h), (1, .int x1)]) hx hb dX12_sure_170 hl (k := 4) rfl (by rw [ey_22]; rfl) (by decide) rfl (fun ls hl => ?_)
                      refine lv_goto (tgt := 38) hx hb dX12_sure_173 (by decide) ?_
                      exact ih38 y_22 nx2 y_19 y_21 _ _ _ ⟨by omega, by omega⟩ (by omega) (cs_pick St [5, 0, 6, 7, 1, 2, 3, 4] rfl (by decide) [0, 1, 2, 3, 4, 5, 6] rfl) (lv_sub hl [0, 5, 1, 2, 6, 7, 8] rfl)
                    ·
                      have i138 := ci_nle (x := r_13) (y := v_clock) rfl rfl c138
                      refine lv_goto (tgt := 170) hx hb dX12_sure_141 (by decide) ?_
                      obtain ⟨y_23, ey_23⟩ : ∃ zz : Int32, zz = kk + 1 := ⟨_, rfl⟩
                      first | have jy_23 : y_23.toInt = kk.toInt + 1 := (by have q9 := ci_add (x := kk) rfl (show (1 : Int32).toInt = 1 by decide) ey_23; omega) | have jy_23 := ci_add (x := kk) rfl (show (1 : Int32).toInt = 1 by decide) ey_23
                      refine lv_iinc (v := y_23) (lv' := [(9, .int y_23), (11, .int r_13), (10, .int y_12), (8, .int pp), (6, .long cm2), (4, .long bs2), (2, .long nx2), (0, .ref h), (1, .int x1)]) hx hb dX12_sure_170 hl (k := 2) rfl (by rw [ey_23]; rfl) (by decide) rfl (fun ls hl => ?_)
                      refine lv_goto (tgt := 38) hx hb dX12_sure_173 (by decide) ?_
                      exact ih38 y_23 nx2 bs2 cm2 _ _ _ ⟨by omega, by omega⟩ (by omega) (cs_pick St [5, 0, 6, 7, 1, 2, 3, 4] rfl (by decide) [0, 1, 2, 3, 4, 5, 6] rfl) (lv_sub hl [0, 3, 4, 5, 6, 7, 8] rfl)
                ·
                  have i77 := ci_ne (x := y_15) (y := 0) rfl (show (0 : Int32).toInt = 0 by decide) c77
                  refine lv_iload hx hb dX12_sure_80 (lv_at hl 0 rfl) ?_
                  refine lv_i2l (v := r_13.toInt64) hx hb dX12_sure_82 rfl ?_
                  refine lv_aload_n hx hb dX12_sure_83 rfl (lv_at hl 7 rfl) ?_
                  refine cs_get F St 5 rfl rfl inX12 13 (by decide) kf_X12_230 rfl dX12_sure_84 ?_
                  refine lv_i2l (v := v_clock.toInt64) hx hb dX12_sure_87 rfl ?_
                  refine lv_lconst (v := 1) hx hb dX12_sure_88 (by decide) ?_
                  refine lv_ladd hx hb dX12_sure_89 ?_
                  refine lv_topl (fun y_24 ey_24 => ?_)
                  first | have jy_24 : y_24.toInt = v_clock.toInt + 1 := (by have q7 := ci_rng v_clock; have q9 := cl_add (x := v_clock.toInt64) (y := 1) (u := v_clock.toInt) (v := 1) (Int32.toInt_toInt64 v_clock) (by decide) ey_24; omega) | have jy_24 := cl_add (x := v_clock.toInt64) (y := 1) (u := v_clock.toInt) (v := 1) (Int32.toInt_toInt64 v_clock) (by decide) ey_24
                  refine lv_aload_n hx hb dX12_sure_90 rfl (lv_at hl 7 rfl) ?_
                  refine cs_get F St 5 rfl rfl inX12 13 (by decide) kf_X12_230 rfl dX12_sure_91 ?_
                  refine lv_iload_n hx hb dX12_sure_94 rfl (lv_at hl 8 rfl) ?_
                  refine lv_iadd hx hb dX12_sure_95 ?_
                  refine lv_topi (fun y_25 ey_25 => ?_)
                  first | have jy_25 : y_25.toInt = v_clock.toInt + x1.toInt := (by have q9 := ci_add (x := v_clock) (y := x1) rfl rfl ey_25; omega) | have jy_25 := ci_add (x := v_clock) (y := x1) rfl rfl ey_25
                  refine lv_i2l (v := y_25.toInt64) hx hb dX12_sure_96 rfl ?_
                  refine cs_i St [] [0, 1, 2, 3, 4, 5, 6, 7] (wc := []) (wr := [((a 14), .inl ((d 14), 60, .inl f_dues)), ((a 20), .inl ((d 20), 5040, .inl f_isThere)), ((a 21), .inl ((d 21), 5040, .inl f_counts)), ((a 18), .inl ((d 18), 5040, .inl f_due)), ((a 19), .inl ((d 19), 5040, .inl f_filled)), (h, .inr (12, [.ref (a 0), .ref (a 1), .ref (a 2), .ref (a 3), .int v_taped, .int v_size, .int v_from, .int v_behind, .int v_hand, .int v_value, .int v_fault, .int v_faultAt, .ref (a 4), .int v_clock, .int v_coin, .int v_loan, .int v_matched, .int v_taxed, .int v_paidStages, .int v_grown, .int v_pledges, .int v_sums, .int v_stages, .int v_isStopped, .ref (a 5), .ref (a 6), .ref (a 7), .ref (a 8), .ref (a 9), .ref (a 10), .ref (a 11), .ref (a 12), .ref (a 13), .ref (a 14), .ref (a 15), .ref (a 16), .ref (a 17), .ref (a 18), .ref (a 19), .ref (a 20), .ref (a 21), .ref (a 22), .ref (a 23), .ref (a 24), .ref (a 25), .ref (a 26), .ref (a 27), .ref (a 28), .ref (a 29), .ref (a 30), .int v_begun, .ref (a 31), .ref (a 32)])), ((a 12), .inl ((d 12), 60, .inl f_first)), ((a 13), .inl ((d 13), 60, .inl f_every))]) rfl rfl (by decide) (by decide) (va_runS (As := [.long r_13.toInt64, .long y_24, .long y_25.toInt64]) (rest := []) F (c12_in l G k _ r_13.toInt64 y_24 y_25.toInt64 r_13.toInt y_24.toInt y_25.toInt (Int32.toInt_toInt64 r_13) rfl (Int32.toInt_toInt64 y_25)) (cwSt F mf_X12_in km_X12_58 rfl rfl ⟨Nat.le_of_ble_eq_true rfl, Nat.le_of_ble_eq_true rfl⟩) (cs_pre St [] rfl (by decide) [] rfl) rfl rfl hl.1 rfl (lv_room (Nat.le_of_ble_eq_true rfl)) dX12_sure_97 ⟨Nat.le_of_ble_eq_true rfl, Nat.le_of_ble_eq_true rfl⟩) (fun r_26 u_27 H locs hw St => ?_)
                  try dsimp only at hw
                  rcases hw with ⟨z_28, hf_29⟩ | ⟨z_30, hf_31⟩
                  ·
                    subst r_26
                    have St : cS G k [((a 14), .inl ((d 14), 60, .inl f_dues)), ((a 20), .inl ((d 20), 5040, .inl f_isThere)), ((a 21), .inl ((d 21), 5040, .inl f_counts)), ((a 18), .inl ((d 18), 5040, .inl f_due)), ((a 19), .inl ((d 19), 5040, .inl f_filled)), (h, .inr (12, [.ref (a 0), .ref (a 1), .ref (a 2), .ref (a 3), .int v_taped, .int v_size, .int v_from, .int v_behind, .int v_hand, .int v_value, .int v_fault, .int v_faultAt, .ref (a 4), .int v_clock, .int v_coin, .int v_loan, .int v_matched, .int v_taxed, .int v_paidStages, .int v_grown, .int v_pledges, .int v_sums, .int v_stages, .int v_isStopped, .ref (a 5), .ref (a 6), .ref (a 7), .ref (a 8), .ref (a 9), .ref (a 10), .ref (a 11), .ref (a 12), .ref (a 13), .ref (a 14), .ref (a 15), .ref (a 16), .ref (a 17), .ref (a 18), .ref (a 19), .ref (a 20), .ref (a 21), .ref (a 22), .ref (a 23), .ref (a 24), .ref (a 25), .ref (a 26), .ref (a 27), .ref (a 28), .ref (a 29), .ref (a 30), .int v_begun, .ref (a 31), .ref (a 32)])), ((a 12), .inl ((d 12), 60, .inl f_first)), ((a 13), .inl ((d 13), 60, .inl f_every))] [((d 14), .int), ((d 12), .int), ((d 13), .int), ((d 20), .boolean), ((d 21), .boolean), ((d 18), .int), ((d 19), .int)] A s H locs := St
                    refine lv_if_eq (tgt := 122) hx hb dX12_sure_100 (by decide) (fun c100 => ?_) (fun c100 => ?_)
                    · exact absurd c100 (by decide)
                    refine lv_lload_n hx hb dX12_sure_103 rfl (lv_at hl 6 rfl) ?_
                    refine lv_aload_n hx hb dX12_sure_104 rfl (lv_at hl 7 rfl) ?_
                    refine cs_get F St 5 rfl rfl inX12 37 (by decide) kf_X12_159 rfl dX12_sure_105 ?_
                    refine lv_iload hx hb dX12_sure_108 (lv_at hl 1 rfl) ?_
                    refine cs_ild F St 3 5 rfl rfl (vp_in_iff.mpr ⟨by omega, by omega⟩) dX12_sure_110 ?_
                    refine lv_topi (fun y_32 ey_32 => ?_)
                    refine lv_aload_n hx hb dX12_sure_111 rfl (lv_at hl 7 rfl) ?_
                    refine cs_get F St 5 rfl rfl inX12 38 (by decide) kf_X12_162 rfl dX12_sure_112 ?_
                    refine lv_iload hx hb dX12_sure_115 (lv_at hl 1 rfl) ?_
                    refine cs_ild F St 4 6 rfl rfl (vp_in_iff.mpr ⟨by omega, by omega⟩) dX12_sure_117 ?_
                    refine lv_topi (fun y_33 ey_33 => ?_)
                    refine lv_isub hx hb dX12_sure_118 ?_
                    refine lv_topi (fun y_34 ey_34 => ?_)
                    first | have jy_34 : y_34.toInt = y_32.toInt - y_33.toInt := (by have q9 := ci_sub (x := y_32) (y := y_33) rfl rfl ey_34; omega) | have jy_34 := ci_sub (x := y_32) (y := y_33) rfl rfl ey_34
                    refine lv_i2l (v := y_34.toInt64) hx hb dX12_sure_119 rfl ?_
                    refine lv_ladd hx hb dX12_sure_120 ?_
                    refine lv_topl (fun y_35 ey_35 => ?_)
                    first | have jy_35 : y_35.toInt = nx2.toInt + y_34.toInt := (by have q8 := ci_rng y_34; have q9 := cl_add (x := nx2) (y := y_34.toInt64) (u := nx2.toInt) (v := y_34.toInt) rfl (Int32.toInt_toInt64 y_34) ey_35; omega) | have jy_35 := cl_add (x := nx2) (y := y_34.toInt64) (u := nx2.toInt) (v := y_34.toInt) rfl (Int32.toInt_toInt64 y_34) ey_35
                    refine lv_lstore_n (lv' := [(2, .long y_35), (11, .int r_13), (10, .int y_12), (9, .int kk), (8, .int pp), (6, .long cm2), (4, .long bs2), (0, .ref h), (1, .int x1)]) hx hb dX12_sure_121 rfl hl (by decide) rfl (fun ls hl => ?_)
                    refine lv_aload_n hx hb dX12_sure_122 rfl (lv_at hl 7 rfl) ?_
                    refine cs_get F St 5 rfl rfl inX12 40 (by decide) kf_X12_168 rfl dX12_sure_123 ?_
                    refine lv_iload hx hb dX12_sure_126 (lv_at hl 2 rfl) ?_
                    refine cs_zld F St 2 4 rfl rfl (vp_in_iff.mpr ⟨by omega, by omega⟩) dX12_sure_128 ?_
                    refine lv_topi (fun y_36 ey_36 => ?_)
                    refine lv_if_eq (tgt := 170) hx hb dX12_sure_129 (by decide) (fun c129 => ?_) (fun c129 => ?_)
                    ·
                      have i129 := ci_eq (x := y_36) (y := 0) rfl (show (0 : Int32).toInt = 0 by decide) c129
                      obtain ⟨y_37, ey_37⟩ : ∃ zz : Int32, zz = kk + 1 := ⟨_, rfl⟩
                      first | have jy_37 : y_37.toInt = kk.toInt + 1 := (by have q9 := ci_add (x := kk) rfl (show (1 : Int32).toInt = 1 by decide) ey_37; omega) | have jy_37 := ci_add (x := kk) rfl (show (1 : Int32).toInt = 1 by decide) ey_37
                      refine lv_iinc (v := y_37) (lv' := [(9, .int y_37), (2, .long y_35), (11, .int r_13), (10, .int y_12), (8, .int pp), (6, .long cm2), (4, .long bs2), (0, .ref h), (1, .int x1)]) hx hb dX12_sure_170 hl (k := 3) rfl (by rw [ey_37]; rfl) (by decide) rfl (fun ls hl => ?_)
                      refine lv_goto (tgt := 38) hx hb dX12_sure_173 (by decide) ?_
                      exact ih38 y_37 y_35 bs2 cm2 _ _ _ ⟨by omega, by omega⟩ (by omega) (cs_pick St [5, 0, 6, 7, 1, 2, 3, 4] rfl (by decide) [0, 1, 2, 3, 4, 5, 6] rfl) (lv_sub hl [0, 4, 5, 6, 1, 7, 8] rfl)
                    ·
                      have i129 := ci_ne (x := y_36) (y := 0) rfl (show (0 : Int32).toInt = 0 by decide) c129
                      refine lv_iload hx hb dX12_sure_132 (lv_at hl 1 rfl) ?_
                      refine lv_aload_n hx hb dX12_sure_134 rfl (lv_at hl 7 rfl) ?_
                      refine cs_get F St 5 rfl rfl inX12 13 (by decide) kf_X12_230 rfl dX12_sure_135 ?_
                      refine lv_icmp_le (tgt := 144) hx hb dX12_sure_138 (by decide) (fun c138 => ?_) (fun c138 => ?_)
                      ·
                        have i138 := ci_le (x := r_13) (y := v_clock) rfl rfl c138
                        refine lv_lload hx hb dX12_sure_144 (lv_at hl 6 rfl) ?_
                        refine lv_aload_n hx hb dX12_sure_146 rfl (lv_at hl 7 rfl) ?_
                        refine cs_get F St 5 rfl rfl inX12 37 (by decide) kf_X12_159 rfl dX12_sure_147 ?_
                        refine lv_iload hx hb dX12_sure_150 (lv_at hl 2 rfl) ?_
                        refine cs_ild F St 3 5 rfl rfl (vp_in_iff.mpr ⟨by omega, by omega⟩) dX12_sure_152 ?_
                        refine lv_topi (fun y_38 ey_38 => ?_)
                        refine lv_i2l (v := y_38.toInt64) hx hb dX12_sure_153 rfl ?_
                        refine lv_ladd hx hb dX12_sure_154 ?_
                        refine lv_topl (fun y_39 ey_39 => ?_)
                        first | have jy_39 : y_39.toInt = bs2.toInt + y_38.toInt := (by have q8 := ci_rng y_38; have q9 := cl_add (x := bs2) (y := y_38.toInt64) (u := bs2.toInt) (v := y_38.toInt) rfl (Int32.toInt_toInt64 y_38) ey_39; omega) | have jy_39 := cl_add (x := bs2) (y := y_38.toInt64) (u := bs2.toInt) (v := y_38.toInt) rfl (Int32.toInt_toInt64 y_38) ey_39
                        refine lv_lstore (lv' := [(4, .long y_39), (2, .long y_35), (11, .int r_13), (10, .int y_12), (9, .int kk), (8, .int pp), (6, .long cm2), (0, .ref h), (1, .int x1)]) hx hb dX12_sure_155 hl (by decide) rfl (fun ls hl => ?_)
                        refine lv_lload hx hb dX12_sure_157 (lv_at hl 6 rfl) ?_
                        refine lv_aload_n hx hb dX12_sure_159 rfl (lv_at hl 7 rfl) ?_
                        refine cs_get F St 5 rfl rfl inX12 38 (by decide) kf_X12_162 rfl dX12_sure_160 ?_
                        refine lv_iload hx hb dX12_sure_163 (lv_at hl 3 rfl) ?_
                        refine cs_ild F St 4 6 rfl rfl (vp_in_iff.mpr ⟨by omega, by omega⟩) dX12_sure_165 ?_
                        refine lv_topi (fun y_40 ey_40 => ?_)
                        refine lv_i2l (v := y_40.toInt64) hx hb dX12_sure_166 rfl ?_
                        refine lv_ladd hx hb dX12_sure_167 ?_
                        refine lv_topl (fun y_41 ey_41 => ?_)
                        first | have jy_41 : y_41.toInt = cm2.toInt + y_40.toInt := (by have q8 := ci_rng y_40; have q9 := cl_add (x := cm2) (y := y_40.toInt64) (u := cm2.toInt) (v := y_40.toInt) rfl (Int32.toInt_toInt64 y_40) ey_41; omega) | have jy_41 := cl_add (x := cm2) (y := y_40.toInt64) (u := cm2.toInt) (v := y_40.toInt) rfl (Int32.toInt_toInt64 y_40) ey_41
                        refine lv_lstore (lv' := [(6, .long y_41), (4, .long y_39), (2, .long y_35), (11, .int r_13), (10, .int y_12), (9, .int kk), (8, .int pp), (0, .ref h), (1, .int x1)]) hx hb dX12_sure_168 hl (by decide) rfl (fun ls hl => ?_)
                        obtain ⟨y_42, ey_42⟩ : ∃ zz : Int32, zz = kk + 1 := ⟨_, rfl⟩
                        first | have jy_42 : y_42.toInt = kk.toInt + 1 := (by have q9 := ci_add (x := kk) rfl (show (1 : Int32).toInt = 1 by decide) ey_42; omega) | have jy_42 := ci_add (x := kk) rfl (show (1 : Int32).toInt = 1 by decide) ey_42
                        refine lv_iinc (v := y_42) (lv' := [(9, .int y_42), (6, .long y_41), (4, .long y_39), (2, .long y_35), (11, .int r_13), (10, .int y_12), (8, .int pp), (0, .ref h), (1, .int x1)]) hx hb dX12_sure_170 hl (k := 5) rfl (by rw [ey_42]; rfl) (by decide) rfl (fun ls hl => ?_)
                        refine lv_goto (tgt := 38) hx hb dX12_sure_173 (by decide) ?_
                        exact ih38 y_42 y_35 y_39 y_41 _ _ _ ⟨by omega, by omega⟩ (by omega) (cs_pick St [5, 0, 6, 7, 1, 2, 3, 4] rfl (by decide) [0, 1, 2, 3, 4, 5, 6] rfl) (lv_sub hl [0, 6, 1, 2, 3, 7, 8] rfl)
                      ·
                        have i138 := ci_nle (x := r_13) (y := v_clock) rfl rfl c138
                        refine lv_goto (tgt := 170) hx hb dX12_sure_141 (by decide) ?_
                        obtain ⟨y_43, ey_43⟩ : ∃ zz : Int32, zz = kk + 1 := ⟨_, rfl⟩
                        first | have jy_43 : y_43.toInt = kk.toInt + 1 := (by have q9 := ci_add (x := kk) rfl (show (1 : Int32).toInt = 1 by decide) ey_43; omega) | have jy_43 := ci_add (x := kk) rfl (show (1 : Int32).toInt = 1 by decide) ey_43
                        refine lv_iinc (v := y_43) (lv' := [(9, .int y_43), (2, .long y_35), (11, .int r_13), (10, .int y_12), (8, .int pp), (6, .long cm2), (4, .long bs2), (0, .ref h), (1, .int x1)]) hx hb dX12_sure_170 hl (k := 3) rfl (by rw [ey_43]; rfl) (by decide) rfl (fun ls hl => ?_)
                        refine lv_goto (tgt := 38) hx hb dX12_sure_173 (by decide) ?_
                        exact ih38 y_43 y_35 bs2 cm2 _ _ _ ⟨by omega, by omega⟩ (by omega) (cs_pick St [5, 0, 6, 7, 1, 2, 3, 4] rfl (by decide) [0, 1, 2, 3, 4, 5, 6] rfl) (lv_sub hl [0, 4, 5, 6, 1, 7, 8] rfl)
                  ·
                    subst r_26
                    have St : cS G k [((a 14), .inl ((d 14), 60, .inl f_dues)), ((a 20), .inl ((d 20), 5040, .inl f_isThere)), ((a 21), .inl ((d 21), 5040, .inl f_counts)), ((a 18), .inl ((d 18), 5040, .inl f_due)), ((a 19), .inl ((d 19), 5040, .inl f_filled)), (h, .inr (12, [.ref (a 0), .ref (a 1), .ref (a 2), .ref (a 3), .int v_taped, .int v_size, .int v_from, .int v_behind, .int v_hand, .int v_value, .int v_fault, .int v_faultAt, .ref (a 4), .int v_clock, .int v_coin, .int v_loan, .int v_matched, .int v_taxed, .int v_paidStages, .int v_grown, .int v_pledges, .int v_sums, .int v_stages, .int v_isStopped, .ref (a 5), .ref (a 6), .ref (a 7), .ref (a 8), .ref (a 9), .ref (a 10), .ref (a 11), .ref (a 12), .ref (a 13), .ref (a 14), .ref (a 15), .ref (a 16), .ref (a 17), .ref (a 18), .ref (a 19), .ref (a 20), .ref (a 21), .ref (a 22), .ref (a 23), .ref (a 24), .ref (a 25), .ref (a 26), .ref (a 27), .ref (a 28), .ref (a 29), .ref (a 30), .int v_begun, .ref (a 31), .ref (a 32)])), ((a 12), .inl ((d 12), 60, .inl f_first)), ((a 13), .inl ((d 13), 60, .inl f_every))] [((d 14), .int), ((d 12), .int), ((d 13), .int), ((d 20), .boolean), ((d 21), .boolean), ((d 18), .int), ((d 19), .int)] A s H locs := St
                    refine lv_if_eq (tgt := 122) hx hb dX12_sure_100 (by decide) (fun c100 => ?_) (fun c100 => ?_)
                    rotate_left
                    · exact absurd (by decide) c100
                    refine lv_aload_n hx hb dX12_sure_122 rfl (lv_at hl 7 rfl) ?_
                    refine cs_get F St 5 rfl rfl inX12 40 (by decide) kf_X12_168 rfl dX12_sure_123 ?_
                    refine lv_iload hx hb dX12_sure_126 (lv_at hl 1 rfl) ?_
                    refine cs_zld F St 2 4 rfl rfl (vp_in_iff.mpr ⟨by omega, by omega⟩) dX12_sure_128 ?_
                    refine lv_topi (fun y_44 ey_44 => ?_)
                    refine lv_if_eq (tgt := 170) hx hb dX12_sure_129 (by decide) (fun c129 => ?_) (fun c129 => ?_)
                    ·
                      have i129 := ci_eq (x := y_44) (y := 0) rfl (show (0 : Int32).toInt = 0 by decide) c129
                      obtain ⟨y_45, ey_45⟩ : ∃ zz : Int32, zz = kk + 1 := ⟨_, rfl⟩
                      first | have jy_45 : y_45.toInt = kk.toInt + 1 := (by have q9 := ci_add (x := kk) rfl (show (1 : Int32).toInt = 1 by decide) ey_45; omega) | have jy_45 := ci_add (x := kk) rfl (show (1 : Int32).toInt = 1 by decide) ey_45
                      refine lv_iinc (v := y_45) (lv' := [(9, .int y_45), (11, .int r_13), (10, .int y_12), (8, .int pp), (6, .long cm2), (4, .long bs2), (2, .long nx2), (0, .ref h), (1, .int x1)]) hx hb dX12_sure_170 hl (k := 2) rfl (by rw [ey_45]; rfl) (by decide) rfl (fun ls hl => ?_)
                      refine lv_goto (tgt := 38) hx hb dX12_sure_173 (by decide) ?_
                      exact ih38 y_45 nx2 bs2 cm2 _ _ _ ⟨by omega, by omega⟩ (by omega) (cs_pick St [5, 0, 6, 7, 1, 2, 3, 4] rfl (by decide) [0, 1, 2, 3, 4, 5, 6] rfl) (lv_sub hl [0, 3, 4, 5, 6, 7, 8] rfl)
                    ·
                      have i129 := ci_ne (x := y_44) (y := 0) rfl (show (0 : Int32).toInt = 0 by decide) c129
                      refine lv_iload hx hb dX12_sure_132 (lv_at hl 0 rfl) ?_
                      refine lv_aload_n hx hb dX12_sure_134 rfl (lv_at hl 7 rfl) ?_
                      refine cs_get F St 5 rfl rfl inX12 13 (by decide) kf_X12_230 rfl dX12_sure_135 ?_
                      refine lv_icmp_le (tgt := 144) hx hb dX12_sure_138 (by decide) (fun c138 => ?_) (fun c138 => ?_)
                      ·
                        have i138 := ci_le (x := r_13) (y := v_clock) rfl rfl c138
                        refine lv_lload hx hb dX12_sure_144 (lv_at hl 5 rfl) ?_
                        refine lv_aload_n hx hb dX12_sure_146 rfl (lv_at hl 7 rfl) ?_
                        refine cs_get F St 5 rfl rfl inX12 37 (by decide) kf_X12_159 rfl dX12_sure_147 ?_
                        refine lv_iload hx hb dX12_sure_150 (lv_at hl 1 rfl) ?_
                        refine cs_ild F St 3 5 rfl rfl (vp_in_iff.mpr ⟨by omega, by omega⟩) dX12_sure_152 ?_
                        refine lv_topi (fun y_46 ey_46 => ?_)
                        refine lv_i2l (v := y_46.toInt64) hx hb dX12_sure_153 rfl ?_
                        refine lv_ladd hx hb dX12_sure_154 ?_
                        refine lv_topl (fun y_47 ey_47 => ?_)
                        first | have jy_47 : y_47.toInt = bs2.toInt + y_46.toInt := (by have q8 := ci_rng y_46; have q9 := cl_add (x := bs2) (y := y_46.toInt64) (u := bs2.toInt) (v := y_46.toInt) rfl (Int32.toInt_toInt64 y_46) ey_47; omega) | have jy_47 := cl_add (x := bs2) (y := y_46.toInt64) (u := bs2.toInt) (v := y_46.toInt) rfl (Int32.toInt_toInt64 y_46) ey_47
                        refine lv_lstore (lv' := [(4, .long y_47), (11, .int r_13), (10, .int y_12), (9, .int kk), (8, .int pp), (6, .long cm2), (2, .long nx2), (0, .ref h), (1, .int x1)]) hx hb dX12_sure_155 hl (by decide) rfl (fun ls hl => ?_)
                        refine lv_lload hx hb dX12_sure_157 (lv_at hl 5 rfl) ?_
                        refine lv_aload_n hx hb dX12_sure_159 rfl (lv_at hl 7 rfl) ?_
                        refine cs_get F St 5 rfl rfl inX12 38 (by decide) kf_X12_162 rfl dX12_sure_160 ?_
                        refine lv_iload hx hb dX12_sure_163 (lv_at hl 2 rfl) ?_
                        refine cs_ild F St 4 6 rfl rfl (vp_in_iff.mpr ⟨by omega, by omega⟩) dX12_sure_165 ?_
                        refine lv_topi (fun y_48 ey_48 => ?_)
                        refine lv_i2l (v := y_48.toInt64) hx hb dX12_sure_166 rfl ?_
                        refine lv_ladd hx hb dX12_sure_167 ?_
                        refine lv_topl (fun y_49 ey_49 => ?_)
                        first | have jy_49 : y_49.toInt = cm2.toInt + y_48.toInt := (by have q8 := ci_rng y_48; have q9 := cl_add (x := cm2) (y := y_48.toInt64) (u := cm2.toInt) (v := y_48.toInt) rfl (Int32.toInt_toInt64 y_48) ey_49; omega) | have jy_49 := cl_add (x := cm2) (y := y_48.toInt64) (u := cm2.toInt) (v := y_48.toInt) rfl (Int32.toInt_toInt64 y_48) ey_49
                        refine lv_lstore (lv' := [(6, .long y_49), (4, .long y_47), (11, .int r_13), (10, .int y_12), (9, .int kk), (8, .int pp), (2, .long nx2), (0, .ref h), (1, .int x1)]) hx hb dX12_sure_168 hl (by decide) rfl (fun ls hl => ?_)
                        obtain ⟨y_50, ey_50⟩ : ∃ zz : Int32, zz = kk + 1 := ⟨_, rfl⟩
                        first | have jy_50 : y_50.toInt = kk.toInt + 1 := (by have q9 := ci_add (x := kk) rfl (show (1 : Int32).toInt = 1 by decide) ey_50; omega) | have jy_50 := ci_add (x := kk) rfl (show (1 : Int32).toInt = 1 by decide) ey_50
                        refine lv_iinc (v := y_50) (lv' := [(9, .int y_50), (6, .long y_49), (4, .long y_47), (11, .int r_13), (10, .int y_12), (8, .int pp), (2, .long nx2), (0, .ref h), (1, .int x1)]) hx hb dX12_sure_170 hl (k := 4) rfl (by rw [ey_50]; rfl) (by decide) rfl (fun ls hl => ?_)
                        refine lv_goto (tgt := 38) hx hb dX12_sure_173 (by decide) ?_
                        exact ih38 y_50 nx2 y_47 y_49 _ _ _ ⟨by omega, by omega⟩ (by omega) (cs_pick St [5, 0, 6, 7, 1, 2, 3, 4] rfl (by decide) [0, 1, 2, 3, 4, 5, 6] rfl) (lv_sub hl [0, 5, 1, 2, 6, 7, 8] rfl)
                      ·
                        have i138 := ci_nle (x := r_13) (y := v_clock) rfl rfl c138
                        refine lv_goto (tgt := 170) hx hb dX12_sure_141 (by decide) ?_
                        obtain ⟨y_51, ey_51⟩ : ∃ zz : Int32, zz = kk + 1 := ⟨_, rfl⟩
                        first | have jy_51 : y_51.toInt = kk.toInt + 1 := (by have q9 := ci_add (x := kk) rfl (show (1 : Int32).toInt = 1 by decide) ey_51; omega) | have jy_51 := ci_add (x := kk) rfl (show (1 : Int32).toInt = 1 by decide) ey_51
                        refine lv_iinc (v := y_51) (lv' := [(9, .int y_51), (11, .int r_13), (10, .int y_12), (8, .int pp), (6, .long cm2), (4, .long bs2), (2, .long nx2), (0, .ref h), (1, .int x1)]) hx hb dX12_sure_170 hl (k := 2) rfl (by rw [ey_51]; rfl) (by decide) rfl (fun ls hl => ?_)
                        refine lv_goto (tgt := 38) hx hb dX12_sure_173 (by decide) ?_
                        exact ih38 y_51 nx2 bs2 cm2 _ _ _ ⟨by omega, by omega⟩ (by omega) (cs_pick St [5, 0, 6, 7, 1, 2, 3, 4] rfl (by decide) [0, 1, 2, 3, 4, 5, 6] rfl) (lv_sub hl [0, 3, 4, 5, 6, 7, 8] rfl)
          exact lp38 6001 0 nx bs cm _ _ _ ⟨by omega, by omega⟩ (by omega) St (lv_sub hl [0, 1, 2, 3, 4, 5, 6] rfl)
    exact lp26 61 0 0 0 0 _ _ _ ⟨by omega, by omega⟩ (by omega) St (lv_sub hl [0, 1, 2, 3, 4, 5] rfl)
  ·
    subst r_1
    have St : cS G k [(h, .inr (12, [.ref (a 0), .ref (a 1), .ref (a 2), .ref (a 3), .int v_taped, .int v_size, .int v_from, .int v_behind, .int v_hand, .int v_value, .int v_fault, .int v_faultAt, .ref (a 4), .int v_clock, .int v_coin, .int v_loan, .int v_matched, .int v_taxed, .int v_paidStages, .int v_grown, .int v_pledges, .int v_sums, .int v_stages, .int v_isStopped, .ref (a 5), .ref (a 6), .ref (a 7), .ref (a 8), .ref (a 9), .ref (a 10), .ref (a 11), .ref (a 12), .ref (a 13), .ref (a 14), .ref (a 15), .ref (a 16), .ref (a 17), .ref (a 18), .ref (a 19), .ref (a 20), .ref (a 21), .ref (a 22), .ref (a 23), .ref (a 24), .ref (a 25), .ref (a 26), .ref (a 27), .ref (a 28), .ref (a 29), .ref (a 30), .int v_begun, .ref (a 31), .ref (a 32)])), ((a 14), .inl ((d 14), 60, .inl f_dues)), ((a 12), .inl ((d 12), 60, .inl f_first)), ((a 13), .inl ((d 13), 60, .inl f_every)), ((a 20), .inl ((d 20), 5040, .inl f_isThere)), ((a 21), .inl ((d 21), 5040, .inl f_counts)), ((a 18), .inl ((d 18), 5040, .inl f_due)), ((a 19), .inl ((d 19), 5040, .inl f_filled))] [((d 14), .int), ((d 12), .int), ((d 13), .int), ((d 20), .boolean), ((d 21), .boolean), ((d 18), .int), ((d 19), .int)] A s H locs := St
    refine lv_if_ne (tgt := 15) hx hb dX12_sure_9 (by decide) (fun c9 => ?_) (fun c9 => ?_)
    · exact absurd c9 (by decide)
    refine lv_bipush (v := (-2)) hx hb dX12_sure_12 (by decide) ?_
    exact cs_iret F hr hlk hQ St () (r := (-2)) (by trivial) [0, 1, 2, 3, 4, 5, 6, 7] rfl (by decide) [] rfl (by decide) (by decide) dX12_sure_14
set_option maxHeartbeats 4000000 in
set_option maxRecDepth 100000 in
theorem m_carve (l : Launch) (G : va_G) (k : Nat → Nat) (sz : Nat) (h : Nat) (a : Nat → Nat) (d : Nat → ClassId) (v_taped : Int32) (v_size : Int32) (v_from : Int32) (v_behind : Int32) (v_hand : Int32) (v_value : Int32) (v_fault : Int32) (v_faultAt : Int32) (v_clock : Int32) (v_coin : Int32) (v_loan : Int32) (v_matched : Int32) (v_taxed : Int32) (v_paidStages : Int32) (v_grown : Int32) (v_pledges : Int32) (v_sums : Int32) (v_stages : Int32) (v_isStopped : Int32) (v_begun : Int32) (f_sum : Nat → Int32) (f_stones : Nat → Int32) (f_sumGiver : Nat → Int32) (f_sumPence : Nat → Int32) (f_isNameless : Nat → Int32) (f_rule : Nat → Int32) (hSg : mGi v_sums f_sumGiver) (hSp : mSp v_sums f_sumPence) : Met l yX12_carve (Cond.code yX12_carve cX12_carve 5 (some .int) :: tb) ({ frames := 0, cells := 0, slots := 0, locals := 0 } : Room) (va_Pc [.ref h] (cP G k [(h, .inr (12, [.ref (a 0), .ref (a 1), .ref (a 2), .ref (a 3), .int v_taped, .int v_size, .int v_from, .int v_behind, .int v_hand, .int v_value, .int v_fault, .int v_faultAt, .ref (a 4), .int v_clock, .int v_coin, .int v_loan, .int v_matched, .int v_taxed, .int v_paidStages, .int v_grown, .int v_pledges, .int v_sums, .int v_stages, .int v_isStopped, .ref (a 5), .ref (a 6), .ref (a 7), .ref (a 8), .ref (a 9), .ref (a 10), .ref (a 11), .ref (a 12), .ref (a 13), .ref (a 14), .ref (a 15), .ref (a 16), .ref (a 17), .ref (a 18), .ref (a 19), .ref (a 20), .ref (a 21), .ref (a 22), .ref (a 23), .ref (a 24), .ref (a 25), .ref (a 26), .ref (a 27), .ref (a 28), .ref (a 29), .ref (a 30), .int v_begun, .ref (a 31), .ref (a 32)])), ((a 31), .inl ((d 31), 30, .inl f_sum)), ((a 32), .inl ((d 32), 30, .inl f_stones)), ((a 22), .inl ((d 22), 250, .inl f_sumGiver)), ((a 24), .inl ((d 24), 250, .inl f_sumPence)), ((a 9), .inl ((d 9), 30, .inl f_isNameless)), ((a 0), .inl ((d 0), 9, .inl f_rule))] [((d 31), .int), ((d 32), .int), ((d 22), .int), ((d 24), .int), ((d 9), .boolean), ((d 0), .int)] sz)) (va_Qi (fun (r : Int32) (u : (Nat → Int32) × (Nat → Int32)) => match u with | (g_sum, g_stones) => (0 ≤ r.toInt ∧ r.toInt ≤ 30)) (cB G (fun u => match u with | (g_sum, g_stones) => [(h, .inr (12, [.ref (a 0), .ref (a 1), .ref (a 2), .ref (a 3), .int v_taped, .int v_size, .int v_from, .int v_behind, .int v_hand, .int v_value, .int v_fault, .int v_faultAt, .ref (a 4), .int v_clock, .int v_coin, .int v_loan, .int v_matched, .int v_taxed, .int v_paidStages, .int v_grown, .int v_pledges, .int v_sums, .int v_stages, .int v_isStopped, .ref (a 5), .ref (a 6), .ref (a 7), .ref (a 8), .ref (a 9), .ref (a 10), .ref (a 11), .ref (a 12), .ref (a 13), .ref (a 14), .ref (a 15), .ref (a 16), .ref (a 17), .ref (a 18), .ref (a 19), .ref (a 20), .ref (a 21), .ref (a 22), .ref (a 23), .ref (a 24), .ref (a 25), .ref (a 26), .ref (a 27), .ref (a 28), .ref (a 29), .ref (a 30), .int v_begun, .ref (a 31), .ref (a 32)])), ((a 31), .inl ((d 31), 30, .inl g_sum)), ((a 32), .inl ((d 32), 30, .inl g_stones)), ((a 22), .inl ((d 22), 250, .inl f_sumGiver)), ((a 24), .inl ((d 24), 250, .inl f_sumPence)), ((a 9), .inl ((d 9), 30, .inl f_isNameless)), ((a 0), .inl ((d 0), 9, .inl f_rule))]) (fun u => match u with | (g_sum, g_stones) => []) (va_A [(h, .inr (12, [.ref (a 0), .ref (a 1), .ref (a 2), .ref (a 3), .int v_taped, .int v_size, .int v_from, .int v_behind, .int v_hand, .int v_value, .int v_fault, .int v_faultAt, .ref (a 4), .int v_clock, .int v_coin, .int v_loan, .int v_matched, .int v_taxed, .int v_paidStages, .int v_grown, .int v_pledges, .int v_sums, .int v_stages, .int v_isStopped, .ref (a 5), .ref (a 6), .ref (a 7), .ref (a 8), .ref (a 9), .ref (a 10), .ref (a 11), .ref (a 12), .ref (a 13), .ref (a 14), .ref (a 15), .ref (a 16), .ref (a 17), .ref (a 18), .ref (a 19), .ref (a 20), .ref (a 21), .ref (a 22), .ref (a 23), .ref (a 24), .ref (a 25), .ref (a 26), .ref (a 27), .ref (a 28), .ref (a 29), .ref (a 30), .int v_begun, .ref (a 31), .ref (a 32)])), ((a 31), .inl ((d 31), 30, .inl f_sum)), ((a 32), .inl ((d 32), 30, .inl f_stones)), ((a 22), .inl ((d 22), 250, .inl f_sumGiver)), ((a 24), .inl ((d 24), 250, .inl f_sumPence)), ((a 9), .inl ((d 9), 30, .inl f_isNameless)), ((a 0), .inl ((d 0), 9, .inl f_rule))] sz)) (va_A [(h, .inr (12, [.ref (a 0), .ref (a 1), .ref (a 2), .ref (a 3), .int v_taped, .int v_size, .int v_from, .int v_behind, .int v_hand, .int v_value, .int v_fault, .int v_faultAt, .ref (a 4), .int v_clock, .int v_coin, .int v_loan, .int v_matched, .int v_taxed, .int v_paidStages, .int v_grown, .int v_pledges, .int v_sums, .int v_stages, .int v_isStopped, .ref (a 5), .ref (a 6), .ref (a 7), .ref (a 8), .ref (a 9), .ref (a 10), .ref (a 11), .ref (a 12), .ref (a 13), .ref (a 14), .ref (a 15), .ref (a 16), .ref (a 17), .ref (a 18), .ref (a 19), .ref (a 20), .ref (a 21), .ref (a 22), .ref (a 23), .ref (a 24), .ref (a 25), .ref (a 26), .ref (a 27), .ref (a 28), .ref (a 29), .ref (a 30), .int v_begun, .ref (a 31), .ref (a 32)])), ((a 31), .inl ((d 31), 30, .inl f_sum)), ((a 32), .inl ((d 32), 30, .inl f_stones)), ((a 22), .inl ((d 22), 250, .inl f_sumGiver)), ((a 24), .inl ((d 24), 250, .inl f_sumPence)), ((a 9), .inl ((d 9), 30, .inl f_isNameless)), ((a 0), .inl ((d 0), 9, .inl f_rule))] sz)) 0 0 (va_A [(h, .inr (12, [.ref (a 0), .ref (a 1), .ref (a 2), .ref (a 3), .int v_taped, .int v_size, .int v_from, .int v_behind, .int v_hand, .int v_value, .int v_fault, .int v_faultAt, .ref (a 4), .int v_clock, .int v_coin, .int v_loan, .int v_matched, .int v_taxed, .int v_paidStages, .int v_grown, .int v_pledges, .int v_sums, .int v_stages, .int v_isStopped, .ref (a 5), .ref (a 6), .ref (a 7), .ref (a 8), .ref (a 9), .ref (a 10), .ref (a 11), .ref (a 12), .ref (a 13), .ref (a 14), .ref (a 15), .ref (a 16), .ref (a 17), .ref (a 18), .ref (a 19), .ref (a 20), .ref (a 21), .ref (a 22), .ref (a 23), .ref (a 24), .ref (a 25), .ref (a 26), .ref (a 27), .ref (a 28), .ref (a 29), .ref (a 30), .int v_begun, .ref (a 31), .ref (a 32)])), ((a 31), .inl ((d 31), 30, .inl f_sum)), ((a 32), .inl ((d 32), 30, .inl f_stones)), ((a 22), .inl ((d 22), 250, .inl f_sumGiver)), ((a 24), .inl ((d 24), 250, .inl f_sumPence)), ((a 9), .inl ((d 9), 30, .inl f_isNameless)), ((a 0), .inl ((d 0), 9, .inl f_rule))] sz) := by
  refine ofC_i (cc := cX12_carve) (maxL := 5) (ret := (some .int)) (by decide) rfl (Nat.le_of_ble_eq_true rfl) ?_
  intro p e s m args below meth c A ls Q F hr hin hlk St hl hQ
  have hx := F.1
  have hb := F.2.1
  have hl : lv_has ls 5 [(0, .ref h)] := hl
  have St : cS G k [(h, .inr (12, [.ref (a 0), .ref (a 1), .ref (a 2), .ref (a 3), .int v_taped, .int v_size, .int v_from, .int v_behind, .int v_hand, .int v_value, .int v_fault, .int v_faultAt, .ref (a 4), .int v_clock, .int v_coin, .int v_loan, .int v_matched, .int v_taxed, .int v_paidStages, .int v_grown, .int v_pledges, .int v_sums, .int v_stages, .int v_isStopped, .ref (a 5), .ref (a 6), .ref (a 7), .ref (a 8), .ref (a 9), .ref (a 10), .ref (a 11), .ref (a 12), .ref (a 13), .ref (a 14), .ref (a 15), .ref (a 16), .ref (a 17), .ref (a 18), .ref (a 19), .ref (a 20), .ref (a 21), .ref (a 22), .ref (a 23), .ref (a 24), .ref (a 25), .ref (a 26), .ref (a 27), .ref (a 28), .ref (a 29), .ref (a 30), .int v_begun, .ref (a 31), .ref (a 32)])), ((a 31), .inl ((d 31), 30, .inl f_sum)), ((a 32), .inl ((d 32), 30, .inl f_stones)), ((a 22), .inl ((d 22), 250, .inl f_sumGiver)), ((a 24), .inl ((d 24), 250, .inl f_sumPence)), ((a 9), .inl ((d 9), 30, .inl f_isNameless)), ((a 0), .inl ((d 0), 9, .inl f_rule))] [((d 31), .int), ((d 32), .int), ((d 22), .int), ((d 24), .int), ((d 9), .boolean), ((d 0), .int)] A s s.heap [] := St
  have hsd := hSp.1
  have y0 : (0 : Int32).toInt = 0 := by decide
  refine lv_iconst (v := 0) hx hb dX12_carve_0 (by decide) ?_
  refine lv_istore_n (lv' := [(1, .int 0), (0, .ref h)]) hx hb dX12_carve_1 rfl hl (by decide) rfl (fun ls hl => ?_)
  have lp2 : ∀ (n : Nat) (i : Int32) (fs : Nat → Int32) (H : Heap) (locs : List Loc) (ls : Array Slot), ((0 ≤ i.toInt ∧ i.toInt ≤ 30) ∧ ∀ g : Nat, (g : Int) < i.toInt → fs g = 0) → ((30 - i.toInt).toNat) < n → cS G k [(h, .inr (12, [.ref (a 0), .ref (a 1), .ref (a 2), .ref (a 3), .int v_taped, .int v_size, .int v_from, .int v_behind, .int v_hand, .int v_value, .int v_fault, .int v_faultAt, .ref (a 4), .int v_clock, .int v_coin, .int v_loan, .int v_matched, .int v_taxed, .int v_paidStages, .int v_grown, .int v_pledges, .int v_sums, .int v_stages, .int v_isStopped, .ref (a 5), .ref (a 6), .ref (a 7), .ref (a 8), .ref (a 9), .ref (a 10), .ref (a 11), .ref (a 12), .ref (a 13), .ref (a 14), .ref (a 15), .ref (a 16), .ref (a 17), .ref (a 18), .ref (a 19), .ref (a 20), .ref (a 21), .ref (a 22), .ref (a 23), .ref (a 24), .ref (a 25), .ref (a 26), .ref (a 27), .ref (a 28), .ref (a 29), .ref (a 30), .int v_begun, .ref (a 31), .ref (a 32)])), ((a 31), .inl ((d 31), 30, .inl fs)), ((a 32), .inl ((d 32), 30, .inl f_stones)), ((a 22), .inl ((d 22), 250, .inl f_sumGiver)), ((a 24), .inl ((d 24), 250, .inl f_sumPence)), ((a 9), .inl ((d 9), 30, .inl f_isNameless)), ((a 0), .inl ((d 0), 9, .inl f_rule))] [((d 31), .int), ((d 32), .int), ((d 22), .int), ((d 24), .int), ((d 9), .boolean), ((d 0), .int)] A s H locs → lv_has ls 5 [(1, .int i), (0, .ref h)] → W p l e ({ frames := 0, cells := 0, slots := 0, locals := 0 } : Room) s m args below meth c H locs 0 0 Q (F0 m 2 ls []) := by
    intro n
    induction n with
    | zero => intro i fs H locs ls hI hn; exact absurd hn (Nat.not_lt_zero _)
    | succ n ih =>
      intro i fs H locs ls hI hn St hl
      obtain ⟨hI0, hI1⟩ := hI
      refine lv_iload_n hx hb dX12_carve_2 rfl (lv_at hl 0 rfl) ?_
      refine lv_bipush (v := 30) hx hb dX12_carve_3 (by decide) ?_
      refine lv_icmp_ge (tgt := 21) hx hb dX12_carve_5 (by decide) (fun c5 => ?_) (fun c5 => ?_)
      ·
        have i5 := ci_le (x := 30) (y := i) (show (30 : Int32).toInt = 30 by decide) rfl c5
        refine lv_iconst (v := 0) hx hb dX12_carve_21 (by decide) ?_
        refine lv_istore_n (lv' := [(1, .int 0), (0, .ref h)]) hx hb dX12_carve_22 rfl hl (by decide) rfl (fun ls hl => ?_)
        refine lv_iconst (v := 0) hx hb dX12_carve_23 (by decide) ?_
        refine lv_istore_n (lv' := [(2, .int 0), (1, .int 0), (0, .ref h)]) hx hb dX12_carve_24 rfl hl (by decide) rfl (fun ls hl => ?_)
        have lp25 : ∀ (n : Nat) (nn : Int32) (kk : Int32) (fs2 : Nat → Int32) (ft2 : Nat → Int32) (H : Heap) (locs : List Loc) (ls : Array Slot), ((0 ≤ kk.toInt ∧ kk.toInt ≤ v_sums.toInt) ∧ cvI fs2 (100 * f_rule (7 : Int32).toNatClampNeg).toInt nn kk) → ((250 - kk.toInt).toNat) < n → cS G k [(h, .inr (12, [.ref (a 0), .ref (a 1), .ref (a 2), .ref (a 3), .int v_taped, .int v_size, .int v_from, .int v_behind, .int v_hand, .int v_value, .int v_fault, .int v_faultAt, .ref (a 4), .int v_clock, .int v_coin, .int v_loan, .int v_matched, .int v_taxed, .int v_paidStages, .int v_grown, .int v_pledges, .int v_sums, .int v_stages, .int v_isStopped, .ref (a 5), .ref (a 6), .ref (a 7), .ref (a 8), .ref (a 9), .ref (a 10), .ref (a 11), .ref (a 12), .ref (a 13), .ref (a 14), .ref (a 15), .ref (a 16), .ref (a 17), .ref (a 18), .ref (a 19), .ref (a 20), .ref (a 21), .ref (a 22), .ref (a 23), .ref (a 24), .ref (a 25), .ref (a 26), .ref (a 27), .ref (a 28), .ref (a 29), .ref (a 30), .int v_begun, .ref (a 31), .ref (a 32)])), ((a 31), .inl ((d 31), 30, .inl fs2)), ((a 32), .inl ((d 32), 30, .inl ft2)), ((a 22), .inl ((d 22), 250, .inl f_sumGiver)), ((a 24), .inl ((d 24), 250, .inl f_sumPence)), ((a 9), .inl ((d 9), 30, .inl f_isNameless)), ((a 0), .inl ((d 0), 9, .inl f_rule))] [((d 31), .int), ((d 32), .int), ((d 22), .int), ((d 24), .int), ((d 9), .boolean), ((d 0), .int)] A s H locs → lv_has ls 5 [(2, .int kk), (1, .int nn), (0, .ref h)] → W p l e ({ frames := 0, cells := 0, slots := 0, locals := 0 } : Room) s m args below meth c H locs 0 0 Q (F0 m 25 ls []) := by
          intro n
          induction n with
          | zero => intro nn kk fs2 ft2 H locs ls hI hn; exact absurd hn (Nat.not_lt_zero _)
          | succ n ih25 =>
            intro nn kk fs2 ft2 H locs ls hI hn St hl
            obtain ⟨⟨hJ0, hJ1⟩, hI2⟩ := hI
            refine lv_iload_n hx hb dX12_carve_25 rfl (lv_at hl 0 rfl) ?_
            refine lv_aload_n hx hb dX12_carve_26 rfl (lv_at hl 2 rfl) ?_
            refine cs_get F St 0 rfl rfl inX12 21 (by decide) kf_X12_246 rfl dX12_carve_27 ?_
            refine lv_icmp_ge (tgt := 133) hx hb dX12_carve_30 (by decide) (fun c30 => ?_) (fun c30 => ?_)
            ·
              have i30 := ci_le (x := v_sums) (y := kk) rfl rfl c30
              refine lv_iload_n hx hb dX12_carve_133 rfl (lv_at hl 1 rfl) ?_
              exact cs_iret F hr hlk hQ St (fs2, ft2) (r := nn) (cvI_n hI2) [0, 1, 2, 3, 4, 5, 6] rfl (by decide) [] rfl (by decide) (by decide) dX12_carve_134
            ·
              have i30 := ci_nle (x := v_sums) (y := kk) rfl rfl c30
              refine lv_aload_n hx hb dX12_carve_33 rfl (lv_at hl 2 rfl) ?_
              refine cs_get F St 0 rfl rfl inX12 41 (by decide) kf_X12_171 rfl dX12_carve_34 ?_
              refine lv_iload_n hx hb dX12_carve_37 rfl (lv_at hl 0 rfl) ?_
              refine cs_ild F St 3 2 rfl rfl (vp_in_iff.mpr ⟨by omega, by omega⟩) dX12_carve_38 ?_
              refine lv_topi (fun y_1 ey_1 => ?_)
              have hdy_1 := mGi_g hSg (by omega) (by omega) ey_1
              refine lv_istore_n (lv' := [(3, .int y_1), (2, .int kk), (1, .int nn), (0, .ref h)]) hx hb dX12_carve_39 rfl hl (by decide) rfl (fun ls hl => ?_)
              refine lv_aload_n hx hb dX12_carve_40 rfl (lv_at hl 3 rfl) ?_
              refine cs_get F St 0 rfl rfl inX12 51 (by decide) kf_X12_197 rfl dX12_carve_41 ?_
              refine lv_iload_n hx hb dX12_carve_44 rfl (lv_at hl 0 rfl) ?_
              refine cs_ild F St 1 0 rfl rfl (vp_in_iff.mpr ⟨by omega, by omega⟩) dX12_carve_45 ?_
              refine lv_topi (fun y_2 ey_2 => ?_)
              have hq46 := cvI_at hI2 hdy_1 ey_2
              refine lv_bipush (v := 100) hx hb dX12_carve_46 (by decide) ?_
              refine lv_aload_n hx hb dX12_carve_48 rfl (lv_at hl 3 rfl) ?_
              refine cs_get F St 0 rfl rfl inX12 0 (by decide) kf_X12_114 rfl dX12_carve_49 ?_
              refine lv_bipush (v := 7) hx hb dX12_carve_52 (by decide) ?_
              refine cs_ild F St 6 5 rfl rfl (vp_in_iff.mpr (by decide)) dX12_carve_54 ?_
              refine lv_topi (fun y_3 ey_3 => ?_)
              refine lv_imul hx hb dX12_carve_55 ?_
              refine lv_topi (fun y_4 ey_4 => ?_)
              first | have jy_4 : y_4.toInt = 100 * y_3.toInt := (by have q9 := ci_mul (x := 100) (y := y_3) (show (100 : Int32).toInt = 100 by decide) rfl ey_4; omega) | have jy_4 := ci_mul (x := 100) (y := y_3) (show (100 : Int32).toInt = 100 by decide) rfl ey_4
              have hty_4 : y_4.toInt = (100 * f_rule (7 : Int32).toNatClampNeg).toInt := by rw [ey_4, ey_3]
              refine lv_icmp_lt (tgt := 63) hx hb dX12_carve_56 (by decide) (fun c56 => ?_) (fun c56 => ?_)
              ·
                have i56 := ci_lt (x := y_2) (y := y_4) rfl rfl c56
                refine lv_iconst (v := 0) hx hb dX12_carve_63 (by decide) ?_
                refine lv_istore (lv' := [(4, .int 0), (3, .int y_1), (2, .int kk), (1, .int nn), (0, .ref h)]) hx hb dX12_carve_64 hl (by decide) rfl (fun ls hl => ?_)
                refine lv_aload_n hx hb dX12_carve_66 rfl (lv_at hl 4 rfl) ?_
                refine cs_get F St 0 rfl rfl inX12 51 (by decide) kf_X12_197 rfl dX12_carve_67 ?_
                refine lv_iload_n hx hb dX12_carve_70 rfl (lv_at hl 1 rfl) ?_
                refine lv_dup2_11 hx hb dX12_carve_71 rfl rfl ?_
                refine cs_ild F St 1 0 rfl rfl (vp_in_iff.mpr ⟨by omega, by omega⟩) dX12_carve_72 ?_
                refine lv_topi (fun y_5 ey_5 => ?_)
                have hq73 : y_5.toInt = y_2.toInt := congrArg _ (ey_5.trans ey_2.symm)
                refine lv_aload_n hx hb dX12_carve_73 rfl (lv_at hl 4 rfl) ?_
                refine cs_get F St 0 rfl rfl inX12 43 (by decide) kf_X12_177 rfl dX12_carve_74 ?_
                refine lv_iload_n hx hb dX12_carve_77 rfl (lv_at hl 2 rfl) ?_
                refine cs_ild F St 4 3 rfl rfl (vp_in_iff.mpr ⟨by omega, by omega⟩) dX12_carve_78 ?_
                refine lv_topi (fun y_6 ey_6 => ?_)
                have hdy_6 := mSp_p hSp (by omega) (by omega) ey_6
                refine lv_iadd hx hb dX12_carve_79 ?_
                refine lv_topi (fun y_7 ey_7 => ?_)
                first | have jy_7 : y_7.toInt = y_5.toInt + y_6.toInt := (by have q9 := ci_add (x := y_5) (y := y_6) rfl rfl ey_7; omega) | have jy_7 := ci_add (x := y_5) (y := y_6) rfl rfl ey_7
                skip
                refine cs_ist F St 1 0 rfl rfl (vp_in_iff.mpr ⟨by omega, by omega⟩) (w' := [(h, .inr (12, [.ref (a 0), .ref (a 1), .ref (a 2), .ref (a 3), .int v_taped, .int v_size, .int v_from, .int v_behind, .int v_hand, .int v_value, .int v_fault, .int v_faultAt, .ref (a 4), .int v_clock, .int v_coin, .int v_loan, .int v_matched, .int v_taxed, .int v_paidStages, .int v_grown, .int v_pledges, .int v_sums, .int v_stages, .int v_isStopped, .ref (a 5), .ref (a 6), .ref (a 7), .ref (a 8), .ref (a 9), .ref (a 10), .ref (a 11), .ref (a 12), .ref (a 13), .ref (a 14), .ref (a 15), .ref (a 16), .ref (a 17), .ref (a 18), .ref (a 19), .ref (a 20), .ref (a 21), .ref (a 22), .ref (a 23), .ref (a 24), .ref (a 25), .ref (a 26), .ref (a 27), .ref (a 28), .ref (a 29), .ref (a 30), .int v_begun, .ref (a 31), .ref (a 32)])), ((a 31), .inl ((d 31), 30, .inl (upd fs2 (y_1 : Int32).toNatClampNeg y_7))), ((a 32), .inl ((d 32), 30, .inl ft2)), ((a 22), .inl ((d 22), 250, .inl f_sumGiver)), ((a 24), .inl ((d 24), 250, .inl f_sumPence)), ((a 9), .inl ((d 9), 30, .inl f_isNameless)), ((a 0), .inl ((d 0), 9, .inl f_rule))]) rfl dX12_carve_80 (fun H locs St => ?_)
                obtain ⟨f_8, ef_8⟩ : ∃ zz : Nat → Int32, zz = upd fs2 (y_1 : Int32).toNatClampNeg y_7 := ⟨_, rfl⟩
                rw [← ef_8] at St
                refine lv_iload hx hb dX12_carve_81 (lv_at hl 0 rfl) ?_
                refine lv_if_ne (tgt := 127) hx hb dX12_carve_83 (by decide) (fun c83 => ?_) (fun c83 => ?_)
                · exact absurd c83 (by decide)
                refine lv_aload_n hx hb dX12_carve_86 rfl (lv_at hl 4 rfl) ?_
                refine cs_get F St 0 rfl rfl inX12 51 (by decide) kf_X12_197 rfl dX12_carve_87 ?_
                refine lv_iload_n hx hb dX12_carve_90 rfl (lv_at hl 1 rfl) ?_
                refine cs_ild F St 1 0 rfl rfl (vp_in_iff.mpr ⟨by omega, by omega⟩) dX12_carve_91 ?_
                refine lv_topi (fun y_9 ey_9 => ?_)
                have hq92 : y_9.toInt = y_7.toInt := by rw [ey_9, ef_8, pk_us]
                refine lv_bipush (v := 100) hx hb dX12_carve_92 (by decide) ?_
                refine lv_aload_n hx hb dX12_carve_94 rfl (lv_at hl 4 rfl) ?_
                refine cs_get F St 0 rfl rfl inX12 0 (by decide) kf_X12_114 rfl dX12_carve_95 ?_
                refine lv_bipush (v := 7) hx hb dX12_carve_98 (by decide) ?_
                refine cs_ild F St 6 5 rfl rfl (vp_in_iff.mpr (by decide)) dX12_carve_100 ?_
                refine lv_topi (fun y_10 ey_10 => ?_)
                refine lv_imul hx hb dX12_carve_101 ?_
                refine lv_topi (fun y_11 ey_11 => ?_)
                first | have jy_11 : y_11.toInt = 100 * y_10.toInt := (by have q9 := ci_mul (x := 100) (y := y_10) (show (100 : Int32).toInt = 100 by decide) rfl ey_11; omega) | have jy_11 := ci_mul (x := 100) (y := y_10) (show (100 : Int32).toInt = 100 by decide) rfl ey_11
                have hty_11 : y_11.toInt = (100 * f_rule (7 : Int32).toNatClampNeg).toInt := by rw [ey_11, ey_10]
                refine lv_icmp_lt (tgt := 127) hx hb dX12_carve_102 (by decide) (fun c102 => ?_) (fun c102 => ?_)
                ·
                  have i102 := ci_lt (x := y_9) (y := y_11) rfl rfl c102
                  obtain ⟨y_12, ey_12⟩ : ∃ zz : Int32, zz = kk + 1 := ⟨_, rfl⟩
                  first | have jy_12 : y_12.toInt = kk.toInt + 1 := (by have q9 := ci_add (x := kk) rfl (show (1 : Int32).toInt = 1 by decide) ey_12; omega) | have jy_12 := ci_add (x := kk) rfl (show (1 : Int32).toInt = 1 by decide) ey_12
                  refine lv_iinc (v := y_12) (lv' := [(2, .int y_12), (4, .int 0), (3, .int y_1), (1, .int nn), (0, .ref h)]) hx hb dX12_carve_127 hl (k := 2) rfl (by rw [ey_12]; rfl) (by decide) rfl (fun ls hl => ?_)
                  refine lv_goto (tgt := 25) hx hb dX12_carve_130 (by decide) ?_
                  exact ih25 nn y_12 f_8 ft2 _ _ _ ⟨⟨by omega, by omega⟩, by rw [ef_8]; exact cvI_keep hI2 ey_2 (by omega) (by omega) (by omega)⟩ (by omega) St (lv_sub hl [0, 3, 4] rfl)
                ·
                  have i102 := ci_nlt (x := y_9) (y := y_11) rfl rfl c102
                  refine lv_aload_n hx hb dX12_carve_105 rfl (lv_at hl 4 rfl) ?_
                  refine cs_get F St 0 rfl rfl inX12 28 (by decide) kf_X12_132 rfl dX12_carve_106 ?_
                  refine lv_iload_n hx hb dX12_carve_109 rfl (lv_at hl 1 rfl) ?_
                  refine cs_zld F St 5 4 rfl rfl (vp_in_iff.mpr ⟨by omega, by omega⟩) dX12_carve_110 ?_
                  refine lv_topi (fun y_13 ey_13 => ?_)
                  refine lv_if_eq (tgt := 117) hx hb dX12_carve_111 (by decide) (fun c111 => ?_) (fun c111 => ?_)
                  ·
                    have i111 := ci_eq (x := y_13) (y := 0) rfl (show (0 : Int32).toInt = 0 by decide) c111
                    have hq117 := cvI_lt hI2 hdy_1 ey_2 (by omega)
                    have hq118 := cvI_n hI2
                    refine lv_aload_n hx hb dX12_carve_117 rfl (lv_at hl 4 rfl) ?_
                    refine cs_get F St 0 rfl rfl inX12 52 (by decide) kf_X12_200 rfl dX12_carve_118 ?_
                    refine lv_iload_n hx hb dX12_carve_121 rfl (lv_at hl 3 rfl) ?_
                    refine lv_iload_n hx hb dX12_carve_122 rfl (lv_at hl 1 rfl) ?_
                    refine cs_ist F St 2 1 rfl rfl (vp_in_iff.mpr ⟨by omega, by omega⟩) (w' := [(h, .inr (12, [.ref (a 0), .ref (a 1), .ref (a 2), .ref (a 3), .int v_taped, .int v_size, .int v_from, .int v_behind, .int v_hand, .int v_value, .int v_fault, .int v_faultAt, .ref (a 4), .int v_clock, .int v_coin, .int v_loan, .int v_matched, .int v_taxed, .int v_paidStages, .int v_grown, .int v_pledges, .int v_sums, .int v_stages, .int v_isStopped, .ref (a 5), .ref (a 6), .ref (a 7), .ref (a 8), .ref (a 9), .ref (a 10), .ref (a 11), .ref (a 12), .ref (a 13), .ref (a 14), .ref (a 15), .ref (a 16), .ref (a 17), .ref (a 18), .ref (a 19), .ref (a 20), .ref (a 21), .ref (a 22), .ref (a 23), .ref (a 24), .ref (a 25), .ref (a 26), .ref (a 27), .ref (a 28), .ref (a 29), .ref (a 30), .int v_begun, .ref (a 31), .ref (a 32)])), ((a 31), .inl ((d 31), 30, .inl f_8)), ((a 32), .inl ((d 32), 30, .inl (upd ft2 (nn : Int32).toNatClampNeg y_1))), ((a 22), .inl ((d 22), 250, .inl f_sumGiver)), ((a 24), .inl ((d 24), 250, .inl f_sumPence)), ((a 9), .inl ((d 9), 30, .inl f_isNameless)), ((a 0), .inl ((d 0), 9, .inl f_rule))]) rfl dX12_carve_123 (fun H locs St => ?_)
                    obtain ⟨f_14, ef_14⟩ : ∃ zz : Nat → Int32, zz = upd ft2 (nn : Int32).toNatClampNeg y_1 := ⟨_, rfl⟩
                    rw [← ef_14] at St
                    obtain ⟨y_15, ey_15⟩ : ∃ zz : Int32, zz = nn + 1 := ⟨_, rfl⟩
                    first | have jy_15 : y_15.toInt = nn.toInt + 1 := (by have q9 := ci_add (x := nn) rfl (show (1 : Int32).toInt = 1 by decide) ey_15; omega) | have jy_15 := ci_add (x := nn) rfl (show (1 : Int32).toInt = 1 by decide) ey_15
                    refine lv_iinc (v := y_15) (lv' := [(1, .int y_15), (4, .int 0), (3, .int y_1), (2, .int kk), (0, .ref h)]) hx hb dX12_carve_124 hl (k := 3) rfl (by rw [ey_15]; rfl) (by decide) rfl (fun ls hl => ?_)
                    obtain ⟨y_16, ey_16⟩ : ∃ zz : Int32, zz = kk + 1 := ⟨_, rfl⟩
                    first | have jy_16 : y_16.toInt = kk.toInt + 1 := (by have q9 := ci_add (x := kk) rfl (show (1 : Int32).toInt = 1 by decide) ey_16; omega) | have jy_16 := ci_add (x := kk) rfl (show (1 : Int32).toInt = 1 by decide) ey_16
                    refine lv_iinc (v := y_16) (lv' := [(2, .int y_16), (1, .int y_15), (4, .int 0), (3, .int y_1), (0, .ref h)]) hx hb dX12_carve_127 hl (k := 3) rfl (by rw [ey_16]; rfl) (by decide) rfl (fun ls hl => ?_)
                    refine lv_goto (tgt := 25) hx hb dX12_carve_130 (by decide) ?_
                    exact ih25 y_15 y_16 f_8 f_14 _ _ _ ⟨⟨by omega, by omega⟩, by rw [ef_8]; exact cvI_more hI2 hdy_1 ey_2 (by omega) (by omega) (by omega) (by omega) (by omega)⟩ (by omega) St (lv_sub hl [0, 1, 4] rfl)
                  ·
                    have i111 := ci_ne (x := y_13) (y := 0) rfl (show (0 : Int32).toInt = 0 by decide) c111
                    refine lv_goto (tgt := 127) hx hb dX12_carve_114 (by decide) ?_
                    obtain ⟨y_17, ey_17⟩ : ∃ zz : Int32, zz = kk + 1 := ⟨_, rfl⟩
                    first | have jy_17 : y_17.toInt = kk.toInt + 1 := (by have q9 := ci_add (x := kk) rfl (show (1 : Int32).toInt = 1 by decide) ey_17; omega) | have jy_17 := ci_add (x := kk) rfl (show (1 : Int32).toInt = 1 by decide) ey_17
                    refine lv_iinc (v := y_17) (lv' := [(2, .int y_17), (4, .int 0), (3, .int y_1), (1, .int nn), (0, .ref h)]) hx hb dX12_carve_127 hl (k := 2) rfl (by rw [ey_17]; rfl) (by decide) rfl (fun ls hl => ?_)
                    refine lv_goto (tgt := 25) hx hb dX12_carve_130 (by decide) ?_
                    exact ih25 nn y_17 f_8 ft2 _ _ _ ⟨⟨by omega, by omega⟩, by rw [ef_8]; exact cvI_keep hI2 ey_2 (by omega) (by omega) (by omega)⟩ (by omega) St (lv_sub hl [0, 3, 4] rfl)
              ·
                have i56 := ci_nlt (x := y_2) (y := y_4) rfl rfl c56
                refine lv_iconst (v := 1) hx hb dX12_carve_59 (by decide) ?_
                refine lv_goto (tgt := 64) hx hb dX12_carve_60 (by decide) ?_
                refine lv_istore (lv' := [(4, .int 1), (3, .int y_1), (2, .int kk), (1, .int nn), (0, .ref h)]) hx hb dX12_carve_64 hl (by decide) rfl (fun ls hl => ?_)
                refine lv_aload_n hx hb dX12_carve_66 rfl (lv_at hl 4 rfl) ?_
                refine cs_get F St 0 rfl rfl inX12 51 (by decide) kf_X12_197 rfl dX12_carve_67 ?_
                refine lv_iload_n hx hb dX12_carve_70 rfl (lv_at hl 1 rfl) ?_
                refine lv_dup2_11 hx hb dX12_carve_71 rfl rfl ?_
                refine cs_ild F St 1 0 rfl rfl (vp_in_iff.mpr ⟨by omega, by omega⟩) dX12_carve_72 ?_
                refine lv_topi (fun y_18 ey_18 => ?_)
                have hq73 : y_18.toInt = y_2.toInt := congrArg _ (ey_18.trans ey_2.symm)
                refine lv_aload_n hx hb dX12_carve_73 rfl (lv_at hl 4 rfl) ?_
                refine cs_get F St 0 rfl rfl inX12 43 (by decide) kf_X12_177 rfl dX12_carve_74 ?_
                refine lv_iload_n hx hb dX12_carve_77 rfl (lv_at hl 2 rfl) ?_
                refine cs_ild F St 4 3 rfl rfl (vp_in_iff.mpr ⟨by omega, by omega⟩) dX12_carve_78 ?_
                refine lv_topi (fun y_19 ey_19 => ?_)
                have hdy_19 := mSp_p hSp (by omega) (by omega) ey_19
                refine lv_iadd hx hb dX12_carve_79 ?_
                refine lv_topi (fun y_20 ey_20 => ?_)
                first | have jy_20 : y_20.toInt = y_18.toInt + y_19.toInt := (by have q9 := ci_add (x := y_18) (y := y_19) rfl rfl ey_20; omega) | have jy_20 := ci_add (x := y_18) (y := y_19) rfl rfl ey_20
                skip
                refine cs_ist F St 1 0 rfl rfl (vp_in_iff.mpr ⟨by omega, by omega⟩) (w' := [(h, .inr (12, [.ref (a 0), .ref (a 1), .ref (a 2), .ref (a 3), .int v_taped, .int v_size, .int v_from, .int v_behind, .int v_hand, .int v_value, .int v_fault, .int v_faultAt, .ref (a 4), .int v_clock, .int v_coin, .int v_loan, .int v_matched, .int v_taxed, .int v_paidStages, .int v_grown, .int v_pledges, .int v_sums, .int v_stages, .int v_isStopped, .ref (a 5), .ref (a 6), .ref (a 7), .ref (a 8), .ref (a 9), .ref (a 10), .ref (a 11), .ref (a 12), .ref (a 13), .ref (a 14), .ref (a 15), .ref (a 16), .ref (a 17), .ref (a 18), .ref (a 19), .ref (a 20), .ref (a 21), .ref (a 22), .ref (a 23), .ref (a 24), .ref (a 25), .ref (a 26), .ref (a 27), .ref (a 28), .ref (a 29), .ref (a 30), .int v_begun, .ref (a 31), .ref (a 32)])), ((a 31), .inl ((d 31), 30, .inl (upd fs2 (y_1 : Int32).toNatClampNeg y_20))), ((a 32), .inl ((d 32), 30, .inl ft2)), ((a 22), .inl ((d 22), 250, .inl f_sumGiver)), ((a 24), .inl ((d 24), 250, .inl f_sumPence)), ((a 9), .inl ((d 9), 30, .inl f_isNameless)), ((a 0), .inl ((d 0), 9, .inl f_rule))]) rfl dX12_carve_80 (fun H locs St => ?_)
                obtain ⟨f_21, ef_21⟩ : ∃ zz : Nat → Int32, zz = upd fs2 (y_1 : Int32).toNatClampNeg y_20 := ⟨_, rfl⟩
                rw [← ef_21] at St
                refine lv_iload hx hb dX12_carve_81 (lv_at hl 0 rfl) ?_
                refine lv_if_ne (tgt := 127) hx hb dX12_carve_83 (by decide) (fun c83 => ?_) (fun c83 => ?_)
                rotate_left
                · exact absurd c83 (by decide)
                obtain ⟨y_22, ey_22⟩ : ∃ zz : Int32, zz = kk + 1 := ⟨_, rfl⟩
                first | have jy_22 : y_22.toInt = kk.toInt + 1 := (by have q9 := ci_add (x := kk) rfl (show (1 : Int32).toInt = 1 by decide) ey_22; omega) | have jy_22 := ci_add (x := kk) rfl (show (1 : Int32).toInt = 1 by decide) ey_22
                refine lv_iinc (v := y_22) (lv' := [(2, .int y_22), (4, .int 1), (3, .int y_1), (1, .int nn), (0, .ref h)]) hx hb dX12_carve_127 hl (k := 2) rfl (by rw [ey_22]; rfl) (by decide) rfl (fun ls hl => ?_)
                refine lv_goto (tgt := 25) hx hb dX12_carve_130 (by decide) ?_
                exact ih25 nn y_22 f_21 ft2 _ _ _ ⟨⟨by omega, by omega⟩, by rw [ef_21]; exact cvI_keep hI2 ey_2 (by omega) (by omega) (by omega)⟩ (by omega) St (lv_sub hl [0, 3, 4] rfl)
        exact lp25 251 0 0 fs f_stones _ _ _ ⟨⟨by omega, by omega⟩, cvI_0 (fun g q => hI1 g (by omega))⟩ (by omega) St (lv_sub hl [0, 1, 2] rfl)
      ·
        have i5 := ci_nle (x := 30) (y := i) (show (30 : Int32).toInt = 30 by decide) rfl c5
        refine lv_aload_n hx hb dX12_carve_8 rfl (lv_at hl 1 rfl) ?_
        refine cs_get F St 0 rfl rfl inX12 51 (by decide) kf_X12_197 rfl dX12_carve_9 ?_
        refine lv_iload_n hx hb dX12_carve_12 rfl (lv_at hl 0 rfl) ?_
        refine lv_iconst (v := 0) hx hb dX12_carve_13 (by decide) ?_
        refine cs_ist F St 1 0 rfl rfl (vp_in_iff.mpr ⟨by omega, by omega⟩) (w' := [(h, .inr (12, [.ref (a 0), .ref (a 1), .ref (a 2), .ref (a 3), .int v_taped, .int v_size, .int v_from, .int v_behind, .int v_hand, .int v_value, .int v_fault, .int v_faultAt, .ref (a 4), .int v_clock, .int v_coin, .int v_loan, .int v_matched, .int v_taxed, .int v_paidStages, .int v_grown, .int v_pledges, .int v_sums, .int v_stages, .int v_isStopped, .ref (a 5), .ref (a 6), .ref (a 7), .ref (a 8), .ref (a 9), .ref (a 10), .ref (a 11), .ref (a 12), .ref (a 13), .ref (a 14), .ref (a 15), .ref (a 16), .ref (a 17), .ref (a 18), .ref (a 19), .ref (a 20), .ref (a 21), .ref (a 22), .ref (a 23), .ref (a 24), .ref (a 25), .ref (a 26), .ref (a 27), .ref (a 28), .ref (a 29), .ref (a 30), .int v_begun, .ref (a 31), .ref (a 32)])), ((a 31), .inl ((d 31), 30, .inl (upd fs (i : Int32).toNatClampNeg 0))), ((a 32), .inl ((d 32), 30, .inl f_stones)), ((a 22), .inl ((d 22), 250, .inl f_sumGiver)), ((a 24), .inl ((d 24), 250, .inl f_sumPence)), ((a 9), .inl ((d 9), 30, .inl f_isNameless)), ((a 0), .inl ((d 0), 9, .inl f_rule))]) rfl dX12_carve_14 (fun H locs St => ?_)
        obtain ⟨f_23, ef_23⟩ : ∃ zz : Nat → Int32, zz = upd fs (i : Int32).toNatClampNeg 0 := ⟨_, rfl⟩
        rw [← ef_23] at St
        obtain ⟨y_24, ey_24⟩ : ∃ zz : Int32, zz = i + 1 := ⟨_, rfl⟩
        first | have jy_24 : y_24.toInt = i.toInt + 1 := (by have q9 := ci_add (x := i) rfl (show (1 : Int32).toInt = 1 by decide) ey_24; omega) | have jy_24 := ci_add (x := i) rfl (show (1 : Int32).toInt = 1 by decide) ey_24
        refine lv_iinc (v := y_24) (lv' := [(1, .int y_24), (0, .ref h)]) hx hb dX12_carve_15 hl (k := 0) rfl (by rw [ey_24]; rfl) (by decide) rfl (fun ls hl => ?_)
        refine lv_goto (tgt := 2) hx hb dX12_carve_18 (by decide) ?_
        exact ih y_24 f_23 _ _ _ ⟨⟨by omega, by omega⟩, by rw [ef_23]; exact row_up (P := fun z => z = 0) hI0.1 hI1 (by omega) rfl⟩ (by omega) St (lv_sub hl [0, 1] rfl)
  exact lp2 31 0 f_sum _ _ _ ⟨⟨by decide, by decide⟩, fun g q => absurd q (by omega)⟩ (by decide) St (lv_sub hl [0, 1] rfl)
set_option maxHeartbeats 4000000 in
set_option maxRecDepth 100000 in
theorem m_stone (l : Launch) (G : va_G) (k : Nat → Nat) (sz : Nat) (h : Nat) (a : Nat → Nat) (d : Nat → ClassId) (v_taped : Int32) (v_size : Int32) (v_from : Int32) (v_behind : Int32) (v_hand : Int32) (v_value : Int32) (v_fault : Int32) (v_faultAt : Int32) (v_clock : Int32) (v_coin : Int32) (v_loan : Int32) (v_matched : Int32) (v_taxed : Int32) (v_paidStages : Int32) (v_grown : Int32) (v_pledges : Int32) (v_sums : Int32) (v_stages : Int32) (v_isStopped : Int32) (v_begun : Int32) (f_sum : Nat → Int32) (f_stones : Nat → Int32) (f_sumGiver : Nat → Int32) (f_sumPence : Nat → Int32) (f_isNameless : Nat → Int32) (f_rule : Nat → Int32) (x1 : Int32) (hSg : mGi v_sums f_sumGiver) (hSp : mSp v_sums f_sumPence) : Met l yX12_stone (Cond.code yX12_stone cX12_stone 2 (some .int) :: tb) ({ frames := 1, cells := 0, slots := 0, locals := 25 } : Room) (va_Pc [.ref h, .int x1] (cP G k [(h, .inr (12, [.ref (a 0), .ref (a 1), .ref (a 2), .ref (a 3), .int v_taped, .int v_size, .int v_from, .int v_behind, .int v_hand, .int v_value, .int v_fault, .int v_faultAt, .ref (a 4), .int v_clock, .int v_coin, .int v_loan, .int v_matched, .int v_taxed, .int v_paidStages, .int v_grown, .int v_pledges, .int v_sums, .int v_stages, .int v_isStopped, .ref (a 5), .ref (a 6), .ref (a 7), .ref (a 8), .ref (a 9), .ref (a 10), .ref (a 11), .ref (a 12), .ref (a 13), .ref (a 14), .ref (a 15), .ref (a 16), .ref (a 17), .ref (a 18), .ref (a 19), .ref (a 20), .ref (a 21), .ref (a 22), .ref (a 23), .ref (a 24), .ref (a 25), .ref (a 26), .ref (a 27), .ref (a 28), .ref (a 29), .ref (a 30), .int v_begun, .ref (a 31), .ref (a 32)])), ((a 31), .inl ((d 31), 30, .inl f_sum)), ((a 32), .inl ((d 32), 30, .inl f_stones)), ((a 22), .inl ((d 22), 250, .inl f_sumGiver)), ((a 24), .inl ((d 24), 250, .inl f_sumPence)), ((a 9), .inl ((d 9), 30, .inl f_isNameless)), ((a 0), .inl ((d 0), 9, .inl f_rule))] [((d 31), .int), ((d 32), .int), ((d 22), .int), ((d 24), .int), ((d 9), .boolean), ((d 0), .int)] sz)) (va_Qi (fun (r : Int32) (u : (Nat → Int32) × (Nat → Int32)) => match u with | (g_sum, g_stones) => True) (cB G (fun u => match u with | (g_sum, g_stones) => [(h, .inr (12, [.ref (a 0), .ref (a 1), .ref (a 2), .ref (a 3), .int v_taped, .int v_size, .int v_from, .int v_behind, .int v_hand, .int v_value, .int v_fault, .int v_faultAt, .ref (a 4), .int v_clock, .int v_coin, .int v_loan, .int v_matched, .int v_taxed, .int v_paidStages, .int v_grown, .int v_pledges, .int v_sums, .int v_stages, .int v_isStopped, .ref (a 5), .ref (a 6), .ref (a 7), .ref (a 8), .ref (a 9), .ref (a 10), .ref (a 11), .ref (a 12), .ref (a 13), .ref (a 14), .ref (a 15), .ref (a 16), .ref (a 17), .ref (a 18), .ref (a 19), .ref (a 20), .ref (a 21), .ref (a 22), .ref (a 23), .ref (a 24), .ref (a 25), .ref (a 26), .ref (a 27), .ref (a 28), .ref (a 29), .ref (a 30), .int v_begun, .ref (a 31), .ref (a 32)])), ((a 31), .inl ((d 31), 30, .inl g_sum)), ((a 32), .inl ((d 32), 30, .inl g_stones)), ((a 22), .inl ((d 22), 250, .inl f_sumGiver)), ((a 24), .inl ((d 24), 250, .inl f_sumPence)), ((a 9), .inl ((d 9), 30, .inl f_isNameless)), ((a 0), .inl ((d 0), 9, .inl f_rule))]) (fun u => match u with | (g_sum, g_stones) => []) (va_A [(h, .inr (12, [.ref (a 0), .ref (a 1), .ref (a 2), .ref (a 3), .int v_taped, .int v_size, .int v_from, .int v_behind, .int v_hand, .int v_value, .int v_fault, .int v_faultAt, .ref (a 4), .int v_clock, .int v_coin, .int v_loan, .int v_matched, .int v_taxed, .int v_paidStages, .int v_grown, .int v_pledges, .int v_sums, .int v_stages, .int v_isStopped, .ref (a 5), .ref (a 6), .ref (a 7), .ref (a 8), .ref (a 9), .ref (a 10), .ref (a 11), .ref (a 12), .ref (a 13), .ref (a 14), .ref (a 15), .ref (a 16), .ref (a 17), .ref (a 18), .ref (a 19), .ref (a 20), .ref (a 21), .ref (a 22), .ref (a 23), .ref (a 24), .ref (a 25), .ref (a 26), .ref (a 27), .ref (a 28), .ref (a 29), .ref (a 30), .int v_begun, .ref (a 31), .ref (a 32)])), ((a 31), .inl ((d 31), 30, .inl f_sum)), ((a 32), .inl ((d 32), 30, .inl f_stones)), ((a 22), .inl ((d 22), 250, .inl f_sumGiver)), ((a 24), .inl ((d 24), 250, .inl f_sumPence)), ((a 9), .inl ((d 9), 30, .inl f_isNameless)), ((a 0), .inl ((d 0), 9, .inl f_rule))] sz)) (va_A [(h, .inr (12, [.ref (a 0), .ref (a 1), .ref (a 2), .ref (a 3), .int v_taped, .int v_size, .int v_from, .int v_behind, .int v_hand, .int v_value, .int v_fault, .int v_faultAt, .ref (a 4), .int v_clock, .int v_coin, .int v_loan, .int v_matched, .int v_taxed, .int v_paidStages, .int v_grown, .int v_pledges, .int v_sums, .int v_stages, .int v_isStopped, .ref (a 5), .ref (a 6), .ref (a 7), .ref (a 8), .ref (a 9), .ref (a 10), .ref (a 11), .ref (a 12), .ref (a 13), .ref (a 14), .ref (a 15), .ref (a 16), .ref (a 17), .ref (a 18), .ref (a 19), .ref (a 20), .ref (a 21), .ref (a 22), .ref (a 23), .ref (a 24), .ref (a 25), .ref (a 26), .ref (a 27), .ref (a 28), .ref (a 29), .ref (a 30), .int v_begun, .ref (a 31), .ref (a 32)])), ((a 31), .inl ((d 31), 30, .inl f_sum)), ((a 32), .inl ((d 32), 30, .inl f_stones)), ((a 22), .inl ((d 22), 250, .inl f_sumGiver)), ((a 24), .inl ((d 24), 250, .inl f_sumPence)), ((a 9), .inl ((d 9), 30, .inl f_isNameless)), ((a 0), .inl ((d 0), 9, .inl f_rule))] sz)) 0 0 (va_A [(h, .inr (12, [.ref (a 0), .ref (a 1), .ref (a 2), .ref (a 3), .int v_taped, .int v_size, .int v_from, .int v_behind, .int v_hand, .int v_value, .int v_fault, .int v_faultAt, .ref (a 4), .int v_clock, .int v_coin, .int v_loan, .int v_matched, .int v_taxed, .int v_paidStages, .int v_grown, .int v_pledges, .int v_sums, .int v_stages, .int v_isStopped, .ref (a 5), .ref (a 6), .ref (a 7), .ref (a 8), .ref (a 9), .ref (a 10), .ref (a 11), .ref (a 12), .ref (a 13), .ref (a 14), .ref (a 15), .ref (a 16), .ref (a 17), .ref (a 18), .ref (a 19), .ref (a 20), .ref (a 21), .ref (a 22), .ref (a 23), .ref (a 24), .ref (a 25), .ref (a 26), .ref (a 27), .ref (a 28), .ref (a 29), .ref (a 30), .int v_begun, .ref (a 31), .ref (a 32)])), ((a 31), .inl ((d 31), 30, .inl f_sum)), ((a 32), .inl ((d 32), 30, .inl f_stones)), ((a 22), .inl ((d 22), 250, .inl f_sumGiver)), ((a 24), .inl ((d 24), 250, .inl f_sumPence)), ((a 9), .inl ((d 9), 30, .inl f_isNameless)), ((a 0), .inl ((d 0), 9, .inl f_rule))] sz) := by
  refine ofC_i (cc := cX12_stone) (maxL := 2) (ret := (some .int)) (by decide) rfl (Nat.le_of_ble_eq_true rfl) ?_
  intro p e s m args below meth c A ls Q F hr hin hlk St hl hQ
  have hx := F.1
  have hb := F.2.1
  have hl : lv_has ls 2 [(0, .ref h), (1, .int x1)] := hl
  have St : cS G k [(h, .inr (12, [.ref (a 0), .ref (a 1), .ref (a 2), .ref (a 3), .int v_taped, .int v_size, .int v_from, .int v_behind, .int v_hand, .int v_value, .int v_fault, .int v_faultAt, .ref (a 4), .int v_clock, .int v_coin, .int v_loan, .int v_matched, .int v_taxed, .int v_paidStages, .int v_grown, .int v_pledges, .int v_sums, .int v_stages, .int v_isStopped, .ref (a 5), .ref (a 6), .ref (a 7), .ref (a 8), .ref (a 9), .ref (a 10), .ref (a 11), .ref (a 12), .ref (a 13), .ref (a 14), .ref (a 15), .ref (a 16), .ref (a 17), .ref (a 18), .ref (a 19), .ref (a 20), .ref (a 21), .ref (a 22), .ref (a 23), .ref (a 24), .ref (a 25), .ref (a 26), .ref (a 27), .ref (a 28), .ref (a 29), .ref (a 30), .int v_begun, .ref (a 31), .ref (a 32)])), ((a 31), .inl ((d 31), 30, .inl f_sum)), ((a 32), .inl ((d 32), 30, .inl f_stones)), ((a 22), .inl ((d 22), 250, .inl f_sumGiver)), ((a 24), .inl ((d 24), 250, .inl f_sumPence)), ((a 9), .inl ((d 9), 30, .inl f_isNameless)), ((a 0), .inl ((d 0), 9, .inl f_rule))] [((d 31), .int), ((d 32), .int), ((d 22), .int), ((d 24), .int), ((d 9), .boolean), ((d 0), .int)] A s s.heap [] := St
  refine lv_iload_n hx hb dX12_stone_0 rfl (lv_at hl 1 rfl) ?_
  refine lv_i2l (v := x1.toInt64) hx hb dX12_stone_1 rfl ?_
  refine lv_lconst (v := 0) hx hb dX12_stone_2 (by decide) ?_
  refine lv_aload_n hx hb dX12_stone_3 rfl (lv_at hl 0 rfl) ?_
  refine cs_i St [0, 1, 2, 3, 4, 5, 6] [] (wc := [(h, .inr (12, [.ref (a 0), .ref (a 1), .ref (a 2), .ref (a 3), .int v_taped, .int v_size, .int v_from, .int v_behind, .int v_hand, .int v_value, .int v_fault, .int v_faultAt, .ref (a 4), .int v_clock, .int v_coin, .int v_loan, .int v_matched, .int v_taxed, .int v_paidStages, .int v_grown, .int v_pledges, .int v_sums, .int v_stages, .int v_isStopped, .ref (a 5), .ref (a 6), .ref (a 7), .ref (a 8), .ref (a 9), .ref (a 10), .ref (a 11), .ref (a 12), .ref (a 13), .ref (a 14), .ref (a 15), .ref (a 16), .ref (a 17), .ref (a 18), .ref (a 19), .ref (a 20), .ref (a 21), .ref (a 22), .ref (a 23), .ref (a 24), .ref (a 25), .ref (a 26), .ref (a 27), .ref (a 28), .ref (a 29), .ref (a 30), .int v_begun, .ref (a 31), .ref (a 32)])), ((a 31), .inl ((d 31), 30, .inl f_sum)), ((a 32), .inl ((d 32), 30, .inl f_stones)), ((a 22), .inl ((d 22), 250, .inl f_sumGiver)), ((a 24), .inl ((d 24), 250, .inl f_sumPence)), ((a 9), .inl ((d 9), 30, .inl f_isNameless)), ((a 0), .inl ((d 0), 9, .inl f_rule))]) (wr := []) rfl rfl (by decide) (by decide) (va_runV (As := []) (rest := [.long 0, .long x1.toInt64]) F (m_carve l G k _ h a d v_taped v_size v_from v_behind v_hand v_value v_fault v_faultAt v_clock v_coin v_loan v_matched v_taxed v_paidStages v_grown v_pledges v_sums v_stages v_isStopped v_begun f_sum f_stones f_sumGiver f_sumPence f_isNameless f_rule hSg hSp) (cwVt F mf_X12_carve km_X12_314 rfl rfl ⟨Nat.le_of_ble_eq_true rfl, Nat.le_of_ble_eq_true rfl⟩) (cs_preV St [0, 1, 2, 3, 4, 5, 6] rfl (by decide) [0, 1, 2, 3, 4, 5] rfl (ci := 12) (q0 := 0) rfl rfl) rfl rfl hl.1 rfl (lv_room (Nat.le_of_ble_eq_true rfl)) dX12_stone_4 ⟨Nat.le_of_ble_eq_true rfl, Nat.le_of_ble_eq_true rfl⟩) (fun r_1 u_2 H locs hw St => ?_)
  obtain ⟨g_sum_3, g_stones_4⟩ := u_2
  try dsimp only at hw
  have hr_5 := hw
  have St : cS G k [(h, .inr (12, [.ref (a 0), .ref (a 1), .ref (a 2), .ref (a 3), .int v_taped, .int v_size, .int v_from, .int v_behind, .int v_hand, .int v_value, .int v_fault, .int v_faultAt, .ref (a 4), .int v_clock, .int v_coin, .int v_loan, .int v_matched, .int v_taxed, .int v_paidStages, .int v_grown, .int v_pledges, .int v_sums, .int v_stages, .int v_isStopped, .ref (a 5), .ref (a 6), .ref (a 7), .ref (a 8), .ref (a 9), .ref (a 10), .ref (a 11), .ref (a 12), .ref (a 13), .ref (a 14), .ref (a 15), .ref (a 16), .ref (a 17), .ref (a 18), .ref (a 19), .ref (a 20), .ref (a 21), .ref (a 22), .ref (a 23), .ref (a 24), .ref (a 25), .ref (a 26), .ref (a 27), .ref (a 28), .ref (a 29), .ref (a 30), .int v_begun, .ref (a 31), .ref (a 32)])), ((a 31), .inl ((d 31), 30, .inl g_sum_3)), ((a 32), .inl ((d 32), 30, .inl g_stones_4)), ((a 22), .inl ((d 22), 250, .inl f_sumGiver)), ((a 24), .inl ((d 24), 250, .inl f_sumPence)), ((a 9), .inl ((d 9), 30, .inl f_isNameless)), ((a 0), .inl ((d 0), 9, .inl f_rule))] [((d 31), .int), ((d 32), .int), ((d 22), .int), ((d 24), .int), ((d 9), .boolean), ((d 0), .int)] A s H locs := St
  refine lv_i2l (v := r_1.toInt64) hx hb dX12_stone_7 rfl ?_
  refine lv_lconst (v := 1) hx hb dX12_stone_8 (by decide) ?_
  refine lv_lsub hx hb dX12_stone_9 ?_
  refine lv_topl (fun y_6 ey_6 => ?_)
  first | have jy_6 : y_6.toInt = r_1.toInt - 1 := (by have q7 := ci_rng r_1; have q9 := cl_sub (x := r_1.toInt64) (y := 1) (u := r_1.toInt) (v := 1) (Int32.toInt_toInt64 r_1) (by decide) ey_6; omega) | have jy_6 := cl_sub (x := r_1.toInt64) (y := 1) (u := r_1.toInt) (v := 1) (Int32.toInt_toInt64 r_1) (by decide) ey_6
  refine cs_i St [] [0, 1, 2, 3, 4, 5, 6] (wc := []) (wr := [(h, .inr (12, [.ref (a 0), .ref (a 1), .ref (a 2), .ref (a 3), .int v_taped, .int v_size, .int v_from, .int v_behind, .int v_hand, .int v_value, .int v_fault, .int v_faultAt, .ref (a 4), .int v_clock, .int v_coin, .int v_loan, .int v_matched, .int v_taxed, .int v_paidStages, .int v_grown, .int v_pledges, .int v_sums, .int v_stages, .int v_isStopped, .ref (a 5), .ref (a 6), .ref (a 7), .ref (a 8), .ref (a 9), .ref (a 10), .ref (a 11), .ref (a 12), .ref (a 13), .ref (a 14), .ref (a 15), .ref (a 16), .ref (a 17), .ref (a 18), .ref (a 19), .ref (a 20), .ref (a 21), .ref (a 22), .ref (a 23), .ref (a 24), .ref (a 25), .ref (a 26), .ref (a 27), .ref (a 28), .ref (a 29), .ref (a 30), .int v_begun, .ref (a 31), .ref (a 32)])), ((a 31), .inl ((d 31), 30, .inl g_sum_3)), ((a 32), .inl ((d 32), 30, .inl g_stones_4)), ((a 22), .inl ((d 22), 250, .inl f_sumGiver)), ((a 24), .inl ((d 24), 250, .inl f_sumPence)), ((a 9), .inl ((d 9), 30, .inl f_isNameless)), ((a 0), .inl ((d 0), 9, .inl f_rule))]) rfl rfl (by decide) (by decide) (va_runS (As := [.long x1.toInt64, .long 0, .long y_6]) (rest := []) F (c12_in l G k _ x1.toInt64 0 y_6 x1.toInt 0 y_6.toInt (Int32.toInt_toInt64 x1) (by decide) rfl) (cwSt F mf_X12_in km_X12_58 rfl rfl ⟨Nat.le_of_ble_eq_true rfl, Nat.le_of_ble_eq_true rfl⟩) (cs_pre St [] rfl (by decide) [] rfl) rfl rfl hl.1 rfl (lv_room (Nat.le_of_ble_eq_true rfl)) dX12_stone_10 ⟨Nat.le_of_ble_eq_true rfl, Nat.le_of_ble_eq_true rfl⟩) (fun r_7 u_8 H locs hw St => ?_)
  try dsimp only at hw
  rcases hw with ⟨z_9, hf_10⟩ | ⟨z_11, hf_12⟩
  ·
    subst r_7
    have St : cS G k [(h, .inr (12, [.ref (a 0), .ref (a 1), .ref (a 2), .ref (a 3), .int v_taped, .int v_size, .int v_from, .int v_behind, .int v_hand, .int v_value, .int v_fault, .int v_faultAt, .ref (a 4), .int v_clock, .int v_coin, .int v_loan, .int v_matched, .int v_taxed, .int v_paidStages, .int v_grown, .int v_pledges, .int v_sums, .int v_stages, .int v_isStopped, .ref (a 5), .ref (a 6), .ref (a 7), .ref (a 8), .ref (a 9), .ref (a 10), .ref (a 11), .ref (a 12), .ref (a 13), .ref (a 14), .ref (a 15), .ref (a 16), .ref (a 17), .ref (a 18), .ref (a 19), .ref (a 20), .ref (a 21), .ref (a 22), .ref (a 23), .ref (a 24), .ref (a 25), .ref (a 26), .ref (a 27), .ref (a 28), .ref (a 29), .ref (a 30), .int v_begun, .ref (a 31), .ref (a 32)])), ((a 31), .inl ((d 31), 30, .inl g_sum_3)), ((a 32), .inl ((d 32), 30, .inl g_stones_4)), ((a 22), .inl ((d 22), 250, .inl f_sumGiver)), ((a 24), .inl ((d 24), 250, .inl f_sumPence)), ((a 9), .inl ((d 9), 30, .inl f_isNameless)), ((a 0), .inl ((d 0), 9, .inl f_rule))] [((d 31), .int), ((d 32), .int), ((d 22), .int), ((d 24), .int), ((d 9), .boolean), ((d 0), .int)] A s H locs := St
    refine lv_if_eq (tgt := 25) hx hb dX12_stone_13 (by decide) (fun c13 => ?_) (fun c13 => ?_)
    · exact absurd c13 (by decide)
    refine lv_aload_n hx hb dX12_stone_16 rfl (lv_at hl 0 rfl) ?_
    refine cs_get F St 0 rfl rfl inX12 52 (by decide) kf_X12_200 rfl dX12_stone_17 ?_
    refine lv_iload_n hx hb dX12_stone_20 rfl (lv_at hl 1 rfl) ?_
    refine cs_ild F St 2 1 rfl rfl (vp_in_iff.mpr ⟨by omega, by omega⟩) dX12_stone_21 ?_
    refine lv_topi (fun y_13 ey_13 => ?_)
    refine lv_goto (tgt := 26) hx hb dX12_stone_22 (by decide) ?_
    exact cs_iret F hr hlk hQ St (g_sum_3, g_stones_4) (r := y_13) (by trivial) [0, 1, 2, 3, 4, 5, 6] rfl (by decide) [] rfl (by decide) (by decide) dX12_stone_26
  ·
    subst r_7
    have St : cS G k [(h, .inr (12, [.ref (a 0), .ref (a 1), .ref (a 2), .ref (a 3), .int v_taped, .int v_size, .int v_from, .int v_behind, .int v_hand, .int v_value, .int v_fault, .int v_faultAt, .ref (a 4), .int v_clock, .int v_coin, .int v_loan, .int v_matched, .int v_taxed, .int v_paidStages, .int v_grown, .int v_pledges, .int v_sums, .int v_stages, .int v_isStopped, .ref (a 5), .ref (a 6), .ref (a 7), .ref (a 8), .ref (a 9), .ref (a 10), .ref (a 11), .ref (a 12), .ref (a 13), .ref (a 14), .ref (a 15), .ref (a 16), .ref (a 17), .ref (a 18), .ref (a 19), .ref (a 20), .ref (a 21), .ref (a 22), .ref (a 23), .ref (a 24), .ref (a 25), .ref (a 26), .ref (a 27), .ref (a 28), .ref (a 29), .ref (a 30), .int v_begun, .ref (a 31), .ref (a 32)])), ((a 31), .inl ((d 31), 30, .inl g_sum_3)), ((a 32), .inl ((d 32), 30, .inl g_stones_4)), ((a 22), .inl ((d 22), 250, .inl f_sumGiver)), ((a 24), .inl ((d 24), 250, .inl f_sumPence)), ((a 9), .inl ((d 9), 30, .inl f_isNameless)), ((a 0), .inl ((d 0), 9, .inl f_rule))] [((d 31), .int), ((d 32), .int), ((d 22), .int), ((d 24), .int), ((d 9), .boolean), ((d 0), .int)] A s H locs := St
    refine lv_if_eq (tgt := 25) hx hb dX12_stone_13 (by decide) (fun c13 => ?_) (fun c13 => ?_)
    rotate_left
    · exact absurd (by decide) c13
    refine lv_iconst (v := (-1)) hx hb dX12_stone_25 (by decide) ?_
    exact cs_iret F hr hlk hQ St (g_sum_3, g_stones_4) (r := (-1)) (by trivial) [0, 1, 2, 3, 4, 5, 6] rfl (by decide) [] rfl (by decide) (by decide) dX12_stone_26
set_option maxHeartbeats 4000000 in
set_option maxRecDepth 100000 in
theorem m_allGiven (l : Launch) (G : va_G) (k : Nat → Nat) (sz : Nat) (h : Nat) (a : Nat → Nat) (d : Nat → ClassId) (v_taped : Int32) (v_size : Int32) (v_from : Int32) (v_behind : Int32) (v_hand : Int32) (v_value : Int32) (v_fault : Int32) (v_faultAt : Int32) (v_clock : Int32) (v_coin : Int32) (v_loan : Int32) (v_matched : Int32) (v_taxed : Int32) (v_paidStages : Int32) (v_grown : Int32) (v_pledges : Int32) (v_sums : Int32) (v_stages : Int32) (v_isStopped : Int32) (v_begun : Int32) (f_sumPence : Nat → Int32) (hSp : mSp v_sums f_sumPence) : Met l yX12_allGiven (Cond.code yX12_allGiven cX12_allGiven 3 (some .int) :: tb) ({ frames := 0, cells := 0, slots := 0, locals := 0 } : Room) (va_Pc [.ref h] (cP G k [(h, .inr (12, [.ref (a 0), .ref (a 1), .ref (a 2), .ref (a 3), .int v_taped, .int v_size, .int v_from, .int v_behind, .int v_hand, .int v_value, .int v_fault, .int v_faultAt, .ref (a 4), .int v_clock, .int v_coin, .int v_loan, .int v_matched, .int v_taxed, .int v_paidStages, .int v_grown, .int v_pledges, .int v_sums, .int v_stages, .int v_isStopped, .ref (a 5), .ref (a 6), .ref (a 7), .ref (a 8), .ref (a 9), .ref (a 10), .ref (a 11), .ref (a 12), .ref (a 13), .ref (a 14), .ref (a 15), .ref (a 16), .ref (a 17), .ref (a 18), .ref (a 19), .ref (a 20), .ref (a 21), .ref (a 22), .ref (a 23), .ref (a 24), .ref (a 25), .ref (a 26), .ref (a 27), .ref (a 28), .ref (a 29), .ref (a 30), .int v_begun, .ref (a 31), .ref (a 32)])), ((a 24), .inl ((d 24), 250, .inl f_sumPence))] [((d 24), .int)] sz)) (va_Qi (fun (r : Int32) (_ : Unit) => True) (cB G (fun (_ : Unit) => [(h, .inr (12, [.ref (a 0), .ref (a 1), .ref (a 2), .ref (a 3), .int v_taped, .int v_size, .int v_from, .int v_behind, .int v_hand, .int v_value, .int v_fault, .int v_faultAt, .ref (a 4), .int v_clock, .int v_coin, .int v_loan, .int v_matched, .int v_taxed, .int v_paidStages, .int v_grown, .int v_pledges, .int v_sums, .int v_stages, .int v_isStopped, .ref (a 5), .ref (a 6), .ref (a 7), .ref (a 8), .ref (a 9), .ref (a 10), .ref (a 11), .ref (a 12), .ref (a 13), .ref (a 14), .ref (a 15), .ref (a 16), .ref (a 17), .ref (a 18), .ref (a 19), .ref (a 20), .ref (a 21), .ref (a 22), .ref (a 23), .ref (a 24), .ref (a 25), .ref (a 26), .ref (a 27), .ref (a 28), .ref (a 29), .ref (a 30), .int v_begun, .ref (a 31), .ref (a 32)])), ((a 24), .inl ((d 24), 250, .inl f_sumPence))]) (fun (_ : Unit) => []) (va_A [(h, .inr (12, [.ref (a 0), .ref (a 1), .ref (a 2), .ref (a 3), .int v_taped, .int v_size, .int v_from, .int v_behind, .int v_hand, .int v_value, .int v_fault, .int v_faultAt, .ref (a 4), .int v_clock, .int v_coin, .int v_loan, .int v_matched, .int v_taxed, .int v_paidStages, .int v_grown, .int v_pledges, .int v_sums, .int v_stages, .int v_isStopped, .ref (a 5), .ref (a 6), .ref (a 7), .ref (a 8), .ref (a 9), .ref (a 10), .ref (a 11), .ref (a 12), .ref (a 13), .ref (a 14), .ref (a 15), .ref (a 16), .ref (a 17), .ref (a 18), .ref (a 19), .ref (a 20), .ref (a 21), .ref (a 22), .ref (a 23), .ref (a 24), .ref (a 25), .ref (a 26), .ref (a 27), .ref (a 28), .ref (a 29), .ref (a 30), .int v_begun, .ref (a 31), .ref (a 32)])), ((a 24), .inl ((d 24), 250, .inl f_sumPence))] sz)) (va_A [(h, .inr (12, [.ref (a 0), .ref (a 1), .ref (a 2), .ref (a 3), .int v_taped, .int v_size, .int v_from, .int v_behind, .int v_hand, .int v_value, .int v_fault, .int v_faultAt, .ref (a 4), .int v_clock, .int v_coin, .int v_loan, .int v_matched, .int v_taxed, .int v_paidStages, .int v_grown, .int v_pledges, .int v_sums, .int v_stages, .int v_isStopped, .ref (a 5), .ref (a 6), .ref (a 7), .ref (a 8), .ref (a 9), .ref (a 10), .ref (a 11), .ref (a 12), .ref (a 13), .ref (a 14), .ref (a 15), .ref (a 16), .ref (a 17), .ref (a 18), .ref (a 19), .ref (a 20), .ref (a 21), .ref (a 22), .ref (a 23), .ref (a 24), .ref (a 25), .ref (a 26), .ref (a 27), .ref (a 28), .ref (a 29), .ref (a 30), .int v_begun, .ref (a 31), .ref (a 32)])), ((a 24), .inl ((d 24), 250, .inl f_sumPence))] sz)) 0 0 (va_A [(h, .inr (12, [.ref (a 0), .ref (a 1), .ref (a 2), .ref (a 3), .int v_taped, .int v_size, .int v_from, .int v_behind, .int v_hand, .int v_value, .int v_fault, .int v_faultAt, .ref (a 4), .int v_clock, .int v_coin, .int v_loan, .int v_matched, .int v_taxed, .int v_paidStages, .int v_grown, .int v_pledges, .int v_sums, .int v_stages, .int v_isStopped, .ref (a 5), .ref (a 6), .ref (a 7), .ref (a 8), .ref (a 9), .ref (a 10), .ref (a 11), .ref (a 12), .ref (a 13), .ref (a 14), .ref (a 15), .ref (a 16), .ref (a 17), .ref (a 18), .ref (a 19), .ref (a 20), .ref (a 21), .ref (a 22), .ref (a 23), .ref (a 24), .ref (a 25), .ref (a 26), .ref (a 27), .ref (a 28), .ref (a 29), .ref (a 30), .int v_begun, .ref (a 31), .ref (a 32)])), ((a 24), .inl ((d 24), 250, .inl f_sumPence))] sz) := by
  refine ofC_i (cc := cX12_allGiven) (maxL := 3) (ret := (some .int)) (by decide) rfl (Nat.le_of_ble_eq_true rfl) ?_
  intro p e s m args below meth c A ls Q F hr hin hlk St hl hQ
  have hx := F.1
  have hb := F.2.1
  have hl : lv_has ls 3 [(0, .ref h)] := hl
  have St : cS G k [(h, .inr (12, [.ref (a 0), .ref (a 1), .ref (a 2), .ref (a 3), .int v_taped, .int v_size, .int v_from, .int v_behind, .int v_hand, .int v_value, .int v_fault, .int v_faultAt, .ref (a 4), .int v_clock, .int v_coin, .int v_loan, .int v_matched, .int v_taxed, .int v_paidStages, .int v_grown, .int v_pledges, .int v_sums, .int v_stages, .int v_isStopped, .ref (a 5), .ref (a 6), .ref (a 7), .ref (a 8), .ref (a 9), .ref (a 10), .ref (a 11), .ref (a 12), .ref (a 13), .ref (a 14), .ref (a 15), .ref (a 16), .ref (a 17), .ref (a 18), .ref (a 19), .ref (a 20), .ref (a 21), .ref (a 22), .ref (a 23), .ref (a 24), .ref (a 25), .ref (a 26), .ref (a 27), .ref (a 28), .ref (a 29), .ref (a 30), .int v_begun, .ref (a 31), .ref (a 32)])), ((a 24), .inl ((d 24), 250, .inl f_sumPence))] [((d 24), .int)] A s s.heap [] := St
  have hsd := hSp.1
  have y0 : (0 : Int32).toInt = 0 := by decide
  refine lv_iconst (v := 0) hx hb dX12_allGiven_0 (by decide) ?_
  refine lv_istore_n (lv' := [(1, .int 0), (0, .ref h)]) hx hb dX12_allGiven_1 rfl hl (by decide) rfl (fun ls hl => ?_)
  refine lv_iconst (v := 0) hx hb dX12_allGiven_2 (by decide) ?_
  refine lv_istore_n (lv' := [(2, .int 0), (1, .int 0), (0, .ref h)]) hx hb dX12_allGiven_3 rfl hl (by decide) rfl (fun ls hl => ?_)
  have lp4 : ∀ (n : Nat) (kk : Int32) (nn : Int32) (H : Heap) (locs : List Loc) (ls : Array Slot), (0 ≤ kk.toInt ∧ kk.toInt ≤ v_sums.toInt) → ((250 - kk.toInt).toNat) < n → cS G k [(h, .inr (12, [.ref (a 0), .ref (a 1), .ref (a 2), .ref (a 3), .int v_taped, .int v_size, .int v_from, .int v_behind, .int v_hand, .int v_value, .int v_fault, .int v_faultAt, .ref (a 4), .int v_clock, .int v_coin, .int v_loan, .int v_matched, .int v_taxed, .int v_paidStages, .int v_grown, .int v_pledges, .int v_sums, .int v_stages, .int v_isStopped, .ref (a 5), .ref (a 6), .ref (a 7), .ref (a 8), .ref (a 9), .ref (a 10), .ref (a 11), .ref (a 12), .ref (a 13), .ref (a 14), .ref (a 15), .ref (a 16), .ref (a 17), .ref (a 18), .ref (a 19), .ref (a 20), .ref (a 21), .ref (a 22), .ref (a 23), .ref (a 24), .ref (a 25), .ref (a 26), .ref (a 27), .ref (a 28), .ref (a 29), .ref (a 30), .int v_begun, .ref (a 31), .ref (a 32)])), ((a 24), .inl ((d 24), 250, .inl f_sumPence))] [((d 24), .int)] A s H locs → lv_has ls 3 [(2, .int kk), (1, .int nn), (0, .ref h)] → W p l e ({ frames := 0, cells := 0, slots := 0, locals := 0 } : Room) s m args below meth c H locs 0 0 Q (F0 m 4 ls []) := by
    intro n
    induction n with
    | zero => intro kk nn H locs ls hI hn; exact absurd hn (Nat.not_lt_zero _)
    | succ n ih =>
      intro kk nn H locs ls hI hn St hl
      obtain ⟨hI0, hI1⟩ := hI
      refine lv_iload_n hx hb dX12_allGiven_4 rfl (lv_at hl 0 rfl) ?_
      refine lv_aload_n hx hb dX12_allGiven_5 rfl (lv_at hl 2 rfl) ?_
      refine cs_get F St 0 rfl rfl inX12 21 (by decide) kf_X12_246 rfl dX12_allGiven_6 ?_
      refine lv_icmp_ge (tgt := 27) hx hb dX12_allGiven_9 (by decide) (fun c9 => ?_) (fun c9 => ?_)
      ·
        have i9 := ci_le (x := v_sums) (y := kk) rfl rfl c9
        refine lv_iload_n hx hb dX12_allGiven_27 rfl (lv_at hl 1 rfl) ?_
        exact cs_iret F hr hlk hQ St () (r := nn) (by trivial) [0, 1] rfl (by decide) [] rfl (by decide) (by decide) dX12_allGiven_28
      ·
        have i9 := ci_nle (x := v_sums) (y := kk) rfl rfl c9
        refine lv_iload_n hx hb dX12_allGiven_12 rfl (lv_at hl 1 rfl) ?_
        refine lv_aload_n hx hb dX12_allGiven_13 rfl (lv_at hl 2 rfl) ?_
        refine cs_get F St 0 rfl rfl inX12 43 (by decide) kf_X12_177 rfl dX12_allGiven_14 ?_
        refine lv_iload_n hx hb dX12_allGiven_17 rfl (lv_at hl 0 rfl) ?_
        refine cs_ild F St 1 0 rfl rfl (vp_in_iff.mpr ⟨by omega, by omega⟩) dX12_allGiven_18 ?_
        refine lv_topi (fun y_1 ey_1 => ?_)
        have hdy_1 := mSp_p hSp (by omega) (by omega) ey_1
        refine lv_iadd hx hb dX12_allGiven_19 ?_
        refine lv_topi (fun y_2 ey_2 => ?_)
        first | have jy_2 : y_2.toInt = nn.toInt + y_1.toInt := (by have q9 := ci_add (x := nn) (y := y_1) rfl rfl ey_2; omega) | have jy_2 := ci_add (x := nn) (y := y_1) rfl rfl ey_2
        refine lv_istore_n (lv' := [(1, .int y_2), (2, .int kk), (0, .ref h)]) hx hb dX12_allGiven_20 rfl hl (by decide) rfl (fun ls hl => ?_)
        obtain ⟨y_3, ey_3⟩ : ∃ zz : Int32, zz = kk + 1 := ⟨_, rfl⟩
        first | have jy_3 : y_3.toInt = kk.toInt + 1 := (by have q9 := ci_add (x := kk) rfl (show (1 : Int32).toInt = 1 by decide) ey_3; omega) | have jy_3 := ci_add (x := kk) rfl (show (1 : Int32).toInt = 1 by decide) ey_3
        refine lv_iinc (v := y_3) (lv' := [(2, .int y_3), (1, .int y_2), (0, .ref h)]) hx hb dX12_allGiven_21 hl (k := 1) rfl (by rw [ey_3]; rfl) (by decide) rfl (fun ls hl => ?_)
        refine lv_goto (tgt := 4) hx hb dX12_allGiven_24 (by decide) ?_
        exact ih y_3 y_2 _ _ _ ⟨by omega, by omega⟩ (by omega) St (lv_sub hl [0, 1, 2] rfl)
  exact lp4 251 0 0 _ _ _ ⟨by omega, by omega⟩ (by omega) St (lv_sub hl [0, 1, 2] rfl)
set_option maxHeartbeats 4000000 in
set_option maxRecDepth 100000 in
theorem m_stop (l : Launch) (G : va_G) (k : Nat → Nat) (sz : Nat) (h : Nat) (a : Nat → Nat) (d : Nat → ClassId) (v_taped : Int32) (v_size : Int32) (v_from : Int32) (v_behind : Int32) (v_hand : Int32) (v_value : Int32) (v_fault : Int32) (v_faultAt : Int32) (v_clock : Int32) (v_coin : Int32) (v_loan : Int32) (v_matched : Int32) (v_taxed : Int32) (v_paidStages : Int32) (v_grown : Int32) (v_pledges : Int32) (v_sums : Int32) (v_stages : Int32) (v_isStopped : Int32) (v_begun : Int32) (f_sumPence : Nat → Int32) (f_rule : Nat → Int32) (f_given : Nat → Int32) (f_back : Nat → Int32) (hSp : mSp v_sums f_sumPence) (hz : v_isStopped = 0 ∨ v_isStopped = 1) : Met l yX12_stop (Cond.code yX12_stop cX12_stop 4 (some .int) :: tb) ({ frames := 1, cells := 0, slots := 0, locals := 22 } : Room) (va_Pc [.ref h] (cP G k [(h, .inr (12, [.ref (a 0), .ref (a 1), .ref (a 2), .ref (a 3), .int v_taped, .int v_size, .int v_from, .int v_behind, .int v_hand, .int v_value, .int v_fault, .int v_faultAt, .ref (a 4), .int v_clock, .int v_coin, .int v_loan, .int v_matched, .int v_taxed, .int v_paidStages, .int v_grown, .int v_pledges, .int v_sums, .int v_stages, .int v_isStopped, .ref (a 5), .ref (a 6), .ref (a 7), .ref (a 8), .ref (a 9), .ref (a 10), .ref (a 11), .ref (a 12), .ref (a 13), .ref (a 14), .ref (a 15), .ref (a 16), .ref (a 17), .ref (a 18), .ref (a 19), .ref (a 20), .ref (a 21), .ref (a 22), .ref (a 23), .ref (a 24), .ref (a 25), .ref (a 26), .ref (a 27), .ref (a 28), .ref (a 29), .ref (a 30), .int v_begun, .ref (a 31), .ref (a 32)])), ((a 24), .inl ((d 24), 250, .inl f_sumPence)), ((a 0), .inl ((d 0), 9, .inl f_rule)), ((a 7), .inl ((d 7), 30, .inl f_given)), ((a 8), .inl ((d 8), 30, .inl f_back))] [((d 24), .int), ((d 0), .int), ((d 7), .int), ((d 8), .int)] sz)) (va_Qi (fun (r : Int32) (u : Int32 × Int32 × (Nat → Int32)) => match u with | (w_isStopped, w_coin, g_back) => (w_isStopped = 1)) (cB G (fun u => match u with | (w_isStopped, w_coin, g_back) => [(h, .inr (12, [.ref (a 0), .ref (a 1), .ref (a 2), .ref (a 3), .int v_taped, .int v_size, .int v_from, .int v_behind, .int v_hand, .int v_value, .int v_fault, .int v_faultAt, .ref (a 4), .int v_clock, .int w_coin, .int v_loan, .int v_matched, .int v_taxed, .int v_paidStages, .int v_grown, .int v_pledges, .int v_sums, .int v_stages, .int w_isStopped, .ref (a 5), .ref (a 6), .ref (a 7), .ref (a 8), .ref (a 9), .ref (a 10), .ref (a 11), .ref (a 12), .ref (a 13), .ref (a 14), .ref (a 15), .ref (a 16), .ref (a 17), .ref (a 18), .ref (a 19), .ref (a 20), .ref (a 21), .ref (a 22), .ref (a 23), .ref (a 24), .ref (a 25), .ref (a 26), .ref (a 27), .ref (a 28), .ref (a 29), .ref (a 30), .int v_begun, .ref (a 31), .ref (a 32)])), ((a 24), .inl ((d 24), 250, .inl f_sumPence)), ((a 0), .inl ((d 0), 9, .inl f_rule)), ((a 7), .inl ((d 7), 30, .inl f_given)), ((a 8), .inl ((d 8), 30, .inl g_back))]) (fun u => match u with | (w_isStopped, w_coin, g_back) => []) (va_A [(h, .inr (12, [.ref (a 0), .ref (a 1), .ref (a 2), .ref (a 3), .int v_taped, .int v_size, .int v_from, .int v_behind, .int v_hand, .int v_value, .int v_fault, .int v_faultAt, .ref (a 4), .int v_clock, .int v_coin, .int v_loan, .int v_matched, .int v_taxed, .int v_paidStages, .int v_grown, .int v_pledges, .int v_sums, .int v_stages, .int v_isStopped, .ref (a 5), .ref (a 6), .ref (a 7), .ref (a 8), .ref (a 9), .ref (a 10), .ref (a 11), .ref (a 12), .ref (a 13), .ref (a 14), .ref (a 15), .ref (a 16), .ref (a 17), .ref (a 18), .ref (a 19), .ref (a 20), .ref (a 21), .ref (a 22), .ref (a 23), .ref (a 24), .ref (a 25), .ref (a 26), .ref (a 27), .ref (a 28), .ref (a 29), .ref (a 30), .int v_begun, .ref (a 31), .ref (a 32)])), ((a 24), .inl ((d 24), 250, .inl f_sumPence)), ((a 0), .inl ((d 0), 9, .inl f_rule)), ((a 7), .inl ((d 7), 30, .inl f_given)), ((a 8), .inl ((d 8), 30, .inl f_back))] sz)) (va_A [(h, .inr (12, [.ref (a 0), .ref (a 1), .ref (a 2), .ref (a 3), .int v_taped, .int v_size, .int v_from, .int v_behind, .int v_hand, .int v_value, .int v_fault, .int v_faultAt, .ref (a 4), .int v_clock, .int v_coin, .int v_loan, .int v_matched, .int v_taxed, .int v_paidStages, .int v_grown, .int v_pledges, .int v_sums, .int v_stages, .int v_isStopped, .ref (a 5), .ref (a 6), .ref (a 7), .ref (a 8), .ref (a 9), .ref (a 10), .ref (a 11), .ref (a 12), .ref (a 13), .ref (a 14), .ref (a 15), .ref (a 16), .ref (a 17), .ref (a 18), .ref (a 19), .ref (a 20), .ref (a 21), .ref (a 22), .ref (a 23), .ref (a 24), .ref (a 25), .ref (a 26), .ref (a 27), .ref (a 28), .ref (a 29), .ref (a 30), .int v_begun, .ref (a 31), .ref (a 32)])), ((a 24), .inl ((d 24), 250, .inl f_sumPence)), ((a 0), .inl ((d 0), 9, .inl f_rule)), ((a 7), .inl ((d 7), 30, .inl f_given)), ((a 8), .inl ((d 8), 30, .inl f_back))] sz)) 0 0 (va_A [(h, .inr (12, [.ref (a 0), .ref (a 1), .ref (a 2), .ref (a 3), .int v_taped, .int v_size, .int v_from, .int v_behind, .int v_hand, .int v_value, .int v_fault, .int v_faultAt, .ref (a 4), .int v_clock, .int v_coin, .int v_loan, .int v_matched, .int v_taxed, .int v_paidStages, .int v_grown, .int v_pledges, .int v_sums, .int v_stages, .int v_isStopped, .ref (a 5), .ref (a 6), .ref (a 7), .ref (a 8), .ref (a 9), .ref (a 10), .ref (a 11), .ref (a 12), .ref (a 13), .ref (a 14), .ref (a 15), .ref (a 16), .ref (a 17), .ref (a 18), .ref (a 19), .ref (a 20), .ref (a 21), .ref (a 22), .ref (a 23), .ref (a 24), .ref (a 25), .ref (a 26), .ref (a 27), .ref (a 28), .ref (a 29), .ref (a 30), .int v_begun, .ref (a 31), .ref (a 32)])), ((a 24), .inl ((d 24), 250, .inl f_sumPence)), ((a 0), .inl ((d 0), 9, .inl f_rule)), ((a 7), .inl ((d 7), 30, .inl f_given)), ((a 8), .inl ((d 8), 30, .inl f_back))] sz) := by
  refine ofC_i (cc := cX12_stop) (maxL := 4) (ret := (some .int)) (by decide) rfl (Nat.le_of_ble_eq_true rfl) ?_
  intro p e s m args below meth c A ls Q F hr hin hlk St hl hQ
  have hx := F.1
  have hb := F.2.1
  have hl : lv_has ls 4 [(0, .ref h)] := hl
  have St : cS G k [(h, .inr (12, [.ref (a 0), .ref (a 1), .ref (a 2), .ref (a 3), .int v_taped, .int v_size, .int v_from, .int v_behind, .int v_hand, .int v_value, .int v_fault, .int v_faultAt, .ref (a 4), .int v_clock, .int v_coin, .int v_loan, .int v_matched, .int v_taxed, .int v_paidStages, .int v_grown, .int v_pledges, .int v_sums, .int v_stages, .int v_isStopped, .ref (a 5), .ref (a 6), .ref (a 7), .ref (a 8), .ref (a 9), .ref (a 10), .ref (a 11), .ref (a 12), .ref (a 13), .ref (a 14), .ref (a 15), .ref (a 16), .ref (a 17), .ref (a 18), .ref (a 19), .ref (a 20), .ref (a 21), .ref (a 22), .ref (a 23), .ref (a 24), .ref (a 25), .ref (a 26), .ref (a 27), .ref (a 28), .ref (a 29), .ref (a 30), .int v_begun, .ref (a 31), .ref (a 32)])), ((a 24), .inl ((d 24), 250, .inl f_sumPence)), ((a 0), .inl ((d 0), 9, .inl f_rule)), ((a 7), .inl ((d 7), 30, .inl f_given)), ((a 8), .inl ((d 8), 30, .inl f_back))] [((d 24), .int), ((d 0), .int), ((d 7), .int), ((d 8), .int)] A s s.heap [] := St
  have hsd := hSp.1
  have y0 : (0 : Int32).toInt = 0 := by decide
  refine lv_aload_n hx hb dX12_stop_0 rfl (lv_at hl 0 rfl) ?_
  refine cs_get F St 0 rfl rfl inX12 23 (by decide) kf_X12_224 rfl dX12_stop_1 ?_
  refine lv_if_eq (tgt := 10) hx hb dX12_stop_4 (by decide) (fun c4 => ?_) (fun c4 => ?_)
  ·
    have i4 := ci_eq (x := v_isStopped) (y := 0) rfl (show (0 : Int32).toInt = 0 by decide) c4
    refine lv_aload_n hx hb dX12_stop_10 rfl (lv_at hl 0 rfl) ?_
    refine lv_iconst (v := 1) hx hb dX12_stop_11 (by decide) ?_
    refine cs_put F St 0 rfl rfl inX12 tyX12_ok nmX12 23 (by decide) kf_X12_224 rfl rfl rfl (Nat.le_of_ble_eq_true rfl) (w' := [(h, .inr (12, [.ref (a 0), .ref (a 1), .ref (a 2), .ref (a 3), .int v_taped, .int v_size, .int v_from, .int v_behind, .int v_hand, .int v_value, .int v_fault, .int v_faultAt, .ref (a 4), .int v_clock, .int v_coin, .int v_loan, .int v_matched, .int v_taxed, .int v_paidStages, .int v_grown, .int v_pledges, .int v_sums, .int v_stages, .int 1, .ref (a 5), .ref (a 6), .ref (a 7), .ref (a 8), .ref (a 9), .ref (a 10), .ref (a 11), .ref (a 12), .ref (a 13), .ref (a 14), .ref (a 15), .ref (a 16), .ref (a 17), .ref (a 18), .ref (a 19), .ref (a 20), .ref (a 21), .ref (a 22), .ref (a 23), .ref (a 24), .ref (a 25), .ref (a 26), .ref (a 27), .ref (a 28), .ref (a 29), .ref (a 30), .int v_begun, .ref (a 31), .ref (a 32)])), ((a 24), .inl ((d 24), 250, .inl f_sumPence)), ((a 0), .inl ((d 0), 9, .inl f_rule)), ((a 7), .inl ((d 7), 30, .inl f_given)), ((a 8), .inl ((d 8), 30, .inl f_back))]) rfl dX12_stop_12 (fun H locs St => ?_)
    refine lv_aload_n hx hb dX12_stop_15 rfl (lv_at hl 0 rfl) ?_
    refine cs_i St [0, 1] [2, 3, 4] (wc := [(h, .inr (12, [.ref (a 0), .ref (a 1), .ref (a 2), .ref (a 3), .int v_taped, .int v_size, .int v_from, .int v_behind, .int v_hand, .int v_value, .int v_fault, .int v_faultAt, .ref (a 4), .int v_clock, .int v_coin, .int v_loan, .int v_matched, .int v_taxed, .int v_paidStages, .int v_grown, .int v_pledges, .int v_sums, .int v_stages, .int 1, .ref (a 5), .ref (a 6), .ref (a 7), .ref (a 8), .ref (a 9), .ref (a 10), .ref (a 11), .ref (a 12), .ref (a 13), .ref (a 14), .ref (a 15), .ref (a 16), .ref (a 17), .ref (a 18), .ref (a 19), .ref (a 20), .ref (a 21), .ref (a 22), .ref (a 23), .ref (a 24), .ref (a 25), .ref (a 26), .ref (a 27), .ref (a 28), .ref (a 29), .ref (a 30), .int v_begun, .ref (a 31), .ref (a 32)])), ((a 24), .inl ((d 24), 250, .inl f_sumPence))]) (wr := [((a 0), .inl ((d 0), 9, .inl f_rule)), ((a 7), .inl ((d 7), 30, .inl f_given)), ((a 8), .inl ((d 8), 30, .inl f_back))]) rfl rfl (by decide) (by decide) (va_runV (As := []) (rest := []) F (m_allGiven l G k _ h a d v_taped v_size v_from v_behind v_hand v_value v_fault v_faultAt v_clock v_coin v_loan v_matched v_taxed v_paidStages v_grown v_pledges v_sums v_stages 1 v_begun f_sumPence hSp) (cwVt F mf_X12_allGiven km_X12_317 rfl rfl ⟨Nat.le_of_ble_eq_true rfl, Nat.le_of_ble_eq_true rfl⟩) (cs_preV St [0, 1] rfl (by decide) [0] rfl (ci := 12) (q0 := 0) rfl rfl) rfl rfl hl.1 rfl (lv_room (Nat.le_of_ble_eq_true rfl)) dX12_stop_16 ⟨Nat.le_of_ble_eq_true rfl, Nat.le_of_ble_eq_true rfl⟩) (fun r_1 u_2 H locs hw St => ?_)
    try dsimp only at hw
    have St : cS G k [((a 0), .inl ((d 0), 9, .inl f_rule)), ((a 7), .inl ((d 7), 30, .inl f_given)), ((a 8), .inl ((d 8), 30, .inl f_back)), (h, .inr (12, [.ref (a 0), .ref (a 1), .ref (a 2), .ref (a 3), .int v_taped, .int v_size, .int v_from, .int v_behind, .int v_hand, .int v_value, .int v_fault, .int v_faultAt, .ref (a 4), .int v_clock, .int v_coin, .int v_loan, .int v_matched, .int v_taxed, .int v_paidStages, .int v_grown, .int v_pledges, .int v_sums, .int v_stages, .int 1, .ref (a 5), .ref (a 6), .ref (a 7), .ref (a 8), .ref (a 9), .ref (a 10), .ref (a 11), .ref (a 12), .ref (a 13), .ref (a 14), .ref (a 15), .ref (a 16), .ref (a 17), .ref (a 18), .ref (a 19), .ref (a 20), .ref (a 21), .ref (a 22), .ref (a 23), .ref (a 24), .ref (a 25), .ref (a 26), .ref (a 27), .ref (a 28), .ref (a 29), .ref (a 30), .int v_begun, .ref (a 31), .ref (a 32)])), ((a 24), .inl ((d 24), 250, .inl f_sumPence))] [((d 24), .int), ((d 0), .int), ((d 7), .int), ((d 8), .int)] A s H locs := St
    refine lv_istore_n (lv' := [(1, .int r_1), (0, .ref h)]) hx hb dX12_stop_19 rfl hl (by decide) rfl (fun ls hl => ?_)
    refine lv_iconst (v := 0) hx hb dX12_stop_20 (by decide) ?_
    refine lv_istore_n (lv' := [(2, .int 0), (1, .int r_1), (0, .ref h)]) hx hb dX12_stop_21 rfl hl (by decide) rfl (fun ls hl => ?_)
    refine lv_iconst (v := 0) hx hb dX12_stop_22 (by decide) ?_
    refine lv_istore_n (lv' := [(3, .int 0), (2, .int 0), (1, .int r_1), (0, .ref h)]) hx hb dX12_stop_23 rfl hl (by decide) rfl (fun ls hl => ?_)
    have lp24 : ∀ (n : Nat) (kk : Int32) (gg : Int32) (fb : Nat → Int32) (H : Heap) (locs : List Loc) (ls : Array Slot), (0 ≤ kk.toInt ∧ kk.toInt ≤ 30) → ((30 - kk.toInt).toNat) < n → cS G k [((a 0), .inl ((d 0), 9, .inl f_rule)), ((a 7), .inl ((d 7), 30, .inl f_given)), ((a 8), .inl ((d 8), 30, .inl fb)), (h, .inr (12, [.ref (a 0), .ref (a 1), .ref (a 2), .ref (a 3), .int v_taped, .int v_size, .int v_from, .int v_behind, .int v_hand, .int v_value, .int v_fault, .int v_faultAt, .ref (a 4), .int v_clock, .int v_coin, .int v_loan, .int v_matched, .int v_taxed, .int v_paidStages, .int v_grown, .int v_pledges, .int v_sums, .int v_stages, .int 1, .ref (a 5), .ref (a 6), .ref (a 7), .ref (a 8), .ref (a 9), .ref (a 10), .ref (a 11), .ref (a 12), .ref (a 13), .ref (a 14), .ref (a 15), .ref (a 16), .ref (a 17), .ref (a 18), .ref (a 19), .ref (a 20), .ref (a 21), .ref (a 22), .ref (a 23), .ref (a 24), .ref (a 25), .ref (a 26), .ref (a 27), .ref (a 28), .ref (a 29), .ref (a 30), .int v_begun, .ref (a 31), .ref (a 32)])), ((a 24), .inl ((d 24), 250, .inl f_sumPence))] [((d 24), .int), ((d 0), .int), ((d 7), .int), ((d 8), .int)] A s H locs → lv_has ls 4 [(3, .int kk), (2, .int gg), (1, .int r_1), (0, .ref h)] → W p l e ({ frames := 1, cells := 0, slots := 0, locals := 22 } : Room) s m args below meth c H locs 0 0 Q (F0 m 24 ls []) := by
      intro n
      induction n with
      | zero => intro kk gg fb H locs ls hI hn; exact absurd hn (Nat.not_lt_zero _)
      | succ n ih =>
        intro kk gg fb H locs ls hI hn St hl
        obtain ⟨hI0, hI1⟩ := hI
        refine lv_iload_n hx hb dX12_stop_24 rfl (lv_at hl 0 rfl) ?_
        refine lv_bipush (v := 30) hx hb dX12_stop_25 (by decide) ?_
        refine lv_icmp_ge (tgt := 104) hx hb dX12_stop_27 (by decide) (fun c27 => ?_) (fun c27 => ?_)
        ·
          have i27 := ci_le (x := 30) (y := kk) (show (30 : Int32).toInt = 30 by decide) rfl c27
          refine lv_aload_n hx hb dX12_stop_104 rfl (lv_at hl 3 rfl) ?_
          refine lv_dup hx hb dX12_stop_105 rfl ?_
          refine cs_get F St 3 rfl rfl inX12 14 (by decide) kf_X12_262 rfl dX12_stop_106 ?_
          refine lv_iload_n hx hb dX12_stop_109 rfl (lv_at hl 1 rfl) ?_
          refine lv_isub hx hb dX12_stop_110 ?_
          refine lv_topi (fun y_3 ey_3 => ?_)
          first | have jy_3 : y_3.toInt = v_coin.toInt - gg.toInt := (by have q9 := ci_sub (x := v_coin) (y := gg) rfl rfl ey_3; omega) | have jy_3 := ci_sub (x := v_coin) (y := gg) rfl rfl ey_3
          refine cs_put F St 3 rfl rfl inX12 tyX12_ok nmX12 14 (by decide) kf_X12_262 rfl rfl rfl (Nat.le_of_ble_eq_true rfl) (w' := [((a 0), .inl ((d 0), 9, .inl f_rule)), ((a 7), .inl ((d 7), 30, .inl f_given)), ((a 8), .inl ((d 8), 30, .inl fb)), (h, .inr (12, [.ref (a 0), .ref (a 1), .ref (a 2), .ref (a 3), .int v_taped, .int v_size, .int v_from, .int v_behind, .int v_hand, .int v_value, .int v_fault, .int v_faultAt, .ref (a 4), .int v_clock, .int y_3, .int v_loan, .int v_matched, .int v_taxed, .int v_paidStages, .int v_grown, .int v_pledges, .int v_sums, .int v_stages, .int 1, .ref (a 5), .ref (a 6), .ref (a 7), .ref (a 8), .ref (a 9), .ref (a 10), .ref (a 11), .ref (a 12), .ref (a 13), .ref (a 14), .ref (a 15), .ref (a 16), .ref (a 17), .ref (a 18), .ref (a 19), .ref (a 20), .ref (a 21), .ref (a 22), .ref (a 23), .ref (a 24), .ref (a 25), .ref (a 26), .ref (a 27), .ref (a 28), .ref (a 29), .ref (a 30), .int v_begun, .ref (a 31), .ref (a 32)])), ((a 24), .inl ((d 24), 250, .inl f_sumPence))]) rfl dX12_stop_111 (fun H locs St => ?_)
          refine lv_iload_n hx hb dX12_stop_114 rfl (lv_at hl 1 rfl) ?_
          exact cs_iret F hr hlk hQ St (1, y_3, fb) (r := gg) rfl [3, 4, 0, 1, 2] rfl (by decide) [] rfl (by decide) (by decide) dX12_stop_115
        ·
          have i27 := ci_nle (x := 30) (y := kk) (show (30 : Int32).toInt = 30 by decide) rfl c27
          refine lv_aload_n hx hb dX12_stop_30 rfl (lv_at hl 3 rfl) ?_
          refine cs_get F St 3 rfl rfl inX12 27 (by decide) kf_X12_129 rfl dX12_stop_31 ?_
          refine lv_iload_n hx hb dX12_stop_34 rfl (lv_at hl 0 rfl) ?_
          refine lv_iload_n hx hb dX12_stop_35 rfl (lv_at hl 2 rfl) ?_
          refine lv_if_ne (tgt := 43) hx hb dX12_stop_36 (by decide) (fun c36 => ?_) (fun c36 => ?_)
          ·
            have i36 := ci_ne (x := r_1) (y := 0) rfl (show (0 : Int32).toInt = 0 by decide) c36
            refine lv_aload_n hx hb dX12_stop_43 rfl (lv_at hl 3 rfl) ?_
            refine cs_get F St 3 rfl rfl inX12 0 (by decide) kf_X12_114 rfl dX12_stop_44 ?_
            refine lv_bipush (v := 8) hx hb dX12_stop_47 (by decide) ?_
            refine cs_ild F St 0 1 rfl rfl (vp_in_iff.mpr (by decide)) dX12_stop_49 ?_
            refine lv_topi (fun y_4 ey_4 => ?_)
            refine lv_iconst (v := 1) hx hb dX12_stop_50 (by decide) ?_
            refine lv_icmp_ne (tgt := 71) hx hb dX12_stop_51 (by decide) (fun c51 => ?_) (fun c51 => ?_)
            ·
              have i51 := ci_ne (x := y_4) (y := 1) rfl (show (1 : Int32).toInt = 1 by decide) c51
              refine lv_aload_n hx hb dX12_stop_71 rfl (lv_at hl 3 rfl) ?_
              refine cs_get F St 3 rfl rfl inX12 14 (by decide) kf_X12_262 rfl dX12_stop_72 ?_
              refine lv_i2l (v := v_coin.toInt64) hx hb dX12_stop_75 rfl ?_
              refine lv_aload_n hx hb dX12_stop_76 rfl (lv_at hl 3 rfl) ?_
              refine cs_get F St 3 rfl rfl inX12 26 (by decide) kf_X12_126 rfl dX12_stop_77 ?_
              refine lv_iload_n hx hb dX12_stop_80 rfl (lv_at hl 0 rfl) ?_
              refine cs_ild F St 1 2 rfl rfl (vp_in_iff.mpr ⟨by omega, by omega⟩) dX12_stop_81 ?_
              refine lv_topi (fun y_5 ey_5 => ?_)
              refine lv_i2l (v := y_5.toInt64) hx hb dX12_stop_82 rfl ?_
              refine lv_lmul hx hb dX12_stop_83 ?_
              refine lv_topl (fun y_6 ey_6 => ?_)
              refine lv_iload_n hx hb dX12_stop_84 rfl (lv_at hl 2 rfl) ?_
              refine lv_i2l (v := r_1.toInt64) hx hb dX12_stop_85 rfl ?_
              refine lv_ldiv hx hb dX12_stop_86 (ne0_j c36) ?_
              refine lv_topl (fun y_7 ey_7 => ?_)
              refine lv_l2i (v := y_7.toInt32) hx hb dX12_stop_87 rfl ?_
              refine cs_ist F St 2 3 rfl rfl (vp_in_iff.mpr ⟨by omega, by omega⟩) (w' := [((a 0), .inl ((d 0), 9, .inl f_rule)), ((a 7), .inl ((d 7), 30, .inl f_given)), ((a 8), .inl ((d 8), 30, .inl (upd fb (kk : Int32).toNatClampNeg y_7.toInt32))), (h, .inr (12, [.ref (a 0), .ref (a 1), .ref (a 2), .ref (a 3), .int v_taped, .int v_size, .int v_from, .int v_behind, .int v_hand, .int v_value, .int v_fault, .int v_faultAt, .ref (a 4), .int v_clock, .int v_coin, .int v_loan, .int v_matched, .int v_taxed, .int v_paidStages, .int v_grown, .int v_pledges, .int v_sums, .int v_stages, .int 1, .ref (a 5), .ref (a 6), .ref (a 7), .ref (a 8), .ref (a 9), .ref (a 10), .ref (a 11), .ref (a 12), .ref (a 13), .ref (a 14), .ref (a 15), .ref (a 16), .ref (a 17), .ref (a 18), .ref (a 19), .ref (a 20), .ref (a 21), .ref (a 22), .ref (a 23), .ref (a 24), .ref (a 25), .ref (a 26), .ref (a 27), .ref (a 28), .ref (a 29), .ref (a 30), .int v_begun, .ref (a 31), .ref (a 32)])), ((a 24), .inl ((d 24), 250, .inl f_sumPence))]) rfl dX12_stop_88 (fun H locs St => ?_)
              obtain ⟨f_8, ef_8⟩ : ∃ zz : Nat → Int32, zz = upd fb (kk : Int32).toNatClampNeg y_7.toInt32 := ⟨_, rfl⟩
              rw [← ef_8] at St
              refine lv_iload_n hx hb dX12_stop_89 rfl (lv_at hl 1 rfl) ?_
              refine lv_aload_n hx hb dX12_stop_90 rfl (lv_at hl 3 rfl) ?_
              refine cs_get F St 3 rfl rfl inX12 27 (by decide) kf_X12_129 rfl dX12_stop_91 ?_
              refine lv_iload_n hx hb dX12_stop_94 rfl (lv_at hl 0 rfl) ?_
              refine cs_ild F St 2 3 rfl rfl (vp_in_iff.mpr ⟨by omega, by omega⟩) dX12_stop_95 ?_
              refine lv_topi (fun y_9 ey_9 => ?_)
              refine lv_iadd hx hb dX12_stop_96 ?_
              refine lv_topi (fun y_10 ey_10 => ?_)
              first | have jy_10 : y_10.toInt = gg.toInt + y_9.toInt := (by have q9 := ci_add (x := gg) (y := y_9) rfl rfl ey_10; omega) | have jy_10 := ci_add (x := gg) (y := y_9) rfl rfl ey_10
              refine lv_istore_n (lv' := [(2, .int y_10), (3, .int kk), (1, .int r_1), (0, .ref h)]) hx hb dX12_stop_97 rfl hl (by decide) rfl (fun ls hl => ?_)
              obtain ⟨y_11, ey_11⟩ : ∃ zz : Int32, zz = kk + 1 := ⟨_, rfl⟩
              first | have jy_11 : y_11.toInt = kk.toInt + 1 := (by have q9 := ci_add (x := kk) rfl (show (1 : Int32).toInt = 1 by decide) ey_11; omega) | have jy_11 := ci_add (x := kk) rfl (show (1 : Int32).toInt = 1 by decide) ey_11
              refine lv_iinc (v := y_11) (lv' := [(3, .int y_11), (2, .int y_10), (1, .int r_1), (0, .ref h)]) hx hb dX12_stop_98 hl (k := 1) rfl (by rw [ey_11]; rfl) (by decide) rfl (fun ls hl => ?_)
              refine lv_goto (tgt := 24) hx hb dX12_stop_101 (by decide) ?_
              exact ih y_11 y_10 f_8 _ _ _ ⟨by omega, by omega⟩ (by omega) St (lv_sub hl [0, 1, 2, 3] rfl)
            ·
              have i51 := ci_eq (x := y_4) (y := 1) rfl (show (1 : Int32).toInt = 1 by decide) c51
              refine lv_aload_n hx hb dX12_stop_54 rfl (lv_at hl 3 rfl) ?_
              refine cs_get F St 3 rfl rfl inX12 14 (by decide) kf_X12_262 rfl dX12_stop_55 ?_
              refine lv_iload_n hx hb dX12_stop_58 rfl (lv_at hl 2 rfl) ?_
              refine lv_icmp_lt (tgt := 71) hx hb dX12_stop_59 (by decide) (fun c59 => ?_) (fun c59 => ?_)
              ·
                have i59 := ci_lt (x := v_coin) (y := r_1) rfl rfl c59
                refine lv_aload_n hx hb dX12_stop_71 rfl (lv_at hl 3 rfl) ?_
                refine cs_get F St 3 rfl rfl inX12 14 (by decide) kf_X12_262 rfl dX12_stop_72 ?_
                refine lv_i2l (v := v_coin.toInt64) hx hb dX12_stop_75 rfl ?_
                refine lv_aload_n hx hb dX12_stop_76 rfl (lv_at hl 3 rfl) ?_
                refine cs_get F St 3 rfl rfl inX12 26 (by decide) kf_X12_126 rfl dX12_stop_77 ?_
                refine lv_iload_n hx hb dX12_stop_80 rfl (lv_at hl 0 rfl) ?_
                refine cs_ild F St 1 2 rfl rfl (vp_in_iff.mpr ⟨by omega, by omega⟩) dX12_stop_81 ?_
                refine lv_topi (fun y_12 ey_12 => ?_)
                refine lv_i2l (v := y_12.toInt64) hx hb dX12_stop_82 rfl ?_
                refine lv_lmul hx hb dX12_stop_83 ?_
                refine lv_topl (fun y_13 ey_13 => ?_)
                refine lv_iload_n hx hb dX12_stop_84 rfl (lv_at hl 2 rfl) ?_
                refine lv_i2l (v := r_1.toInt64) hx hb dX12_stop_85 rfl ?_
                refine lv_ldiv hx hb dX12_stop_86 (ne0_j c36) ?_
                refine lv_topl (fun y_14 ey_14 => ?_)
                refine lv_l2i (v := y_14.toInt32) hx hb dX12_stop_87 rfl ?_
                refine cs_ist F St 2 3 rfl rfl (vp_in_iff.mpr ⟨by omega, by omega⟩) (w' := [((a 0), .inl ((d 0), 9, .inl f_rule)), ((a 7), .inl ((d 7), 30, .inl f_given)), ((a 8), .inl ((d 8), 30, .inl (upd fb (kk : Int32).toNatClampNeg y_14.toInt32))), (h, .inr (12, [.ref (a 0), .ref (a 1), .ref (a 2), .ref (a 3), .int v_taped, .int v_size, .int v_from, .int v_behind, .int v_hand, .int v_value, .int v_fault, .int v_faultAt, .ref (a 4), .int v_clock, .int v_coin, .int v_loan, .int v_matched, .int v_taxed, .int v_paidStages, .int v_grown, .int v_pledges, .int v_sums, .int v_stages, .int 1, .ref (a 5), .ref (a 6), .ref (a 7), .ref (a 8), .ref (a 9), .ref (a 10), .ref (a 11), .ref (a 12), .ref (a 13), .ref (a 14), .ref (a 15), .ref (a 16), .ref (a 17), .ref (a 18), .ref (a 19), .ref (a 20), .ref (a 21), .ref (a 22), .ref (a 23), .ref (a 24), .ref (a 25), .ref (a 26), .ref (a 27), .ref (a 28), .ref (a 29), .ref (a 30), .int v_begun, .ref (a 31), .ref (a 32)])), ((a 24), .inl ((d 24), 250, .inl f_sumPence))]) rfl dX12_stop_88 (fun H locs St => ?_)
                obtain ⟨f_15, ef_15⟩ : ∃ zz : Nat → Int32, zz = upd fb (kk : Int32).toNatClampNeg y_14.toInt32 := ⟨_, rfl⟩
                rw [← ef_15] at St
                refine lv_iload_n hx hb dX12_stop_89 rfl (lv_at hl 1 rfl) ?_
                refine lv_aload_n hx hb dX12_stop_90 rfl (lv_at hl 3 rfl) ?_
                refine cs_get F St 3 rfl rfl inX12 27 (by decide) kf_X12_129 rfl dX12_stop_91 ?_
                refine lv_iload_n hx hb dX12_stop_94 rfl (lv_at hl 0 rfl) ?_
                refine cs_ild F St 2 3 rfl rfl (vp_in_iff.mpr ⟨by omega, by omega⟩) dX12_stop_95 ?_
                refine lv_topi (fun y_16 ey_16 => ?_)
                refine lv_iadd hx hb dX12_stop_96 ?_
                refine lv_topi (fun y_17 ey_17 => ?_)
                first | have jy_17 : y_17.toInt = gg.toInt + y_16.toInt := (by have q9 := ci_add (x := gg) (y := y_16) rfl rfl ey_17; omega) | have jy_17 := ci_add (x := gg) (y := y_16) rfl rfl ey_17
                refine lv_istore_n (lv' := [(2, .int y_17), (3, .int kk), (1, .int r_1), (0, .ref h)]) hx hb dX12_stop_97 rfl hl (by decide) rfl (fun ls hl => ?_)
                obtain ⟨y_18, ey_18⟩ : ∃ zz : Int32, zz = kk + 1 := ⟨_, rfl⟩
                first | have jy_18 : y_18.toInt = kk.toInt + 1 := (by have q9 := ci_add (x := kk) rfl (show (1 : Int32).toInt = 1 by decide) ey_18; omega) | have jy_18 := ci_add (x := kk) rfl (show (1 : Int32).toInt = 1 by decide) ey_18
                refine lv_iinc (v := y_18) (lv' := [(3, .int y_18), (2, .int y_17), (1, .int r_1), (0, .ref h)]) hx hb dX12_stop_98 hl (k := 1) rfl (by rw [ey_18]; rfl) (by decide) rfl (fun ls hl => ?_)
                refine lv_goto (tgt := 24) hx hb dX12_stop_101 (by decide) ?_
                exact ih y_18 y_17 f_15 _ _ _ ⟨by omega, by omega⟩ (by omega) St (lv_sub hl [0, 1, 2, 3] rfl)
              ·
                have i59 := ci_nlt (x := v_coin) (y := r_1) rfl rfl c59
                refine lv_aload_n hx hb dX12_stop_62 rfl (lv_at hl 3 rfl) ?_
                refine cs_get F St 3 rfl rfl inX12 26 (by decide) kf_X12_126 rfl dX12_stop_63 ?_
                refine lv_iload_n hx hb dX12_stop_66 rfl (lv_at hl 0 rfl) ?_
                refine cs_ild F St 1 2 rfl rfl (vp_in_iff.mpr ⟨by omega, by omega⟩) dX12_stop_67 ?_
                refine lv_topi (fun y_19 ey_19 => ?_)
                refine lv_goto (tgt := 88) hx hb dX12_stop_68 (by decide) ?_
                refine cs_ist F St 2 3 rfl rfl (vp_in_iff.mpr ⟨by omega, by omega⟩) (w' := [((a 0), .inl ((d 0), 9, .inl f_rule)), ((a 7), .inl ((d 7), 30, .inl f_given)), ((a 8), .inl ((d 8), 30, .inl (upd fb (kk : Int32).toNatClampNeg y_19))), (h, .inr (12, [.ref (a 0), .ref (a 1), .ref (a 2), .ref (a 3), .int v_taped, .int v_size, .int v_from, .int v_behind, .int v_hand, .int v_value, .int v_fault, .int v_faultAt, .ref (a 4), .int v_clock, .int v_coin, .int v_loan, .int v_matched, .int v_taxed, .int v_paidStages, .int v_grown, .int v_pledges, .int v_sums, .int v_stages, .int 1, .ref (a 5), .ref (a 6), .ref (a 7), .ref (a 8), .ref (a 9), .ref (a 10), .ref (a 11), .ref (a 12), .ref (a 13), .ref (a 14), .ref (a 15), .ref (a 16), .ref (a 17), .ref (a 18), .ref (a 19), .ref (a 20), .ref (a 21), .ref (a 22), .ref (a 23), .ref (a 24), .ref (a 25), .ref (a 26), .ref (a 27), .ref (a 28), .ref (a 29), .ref (a 30), .int v_begun, .ref (a 31), .ref (a 32)])), ((a 24), .inl ((d 24), 250, .inl f_sumPence))]) rfl dX12_stop_88 (fun H locs St => ?_)
                obtain ⟨f_20, ef_20⟩ : ∃ zz : Nat → Int32, zz = upd fb (kk : Int32).toNatClampNeg y_19 := ⟨_, rfl⟩
                rw [← ef_20] at St
                refine lv_iload_n hx hb dX12_stop_89 rfl (lv_at hl 1 rfl) ?_
                refine lv_aload_n hx hb dX12_stop_90 rfl (lv_at hl 3 rfl) ?_
                refine cs_get F St 3 rfl rfl inX12 27 (by decide) kf_X12_129 rfl dX12_stop_91 ?_
                refine lv_iload_n hx hb dX12_stop_94 rfl (lv_at hl 0 rfl) ?_
                refine cs_ild F St 2 3 rfl rfl (vp_in_iff.mpr ⟨by omega, by omega⟩) dX12_stop_95 ?_
                refine lv_topi (fun y_21 ey_21 => ?_)
                refine lv_iadd hx hb dX12_stop_96 ?_
                refine lv_topi (fun y_22 ey_22 => ?_)
                first | have jy_22 : y_22.toInt = gg.toInt + y_21.toInt := (by have q9 := ci_add (x := gg) (y := y_21) rfl rfl ey_22; omega) | have jy_22 := ci_add (x := gg) (y := y_21) rfl rfl ey_22
                refine lv_istore_n (lv' := [(2, .int y_22), (3, .int kk), (1, .int r_1), (0, .ref h)]) hx hb dX12_stop_97 rfl hl (by decide) rfl (fun ls hl => ?_)
                obtain ⟨y_23, ey_23⟩ : ∃ zz : Int32, zz = kk + 1 := ⟨_, rfl⟩
                first | have jy_23 : y_23.toInt = kk.toInt + 1 := (by have q9 := ci_add (x := kk) rfl (show (1 : Int32).toInt = 1 by decide) ey_23; omega) | have jy_23 := ci_add (x := kk) rfl (show (1 : Int32).toInt = 1 by decide) ey_23
                refine lv_iinc (v := y_23) (lv' := [(3, .int y_23), (2, .int y_22), (1, .int r_1), (0, .ref h)]) hx hb dX12_stop_98 hl (k := 1) rfl (by rw [ey_23]; rfl) (by decide) rfl (fun ls hl => ?_)
                refine lv_goto (tgt := 24) hx hb dX12_stop_101 (by decide) ?_
                exact ih y_23 y_22 f_20 _ _ _ ⟨by omega, by omega⟩ (by omega) St (lv_sub hl [0, 1, 2, 3] rfl)
          ·
            have i36 := ci_eq (x := r_1) (y := 0) rfl (show (0 : Int32).toInt = 0 by decide) c36
            refine lv_iconst (v := 0) hx hb dX12_stop_39 (by decide) ?_
            refine lv_goto (tgt := 88) hx hb dX12_stop_40 (by decide) ?_
            refine cs_ist F St 2 3 rfl rfl (vp_in_iff.mpr ⟨by omega, by omega⟩) (w' := [((a 0), .inl ((d 0), 9, .inl f_rule)), ((a 7), .inl ((d 7), 30, .inl f_given)), ((a 8), .inl ((d 8), 30, .inl (upd fb (kk : Int32).toNatClampNeg 0))), (h, .inr (12, [.ref (a 0), .ref (a 1), .ref (a 2), .ref (a 3), .int v_taped, .int v_size, .int v_from, .int v_behind, .int v_hand, .int v_value, .int v_fault, .int v_faultAt, .ref (a 4), .int v_clock, .int v_coin, .int v_loan, .int v_matched, .int v_taxed, .int v_paidStages, .int v_grown, .int v_pledges, .int v_sums, .int v_stages, .int 1, .ref (a 5), .ref (a 6), .ref (a 7), .ref (a 8), .ref (a 9), .ref (a 10), .ref (a 11), .ref (a 12), .ref (a 13), .ref (a 14), .ref (a 15), .ref (a 16), .ref (a 17), .ref (a 18), .ref (a 19), .ref (a 20), .ref (a 21), .ref (a 22), .ref (a 23), .ref (a 24), .ref (a 25), .ref (a 26), .ref (a 27), .ref (a 28), .ref (a 29), .ref (a 30), .int v_begun, .ref (a 31), .ref (a 32)])), ((a 24), .inl ((d 24), 250, .inl f_sumPence))]) rfl dX12_stop_88 (fun H locs St => ?_)
            obtain ⟨f_24, ef_24⟩ : ∃ zz : Nat → Int32, zz = upd fb (kk : Int32).toNatClampNeg 0 := ⟨_, rfl⟩
            rw [← ef_24] at St
            refine lv_iload_n hx hb dX12_stop_89 rfl (lv_at hl 1 rfl) ?_
            refine lv_aload_n hx hb dX12_stop_90 rfl (lv_at hl 3 rfl) ?_
            refine cs_get F St 3 rfl rfl inX12 27 (by decide) kf_X12_129 rfl dX12_stop_91 ?_
            refine lv_iload_n hx hb dX12_stop_94 rfl (lv_at hl 0 rfl) ?_
            refine cs_ild F St 2 3 rfl rfl (vp_in_iff.mpr ⟨by omega, by omega⟩) dX12_stop_95 ?_
            refine lv_topi (fun y_25 ey_25 => ?_)
            refine lv_iadd hx hb dX12_stop_96 ?_
            refine lv_topi (fun y_26 ey_26 => ?_)
            first | have jy_26 : y_26.toInt = gg.toInt + y_25.toInt := (by have q9 := ci_add (x := gg) (y := y_25) rfl rfl ey_26; omega) | have jy_26 := ci_add (x := gg) (y := y_25) rfl rfl ey_26
            refine lv_istore_n (lv' := [(2, .int y_26), (3, .int kk), (1, .int r_1), (0, .ref h)]) hx hb dX12_stop_97 rfl hl (by decide) rfl (fun ls hl => ?_)
            obtain ⟨y_27, ey_27⟩ : ∃ zz : Int32, zz = kk + 1 := ⟨_, rfl⟩
            first | have jy_27 : y_27.toInt = kk.toInt + 1 := (by have q9 := ci_add (x := kk) rfl (show (1 : Int32).toInt = 1 by decide) ey_27; omega) | have jy_27 := ci_add (x := kk) rfl (show (1 : Int32).toInt = 1 by decide) ey_27
            refine lv_iinc (v := y_27) (lv' := [(3, .int y_27), (2, .int y_26), (1, .int r_1), (0, .ref h)]) hx hb dX12_stop_98 hl (k := 1) rfl (by rw [ey_27]; rfl) (by decide) rfl (fun ls hl => ?_)
            refine lv_goto (tgt := 24) hx hb dX12_stop_101 (by decide) ?_
            exact ih y_27 y_26 f_24 _ _ _ ⟨by omega, by omega⟩ (by omega) St (lv_sub hl [0, 1, 2, 3] rfl)
    exact lp24 31 0 0 f_back _ _ _ ⟨by omega, by omega⟩ (by omega) St (lv_sub hl [0, 1, 2, 3] rfl)
  ·
    have i4 := ci_ne (x := v_isStopped) (y := 0) rfl (show (0 : Int32).toInt = 0 by decide) c4
    refine lv_bipush (v := (-4)) hx hb dX12_stop_7 (by decide) ?_
    exact cs_iret F hr hlk hQ St (v_isStopped, v_coin, f_back) (r := (-4)) (hz.resolve_left c4) [0, 1, 2, 3, 4] rfl (by decide) [] rfl (by decide) (by decide) dX12_stop_9
set_option maxHeartbeats 4000000 in
set_option maxRecDepth 100000 in
theorem m_back (l : Launch) (G : va_G) (k : Nat → Nat) (sz : Nat) (h : Nat) (a : Nat → Nat) (d : Nat → ClassId) (v_taped : Int32) (v_size : Int32) (v_from : Int32) (v_behind : Int32) (v_hand : Int32) (v_value : Int32) (v_fault : Int32) (v_faultAt : Int32) (v_clock : Int32) (v_coin : Int32) (v_loan : Int32) (v_matched : Int32) (v_taxed : Int32) (v_paidStages : Int32) (v_grown : Int32) (v_pledges : Int32) (v_sums : Int32) (v_stages : Int32) (v_isStopped : Int32) (v_begun : Int32) (f_back : Nat → Int32) (x1 : Int32) : Met l yX12_back (Cond.code yX12_back cX12_back 2 (some .int) :: tb) ({ frames := 2, cells := 0, slots := 0, locals := 45 } : Room) (va_Pc [.ref h, .int x1] (cP G k [(h, .inr (12, [.ref (a 0), .ref (a 1), .ref (a 2), .ref (a 3), .int v_taped, .int v_size, .int v_from, .int v_behind, .int v_hand, .int v_value, .int v_fault, .int v_faultAt, .ref (a 4), .int v_clock, .int v_coin, .int v_loan, .int v_matched, .int v_taxed, .int v_paidStages, .int v_grown, .int v_pledges, .int v_sums, .int v_stages, .int v_isStopped, .ref (a 5), .ref (a 6), .ref (a 7), .ref (a 8), .ref (a 9), .ref (a 10), .ref (a 11), .ref (a 12), .ref (a 13), .ref (a 14), .ref (a 15), .ref (a 16), .ref (a 17), .ref (a 18), .ref (a 19), .ref (a 20), .ref (a 21), .ref (a 22), .ref (a 23), .ref (a 24), .ref (a 25), .ref (a 26), .ref (a 27), .ref (a 28), .ref (a 29), .ref (a 30), .int v_begun, .ref (a 31), .ref (a 32)])), ((a 8), .inl ((d 8), 30, .inl f_back))] [((d 8), .int)] sz)) (va_Qi (fun (r : Int32) (_ : Unit) => True) (cB G (fun (_ : Unit) => [(h, .inr (12, [.ref (a 0), .ref (a 1), .ref (a 2), .ref (a 3), .int v_taped, .int v_size, .int v_from, .int v_behind, .int v_hand, .int v_value, .int v_fault, .int v_faultAt, .ref (a 4), .int v_clock, .int v_coin, .int v_loan, .int v_matched, .int v_taxed, .int v_paidStages, .int v_grown, .int v_pledges, .int v_sums, .int v_stages, .int v_isStopped, .ref (a 5), .ref (a 6), .ref (a 7), .ref (a 8), .ref (a 9), .ref (a 10), .ref (a 11), .ref (a 12), .ref (a 13), .ref (a 14), .ref (a 15), .ref (a 16), .ref (a 17), .ref (a 18), .ref (a 19), .ref (a 20), .ref (a 21), .ref (a 22), .ref (a 23), .ref (a 24), .ref (a 25), .ref (a 26), .ref (a 27), .ref (a 28), .ref (a 29), .ref (a 30), .int v_begun, .ref (a 31), .ref (a 32)])), ((a 8), .inl ((d 8), 30, .inl f_back))]) (fun (_ : Unit) => []) (va_A [(h, .inr (12, [.ref (a 0), .ref (a 1), .ref (a 2), .ref (a 3), .int v_taped, .int v_size, .int v_from, .int v_behind, .int v_hand, .int v_value, .int v_fault, .int v_faultAt, .ref (a 4), .int v_clock, .int v_coin, .int v_loan, .int v_matched, .int v_taxed, .int v_paidStages, .int v_grown, .int v_pledges, .int v_sums, .int v_stages, .int v_isStopped, .ref (a 5), .ref (a 6), .ref (a 7), .ref (a 8), .ref (a 9), .ref (a 10), .ref (a 11), .ref (a 12), .ref (a 13), .ref (a 14), .ref (a 15), .ref (a 16), .ref (a 17), .ref (a 18), .ref (a 19), .ref (a 20), .ref (a 21), .ref (a 22), .ref (a 23), .ref (a 24), .ref (a 25), .ref (a 26), .ref (a 27), .ref (a 28), .ref (a 29), .ref (a 30), .int v_begun, .ref (a 31), .ref (a 32)])), ((a 8), .inl ((d 8), 30, .inl f_back))] sz)) (va_A [(h, .inr (12, [.ref (a 0), .ref (a 1), .ref (a 2), .ref (a 3), .int v_taped, .int v_size, .int v_from, .int v_behind, .int v_hand, .int v_value, .int v_fault, .int v_faultAt, .ref (a 4), .int v_clock, .int v_coin, .int v_loan, .int v_matched, .int v_taxed, .int v_paidStages, .int v_grown, .int v_pledges, .int v_sums, .int v_stages, .int v_isStopped, .ref (a 5), .ref (a 6), .ref (a 7), .ref (a 8), .ref (a 9), .ref (a 10), .ref (a 11), .ref (a 12), .ref (a 13), .ref (a 14), .ref (a 15), .ref (a 16), .ref (a 17), .ref (a 18), .ref (a 19), .ref (a 20), .ref (a 21), .ref (a 22), .ref (a 23), .ref (a 24), .ref (a 25), .ref (a 26), .ref (a 27), .ref (a 28), .ref (a 29), .ref (a 30), .int v_begun, .ref (a 31), .ref (a 32)])), ((a 8), .inl ((d 8), 30, .inl f_back))] sz)) 0 0 (va_A [(h, .inr (12, [.ref (a 0), .ref (a 1), .ref (a 2), .ref (a 3), .int v_taped, .int v_size, .int v_from, .int v_behind, .int v_hand, .int v_value, .int v_fault, .int v_faultAt, .ref (a 4), .int v_clock, .int v_coin, .int v_loan, .int v_matched, .int v_taxed, .int v_paidStages, .int v_grown, .int v_pledges, .int v_sums, .int v_stages, .int v_isStopped, .ref (a 5), .ref (a 6), .ref (a 7), .ref (a 8), .ref (a 9), .ref (a 10), .ref (a 11), .ref (a 12), .ref (a 13), .ref (a 14), .ref (a 15), .ref (a 16), .ref (a 17), .ref (a 18), .ref (a 19), .ref (a 20), .ref (a 21), .ref (a 22), .ref (a 23), .ref (a 24), .ref (a 25), .ref (a 26), .ref (a 27), .ref (a 28), .ref (a 29), .ref (a 30), .int v_begun, .ref (a 31), .ref (a 32)])), ((a 8), .inl ((d 8), 30, .inl f_back))] sz) := by
  refine ofC_i (cc := cX12_back) (maxL := 2) (ret := (some .int)) (by decide) rfl (Nat.le_of_ble_eq_true rfl) ?_
  intro p e s m args below meth c A ls Q F hr hin hlk St hl hQ
  have hx := F.1
  have hb := F.2.1
  have hl : lv_has ls 2 [(0, .ref h), (1, .int x1)] := hl
  have St : cS G k [(h, .inr (12, [.ref (a 0), .ref (a 1), .ref (a 2), .ref (a 3), .int v_taped, .int v_size, .int v_from, .int v_behind, .int v_hand, .int v_value, .int v_fault, .int v_faultAt, .ref (a 4), .int v_clock, .int v_coin, .int v_loan, .int v_matched, .int v_taxed, .int v_paidStages, .int v_grown, .int v_pledges, .int v_sums, .int v_stages, .int v_isStopped, .ref (a 5), .ref (a 6), .ref (a 7), .ref (a 8), .ref (a 9), .ref (a 10), .ref (a 11), .ref (a 12), .ref (a 13), .ref (a 14), .ref (a 15), .ref (a 16), .ref (a 17), .ref (a 18), .ref (a 19), .ref (a 20), .ref (a 21), .ref (a 22), .ref (a 23), .ref (a 24), .ref (a 25), .ref (a 26), .ref (a 27), .ref (a 28), .ref (a 29), .ref (a 30), .int v_begun, .ref (a 31), .ref (a 32)])), ((a 8), .inl ((d 8), 30, .inl f_back))] [((d 8), .int)] A s s.heap [] := St
  refine lv_iload_n hx hb dX12_back_0 rfl (lv_at hl 1 rfl) ?_
  refine cs_i St [] [0, 1] (wc := []) (wr := [(h, .inr (12, [.ref (a 0), .ref (a 1), .ref (a 2), .ref (a 3), .int v_taped, .int v_size, .int v_from, .int v_behind, .int v_hand, .int v_value, .int v_fault, .int v_faultAt, .ref (a 4), .int v_clock, .int v_coin, .int v_loan, .int v_matched, .int v_taxed, .int v_paidStages, .int v_grown, .int v_pledges, .int v_sums, .int v_stages, .int v_isStopped, .ref (a 5), .ref (a 6), .ref (a 7), .ref (a 8), .ref (a 9), .ref (a 10), .ref (a 11), .ref (a 12), .ref (a 13), .ref (a 14), .ref (a 15), .ref (a 16), .ref (a 17), .ref (a 18), .ref (a 19), .ref (a 20), .ref (a 21), .ref (a 22), .ref (a 23), .ref (a 24), .ref (a 25), .ref (a 26), .ref (a 27), .ref (a 28), .ref (a 29), .ref (a 30), .int v_begun, .ref (a 31), .ref (a 32)])), ((a 8), .inl ((d 8), 30, .inl f_back))]) rfl rfl (by decide) (by decide) (va_runS (As := [.int x1]) (rest := []) F (c12_isGiver l G k _ x1) (cwSt F mf_X12_isGiver km_X12_218 rfl rfl ⟨Nat.le_of_ble_eq_true rfl, Nat.le_of_ble_eq_true rfl⟩) (cs_pre St [] rfl (by decide) [] rfl) rfl rfl hl.1 rfl (lv_room (Nat.le_of_ble_eq_true rfl)) dX12_back_1 ⟨Nat.le_of_ble_eq_true rfl, Nat.le_of_ble_eq_true rfl⟩) (fun r_1 u_2 H locs hw St => ?_)
  try dsimp only at hw
  rcases hw with ⟨z_3, hf_4⟩ | ⟨z_5, hf_6⟩
  ·
    subst r_1
    have St : cS G k [(h, .inr (12, [.ref (a 0), .ref (a 1), .ref (a 2), .ref (a 3), .int v_taped, .int v_size, .int v_from, .int v_behind, .int v_hand, .int v_value, .int v_fault, .int v_faultAt, .ref (a 4), .int v_clock, .int v_coin, .int v_loan, .int v_matched, .int v_taxed, .int v_paidStages, .int v_grown, .int v_pledges, .int v_sums, .int v_stages, .int v_isStopped, .ref (a 5), .ref (a 6), .ref (a 7), .ref (a 8), .ref (a 9), .ref (a 10), .ref (a 11), .ref (a 12), .ref (a 13), .ref (a 14), .ref (a 15), .ref (a 16), .ref (a 17), .ref (a 18), .ref (a 19), .ref (a 20), .ref (a 21), .ref (a 22), .ref (a 23), .ref (a 24), .ref (a 25), .ref (a 26), .ref (a 27), .ref (a 28), .ref (a 29), .ref (a 30), .int v_begun, .ref (a 31), .ref (a 32)])), ((a 8), .inl ((d 8), 30, .inl f_back))] [((d 8), .int)] A s H locs := St
    refine lv_if_eq (tgt := 16) hx hb dX12_back_4 (by decide) (fun c4 => ?_) (fun c4 => ?_)
    · exact absurd c4 (by decide)
    refine lv_aload_n hx hb dX12_back_7 rfl (lv_at hl 0 rfl) ?_
    refine cs_get F St 0 rfl rfl inX12 27 (by decide) kf_X12_129 rfl dX12_back_8 ?_
    refine lv_iload_n hx hb dX12_back_11 rfl (lv_at hl 1 rfl) ?_
    refine cs_ild F St 1 0 rfl rfl (vp_in_iff.mpr ⟨by omega, by omega⟩) dX12_back_12 ?_
    refine lv_topi (fun y_7 ey_7 => ?_)
    refine lv_goto (tgt := 18) hx hb dX12_back_13 (by decide) ?_
    exact cs_iret F hr hlk hQ St () (r := y_7) (by trivial) [0, 1] rfl (by decide) [] rfl (by decide) (by decide) dX12_back_18
  ·
    subst r_1
    have St : cS G k [(h, .inr (12, [.ref (a 0), .ref (a 1), .ref (a 2), .ref (a 3), .int v_taped, .int v_size, .int v_from, .int v_behind, .int v_hand, .int v_value, .int v_fault, .int v_faultAt, .ref (a 4), .int v_clock, .int v_coin, .int v_loan, .int v_matched, .int v_taxed, .int v_paidStages, .int v_grown, .int v_pledges, .int v_sums, .int v_stages, .int v_isStopped, .ref (a 5), .ref (a 6), .ref (a 7), .ref (a 8), .ref (a 9), .ref (a 10), .ref (a 11), .ref (a 12), .ref (a 13), .ref (a 14), .ref (a 15), .ref (a 16), .ref (a 17), .ref (a 18), .ref (a 19), .ref (a 20), .ref (a 21), .ref (a 22), .ref (a 23), .ref (a 24), .ref (a 25), .ref (a 26), .ref (a 27), .ref (a 28), .ref (a 29), .ref (a 30), .int v_begun, .ref (a 31), .ref (a 32)])), ((a 8), .inl ((d 8), 30, .inl f_back))] [((d 8), .int)] A s H locs := St
    refine lv_if_eq (tgt := 16) hx hb dX12_back_4 (by decide) (fun c4 => ?_) (fun c4 => ?_)
    rotate_left
    · exact absurd (by decide) c4
    refine lv_bipush (v := (-2)) hx hb dX12_back_16 (by decide) ?_
    exact cs_iret F hr hlk hQ St () (r := (-2)) (by trivial) [0, 1] rfl (by decide) [] rfl (by decide) (by decide) dX12_back_18
set_option maxHeartbeats 4000000 in
set_option maxRecDepth 100000 in
theorem m_count (l : Launch) (G : va_G) (k : Nat → Nat) (sz : Nat) (h : Nat) (a : Nat → Nat) (d : Nat → ClassId) (v_taped : Int32) (v_size : Int32) (v_from : Int32) (v_behind : Int32) (v_hand : Int32) (v_value : Int32) (v_fault : Int32) (v_faultAt : Int32) (v_clock : Int32) (v_coin : Int32) (v_loan : Int32) (v_matched : Int32) (v_taxed : Int32) (v_paidStages : Int32) (v_grown : Int32) (v_pledges : Int32) (v_sums : Int32) (v_stages : Int32) (v_isStopped : Int32) (v_begun : Int32) (f_isLapsed : Nat → Int32) (f_sum : Nat → Int32) (f_stones : Nat → Int32) (f_sumGiver : Nat → Int32) (f_sumPence : Nat → Int32) (f_isNameless : Nat → Int32) (f_rule : Nat → Int32) (x1 : Int32) (hPn : 0 ≤ v_pledges.toInt ∧ v_pledges.toInt ≤ 60) (hSg : mGi v_sums f_sumGiver) (hSp : mSp v_sums f_sumPence) : Met l yX12_count (Cond.code yX12_count cX12_count 4 (some .int) :: tb) ({ frames := 1, cells := 0, slots := 0, locals := 24 } : Room) (va_Pc [.ref h, .int x1] (cP G k [(h, .inr (12, [.ref (a 0), .ref (a 1), .ref (a 2), .ref (a 3), .int v_taped, .int v_size, .int v_from, .int v_behind, .int v_hand, .int v_value, .int v_fault, .int v_faultAt, .ref (a 4), .int v_clock, .int v_coin, .int v_loan, .int v_matched, .int v_taxed, .int v_paidStages, .int v_grown, .int v_pledges, .int v_sums, .int v_stages, .int v_isStopped, .ref (a 5), .ref (a 6), .ref (a 7), .ref (a 8), .ref (a 9), .ref (a 10), .ref (a 11), .ref (a 12), .ref (a 13), .ref (a 14), .ref (a 15), .ref (a 16), .ref (a 17), .ref (a 18), .ref (a 19), .ref (a 20), .ref (a 21), .ref (a 22), .ref (a 23), .ref (a 24), .ref (a 25), .ref (a 26), .ref (a 27), .ref (a 28), .ref (a 29), .ref (a 30), .int v_begun, .ref (a 31), .ref (a 32)])), ((a 16), .inl ((d 16), 60, .inl f_isLapsed)), ((a 31), .inl ((d 31), 30, .inl f_sum)), ((a 32), .inl ((d 32), 30, .inl f_stones)), ((a 22), .inl ((d 22), 250, .inl f_sumGiver)), ((a 24), .inl ((d 24), 250, .inl f_sumPence)), ((a 9), .inl ((d 9), 30, .inl f_isNameless)), ((a 0), .inl ((d 0), 9, .inl f_rule))] [((d 16), .boolean), ((d 31), .int), ((d 32), .int), ((d 22), .int), ((d 24), .int), ((d 9), .boolean), ((d 0), .int)] sz)) (va_Qi (fun (r : Int32) (u : (Nat → Int32) × (Nat → Int32)) => match u with | (g_sum, g_stones) => True) (cB G (fun u => match u with | (g_sum, g_stones) => [(h, .inr (12, [.ref (a 0), .ref (a 1), .ref (a 2), .ref (a 3), .int v_taped, .int v_size, .int v_from, .int v_behind, .int v_hand, .int v_value, .int v_fault, .int v_faultAt, .ref (a 4), .int v_clock, .int v_coin, .int v_loan, .int v_matched, .int v_taxed, .int v_paidStages, .int v_grown, .int v_pledges, .int v_sums, .int v_stages, .int v_isStopped, .ref (a 5), .ref (a 6), .ref (a 7), .ref (a 8), .ref (a 9), .ref (a 10), .ref (a 11), .ref (a 12), .ref (a 13), .ref (a 14), .ref (a 15), .ref (a 16), .ref (a 17), .ref (a 18), .ref (a 19), .ref (a 20), .ref (a 21), .ref (a 22), .ref (a 23), .ref (a 24), .ref (a 25), .ref (a 26), .ref (a 27), .ref (a 28), .ref (a 29), .ref (a 30), .int v_begun, .ref (a 31), .ref (a 32)])), ((a 16), .inl ((d 16), 60, .inl f_isLapsed)), ((a 31), .inl ((d 31), 30, .inl g_sum)), ((a 32), .inl ((d 32), 30, .inl g_stones)), ((a 22), .inl ((d 22), 250, .inl f_sumGiver)), ((a 24), .inl ((d 24), 250, .inl f_sumPence)), ((a 9), .inl ((d 9), 30, .inl f_isNameless)), ((a 0), .inl ((d 0), 9, .inl f_rule))]) (fun u => match u with | (g_sum, g_stones) => []) (va_A [(h, .inr (12, [.ref (a 0), .ref (a 1), .ref (a 2), .ref (a 3), .int v_taped, .int v_size, .int v_from, .int v_behind, .int v_hand, .int v_value, .int v_fault, .int v_faultAt, .ref (a 4), .int v_clock, .int v_coin, .int v_loan, .int v_matched, .int v_taxed, .int v_paidStages, .int v_grown, .int v_pledges, .int v_sums, .int v_stages, .int v_isStopped, .ref (a 5), .ref (a 6), .ref (a 7), .ref (a 8), .ref (a 9), .ref (a 10), .ref (a 11), .ref (a 12), .ref (a 13), .ref (a 14), .ref (a 15), .ref (a 16), .ref (a 17), .ref (a 18), .ref (a 19), .ref (a 20), .ref (a 21), .ref (a 22), .ref (a 23), .ref (a 24), .ref (a 25), .ref (a 26), .ref (a 27), .ref (a 28), .ref (a 29), .ref (a 30), .int v_begun, .ref (a 31), .ref (a 32)])), ((a 16), .inl ((d 16), 60, .inl f_isLapsed)), ((a 31), .inl ((d 31), 30, .inl f_sum)), ((a 32), .inl ((d 32), 30, .inl f_stones)), ((a 22), .inl ((d 22), 250, .inl f_sumGiver)), ((a 24), .inl ((d 24), 250, .inl f_sumPence)), ((a 9), .inl ((d 9), 30, .inl f_isNameless)), ((a 0), .inl ((d 0), 9, .inl f_rule))] sz)) (va_A [(h, .inr (12, [.ref (a 0), .ref (a 1), .ref (a 2), .ref (a 3), .int v_taped, .int v_size, .int v_from, .int v_behind, .int v_hand, .int v_value, .int v_fault, .int v_faultAt, .ref (a 4), .int v_clock, .int v_coin, .int v_loan, .int v_matched, .int v_taxed, .int v_paidStages, .int v_grown, .int v_pledges, .int v_sums, .int v_stages, .int v_isStopped, .ref (a 5), .ref (a 6), .ref (a 7), .ref (a 8), .ref (a 9), .ref (a 10), .ref (a 11), .ref (a 12), .ref (a 13), .ref (a 14), .ref (a 15), .ref (a 16), .ref (a 17), .ref (a 18), .ref (a 19), .ref (a 20), .ref (a 21), .ref (a 22), .ref (a 23), .ref (a 24), .ref (a 25), .ref (a 26), .ref (a 27), .ref (a 28), .ref (a 29), .ref (a 30), .int v_begun, .ref (a 31), .ref (a 32)])), ((a 16), .inl ((d 16), 60, .inl f_isLapsed)), ((a 31), .inl ((d 31), 30, .inl f_sum)), ((a 32), .inl ((d 32), 30, .inl f_stones)), ((a 22), .inl ((d 22), 250, .inl f_sumGiver)), ((a 24), .inl ((d 24), 250, .inl f_sumPence)), ((a 9), .inl ((d 9), 30, .inl f_isNameless)), ((a 0), .inl ((d 0), 9, .inl f_rule))] sz)) 0 0 (va_A [(h, .inr (12, [.ref (a 0), .ref (a 1), .ref (a 2), .ref (a 3), .int v_taped, .int v_size, .int v_from, .int v_behind, .int v_hand, .int v_value, .int v_fault, .int v_faultAt, .ref (a 4), .int v_clock, .int v_coin, .int v_loan, .int v_matched, .int v_taxed, .int v_paidStages, .int v_grown, .int v_pledges, .int v_sums, .int v_stages, .int v_isStopped, .ref (a 5), .ref (a 6), .ref (a 7), .ref (a 8), .ref (a 9), .ref (a 10), .ref (a 11), .ref (a 12), .ref (a 13), .ref (a 14), .ref (a 15), .ref (a 16), .ref (a 17), .ref (a 18), .ref (a 19), .ref (a 20), .ref (a 21), .ref (a 22), .ref (a 23), .ref (a 24), .ref (a 25), .ref (a 26), .ref (a 27), .ref (a 28), .ref (a 29), .ref (a 30), .int v_begun, .ref (a 31), .ref (a 32)])), ((a 16), .inl ((d 16), 60, .inl f_isLapsed)), ((a 31), .inl ((d 31), 30, .inl f_sum)), ((a 32), .inl ((d 32), 30, .inl f_stones)), ((a 22), .inl ((d 22), 250, .inl f_sumGiver)), ((a 24), .inl ((d 24), 250, .inl f_sumPence)), ((a 9), .inl ((d 9), 30, .inl f_isNameless)), ((a 0), .inl ((d 0), 9, .inl f_rule))] sz) := by
  refine ofC_i (cc := cX12_count) (maxL := 4) (ret := (some .int)) (by decide) rfl (Nat.le_of_ble_eq_true rfl) ?_
  intro p e s m args below meth c A ls Q F hr hin hlk St hl hQ
  have hx := F.1
  have hb := F.2.1
  have hl : lv_has ls 4 [(0, .ref h), (1, .int x1)] := hl
  have St : cS G k [(h, .inr (12, [.ref (a 0), .ref (a 1), .ref (a 2), .ref (a 3), .int v_taped, .int v_size, .int v_from, .int v_behind, .int v_hand, .int v_value, .int v_fault, .int v_faultAt, .ref (a 4), .int v_clock, .int v_coin, .int v_loan, .int v_matched, .int v_taxed, .int v_paidStages, .int v_grown, .int v_pledges, .int v_sums, .int v_stages, .int v_isStopped, .ref (a 5), .ref (a 6), .ref (a 7), .ref (a 8), .ref (a 9), .ref (a 10), .ref (a 11), .ref (a 12), .ref (a 13), .ref (a 14), .ref (a 15), .ref (a 16), .ref (a 17), .ref (a 18), .ref (a 19), .ref (a 20), .ref (a 21), .ref (a 22), .ref (a 23), .ref (a 24), .ref (a 25), .ref (a 26), .ref (a 27), .ref (a 28), .ref (a 29), .ref (a 30), .int v_begun, .ref (a 31), .ref (a 32)])), ((a 16), .inl ((d 16), 60, .inl f_isLapsed)), ((a 31), .inl ((d 31), 30, .inl f_sum)), ((a 32), .inl ((d 32), 30, .inl f_stones)), ((a 22), .inl ((d 22), 250, .inl f_sumGiver)), ((a 24), .inl ((d 24), 250, .inl f_sumPence)), ((a 9), .inl ((d 9), 30, .inl f_isNameless)), ((a 0), .inl ((d 0), 9, .inl f_rule))] [((d 16), .boolean), ((d 31), .int), ((d 32), .int), ((d 22), .int), ((d 24), .int), ((d 9), .boolean), ((d 0), .int)] A s s.heap [] := St
  have hsd := hSp.1
  have y0 : (0 : Int32).toInt = 0 := by decide
  refine lv_iload_n hx hb dX12_count_0 rfl (lv_at hl 1 rfl) ?_
  by_cases w1_0 : x1 = 0
  ·
    subst w1_0
    refine lv_tableIn (tgt := 76) (off := 75) hx hb dX12_count_1 (by decide) (by decide) (by decide) (by decide) ?_
    refine lv_aload_n hx hb dX12_count_76 rfl (lv_at hl 0 rfl) ?_
    refine cs_get F St 0 rfl rfl inX12 13 (by decide) kf_X12_230 rfl dX12_count_77 ?_
    exact cs_iret F hr hlk hQ St (f_sum, f_stones) (r := v_clock) (by trivial) [0, 1, 2, 3, 4, 5, 6, 7] rfl (by decide) [] rfl (by decide) (by decide) dX12_count_80
  by_cases w1_1 : x1 = 1
  ·
    subst w1_1
    refine lv_tableIn (tgt := 81) (off := 80) hx hb dX12_count_1 (by decide) (by decide) (by decide) (by decide) ?_
    refine lv_aload_n hx hb dX12_count_81 rfl (lv_at hl 0 rfl) ?_
    refine cs_get F St 0 rfl rfl inX12 14 (by decide) kf_X12_262 rfl dX12_count_82 ?_
    exact cs_iret F hr hlk hQ St (f_sum, f_stones) (r := v_coin) (by trivial) [0, 1, 2, 3, 4, 5, 6, 7] rfl (by decide) [] rfl (by decide) (by decide) dX12_count_85
  by_cases w1_2 : x1 = 2
  ·
    subst w1_2
    refine lv_tableIn (tgt := 86) (off := 85) hx hb dX12_count_1 (by decide) (by decide) (by decide) (by decide) ?_
    refine lv_aload_n hx hb dX12_count_86 rfl (lv_at hl 0 rfl) ?_
    refine cs_get F St 0 rfl rfl inX12 15 (by decide) kf_X12_296 rfl dX12_count_87 ?_
    exact cs_iret F hr hlk hQ St (f_sum, f_stones) (r := v_loan) (by trivial) [0, 1, 2, 3, 4, 5, 6, 7] rfl (by decide) [] rfl (by decide) (by decide) dX12_count_90
  by_cases w1_3 : x1 = 3
  ·
    subst w1_3
    refine lv_tableIn (tgt := 91) (off := 90) hx hb dX12_count_1 (by decide) (by decide) (by decide) (by decide) ?_
    refine lv_aload_n hx hb dX12_count_91 rfl (lv_at hl 0 rfl) ?_
    refine cs_i St [0, 5] [1, 2, 3, 4, 6, 7] (wc := [(h, .inr (12, [.ref (a 0), .ref (a 1), .ref (a 2), .ref (a 3), .int v_taped, .int v_size, .int v_from, .int v_behind, .int v_hand, .int v_value, .int v_fault, .int v_faultAt, .ref (a 4), .int v_clock, .int v_coin, .int v_loan, .int v_matched, .int v_taxed, .int v_paidStages, .int v_grown, .int v_pledges, .int v_sums, .int v_stages, .int v_isStopped, .ref (a 5), .ref (a 6), .ref (a 7), .ref (a 8), .ref (a 9), .ref (a 10), .ref (a 11), .ref (a 12), .ref (a 13), .ref (a 14), .ref (a 15), .ref (a 16), .ref (a 17), .ref (a 18), .ref (a 19), .ref (a 20), .ref (a 21), .ref (a 22), .ref (a 23), .ref (a 24), .ref (a 25), .ref (a 26), .ref (a 27), .ref (a 28), .ref (a 29), .ref (a 30), .int v_begun, .ref (a 31), .ref (a 32)])), ((a 24), .inl ((d 24), 250, .inl f_sumPence))]) (wr := [((a 16), .inl ((d 16), 60, .inl f_isLapsed)), ((a 31), .inl ((d 31), 30, .inl f_sum)), ((a 32), .inl ((d 32), 30, .inl f_stones)), ((a 22), .inl ((d 22), 250, .inl f_sumGiver)), ((a 9), .inl ((d 9), 30, .inl f_isNameless)), ((a 0), .inl ((d 0), 9, .inl f_rule))]) rfl rfl (by decide) (by decide) (va_runV (As := []) (rest := []) F (m_allGiven l G k _ h a d v_taped v_size v_from v_behind v_hand v_value v_fault v_faultAt v_clock v_coin v_loan v_matched v_taxed v_paidStages v_grown v_pledges v_sums v_stages v_isStopped v_begun f_sumPence hSp) (cwVt F mf_X12_allGiven km_X12_317 rfl rfl ⟨Nat.le_of_ble_eq_true rfl, Nat.le_of_ble_eq_true rfl⟩) (cs_preV St [0, 5] rfl (by decide) [4] rfl (ci := 12) (q0 := 0) rfl rfl) rfl rfl hl.1 rfl (lv_room (Nat.le_of_ble_eq_true rfl)) dX12_count_92 ⟨Nat.le_of_ble_eq_true rfl, Nat.le_of_ble_eq_true rfl⟩) (fun r_1 u_2 H locs hw St => ?_)
    try dsimp only at hw
    have St : cS G k [((a 16), .inl ((d 16), 60, .inl f_isLapsed)), ((a 31), .inl ((d 31), 30, .inl f_sum)), ((a 32), .inl ((d 32), 30, .inl f_stones)), ((a 22), .inl ((d 22), 250, .inl f_sumGiver)), ((a 9), .inl ((d 9), 30, .inl f_isNameless)), ((a 0), .inl ((d 0), 9, .inl f_rule)), (h, .inr (12, [.ref (a 0), .ref (a 1), .ref (a 2), .ref (a 3), .int v_taped, .int v_size, .int v_from, .int v_behind, .int v_hand, .int v_value, .int v_fault, .int v_faultAt, .ref (a 4), .int v_clock, .int v_coin, .int v_loan, .int v_matched, .int v_taxed, .int v_paidStages, .int v_grown, .int v_pledges, .int v_sums, .int v_stages, .int v_isStopped, .ref (a 5), .ref (a 6), .ref (a 7), .ref (a 8), .ref (a 9), .ref (a 10), .ref (a 11), .ref (a 12), .ref (a 13), .ref (a 14), .ref (a 15), .ref (a 16), .ref (a 17), .ref (a 18), .ref (a 19), .ref (a 20), .ref (a 21), .ref (a 22), .ref (a 23), .ref (a 24), .ref (a 25), .ref (a 26), .ref (a 27), .ref (a 28), .ref (a 29), .ref (a 30), .int v_begun, .ref (a 31), .ref (a 32)])), ((a 24), .inl ((d 24), 250, .inl f_sumPence))] [((d 16), .boolean), ((d 31), .int), ((d 32), .int), ((d 22), .int), ((d 24), .int), ((d 9), .boolean), ((d 0), .int)] A s H locs := St
    exact cs_iret F hr hlk hQ St (f_sum, f_stones) (r := r_1) (by trivial) [6, 0, 1, 2, 3, 7, 4, 5] rfl (by decide) [] rfl (by decide) (by decide) dX12_count_95
  by_cases w1_4 : x1 = 4
  ·
    subst w1_4
    refine lv_tableIn (tgt := 96) (off := 95) hx hb dX12_count_1 (by decide) (by decide) (by decide) (by decide) ?_
    refine lv_aload_n hx hb dX12_count_96 rfl (lv_at hl 0 rfl) ?_
    refine cs_get F St 0 rfl rfl inX12 16 (by decide) kf_X12_251 rfl dX12_count_97 ?_
    exact cs_iret F hr hlk hQ St (f_sum, f_stones) (r := v_matched) (by trivial) [0, 1, 2, 3, 4, 5, 6, 7] rfl (by decide) [] rfl (by decide) (by decide) dX12_count_100
  by_cases w1_5 : x1 = 5
  ·
    subst w1_5
    refine lv_tableIn (tgt := 101) (off := 100) hx hb dX12_count_1 (by decide) (by decide) (by decide) (by decide) ?_
    refine lv_aload_n hx hb dX12_count_101 rfl (lv_at hl 0 rfl) ?_
    refine cs_get F St 0 rfl rfl inX12 17 (by decide) kf_X12_276 rfl dX12_count_102 ?_
    exact cs_iret F hr hlk hQ St (f_sum, f_stones) (r := v_taxed) (by trivial) [0, 1, 2, 3, 4, 5, 6, 7] rfl (by decide) [] rfl (by decide) (by decide) dX12_count_105
  by_cases w1_6 : x1 = 6
  ·
    subst w1_6
    refine lv_tableIn (tgt := 106) (off := 105) hx hb dX12_count_1 (by decide) (by decide) (by decide) (by decide) ?_
    refine lv_aload_n hx hb dX12_count_106 rfl (lv_at hl 0 rfl) ?_
    refine cs_get F St 0 rfl rfl inX12 18 (by decide) kf_X12_298 rfl dX12_count_107 ?_
    exact cs_iret F hr hlk hQ St (f_sum, f_stones) (r := v_paidStages) (by trivial) [0, 1, 2, 3, 4, 5, 6, 7] rfl (by decide) [] rfl (by decide) (by decide) dX12_count_110
  by_cases w1_7 : x1 = 7
  ·
    subst w1_7
    refine lv_tableIn (tgt := 111) (off := 110) hx hb dX12_count_1 (by decide) (by decide) (by decide) (by decide) ?_
    refine lv_aload_n hx hb dX12_count_111 rfl (lv_at hl 0 rfl) ?_
    refine cs_get F St 0 rfl rfl inX12 19 (by decide) kf_X12_305 rfl dX12_count_112 ?_
    exact cs_iret F hr hlk hQ St (f_sum, f_stones) (r := v_grown) (by trivial) [0, 1, 2, 3, 4, 5, 6, 7] rfl (by decide) [] rfl (by decide) (by decide) dX12_count_115
  by_cases w1_8 : x1 = 8
  ·
    subst w1_8
    refine lv_tableIn (tgt := 116) (off := 115) hx hb dX12_count_1 (by decide) (by decide) (by decide) (by decide) ?_
    refine lv_aload_n hx hb dX12_count_116 rfl (lv_at hl 0 rfl) ?_
    refine cs_get F St 0 rfl rfl inX12 20 (by decide) kf_X12_237 rfl dX12_count_117 ?_
    exact cs_iret F hr hlk hQ St (f_sum, f_stones) (r := v_pledges) (by trivial) [0, 1, 2, 3, 4, 5, 6, 7] rfl (by decide) [] rfl (by decide) (by decide) dX12_count_120
  by_cases w1_9 : x1 = 9
  ·
    subst w1_9
    refine lv_tableIn (tgt := 121) (off := 120) hx hb dX12_count_1 (by decide) (by decide) (by decide) (by decide) ?_
    refine lv_iconst (v := 0) hx hb dX12_count_121 (by decide) ?_
    refine lv_istore_n (lv' := [(2, .int 0), (0, .ref h), (1, .int 9)]) hx hb dX12_count_122 rfl hl (by decide) rfl (fun ls hl => ?_)
    refine lv_iconst (v := 0) hx hb dX12_count_123 (by decide) ?_
    refine lv_istore_n (lv' := [(3, .int 0), (2, .int 0), (0, .ref h), (1, .int 9)]) hx hb dX12_count_124 rfl hl (by decide) rfl (fun ls hl => ?_)
    have lp125 : ∀ (n : Nat) (kk : Int32) (nn : Int32) (H : Heap) (locs : List Loc) (ls : Array Slot), (0 ≤ kk.toInt ∧ kk.toInt ≤ v_pledges.toInt) → ((60 - kk.toInt).toNat) < n → cS G k [(h, .inr (12, [.ref (a 0), .ref (a 1), .ref (a 2), .ref (a 3), .int v_taped, .int v_size, .int v_from, .int v_behind, .int v_hand, .int v_value, .int v_fault, .int v_faultAt, .ref (a 4), .int v_clock, .int v_coin, .int v_loan, .int v_matched, .int v_taxed, .int v_paidStages, .int v_grown, .int v_pledges, .int v_sums, .int v_stages, .int v_isStopped, .ref (a 5), .ref (a 6), .ref (a 7), .ref (a 8), .ref (a 9), .ref (a 10), .ref (a 11), .ref (a 12), .ref (a 13), .ref (a 14), .ref (a 15), .ref (a 16), .ref (a 17), .ref (a 18), .ref (a 19), .ref (a 20), .ref (a 21), .ref (a 22), .ref (a 23), .ref (a 24), .ref (a 25), .ref (a 26), .ref (a 27), .ref (a 28), .ref (a 29), .ref (a 30), .int v_begun, .ref (a 31), .ref (a 32)])), ((a 16), .inl ((d 16), 60, .inl f_isLapsed)), ((a 31), .inl ((d 31), 30, .inl f_sum)), ((a 32), .inl ((d 32), 30, .inl f_stones)), ((a 22), .inl ((d 22), 250, .inl f_sumGiver)), ((a 24), .inl ((d 24), 250, .inl f_sumPence)), ((a 9), .inl ((d 9), 30, .inl f_isNameless)), ((a 0), .inl ((d 0), 9, .inl f_rule))] [((d 16), .boolean), ((d 31), .int), ((d 32), .int), ((d 22), .int), ((d 24), .int), ((d 9), .boolean), ((d 0), .int)] A s H locs → lv_has ls 4 [(3, .int kk), (2, .int nn), (0, .ref h), (1, .int 9)] → W p l e ({ frames := 1, cells := 0, slots := 0, locals := 24 } : Room) s m args below meth c H locs 0 0 Q (F0 m 125 ls []) := by
      intro n
      induction n with
      | zero => intro kk nn H locs ls hI hn; exact absurd hn (Nat.not_lt_zero _)
      | succ n ih =>
        intro kk nn H locs ls hI hn St hl
        obtain ⟨hI0, hI1⟩ := hI
        refine lv_iload_n hx hb dX12_count_125 rfl (lv_at hl 0 rfl) ?_
        refine lv_aload_n hx hb dX12_count_126 rfl (lv_at hl 2 rfl) ?_
        refine cs_get F St 0 rfl rfl inX12 20 (by decide) kf_X12_237 rfl dX12_count_127 ?_
        refine lv_icmp_ge (tgt := 156) hx hb dX12_count_130 (by decide) (fun c130 => ?_) (fun c130 => ?_)
        ·
          have i130 := ci_le (x := v_pledges) (y := kk) rfl rfl c130
          refine lv_iload_n hx hb dX12_count_156 rfl (lv_at hl 1 rfl) ?_
          exact cs_iret F hr hlk hQ St (f_sum, f_stones) (r := nn) (by trivial) [0, 1, 2, 3, 4, 5, 6, 7] rfl (by decide) [] rfl (by decide) (by decide) dX12_count_157
        ·
          have i130 := ci_nle (x := v_pledges) (y := kk) rfl rfl c130
          refine lv_iload_n hx hb dX12_count_133 rfl (lv_at hl 1 rfl) ?_
          refine lv_aload_n hx hb dX12_count_134 rfl (lv_at hl 2 rfl) ?_
          refine cs_get F St 0 rfl rfl inX12 35 (by decide) kf_X12_153 rfl dX12_count_135 ?_
          refine lv_iload_n hx hb dX12_count_138 rfl (lv_at hl 0 rfl) ?_
          refine cs_zld F St 1 0 rfl rfl (vp_in_iff.mpr ⟨by omega, by omega⟩) dX12_count_139 ?_
          refine lv_topi (fun y_3 ey_3 => ?_)
          refine lv_if_eq (tgt := 147) hx hb dX12_count_140 (by decide) (fun c140 => ?_) (fun c140 => ?_)
          ·
            have i140 := ci_eq (x := y_3) (y := 0) rfl (show (0 : Int32).toInt = 0 by decide) c140
            refine lv_iconst (v := 0) hx hb dX12_count_147 (by decide) ?_
            refine lv_iadd hx hb dX12_count_148 ?_
            refine lv_topi (fun y_4 ey_4 => ?_)
            first | have jy_4 : y_4.toInt = nn.toInt + 0 := (by have q9 := ci_add (x := nn) (y := 0) rfl (show (0 : Int32).toInt = 0 by decide) ey_4; omega) | have jy_4 := ci_add (x := nn) (y := 0) rfl (show (0 : Int32).toInt = 0 by decide) ey_4
            refine lv_istore_n (lv' := [(2, .int y_4), (3, .int kk), (0, .ref h), (1, .int 9)]) hx hb dX12_count_149 rfl hl (by decide) rfl (fun ls hl => ?_)
            obtain ⟨y_5, ey_5⟩ : ∃ zz : Int32, zz = kk + 1 := ⟨_, rfl⟩
            first | have jy_5 : y_5.toInt = kk.toInt + 1 := (by have q9 := ci_add (x := kk) rfl (show (1 : Int32).toInt = 1 by decide) ey_5; omega) | have jy_5 := ci_add (x := kk) rfl (show (1 : Int32).toInt = 1 by decide) ey_5
            refine lv_iinc (v := y_5) (lv' := [(3, .int y_5), (2, .int y_4), (0, .ref h), (1, .int 9)]) hx hb dX12_count_150 hl (k := 1) rfl (by rw [ey_5]; rfl) (by decide) rfl (fun ls hl => ?_)
            refine lv_goto (tgt := 125) hx hb dX12_count_153 (by decide) ?_
            exact ih y_5 y_4 _ _ _ ⟨by omega, by omega⟩ (by omega) St (lv_sub hl [0, 1, 2, 3] rfl)
          ·
            have i140 := ci_ne (x := y_3) (y := 0) rfl (show (0 : Int32).toInt = 0 by decide) c140
            refine lv_iconst (v := 1) hx hb dX12_count_143 (by decide) ?_
            refine lv_goto (tgt := 148) hx hb dX12_count_144 (by decide) ?_
            refine lv_iadd hx hb dX12_count_148 ?_
            refine lv_topi (fun y_6 ey_6 => ?_)
            first | have jy_6 : y_6.toInt = nn.toInt + 1 := (by have q9 := ci_add (x := nn) (y := 1) rfl (show (1 : Int32).toInt = 1 by decide) ey_6; omega) | have jy_6 := ci_add (x := nn) (y := 1) rfl (show (1 : Int32).toInt = 1 by decide) ey_6
            refine lv_istore_n (lv' := [(2, .int y_6), (3, .int kk), (0, .ref h), (1, .int 9)]) hx hb dX12_count_149 rfl hl (by decide) rfl (fun ls hl => ?_)
            obtain ⟨y_7, ey_7⟩ : ∃ zz : Int32, zz = kk + 1 := ⟨_, rfl⟩
            first | have jy_7 : y_7.toInt = kk.toInt + 1 := (by have q9 := ci_add (x := kk) rfl (show (1 : Int32).toInt = 1 by decide) ey_7; omega) | have jy_7 := ci_add (x := kk) rfl (show (1 : Int32).toInt = 1 by decide) ey_7
            refine lv_iinc (v := y_7) (lv' := [(3, .int y_7), (2, .int y_6), (0, .ref h), (1, .int 9)]) hx hb dX12_count_150 hl (k := 1) rfl (by rw [ey_7]; rfl) (by decide) rfl (fun ls hl => ?_)
            refine lv_goto (tgt := 125) hx hb dX12_count_153 (by decide) ?_
            exact ih y_7 y_6 _ _ _ ⟨by omega, by omega⟩ (by omega) St (lv_sub hl [0, 1, 2, 3] rfl)
    exact lp125 61 0 0 _ _ _ ⟨by omega, by omega⟩ (by omega) St (lv_sub hl [0, 1, 2, 3] rfl)
  by_cases w1_10 : x1 = 10
  ·
    subst w1_10
    refine lv_tableIn (tgt := 158) (off := 157) hx hb dX12_count_1 (by decide) (by decide) (by decide) (by decide) ?_
    refine lv_aload_n hx hb dX12_count_158 rfl (lv_at hl 0 rfl) ?_
    refine cs_get F St 0 rfl rfl inX12 22 (by decide) kf_X12_286 rfl dX12_count_159 ?_
    exact cs_iret F hr hlk hQ St (f_sum, f_stones) (r := v_stages) (by trivial) [0, 1, 2, 3, 4, 5, 6, 7] rfl (by decide) [] rfl (by decide) (by decide) dX12_count_162
  by_cases w1_11 : x1 = 11
  ·
    subst w1_11
    refine lv_tableIn (tgt := 163) (off := 162) hx hb dX12_count_1 (by decide) (by decide) (by decide) (by decide) ?_
    refine lv_aload_n hx hb dX12_count_163 rfl (lv_at hl 0 rfl) ?_
    refine cs_get F St 0 rfl rfl inX12 21 (by decide) kf_X12_246 rfl dX12_count_164 ?_
    exact cs_iret F hr hlk hQ St (f_sum, f_stones) (r := v_sums) (by trivial) [0, 1, 2, 3, 4, 5, 6, 7] rfl (by decide) [] rfl (by decide) (by decide) dX12_count_167
  by_cases w1_12 : x1 = 12
  ·
    subst w1_12
    refine lv_tableIn (tgt := 168) (off := 167) hx hb dX12_count_1 (by decide) (by decide) (by decide) (by decide) ?_
    refine lv_aload_n hx hb dX12_count_168 rfl (lv_at hl 0 rfl) ?_
    refine cs_get F St 0 rfl rfl inX12 23 (by decide) kf_X12_224 rfl dX12_count_169 ?_
    refine lv_if_eq (tgt := 179) hx hb dX12_count_172 (by decide) (fun c172 => ?_) (fun c172 => ?_)
    ·
      have i172 := ci_eq (x := v_isStopped) (y := 0) rfl (show (0 : Int32).toInt = 0 by decide) c172
      refine lv_iconst (v := 0) hx hb dX12_count_179 (by decide) ?_
      exact cs_iret F hr hlk hQ St (f_sum, f_stones) (r := 0) (by trivial) [0, 1, 2, 3, 4, 5, 6, 7] rfl (by decide) [] rfl (by decide) (by decide) dX12_count_180
    ·
      have i172 := ci_ne (x := v_isStopped) (y := 0) rfl (show (0 : Int32).toInt = 0 by decide) c172
      refine lv_iconst (v := 1) hx hb dX12_count_175 (by decide) ?_
      refine lv_goto (tgt := 180) hx hb dX12_count_176 (by decide) ?_
      exact cs_iret F hr hlk hQ St (f_sum, f_stones) (r := 1) (by trivial) [0, 1, 2, 3, 4, 5, 6, 7] rfl (by decide) [] rfl (by decide) (by decide) dX12_count_180
  by_cases w1_13 : x1 = 13
  ·
    subst w1_13
    refine lv_tableIn (tgt := 181) (off := 180) hx hb dX12_count_1 (by decide) (by decide) (by decide) (by decide) ?_
    refine lv_aload_n hx hb dX12_count_181 rfl (lv_at hl 0 rfl) ?_
    refine cs_get F St 0 rfl rfl inX12 4 (by decide) kf_X12_203 rfl dX12_count_182 ?_
    exact cs_iret F hr hlk hQ St (f_sum, f_stones) (r := v_taped) (by trivial) [0, 1, 2, 3, 4, 5, 6, 7] rfl (by decide) [] rfl (by decide) (by decide) dX12_count_185
  by_cases w1_14 : x1 = 14
  ·
    subst w1_14
    refine lv_tableIn (tgt := 186) (off := 185) hx hb dX12_count_1 (by decide) (by decide) (by decide) (by decide) ?_
    refine lv_aload_n hx hb dX12_count_186 rfl (lv_at hl 0 rfl) ?_
    refine cs_i St [0, 2, 3, 4, 5, 6, 7] [1] (wc := [(h, .inr (12, [.ref (a 0), .ref (a 1), .ref (a 2), .ref (a 3), .int v_taped, .int v_size, .int v_from, .int v_behind, .int v_hand, .int v_value, .int v_fault, .int v_faultAt, .ref (a 4), .int v_clock, .int v_coin, .int v_loan, .int v_matched, .int v_taxed, .int v_paidStages, .int v_grown, .int v_pledges, .int v_sums, .int v_stages, .int v_isStopped, .ref (a 5), .ref (a 6), .ref (a 7), .ref (a 8), .ref (a 9), .ref (a 10), .ref (a 11), .ref (a 12), .ref (a 13), .ref (a 14), .ref (a 15), .ref (a 16), .ref (a 17), .ref (a 18), .ref (a 19), .ref (a 20), .ref (a 21), .ref (a 22), .ref (a 23), .ref (a 24), .ref (a 25), .ref (a 26), .ref (a 27), .ref (a 28), .ref (a 29), .ref (a 30), .int v_begun, .ref (a 31), .ref (a 32)])), ((a 31), .inl ((d 31), 30, .inl f_sum)), ((a 32), .inl ((d 32), 30, .inl f_stones)), ((a 22), .inl ((d 22), 250, .inl f_sumGiver)), ((a 24), .inl ((d 24), 250, .inl f_sumPence)), ((a 9), .inl ((d 9), 30, .inl f_isNameless)), ((a 0), .inl ((d 0), 9, .inl f_rule))]) (wr := [((a 16), .inl ((d 16), 60, .inl f_isLapsed))]) rfl rfl (by decide) (by decide) (va_runV (As := []) (rest := []) F (m_carve l G k _ h a d v_taped v_size v_from v_behind v_hand v_value v_fault v_faultAt v_clock v_coin v_loan v_matched v_taxed v_paidStages v_grown v_pledges v_sums v_stages v_isStopped v_begun f_sum f_stones f_sumGiver f_sumPence f_isNameless f_rule hSg hSp) (cwVt F mf_X12_carve km_X12_314 rfl rfl ⟨Nat.le_of_ble_eq_true rfl, Nat.le_of_ble_eq_true rfl⟩) (cs_preV St [0, 2, 3, 4, 5, 6, 7] rfl (by decide) [1, 2, 3, 4, 5, 6] rfl (ci := 12) (q0 := 0) rfl rfl) rfl rfl hl.1 rfl (lv_room (Nat.le_of_ble_eq_true rfl)) dX12_count_187 ⟨Nat.le_of_ble_eq_true rfl, Nat.le_of_ble_eq_true rfl⟩) (fun r_8 u_9 H locs hw St => ?_)
    obtain ⟨g_sum_10, g_stones_11⟩ := u_9
    try dsimp only at hw
    have hr_12 := hw
    have St : cS G k [((a 16), .inl ((d 16), 60, .inl f_isLapsed)), (h, .inr (12, [.ref (a 0), .ref (a 1), .ref (a 2), .ref (a 3), .int v_taped, .int v_size, .int v_from, .int v_behind, .int v_hand, .int v_value, .int v_fault, .int v_faultAt, .ref (a 4), .int v_clock, .int v_coin, .int v_loan, .int v_matched, .int v_taxed, .int v_paidStages, .int v_grown, .int v_pledges, .int v_sums, .int v_stages, .int v_isStopped, .ref (a 5), .ref (a 6), .ref (a 7), .ref (a 8), .ref (a 9), .ref (a 10), .ref (a 11), .ref (a 12), .ref (a 13), .ref (a 14), .ref (a 15), .ref (a 16), .ref (a 17), .ref (a 18), .ref (a 19), .ref (a 20), .ref (a 21), .ref (a 22), .ref (a 23), .ref (a 24), .ref (a 25), .ref (a 26), .ref (a 27), .ref (a 28), .ref (a 29), .ref (a 30), .int v_begun, .ref (a 31), .ref (a 32)])), ((a 31), .inl ((d 31), 30, .inl g_sum_10)), ((a 32), .inl ((d 32), 30, .inl g_stones_11)), ((a 22), .inl ((d 22), 250, .inl f_sumGiver)), ((a 24), .inl ((d 24), 250, .inl f_sumPence)), ((a 9), .inl ((d 9), 30, .inl f_isNameless)), ((a 0), .inl ((d 0), 9, .inl f_rule))] [((d 16), .boolean), ((d 31), .int), ((d 32), .int), ((d 22), .int), ((d 24), .int), ((d 9), .boolean), ((d 0), .int)] A s H locs := St
    exact cs_iret F hr hlk hQ St (g_sum_10, g_stones_11) (r := r_8) (by trivial) [1, 0, 2, 3, 4, 5, 6, 7] rfl (by decide) [] rfl (by decide) (by decide) dX12_count_190
  have iw1_0 := lv_neT w1_0 (show (0 : Int32).toInt = 0 by decide)
  have iw1_1 := lv_neT w1_1 (show (1 : Int32).toInt = 1 by decide)
  have iw1_2 := lv_neT w1_2 (show (2 : Int32).toInt = 2 by decide)
  have iw1_3 := lv_neT w1_3 (show (3 : Int32).toInt = 3 by decide)
  have iw1_4 := lv_neT w1_4 (show (4 : Int32).toInt = 4 by decide)
  have iw1_5 := lv_neT w1_5 (show (5 : Int32).toInt = 5 by decide)
  have iw1_6 := lv_neT w1_6 (show (6 : Int32).toInt = 6 by decide)
  have iw1_7 := lv_neT w1_7 (show (7 : Int32).toInt = 7 by decide)
  have iw1_8 := lv_neT w1_8 (show (8 : Int32).toInt = 8 by decide)
  have iw1_9 := lv_neT w1_9 (show (9 : Int32).toInt = 9 by decide)
  have iw1_10 := lv_neT w1_10 (show (10 : Int32).toInt = 10 by decide)
  have iw1_11 := lv_neT w1_11 (show (11 : Int32).toInt = 11 by decide)
  have iw1_12 := lv_neT w1_12 (show (12 : Int32).toInt = 12 by decide)
  have iw1_13 := lv_neT w1_13 (show (13 : Int32).toInt = 13 by decide)
  have iw1_14 := lv_neT w1_14 (show (14 : Int32).toInt = 14 by decide)
  refine lv_tableOut (tgt := 191) hx hb dX12_count_1 (by omega) (by decide) ?_
  refine lv_iconst (v := (-1)) hx hb dX12_count_191 (by decide) ?_
  exact cs_iret F hr hlk hQ St (f_sum, f_stones) (r := (-1)) (by trivial) [0, 1, 2, 3, 4, 5, 6, 7] rfl (by decide) [] rfl (by decide) (by decide) dX12_count_192

