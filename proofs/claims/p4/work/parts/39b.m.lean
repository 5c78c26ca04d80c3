set_option maxHeartbeats 4000000 in
set_option maxRecDepth 100000 in
theorem e12_allGiven (l : Launch) (G : va_G) (k : Nat → Nat) (sz : Nat) (h : Nat) (a : Nat → Nat) (d : Nat → ClassId) (v_taped : Int32) (v_size : Int32) (v_from : Int32) (v_behind : Int32) (v_hand : Int32) (v_value : Int32) (v_fault : Int32) (v_faultAt : Int32) (v_clock : Int32) (v_coin : Int32) (v_loan : Int32) (v_matched : Int32) (v_taxed : Int32) (v_paidStages : Int32) (v_grown : Int32) (v_pledges : Int32) (v_sums : Int32) (v_stages : Int32) (v_isStopped : Int32) (v_begun : Int32) (f_sumPence : Nat → Int32) (hSp : mSp v_sums f_sumPence) : Met l yX12_allGiven (Cond.code yX12_allGiven cX12_allGiven 3 (some .int) :: tb) ({ frames := 0, cells := 0, slots := 0, locals := 0 } : Room) (va_Pc [.ref h] (cP G k [(h, .inr (12, [.ref (a 0), .ref (a 1), .ref (a 2), .ref (a 3), .int v_taped, .int v_size, .int v_from, .int v_behind, .int v_hand, .int v_value, .int v_fault, .int v_faultAt, .ref (a 4), .int v_clock, .int v_coin, .int v_loan, .int v_matched, .int v_taxed, .int v_paidStages, .int v_grown, .int v_pledges, .int v_sums, .int v_stages, .int v_isStopped, .ref (a 5), .ref (a 6), .ref (a 7), .ref (a 8), .ref (a 9), .ref (a 10), .ref (a 11), .ref (a 12), .ref (a 13), .ref (a 14), .ref (a 15), .ref (a 16), .ref (a 17), .ref (a 18), .ref (a 19), .ref (a 20), .ref (a 21), .ref (a 22), .ref (a 23), .ref (a 24), .ref (a 25), .ref (a 26), .ref (a 27), .ref (a 28), .ref (a 29), .ref (a 30), .int v_begun, .ref (a 31), .ref (a 32)])), ((a 24), .inl ((d 24), 250, .inl f_sumPence))] [((d 24), .int)] sz)) (va_Qi (fun (r : Int32) (_ : Unit) => (r.toInt = sm (tA f_sumPence) v_sums.toNatClampNeg)) (cB G (fun (_ : Unit) => [(h, .inr (12, [.ref (a 0), .ref (a 1), .ref (a 2), .ref (a 3), .int v_taped, .int v_size, .int v_from, .int v_behind, .int v_hand, .int v_value, .int v_fault, .int v_faultAt, .ref (a 4), .int v_clock, .int v_coin, .int v_loan, .int v_matched, .int v_taxed, .int v_paidStages, .int v_grown, .int v_pledges, .int v_sums, .int v_stages, .int v_isStopped, .ref (a 5), .ref (a 6), .ref (a 7), .ref (a 8), .ref (a 9), .ref (a 10), .ref (a 11), .ref (a 12), .ref (a 13), .ref (a 14), .ref (a 15), .ref (a 16), .ref (a 17), .ref (a 18), .ref (a 19), .ref (a 20), .ref (a 21), .ref (a 22), .ref (a 23), .ref (a 24), .ref (a 25), .ref (a 26), .ref (a 27), .ref (a 28), .ref (a 29), .ref (a 30), .int v_begun, .ref (a 31), .ref (a 32)])), ((a 24), .inl ((d 24), 250, .inl f_sumPence))]) (fun (_ : Unit) => []) (va_A [(h, .inr (12, [.ref (a 0), .ref (a 1), .ref (a 2), .ref (a 3), .int v_taped, .int v_size, .int v_from, .int v_behind, .int v_hand, .int v_value, .int v_fault, .int v_faultAt, .ref (a 4), .int v_clock, .int v_coin, .int v_loan, .int v_matched, .int v_taxed, .int v_paidStages, .int v_grown, .int v_pledges, .int v_sums, .int v_stages, .int v_isStopped, .ref (a 5), .ref (a 6), .ref (a 7), .ref (a 8), .ref (a 9), .ref (a 10), .ref (a 11), .ref (a 12), .ref (a 13), .ref (a 14), .ref (a 15), .ref (a 16), .ref (a 17), .ref (a 18), .ref (a 19), .ref (a 20), .ref (a 21), .ref (a 22), .ref (a 23), .ref (a 24), .ref (a 25), .ref (a 26), .ref (a 27), .ref (a 28), .ref (a 29), .ref (a 30), .int v_begun, .ref (a 31), .ref (a 32)])), ((a 24), .inl ((d 24), 250, .inl f_sumPence))] sz)) (va_A [(h, .inr (12, [.ref (a 0), .ref (a 1), .ref (a 2), .ref (a 3), .int v_taped, .int v_size, .int v_from, .int v_behind, .int v_hand, .int v_value, .int v_fault, .int v_faultAt, .ref (a 4), .int v_clock, .int v_coin, .int v_loan, .int v_matched, .int v_taxed, .int v_paidStages, .int v_grown, .int v_pledges, .int v_sums, .int v_stages, .int v_isStopped, .ref (a 5), .ref (a 6), .ref (a 7), .ref (a 8), .ref (a 9), .ref (a 10), .ref (a 11), .ref (a 12), .ref (a 13), .ref (a 14), .ref (a 15), .ref (a 16), .ref (a 17), .ref (a 18), .ref (a 19), .ref (a 20), .ref (a 21), .ref (a 22), .ref (a 23), .ref (a 24), .ref (a 25), .ref (a 26), .ref (a 27), .ref (a 28), .ref (a 29), .ref (a 30), .int v_begun, .ref (a 31), .ref (a 32)])), ((a 24), .inl ((d 24), 250, .inl f_sumPence))] sz)) 0 0 (va_A [(h, .inr (12, [.ref (a 0), .ref (a 1), .ref (a 2), .ref (a 3), .int v_taped, .int v_size, .int v_from, .int v_behind, .int v_hand, .int v_value, .int v_fault, .int v_faultAt, .ref (a 4), .int v_clock, .int v_coin, .int v_loan, .int v_matched, .int v_taxed, .int v_paidStages, .int v_grown, .int v_pledges, .int v_sums, .int v_stages, .int v_isStopped, .ref (a 5), .ref (a 6), .ref (a 7), .ref (a 8), .ref (a 9), .ref (a 10), .ref (a 11), .ref (a 12), .ref (a 13), .ref (a 14), .ref (a 15), .ref (a 16), .ref (a 17), .ref (a 18), .ref (a 19), .ref (a 20), .ref (a 21), .ref (a 22), .ref (a 23), .ref (a 24), .ref (a 25), .ref (a 26), .ref (a 27), .ref (a 28), .ref (a 29), .ref (a 30), .int v_begun, .ref (a 31), .ref (a 32)])), ((a 24), .inl ((d 24), 250, .inl f_sumPence))] sz) := by
  refine ofC_i (cc := cX12_allGiven) (maxL := 3) (ret := (some .int)) (by decide) rfl (Nat.le_of_ble_eq_true rfl) ?_
  intro p e s m args below meth c A ls Q F hr hin hlk St hl hQ
  have hx := F.1
  have hb := F.2.1
  have hl : lv_has ls 3 [(0, .ref h)] := hl
  have St : cS G k [(h, .inr (12, [.ref (a 0), .ref (a 1), .ref (a 2), .ref (a 3), .int v_taped, .int v_size, .int v_from, .int v_behind, .int v_hand, .int v_value, .int v_fault, .int v_faultAt, .ref (a 4), .int v_clock, .int v_coin, .int v_loan, .int v_matched, .int v_taxed, .int v_paidStages, .int v_grown, .int v_pledges, .int v_sums, .int v_stages, .int v_isStopped, .ref (a 5), .ref (a 6), .ref (a 7), .ref (a 8), .ref (a 9), .ref (a 10), .ref (a 11), .ref (a 12), .ref (a 13), .ref (a 14), .ref (a 15), .ref (a 16), .ref (a 17), .ref (a 18), .ref (a 19), .ref (a 20), .ref (a 21), .ref (a 22), .ref (a 23), .ref (a 24), .ref (a 25), .ref (a 26), .ref (a 27), .ref (a 28), .ref (a 29), .ref (a 30), .int v_begun, .ref (a 31), .ref (a 32)])), ((a 24), .inl ((d 24), 250, .inl f_sumPence))] [((d 24), .int)] A s s.heap [] := St
  have hsd := hSp.1
  have y0 : (0 : Int32).toInt = 0 := by decide
  have hn5 := nc_int (x := v_sums) (by omega)
  refine lv_iconst (v := 0) hx hb dX12_allGiven_0 (by decide) ?_
  refine lv_istore_n (lv' := [(1, .int 0), (0, .ref h)]) hx hb dX12_allGiven_1 rfl hl (by decide) rfl (fun ls hl => ?_)
  refine lv_iconst (v := 0) hx hb dX12_allGiven_2 (by decide) ?_
  refine lv_istore_n (lv' := [(2, .int 0), (1, .int 0), (0, .ref h)]) hx hb dX12_allGiven_3 rfl hl (by decide) rfl (fun ls hl => ?_)
  have lp4 : ∀ (n : Nat) (kk : Int32) (nn : Int32) (H : Heap) (locs : List Loc) (ls : Array Slot), ((0 ≤ kk.toInt ∧ kk.toInt ≤ v_sums.toInt) ∧ nn.toInt = sm (tA f_sumPence) kk.toNatClampNeg) → ((250 - kk.toInt).toNat) < n → cS G k [(h, .inr (12, [.ref (a 0), .ref (a 1), .ref (a 2), .ref (a 3), .int v_taped, .int v_size, .int v_from, .int v_behind, .int v_hand, .int v_value, .int v_fault, .int v_faultAt, .ref (a 4), .int v_clock, .int v_coin, .int v_loan, .int v_matched, .int v_taxed, .int v_paidStages, .int v_grown, .int v_pledges, .int v_sums, .int v_stages, .int v_isStopped, .ref (a 5), .ref (a 6), .ref (a 7), .ref (a 8), .ref (a 9), .ref (a 10), .ref (a 11), .ref (a 12), .ref (a 13), .ref (a 14), .ref (a 15), .ref (a 16), .ref (a 17), .ref (a 18), .ref (a 19), .ref (a 20), .ref (a 21), .ref (a 22), .ref (a 23), .ref (a 24), .ref (a 25), .ref (a 26), .ref (a 27), .ref (a 28), .ref (a 29), .ref (a 30), .int v_begun, .ref (a 31), .ref (a 32)])), ((a 24), .inl ((d 24), 250, .inl f_sumPence))] [((d 24), .int)] A s H locs → lv_has ls 3 [(2, .int kk), (1, .int nn), (0, .ref h)] → W p l e ({ frames := 0, cells := 0, slots := 0, locals := 0 } : Room) s m args below meth c H locs 0 0 Q (F0 m 4 ls []) := by
    intro n
    induction n with
    | zero => intro kk nn H locs ls hI hn; exact absurd hn (Nat.not_lt_zero _)
    | succ n ih =>
      intro kk nn H locs ls hI hn St hl
      obtain ⟨⟨hI0, hI1⟩, hs⟩ := hI
      have nk := nc_int hI0
      have hnb := sA_bd (k := kk.toNatClampNeg) hSp (by omega)
      rw [← hs] at hnb
      refine lv_iload_n hx hb dX12_allGiven_4 rfl (lv_at hl 0 rfl) ?_
      refine lv_aload_n hx hb dX12_allGiven_5 rfl (lv_at hl 2 rfl) ?_
      refine cs_get F St 0 rfl rfl inX12 21 (by decide) kf_X12_246 rfl dX12_allGiven_6 ?_
      refine lv_icmp_ge (tgt := 27) hx hb dX12_allGiven_9 (by decide) (fun c9 => ?_) (fun c9 => ?_)
      ·
        have i9 := ci_le (x := v_sums) (y := kk) rfl rfl c9
        refine lv_iload_n hx hb dX12_allGiven_27 rfl (lv_at hl 1 rfl) ?_
        exact cs_iret F hr hlk hQ St () (r := nn) (sm_at hs (by omega)) [0, 1] rfl (by decide) [] rfl (by decide) (by decide) dX12_allGiven_28
      ·
        have i9 := ci_nle (x := v_sums) (y := kk) rfl rfl c9
        refine lv_iload_n hx hb dX12_allGiven_12 rfl (lv_at hl 1 rfl) ?_
        refine lv_aload_n hx hb dX12_allGiven_13 rfl (lv_at hl 2 rfl) ?_
        refine cs_get F St 0 rfl rfl inX12 43 (by decide) kf_X12_177 rfl dX12_allGiven_14 ?_
        refine lv_iload_n hx hb dX12_allGiven_17 rfl (lv_at hl 0 rfl) ?_
        refine cs_ild F St 1 0 rfl rfl (vp_in_iff.mpr ⟨by omega, by omega⟩) dX12_allGiven_18 ?_
        refine lv_topi (fun y_1 ey_1 => ?_)
        have gy_1 := congrArg Int32.toInt ey_1
        have hdy_1 := mSp_p hSp (by omega) (by omega) ey_1
        refine lv_iadd hx hb dX12_allGiven_19 ?_
        refine lv_topi (fun y_2 ey_2 => ?_)
        first | have jy_2 : y_2.toInt = nn.toInt + y_1.toInt := (by have q9 := ci_add (x := nn) (y := y_1) rfl rfl ey_2; omega) | have jy_2 := ci_add (x := nn) (y := y_1) rfl rfl ey_2
        refine lv_istore_n (lv' := [(1, .int y_2), (2, .int kk), (0, .ref h)]) hx hb dX12_allGiven_20 rfl hl (by decide) rfl (fun ls hl => ?_)
        obtain ⟨y_3, ey_3⟩ : ∃ zz : Int32, zz = kk + 1 := ⟨_, rfl⟩
        first | have jy_3 : y_3.toInt = kk.toInt + 1 := (by have q9 := ci_add (x := kk) rfl (show (1 : Int32).toInt = 1 by decide) ey_3; omega) | have jy_3 := ci_add (x := kk) rfl (show (1 : Int32).toInt = 1 by decide) ey_3
        refine lv_iinc (v := y_3) (lv' := [(2, .int y_3), (1, .int y_2), (0, .ref h)]) hx hb dX12_allGiven_21 hl (k := 1) rfl (by rw [ey_3]; rfl) (by decide) rfl (fun ls hl => ?_)
        refine lv_goto (tgt := 4) hx hb dX12_allGiven_24 (by decide) ?_
        exact ih y_3 y_2 _ _ _ ⟨⟨by omega, by omega⟩, sm_up hI0 hs (by omega) (by unfold tA; omega)⟩ (by omega) St (lv_sub hl [0, 1, 2] rfl)
  exact lp4 251 0 0 _ _ _ ⟨⟨by omega, by omega⟩, by rw [y0]; rfl⟩ (by omega) St (lv_sub hl [0, 1, 2] rfl)
set_option maxHeartbeats 4000000 in
set_option maxRecDepth 100000 in
theorem e12_back (l : Launch) (G : va_G) (k : Nat → Nat) (sz : Nat) (h : Nat) (a : Nat → Nat) (d : Nat → ClassId) (v_taped : Int32) (v_size : Int32) (v_from : Int32) (v_behind : Int32) (v_hand : Int32) (v_value : Int32) (v_fault : Int32) (v_faultAt : Int32) (v_clock : Int32) (v_coin : Int32) (v_loan : Int32) (v_matched : Int32) (v_taxed : Int32) (v_paidStages : Int32) (v_grown : Int32) (v_pledges : Int32) (v_sums : Int32) (v_stages : Int32) (v_isStopped : Int32) (v_begun : Int32) (f_back : Nat → Int32) (x1 : Int32) : Met l yX12_back (Cond.code yX12_back cX12_back 2 (some .int) :: tb) ({ frames := 2, cells := 0, slots := 0, locals := 45 } : Room) (va_Pc [.ref h, .int x1] (cP G k [(h, .inr (12, [.ref (a 0), .ref (a 1), .ref (a 2), .ref (a 3), .int v_taped, .int v_size, .int v_from, .int v_behind, .int v_hand, .int v_value, .int v_fault, .int v_faultAt, .ref (a 4), .int v_clock, .int v_coin, .int v_loan, .int v_matched, .int v_taxed, .int v_paidStages, .int v_grown, .int v_pledges, .int v_sums, .int v_stages, .int v_isStopped, .ref (a 5), .ref (a 6), .ref (a 7), .ref (a 8), .ref (a 9), .ref (a 10), .ref (a 11), .ref (a 12), .ref (a 13), .ref (a 14), .ref (a 15), .ref (a 16), .ref (a 17), .ref (a 18), .ref (a 19), .ref (a 20), .ref (a 21), .ref (a 22), .ref (a 23), .ref (a 24), .ref (a 25), .ref (a 26), .ref (a 27), .ref (a 28), .ref (a 29), .ref (a 30), .int v_begun, .ref (a 31), .ref (a 32)])), ((a 8), .inl ((d 8), 30, .inl f_back))] [((d 8), .int)] sz)) (va_Qi (fun (r : Int32) (_ : Unit) => (Rbck x1 f_back r)) (cB G (fun (_ : Unit) => [(h, .inr (12, [.ref (a 0), .ref (a 1), .ref (a 2), .ref (a 3), .int v_taped, .int v_size, .int v_from, .int v_behind, .int v_hand, .int v_value, .int v_fault, .int v_faultAt, .ref (a 4), .int v_clock, .int v_coin, .int v_loan, .int v_matched, .int v_taxed, .int v_paidStages, .int v_grown, .int v_pledges, .int v_sums, .int v_stages, .int v_isStopped, .ref (a 5), .ref (a 6), .ref (a 7), .ref (a 8), .ref (a 9), .ref (a 10), .ref (a 11), .ref (a 12), .ref (a 13), .ref (a 14), .ref (a 15), .ref (a 16), .ref (a 17), .ref (a 18), .ref (a 19), .ref (a 20), .ref (a 21), .ref (a 22), .ref (a 23), .ref (a 24), .ref (a 25), .ref (a 26), .ref (a 27), .ref (a 28), .ref (a 29), .ref (a 30), .int v_begun, .ref (a 31), .ref (a 32)])), ((a 8), .inl ((d 8), 30, .inl f_back))]) (fun (_ : Unit) => []) (va_A [(h, .inr (12, [.ref (a 0), .ref (a 1), .ref (a 2), .ref (a 3), .int v_taped, .int v_size, .int v_from, .int v_behind, .int v_hand, .int v_value, .int v_fault, .int v_faultAt, .ref (a 4), .int v_clock, .int v_coin, .int v_loan, .int v_matched, .int v_taxed, .int v_paidStages, .int v_grown, .int v_pledges, .int v_sums, .int v_stages, .int v_isStopped, .ref (a 5), .ref (a 6), .ref (a 7), .ref (a 8), .ref (a 9), .ref (a 10), .ref (a 11), .ref (a 12), .ref (a 13), .ref (a 14), .ref (a 15), .ref (a 16), .ref (a 17), .ref (a 18), .ref (a 19), .ref (a 20), .ref (a 21), .ref (a 22), .ref (a 23), .ref (a 24), .ref (a 25), .ref (a 26), .ref (a 27), .ref (a 28), .ref (a 29), .ref (a 30), .int v_begun, .ref (a 31), .ref (a 32)])), ((a 8), .inl ((d 8), 30, .inl f_back))] sz)) (va_A [(h, .inr (12, [.ref (a 0), .ref (a 1), .ref (a 2), .ref (a 3), .int v_taped, .int v_size, .int v_from, .int v_behind, .int v_hand, .int v_value, .int v_fault, .int v_faultAt, .ref (a 4), .int v_clock, .int v_coin, .int v_loan, .int v_matched, .int v_taxed, .int v_paidStages, .int v_grown, .int v_pledges, .int v_sums, .int v_stages, .int v_isStopped, .ref (a 5), .ref (a 6), .ref (a 7), .ref (a 8), .ref (a 9), .ref (a 10), .ref (a 11), .ref (a 12), .ref (a 13), .ref (a 14), .ref (a 15), .ref (a 16), .ref (a 17), .ref (a 18), .ref (a 19), .ref (a 20), .ref (a 21), .ref (a 22), .ref (a 23), .ref (a 24), .ref (a 25), .ref (a 26), .ref (a 27), .ref (a 28), .ref (a 29), .ref (a 30), .int v_begun, .ref (a 31), .ref (a 32)])), ((a 8), .inl ((d 8), 30, .inl f_back))] sz)) 0 0 (va_A [(h, .inr (12, [.ref (a 0), .ref (a 1), .ref (a 2), .ref (a 3), .int v_taped, .int v_size, .int v_from, .int v_behind, .int v_hand, .int v_value, .int v_fault, .int v_faultAt, .ref (a 4), .int v_clock, .int v_coin, .int v_loan, .int v_matched, .int v_taxed, .int v_paidStages, .int v_grown, .int v_pledges, .int v_sums, .int v_stages, .int v_isStopped, .ref (a 5), .ref (a 6), .ref (a 7), .ref (a 8), .ref (a 9), .ref (a 10), .ref (a 11), .ref (a 12), .ref (a 13), .ref (a 14), .ref (a 15), .ref (a 16), .ref (a 17), .ref (a 18), .ref (a 19), .ref (a 20), .ref (a 21), .ref (a 22), .ref (a 23), .ref (a 24), .ref (a 25), .ref (a 26), .ref (a 27), .ref (a 28), .ref (a 29), .ref (a 30), .int v_begun, .ref (a 31), .ref (a 32)])), ((a 8), .inl ((d 8), 30, .inl f_back))] sz) := by
  refine ofC_i (cc := cX12_back) (maxL := 2) (ret := (some .int)) (by decide) rfl (Nat.le_of_ble_eq_true rfl) ?_
  intro p e s m args below meth c A ls Q F hr hin hlk St hl hQ
  have hx := F.1
  have hb := F.2.1
  have hl : lv_has ls 2 [(0, .ref h), (1, .int x1)] := hl
  have St : cS G k [(h, .inr (12, [.ref (a 0), .ref (a 1), .ref (a 2), .ref (a 3), .int v_taped, .int v_size, .int v_from, .int v_behind, .int v_hand, .int v_value, .int v_fault, .int v_faultAt, .ref (a 4), .int v_clock, .int v_coin, .int v_loan, .int v_matched, .int v_taxed, .int v_paidStages, .int v_grown, .int v_pledges, .int v_sums, .int v_stages, .int v_isStopped, .ref (a 5), .ref (a 6), .ref (a 7), .ref (a 8), .ref (a 9), .ref (a 10), .ref (a 11), .ref (a 12), .ref (a 13), .ref (a 14), .ref (a 15), .ref (a 16), .ref (a 17), .ref (a 18), .ref (a 19), .ref (a 20), .ref (a 21), .ref (a 22), .ref (a 23), .ref (a 24), .ref (a 25), .ref (a 26), .ref (a 27), .ref (a 28), .ref (a 29), .ref (a 30), .int v_begun, .ref (a 31), .ref (a 32)])), ((a 8), .inl ((d 8), 30, .inl f_back))] [((d 8), .int)] A s s.heap [] := St
  refine lv_iload_n hx hb dX12_back_0 rfl (lv_at hl 1 rfl) ?_
  refine cs_i St [] [0, 1] (wc := []) (wr := [(h, .inr (12, [.ref (a 0), .ref (a 1), .ref (a 2), .ref (a 3), .int v_taped, .int v_size, .int v_from, .int v_behind, .int v_hand, .int v_value, .int v_fault, .int v_faultAt, .ref (a 4), .int v_clock, .int v_coin, .int v_loan, .int v_matched, .int v_taxed, .int v_paidStages, .int v_grown, .int v_pledges, .int v_sums, .int v_stages, .int v_isStopped, .ref (a 5), .ref (a 6), .ref (a 7), .ref (a 8), .ref (a 9), .ref (a 10), .ref (a 11), .ref (a 12), .ref (a 13), .ref (a 14), .ref (a 15), .ref (a 16), .ref (a 17), .ref (a 18), .ref (a 19), .ref (a 20), .ref (a 21), .ref (a 22), .ref (a 23), .ref (a 24), .ref (a 25), .ref (a 26), .ref (a 27), .ref (a 28), .ref (a 29), .ref (a 30), .int v_begun, .ref (a 31), .ref (a 32)])), ((a 8), .inl ((d 8), 30, .inl f_back))]) rfl rfl (by decide) (by decide) (va_runS (As := [.int x1]) (rest := []) F (c12_isGiver l G k _ x1) (cwSt F mf_X12_isGiver km_X12_218 rfl rfl ⟨Nat.le_of_ble_eq_true rfl, Nat.le_of_ble_eq_true rfl⟩) (cs_pre St [] rfl (by decide) [] rfl) rfl rfl hl.1 rfl (lv_room (Nat.le_of_ble_eq_true rfl)) dX12_back_1 ⟨Nat.le_of_ble_eq_true rfl, Nat.le_of_ble_eq_true rfl⟩) (fun r_1 u_2 H locs hw St => ?_)
  try dsimp only at hw
  rcases hw with ⟨z_3, hf_4⟩ | ⟨z_5, hf_6⟩
  ·
    subst r_1
    have St : cS G k [(h, .inr (12, [.ref (a 0), .ref (a 1), .ref (a 2), .ref (a 3), .int v_taped, .int v_size, .int v_from, .int v_behind, .int v_hand, .int v_value, .int v_fault, .int v_faultAt, .ref (a 4), .int v_clock, .int v_coin, .int v_loan, .int v_matched, .int v_taxed, .int v_paidStages, .int v_grown, .int v_pledges, .int v_sums, .int v_stages, .int v_isStopped, .ref (a 5), .ref (a 6), .ref (a 7), .ref (a 8), .ref (a 9), .ref (a 10), .ref (a 11), .ref (a 12), .ref (a 13), .ref (a 14), .ref (a 15), .ref (a 16), .ref (a 17), .ref (a 18), .ref (a 19), .ref (a 20), .ref (a 21), .ref (a 22), .ref (a 23), .ref (a 24), .ref (a 25), .ref (a 26), .ref (a 27), .ref (a 28), .ref (a 29), .ref (a 30), .int v_begun, .ref (a 31), .ref (a 32)])), ((a 8), .inl ((d 8), 30, .inl f_back))] [((d 8), .int)] A s H locs := St
    refine lv_if_eq (tgt := 16) hx hb dX12_back_4 (by decide) (fun c4 => ?_) (fun c4 => ?_)
    · exact absurd c4 (by decide)
    refine lv_aload_n hx hb dX12_back_7 rfl (lv_at hl 0 rfl) ?_
    refine cs_get F St 0 rfl rfl inX12 27 (by decide) kf_X12_129 rfl dX12_back_8 ?_
    refine lv_iload_n hx hb dX12_back_11 rfl (lv_at hl 1 rfl) ?_
    refine cs_ild F St 1 0 rfl rfl (vp_in_iff.mpr ⟨by omega, by omega⟩) dX12_back_12 ?_
    refine lv_topi (fun y_7 ey_7 => ?_)
    have gy_7 := congrArg Int32.toInt ey_7
    refine lv_goto (tgt := 18) hx hb dX12_back_13 (by decide) ?_
    exact cs_iret F hr hlk hQ St () (r := y_7) (Or.inr ⟨by omega, ey_7⟩) [0, 1] rfl (by decide) [] rfl (by decide) (by decide) dX12_back_18
  ·
    subst r_1
    have St : cS G k [(h, .inr (12, [.ref (a 0), .ref (a 1), .ref (a 2), .ref (a 3), .int v_taped, .int v_size, .int v_from, .int v_behind, .int v_hand, .int v_value, .int v_fault, .int v_faultAt, .ref (a 4), .int v_clock, .int v_coin, .int v_loan, .int v_matched, .int v_taxed, .int v_paidStages, .int v_grown, .int v_pledges, .int v_sums, .int v_stages, .int v_isStopped, .ref (a 5), .ref (a 6), .ref (a 7), .ref (a 8), .ref (a 9), .ref (a 10), .ref (a 11), .ref (a 12), .ref (a 13), .ref (a 14), .ref (a 15), .ref (a 16), .ref (a 17), .ref (a 18), .ref (a 19), .ref (a 20), .ref (a 21), .ref (a 22), .ref (a 23), .ref (a 24), .ref (a 25), .ref (a 26), .ref (a 27), .ref (a 28), .ref (a 29), .ref (a 30), .int v_begun, .ref (a 31), .ref (a 32)])), ((a 8), .inl ((d 8), 30, .inl f_back))] [((d 8), .int)] A s H locs := St
    refine lv_if_eq (tgt := 16) hx hb dX12_back_4 (by decide) (fun c4 => ?_) (fun c4 => ?_)
    rotate_left
    · exact absurd (by decide) c4
    refine lv_bipush (v := (-2)) hx hb dX12_back_16 (by decide) ?_
    exact cs_iret F hr hlk hQ St () (r := (-2)) (Or.inl ⟨by omega, rfl⟩) [0, 1] rfl (by decide) [] rfl (by decide) (by decide) dX12_back_18
set_option maxHeartbeats 4000000 in
set_option maxRecDepth 100000 in
theorem e12_carve (l : Launch) (G : va_G) (k : Nat → Nat) (sz : Nat) (h : Nat) (a : Nat → Nat) (d : Nat → ClassId) (v_taped : Int32) (v_size : Int32) (v_from : Int32) (v_behind : Int32) (v_hand : Int32) (v_value : Int32) (v_fault : Int32) (v_faultAt : Int32) (v_clock : Int32) (v_coin : Int32) (v_loan : Int32) (v_matched : Int32) (v_taxed : Int32) (v_paidStages : Int32) (v_grown : Int32) (v_pledges : Int32) (v_sums : Int32) (v_stages : Int32) (v_isStopped : Int32) (v_begun : Int32) (f_sum : Nat → Int32) (f_stones : Nat → Int32) (f_sumGiver : Nat → Int32) (f_sumPence : Nat → Int32) (f_isNameless : Nat → Int32) (f_rule : Nat → Int32) (hSg : mGi v_sums f_sumGiver) (hSp : mSp v_sums f_sumPence) (hF : rbd f_rule) : Met l yX12_carve (Cond.code yX12_carve cX12_carve 5 (some .int) :: tb) ({ frames := 0, cells := 0, slots := 0, locals := 0 } : Room) (va_Pc [.ref h] (cP G k [(h, .inr (12, [.ref (a 0), .ref (a 1), .ref (a 2), .ref (a 3), .int v_taped, .int v_size, .int v_from, .int v_behind, .int v_hand, .int v_value, .int v_fault, .int v_faultAt, .ref (a 4), .int v_clock, .int v_coin, .int v_loan, .int v_matched, .int v_taxed, .int v_paidStages, .int v_grown, .int v_pledges, .int v_sums, .int v_stages, .int v_isStopped, .ref (a 5), .ref (a 6), .ref (a 7), .ref (a 8), .ref (a 9), .ref (a 10), .ref (a 11), .ref (a 12), .ref (a 13), .ref (a 14), .ref (a 15), .ref (a 16), .ref (a 17), .ref (a 18), .ref (a 19), .ref (a 20), .ref (a 21), .ref (a 22), .ref (a 23), .ref (a 24), .ref (a 25), .ref (a 26), .ref (a 27), .ref (a 28), .ref (a 29), .ref (a 30), .int v_begun, .ref (a 31), .ref (a 32)])), ((a 31), .inl ((d 31), 30, .inl f_sum)), ((a 32), .inl ((d 32), 30, .inl f_stones)), ((a 22), .inl ((d 22), 250, .inl f_sumGiver)), ((a 24), .inl ((d 24), 250, .inl f_sumPence)), ((a 9), .inl ((d 9), 30, .inl f_isNameless)), ((a 0), .inl ((d 0), 9, .inl f_rule))] [((d 31), .int), ((d 32), .int), ((d 22), .int), ((d 24), .int), ((d 9), .boolean), ((d 0), .int)] sz)) (va_Qi (fun (r : Int32) (u : (Nat → Int32) × (Nat → Int32)) => match u with | (g_sum, g_stones) => (stR f_sumGiver f_sumPence f_isNameless (100 * (f_rule (7 : Int32).toNatClampNeg).toInt) g_sum g_stones r v_sums.toNatClampNeg) ∧ (0 ≤ r.toInt ∧ r.toInt ≤ 30)) (cB G (fun u => match u with | (g_sum, g_stones) => [(h, .inr (12, [.ref (a 0), .ref (a 1), .ref (a 2), .ref (a 3), .int v_taped, .int v_size, .int v_from, .int v_behind, .int v_hand, .int v_value, .int v_fault, .int v_faultAt, .ref (a 4), .int v_clock, .int v_coin, .int v_loan, .int v_matched, .int v_taxed, .int v_paidStages, .int v_grown, .int v_pledges, .int v_sums, .int v_stages, .int v_isStopped, .ref (a 5), .ref (a 6), .ref (a 7), .ref (a 8), .ref (a 9), .ref (a 10), .ref (a 11), .ref (a 12), .ref (a 13), .ref (a 14), .ref (a 15), .ref (a 16), .ref (a 17), .ref (a 18), .ref (a 19), .ref (a 20), .ref (a 21), .ref (a 22), .ref (a 23), .ref (a 24), .ref (a 25), .ref (a 26), .ref (a 27), .ref (a 28), .ref (a 29), .ref (a 30), .int v_begun, .ref (a 31), .ref (a 32)])), ((a 31), .inl ((d 31), 30, .inl g_sum)), ((a 32), .inl ((d 32), 30, .inl g_stones)), ((a 22), .inl ((d 22), 250, .inl f_sumGiver)), ((a 24), .inl ((d 24), 250, .inl f_sumPence)), ((a 9), .inl ((d 9), 30, .inl f_isNameless)), ((a 0), .inl ((d 0), 9, .inl f_rule))]) (fun u => match u with | (g_sum, g_stones) => []) (va_A [(h, .inr (12, [.ref (a 0), .ref (a 1), .ref (a 2), .ref (a 3), .int v_taped, .int v_size, .int v_from, .int v_behind, .int v_hand, .int v_value, .int v_fault, .int v_faultAt, .ref (a 4), .int v_clock, .int v_coin, .int v_loan, .int v_matched, .int v_taxed, .int v_paidStages, .int v_grown, .int v_pledges, .int v_sums, .int v_stages, .int v_isStopped, .ref (a 5), .ref (a 6), .ref (a 7), .ref (a 8), .ref (a 9), .ref (a 10), .ref (a 11), .ref (a 12), .ref (a 13), .ref (a 14), .ref (a 15), .ref (a 16), .ref (a 17), .ref (a 18), .ref (a 19), .ref (a 20), .ref (a 21), .ref (a 22), .ref (a 23), .ref (a 24), .ref (a 25), .ref (a 26), .ref (a 27), .ref (a 28), .ref (a 29), .ref (a 30), .int v_begun, .ref (a 31), .ref (a 32)])), ((a 31), .inl ((d 31), 30, .inl f_sum)), ((a 32), .inl ((d 32), 30, .inl f_stones)), ((a 22), .inl ((d 22), 250, .inl f_sumGiver)), ((a 24), .inl ((d 24), 250, .inl f_sumPence)), ((a 9), .inl ((d 9), 30, .inl f_isNameless)), ((a 0), .inl ((d 0), 9, .inl f_rule))] sz)) (va_A [(h, .inr (12, [.ref (a 0), .ref (a 1), .ref (a 2), .ref (a 3), .int v_taped, .int v_size, .int v_from, .int v_behind, .int v_hand, .int v_value, .int v_fault, .int v_faultAt, .ref (a 4), .int v_clock, .int v_coin, .int v_loan, .int v_matched, .int v_taxed, .int v_paidStages, .int v_grown, .int v_pledges, .int v_sums, .int v_stages, .int v_isStopped, .ref (a 5), .ref (a 6), .ref (a 7), .ref (a 8), .ref (a 9), .ref (a 10), .ref (a 11), .ref (a 12), .ref (a 13), .ref (a 14), .ref (a 15), .ref (a 16), .ref (a 17), .ref (a 18), .ref (a 19), .ref (a 20), .ref (a 21), .ref (a 22), .ref (a 23), .ref (a 24), .ref (a 25), .ref (a 26), .ref (a 27), .ref (a 28), .ref (a 29), .ref (a 30), .int v_begun, .ref (a 31), .ref (a 32)])), ((a 31), .inl ((d 31), 30, .inl f_sum)), ((a 32), .inl ((d 32), 30, .inl f_stones)), ((a 22), .inl ((d 22), 250, .inl f_sumGiver)), ((a 24), .inl ((d 24), 250, .inl f_sumPence)), ((a 9), .inl ((d 9), 30, .inl f_isNameless)), ((a 0), .inl ((d 0), 9, .inl f_rule))] sz)) 0 0 (va_A [(h, .inr (12, [.ref (a 0), .ref (a 1), .ref (a 2), .ref (a 3), .int v_taped, .int v_size, .int v_from, .int v_behind, .int v_hand, .int v_value, .int v_fault, .int v_faultAt, .ref (a 4), .int v_clock, .int v_coin, .int v_loan, .int v_matched, .int v_taxed, .int v_paidStages, .int v_grown, .int v_pledges, .int v_sums, .int v_stages, .int v_isStopped, .ref (a 5), .ref (a 6), .ref (a 7), .ref (a 8), .ref (a 9), .ref (a 10), .ref (a 11), .ref (a 12), .ref (a 13), .ref (a 14), .ref (a 15), .ref (a 16), .ref (a 17), .ref (a 18), .ref (a 19), .ref (a 20), .ref (a 21), .ref (a 22), .ref (a 23), .ref (a 24), .ref (a 25), .ref (a 26), .ref (a 27), .ref (a 28), .ref (a 29), .ref (a 30), .int v_begun, .ref (a 31), .ref (a 32)])), ((a 31), .inl ((d 31), 30, .inl f_sum)), ((a 32), .inl ((d 32), 30, .inl f_stones)), ((a 22), .inl ((d 22), 250, .inl f_sumGiver)), ((a 24), .inl ((d 24), 250, .inl f_sumPence)), ((a 9), .inl ((d 9), 30, .inl f_isNameless)), ((a 0), .inl ((d 0), 9, .inl f_rule))] sz) := by
  refine ofC_i (cc := cX12_carve) (maxL := 5) (ret := (some .int)) (by decide) rfl (Nat.le_of_ble_eq_true rfl) ?_
  intro p e s m args below meth c A ls Q F hr hin hlk St hl hQ
  have hx := F.1
  have hb := F.2.1
  have hl : lv_has ls 5 [(0, .ref h)] := hl
  have St : cS G k [(h, .inr (12, [.ref (a 0), .ref (a 1), .ref (a 2), .ref (a 3), .int v_taped, .int v_size, .int v_from, .int v_behind, .int v_hand, .int v_value, .int v_fault, .int v_faultAt, .ref (a 4), .int v_clock, .int v_coin, .int v_loan, .int v_matched, .int v_taxed, .int v_paidStages, .int v_grown, .int v_pledges, .int v_sums, .int v_stages, .int v_isStopped, .ref (a 5), .ref (a 6), .ref (a 7), .ref (a 8), .ref (a 9), .ref (a 10), .ref (a 11), .ref (a 12), .ref (a 13), .ref (a 14), .ref (a 15), .ref (a 16), .ref (a 17), .ref (a 18), .ref (a 19), .ref (a 20), .ref (a 21), .ref (a 22), .ref (a 23), .ref (a 24), .ref (a 25), .ref (a 26), .ref (a 27), .ref (a 28), .ref (a 29), .ref (a 30), .int v_begun, .ref (a 31), .ref (a 32)])), ((a 31), .inl ((d 31), 30, .inl f_sum)), ((a 32), .inl ((d 32), 30, .inl f_stones)), ((a 22), .inl ((d 22), 250, .inl f_sumGiver)), ((a 24), .inl ((d 24), 250, .inl f_sumPence)), ((a 9), .inl ((d 9), 30, .inl f_isNameless)), ((a 0), .inl ((d 0), 9, .inl f_rule))] [((d 31), .int), ((d 32), .int), ((d 22), .int), ((d 24), .int), ((d 9), .boolean), ((d 0), .int)] A s s.heap [] := St
  have hsd := hSp.1
  have y0 : (0 : Int32).toInt = 0 := by decide
  have hF0 := hF.1
  have hF1 := hF.2.1
  have hF2 := hF.2.2.1
  have hF3 := hF.2.2.2.1
  have hF4 := hF.2.2.2.2.1
  have hF5 := hF.2.2.2.2.2.1
  have hF6 := hF.2.2.2.2.2.2.1
  have hF7 := hF.2.2.2.2.2.2.2
  have hn5 := nc_int (x := v_sums) (by omega)
  refine lv_iconst (v := 0) hx hb dX12_carve_0 (by decide) ?_
  refine lv_istore_n (lv' := [(1, .int 0), (0, .ref h)]) hx hb dX12_carve_1 rfl hl (by decide) rfl (fun ls hl => ?_)
  have lp2 : ∀ (n : Nat) (i : Int32) (fs : Nat → Int32) (H : Heap) (locs : List Loc) (ls : Array Slot), ((0 ≤ i.toInt ∧ i.toInt ≤ 30) ∧ ∀ g : Nat, (g : Int) < i.toInt → fs g = 0) → ((30 - i.toInt).toNat) < n → cS G k [(h, .inr (12, [.ref (a 0), .ref (a 1), .ref (a 2), .ref (a 3), .int v_taped, .int v_size, .int v_from, .int v_behind, .int v_hand, .int v_value, .int v_fault, .int v_faultAt, .ref (a 4), .int v_clock, .int v_coin, .int v_loan, .int v_matched, .int v_taxed, .int v_paidStages, .int v_grown, .int v_pledges, .int v_sums, .int v_stages, .int v_isStopped, .ref (a 5), .ref (a 6), .ref (a 7), .ref (a 8), .ref (a 9), .ref (a 10), .ref (a 11), .ref (a 12), .ref (a 13), .ref (a 14), .ref (a 15), .ref (a 16), .ref (a 17), .ref (a 18), .ref (a 19), .ref (a 20), .ref (a 21), .ref (a 22), .ref (a 23), .ref (a 24), .ref (a 25), .ref (a 26), .ref (a 27), .ref (a 28), .ref (a 29), .ref (a 30), .int v_begun, .ref (a 31), .ref (a 32)])), ((a 31), .inl ((d 31), 30, .inl fs)), ((a 32), .inl ((d 32), 30, .inl f_stones)), ((a 22), .inl ((d 22), 250, .inl f_sumGiver)), ((a 24), .inl ((d 24), 250, .inl f_sumPence)), ((a 9), .inl ((d 9), 30, .inl f_isNameless)), ((a 0), .inl ((d 0), 9, .inl f_rule))] [((d 31), .int), ((d 32), .int), ((d 22), .int), ((d 24), .int), ((d 9), .boolean), ((d 0), .int)] A s H locs → lv_has ls 5 [(1, .int i), (0, .ref h)] → W p l e ({ frames := 0, cells := 0, slots := 0, locals := 0 } : Room) s m args below meth c H locs 0 0 Q (F0 m 2 ls []) := by
    intro n
    induction n with
    | zero => intro i fs H locs ls hI hn; exact absurd hn (Nat.not_lt_zero _)
    | succ n ih =>
      intro i fs H locs ls hI hn St hl
      obtain ⟨hI0, hI1⟩ := hI
      refine lv_iload_n hx hb dX12_carve_2 rfl (lv_at hl 0 rfl) ?_
      refine lv_bipush (v := 30) hx hb dX12_carve_3 (by decide) ?_
      refine lv_icmp_ge (tgt := 21) hx hb dX12_carve_5 (by decide) (fun c5 => ?_) (fun c5 => ?_)
      ·
        have i5 := ci_le (x := 30) (y := i) (show (30 : Int32).toInt = 30 by decide) rfl c5
        refine lv_iconst (v := 0) hx hb dX12_carve_21 (by decide) ?_
        refine lv_istore_n (lv' := [(1, .int 0), (0, .ref h)]) hx hb dX12_carve_22 rfl hl (by decide) rfl (fun ls hl => ?_)
        refine lv_iconst (v := 0) hx hb dX12_carve_23 (by decide) ?_
        refine lv_istore_n (lv' := [(2, .int 0), (1, .int 0), (0, .ref h)]) hx hb dX12_carve_24 rfl hl (by decide) rfl (fun ls hl => ?_)
        have lp25 : ∀ (n : Nat) (nn : Int32) (kk : Int32) (fs2 : Nat → Int32) (ft2 : Nat → Int32) (H : Heap) (locs : List Loc) (ls : Array Slot), ((0 ≤ kk.toInt ∧ kk.toInt ≤ v_sums.toInt) ∧ stR f_sumGiver f_sumPence f_isNameless (100 * (f_rule (7 : Int32).toNatClampNeg).toInt) fs2 ft2 nn kk.toNatClampNeg ∧ cvI fs2 (100 * (f_rule (7 : Int32).toNatClampNeg).toInt) nn kk) → ((250 - kk.toInt).toNat) < n → cS G k [(h, .inr (12, [.ref (a 0), .ref (a 1), .ref (a 2), .ref (a 3), .int v_taped, .int v_size, .int v_from, .int v_behind, .int v_hand, .int v_value, .int v_fault, .int v_faultAt, .ref (a 4), .int v_clock, .int v_coin, .int v_loan, .int v_matched, .int v_taxed, .int v_paidStages, .int v_grown, .int v_pledges, .int v_sums, .int v_stages, .int v_isStopped, .ref (a 5), .ref (a 6), .ref (a 7), .ref (a 8), .ref (a 9), .ref (a 10), .ref (a 11), .ref (a 12), .ref (a 13), .ref (a 14), .ref (a 15), .ref (a 16), .ref (a 17), .ref (a 18), .ref (a 19), .ref (a 20), .ref (a 21), .ref (a 22), .ref (a 23), .ref (a 24), .ref (a 25), .ref (a 26), .ref (a 27), .ref (a 28), .ref (a 29), .ref (a 30), .int v_begun, .ref (a 31), .ref (a 32)])), ((a 31), .inl ((d 31), 30, .inl fs2)), ((a 32), .inl ((d 32), 30, .inl ft2)), ((a 22), .inl ((d 22), 250, .inl f_sumGiver)), ((a 24), .inl ((d 24), 250, .inl f_sumPence)), ((a 9), .inl ((d 9), 30, .inl f_isNameless)), ((a 0), .inl ((d 0), 9, .inl f_rule))] [((d 31), .int), ((d 32), .int), ((d 22), .int), ((d 24), .int), ((d 9), .boolean), ((d 0), .int)] A s H locs → lv_has ls 5 [(2, .int kk), (1, .int nn), (0, .ref h)] → W p l e ({ frames := 0, cells := 0, slots := 0, locals := 0 } : Room) s m args below meth c H locs 0 0 Q (F0 m 25 ls []) := by
          intro n
          induction n with
          | zero => intro nn kk fs2 ft2 H locs ls hI hn; exact absurd hn (Nat.not_lt_zero _)
          | succ n ih25 =>
            intro nn kk fs2 ft2 H locs ls hI hn St hl
            obtain ⟨⟨hJ0, hJ1⟩, hR, hcv⟩ := hI
            have nk := nc_int hJ0
            have hn30 := cvI_n hcv
            refine lv_iload_n hx hb dX12_carve_25 rfl (lv_at hl 0 rfl) ?_
            refine lv_aload_n hx hb dX12_carve_26 rfl (lv_at hl 2 rfl) ?_
            refine cs_get F St 0 rfl rfl inX12 21 (by decide) kf_X12_246 rfl dX12_carve_27 ?_
            refine lv_icmp_ge (tgt := 133) hx hb dX12_carve_30 (by decide) (fun c30 => ?_) (fun c30 => ?_)
            ·
              have i30 := ci_le (x := v_sums) (y := kk) rfl rfl c30
              refine lv_iload_n hx hb dX12_carve_133 rfl (lv_at hl 1 rfl) ?_
              exact cs_iret F hr hlk hQ St (fs2, ft2) (r := nn) ⟨by rw [show v_sums.toNatClampNeg = kk.toNatClampNeg by omega]; exact hR, cvI_n hcv⟩ [0, 1, 2, 3, 4, 5, 6] rfl (by decide) [] rfl (by decide) (by decide) dX12_carve_134
            ·
              have i30 := ci_nle (x := v_sums) (y := kk) rfl rfl c30
              refine lv_aload_n hx hb dX12_carve_33 rfl (lv_at hl 2 rfl) ?_
              refine cs_get F St 0 rfl rfl inX12 41 (by decide) kf_X12_171 rfl dX12_carve_34 ?_
              refine lv_iload_n hx hb dX12_carve_37 rfl (lv_at hl 0 rfl) ?_
              refine cs_ild F St 3 2 rfl rfl (vp_in_iff.mpr ⟨by omega, by omega⟩) dX12_carve_38 ?_
              refine lv_topi (fun y_1 ey_1 => ?_)
              have gy_1 := congrArg Int32.toInt ey_1
              have hdy_1 := mGi_g hSg (by omega) (by omega) ey_1
              have hgv := ey_1
              refine lv_istore_n (lv' := [(3, .int y_1), (2, .int kk), (1, .int nn), (0, .ref h)]) hx hb dX12_carve_39 rfl hl (by decide) rfl (fun ls hl => ?_)
              refine lv_aload_n hx hb dX12_carve_40 rfl (lv_at hl 3 rfl) ?_
              refine cs_get F St 0 rfl rfl inX12 51 (by decide) kf_X12_197 rfl dX12_carve_41 ?_
              refine lv_iload_n hx hb dX12_carve_44 rfl (lv_at hl 0 rfl) ?_
              refine cs_ild F St 1 0 rfl rfl (vp_in_iff.mpr ⟨by omega, by omega⟩) dX12_carve_45 ?_
              refine lv_topi (fun y_2 ey_2 => ?_)
              have gy_2 := congrArg Int32.toInt ey_2
              have hat : y_2.toInt = sm (tG f_sumGiver f_sumPence (f_sumGiver kk.toNatClampNeg).toInt) kk.toNatClampNeg := by rw [ey_2, hgv]; exact stR_at hR (by rw [← hgv]; omega)
              have hq46 := cvI_at hcv hdy_1 ey_2
              refine lv_bipush (v := 100) hx hb dX12_carve_46 (by decide) ?_
              refine lv_aload_n hx hb dX12_carve_48 rfl (lv_at hl 3 rfl) ?_
              refine cs_get F St 0 rfl rfl inX12 0 (by decide) kf_X12_114 rfl dX12_carve_49 ?_
              refine lv_bipush (v := 7) hx hb dX12_carve_52 (by decide) ?_
              refine cs_ild F St 6 5 rfl rfl (vp_in_iff.mpr (by decide)) dX12_carve_54 ?_
              refine lv_topi (fun y_3 ey_3 => ?_)
              have gy_3 := congrArg Int32.toInt ey_3
              refine lv_imul hx hb dX12_carve_55 ?_
              refine lv_topi (fun y_4 ey_4 => ?_)
              first | have jy_4 : y_4.toInt = 100 * y_3.toInt := (by have q9 := ci_mul (x := 100) (y := y_3) (show (100 : Int32).toInt = 100 by decide) rfl ey_4; omega) | have jy_4 := ci_mul (x := 100) (y := y_3) (show (100 : Int32).toInt = 100 by decide) rfl ey_4
              refine lv_icmp_lt (tgt := 63) hx hb dX12_carve_56 (by decide) (fun c56 => ?_) (fun c56 => ?_)
              ·
                have i56 := ci_lt (x := y_2) (y := y_4) rfl rfl c56
                refine lv_iconst (v := 0) hx hb dX12_carve_63 (by decide) ?_
                refine lv_istore (lv' := [(4, .int 0), (3, .int y_1), (2, .int kk), (1, .int nn), (0, .ref h)]) hx hb dX12_carve_64 hl (by decide) rfl (fun ls hl => ?_)
                refine lv_aload_n hx hb dX12_carve_66 rfl (lv_at hl 4 rfl) ?_
                refine cs_get F St 0 rfl rfl inX12 51 (by decide) kf_X12_197 rfl dX12_carve_67 ?_
                refine lv_iload_n hx hb dX12_carve_70 rfl (lv_at hl 1 rfl) ?_
                refine lv_dup2_11 hx hb dX12_carve_71 rfl rfl ?_
                refine cs_ild F St 1 0 rfl rfl (vp_in_iff.mpr ⟨by omega, by omega⟩) dX12_carve_72 ?_
                refine lv_topi (fun y_5 ey_5 => ?_)
                have gy_5 := congrArg Int32.toInt ey_5
                have hq73 : y_5.toInt = y_2.toInt := congrArg _ (ey_5.trans ey_2.symm)
                refine lv_aload_n hx hb dX12_carve_73 rfl (lv_at hl 4 rfl) ?_
                refine cs_get F St 0 rfl rfl inX12 43 (by decide) kf_X12_177 rfl dX12_carve_74 ?_
                refine lv_iload_n hx hb dX12_carve_77 rfl (lv_at hl 2 rfl) ?_
                refine cs_ild F St 4 3 rfl rfl (vp_in_iff.mpr ⟨by omega, by omega⟩) dX12_carve_78 ?_
                refine lv_topi (fun y_6 ey_6 => ?_)
                have gy_6 := congrArg Int32.toInt ey_6
                have hdy_6 := mSp_p hSp (by omega) (by omega) ey_6
                refine lv_iadd hx hb dX12_carve_79 ?_
                refine lv_topi (fun y_7 ey_7 => ?_)
                first | have jy_7 : y_7.toInt = y_5.toInt + y_6.toInt := (by have q9 := ci_add (x := y_5) (y := y_6) rfl rfl ey_7; omega) | have jy_7 := ci_add (x := y_5) (y := y_6) rfl rfl ey_7
                skip
                refine cs_ist F St 1 0 rfl rfl (vp_in_iff.mpr ⟨by omega, by omega⟩) (w' := [(h, .inr (12, [.ref (a 0), .ref (a 1), .ref (a 2), .ref (a 3), .int v_taped, .int v_size, .int v_from, .int v_behind, .int v_hand, .int v_value, .int v_fault, .int v_faultAt, .ref (a 4), .int v_clock, .int v_coin, .int v_loan, .int v_matched, .int v_taxed, .int v_paidStages, .int v_grown, .int v_pledges, .int v_sums, .int v_stages, .int v_isStopped, .ref (a 5), .ref (a 6), .ref (a 7), .ref (a 8), .ref (a 9), .ref (a 10), .ref (a 11), .ref (a 12), .ref (a 13), .ref (a 14), .ref (a 15), .ref (a 16), .ref (a 17), .ref (a 18), .ref (a 19), .ref (a 20), .ref (a 21), .ref (a 22), .ref (a 23), .ref (a 24), .ref (a 25), .ref (a 26), .ref (a 27), .ref (a 28), .ref (a 29), .ref (a 30), .int v_begun, .ref (a 31), .ref (a 32)])), ((a 31), .inl ((d 31), 30, .inl (upd fs2 (y_1 : Int32).toNatClampNeg y_7))), ((a 32), .inl ((d 32), 30, .inl ft2)), ((a 22), .inl ((d 22), 250, .inl f_sumGiver)), ((a 24), .inl ((d 24), 250, .inl f_sumPence)), ((a 9), .inl ((d 9), 30, .inl f_isNameless)), ((a 0), .inl ((d 0), 9, .inl f_rule))]) rfl dX12_carve_80 (fun H locs St => ?_)
                obtain ⟨f_8, ef_8⟩ : ∃ zz : Nat → Int32, zz = upd fs2 (y_1 : Int32).toNatClampNeg y_7 := ⟨_, rfl⟩
                rw [← ef_8] at St
                refine lv_iload hx hb dX12_carve_81 (lv_at hl 0 rfl) ?_
                refine lv_if_ne (tgt := 127) hx hb dX12_carve_83 (by decide) (fun c83 => ?_) (fun c83 => ?_)
                · exact absurd c83 (by decide)
                refine lv_aload_n hx hb dX12_carve_86 rfl (lv_at hl 4 rfl) ?_
                refine cs_get F St 0 rfl rfl inX12 51 (by decide) kf_X12_197 rfl dX12_carve_87 ?_
                refine lv_iload_n hx hb dX12_carve_90 rfl (lv_at hl 1 rfl) ?_
                refine cs_ild F St 1 0 rfl rfl (vp_in_iff.mpr ⟨by omega, by omega⟩) dX12_carve_91 ?_
                refine lv_topi (fun y_9 ey_9 => ?_)
                have gy_9 := congrArg Int32.toInt ey_9
                have hq92 : y_9.toInt = y_7.toInt := by rw [ey_9, ef_8, pk_us]
                refine lv_bipush (v := 100) hx hb dX12_carve_92 (by decide) ?_
                refine lv_aload_n hx hb dX12_carve_94 rfl (lv_at hl 4 rfl) ?_
                refine cs_get F St 0 rfl rfl inX12 0 (by decide) kf_X12_114 rfl dX12_carve_95 ?_
                refine lv_bipush (v := 7) hx hb dX12_carve_98 (by decide) ?_
                refine cs_ild F St 6 5 rfl rfl (vp_in_iff.mpr (by decide)) dX12_carve_100 ?_
                refine lv_topi (fun y_10 ey_10 => ?_)
                have gy_10 := congrArg Int32.toInt ey_10
                refine lv_imul hx hb dX12_carve_101 ?_
                refine lv_topi (fun y_11 ey_11 => ?_)
                first | have jy_11 : y_11.toInt = 100 * y_10.toInt := (by have q9 := ci_mul (x := 100) (y := y_10) (show (100 : Int32).toInt = 100 by decide) rfl ey_11; omega) | have jy_11 := ci_mul (x := 100) (y := y_10) (show (100 : Int32).toInt = 100 by decide) rfl ey_11
                refine lv_icmp_lt (tgt := 127) hx hb dX12_carve_102 (by decide) (fun c102 => ?_) (fun c102 => ?_)
                ·
                  have i102 := ci_lt (x := y_9) (y := y_11) rfl rfl c102
                  obtain ⟨y_12, ey_12⟩ : ∃ zz : Int32, zz = kk + 1 := ⟨_, rfl⟩
                  first | have jy_12 : y_12.toInt = kk.toInt + 1 := (by have q9 := ci_add (x := kk) rfl (show (1 : Int32).toInt = 1 by decide) ey_12; omega) | have jy_12 := ci_add (x := kk) rfl (show (1 : Int32).toInt = 1 by decide) ey_12
                  refine lv_iinc (v := y_12) (lv' := [(2, .int y_12), (4, .int 0), (3, .int y_1), (1, .int nn), (0, .ref h)]) hx hb dX12_carve_127 hl (k := 2) rfl (by rw [ey_12]; rfl) (by decide) rfl (fun ls hl => ?_)
                  refine lv_goto (tgt := 25) hx hb dX12_carve_130 (by decide) ?_
                  exact ih25 nn y_12 f_8 ft2 _ _ _ ⟨⟨by omega, by omega⟩, (by rw [nc_s hJ0 (show y_12.toInt = kk.toInt + 1 by omega), ef_8, hgv]; exact stR_n hR (by rw [← hgv]; omega) (by rw [← hgv, ← ey_2]; omega) (by unfold stQ; omega)), (by rw [ef_8]; exact cvI_keep hcv ey_2 (by omega) (by omega) (by omega))⟩ (by omega) St (lv_sub hl [0, 3, 4] rfl)
                ·
                  have i102 := ci_nlt (x := y_9) (y := y_11) rfl rfl c102
                  refine lv_aload_n hx hb dX12_carve_105 rfl (lv_at hl 4 rfl) ?_
                  refine cs_get F St 0 rfl rfl inX12 28 (by decide) kf_X12_132 rfl dX12_carve_106 ?_
                  refine lv_iload_n hx hb dX12_carve_109 rfl (lv_at hl 1 rfl) ?_
                  refine cs_zld F St 5 4 rfl rfl (vp_in_iff.mpr ⟨by omega, by omega⟩) dX12_carve_110 ?_
                  refine lv_topi (fun y_13 ey_13 => ?_)
                  have gy_13 := congrArg Int32.toInt ey_13
                  have hnm : y_13.toInt = (f_isNameless (f_sumGiver kk.toNatClampNeg).toNatClampNeg).toInt := by rw [ey_13, hgv]
                  refine lv_if_eq (tgt := 117) hx hb dX12_carve_111 (by decide) (fun c111 => ?_) (fun c111 => ?_)
                  ·
                    have i111 := ci_eq (x := y_13) (y := 0) rfl (show (0 : Int32).toInt = 0 by decide) c111
                    have hq117 := cvI_lt hcv hdy_1 ey_2 (by omega)
                    have hq118 := cvI_n hcv
                    refine lv_aload_n hx hb dX12_carve_117 rfl (lv_at hl 4 rfl) ?_
                    refine cs_get F St 0 rfl rfl inX12 52 (by decide) kf_X12_200 rfl dX12_carve_118 ?_
                    refine lv_iload_n hx hb dX12_carve_121 rfl (lv_at hl 3 rfl) ?_
                    refine lv_iload_n hx hb dX12_carve_122 rfl (lv_at hl 1 rfl) ?_
                    refine cs_ist F St 2 1 rfl rfl (vp_in_iff.mpr ⟨by omega, by omega⟩) (w' := [(h, .inr (12, [.ref (a 0), .ref (a 1), .ref (a 2), .ref (a 3), .int v_taped, .int v_size, .int v_from, .int v_behind, .int v_hand, .int v_value, .int v_fault, .int v_faultAt, .ref (a 4), .int v_clock, .int v_coin, .int v_loan, .int v_matched, .int v_taxed, .int v_paidStages, .int v_grown, .int v_pledges, .int v_sums, .int v_stages, .int v_isStopped, .ref (a 5), .ref (a 6), .ref (a 7), .ref (a 8), .ref (a 9), .ref (a 10), .ref (a 11), .ref (a 12), .ref (a 13), .ref (a 14), .ref (a 15), .ref (a 16), .ref (a 17), .ref (a 18), .ref (a 19), .ref (a 20), .ref (a 21), .ref (a 22), .ref (a 23), .ref (a 24), .ref (a 25), .ref (a 26), .ref (a 27), .ref (a 28), .ref (a 29), .ref (a 30), .int v_begun, .ref (a 31), .ref (a 32)])), ((a 31), .inl ((d 31), 30, .inl f_8)), ((a 32), .inl ((d 32), 30, .inl (upd ft2 (nn : Int32).toNatClampNeg y_1))), ((a 22), .inl ((d 22), 250, .inl f_sumGiver)), ((a 24), .inl ((d 24), 250, .inl f_sumPence)), ((a 9), .inl ((d 9), 30, .inl f_isNameless)), ((a 0), .inl ((d 0), 9, .inl f_rule))]) rfl dX12_carve_123 (fun H locs St => ?_)
                    obtain ⟨f_14, ef_14⟩ : ∃ zz : Nat → Int32, zz = upd ft2 (nn : Int32).toNatClampNeg y_1 := ⟨_, rfl⟩
                    rw [← ef_14] at St
                    obtain ⟨y_15, ey_15⟩ : ∃ zz : Int32, zz = nn + 1 := ⟨_, rfl⟩
                    first | have jy_15 : y_15.toInt = nn.toInt + 1 := (by have q9 := ci_add (x := nn) rfl (show (1 : Int32).toInt = 1 by decide) ey_15; omega) | have jy_15 := ci_add (x := nn) rfl (show (1 : Int32).toInt = 1 by decide) ey_15
                    refine lv_iinc (v := y_15) (lv' := [(1, .int y_15), (4, .int 0), (3, .int y_1), (2, .int kk), (0, .ref h)]) hx hb dX12_carve_124 hl (k := 3) rfl (by rw [ey_15]; rfl) (by decide) rfl (fun ls hl => ?_)
                    obtain ⟨y_16, ey_16⟩ : ∃ zz : Int32, zz = kk + 1 := ⟨_, rfl⟩
                    first | have jy_16 : y_16.toInt = kk.toInt + 1 := (by have q9 := ci_add (x := kk) rfl (show (1 : Int32).toInt = 1 by decide) ey_16; omega) | have jy_16 := ci_add (x := kk) rfl (show (1 : Int32).toInt = 1 by decide) ey_16
                    refine lv_iinc (v := y_16) (lv' := [(2, .int y_16), (1, .int y_15), (4, .int 0), (3, .int y_1), (0, .ref h)]) hx hb dX12_carve_127 hl (k := 3) rfl (by rw [ey_16]; rfl) (by decide) rfl (fun ls hl => ?_)
                    refine lv_goto (tgt := 25) hx hb dX12_carve_130 (by decide) ?_
                    exact ih25 y_15 y_16 f_8 f_14 _ _ _ ⟨⟨by omega, by omega⟩, (by rw [nc_s hJ0 (show y_16.toInt = kk.toInt + 1 by omega), ef_8, hgv]; rw [ef_14]; exact stR_y hR (by rw [← hgv]; omega) (by rw [← hgv, ← ey_2]; omega) (by unfold stQ; omega) (by omega) (by omega) hgv), (by rw [ef_8]; exact cvI_more hcv hdy_1 ey_2 (by omega) (by omega) (by omega) (by omega) (by omega))⟩ (by omega) St (lv_sub hl [0, 1, 4] rfl)
                  ·
                    have i111 := ci_ne (x := y_13) (y := 0) rfl (show (0 : Int32).toInt = 0 by decide) c111
                    refine lv_goto (tgt := 127) hx hb dX12_carve_114 (by decide) ?_
                    obtain ⟨y_17, ey_17⟩ : ∃ zz : Int32, zz = kk + 1 := ⟨_, rfl⟩
                    first | have jy_17 : y_17.toInt = kk.toInt + 1 := (by have q9 := ci_add (x := kk) rfl (show (1 : Int32).toInt = 1 by decide) ey_17; omega) | have jy_17 := ci_add (x := kk) rfl (show (1 : Int32).toInt = 1 by decide) ey_17
                    refine lv_iinc (v := y_17) (lv' := [(2, .int y_17), (4, .int 0), (3, .int y_1), (1, .int nn), (0, .ref h)]) hx hb dX12_carve_127 hl (k := 2) rfl (by rw [ey_17]; rfl) (by decide) rfl (fun ls hl => ?_)
                    refine lv_goto (tgt := 25) hx hb dX12_carve_130 (by decide) ?_
                    exact ih25 nn y_17 f_8 ft2 _ _ _ ⟨⟨by omega, by omega⟩, (by rw [nc_s hJ0 (show y_17.toInt = kk.toInt + 1 by omega), ef_8, hgv]; exact stR_n hR (by rw [← hgv]; omega) (by rw [← hgv, ← ey_2]; omega) (by unfold stQ; omega)), (by rw [ef_8]; exact cvI_keep hcv ey_2 (by omega) (by omega) (by omega))⟩ (by omega) St (lv_sub hl [0, 3, 4] rfl)
              ·
                have i56 := ci_nlt (x := y_2) (y := y_4) rfl rfl c56
                refine lv_iconst (v := 1) hx hb dX12_carve_59 (by decide) ?_
                refine lv_goto (tgt := 64) hx hb dX12_carve_60 (by decide) ?_
                refine lv_istore (lv' := [(4, .int 1), (3, .int y_1), (2, .int kk), (1, .int nn), (0, .ref h)]) hx hb dX12_carve_64 hl (by decide) rfl (fun ls hl => ?_)
                refine lv_aload_n hx hb dX12_carve_66 rfl (lv_at hl 4 rfl) ?_
                refine cs_get F St 0 rfl rfl inX12 51 (by decide) kf_X12_197 rfl dX12_carve_67 ?_
                refine lv_iload_n hx hb dX12_carve_70 rfl (lv_at hl 1 rfl) ?_
                refine lv_dup2_11 hx hb dX12_carve_71 rfl rfl ?_
                refine cs_ild F St 1 0 rfl rfl (vp_in_iff.mpr ⟨by omega, by omega⟩) dX12_carve_72 ?_
                refine lv_topi (fun y_18 ey_18 => ?_)
                have gy_18 := congrArg Int32.toInt ey_18
                have hq73 : y_18.toInt = y_2.toInt := congrArg _ (ey_18.trans ey_2.symm)
                refine lv_aload_n hx hb dX12_carve_73 rfl (lv_at hl 4 rfl) ?_
                refine cs_get F St 0 rfl rfl inX12 43 (by decide) kf_X12_177 rfl dX12_carve_74 ?_
                refine lv_iload_n hx hb dX12_carve_77 rfl (lv_at hl 2 rfl) ?_
                refine cs_ild F St 4 3 rfl rfl (vp_in_iff.mpr ⟨by omega, by omega⟩) dX12_carve_78 ?_
                refine lv_topi (fun y_19 ey_19 => ?_)
                have gy_19 := congrArg Int32.toInt ey_19
                have hdy_19 := mSp_p hSp (by omega) (by omega) ey_19
                refine lv_iadd hx hb dX12_carve_79 ?_
                refine lv_topi (fun y_20 ey_20 => ?_)
                first | have jy_20 : y_20.toInt = y_18.toInt + y_19.toInt := (by have q9 := ci_add (x := y_18) (y := y_19) rfl rfl ey_20; omega) | have jy_20 := ci_add (x := y_18) (y := y_19) rfl rfl ey_20
                skip
                refine cs_ist F St 1 0 rfl rfl (vp_in_iff.mpr ⟨by omega, by omega⟩) (w' := [(h, .inr (12, [.ref (a 0), .ref (a 1), .ref (a 2), .ref (a 3), .int v_taped, .int v_size, .int v_from, .int v_behind, .int v_hand, .int v_value, .int v_fault, .int v_faultAt, .ref (a 4), .int v_clock, .int v_coin, .int v_loan, .int v_matched, .int v_taxed, .int v_paidStages, .int v_grown, .int v_pledges, .int v_sums, .int v_stages, .int v_isStopped, .ref (a 5), .ref (a 6), .ref (a 7), .ref (a 8), .ref (a 9), .ref (a 10), .ref (a 11), .ref (a 12), .ref (a 13), .ref (a 14), .ref (a 15), .ref (a 16), .ref (a 17), .ref (a 18), .ref (a 19), .ref (a 20), .ref (a 21), .ref (a 22), .ref (a 23), .ref (a 24), .ref (a 25), .ref (a 26), .ref (a 27), .ref (a 28), .ref (a 29), .ref (a 30), .int v_begun, .ref (a 31), .ref (a 32)])), ((a 31), .inl ((d 31), 30, .inl (upd fs2 (y_1 : Int32).toNatClampNeg y_20))), ((a 32), .inl ((d 32), 30, .inl ft2)), ((a 22), .inl ((d 22), 250, .inl f_sumGiver)), ((a 24), .inl ((d 24), 250, .inl f_sumPence)), ((a 9), .inl ((d 9), 30, .inl f_isNameless)), ((a 0), .inl ((d 0), 9, .inl f_rule))]) rfl dX12_carve_80 (fun H locs St => ?_)
                obtain ⟨f_21, ef_21⟩ : ∃ zz : Nat → Int32, zz = upd fs2 (y_1 : Int32).toNatClampNeg y_20 := ⟨_, rfl⟩
                rw [← ef_21] at St
                refine lv_iload hx hb dX12_carve_81 (lv_at hl 0 rfl) ?_
                refine lv_if_ne (tgt := 127) hx hb dX12_carve_83 (by decide) (fun c83 => ?_) (fun c83 => ?_)
                rotate_left
                · exact absurd c83 (by decide)
                obtain ⟨y_22, ey_22⟩ : ∃ zz : Int32, zz = kk + 1 := ⟨_, rfl⟩
                first | have jy_22 : y_22.toInt = kk.toInt + 1 := (by have q9 := ci_add (x := kk) rfl (show (1 : Int32).toInt = 1 by decide) ey_22; omega) | have jy_22 := ci_add (x := kk) rfl (show (1 : Int32).toInt = 1 by decide) ey_22
                refine lv_iinc (v := y_22) (lv' := [(2, .int y_22), (4, .int 1), (3, .int y_1), (1, .int nn), (0, .ref h)]) hx hb dX12_carve_127 hl (k := 2) rfl (by rw [ey_22]; rfl) (by decide) rfl (fun ls hl => ?_)
                refine lv_goto (tgt := 25) hx hb dX12_carve_130 (by decide) ?_
                exact ih25 nn y_22 f_21 ft2 _ _ _ ⟨⟨by omega, by omega⟩, (by rw [nc_s hJ0 (show y_22.toInt = kk.toInt + 1 by omega), ef_21, hgv]; exact stR_n hR (by rw [← hgv]; omega) (by rw [← hgv, ← ey_2]; omega) (by unfold stQ; omega)), (by rw [ef_21]; exact cvI_keep hcv ey_2 (by omega) (by omega) (by omega))⟩ (by omega) St (lv_sub hl [0, 3, 4] rfl)
        exact lp25 251 0 0 fs f_stones _ _ _ ⟨⟨by omega, by omega⟩, stR_0 y0 (fun g_ h_ => hI1 g_ (by omega)), cvI_0 (fun g_ h_ => hI1 g_ (by omega))⟩ (by omega) St (lv_sub hl [0, 1, 2] rfl)
      ·
        have i5 := ci_nle (x := 30) (y := i) (show (30 : Int32).toInt = 30 by decide) rfl c5
        refine lv_aload_n hx hb dX12_carve_8 rfl (lv_at hl 1 rfl) ?_
        refine cs_get F St 0 rfl rfl inX12 51 (by decide) kf_X12_197 rfl dX12_carve_9 ?_
        refine lv_iload_n hx hb dX12_carve_12 rfl (lv_at hl 0 rfl) ?_
        refine lv_iconst (v := 0) hx hb dX12_carve_13 (by decide) ?_
        refine cs_ist F St 1 0 rfl rfl (vp_in_iff.mpr ⟨by omega, by omega⟩) (w' := [(h, .inr (12, [.ref (a 0), .ref (a 1), .ref (a 2), .ref (a 3), .int v_taped, .int v_size, .int v_from, .int v_behind, .int v_hand, .int v_value, .int v_fault, .int v_faultAt, .ref (a 4), .int v_clock, .int v_coin, .int v_loan, .int v_matched, .int v_taxed, .int v_paidStages, .int v_grown, .int v_pledges, .int v_sums, .int v_stages, .int v_isStopped, .ref (a 5), .ref (a 6), .ref (a 7), .ref (a 8), .ref (a 9), .ref (a 10), .ref (a 11), .ref (a 12), .ref (a 13), .ref (a 14), .ref (a 15), .ref (a 16), .ref (a 17), .ref (a 18), .ref (a 19), .ref (a 20), .ref (a 21), .ref (a 22), .ref (a 23), .ref (a 24), .ref (a 25), .ref (a 26), .ref (a 27), .ref (a 28), .ref (a 29), .ref (a 30), .int v_begun, .ref (a 31), .ref (a 32)])), ((a 31), .inl ((d 31), 30, .inl (upd fs (i : Int32).toNatClampNeg 0))), ((a 32), .inl ((d 32), 30, .inl f_stones)), ((a 22), .inl ((d 22), 250, .inl f_sumGiver)), ((a 24), .inl ((d 24), 250, .inl f_sumPence)), ((a 9), .inl ((d 9), 30, .inl f_isNameless)), ((a 0), .inl ((d 0), 9, .inl f_rule))]) rfl dX12_carve_14 (fun H locs St => ?_)
        obtain ⟨f_23, ef_23⟩ : ∃ zz : Nat → Int32, zz = upd fs (i : Int32).toNatClampNeg 0 := ⟨_, rfl⟩
        rw [← ef_23] at St
        obtain ⟨y_24, ey_24⟩ : ∃ zz : Int32, zz = i + 1 := ⟨_, rfl⟩
        first | have jy_24 : y_24.toInt = i.toInt + 1 := (by have q9 := ci_add (x := i) rfl (show (1 : Int32).toInt = 1 by decide) ey_24; omega) | have jy_24 := ci_add (x := i) rfl (show (1 : Int32).toInt = 1 by decide) ey_24
        refine lv_iinc (v := y_24) (lv' := [(1, .int y_24), (0, .ref h)]) hx hb dX12_carve_15 hl (k := 0) rfl (by rw [ey_24]; rfl) (by decide) rfl (fun ls hl => ?_)
        refine lv_goto (tgt := 2) hx hb dX12_carve_18 (by decide) ?_
        exact ih y_24 f_23 _ _ _ ⟨⟨by omega, by omega⟩, by rw [ef_23]; exact row_up (P := fun z => z = 0) hI0.1 hI1 (by omega) rfl⟩ (by omega) St (lv_sub hl [0, 1] rfl)
  exact lp2 31 0 f_sum _ _ _ ⟨⟨by decide, by decide⟩, fun g q => absurd q (by omega)⟩ (by decide) St (lv_sub hl [0, 1] rfl)
set_option maxHeartbeats 4000000 in
set_option maxRecDepth 100000 in
theorem e12_stone (l : Launch) (G : va_G) (k : Nat → Nat) (sz : Nat) (h : Nat) (a : Nat → Nat) (d : Nat → ClassId) (v_taped : Int32) (v_size : Int32) (v_from : Int32) (v_behind : Int32) (v_hand : Int32) (v_value : Int32) (v_fault : Int32) (v_faultAt : Int32) (v_clock : Int32) (v_coin : Int32) (v_loan : Int32) (v_matched : Int32) (v_taxed : Int32) (v_paidStages : Int32) (v_grown : Int32) (v_pledges : Int32) (v_sums : Int32) (v_stages : Int32) (v_isStopped : Int32) (v_begun : Int32) (f_sum : Nat → Int32) (f_stones : Nat → Int32) (f_sumGiver : Nat → Int32) (f_sumPence : Nat → Int32) (f_isNameless : Nat → Int32) (f_rule : Nat → Int32) (x1 : Int32) (hSg : mGi v_sums f_sumGiver) (hSp : mSp v_sums f_sumPence) (hF : rbd f_rule) : Met l yX12_stone (Cond.code yX12_stone cX12_stone 2 (some .int) :: tb) ({ frames := 1, cells := 0, slots := 0, locals := 25 } : Room) (va_Pc [.ref h, .int x1] (cP G k [(h, .inr (12, [.ref (a 0), .ref (a 1), .ref (a 2), .ref (a 3), .int v_taped, .int v_size, .int v_from, .int v_behind, .int v_hand, .int v_value, .int v_fault, .int v_faultAt, .ref (a 4), .int v_clock, .int v_coin, .int v_loan, .int v_matched, .int v_taxed, .int v_paidStages, .int v_grown, .int v_pledges, .int v_sums, .int v_stages, .int v_isStopped, .ref (a 5), .ref (a 6), .ref (a 7), .ref (a 8), .ref (a 9), .ref (a 10), .ref (a 11), .ref (a 12), .ref (a 13), .ref (a 14), .ref (a 15), .ref (a 16), .ref (a 17), .ref (a 18), .ref (a 19), .ref (a 20), .ref (a 21), .ref (a 22), .ref (a 23), .ref (a 24), .ref (a 25), .ref (a 26), .ref (a 27), .ref (a 28), .ref (a 29), .ref (a 30), .int v_begun, .ref (a 31), .ref (a 32)])), ((a 31), .inl ((d 31), 30, .inl f_sum)), ((a 32), .inl ((d 32), 30, .inl f_stones)), ((a 22), .inl ((d 22), 250, .inl f_sumGiver)), ((a 24), .inl ((d 24), 250, .inl f_sumPence)), ((a 9), .inl ((d 9), 30, .inl f_isNameless)), ((a 0), .inl ((d 0), 9, .inl f_rule))] [((d 31), .int), ((d 32), .int), ((d 22), .int), ((d 24), .int), ((d 9), .boolean), ((d 0), .int)] sz)) (va_Qi (fun (r : Int32) (u : (Nat → Int32) × (Nat → Int32)) => match u with | (g_sum, g_stones) => (stA f_sumGiver f_sumPence f_isNameless (100 * (f_rule (7 : Int32).toNatClampNeg).toInt) v_sums.toNatClampNeg x1 r)) (cB G (fun u => match u with | (g_sum, g_stones) => [(h, .inr (12, [.ref (a 0), .ref (a 1), .ref (a 2), .ref (a 3), .int v_taped, .int v_size, .int v_from, .int v_behind, .int v_hand, .int v_value, .int v_fault, .int v_faultAt, .ref (a 4), .int v_clock, .int v_coin, .int v_loan, .int v_matched, .int v_taxed, .int v_paidStages, .int v_grown, .int v_pledges, .int v_sums, .int v_stages, .int v_isStopped, .ref (a 5), .ref (a 6), .ref (a 7), .ref (a 8), .ref (a 9), .ref (a 10), .ref (a 11), .ref (a 12), .ref (a 13), .ref (a 14), .ref (a 15), .ref (a 16), .ref (a 17), .ref (a 18), .ref (a 19), .ref (a 20), .ref (a 21), .ref (a 22), .ref (a 23), .ref (a 24), .ref (a 25), .ref (a 26), .ref (a 27), .ref (a 28), .ref (a 29), .ref (a 30), .int v_begun, .ref (a 31), .ref (a 32)])), ((a 31), .inl ((d 31), 30, .inl g_sum)), ((a 32), .inl ((d 32), 30, .inl g_stones)), ((a 22), .inl ((d 22), 250, .inl f_sumGiver)), ((a 24), .inl ((d 24), 250, .inl f_sumPence)), ((a 9), .inl ((d 9), 30, .inl f_isNameless)), ((a 0), .inl ((d 0), 9, .inl f_rule))]) (fun u => match u with | (g_sum, g_stones) => []) (va_A [(h, .inr (12, [.ref (a 0), .ref (a 1), .ref (a 2), .ref (a 3), .int v_taped, .int v_size, .int v_from, .int v_behind, .int v_hand, .int v_value, .int v_fault, .int v_faultAt, .ref (a 4), .int v_clock, .int v_coin, .int v_loan, .int v_matched, .int v_taxed, .int v_paidStages, .int v_grown, .int v_pledges, .int v_sums, .int v_stages, .int v_isStopped, .ref (a 5), .ref (a 6), .ref (a 7), .ref (a 8), .ref (a 9), .ref (a 10), .ref (a 11), .ref (a 12), .ref (a 13), .ref (a 14), .ref (a 15), .ref (a 16), .ref (a 17), .ref (a 18), .ref (a 19), .ref (a 20), .ref (a 21), .ref (a 22), .ref (a 23), .ref (a 24), .ref (a 25), .ref (a 26), .ref (a 27), .ref (a 28), .ref (a 29), .ref (a 30), .int v_begun, .ref (a 31), .ref (a 32)])), ((a 31), .inl ((d 31), 30, .inl f_sum)), ((a 32), .inl ((d 32), 30, .inl f_stones)), ((a 22), .inl ((d 22), 250, .inl f_sumGiver)), ((a 24), .inl ((d 24), 250, .inl f_sumPence)), ((a 9), .inl ((d 9), 30, .inl f_isNameless)), ((a 0), .inl ((d 0), 9, .inl f_rule))] sz)) (va_A [(h, .inr (12, [.ref (a 0), .ref (a 1), .ref (a 2), .ref (a 3), .int v_taped, .int v_size, .int v_from, .int v_behind, .int v_hand, .int v_value, .int v_fault, .int v_faultAt, .ref (a 4), .int v_clock, .int v_coin, .int v_loan, .int v_matched, .int v_taxed, .int v_paidStages, .int v_grown, .int v_pledges, .int v_sums, .int v_stages, .int v_isStopped, .ref (a 5), .ref (a 6), .ref (a 7), .ref (a 8), .ref (a 9), .ref (a 10), .ref (a 11), .ref (a 12), .ref (a 13), .ref (a 14), .ref (a 15), .ref (a 16), .ref (a 17), .ref (a 18), .ref (a 19), .ref (a 20), .ref (a 21), .ref (a 22), .ref (a 23), .ref (a 24), .ref (a 25), .ref (a 26), .ref (a 27), .ref (a 28), .ref (a 29), .ref (a 30), .int v_begun, .ref (a 31), .ref (a 32)])), ((a 31), .inl ((d 31), 30, .inl f_sum)), ((a 32), .inl ((d 32), 30, .inl f_stones)), ((a 22), .inl ((d 22), 250, .inl f_sumGiver)), ((a 24), .inl ((d 24), 250, .inl f_sumPence)), ((a 9), .inl ((d 9), 30, .inl f_isNameless)), ((a 0), .inl ((d 0), 9, .inl f_rule))] sz)) 0 0 (va_A [(h, .inr (12, [.ref (a 0), .ref (a 1), .ref (a 2), .ref (a 3), .int v_taped, .int v_size, .int v_from, .int v_behind, .int v_hand, .int v_value, .int v_fault, .int v_faultAt, .ref (a 4), .int v_clock, .int v_coin, .int v_loan, .int v_matched, .int v_taxed, .int v_paidStages, .int v_grown, .int v_pledges, .int v_sums, .int v_stages, .int v_isStopped, .ref (a 5), .ref (a 6), .ref (a 7), .ref (a 8), .ref (a 9), .ref (a 10), .ref (a 11), .ref (a 12), .ref (a 13), .ref (a 14), .ref (a 15), .ref (a 16), .ref (a 17), .ref (a 18), .ref (a 19), .ref (a 20), .ref (a 21), .ref (a 22), .ref (a 23), .ref (a 24), .ref (a 25), .ref (a 26), .ref (a 27), .ref (a 28), .ref (a 29), .ref (a 30), .int v_begun, .ref (a 31), .ref (a 32)])), ((a 31), .inl ((d 31), 30, .inl f_sum)), ((a 32), .inl ((d 32), 30, .inl f_stones)), ((a 22), .inl ((d 22), 250, .inl f_sumGiver)), ((a 24), .inl ((d 24), 250, .inl f_sumPence)), ((a 9), .inl ((d 9), 30, .inl f_isNameless)), ((a 0), .inl ((d 0), 9, .inl f_rule))] sz) := by
  refine ofC_i (cc := cX12_stone) (maxL := 2) (ret := (some .int)) (by decide) rfl (Nat.le_of_ble_eq_true rfl) ?_
  intro p e s m args below meth c A ls Q F hr hin hlk St hl hQ
  have hx := F.1
  have hb := F.2.1
  have hl : lv_has ls 2 [(0, .ref h), (1, .int x1)] := hl
  have St : cS G k [(h, .inr (12, [.ref (a 0), .ref (a 1), .ref (a 2), .ref (a 3), .int v_taped, .int v_size, .int v_from, .int v_behind, .int v_hand, .int v_value, .int v_fault, .int v_faultAt, .ref (a 4), .int v_clock, .int v_coin, .int v_loan, .int v_matched, .int v_taxed, .int v_paidStages, .int v_grown, .int v_pledges, .int v_sums, .int v_stages, .int v_isStopped, .ref (a 5), .ref (a 6), .ref (a 7), .ref (a 8), .ref (a 9), .ref (a 10), .ref (a 11), .ref (a 12), .ref (a 13), .ref (a 14), .ref (a 15), .ref (a 16), .ref (a 17), .ref (a 18), .ref (a 19), .ref (a 20), .ref (a 21), .ref (a 22), .ref (a 23), .ref (a 24), .ref (a 25), .ref (a 26), .ref (a 27), .ref (a 28), .ref (a 29), .ref (a 30), .int v_begun, .ref (a 31), .ref (a 32)])), ((a 31), .inl ((d 31), 30, .inl f_sum)), ((a 32), .inl ((d 32), 30, .inl f_stones)), ((a 22), .inl ((d 22), 250, .inl f_sumGiver)), ((a 24), .inl ((d 24), 250, .inl f_sumPence)), ((a 9), .inl ((d 9), 30, .inl f_isNameless)), ((a 0), .inl ((d 0), 9, .inl f_rule))] [((d 31), .int), ((d 32), .int), ((d 22), .int), ((d 24), .int), ((d 9), .boolean), ((d 0), .int)] A s s.heap [] := St
  have y0 : (0 : Int32).toInt = 0 := by decide
  refine lv_iload_n hx hb dX12_stone_0 rfl (lv_at hl 1 rfl) ?_
  refine lv_i2l (v := x1.toInt64) hx hb dX12_stone_1 rfl ?_
  refine lv_lconst (v := 0) hx hb dX12_stone_2 (by decide) ?_
  refine lv_aload_n hx hb dX12_stone_3 rfl (lv_at hl 0 rfl) ?_
  refine cs_i St [0, 1, 2, 3, 4, 5, 6] [] (wc := [(h, .inr (12, [.ref (a 0), .ref (a 1), .ref (a 2), .ref (a 3), .int v_taped, .int v_size, .int v_from, .int v_behind, .int v_hand, .int v_value, .int v_fault, .int v_faultAt, .ref (a 4), .int v_clock, .int v_coin, .int v_loan, .int v_matched, .int v_taxed, .int v_paidStages, .int v_grown, .int v_pledges, .int v_sums, .int v_stages, .int v_isStopped, .ref (a 5), .ref (a 6), .ref (a 7), .ref (a 8), .ref (a 9), .ref (a 10), .ref (a 11), .ref (a 12), .ref (a 13), .ref (a 14), .ref (a 15), .ref (a 16), .ref (a 17), .ref (a 18), .ref (a 19), .ref (a 20), .ref (a 21), .ref (a 22), .ref (a 23), .ref (a 24), .ref (a 25), .ref (a 26), .ref (a 27), .ref (a 28), .ref (a 29), .ref (a 30), .int v_begun, .ref (a 31), .ref (a 32)])), ((a 31), .inl ((d 31), 30, .inl f_sum)), ((a 32), .inl ((d 32), 30, .inl f_stones)), ((a 22), .inl ((d 22), 250, .inl f_sumGiver)), ((a 24), .inl ((d 24), 250, .inl f_sumPence)), ((a 9), .inl ((d 9), 30, .inl f_isNameless)), ((a 0), .inl ((d 0), 9, .inl f_rule))]) (wr := []) rfl rfl (by decide) (by decide) (va_runV (As := []) (rest := [.long 0, .long x1.toInt64]) F (e12_carve l G k _ h a d v_taped v_size v_from v_behind v_hand v_value v_fault v_faultAt v_clock v_coin v_loan v_matched v_taxed v_paidStages v_grown v_pledges v_sums v_stages v_isStopped v_begun f_sum f_stones f_sumGiver f_sumPence f_isNameless f_rule hSg hSp hF) (cwVt F mf_X12_carve km_X12_314 rfl rfl ⟨Nat.le_of_ble_eq_true rfl, Nat.le_of_ble_eq_true rfl⟩) (cs_preV St [0, 1, 2, 3, 4, 5, 6] rfl (by decide) [0, 1, 2, 3, 4, 5] rfl (ci := 12) (q0 := 0) rfl rfl) rfl rfl hl.1 rfl (lv_room (Nat.le_of_ble_eq_true rfl)) dX12_stone_4 ⟨Nat.le_of_ble_eq_true rfl, Nat.le_of_ble_eq_true rfl⟩) (fun r_1 u_2 H locs hw St => ?_)
  obtain ⟨g_sum_3, g_stones_4⟩ := u_2
  try dsimp only at hw
  obtain ⟨hr_5, hr30_6⟩ := hw
  have St : cS G k [(h, .inr (12, [.ref (a 0), .ref (a 1), .ref (a 2), .ref (a 3), .int v_taped, .int v_size, .int v_from, .int v_behind, .int v_hand, .int v_value, .int v_fault, .int v_faultAt, .ref (a 4), .int v_clock, .int v_coin, .int v_loan, .int v_matched, .int v_taxed, .int v_paidStages, .int v_grown, .int v_pledges, .int v_sums, .int v_stages, .int v_isStopped, .ref (a 5), .ref (a 6), .ref (a 7), .ref (a 8), .ref (a 9), .ref (a 10), .ref (a 11), .ref (a 12), .ref (a 13), .ref (a 14), .ref (a 15), .ref (a 16), .ref (a 17), .ref (a 18), .ref (a 19), .ref (a 20), .ref (a 21), .ref (a 22), .ref (a 23), .ref (a 24), .ref (a 25), .ref (a 26), .ref (a 27), .ref (a 28), .ref (a 29), .ref (a 30), .int v_begun, .ref (a 31), .ref (a 32)])), ((a 31), .inl ((d 31), 30, .inl g_sum_3)), ((a 32), .inl ((d 32), 30, .inl g_stones_4)), ((a 22), .inl ((d 22), 250, .inl f_sumGiver)), ((a 24), .inl ((d 24), 250, .inl f_sumPence)), ((a 9), .inl ((d 9), 30, .inl f_isNameless)), ((a 0), .inl ((d 0), 9, .inl f_rule))] [((d 31), .int), ((d 32), .int), ((d 22), .int), ((d 24), .int), ((d 9), .boolean), ((d 0), .int)] A s H locs := St
  refine lv_i2l (v := r_1.toInt64) hx hb dX12_stone_7 rfl ?_
  refine lv_lconst (v := 1) hx hb dX12_stone_8 (by decide) ?_
  refine lv_lsub hx hb dX12_stone_9 ?_
  refine lv_topl (fun y_7 ey_7 => ?_)
  first | have jy_7 : y_7.toInt = r_1.toInt - 1 := (by have q7 := ci_rng r_1; have q9 := cl_sub (x := r_1.toInt64) (y := 1) (u := r_1.toInt) (v := 1) (Int32.toInt_toInt64 r_1) (by decide) ey_7; omega) | have jy_7 := cl_sub (x := r_1.toInt64) (y := 1) (u := r_1.toInt) (v := 1) (Int32.toInt_toInt64 r_1) (by decide) ey_7
  refine cs_i St [] [0, 1, 2, 3, 4, 5, 6] (wc := []) (wr := [(h, .inr (12, [.ref (a 0), .ref (a 1), .ref (a 2), .ref (a 3), .int v_taped, .int v_size, .int v_from, .int v_behind, .int v_hand, .int v_value, .int v_fault, .int v_faultAt, .ref (a 4), .int v_clock, .int v_coin, .int v_loan, .int v_matched, .int v_taxed, .int v_paidStages, .int v_grown, .int v_pledges, .int v_sums, .int v_stages, .int v_isStopped, .ref (a 5), .ref (a 6), .ref (a 7), .ref (a 8), .ref (a 9), .ref (a 10), .ref (a 11), .ref (a 12), .ref (a 13), .ref (a 14), .ref (a 15), .ref (a 16), .ref (a 17), .ref (a 18), .ref (a 19), .ref (a 20), .ref (a 21), .ref (a 22), .ref (a 23), .ref (a 24), .ref (a 25), .ref (a 26), .ref (a 27), .ref (a 28), .ref (a 29), .ref (a 30), .int v_begun, .ref (a 31), .ref (a 32)])), ((a 31), .inl ((d 31), 30, .inl g_sum_3)), ((a 32), .inl ((d 32), 30, .inl g_stones_4)), ((a 22), .inl ((d 22), 250, .inl f_sumGiver)), ((a 24), .inl ((d 24), 250, .inl f_sumPence)), ((a 9), .inl ((d 9), 30, .inl f_isNameless)), ((a 0), .inl ((d 0), 9, .inl f_rule))]) rfl rfl (by decide) (by decide) (va_runS (As := [.long x1.toInt64, .long 0, .long y_7]) (rest := []) F (c12_in l G k _ x1.toInt64 0 y_7 x1.toInt 0 y_7.toInt (Int32.toInt_toInt64 x1) (by decide) rfl) (cwSt F mf_X12_in km_X12_58 rfl rfl ⟨Nat.le_of_ble_eq_true rfl, Nat.le_of_ble_eq_true rfl⟩) (cs_pre St [] rfl (by decide) [] rfl) rfl rfl hl.1 rfl (lv_room (Nat.le_of_ble_eq_true rfl)) dX12_stone_10 ⟨Nat.le_of_ble_eq_true rfl, Nat.le_of_ble_eq_true rfl⟩) (fun r_8 u_9 H locs hw St => ?_)
  try dsimp only at hw
  rcases hw with ⟨z_10, hf_11⟩ | ⟨z_12, hf_13⟩
  ·
    subst r_8
    have St : cS G k [(h, .inr (12, [.ref (a 0), .ref (a 1), .ref (a 2), .ref (a 3), .int v_taped, .int v_size, .int v_from, .int v_behind, .int v_hand, .int v_value, .int v_fault, .int v_faultAt, .ref (a 4), .int v_clock, .int v_coin, .int v_loan, .int v_matched, .int v_taxed, .int v_paidStages, .int v_grown, .int v_pledges, .int v_sums, .int v_stages, .int v_isStopped, .ref (a 5), .ref (a 6), .ref (a 7), .ref (a 8), .ref (a 9), .ref (a 10), .ref (a 11), .ref (a 12), .ref (a 13), .ref (a 14), .ref (a 15), .ref (a 16), .ref (a 17), .ref (a 18), .ref (a 19), .ref (a 20), .ref (a 21), .ref (a 22), .ref (a 23), .ref (a 24), .ref (a 25), .ref (a 26), .ref (a 27), .ref (a 28), .ref (a 29), .ref (a 30), .int v_begun, .ref (a 31), .ref (a 32)])), ((a 31), .inl ((d 31), 30, .inl g_sum_3)), ((a 32), .inl ((d 32), 30, .inl g_stones_4)), ((a 22), .inl ((d 22), 250, .inl f_sumGiver)), ((a 24), .inl ((d 24), 250, .inl f_sumPence)), ((a 9), .inl ((d 9), 30, .inl f_isNameless)), ((a 0), .inl ((d 0), 9, .inl f_rule))] [((d 31), .int), ((d 32), .int), ((d 22), .int), ((d 24), .int), ((d 9), .boolean), ((d 0), .int)] A s H locs := St
    refine lv_if_eq (tgt := 25) hx hb dX12_stone_13 (by decide) (fun c13 => ?_) (fun c13 => ?_)
    · exact absurd c13 (by decide)
    refine lv_aload_n hx hb dX12_stone_16 rfl (lv_at hl 0 rfl) ?_
    refine cs_get F St 0 rfl rfl inX12 52 (by decide) kf_X12_200 rfl dX12_stone_17 ?_
    refine lv_iload_n hx hb dX12_stone_20 rfl (lv_at hl 1 rfl) ?_
    refine cs_ild F St 2 1 rfl rfl (vp_in_iff.mpr ⟨by omega, by omega⟩) dX12_stone_21 ?_
    refine lv_topi (fun y_14 ey_14 => ?_)
    have gy_14 := congrArg Int32.toInt ey_14
    refine lv_goto (tgt := 26) hx hb dX12_stone_22 (by decide) ?_
    exact cs_iret F hr hlk hQ St (g_sum_3, g_stones_4) (r := y_14) (stR_a hr_5 (by omega) (by omega) ey_14) [0, 1, 2, 3, 4, 5, 6] rfl (by decide) [] rfl (by decide) (by decide) dX12_stone_26
  ·
    subst r_8
    have St : cS G k [(h, .inr (12, [.ref (a 0), .ref (a 1), .ref (a 2), .ref (a 3), .int v_taped, .int v_size, .int v_from, .int v_behind, .int v_hand, .int v_value, .int v_fault, .int v_faultAt, .ref (a 4), .int v_clock, .int v_coin, .int v_loan, .int v_matched, .int v_taxed, .int v_paidStages, .int v_grown, .int v_pledges, .int v_sums, .int v_stages, .int v_isStopped, .ref (a 5), .ref (a 6), .ref (a 7), .ref (a 8), .ref (a 9), .ref (a 10), .ref (a 11), .ref (a 12), .ref (a 13), .ref (a 14), .ref (a 15), .ref (a 16), .ref (a 17), .ref (a 18), .ref (a 19), .ref (a 20), .ref (a 21), .ref (a 22), .ref (a 23), .ref (a 24), .ref (a 25), .ref (a 26), .ref (a 27), .ref (a 28), .ref (a 29), .ref (a 30), .int v_begun, .ref (a 31), .ref (a 32)])), ((a 31), .inl ((d 31), 30, .inl g_sum_3)), ((a 32), .inl ((d 32), 30, .inl g_stones_4)), ((a 22), .inl ((d 22), 250, .inl f_sumGiver)), ((a 24), .inl ((d 24), 250, .inl f_sumPence)), ((a 9), .inl ((d 9), 30, .inl f_isNameless)), ((a 0), .inl ((d 0), 9, .inl f_rule))] [((d 31), .int), ((d 32), .int), ((d 22), .int), ((d 24), .int), ((d 9), .boolean), ((d 0), .int)] A s H locs := St
    refine lv_if_eq (tgt := 25) hx hb dX12_stone_13 (by decide) (fun c13 => ?_) (fun c13 => ?_)
    rotate_left
    · exact absurd (by decide) c13
    refine lv_iconst (v := (-1)) hx hb dX12_stone_25 (by decide) ?_
    exact cs_iret F hr hlk hQ St (g_sum_3, g_stones_4) (r := (-1)) (stR_b hr_5 (by omega)) [0, 1, 2, 3, 4, 5, 6] rfl (by decide) [] rfl (by decide) (by decide) dX12_stone_26
