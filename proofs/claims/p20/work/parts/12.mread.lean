set_option maxHeartbeats 4000000 in
set_option maxRecDepth 100000 in
theorem c12_in (l : Launch) (G : va_G) (k : Nat → Nat) (sz : Nat) (x : Int64) (lo : Int64) (hi : Int64) (iv : Int) (ilo : Int) (ihi : Int) (ev : x.toInt = iv) (elo : lo.toInt = ilo) (ehi : hi.toInt = ihi) : Met l yX12_in (Cond.code yX12_in cX12_in 6 (some .boolean) :: tb) ({ frames := 0, cells := 0, slots := 0, locals := 0 } : Room) (va_Pc [.long x, .long lo, .long hi] (cP G k [] [] sz)) (va_Qi (fun (r : Int32) (_ : Unit) => ((r = 1) ∧ (ilo ≤ iv ∧ iv ≤ ihi)) ∨ ((r = 0) ∧ (¬ (ilo ≤ iv ∧ iv ≤ ihi)))) (cB G (fun (_ : Unit) => []) (fun (_ : Unit) => []) (va_A [] sz)) (va_A [] sz)) 0 0 (va_A [] sz) := by
  refine ofC_i (cc := cX12_in) (maxL := 6) (ret := (some .boolean)) (by decide) rfl (Nat.le_of_ble_eq_true rfl) ?_
  intro p e s m args below meth c A ls Q F hr hin hlk St hl hQ
  have hx := F.1
  have hb := F.2.1
  have hl : lv_has ls 6 [(0, .long x), (2, .long lo), (4, .long hi)] := hl
  have St : cS G k [] [] A s s.heap [] := St
  refine lv_lload_n hx hb dX12_in_0 rfl (lv_at hl 0 rfl) ?_
  refine lv_lload_n hx hb dX12_in_1 rfl (lv_at hl 1 rfl) ?_
  refine W.lcmp hx hb dX12_in_2 ?_
  refine lv_if_lt (tgt := 17) hx hb dX12_in_3 (by decide) (fun c3 => ?_) (fun c3 => ?_)
  ·
    have i3 := cl_lt (x := x) (y := lo) (u := iv) (v := ilo) ev elo ((lg_cmp_lt _ _).mp c3)
    refine lv_iconst (v := 0) hx hb dX12_in_17 (by decide) ?_
    exact cs_zret F hr hlk hQ St () (r := 0) rfl (Or.inr ⟨rfl, by omega⟩) [] rfl (by decide) [] rfl (by decide) (by decide) dX12_in_18
  ·
    have i3 := cl_nlt (x := x) (y := lo) (u := iv) (v := ilo) ev elo (fun q => c3 ((lg_cmp_lt _ _).mpr q))
    refine lv_lload_n hx hb dX12_in_6 rfl (lv_at hl 0 rfl) ?_
    refine lv_lload hx hb dX12_in_7 (lv_at hl 2 rfl) ?_
    refine W.lcmp hx hb dX12_in_9 ?_
    refine lv_if_gt (tgt := 17) hx hb dX12_in_10 (by decide) (fun c10 => ?_) (fun c10 => ?_)
    ·
      have i10 := cl_lt (x := hi) (y := x) (u := ihi) (v := iv) ehi ev ((lg_cmp_gt _ _).mp c10)
      refine lv_iconst (v := 0) hx hb dX12_in_17 (by decide) ?_
      exact cs_zret F hr hlk hQ St () (r := 0) rfl (Or.inr ⟨rfl, by omega⟩) [] rfl (by decide) [] rfl (by decide) (by decide) dX12_in_18
    ·
      have i10 := cl_nlt (x := hi) (y := x) (u := ihi) (v := iv) ehi ev (fun q => c10 ((lg_cmp_gt _ _).mpr q))
      refine lv_iconst (v := 1) hx hb dX12_in_13 (by decide) ?_
      refine lv_goto (tgt := 18) hx hb dX12_in_14 (by decide) ?_
      exact cs_zret F hr hlk hQ St () (r := 1) rfl (Or.inl ⟨rfl, by omega⟩) [] rfl (by decide) [] rfl (by decide) (by decide) dX12_in_18
set_option maxHeartbeats 4000000 in
set_option maxRecDepth 100000 in
theorem c12_isGiver (l : Launch) (G : va_G) (k : Nat → Nat) (sz : Nat) (g : Int32) : Met l yX12_isGiver (Cond.code yX12_isGiver cX12_isGiver 1 (some .boolean) :: tb) ({ frames := 1, cells := 0, slots := 0, locals := 25 } : Room) (va_Pc [.int g] (cP G k [] [] sz)) (va_Qi (fun (r : Int32) (_ : Unit) => ((r = 1) ∧ (0 ≤ g.toInt ∧ g.toInt ≤ 29)) ∨ ((r = 0) ∧ (¬ (0 ≤ g.toInt ∧ g.toInt ≤ 29)))) (cB G (fun (_ : Unit) => []) (fun (_ : Unit) => []) (va_A [] sz)) (va_A [] sz)) 0 0 (va_A [] sz) := by
  refine ofC_i (cc := cX12_isGiver) (maxL := 1) (ret := (some .boolean)) (by decide) rfl (Nat.le_of_ble_eq_true rfl) ?_
  intro p e s m args below meth c A ls Q F hr hin hlk St hl hQ
  have hx := F.1
  have hb := F.2.1
  have hl : lv_has ls 1 [(0, .int g)] := hl
  have St : cS G k [] [] A s s.heap [] := St
  refine lv_iload_n hx hb dX12_isGiver_0 rfl (lv_at hl 0 rfl) ?_
  refine lv_i2l (v := g.toInt64) hx hb dX12_isGiver_1 rfl ?_
  refine lv_lconst (v := 0) hx hb dX12_isGiver_2 (by decide) ?_
  refine lv_ldc2 (v := 29) hx hb F.2.2.2.1 (F.2.2.2.2 _ kk_X12_214) dX12_isGiver_3 ?_
  refine cs_i St [] [] (wc := []) (wr := []) rfl rfl (by decide) (by decide) (va_runS (As := [.long g.toInt64, .long 0, .long 29]) (rest := []) F (c12_in l G k _ g.toInt64 0 29 g.toInt 0 29 (Int32.toInt_toInt64 g) (by decide) (by decide)) (cwSt F mf_X12_in km_X12_58 rfl rfl ⟨Nat.le_of_ble_eq_true rfl, Nat.le_of_ble_eq_true rfl⟩) (cs_pre St [] rfl (by decide) [] rfl) rfl rfl hl.1 rfl (lv_room (Nat.le_of_ble_eq_true rfl)) dX12_isGiver_6 ⟨Nat.le_of_ble_eq_true rfl, Nat.le_of_ble_eq_true rfl⟩) (fun r_1 u_2 H locs hw St => ?_)
  try dsimp only at hw
  rcases hw with ⟨z_3, hf_4⟩ | ⟨z_5, hf_6⟩
  ·
    subst r_1
    have St : cS G k [] [] A s H locs := St
    exact cs_zret F hr hlk hQ St () (r := 1) rfl (Or.inl ⟨rfl, by omega⟩) [] rfl (by decide) [] rfl (by decide) (by decide) dX12_isGiver_9
  ·
    subst r_1
    have St : cS G k [] [] A s H locs := St
    exact cs_zret F hr hlk hQ St () (r := 0) rfl (Or.inr ⟨rfl, by omega⟩) [] rfl (by decide) [] rfl (by decide) (by decide) dX12_isGiver_9
set_option maxHeartbeats 4000000 in
set_option maxRecDepth 100000 in
theorem c12_isMonth (l : Launch) (G : va_G) (k : Nat → Nat) (sz : Nat) (g : Int32) : Met l yX12_isMonth (Cond.code yX12_isMonth cX12_isMonth 1 (some .boolean) :: tb) ({ frames := 1, cells := 0, slots := 0, locals := 25 } : Room) (va_Pc [.int g] (cP G k [] [] sz)) (va_Qi (fun (r : Int32) (_ : Unit) => ((r = 1) ∧ (0 ≤ g.toInt ∧ g.toInt ≤ 119)) ∨ ((r = 0) ∧ (¬ (0 ≤ g.toInt ∧ g.toInt ≤ 119)))) (cB G (fun (_ : Unit) => []) (fun (_ : Unit) => []) (va_A [] sz)) (va_A [] sz)) 0 0 (va_A [] sz) := by
  refine ofC_i (cc := cX12_isMonth) (maxL := 1) (ret := (some .boolean)) (by decide) rfl (Nat.le_of_ble_eq_true rfl) ?_
  intro p e s m args below meth c A ls Q F hr hin hlk St hl hQ
  have hx := F.1
  have hb := F.2.1
  have hl : lv_has ls 1 [(0, .int g)] := hl
  have St : cS G k [] [] A s s.heap [] := St
  refine lv_iload_n hx hb dX12_isMonth_0 rfl (lv_at hl 0 rfl) ?_
  refine lv_i2l (v := g.toInt64) hx hb dX12_isMonth_1 rfl ?_
  refine lv_lconst (v := 0) hx hb dX12_isMonth_2 (by decide) ?_
  refine lv_ldc2 (v := 119) hx hb F.2.2.2.1 (F.2.2.2.2 _ kk_X12_216) dX12_isMonth_3 ?_
  refine cs_i St [] [] (wc := []) (wr := []) rfl rfl (by decide) (by decide) (va_runS (As := [.long g.toInt64, .long 0, .long 119]) (rest := []) F (c12_in l G k _ g.toInt64 0 119 g.toInt 0 119 (Int32.toInt_toInt64 g) (by decide) (by decide)) (cwSt F mf_X12_in km_X12_58 rfl rfl ⟨Nat.le_of_ble_eq_true rfl, Nat.le_of_ble_eq_true rfl⟩) (cs_pre St [] rfl (by decide) [] rfl) rfl rfl hl.1 rfl (lv_room (Nat.le_of_ble_eq_true rfl)) dX12_isMonth_6 ⟨Nat.le_of_ble_eq_true rfl, Nat.le_of_ble_eq_true rfl⟩) (fun r_1 u_2 H locs hw St => ?_)
  try dsimp only at hw
  rcases hw with ⟨z_3, hf_4⟩ | ⟨z_5, hf_6⟩
  ·
    subst r_1
    have St : cS G k [] [] A s H locs := St
    exact cs_zret F hr hlk hQ St () (r := 1) rfl (Or.inl ⟨rfl, by omega⟩) [] rfl (by decide) [] rfl (by decide) (by decide) dX12_isMonth_9
  ·
    subst r_1
    have St : cS G k [] [] A s H locs := St
    exact cs_zret F hr hlk hQ St () (r := 0) rfl (Or.inr ⟨rfl, by omega⟩) [] rfl (by decide) [] rfl (by decide) (by decide) dX12_isMonth_9
set_option maxHeartbeats 4000000 in
set_option maxRecDepth 100000 in
theorem c12_isLetter (l : Launch) (G : va_G) (k : Nat → Nat) (sz : Nat) (x : Int32) : Met l yX12_isLetter (Cond.code yX12_isLetter cX12_isLetter 1 (some .boolean) :: tb) ({ frames := 0, cells := 0, slots := 0, locals := 0 } : Room) (va_Pc [.int x] (cP G k [] [] sz)) (va_Qi (fun (r : Int32) (_ : Unit) => ((r = 1) ∧ (97 ≤ x.toInt ∧ x.toInt ≤ 122)) ∨ ((r = 0) ∧ (¬ (97 ≤ x.toInt ∧ x.toInt ≤ 122)))) (cB G (fun (_ : Unit) => []) (fun (_ : Unit) => []) (va_A [] sz)) (va_A [] sz)) 0 0 (va_A [] sz) := by
  refine ofC_i (cc := cX12_isLetter) (maxL := 1) (ret := (some .boolean)) (by decide) rfl (Nat.le_of_ble_eq_true rfl) ?_
  intro p e s m args below meth c A ls Q F hr hin hlk St hl hQ
  have hx := F.1
  have hb := F.2.1
  have hl : lv_has ls 1 [(0, .int x)] := hl
  have St : cS G k [] [] A s s.heap [] := St
  refine lv_iload_n hx hb dX12_isLetter_0 rfl (lv_at hl 0 rfl) ?_
  refine lv_bipush (v := 97) hx hb dX12_isLetter_1 (by decide) ?_
  refine lv_icmp_lt (tgt := 16) hx hb dX12_isLetter_3 (by decide) (fun c3 => ?_) (fun c3 => ?_)
  ·
    have i3 := ci_lt (x := x) (y := 97) rfl (show (97 : Int32).toInt = 97 by decide) c3
    refine lv_iconst (v := 0) hx hb dX12_isLetter_16 (by decide) ?_
    exact cs_zret F hr hlk hQ St () (r := 0) rfl (Or.inr ⟨rfl, by omega⟩) [] rfl (by decide) [] rfl (by decide) (by decide) dX12_isLetter_17
  ·
    have i3 := ci_nlt (x := x) (y := 97) rfl (show (97 : Int32).toInt = 97 by decide) c3
    refine lv_iload_n hx hb dX12_isLetter_6 rfl (lv_at hl 0 rfl) ?_
    refine lv_bipush (v := 122) hx hb dX12_isLetter_7 (by decide) ?_
    refine lv_icmp_gt (tgt := 16) hx hb dX12_isLetter_9 (by decide) (fun c9 => ?_) (fun c9 => ?_)
    ·
      have i9 := ci_lt (x := 122) (y := x) (show (122 : Int32).toInt = 122 by decide) rfl c9
      refine lv_iconst (v := 0) hx hb dX12_isLetter_16 (by decide) ?_
      exact cs_zret F hr hlk hQ St () (r := 0) rfl (Or.inr ⟨rfl, by omega⟩) [] rfl (by decide) [] rfl (by decide) (by decide) dX12_isLetter_17
    ·
      have i9 := ci_nlt (x := 122) (y := x) (show (122 : Int32).toInt = 122 by decide) rfl c9
      refine lv_iconst (v := 1) hx hb dX12_isLetter_12 (by decide) ?_
      refine lv_goto (tgt := 17) hx hb dX12_isLetter_13 (by decide) ?_
      exact cs_zret F hr hlk hQ St () (r := 1) rfl (Or.inl ⟨rfl, by omega⟩) [] rfl (by decide) [] rfl (by decide) (by decide) dX12_isLetter_17
set_option maxHeartbeats 4000000 in
set_option maxRecDepth 100000 in
theorem c12_isDigit (l : Launch) (G : va_G) (k : Nat → Nat) (sz : Nat) (x : Int32) : Met l yX12_isDigit (Cond.code yX12_isDigit cX12_isDigit 1 (some .boolean) :: tb) ({ frames := 0, cells := 0, slots := 0, locals := 0 } : Room) (va_Pc [.int x] (cP G k [] [] sz)) (va_Qi (fun (r : Int32) (_ : Unit) => ((r = 1) ∧ (48 ≤ x.toInt ∧ x.toInt ≤ 57)) ∨ ((r = 0) ∧ (¬ (48 ≤ x.toInt ∧ x.toInt ≤ 57)))) (cB G (fun (_ : Unit) => []) (fun (_ : Unit) => []) (va_A [] sz)) (va_A [] sz)) 0 0 (va_A [] sz) := by
  refine ofC_i (cc := cX12_isDigit) (maxL := 1) (ret := (some .boolean)) (by decide) rfl (Nat.le_of_ble_eq_true rfl) ?_
  intro p e s m args below meth c A ls Q F hr hin hlk St hl hQ
  have hx := F.1
  have hb := F.2.1
  have hl : lv_has ls 1 [(0, .int x)] := hl
  have St : cS G k [] [] A s s.heap [] := St
  refine lv_iload_n hx hb dX12_isDigit_0 rfl (lv_at hl 0 rfl) ?_
  refine lv_bipush (v := 48) hx hb dX12_isDigit_1 (by decide) ?_
  refine lv_icmp_lt (tgt := 16) hx hb dX12_isDigit_3 (by decide) (fun c3 => ?_) (fun c3 => ?_)
  ·
    have i3 := ci_lt (x := x) (y := 48) rfl (show (48 : Int32).toInt = 48 by decide) c3
    refine lv_iconst (v := 0) hx hb dX12_isDigit_16 (by decide) ?_
    exact cs_zret F hr hlk hQ St () (r := 0) rfl (Or.inr ⟨rfl, by omega⟩) [] rfl (by decide) [] rfl (by decide) (by decide) dX12_isDigit_17
  ·
    have i3 := ci_nlt (x := x) (y := 48) rfl (show (48 : Int32).toInt = 48 by decide) c3
    refine lv_iload_n hx hb dX12_isDigit_6 rfl (lv_at hl 0 rfl) ?_
    refine lv_bipush (v := 57) hx hb dX12_isDigit_7 (by decide) ?_
    refine lv_icmp_gt (tgt := 16) hx hb dX12_isDigit_9 (by decide) (fun c9 => ?_) (fun c9 => ?_)
    ·
      have i9 := ci_lt (x := 57) (y := x) (show (57 : Int32).toInt = 57 by decide) rfl c9
      refine lv_iconst (v := 0) hx hb dX12_isDigit_16 (by decide) ?_
      exact cs_zret F hr hlk hQ St () (r := 0) rfl (Or.inr ⟨rfl, by omega⟩) [] rfl (by decide) [] rfl (by decide) (by decide) dX12_isDigit_17
    ·
      have i9 := ci_nlt (x := 57) (y := x) (show (57 : Int32).toInt = 57 by decide) rfl c9
      refine lv_iconst (v := 1) hx hb dX12_isDigit_12 (by decide) ?_
      refine lv_goto (tgt := 17) hx hb dX12_isDigit_13 (by decide) ?_
      exact cs_zret F hr hlk hQ St () (r := 1) rfl (Or.inl ⟨rfl, by omega⟩) [] rfl (by decide) [] rfl (by decide) (by decide) dX12_isDigit_17
set_option maxHeartbeats 4000000 in
set_option maxRecDepth 100000 in
theorem m_byteAt (l : Launch) (G : va_G) (k : Nat → Nat) (sz : Nat) (h : Nat) (a : Nat → Nat) (d : Nat → ClassId) (v_taped : Int32) (v_size : Int32) (v_from : Int32) (v_behind : Int32) (v_hand : Int32) (v_value : Int32) (v_fault : Int32) (v_faultAt : Int32) (v_clock : Int32) (v_coin : Int32) (v_loan : Int32) (v_matched : Int32) (v_taxed : Int32) (v_paidStages : Int32) (v_grown : Int32) (v_pledges : Int32) (v_sums : Int32) (v_stages : Int32) (v_isStopped : Int32) (v_begun : Int32) (f_tape : Nat → Int32) (x : Int32) (hs0 : 0 ≤ v_size.toInt) (hs1 : v_size.toInt ≤ 400) (hx0 : 0 ≤ x.toInt) : Met l yX12_byteAt (Cond.code yX12_byteAt cX12_byteAt 2 (some .int) :: tb) ({ frames := 0, cells := 0, slots := 0, locals := 0 } : Room) (va_Pc [.ref h, .int x] (cP G k [(h, .inr (12, [.ref (a 0), .ref (a 1), .ref (a 2), .ref (a 3), .int v_taped, .int v_size, .int v_from, .int v_behind, .int v_hand, .int v_value, .int v_fault, .int v_faultAt, .ref (a 4), .int v_clock, .int v_coin, .int v_loan, .int v_matched, .int v_taxed, .int v_paidStages, .int v_grown, .int v_pledges, .int v_sums, .int v_stages, .int v_isStopped, .ref (a 5), .ref (a 6), .ref (a 7), .ref (a 8), .ref (a 9), .ref (a 10), .ref (a 11), .ref (a 12), .ref (a 13), .ref (a 14), .ref (a 15), .ref (a 16), .ref (a 17), .ref (a 18), .ref (a 19), .ref (a 20), .ref (a 21), .ref (a 22), .ref (a 23), .ref (a 24), .ref (a 25), .ref (a 26), .ref (a 27), .ref (a 28), .ref (a 29), .ref (a 30), .int v_begun, .ref (a 31), .ref (a 32)])), ((a 3), .inl ((d 3), 400, .inl f_tape))] [((d 3), .byte)] sz)) (va_Qi (fun (r : Int32) (_ : Unit) => (r = byA f_tape v_size x) ∧ (x.toInt < v_size.toInt ∨ r.toInt = 0)) (cB G (fun (_ : Unit) => [(h, .inr (12, [.ref (a 0), .ref (a 1), .ref (a 2), .ref (a 3), .int v_taped, .int v_size, .int v_from, .int v_behind, .int v_hand, .int v_value, .int v_fault, .int v_faultAt, .ref (a 4), .int v_clock, .int v_coin, .int v_loan, .int v_matched, .int v_taxed, .int v_paidStages, .int v_grown, .int v_pledges, .int v_sums, .int v_stages, .int v_isStopped, .ref (a 5), .ref (a 6), .ref (a 7), .ref (a 8), .ref (a 9), .ref (a 10), .ref (a 11), .ref (a 12), .ref (a 13), .ref (a 14), .ref (a 15), .ref (a 16), .ref (a 17), .ref (a 18), .ref (a 19), .ref (a 20), .ref (a 21), .ref (a 22), .ref (a 23), .ref (a 24), .ref (a 25), .ref (a 26), .ref (a 27), .ref (a 28), .ref (a 29), .ref (a 30), .int v_begun, .ref (a 31), .ref (a 32)])), ((a 3), .inl ((d 3), 400, .inl f_tape))]) (fun (_ : Unit) => []) (va_A [(h, .inr (12, [.ref (a 0), .ref (a 1), .ref (a 2), .ref (a 3), .int v_taped, .int v_size, .int v_from, .int v_behind, .int v_hand, .int v_value, .int v_fault, .int v_faultAt, .ref (a 4), .int v_clock, .int v_coin, .int v_loan, .int v_matched, .int v_taxed, .int v_paidStages, .int v_grown, .int v_pledges, .int v_sums, .int v_stages, .int v_isStopped, .ref (a 5), .ref (a 6), .ref (a 7), .ref (a 8), .ref (a 9), .ref (a 10), .ref (a 11), .ref (a 12), .ref (a 13), .ref (a 14), .ref (a 15), .ref (a 16), .ref (a 17), .ref (a 18), .ref (a 19), .ref (a 20), .ref (a 21), .ref (a 22), .ref (a 23), .ref (a 24), .ref (a 25), .ref (a 26), .ref (a 27), .ref (a 28), .ref (a 29), .ref (a 30), .int v_begun, .ref (a 31), .ref (a 32)])), ((a 3), .inl ((d 3), 400, .inl f_tape))] sz)) (va_A [(h, .inr (12, [.ref (a 0), .ref (a 1), .ref (a 2), .ref (a 3), .int v_taped, .int v_size, .int v_from, .int v_behind, .int v_hand, .int v_value, .int v_fault, .int v_faultAt, .ref (a 4), .int v_clock, .int v_coin, .int v_loan, .int v_matched, .int v_taxed, .int v_paidStages, .int v_grown, .int v_pledges, .int v_sums, .int v_stages, .int v_isStopped, .ref (a 5), .ref (a 6), .ref (a 7), .ref (a 8), .ref (a 9), .ref (a 10), .ref (a 11), .ref (a 12), .ref (a 13), .ref (a 14), .ref (a 15), .ref (a 16), .ref (a 17), .ref (a 18), .ref (a 19), .ref (a 20), .ref (a 21), .ref (a 22), .ref (a 23), .ref (a 24), .ref (a 25), .ref (a 26), .ref (a 27), .ref (a 28), .ref (a 29), .ref (a 30), .int v_begun, .ref (a 31), .ref (a 32)])), ((a 3), .inl ((d 3), 400, .inl f_tape))] sz)) 0 0 (va_A [(h, .inr (12, [.ref (a 0), .ref (a 1), .ref (a 2), .ref (a 3), .int v_taped, .int v_size, .int v_from, .int v_behind, .int v_hand, .int v_value, .int v_fault, .int v_faultAt, .ref (a 4), .int v_clock, .int v_coin, .int v_loan, .int v_matched, .int v_taxed, .int v_paidStages, .int v_grown, .int v_pledges, .int v_sums, .int v_stages, .int v_isStopped, .ref (a 5), .ref (a 6), .ref (a 7), .ref (a 8), .ref (a 9), .ref (a 10), .ref (a 11), .ref (a 12), .ref (a 13), .ref (a 14), .ref (a 15), .ref (a 16), .ref (a 17), .ref (a 18), .ref (a 19), .ref (a 20), .ref (a 21), .ref (a 22), .ref (a 23), .ref (a 24), .ref (a 25), .ref (a 26), .ref (a 27), .ref (a 28), .ref (a 29), .ref (a 30), .int v_begun, .ref (a 31), .ref (a 32)])), ((a 3), .inl ((d 3), 400, .inl f_tape))] sz) := by
  refine ofC_i (cc := cX12_byteAt) (maxL := 2) (ret := (some .int)) (by decide) rfl (Nat.le_of_ble_eq_true rfl) ?_
  intro p e s m args below meth c A ls Q F hr hin hlk St hl hQ
  have hx := F.1
  have hb := F.2.1
  have hl : lv_has ls 2 [(0, .ref h), (1, .int x)] := hl
  have St : cS G k [(h, .inr (12, [.ref (a 0), .ref (a 1), .ref (a 2), .ref (a 3), .int v_taped, .int v_size, .int v_from, .int v_behind, .int v_hand, .int v_value, .int v_fault, .int v_faultAt, .ref (a 4), .int v_clock, .int v_coin, .int v_loan, .int v_matched, .int v_taxed, .int v_paidStages, .int v_grown, .int v_pledges, .int v_sums, .int v_stages, .int v_isStopped, .ref (a 5), .ref (a 6), .ref (a 7), .ref (a 8), .ref (a 9), .ref (a 10), .ref (a 11), .ref (a 12), .ref (a 13), .ref (a 14), .ref (a 15), .ref (a 16), .ref (a 17), .ref (a 18), .ref (a 19), .ref (a 20), .ref (a 21), .ref (a 22), .ref (a 23), .ref (a 24), .ref (a 25), .ref (a 26), .ref (a 27), .ref (a 28), .ref (a 29), .ref (a 30), .int v_begun, .ref (a 31), .ref (a 32)])), ((a 3), .inl ((d 3), 400, .inl f_tape))] [((d 3), .byte)] A s s.heap [] := St
  refine lv_iload_n hx hb dX12_byteAt_0 rfl (lv_at hl 1 rfl) ?_
  refine lv_aload_n hx hb dX12_byteAt_1 rfl (lv_at hl 0 rfl) ?_
  refine cs_get F St 0 rfl rfl inX12 5 (by decide) kf_X12_17 rfl dX12_byteAt_2 ?_
  refine lv_icmp_ge (tgt := 21) hx hb dX12_byteAt_5 (by decide) (fun c5 => ?_) (fun c5 => ?_)
  ·
    have i5 := ci_le (x := v_size) (y := x) rfl rfl c5
    refine lv_iconst (v := 0) hx hb dX12_byteAt_21 (by decide) ?_
    exact cs_iret F hr hlk hQ St () (r := 0) ⟨byA_out (by omega), Or.inr (by decide)⟩ [0, 1] rfl (by decide) [] rfl (by decide) (by decide) dX12_byteAt_22
  ·
    have i5 := ci_nle (x := v_size) (y := x) rfl rfl c5
    refine lv_aload_n hx hb dX12_byteAt_8 rfl (lv_at hl 0 rfl) ?_
    refine cs_get F St 0 rfl rfl inX12 3 (by decide) kf_X12_20 rfl dX12_byteAt_9 ?_
    refine lv_iload_n hx hb dX12_byteAt_12 rfl (lv_at hl 1 rfl) ?_
    refine cs_bld F St 1 0 rfl rfl (vp_in_iff.mpr ⟨by omega, by omega⟩) dX12_byteAt_13 ?_
    refine lv_topi (fun y_1 ey_1 => ?_)
    refine lv_sipush (v := 255) hx hb dX12_byteAt_14 (by decide) ?_
    refine lv_iand hx hb dX12_byteAt_17 ?_
    refine lv_topi (fun y_2 ey_2 => ?_)
    refine lv_goto (tgt := 22) hx hb dX12_byteAt_18 (by decide) ?_
    exact cs_iret F hr hlk hQ St () (r := y_2) ⟨by rw [ey_2, ey_1]; exact byA_in (by omega), Or.inl (by omega)⟩ [0, 1] rfl (by decide) [] rfl (by decide) (by decide) dX12_byteAt_22
set_option maxHeartbeats 4000000 in
set_option maxRecDepth 100000 in
theorem m_scan (l : Launch) (G : va_G) (k : Nat → Nat) (sz : Nat) (h : Nat) (a : Nat → Nat) (d : Nat → ClassId) (v_taped : Int32) (v_size : Int32) (v_from : Int32) (v_behind : Int32) (v_hand : Int32) (v_value : Int32) (v_fault : Int32) (v_faultAt : Int32) (v_clock : Int32) (v_coin : Int32) (v_loan : Int32) (v_matched : Int32) (v_taxed : Int32) (v_paidStages : Int32) (v_grown : Int32) (v_pledges : Int32) (v_sums : Int32) (v_stages : Int32) (v_isStopped : Int32) (v_begun : Int32) (f_tape : Nat → Int32) (hs0 : 0 ≤ v_size.toInt) (hs1 : v_size.toInt ≤ 400) (hb0 : 0 ≤ v_behind.toInt) (hb1 : v_behind.toInt ≤ v_size.toInt) : Met l yX12_scan (Cond.code yX12_scan cX12_scan 2 none :: tb) ({ frames := 1, cells := 0, slots := 0, locals := 21 } : Room) (va_Pc [.ref h] (cP G k [(h, .inr (12, [.ref (a 0), .ref (a 1), .ref (a 2), .ref (a 3), .int v_taped, .int v_size, .int v_from, .int v_behind, .int v_hand, .int v_value, .int v_fault, .int v_faultAt, .ref (a 4), .int v_clock, .int v_coin, .int v_loan, .int v_matched, .int v_taxed, .int v_paidStages, .int v_grown, .int v_pledges, .int v_sums, .int v_stages, .int v_isStopped, .ref (a 5), .ref (a 6), .ref (a 7), .ref (a 8), .ref (a 9), .ref (a 10), .ref (a 11), .ref (a 12), .ref (a 13), .ref (a 14), .ref (a 15), .ref (a 16), .ref (a 17), .ref (a 18), .ref (a 19), .ref (a 20), .ref (a 21), .ref (a 22), .ref (a 23), .ref (a 24), .ref (a 25), .ref (a 26), .ref (a 27), .ref (a 28), .ref (a 29), .ref (a 30), .int v_begun, .ref (a 31), .ref (a 32)])), ((a 3), .inl ((d 3), 400, .inl f_tape))] [((d 3), .byte)] sz)) (va_Qv (fun (u : Int32 × Int32 × Int32 × Int32) => match u with | (w_from, w_behind, w_hand, w_value) => (0 ≤ w_from.toInt ∧ w_from.toInt ≤ w_behind.toInt ∧ w_behind.toInt ≤ v_size.toInt ∧ v_behind.toInt ≤ w_behind.toInt) ∧ (w_hand.toInt = 0 ∨ v_behind.toInt < w_behind.toInt)) (cB G (fun u => match u with | (w_from, w_behind, w_hand, w_value) => [(h, .inr (12, [.ref (a 0), .ref (a 1), .ref (a 2), .ref (a 3), .int v_taped, .int v_size, .int w_from, .int w_behind, .int w_hand, .int w_value, .int v_fault, .int v_faultAt, .ref (a 4), .int v_clock, .int v_coin, .int v_loan, .int v_matched, .int v_taxed, .int v_paidStages, .int v_grown, .int v_pledges, .int v_sums, .int v_stages, .int v_isStopped, .ref (a 5), .ref (a 6), .ref (a 7), .ref (a 8), .ref (a 9), .ref (a 10), .ref (a 11), .ref (a 12), .ref (a 13), .ref (a 14), .ref (a 15), .ref (a 16), .ref (a 17), .ref (a 18), .ref (a 19), .ref (a 20), .ref (a 21), .ref (a 22), .ref (a 23), .ref (a 24), .ref (a 25), .ref (a 26), .ref (a 27), .ref (a 28), .ref (a 29), .ref (a 30), .int v_begun, .ref (a 31), .ref (a 32)])), ((a 3), .inl ((d 3), 400, .inl f_tape))]) (fun u => match u with | (w_from, w_behind, w_hand, w_value) => []) (va_A [(h, .inr (12, [.ref (a 0), .ref (a 1), .ref (a 2), .ref (a 3), .int v_taped, .int v_size, .int v_from, .int v_behind, .int v_hand, .int v_value, .int v_fault, .int v_faultAt, .ref (a 4), .int v_clock, .int v_coin, .int v_loan, .int v_matched, .int v_taxed, .int v_paidStages, .int v_grown, .int v_pledges, .int v_sums, .int v_stages, .int v_isStopped, .ref (a 5), .ref (a 6), .ref (a 7), .ref (a 8), .ref (a 9), .ref (a 10), .ref (a 11), .ref (a 12), .ref (a 13), .ref (a 14), .ref (a 15), .ref (a 16), .ref (a 17), .ref (a 18), .ref (a 19), .ref (a 20), .ref (a 21), .ref (a 22), .ref (a 23), .ref (a 24), .ref (a 25), .ref (a 26), .ref (a 27), .ref (a 28), .ref (a 29), .ref (a 30), .int v_begun, .ref (a 31), .ref (a 32)])), ((a 3), .inl ((d 3), 400, .inl f_tape))] sz)) (va_A [(h, .inr (12, [.ref (a 0), .ref (a 1), .ref (a 2), .ref (a 3), .int v_taped, .int v_size, .int v_from, .int v_behind, .int v_hand, .int v_value, .int v_fault, .int v_faultAt, .ref (a 4), .int v_clock, .int v_coin, .int v_loan, .int v_matched, .int v_taxed, .int v_paidStages, .int v_grown, .int v_pledges, .int v_sums, .int v_stages, .int v_isStopped, .ref (a 5), .ref (a 6), .ref (a 7), .ref (a 8), .ref (a 9), .ref (a 10), .ref (a 11), .ref (a 12), .ref (a 13), .ref (a 14), .ref (a 15), .ref (a 16), .ref (a 17), .ref (a 18), .ref (a 19), .ref (a 20), .ref (a 21), .ref (a 22), .ref (a 23), .ref (a 24), .ref (a 25), .ref (a 26), .ref (a 27), .ref (a 28), .ref (a 29), .ref (a 30), .int v_begun, .ref (a 31), .ref (a 32)])), ((a 3), .inl ((d 3), 400, .inl f_tape))] sz)) 0 0 (va_A [(h, .inr (12, [.ref (a 0), .ref (a 1), .ref (a 2), .ref (a 3), .int v_taped, .int v_size, .int v_from, .int v_behind, .int v_hand, .int v_value, .int v_fault, .int v_faultAt, .ref (a 4), .int v_clock, .int v_coin, .int v_loan, .int v_matched, .int v_taxed, .int v_paidStages, .int v_grown, .int v_pledges, .int v_sums, .int v_stages, .int v_isStopped, .ref (a 5), .ref (a 6), .ref (a 7), .ref (a 8), .ref (a 9), .ref (a 10), .ref (a 11), .ref (a 12), .ref (a 13), .ref (a 14), .ref (a 15), .ref (a 16), .ref (a 17), .ref (a 18), .ref (a 19), .ref (a 20), .ref (a 21), .ref (a 22), .ref (a 23), .ref (a 24), .ref (a 25), .ref (a 26), .ref (a 27), .ref (a 28), .ref (a 29), .ref (a 30), .int v_begun, .ref (a 31), .ref (a 32)])), ((a 3), .inl ((d 3), 400, .inl f_tape))] sz) := by
  refine ofC_v (cc := cX12_scan) (maxL := 2) (ret := none) (by decide) rfl (Nat.le_of_ble_eq_true rfl) ?_
  intro p e s m args below meth c A ls Q F hr hin hlk St hl hQ
  have hx := F.1
  have hb := F.2.1
  have hl : lv_has ls 2 [(0, .ref h)] := hl
  have St : cS G k [(h, .inr (12, [.ref (a 0), .ref (a 1), .ref (a 2), .ref (a 3), .int v_taped, .int v_size, .int v_from, .int v_behind, .int v_hand, .int v_value, .int v_fault, .int v_faultAt, .ref (a 4), .int v_clock, .int v_coin, .int v_loan, .int v_matched, .int v_taxed, .int v_paidStages, .int v_grown, .int v_pledges, .int v_sums, .int v_stages, .int v_isStopped, .ref (a 5), .ref (a 6), .ref (a 7), .ref (a 8), .ref (a 9), .ref (a 10), .ref (a 11), .ref (a 12), .ref (a 13), .ref (a 14), .ref (a 15), .ref (a 16), .ref (a 17), .ref (a 18), .ref (a 19), .ref (a 20), .ref (a 21), .ref (a 22), .ref (a 23), .ref (a 24), .ref (a 25), .ref (a 26), .ref (a 27), .ref (a 28), .ref (a 29), .ref (a 30), .int v_begun, .ref (a 31), .ref (a 32)])), ((a 3), .inl ((d 3), 400, .inl f_tape))] [((d 3), .byte)] A s s.heap [] := St
  have lp0 : ∀ (n : Nat) (bh : Int32) (H : Heap) (locs : List Loc) (ls : Array Slot), (v_behind.toInt ≤ bh.toInt ∧ bh.toInt ≤ v_size.toInt) → ((v_size.toInt - bh.toInt).toNat) < n → cS G k [(h, .inr (12, [.ref (a 0), .ref (a 1), .ref (a 2), .ref (a 3), .int v_taped, .int v_size, .int v_from, .int bh, .int v_hand, .int v_value, .int v_fault, .int v_faultAt, .ref (a 4), .int v_clock, .int v_coin, .int v_loan, .int v_matched, .int v_taxed, .int v_paidStages, .int v_grown, .int v_pledges, .int v_sums, .int v_stages, .int v_isStopped, .ref (a 5), .ref (a 6), .ref (a 7), .ref (a 8), .ref (a 9), .ref (a 10), .ref (a 11), .ref (a 12), .ref (a 13), .ref (a 14), .ref (a 15), .ref (a 16), .ref (a 17), .ref (a 18), .ref (a 19), .ref (a 20), .ref (a 21), .ref (a 22), .ref (a 23), .ref (a 24), .ref (a 25), .ref (a 26), .ref (a 27), .ref (a 28), .ref (a 29), .ref (a 30), .int v_begun, .ref (a 31), .ref (a 32)])), ((a 3), .inl ((d 3), 400, .inl f_tape))] [((d 3), .byte)] A s H locs → lv_has ls 2 [(0, .ref h)] → W p l e ({ frames := 1, cells := 0, slots := 0, locals := 21 } : Room) s m args below meth c H locs 0 0 Q (F0 m 0 ls []) := by
    intro n
    induction n with
    | zero => intro bh H locs ls hI hn; exact absurd hn (Nat.not_lt_zero _)
    | succ n ih =>
      intro bh H locs ls hI hn St hl
      obtain ⟨hI0, hI1⟩ := hI
      refine lv_aload_n hx hb dX12_scan_0 rfl (lv_at hl 0 rfl) ?_
      refine cs_get F St 0 rfl rfl inX12 7 (by decide) kf_X12_24 rfl dX12_scan_1 ?_
      refine lv_aload_n hx hb dX12_scan_4 rfl (lv_at hl 0 rfl) ?_
      refine cs_get F St 0 rfl rfl inX12 5 (by decide) kf_X12_17 rfl dX12_scan_5 ?_
      refine lv_icmp_ge (tgt := 52) hx hb dX12_scan_8 (by decide) (fun c8 => ?_) (fun c8 => ?_)
      ·
        have i8 := ci_le (x := v_size) (y := bh) rfl rfl c8
        refine lv_aload_n hx hb dX12_scan_52 rfl (lv_at hl 0 rfl) ?_
        refine lv_aload_n hx hb dX12_scan_53 rfl (lv_at hl 0 rfl) ?_
        refine cs_get F St 0 rfl rfl inX12 7 (by decide) kf_X12_24 rfl dX12_scan_54 ?_
        refine cs_put F St 0 rfl rfl inX12 tyX12_ok nmX12 6 (by decide) kf_X12_7 rfl rfl rfl (Nat.le_of_ble_eq_true rfl) (w' := [(h, .inr (12, [.ref (a 0), .ref (a 1), .ref (a 2), .ref (a 3), .int v_taped, .int v_size, .int bh, .int bh, .int v_hand, .int v_value, .int v_fault, .int v_faultAt, .ref (a 4), .int v_clock, .int v_coin, .int v_loan, .int v_matched, .int v_taxed, .int v_paidStages, .int v_grown, .int v_pledges, .int v_sums, .int v_stages, .int v_isStopped, .ref (a 5), .ref (a 6), .ref (a 7), .ref (a 8), .ref (a 9), .ref (a 10), .ref (a 11), .ref (a 12), .ref (a 13), .ref (a 14), .ref (a 15), .ref (a 16), .ref (a 17), .ref (a 18), .ref (a 19), .ref (a 20), .ref (a 21), .ref (a 22), .ref (a 23), .ref (a 24), .ref (a 25), .ref (a 26), .ref (a 27), .ref (a 28), .ref (a 29), .ref (a 30), .int v_begun, .ref (a 31), .ref (a 32)])), ((a 3), .inl ((d 3), 400, .inl f_tape))]) rfl dX12_scan_57 (fun H locs St => ?_)
        refine lv_aload_n hx hb dX12_scan_60 rfl (lv_at hl 0 rfl) ?_
        refine lv_aload_n hx hb dX12_scan_61 rfl (lv_at hl 0 rfl) ?_
        refine cs_get F St 0 rfl rfl inX12 6 (by decide) kf_X12_7 rfl dX12_scan_62 ?_
        refine cs_i St [0, 1] [] (wc := [(h, .inr (12, [.ref (a 0), .ref (a 1), .ref (a 2), .ref (a 3), .int v_taped, .int v_size, .int bh, .int bh, .int v_hand, .int v_value, .int v_fault, .int v_faultAt, .ref (a 4), .int v_clock, .int v_coin, .int v_loan, .int v_matched, .int v_taxed, .int v_paidStages, .int v_grown, .int v_pledges, .int v_sums, .int v_stages, .int v_isStopped, .ref (a 5), .ref (a 6), .ref (a 7), .ref (a 8), .ref (a 9), .ref (a 10), .ref (a 11), .ref (a 12), .ref (a 13), .ref (a 14), .ref (a 15), .ref (a 16), .ref (a 17), .ref (a 18), .ref (a 19), .ref (a 20), .ref (a 21), .ref (a 22), .ref (a 23), .ref (a 24), .ref (a 25), .ref (a 26), .ref (a 27), .ref (a 28), .ref (a 29), .ref (a 30), .int v_begun, .ref (a 31), .ref (a 32)])), ((a 3), .inl ((d 3), 400, .inl f_tape))]) (wr := []) rfl rfl (by decide) (by decide) (va_runV (As := [.int bh]) (rest := []) F (m_byteAt l G k _ h a d v_taped v_size bh bh v_hand v_value v_fault v_faultAt v_clock v_coin v_loan v_matched v_taxed v_paidStages v_grown v_pledges v_sums v_stages v_isStopped v_begun f_tape bh (by omega) (by omega) (by omega)) (cwVt F mf_X12_byteAt km_X12_27 rfl rfl ⟨Nat.le_of_ble_eq_true rfl, Nat.le_of_ble_eq_true rfl⟩) (cs_preV St [0, 1] rfl (by decide) [0] rfl (ci := 12) (q0 := 0) rfl rfl) rfl rfl hl.1 rfl (lv_room (Nat.le_of_ble_eq_true rfl)) dX12_scan_65 ⟨Nat.le_of_ble_eq_true rfl, Nat.le_of_ble_eq_true rfl⟩) (fun r_1 u_2 H locs hw St => ?_)
        try dsimp only at hw
        obtain ⟨z_3, hby_4⟩ := hw
        have St : cS G k [(h, .inr (12, [.ref (a 0), .ref (a 1), .ref (a 2), .ref (a 3), .int v_taped, .int v_size, .int bh, .int bh, .int v_hand, .int v_value, .int v_fault, .int v_faultAt, .ref (a 4), .int v_clock, .int v_coin, .int v_loan, .int v_matched, .int v_taxed, .int v_paidStages, .int v_grown, .int v_pledges, .int v_sums, .int v_stages, .int v_isStopped, .ref (a 5), .ref (a 6), .ref (a 7), .ref (a 8), .ref (a 9), .ref (a 10), .ref (a 11), .ref (a 12), .ref (a 13), .ref (a 14), .ref (a 15), .ref (a 16), .ref (a 17), .ref (a 18), .ref (a 19), .ref (a 20), .ref (a 21), .ref (a 22), .ref (a 23), .ref (a 24), .ref (a 25), .ref (a 26), .ref (a 27), .ref (a 28), .ref (a 29), .ref (a 30), .int v_begun, .ref (a 31), .ref (a 32)])), ((a 3), .inl ((d 3), 400, .inl f_tape))] [((d 3), .byte)] A s H locs := St
        refine lv_istore_n (lv' := [(1, .int r_1), (0, .ref h)]) hx hb dX12_scan_68 rfl hl (by decide) rfl (fun ls hl => ?_)
        refine lv_aload_n hx hb dX12_scan_69 rfl (lv_at hl 1 rfl) ?_
        refine cs_get F St 0 rfl rfl inX12 6 (by decide) kf_X12_7 rfl dX12_scan_70 ?_
        refine lv_aload_n hx hb dX12_scan_73 rfl (lv_at hl 1 rfl) ?_
        refine cs_get F St 0 rfl rfl inX12 5 (by decide) kf_X12_17 rfl dX12_scan_74 ?_
        refine lv_icmp_ne (tgt := 88) hx hb dX12_scan_77 (by decide) (fun c77 => ?_) (fun c77 => ?_)
        ·
          have i77 := ci_ne (x := bh) (y := v_size) rfl rfl c77
          refine lv_iload_n hx hb dX12_scan_88 rfl (lv_at hl 0 rfl) ?_
          refine cs_i St [] [0, 1] (wc := []) (wr := [(h, .inr (12, [.ref (a 0), .ref (a 1), .ref (a 2), .ref (a 3), .int v_taped, .int v_size, .int bh, .int bh, .int v_hand, .int v_value, .int v_fault, .int v_faultAt, .ref (a 4), .int v_clock, .int v_coin, .int v_loan, .int v_matched, .int v_taxed, .int v_paidStages, .int v_grown, .int v_pledges, .int v_sums, .int v_stages, .int v_isStopped, .ref (a 5), .ref (a 6), .ref (a 7), .ref (a 8), .ref (a 9), .ref (a 10), .ref (a 11), .ref (a 12), .ref (a 13), .ref (a 14), .ref (a 15), .ref (a 16), .ref (a 17), .ref (a 18), .ref (a 19), .ref (a 20), .ref (a 21), .ref (a 22), .ref (a 23), .ref (a 24), .ref (a 25), .ref (a 26), .ref (a 27), .ref (a 28), .ref (a 29), .ref (a 30), .int v_begun, .ref (a 31), .ref (a 32)])), ((a 3), .inl ((d 3), 400, .inl f_tape))]) rfl rfl (by decide) (by decide) (va_runS (As := [.int r_1]) (rest := []) F (c12_isLetter l G k _ r_1) (cwSt F mf_X12_isLetter km_X12_34 rfl rfl ⟨Nat.le_of_ble_eq_true rfl, Nat.le_of_ble_eq_true rfl⟩) (cs_pre St [] rfl (by decide) [] rfl) rfl rfl hl.1 rfl (lv_room (Nat.le_of_ble_eq_true rfl)) dX12_scan_89 ⟨Nat.le_of_ble_eq_true rfl, Nat.le_of_ble_eq_true rfl⟩) (fun r_5 u_6 H locs hw St => ?_)
          try dsimp only at hw
          rcases hw with ⟨z_7, hf_8⟩ | ⟨z_9, hf_10⟩
          ·
            subst r_5
            have St : cS G k [(h, .inr (12, [.ref (a 0), .ref (a 1), .ref (a 2), .ref (a 3), .int v_taped, .int v_size, .int bh, .int bh, .int v_hand, .int v_value, .int v_fault, .int v_faultAt, .ref (a 4), .int v_clock, .int v_coin, .int v_loan, .int v_matched, .int v_taxed, .int v_paidStages, .int v_grown, .int v_pledges, .int v_sums, .int v_stages, .int v_isStopped, .ref (a 5), .ref (a 6), .ref (a 7), .ref (a 8), .ref (a 9), .ref (a 10), .ref (a 11), .ref (a 12), .ref (a 13), .ref (a 14), .ref (a 15), .ref (a 16), .ref (a 17), .ref (a 18), .ref (a 19), .ref (a 20), .ref (a 21), .ref (a 22), .ref (a 23), .ref (a 24), .ref (a 25), .ref (a 26), .ref (a 27), .ref (a 28), .ref (a 29), .ref (a 30), .int v_begun, .ref (a 31), .ref (a 32)])), ((a 3), .inl ((d 3), 400, .inl f_tape))] [((d 3), .byte)] A s H locs := St
            refine lv_if_eq (tgt := 130) hx hb dX12_scan_92 (by decide) (fun c92 => ?_) (fun c92 => ?_)
            · exact absurd c92 (by decide)
            have lp95 : ∀ (n : Nat) (b2 : Int32) (H : Heap) (locs : List Loc) (ls : Array Slot), (bh.toInt ≤ b2.toInt ∧ b2.toInt ≤ v_size.toInt ∧ (bh.toInt < b2.toInt ∨ b2 = bh)) → ((v_size.toInt - b2.toInt).toNat) < n → cS G k [(h, .inr (12, [.ref (a 0), .ref (a 1), .ref (a 2), .ref (a 3), .int v_taped, .int v_size, .int bh, .int b2, .int v_hand, .int v_value, .int v_fault, .int v_faultAt, .ref (a 4), .int v_clock, .int v_coin, .int v_loan, .int v_matched, .int v_taxed, .int v_paidStages, .int v_grown, .int v_pledges, .int v_sums, .int v_stages, .int v_isStopped, .ref (a 5), .ref (a 6), .ref (a 7), .ref (a 8), .ref (a 9), .ref (a 10), .ref (a 11), .ref (a 12), .ref (a 13), .ref (a 14), .ref (a 15), .ref (a 16), .ref (a 17), .ref (a 18), .ref (a 19), .ref (a 20), .ref (a 21), .ref (a 22), .ref (a 23), .ref (a 24), .ref (a 25), .ref (a 26), .ref (a 27), .ref (a 28), .ref (a 29), .ref (a 30), .int v_begun, .ref (a 31), .ref (a 32)])), ((a 3), .inl ((d 3), 400, .inl f_tape))] [((d 3), .byte)] A s H locs → lv_has ls 2 [(1, .int r_1), (0, .ref h)] → W p l e ({ frames := 1, cells := 0, slots := 0, locals := 21 } : Room) s m args below meth c H locs 0 0 Q (F0 m 95 ls []) := by
              intro n
              induction n with
              | zero => intro b2 H locs ls hI hn; exact absurd hn (Nat.not_lt_zero _)
              | succ n ih =>
                intro b2 H locs ls hI hn St hl
                obtain ⟨hI3, hI4, hI2⟩ := hI
                skip
                refine lv_aload_n hx hb dX12_scan_95 rfl (lv_at hl 1 rfl) ?_
                refine lv_aload_n hx hb dX12_scan_96 rfl (lv_at hl 1 rfl) ?_
                refine cs_get F St 0 rfl rfl inX12 7 (by decide) kf_X12_24 rfl dX12_scan_97 ?_
                refine cs_i St [0, 1] [] (wc := [(h, .inr (12, [.ref (a 0), .ref (a 1), .ref (a 2), .ref (a 3), .int v_taped, .int v_size, .int bh, .int b2, .int v_hand, .int v_value, .int v_fault, .int v_faultAt, .ref (a 4), .int v_clock, .int v_coin, .int v_loan, .int v_matched, .int v_taxed, .int v_paidStages, .int v_grown, .int v_pledges, .int v_sums, .int v_stages, .int v_isStopped, .ref (a 5), .ref (a 6), .ref (a 7), .ref (a 8), .ref (a 9), .ref (a 10), .ref (a 11), .ref (a 12), .ref (a 13), .ref (a 14), .ref (a 15), .ref (a 16), .ref (a 17), .ref (a 18), .ref (a 19), .ref (a 20), .ref (a 21), .ref (a 22), .ref (a 23), .ref (a 24), .ref (a 25), .ref (a 26), .ref (a 27), .ref (a 28), .ref (a 29), .ref (a 30), .int v_begun, .ref (a 31), .ref (a 32)])), ((a 3), .inl ((d 3), 400, .inl f_tape))]) (wr := []) rfl rfl (by decide) (by decide) (va_runV (As := [.int b2]) (rest := []) F (m_byteAt l G k _ h a d v_taped v_size bh b2 v_hand v_value v_fault v_faultAt v_clock v_coin v_loan v_matched v_taxed v_paidStages v_grown v_pledges v_sums v_stages v_isStopped v_begun f_tape b2 (by omega) (by omega) (by omega)) (cwVt F mf_X12_byteAt km_X12_27 rfl rfl ⟨Nat.le_of_ble_eq_true rfl, Nat.le_of_ble_eq_true rfl⟩) (cs_preV St [0, 1] rfl (by decide) [0] rfl (ci := 12) (q0 := 0) rfl rfl) rfl rfl hl.1 rfl (lv_room (Nat.le_of_ble_eq_true rfl)) dX12_scan_100 ⟨Nat.le_of_ble_eq_true rfl, Nat.le_of_ble_eq_true rfl⟩) (fun r_11 u_12 H locs hw St => ?_)
                try dsimp only at hw
                obtain ⟨z_13, hby_14⟩ := hw
                have St : cS G k [(h, .inr (12, [.ref (a 0), .ref (a 1), .ref (a 2), .ref (a 3), .int v_taped, .int v_size, .int bh, .int b2, .int v_hand, .int v_value, .int v_fault, .int v_faultAt, .ref (a 4), .int v_clock, .int v_coin, .int v_loan, .int v_matched, .int v_taxed, .int v_paidStages, .int v_grown, .int v_pledges, .int v_sums, .int v_stages, .int v_isStopped, .ref (a 5), .ref (a 6), .ref (a 7), .ref (a 8), .ref (a 9), .ref (a 10), .ref (a 11), .ref (a 12), .ref (a 13), .ref (a 14), .ref (a 15), .ref (a 16), .ref (a 17), .ref (a 18), .ref (a 19), .ref (a 20), .ref (a 21), .ref (a 22), .ref (a 23), .ref (a 24), .ref (a 25), .ref (a 26), .ref (a 27), .ref (a 28), .ref (a 29), .ref (a 30), .int v_begun, .ref (a 31), .ref (a 32)])), ((a 3), .inl ((d 3), 400, .inl f_tape))] [((d 3), .byte)] A s H locs := St
                refine cs_i St [] [0, 1] (wc := []) (wr := [(h, .inr (12, [.ref (a 0), .ref (a 1), .ref (a 2), .ref (a 3), .int v_taped, .int v_size, .int bh, .int b2, .int v_hand, .int v_value, .int v_fault, .int v_faultAt, .ref (a 4), .int v_clock, .int v_coin, .int v_loan, .int v_matched, .int v_taxed, .int v_paidStages, .int v_grown, .int v_pledges, .int v_sums, .int v_stages, .int v_isStopped, .ref (a 5), .ref (a 6), .ref (a 7), .ref (a 8), .ref (a 9), .ref (a 10), .ref (a 11), .ref (a 12), .ref (a 13), .ref (a 14), .ref (a 15), .ref (a 16), .ref (a 17), .ref (a 18), .ref (a 19), .ref (a 20), .ref (a 21), .ref (a 22), .ref (a 23), .ref (a 24), .ref (a 25), .ref (a 26), .ref (a 27), .ref (a 28), .ref (a 29), .ref (a 30), .int v_begun, .ref (a 31), .ref (a 32)])), ((a 3), .inl ((d 3), 400, .inl f_tape))]) rfl rfl (by decide) (by decide) (va_runS (As := [.int r_11]) (rest := []) F (c12_isLetter l G k _ r_11) (cwSt F mf_X12_isLetter km_X12_34 rfl rfl ⟨Nat.le_of_ble_eq_true rfl, Nat.le_of_ble_eq_true rfl⟩) (cs_pre St [] rfl (by decide) [] rfl) rfl rfl hl.1 rfl (lv_room (Nat.le_of_ble_eq_true rfl)) dX12_scan_103 ⟨Nat.le_of_ble_eq_true rfl, Nat.le_of_ble_eq_true rfl⟩) (fun r_15 u_16 H locs hw St => ?_)
                try dsimp only at hw
                rcases hw with ⟨z_17, hf_18⟩ | ⟨z_19, hf_20⟩
                ·
                  subst r_15
                  have St : cS G k [(h, .inr (12, [.ref (a 0), .ref (a 1), .ref (a 2), .ref (a 3), .int v_taped, .int v_size, .int bh, .int b2, .int v_hand, .int v_value, .int v_fault, .int v_faultAt, .ref (a 4), .int v_clock, .int v_coin, .int v_loan, .int v_matched, .int v_taxed, .int v_paidStages, .int v_grown, .int v_pledges, .int v_sums, .int v_stages, .int v_isStopped, .ref (a 5), .ref (a 6), .ref (a 7), .ref (a 8), .ref (a 9), .ref (a 10), .ref (a 11), .ref (a 12), .ref (a 13), .ref (a 14), .ref (a 15), .ref (a 16), .ref (a 17), .ref (a 18), .ref (a 19), .ref (a 20), .ref (a 21), .ref (a 22), .ref (a 23), .ref (a 24), .ref (a 25), .ref (a 26), .ref (a 27), .ref (a 28), .ref (a 29), .ref (a 30), .int v_begun, .ref (a 31), .ref (a 32)])), ((a 3), .inl ((d 3), 400, .inl f_tape))] [((d 3), .byte)] A s H locs := St
                  refine lv_if_eq (tgt := 122) hx hb dX12_scan_106 (by decide) (fun c106 => ?_) (fun c106 => ?_)
                  · exact absurd c106 (by decide)
                  refine lv_aload_n hx hb dX12_scan_109 rfl (lv_at hl 1 rfl) ?_
                  refine lv_dup hx hb dX12_scan_110 rfl ?_
                  refine cs_get F St 0 rfl rfl inX12 7 (by decide) kf_X12_24 rfl dX12_scan_111 ?_
                  refine lv_iconst (v := 1) hx hb dX12_scan_114 (by decide) ?_
                  refine lv_iadd hx hb dX12_scan_115 ?_
                  refine lv_topi (fun y_21 ey_21 => ?_)
                  have jy_21 := ci_add (x := b2) (y := 1) rfl (show (1 : Int32).toInt = 1 by decide) ey_21
                  refine cs_put F St 0 rfl rfl inX12 tyX12_ok nmX12 7 (by decide) kf_X12_24 rfl rfl rfl (Nat.le_of_ble_eq_true rfl) (w' := [(h, .inr (12, [.ref (a 0), .ref (a 1), .ref (a 2), .ref (a 3), .int v_taped, .int v_size, .int bh, .int y_21, .int v_hand, .int v_value, .int v_fault, .int v_faultAt, .ref (a 4), .int v_clock, .int v_coin, .int v_loan, .int v_matched, .int v_taxed, .int v_paidStages, .int v_grown, .int v_pledges, .int v_sums, .int v_stages, .int v_isStopped, .ref (a 5), .ref (a 6), .ref (a 7), .ref (a 8), .ref (a 9), .ref (a 10), .ref (a 11), .ref (a 12), .ref (a 13), .ref (a 14), .ref (a 15), .ref (a 16), .ref (a 17), .ref (a 18), .ref (a 19), .ref (a 20), .ref (a 21), .ref (a 22), .ref (a 23), .ref (a 24), .ref (a 25), .ref (a 26), .ref (a 27), .ref (a 28), .ref (a 29), .ref (a 30), .int v_begun, .ref (a 31), .ref (a 32)])), ((a 3), .inl ((d 3), 400, .inl f_tape))]) rfl dX12_scan_116 (fun H locs St => ?_)
                  refine lv_goto (tgt := 95) hx hb dX12_scan_119 (by decide) ?_
                  exact ih y_21 _ _ _ ⟨by omega, by omega, Or.inl (by omega)⟩ (by omega) St (lv_sub hl [0, 1] rfl)
                ·
                  subst r_15
                  have St : cS G k [(h, .inr (12, [.ref (a 0), .ref (a 1), .ref (a 2), .ref (a 3), .int v_taped, .int v_size, .int bh, .int b2, .int v_hand, .int v_value, .int v_fault, .int v_faultAt, .ref (a 4), .int v_clock, .int v_coin, .int v_loan, .int v_matched, .int v_taxed, .int v_paidStages, .int v_grown, .int v_pledges, .int v_sums, .int v_stages, .int v_isStopped, .ref (a 5), .ref (a 6), .ref (a 7), .ref (a 8), .ref (a 9), .ref (a 10), .ref (a 11), .ref (a 12), .ref (a 13), .ref (a 14), .ref (a 15), .ref (a 16), .ref (a 17), .ref (a 18), .ref (a 19), .ref (a 20), .ref (a 21), .ref (a 22), .ref (a 23), .ref (a 24), .ref (a 25), .ref (a 26), .ref (a 27), .ref (a 28), .ref (a 29), .ref (a 30), .int v_begun, .ref (a 31), .ref (a 32)])), ((a 3), .inl ((d 3), 400, .inl f_tape))] [((d 3), .byte)] A s H locs := St
                  refine lv_if_eq (tgt := 122) hx hb dX12_scan_106 (by decide) (fun c106 => ?_) (fun c106 => ?_)
                  rotate_left
                  · exact absurd (by decide) c106
                  have hgo : bh.toInt < b2.toInt := by
                      rcases hI2 with h9 | h9
                      · exact h9
                      · exact False.elim (by subst h9; rw [← z_3] at z_13; subst z_13; omega)
                  refine lv_aload_n hx hb dX12_scan_122 rfl (lv_at hl 1 rfl) ?_
                  refine lv_iconst (v := 1) hx hb dX12_scan_123 (by decide) ?_
                  refine cs_put F St 0 rfl rfl inX12 tyX12_ok nmX12 8 (by decide) kf_X12_31 rfl rfl rfl (Nat.le_of_ble_eq_true rfl) (w' := [(h, .inr (12, [.ref (a 0), .ref (a 1), .ref (a 2), .ref (a 3), .int v_taped, .int v_size, .int bh, .int b2, .int 1, .int v_value, .int v_fault, .int v_faultAt, .ref (a 4), .int v_clock, .int v_coin, .int v_loan, .int v_matched, .int v_taxed, .int v_paidStages, .int v_grown, .int v_pledges, .int v_sums, .int v_stages, .int v_isStopped, .ref (a 5), .ref (a 6), .ref (a 7), .ref (a 8), .ref (a 9), .ref (a 10), .ref (a 11), .ref (a 12), .ref (a 13), .ref (a 14), .ref (a 15), .ref (a 16), .ref (a 17), .ref (a 18), .ref (a 19), .ref (a 20), .ref (a 21), .ref (a 22), .ref (a 23), .ref (a 24), .ref (a 25), .ref (a 26), .ref (a 27), .ref (a 28), .ref (a 29), .ref (a 30), .int v_begun, .ref (a 31), .ref (a 32)])), ((a 3), .inl ((d 3), 400, .inl f_tape))]) rfl dX12_scan_124 (fun H locs St => ?_)
                  refine lv_goto (tgt := 257) hx hb dX12_scan_127 (by decide) ?_
                  exact cs_vret F hr hlk hQ St (bh, b2, 1, v_value) ⟨⟨by omega, by omega, by omega, by omega⟩, Or.inr (by omega)⟩ [0, 1] rfl (by decide) [] rfl (by decide) (by decide) dX12_scan_257
            exact lp95 401 bh _ _ _ ⟨by omega, by omega, Or.inr rfl⟩ (by omega) St (lv_sub hl [0, 1] rfl)
          ·
            subst r_5
            have St : cS G k [(h, .inr (12, [.ref (a 0), .ref (a 1), .ref (a 2), .ref (a 3), .int v_taped, .int v_size, .int bh, .int bh, .int v_hand, .int v_value, .int v_fault, .int v_faultAt, .ref (a 4), .int v_clock, .int v_coin, .int v_loan, .int v_matched, .int v_taxed, .int v_paidStages, .int v_grown, .int v_pledges, .int v_sums, .int v_stages, .int v_isStopped, .ref (a 5), .ref (a 6), .ref (a 7), .ref (a 8), .ref (a 9), .ref (a 10), .ref (a 11), .ref (a 12), .ref (a 13), .ref (a 14), .ref (a 15), .ref (a 16), .ref (a 17), .ref (a 18), .ref (a 19), .ref (a 20), .ref (a 21), .ref (a 22), .ref (a 23), .ref (a 24), .ref (a 25), .ref (a 26), .ref (a 27), .ref (a 28), .ref (a 29), .ref (a 30), .int v_begun, .ref (a 31), .ref (a 32)])), ((a 3), .inl ((d 3), 400, .inl f_tape))] [((d 3), .byte)] A s H locs := St
            refine lv_if_eq (tgt := 130) hx hb dX12_scan_92 (by decide) (fun c92 => ?_) (fun c92 => ?_)
            rotate_left
            · exact absurd (by decide) c92
            refine lv_iload_n hx hb dX12_scan_130 rfl (lv_at hl 0 rfl) ?_
            refine cs_i St [] [0, 1] (wc := []) (wr := [(h, .inr (12, [.ref (a 0), .ref (a 1), .ref (a 2), .ref (a 3), .int v_taped, .int v_size, .int bh, .int bh, .int v_hand, .int v_value, .int v_fault, .int v_faultAt, .ref (a 4), .int v_clock, .int v_coin, .int v_loan, .int v_matched, .int v_taxed, .int v_paidStages, .int v_grown, .int v_pledges, .int v_sums, .int v_stages, .int v_isStopped, .ref (a 5), .ref (a 6), .ref (a 7), .ref (a 8), .ref (a 9), .ref (a 10), .ref (a 11), .ref (a 12), .ref (a 13), .ref (a 14), .ref (a 15), .ref (a 16), .ref (a 17), .ref (a 18), .ref (a 19), .ref (a 20), .ref (a 21), .ref (a 22), .ref (a 23), .ref (a 24), .ref (a 25), .ref (a 26), .ref (a 27), .ref (a 28), .ref (a 29), .ref (a 30), .int v_begun, .ref (a 31), .ref (a 32)])), ((a 3), .inl ((d 3), 400, .inl f_tape))]) rfl rfl (by decide) (by decide) (va_runS (As := [.int r_1]) (rest := []) F (c12_isDigit l G k _ r_1) (cwSt F mf_X12_isDigit km_X12_38 rfl rfl ⟨Nat.le_of_ble_eq_true rfl, Nat.le_of_ble_eq_true rfl⟩) (cs_pre St [] rfl (by decide) [] rfl) rfl rfl hl.1 rfl (lv_room (Nat.le_of_ble_eq_true rfl)) dX12_scan_131 ⟨Nat.le_of_ble_eq_true rfl, Nat.le_of_ble_eq_true rfl⟩) (fun r_22 u_23 H locs hw St => ?_)
            try dsimp only at hw
            rcases hw with ⟨z_24, hf_25⟩ | ⟨z_26, hf_27⟩
            ·
              subst r_22
              have St : cS G k [(h, .inr (12, [.ref (a 0), .ref (a 1), .ref (a 2), .ref (a 3), .int v_taped, .int v_size, .int bh, .int bh, .int v_hand, .int v_value, .int v_fault, .int v_faultAt, .ref (a 4), .int v_clock, .int v_coin, .int v_loan, .int v_matched, .int v_taxed, .int v_paidStages, .int v_grown, .int v_pledges, .int v_sums, .int v_stages, .int v_isStopped, .ref (a 5), .ref (a 6), .ref (a 7), .ref (a 8), .ref (a 9), .ref (a 10), .ref (a 11), .ref (a 12), .ref (a 13), .ref (a 14), .ref (a 15), .ref (a 16), .ref (a 17), .ref (a 18), .ref (a 19), .ref (a 20), .ref (a 21), .ref (a 22), .ref (a 23), .ref (a 24), .ref (a 25), .ref (a 26), .ref (a 27), .ref (a 28), .ref (a 29), .ref (a 30), .int v_begun, .ref (a 31), .ref (a 32)])), ((a 3), .inl ((d 3), 400, .inl f_tape))] [((d 3), .byte)] A s H locs := St
              refine lv_if_eq (tgt := 232) hx hb dX12_scan_134 (by decide) (fun c134 => ?_) (fun c134 => ?_)
              · exact absurd c134 (by decide)
              refine lv_aload_n hx hb dX12_scan_137 rfl (lv_at hl 1 rfl) ?_
              refine lv_iconst (v := 0) hx hb dX12_scan_138 (by decide) ?_
              refine cs_put F St 0 rfl rfl inX12 tyX12_ok nmX12 9 (by decide) kf_X12_41 rfl rfl rfl (Nat.le_of_ble_eq_true rfl) (w' := [(h, .inr (12, [.ref (a 0), .ref (a 1), .ref (a 2), .ref (a 3), .int v_taped, .int v_size, .int bh, .int bh, .int v_hand, .int 0, .int v_fault, .int v_faultAt, .ref (a 4), .int v_clock, .int v_coin, .int v_loan, .int v_matched, .int v_taxed, .int v_paidStages, .int v_grown, .int v_pledges, .int v_sums, .int v_stages, .int v_isStopped, .ref (a 5), .ref (a 6), .ref (a 7), .ref (a 8), .ref (a 9), .ref (a 10), .ref (a 11), .ref (a 12), .ref (a 13), .ref (a 14), .ref (a 15), .ref (a 16), .ref (a 17), .ref (a 18), .ref (a 19), .ref (a 20), .ref (a 21), .ref (a 22), .ref (a 23), .ref (a 24), .ref (a 25), .ref (a 26), .ref (a 27), .ref (a 28), .ref (a 29), .ref (a 30), .int v_begun, .ref (a 31), .ref (a 32)])), ((a 3), .inl ((d 3), 400, .inl f_tape))]) rfl dX12_scan_139 (fun H locs St => ?_)
              have lp142 : ∀ (n : Nat) (b3 : Int32) (vl : Int32) (H : Heap) (locs : List Loc) (ls : Array Slot), (bh.toInt ≤ b3.toInt ∧ b3.toInt ≤ v_size.toInt ∧ (bh.toInt < b3.toInt ∨ b3 = bh)) → ((v_size.toInt - b3.toInt).toNat) < n → cS G k [(h, .inr (12, [.ref (a 0), .ref (a 1), .ref (a 2), .ref (a 3), .int v_taped, .int v_size, .int bh, .int b3, .int v_hand, .int vl, .int v_fault, .int v_faultAt, .ref (a 4), .int v_clock, .int v_coin, .int v_loan, .int v_matched, .int v_taxed, .int v_paidStages, .int v_grown, .int v_pledges, .int v_sums, .int v_stages, .int v_isStopped, .ref (a 5), .ref (a 6), .ref (a 7), .ref (a 8), .ref (a 9), .ref (a 10), .ref (a 11), .ref (a 12), .ref (a 13), .ref (a 14), .ref (a 15), .ref (a 16), .ref (a 17), .ref (a 18), .ref (a 19), .ref (a 20), .ref (a 21), .ref (a 22), .ref (a 23), .ref (a 24), .ref (a 25), .ref (a 26), .ref (a 27), .ref (a 28), .ref (a 29), .ref (a 30), .int v_begun, .ref (a 31), .ref (a 32)])), ((a 3), .inl ((d 3), 400, .inl f_tape))] [((d 3), .byte)] A s H locs → lv_has ls 2 [(1, .int r_1), (0, .ref h)] → W p l e ({ frames := 1, cells := 0, slots := 0, locals := 21 } : Room) s m args below meth c H locs 0 0 Q (F0 m 142 ls []) := by
                intro n
                induction n with
                | zero => intro b3 vl H locs ls hI hn; exact absurd hn (Nat.not_lt_zero _)
                | succ n ih =>
                  intro b3 vl H locs ls hI hn St hl
                  obtain ⟨hI3, hI4, hI2⟩ := hI
                  skip
                  refine lv_aload_n hx hb dX12_scan_142 rfl (lv_at hl 1 rfl) ?_
                  refine lv_aload_n hx hb dX12_scan_143 rfl (lv_at hl 1 rfl) ?_
                  refine cs_get F St 0 rfl rfl inX12 7 (by decide) kf_X12_24 rfl dX12_scan_144 ?_
                  refine cs_i St [0, 1] [] (wc := [(h, .inr (12, [.ref (a 0), .ref (a 1), .ref (a 2), .ref (a 3), .int v_taped, .int v_size, .int bh, .int b3, .int v_hand, .int vl, .int v_fault, .int v_faultAt, .ref (a 4), .int v_clock, .int v_coin, .int v_loan, .int v_matched, .int v_taxed, .int v_paidStages, .int v_grown, .int v_pledges, .int v_sums, .int v_stages, .int v_isStopped, .ref (a 5), .ref (a 6), .ref (a 7), .ref (a 8), .ref (a 9), .ref (a 10), .ref (a 11), .ref (a 12), .ref (a 13), .ref (a 14), .ref (a 15), .ref (a 16), .ref (a 17), .ref (a 18), .ref (a 19), .ref (a 20), .ref (a 21), .ref (a 22), .ref (a 23), .ref (a 24), .ref (a 25), .ref (a 26), .ref (a 27), .ref (a 28), .ref (a 29), .ref (a 30), .int v_begun, .ref (a 31), .ref (a 32)])), ((a 3), .inl ((d 3), 400, .inl f_tape))]) (wr := []) rfl rfl (by decide) (by decide) (va_runV (As := [.int b3]) (rest := []) F (m_byteAt l G k _ h a d v_taped v_size bh b3 v_hand vl v_fault v_faultAt v_clock v_coin v_loan v_matched v_taxed v_paidStages v_grown v_pledges v_sums v_stages v_isStopped v_begun f_tape b3 (by omega) (by omega) (by omega)) (cwVt F mf_X12_byteAt km_X12_27 rfl rfl ⟨Nat.le_of_ble_eq_true rfl, Nat.le_of_ble_eq_true rfl⟩) (cs_preV St [0, 1] rfl (by decide) [0] rfl (ci := 12) (q0 := 0) rfl rfl) rfl rfl hl.1 rfl (lv_room (Nat.le_of_ble_eq_true rfl)) dX12_scan_147 ⟨Nat.le_of_ble_eq_true rfl, Nat.le_of_ble_eq_true rfl⟩) (fun r_28 u_29 H locs hw St => ?_)
                  try dsimp only at hw
                  obtain ⟨z_30, hby_31⟩ := hw
                  have St : cS G k [(h, .inr (12, [.ref (a 0), .ref (a 1), .ref (a 2), .ref (a 3), .int v_taped, .int v_size, .int bh, .int b3, .int v_hand, .int vl, .int v_fault, .int v_faultAt, .ref (a 4), .int v_clock, .int v_coin, .int v_loan, .int v_matched, .int v_taxed, .int v_paidStages, .int v_grown, .int v_pledges, .int v_sums, .int v_stages, .int v_isStopped, .ref (a 5), .ref (a 6), .ref (a 7), .ref (a 8), .ref (a 9), .ref (a 10), .ref (a 11), .ref (a 12), .ref (a 13), .ref (a 14), .ref (a 15), .ref (a 16), .ref (a 17), .ref (a 18), .ref (a 19), .ref (a 20), .ref (a 21), .ref (a 22), .ref (a 23), .ref (a 24), .ref (a 25), .ref (a 26), .ref (a 27), .ref (a 28), .ref (a 29), .ref (a 30), .int v_begun, .ref (a 31), .ref (a 32)])), ((a 3), .inl ((d 3), 400, .inl f_tape))] [((d 3), .byte)] A s H locs := St
                  refine cs_i St [] [0, 1] (wc := []) (wr := [(h, .inr (12, [.ref (a 0), .ref (a 1), .ref (a 2), .ref (a 3), .int v_taped, .int v_size, .int bh, .int b3, .int v_hand, .int vl, .int v_fault, .int v_faultAt, .ref (a 4), .int v_clock, .int v_coin, .int v_loan, .int v_matched, .int v_taxed, .int v_paidStages, .int v_grown, .int v_pledges, .int v_sums, .int v_stages, .int v_isStopped, .ref (a 5), .ref (a 6), .ref (a 7), .ref (a 8), .ref (a 9), .ref (a 10), .ref (a 11), .ref (a 12), .ref (a 13), .ref (a 14), .ref (a 15), .ref (a 16), .ref (a 17), .ref (a 18), .ref (a 19), .ref (a 20), .ref (a 21), .ref (a 22), .ref (a 23), .ref (a 24), .ref (a 25), .ref (a 26), .ref (a 27), .ref (a 28), .ref (a 29), .ref (a 30), .int v_begun, .ref (a 31), .ref (a 32)])), ((a 3), .inl ((d 3), 400, .inl f_tape))]) rfl rfl (by decide) (by decide) (va_runS (As := [.int r_28]) (rest := []) F (c12_isDigit l G k _ r_28) (cwSt F mf_X12_isDigit km_X12_38 rfl rfl ⟨Nat.le_of_ble_eq_true rfl, Nat.le_of_ble_eq_true rfl⟩) (cs_pre St [] rfl (by decide) [] rfl) rfl rfl hl.1 rfl (lv_room (Nat.le_of_ble_eq_true rfl)) dX12_scan_150 ⟨Nat.le_of_ble_eq_true rfl, Nat.le_of_ble_eq_true rfl⟩) (fun r_32 u_33 H locs hw St => ?_)
                  try dsimp only at hw
                  rcases hw with ⟨z_34, hf_35⟩ | ⟨z_36, hf_37⟩
                  ·
                    subst r_32
                    have St : cS G k [(h, .inr (12, [.ref (a 0), .ref (a 1), .ref (a 2), .ref (a 3), .int v_taped, .int v_size, .int bh, .int b3, .int v_hand, .int vl, .int v_fault, .int v_faultAt, .ref (a 4), .int v_clock, .int v_coin, .int v_loan, .int v_matched, .int v_taxed, .int v_paidStages, .int v_grown, .int v_pledges, .int v_sums, .int v_stages, .int v_isStopped, .ref (a 5), .ref (a 6), .ref (a 7), .ref (a 8), .ref (a 9), .ref (a 10), .ref (a 11), .ref (a 12), .ref (a 13), .ref (a 14), .ref (a 15), .ref (a 16), .ref (a 17), .ref (a 18), .ref (a 19), .ref (a 20), .ref (a 21), .ref (a 22), .ref (a 23), .ref (a 24), .ref (a 25), .ref (a 26), .ref (a 27), .ref (a 28), .ref (a 29), .ref (a 30), .int v_begun, .ref (a 31), .ref (a 32)])), ((a 3), .inl ((d 3), 400, .inl f_tape))] [((d 3), .byte)] A s H locs := St
                    refine lv_if_eq (tgt := 206) hx hb dX12_scan_153 (by decide) (fun c153 => ?_) (fun c153 => ?_)
                    · exact absurd c153 (by decide)
                    refine lv_aload_n hx hb dX12_scan_156 rfl (lv_at hl 1 rfl) ?_
                    refine cs_get F St 0 rfl rfl inX12 7 (by decide) kf_X12_24 rfl dX12_scan_157 ?_
                    refine lv_aload_n hx hb dX12_scan_160 rfl (lv_at hl 1 rfl) ?_
                    refine cs_get F St 0 rfl rfl inX12 6 (by decide) kf_X12_7 rfl dX12_scan_161 ?_
                    refine lv_isub hx hb dX12_scan_164 ?_
                    refine lv_topi (fun y_38 ey_38 => ?_)
                    have jy_38 := ci_sub (x := b3) (y := bh) rfl rfl ey_38
                    refine lv_bipush (v := 6) hx hb dX12_scan_165 (by decide) ?_
                    refine lv_icmp_ge (tgt := 193) hx hb dX12_scan_167 (by decide) (fun c167 => ?_) (fun c167 => ?_)
                    ·
                      have i167 := ci_le (x := 6) (y := y_38) (show (6 : Int32).toInt = 6 by decide) rfl c167
                      refine lv_aload_n hx hb dX12_scan_193 rfl (lv_at hl 1 rfl) ?_
                      refine lv_dup hx hb dX12_scan_194 rfl ?_
                      refine cs_get F St 0 rfl rfl inX12 7 (by decide) kf_X12_24 rfl dX12_scan_195 ?_
                      refine lv_iconst (v := 1) hx hb dX12_scan_198 (by decide) ?_
                      refine lv_iadd hx hb dX12_scan_199 ?_
                      refine lv_topi (fun y_39 ey_39 => ?_)
                      have jy_39 := ci_add (x := b3) (y := 1) rfl (show (1 : Int32).toInt = 1 by decide) ey_39
                      refine cs_put F St 0 rfl rfl inX12 tyX12_ok nmX12 7 (by decide) kf_X12_24 rfl rfl rfl (Nat.le_of_ble_eq_true rfl) (w' := [(h, .inr (12, [.ref (a 0), .ref (a 1), .ref (a 2), .ref (a 3), .int v_taped, .int v_size, .int bh, .int y_39, .int v_hand, .int vl, .int v_fault, .int v_faultAt, .ref (a 4), .int v_clock, .int v_coin, .int v_loan, .int v_matched, .int v_taxed, .int v_paidStages, .int v_grown, .int v_pledges, .int v_sums, .int v_stages, .int v_isStopped, .ref (a 5), .ref (a 6), .ref (a 7), .ref (a 8), .ref (a 9), .ref (a 10), .ref (a 11), .ref (a 12), .ref (a 13), .ref (a 14), .ref (a 15), .ref (a 16), .ref (a 17), .ref (a 18), .ref (a 19), .ref (a 20), .ref (a 21), .ref (a 22), .ref (a 23), .ref (a 24), .ref (a 25), .ref (a 26), .ref (a 27), .ref (a 28), .ref (a 29), .ref (a 30), .int v_begun, .ref (a 31), .ref (a 32)])), ((a 3), .inl ((d 3), 400, .inl f_tape))]) rfl dX12_scan_200 (fun H locs St => ?_)
                      refine lv_goto (tgt := 142) hx hb dX12_scan_203 (by decide) ?_
                      exact ih y_39 vl _ _ _ ⟨by omega, by omega, Or.inl (by omega)⟩ (by omega) St (lv_sub hl [0, 1] rfl)
                    ·
                      have i167 := ci_nle (x := 6) (y := y_38) (show (6 : Int32).toInt = 6 by decide) rfl c167
                      refine lv_aload_n hx hb dX12_scan_170 rfl (lv_at hl 1 rfl) ?_
                      refine lv_bipush (v := 10) hx hb dX12_scan_171 (by decide) ?_
                      refine lv_aload_n hx hb dX12_scan_173 rfl (lv_at hl 1 rfl) ?_
                      refine cs_get F St 0 rfl rfl inX12 9 (by decide) kf_X12_41 rfl dX12_scan_174 ?_
                      refine lv_imul hx hb dX12_scan_177 ?_
                      refine lv_topi (fun y_40 ey_40 => ?_)
                      refine lv_aload_n hx hb dX12_scan_178 rfl (lv_at hl 1 rfl) ?_
                      refine lv_aload_n hx hb dX12_scan_179 rfl (lv_at hl 1 rfl) ?_
                      refine cs_get F St 0 rfl rfl inX12 7 (by decide) kf_X12_24 rfl dX12_scan_180 ?_
                      refine cs_i St [0, 1] [] (wc := [(h, .inr (12, [.ref (a 0), .ref (a 1), .ref (a 2), .ref (a 3), .int v_taped, .int v_size, .int bh, .int b3, .int v_hand, .int vl, .int v_fault, .int v_faultAt, .ref (a 4), .int v_clock, .int v_coin, .int v_loan, .int v_matched, .int v_taxed, .int v_paidStages, .int v_grown, .int v_pledges, .int v_sums, .int v_stages, .int v_isStopped, .ref (a 5), .ref (a 6), .ref (a 7), .ref (a 8), .ref (a 9), .ref (a 10), .ref (a 11), .ref (a 12), .ref (a 13), .ref (a 14), .ref (a 15), .ref (a 16), .ref (a 17), .ref (a 18), .ref (a 19), .ref (a 20), .ref (a 21), .ref (a 22), .ref (a 23), .ref (a 24), .ref (a 25), .ref (a 26), .ref (a 27), .ref (a 28), .ref (a 29), .ref (a 30), .int v_begun, .ref (a 31), .ref (a 32)])), ((a 3), .inl ((d 3), 400, .inl f_tape))]) (wr := []) rfl rfl (by decide) (by decide) (va_runV (As := [.int b3]) (rest := [.int y_40, .ref h]) F (m_byteAt l G k _ h a d v_taped v_size bh b3 v_hand vl v_fault v_faultAt v_clock v_coin v_loan v_matched v_taxed v_paidStages v_grown v_pledges v_sums v_stages v_isStopped v_begun f_tape b3 (by omega) (by omega) (by omega)) (cwVt F mf_X12_byteAt km_X12_27 rfl rfl ⟨Nat.le_of_ble_eq_true rfl, Nat.le_of_ble_eq_true rfl⟩) (cs_preV St [0, 1] rfl (by decide) [0] rfl (ci := 12) (q0 := 0) rfl rfl) rfl rfl hl.1 rfl (lv_room (Nat.le_of_ble_eq_true rfl)) dX12_scan_183 ⟨Nat.le_of_ble_eq_true rfl, Nat.le_of_ble_eq_true rfl⟩) (fun r_41 u_42 H locs hw St => ?_)
                      try dsimp only at hw
                      obtain ⟨z_43, hby_44⟩ := hw
                      have St : cS G k [(h, .inr (12, [.ref (a 0), .ref (a 1), .ref (a 2), .ref (a 3), .int v_taped, .int v_size, .int bh, .int b3, .int v_hand, .int vl, .int v_fault, .int v_faultAt, .ref (a 4), .int v_clock, .int v_coin, .int v_loan, .int v_matched, .int v_taxed, .int v_paidStages, .int v_grown, .int v_pledges, .int v_sums, .int v_stages, .int v_isStopped, .ref (a 5), .ref (a 6), .ref (a 7), .ref (a 8), .ref (a 9), .ref (a 10), .ref (a 11), .ref (a 12), .ref (a 13), .ref (a 14), .ref (a 15), .ref (a 16), .ref (a 17), .ref (a 18), .ref (a 19), .ref (a 20), .ref (a 21), .ref (a 22), .ref (a 23), .ref (a 24), .ref (a 25), .ref (a 26), .ref (a 27), .ref (a 28), .ref (a 29), .ref (a 30), .int v_begun, .ref (a 31), .ref (a 32)])), ((a 3), .inl ((d 3), 400, .inl f_tape))] [((d 3), .byte)] A s H locs := St
                      refine lv_iadd hx hb dX12_scan_186 ?_
                      refine lv_topi (fun y_45 ey_45 => ?_)
                      have jy_45 := ci_add (x := y_40) (y := r_41) rfl rfl ey_45
                      refine lv_bipush (v := 48) hx hb dX12_scan_187 (by decide) ?_
                      refine lv_isub hx hb dX12_scan_189 ?_
                      refine lv_topi (fun y_46 ey_46 => ?_)
                      have jy_46 := ci_sub (x := y_45) (y := 48) rfl (show (48 : Int32).toInt = 48 by decide) ey_46
                      refine cs_put F St 0 rfl rfl inX12 tyX12_ok nmX12 9 (by decide) kf_X12_41 rfl rfl rfl (Nat.le_of_ble_eq_true rfl) (w' := [(h, .inr (12, [.ref (a 0), .ref (a 1), .ref (a 2), .ref (a 3), .int v_taped, .int v_size, .int bh, .int b3, .int v_hand, .int y_46, .int v_fault, .int v_faultAt, .ref (a 4), .int v_clock, .int v_coin, .int v_loan, .int v_matched, .int v_taxed, .int v_paidStages, .int v_grown, .int v_pledges, .int v_sums, .int v_stages, .int v_isStopped, .ref (a 5), .ref (a 6), .ref (a 7), .ref (a 8), .ref (a 9), .ref (a 10), .ref (a 11), .ref (a 12), .ref (a 13), .ref (a 14), .ref (a 15), .ref (a 16), .ref (a 17), .ref (a 18), .ref (a 19), .ref (a 20), .ref (a 21), .ref (a 22), .ref (a 23), .ref (a 24), .ref (a 25), .ref (a 26), .ref (a 27), .ref (a 28), .ref (a 29), .ref (a 30), .int v_begun, .ref (a 31), .ref (a 32)])), ((a 3), .inl ((d 3), 400, .inl f_tape))]) rfl dX12_scan_190 (fun H locs St => ?_)
                      refine lv_aload_n hx hb dX12_scan_193 rfl (lv_at hl 1 rfl) ?_
                      refine lv_dup hx hb dX12_scan_194 rfl ?_
                      refine cs_get F St 0 rfl rfl inX12 7 (by decide) kf_X12_24 rfl dX12_scan_195 ?_
                      refine lv_iconst (v := 1) hx hb dX12_scan_198 (by decide) ?_
                      refine lv_iadd hx hb dX12_scan_199 ?_
                      refine lv_topi (fun y_47 ey_47 => ?_)
                      have jy_47 := ci_add (x := b3) (y := 1) rfl (show (1 : Int32).toInt = 1 by decide) ey_47
                      refine cs_put F St 0 rfl rfl inX12 tyX12_ok nmX12 7 (by decide) kf_X12_24 rfl rfl rfl (Nat.le_of_ble_eq_true rfl) (w' := [(h, .inr (12, [.ref (a 0), .ref (a 1), .ref (a 2), .ref (a 3), .int v_taped, .int v_size, .int bh, .int y_47, .int v_hand, .int y_46, .int v_fault, .int v_faultAt, .ref (a 4), .int v_clock, .int v_coin, .int v_loan, .int v_matched, .int v_taxed, .int v_paidStages, .int v_grown, .int v_pledges, .int v_sums, .int v_stages, .int v_isStopped, .ref (a 5), .ref (a 6), .ref (a 7), .ref (a 8), .ref (a 9), .ref (a 10), .ref (a 11), .ref (a 12), .ref (a 13), .ref (a 14), .ref (a 15), .ref (a 16), .ref (a 17), .ref (a 18), .ref (a 19), .ref (a 20), .ref (a 21), .ref (a 22), .ref (a 23), .ref (a 24), .ref (a 25), .ref (a 26), .ref (a 27), .ref (a 28), .ref (a 29), .ref (a 30), .int v_begun, .ref (a 31), .ref (a 32)])), ((a 3), .inl ((d 3), 400, .inl f_tape))]) rfl dX12_scan_200 (fun H locs St => ?_)
                      refine lv_goto (tgt := 142) hx hb dX12_scan_203 (by decide) ?_
                      exact ih y_47 y_46 _ _ _ ⟨by omega, by omega, Or.inl (by omega)⟩ (by omega) St (lv_sub hl [0, 1] rfl)
                  ·
                    subst r_32
                    have St : cS G k [(h, .inr (12, [.ref (a 0), .ref (a 1), .ref (a 2), .ref (a 3), .int v_taped, .int v_size, .int bh, .int b3, .int v_hand, .int vl, .int v_fault, .int v_faultAt, .ref (a 4), .int v_clock, .int v_coin, .int v_loan, .int v_matched, .int v_taxed, .int v_paidStages, .int v_grown, .int v_pledges, .int v_sums, .int v_stages, .int v_isStopped, .ref (a 5), .ref (a 6), .ref (a 7), .ref (a 8), .ref (a 9), .ref (a 10), .ref (a 11), .ref (a 12), .ref (a 13), .ref (a 14), .ref (a 15), .ref (a 16), .ref (a 17), .ref (a 18), .ref (a 19), .ref (a 20), .ref (a 21), .ref (a 22), .ref (a 23), .ref (a 24), .ref (a 25), .ref (a 26), .ref (a 27), .ref (a 28), .ref (a 29), .ref (a 30), .int v_begun, .ref (a 31), .ref (a 32)])), ((a 3), .inl ((d 3), 400, .inl f_tape))] [((d 3), .byte)] A s H locs := St
                    refine lv_if_eq (tgt := 206) hx hb dX12_scan_153 (by decide) (fun c153 => ?_) (fun c153 => ?_)
                    rotate_left
                    · exact absurd (by decide) c153
                    have hgo : bh.toInt < b3.toInt := by
                        rcases hI2 with h9 | h9
                        · exact h9
                        · exact False.elim (by subst h9; rw [← z_3] at z_30; subst z_30; omega)
                    refine lv_aload_n hx hb dX12_scan_206 rfl (lv_at hl 1 rfl) ?_
                    refine lv_aload_n hx hb dX12_scan_207 rfl (lv_at hl 1 rfl) ?_
                    refine cs_get F St 0 rfl rfl inX12 7 (by decide) kf_X12_24 rfl dX12_scan_208 ?_
                    refine lv_aload_n hx hb dX12_scan_211 rfl (lv_at hl 1 rfl) ?_
                    refine cs_get F St 0 rfl rfl inX12 6 (by decide) kf_X12_7 rfl dX12_scan_212 ?_
                    refine lv_isub hx hb dX12_scan_215 ?_
                    refine lv_topi (fun y_48 ey_48 => ?_)
                    have jy_48 := ci_sub (x := b3) (y := bh) rfl rfl ey_48
                    refine lv_bipush (v := 6) hx hb dX12_scan_216 (by decide) ?_
                    refine lv_icmp_le (tgt := 225) hx hb dX12_scan_218 (by decide) (fun c218 => ?_) (fun c218 => ?_)
                    ·
                      have i218 := ci_le (x := y_48) (y := 6) rfl (show (6 : Int32).toInt = 6 by decide) c218
                      refine lv_iconst (v := 2) hx hb dX12_scan_225 (by decide) ?_
                      refine cs_put F St 0 rfl rfl inX12 tyX12_ok nmX12 8 (by decide) kf_X12_31 rfl rfl rfl (Nat.le_of_ble_eq_true rfl) (w' := [(h, .inr (12, [.ref (a 0), .ref (a 1), .ref (a 2), .ref (a 3), .int v_taped, .int v_size, .int bh, .int b3, .int 2, .int vl, .int v_fault, .int v_faultAt, .ref (a 4), .int v_clock, .int v_coin, .int v_loan, .int v_matched, .int v_taxed, .int v_paidStages, .int v_grown, .int v_pledges, .int v_sums, .int v_stages, .int v_isStopped, .ref (a 5), .ref (a 6), .ref (a 7), .ref (a 8), .ref (a 9), .ref (a 10), .ref (a 11), .ref (a 12), .ref (a 13), .ref (a 14), .ref (a 15), .ref (a 16), .ref (a 17), .ref (a 18), .ref (a 19), .ref (a 20), .ref (a 21), .ref (a 22), .ref (a 23), .ref (a 24), .ref (a 25), .ref (a 26), .ref (a 27), .ref (a 28), .ref (a 29), .ref (a 30), .int v_begun, .ref (a 31), .ref (a 32)])), ((a 3), .inl ((d 3), 400, .inl f_tape))]) rfl dX12_scan_226 (fun H locs St => ?_)
                      refine lv_goto (tgt := 257) hx hb dX12_scan_229 (by decide) ?_
                      exact cs_vret F hr hlk hQ St (bh, b3, 2, vl) ⟨⟨by omega, by omega, by omega, by omega⟩, Or.inr (by omega)⟩ [0, 1] rfl (by decide) [] rfl (by decide) (by decide) dX12_scan_257
                    ·
                      have i218 := ci_nle (x := y_48) (y := 6) rfl (show (6 : Int32).toInt = 6 by decide) c218
                      refine lv_iconst (v := 4) hx hb dX12_scan_221 (by decide) ?_
                      refine lv_goto (tgt := 226) hx hb dX12_scan_222 (by decide) ?_
                      refine cs_put F St 0 rfl rfl inX12 tyX12_ok nmX12 8 (by decide) kf_X12_31 rfl rfl rfl (Nat.le_of_ble_eq_true rfl) (w' := [(h, .inr (12, [.ref (a 0), .ref (a 1), .ref (a 2), .ref (a 3), .int v_taped, .int v_size, .int bh, .int b3, .int 4, .int vl, .int v_fault, .int v_faultAt, .ref (a 4), .int v_clock, .int v_coin, .int v_loan, .int v_matched, .int v_taxed, .int v_paidStages, .int v_grown, .int v_pledges, .int v_sums, .int v_stages, .int v_isStopped, .ref (a 5), .ref (a 6), .ref (a 7), .ref (a 8), .ref (a 9), .ref (a 10), .ref (a 11), .ref (a 12), .ref (a 13), .ref (a 14), .ref (a 15), .ref (a 16), .ref (a 17), .ref (a 18), .ref (a 19), .ref (a 20), .ref (a 21), .ref (a 22), .ref (a 23), .ref (a 24), .ref (a 25), .ref (a 26), .ref (a 27), .ref (a 28), .ref (a 29), .ref (a 30), .int v_begun, .ref (a 31), .ref (a 32)])), ((a 3), .inl ((d 3), 400, .inl f_tape))]) rfl dX12_scan_226 (fun H locs St => ?_)
                      refine lv_goto (tgt := 257) hx hb dX12_scan_229 (by decide) ?_
                      exact cs_vret F hr hlk hQ St (bh, b3, 4, vl) ⟨⟨by omega, by omega, by omega, by omega⟩, Or.inr (by omega)⟩ [0, 1] rfl (by decide) [] rfl (by decide) (by decide) dX12_scan_257
              exact lp142 401 bh 0 _ _ _ ⟨by omega, by omega, Or.inr rfl⟩ (by omega) St (lv_sub hl [0, 1] rfl)
            ·
              subst r_22
              have St : cS G k [(h, .inr (12, [.ref (a 0), .ref (a 1), .ref (a 2), .ref (a 3), .int v_taped, .int v_size, .int bh, .int bh, .int v_hand, .int v_value, .int v_fault, .int v_faultAt, .ref (a 4), .int v_clock, .int v_coin, .int v_loan, .int v_matched, .int v_taxed, .int v_paidStages, .int v_grown, .int v_pledges, .int v_sums, .int v_stages, .int v_isStopped, .ref (a 5), .ref (a 6), .ref (a 7), .ref (a 8), .ref (a 9), .ref (a 10), .ref (a 11), .ref (a 12), .ref (a 13), .ref (a 14), .ref (a 15), .ref (a 16), .ref (a 17), .ref (a 18), .ref (a 19), .ref (a 20), .ref (a 21), .ref (a 22), .ref (a 23), .ref (a 24), .ref (a 25), .ref (a 26), .ref (a 27), .ref (a 28), .ref (a 29), .ref (a 30), .int v_begun, .ref (a 31), .ref (a 32)])), ((a 3), .inl ((d 3), 400, .inl f_tape))] [((d 3), .byte)] A s H locs := St
              refine lv_if_eq (tgt := 232) hx hb dX12_scan_134 (by decide) (fun c134 => ?_) (fun c134 => ?_)
              rotate_left
              · exact absurd (by decide) c134
              refine lv_aload_n hx hb dX12_scan_232 rfl (lv_at hl 1 rfl) ?_
              refine lv_iload_n hx hb dX12_scan_233 rfl (lv_at hl 0 rfl) ?_
              refine lv_bipush (v := 59) hx hb dX12_scan_234 (by decide) ?_
              refine lv_icmp_ne (tgt := 243) hx hb dX12_scan_236 (by decide) (fun c236 => ?_) (fun c236 => ?_)
              ·
                have i236 := ci_ne (x := r_1) (y := 59) rfl (show (59 : Int32).toInt = 59 by decide) c236
                refine lv_iconst (v := 4) hx hb dX12_scan_243 (by decide) ?_
                refine cs_put F St 0 rfl rfl inX12 tyX12_ok nmX12 8 (by decide) kf_X12_31 rfl rfl rfl (Nat.le_of_ble_eq_true rfl) (w' := [(h, .inr (12, [.ref (a 0), .ref (a 1), .ref (a 2), .ref (a 3), .int v_taped, .int v_size, .int bh, .int bh, .int 4, .int v_value, .int v_fault, .int v_faultAt, .ref (a 4), .int v_clock, .int v_coin, .int v_loan, .int v_matched, .int v_taxed, .int v_paidStages, .int v_grown, .int v_pledges, .int v_sums, .int v_stages, .int v_isStopped, .ref (a 5), .ref (a 6), .ref (a 7), .ref (a 8), .ref (a 9), .ref (a 10), .ref (a 11), .ref (a 12), .ref (a 13), .ref (a 14), .ref (a 15), .ref (a 16), .ref (a 17), .ref (a 18), .ref (a 19), .ref (a 20), .ref (a 21), .ref (a 22), .ref (a 23), .ref (a 24), .ref (a 25), .ref (a 26), .ref (a 27), .ref (a 28), .ref (a 29), .ref (a 30), .int v_begun, .ref (a 31), .ref (a 32)])), ((a 3), .inl ((d 3), 400, .inl f_tape))]) rfl dX12_scan_244 (fun H locs St => ?_)
                refine lv_aload_n hx hb dX12_scan_247 rfl (lv_at hl 1 rfl) ?_
                refine lv_dup hx hb dX12_scan_248 rfl ?_
                refine cs_get F St 0 rfl rfl inX12 7 (by decide) kf_X12_24 rfl dX12_scan_249 ?_
                refine lv_iconst (v := 1) hx hb dX12_scan_252 (by decide) ?_
                refine lv_iadd hx hb dX12_scan_253 ?_
                refine lv_topi (fun y_49 ey_49 => ?_)
                have jy_49 := ci_add (x := bh) (y := 1) rfl (show (1 : Int32).toInt = 1 by decide) ey_49
                refine cs_put F St 0 rfl rfl inX12 tyX12_ok nmX12 7 (by decide) kf_X12_24 rfl rfl rfl (Nat.le_of_ble_eq_true rfl) (w' := [(h, .inr (12, [.ref (a 0), .ref (a 1), .ref (a 2), .ref (a 3), .int v_taped, .int v_size, .int bh, .int y_49, .int 4, .int v_value, .int v_fault, .int v_faultAt, .ref (a 4), .int v_clock, .int v_coin, .int v_loan, .int v_matched, .int v_taxed, .int v_paidStages, .int v_grown, .int v_pledges, .int v_sums, .int v_stages, .int v_isStopped, .ref (a 5), .ref (a 6), .ref (a 7), .ref (a 8), .ref (a 9), .ref (a 10), .ref (a 11), .ref (a 12), .ref (a 13), .ref (a 14), .ref (a 15), .ref (a 16), .ref (a 17), .ref (a 18), .ref (a 19), .ref (a 20), .ref (a 21), .ref (a 22), .ref (a 23), .ref (a 24), .ref (a 25), .ref (a 26), .ref (a 27), .ref (a 28), .ref (a 29), .ref (a 30), .int v_begun, .ref (a 31), .ref (a 32)])), ((a 3), .inl ((d 3), 400, .inl f_tape))]) rfl dX12_scan_254 (fun H locs St => ?_)
                exact cs_vret F hr hlk hQ St (bh, y_49, 4, v_value) ⟨⟨by omega, by omega, by omega, by omega⟩, Or.inr (by omega)⟩ [0, 1] rfl (by decide) [] rfl (by decide) (by decide) dX12_scan_257
              ·
                have i236 := ci_eq (x := r_1) (y := 59) rfl (show (59 : Int32).toInt = 59 by decide) c236
                refine lv_iconst (v := 3) hx hb dX12_scan_239 (by decide) ?_
                refine lv_goto (tgt := 244) hx hb dX12_scan_240 (by decide) ?_
                refine cs_put F St 0 rfl rfl inX12 tyX12_ok nmX12 8 (by decide) kf_X12_31 rfl rfl rfl (Nat.le_of_ble_eq_true rfl) (w' := [(h, .inr (12, [.ref (a 0), .ref (a 1), .ref (a 2), .ref (a 3), .int v_taped, .int v_size, .int bh, .int bh, .int 3, .int v_value, .int v_fault, .int v_faultAt, .ref (a 4), .int v_clock, .int v_coin, .int v_loan, .int v_matched, .int v_taxed, .int v_paidStages, .int v_grown, .int v_pledges, .int v_sums, .int v_stages, .int v_isStopped, .ref (a 5), .ref (a 6), .ref (a 7), .ref (a 8), .ref (a 9), .ref (a 10), .ref (a 11), .ref (a 12), .ref (a 13), .ref (a 14), .ref (a 15), .ref (a 16), .ref (a 17), .ref (a 18), .ref (a 19), .ref (a 20), .ref (a 21), .ref (a 22), .ref (a 23), .ref (a 24), .ref (a 25), .ref (a 26), .ref (a 27), .ref (a 28), .ref (a 29), .ref (a 30), .int v_begun, .ref (a 31), .ref (a 32)])), ((a 3), .inl ((d 3), 400, .inl f_tape))]) rfl dX12_scan_244 (fun H locs St => ?_)
                refine lv_aload_n hx hb dX12_scan_247 rfl (lv_at hl 1 rfl) ?_
                refine lv_dup hx hb dX12_scan_248 rfl ?_
                refine cs_get F St 0 rfl rfl inX12 7 (by decide) kf_X12_24 rfl dX12_scan_249 ?_
                refine lv_iconst (v := 1) hx hb dX12_scan_252 (by decide) ?_
                refine lv_iadd hx hb dX12_scan_253 ?_
                refine lv_topi (fun y_50 ey_50 => ?_)
                have jy_50 := ci_add (x := bh) (y := 1) rfl (show (1 : Int32).toInt = 1 by decide) ey_50
                refine cs_put F St 0 rfl rfl inX12 tyX12_ok nmX12 7 (by decide) kf_X12_24 rfl rfl rfl (Nat.le_of_ble_eq_true rfl) (w' := [(h, .inr (12, [.ref (a 0), .ref (a 1), .ref (a 2), .ref (a 3), .int v_taped, .int v_size, .int bh, .int y_50, .int 3, .int v_value, .int v_fault, .int v_faultAt, .ref (a 4), .int v_clock, .int v_coin, .int v_loan, .int v_matched, .int v_taxed, .int v_paidStages, .int v_grown, .int v_pledges, .int v_sums, .int v_stages, .int v_isStopped, .ref (a 5), .ref (a 6), .ref (a 7), .ref (a 8), .ref (a 9), .ref (a 10), .ref (a 11), .ref (a 12), .ref (a 13), .ref (a 14), .ref (a 15), .ref (a 16), .ref (a 17), .ref (a 18), .ref (a 19), .ref (a 20), .ref (a 21), .ref (a 22), .ref (a 23), .ref (a 24), .ref (a 25), .ref (a 26), .ref (a 27), .ref (a 28), .ref (a 29), .ref (a 30), .int v_begun, .ref (a 31), .ref (a 32)])), ((a 3), .inl ((d 3), 400, .inl f_tape))]) rfl dX12_scan_254 (fun H locs St => ?_)
                exact cs_vret F hr hlk hQ St (bh, y_50, 3, v_value) ⟨⟨by omega, by omega, by omega, by omega⟩, Or.inr (by omega)⟩ [0, 1] rfl (by decide) [] rfl (by decide) (by decide) dX12_scan_257
        ·
          have i77 := ci_eq (x := bh) (y := v_size) rfl rfl c77
          refine lv_aload_n hx hb dX12_scan_80 rfl (lv_at hl 1 rfl) ?_
          refine lv_iconst (v := 0) hx hb dX12_scan_81 (by decide) ?_
          refine cs_put F St 0 rfl rfl inX12 tyX12_ok nmX12 8 (by decide) kf_X12_31 rfl rfl rfl (Nat.le_of_ble_eq_true rfl) (w' := [(h, .inr (12, [.ref (a 0), .ref (a 1), .ref (a 2), .ref (a 3), .int v_taped, .int v_size, .int bh, .int bh, .int 0, .int v_value, .int v_fault, .int v_faultAt, .ref (a 4), .int v_clock, .int v_coin, .int v_loan, .int v_matched, .int v_taxed, .int v_paidStages, .int v_grown, .int v_pledges, .int v_sums, .int v_stages, .int v_isStopped, .ref (a 5), .ref (a 6), .ref (a 7), .ref (a 8), .ref (a 9), .ref (a 10), .ref (a 11), .ref (a 12), .ref (a 13), .ref (a 14), .ref (a 15), .ref (a 16), .ref (a 17), .ref (a 18), .ref (a 19), .ref (a 20), .ref (a 21), .ref (a 22), .ref (a 23), .ref (a 24), .ref (a 25), .ref (a 26), .ref (a 27), .ref (a 28), .ref (a 29), .ref (a 30), .int v_begun, .ref (a 31), .ref (a 32)])), ((a 3), .inl ((d 3), 400, .inl f_tape))]) rfl dX12_scan_82 (fun H locs St => ?_)
          refine lv_goto (tgt := 257) hx hb dX12_scan_85 (by decide) ?_
          exact cs_vret F hr hlk hQ St (bh, bh, 0, v_value) ⟨⟨by omega, by omega, by omega, by omega⟩, Or.inl (by decide)⟩ [0, 1] rfl (by decide) [] rfl (by decide) (by decide) dX12_scan_257
      ·
        have i8 := ci_nle (x := v_size) (y := bh) rfl rfl c8
        refine lv_aload_n hx hb dX12_scan_11 rfl (lv_at hl 0 rfl) ?_
        refine cs_get F St 0 rfl rfl inX12 3 (by decide) kf_X12_20 rfl dX12_scan_12 ?_
        refine lv_aload_n hx hb dX12_scan_15 rfl (lv_at hl 0 rfl) ?_
        refine cs_get F St 0 rfl rfl inX12 7 (by decide) kf_X12_24 rfl dX12_scan_16 ?_
        refine cs_bld F St 1 0 rfl rfl (vp_in_iff.mpr ⟨by omega, by omega⟩) dX12_scan_19 ?_
        refine lv_topi (fun y_51 ey_51 => ?_)
        refine lv_bipush (v := 32) hx hb dX12_scan_20 (by decide) ?_
        refine lv_icmp_eq (tgt := 39) hx hb dX12_scan_22 (by decide) (fun c22 => ?_) (fun c22 => ?_)
        ·
          have i22 := ci_eq (x := y_51) (y := 32) rfl (show (32 : Int32).toInt = 32 by decide) c22
          refine lv_aload_n hx hb dX12_scan_39 rfl (lv_at hl 0 rfl) ?_
          refine lv_dup hx hb dX12_scan_40 rfl ?_
          refine cs_get F St 0 rfl rfl inX12 7 (by decide) kf_X12_24 rfl dX12_scan_41 ?_
          refine lv_iconst (v := 1) hx hb dX12_scan_44 (by decide) ?_
          refine lv_iadd hx hb dX12_scan_45 ?_
          refine lv_topi (fun y_52 ey_52 => ?_)
          have jy_52 := ci_add (x := bh) (y := 1) rfl (show (1 : Int32).toInt = 1 by decide) ey_52
          refine cs_put F St 0 rfl rfl inX12 tyX12_ok nmX12 7 (by decide) kf_X12_24 rfl rfl rfl (Nat.le_of_ble_eq_true rfl) (w' := [(h, .inr (12, [.ref (a 0), .ref (a 1), .ref (a 2), .ref (a 3), .int v_taped, .int v_size, .int v_from, .int y_52, .int v_hand, .int v_value, .int v_fault, .int v_faultAt, .ref (a 4), .int v_clock, .int v_coin, .int v_loan, .int v_matched, .int v_taxed, .int v_paidStages, .int v_grown, .int v_pledges, .int v_sums, .int v_stages, .int v_isStopped, .ref (a 5), .ref (a 6), .ref (a 7), .ref (a 8), .ref (a 9), .ref (a 10), .ref (a 11), .ref (a 12), .ref (a 13), .ref (a 14), .ref (a 15), .ref (a 16), .ref (a 17), .ref (a 18), .ref (a 19), .ref (a 20), .ref (a 21), .ref (a 22), .ref (a 23), .ref (a 24), .ref (a 25), .ref (a 26), .ref (a 27), .ref (a 28), .ref (a 29), .ref (a 30), .int v_begun, .ref (a 31), .ref (a 32)])), ((a 3), .inl ((d 3), 400, .inl f_tape))]) rfl dX12_scan_46 (fun H locs St => ?_)
          refine lv_goto (tgt := 0) hx hb dX12_scan_49 (by decide) ?_
          exact ih y_52 _ _ _ ⟨by omega, by omega⟩ (by omega) St (lv_sub hl [0] rfl)
        ·
          have i22 := ci_ne (x := y_51) (y := 32) rfl (show (32 : Int32).toInt = 32 by decide) c22
          refine lv_aload_n hx hb dX12_scan_25 rfl (lv_at hl 0 rfl) ?_
          refine cs_get F St 0 rfl rfl inX12 3 (by decide) kf_X12_20 rfl dX12_scan_26 ?_
          refine lv_aload_n hx hb dX12_scan_29 rfl (lv_at hl 0 rfl) ?_
          refine cs_get F St 0 rfl rfl inX12 7 (by decide) kf_X12_24 rfl dX12_scan_30 ?_
          refine cs_bld F St 1 0 rfl rfl (vp_in_iff.mpr ⟨by omega, by omega⟩) dX12_scan_33 ?_
          refine lv_topi (fun y_53 ey_53 => ?_)
          refine lv_bipush (v := 10) hx hb dX12_scan_34 (by decide) ?_
          refine lv_icmp_ne (tgt := 52) hx hb dX12_scan_36 (by decide) (fun c36 => ?_) (fun c36 => ?_)
          ·
            have i36 := ci_ne (x := y_53) (y := 10) rfl (show (10 : Int32).toInt = 10 by decide) c36
            refine lv_aload_n hx hb dX12_scan_52 rfl (lv_at hl 0 rfl) ?_
            refine lv_aload_n hx hb dX12_scan_53 rfl (lv_at hl 0 rfl) ?_
            refine cs_get F St 0 rfl rfl inX12 7 (by decide) kf_X12_24 rfl dX12_scan_54 ?_
            refine cs_put F St 0 rfl rfl inX12 tyX12_ok nmX12 6 (by decide) kf_X12_7 rfl rfl rfl (Nat.le_of_ble_eq_true rfl) (w' := [(h, .inr (12, [.ref (a 0), .ref (a 1), .ref (a 2), .ref (a 3), .int v_taped, .int v_size, .int bh, .int bh, .int v_hand, .int v_value, .int v_fault, .int v_faultAt, .ref (a 4), .int v_clock, .int v_coin, .int v_loan, .int v_matched, .int v_taxed, .int v_paidStages, .int v_grown, .int v_pledges, .int v_sums, .int v_stages, .int v_isStopped, .ref (a 5), .ref (a 6), .ref (a 7), .ref (a 8), .ref (a 9), .ref (a 10), .ref (a 11), .ref (a 12), .ref (a 13), .ref (a 14), .ref (a 15), .ref (a 16), .ref (a 17), .ref (a 18), .ref (a 19), .ref (a 20), .ref (a 21), .ref (a 22), .ref (a 23), .ref (a 24), .ref (a 25), .ref (a 26), .ref (a 27), .ref (a 28), .ref (a 29), .ref (a 30), .int v_begun, .ref (a 31), .ref (a 32)])), ((a 3), .inl ((d 3), 400, .inl f_tape))]) rfl dX12_scan_57 (fun H locs St => ?_)
            refine lv_aload_n hx hb dX12_scan_60 rfl (lv_at hl 0 rfl) ?_
            refine lv_aload_n hx hb dX12_scan_61 rfl (lv_at hl 0 rfl) ?_
            refine cs_get F St 0 rfl rfl inX12 6 (by decide) kf_X12_7 rfl dX12_scan_62 ?_
            refine cs_i St [0, 1] [] (wc := [(h, .inr (12, [.ref (a 0), .ref (a 1), .ref (a 2), .ref (a 3), .int v_taped, .int v_size, .int bh, .int bh, .int v_hand, .int v_value, .int v_fault, .int v_faultAt, .ref (a 4), .int v_clock, .int v_coin, .int v_loan, .int v_matched, .int v_taxed, .int v_paidStages, .int v_grown, .int v_pledges, .int v_sums, .int v_stages, .int v_isStopped, .ref (a 5), .ref (a 6), .ref (a 7), .ref (a 8), .ref (a 9), .ref (a 10), .ref (a 11), .ref (a 12), .ref (a 13), .ref (a 14), .ref (a 15), .ref (a 16), .ref (a 17), .ref (a 18), .ref (a 19), .ref (a 20), .ref (a 21), .ref (a 22), .ref (a 23), .ref (a 24), .ref (a 25), .ref (a 26), .ref (a 27), .ref (a 28), .ref (a 29), .ref (a 30), .int v_begun, .ref (a 31), .ref (a 32)])), ((a 3), .inl ((d 3), 400, .inl f_tape))]) (wr := []) rfl rfl (by decide) (by decide) (va_runV (As := [.int bh]) (rest := []) F (m_byteAt l G k _ h a d v_taped v_size bh bh v_hand v_value v_fault v_faultAt v_clock v_coin v_loan v_matched v_taxed v_paidStages v_grown v_pledges v_sums v_stages v_isStopped v_begun f_tape bh (by omega) (by omega) (by omega)) (cwVt F mf_X12_byteAt km_X12_27 rfl rfl ⟨Nat.le_of_ble_eq_true rfl, Nat.le_of_ble_eq_true rfl⟩) (cs_preV St [0, 1] rfl (by decide) [0] rfl (ci := 12) (q0 := 0) rfl rfl) rfl rfl hl.1 rfl (lv_room (Nat.le_of_ble_eq_true rfl)) dX12_scan_65 ⟨Nat.le_of_ble_eq_true rfl, Nat.le_of_ble_eq_true rfl⟩) (fun r_54 u_55 H locs hw St => ?_)
            try dsimp only at hw
            obtain ⟨z_56, hby_57⟩ := hw
            have St : cS G k [(h, .inr (12, [.ref (a 0), .ref (a 1), .ref (a 2), .ref (a 3), .int v_taped, .int v_size, .int bh, .int bh, .int v_hand, .int v_value, .int v_fault, .int v_faultAt, .ref (a 4), .int v_clock, .int v_coin, .int v_loan, .int v_matched, .int v_taxed, .int v_paidStages, .int v_grown, .int v_pledges, .int v_sums, .int v_stages, .int v_isStopped, .ref (a 5), .ref (a 6), .ref (a 7), .ref (a 8), .ref (a 9), .ref (a 10), .ref (a 11), .ref (a 12), .ref (a 13), .ref (a 14), .ref (a 15), .ref (a 16), .ref (a 17), .ref (a 18), .ref (a 19), .ref (a 20), .ref (a 21), .ref (a 22), .ref (a 23), .ref (a 24), .ref (a 25), .ref (a 26), .ref (a 27), .ref (a 28), .ref (a 29), .ref (a 30), .int v_begun, .ref (a 31), .ref (a 32)])), ((a 3), .inl ((d 3), 400, .inl f_tape))] [((d 3), .byte)] A s H locs := St
            refine lv_istore_n (lv' := [(1, .int r_54), (0, .ref h)]) hx hb dX12_scan_68 rfl hl (by decide) rfl (fun ls hl => ?_)
            refine lv_aload_n hx hb dX12_scan_69 rfl (lv_at hl 1 rfl) ?_
            refine cs_get F St 0 rfl rfl inX12 6 (by decide) kf_X12_7 rfl dX12_scan_70 ?_
            refine lv_aload_n hx hb dX12_scan_73 rfl (lv_at hl 1 rfl) ?_
            refine cs_get F St 0 rfl rfl inX12 5 (by decide) kf_X12_17 rfl dX12_scan_74 ?_
            refine lv_icmp_ne (tgt := 88) hx hb dX12_scan_77 (by decide) (fun c77 => ?_) (fun c77 => ?_)
            ·
              have i77 := ci_ne (x := bh) (y := v_size) rfl rfl c77
              refine lv_iload_n hx hb dX12_scan_88 rfl (lv_at hl 0 rfl) ?_
              refine cs_i St [] [0, 1] (wc := []) (wr := [(h, .inr (12, [.ref (a 0), .ref (a 1), .ref (a 2), .ref (a 3), .int v_taped, .int v_size, .int bh, .int bh, .int v_hand, .int v_value, .int v_fault, .int v_faultAt, .ref (a 4), .int v_clock, .int v_coin, .int v_loan, .int v_matched, .int v_taxed, .int v_paidStages, .int v_grown, .int v_pledges, .int v_sums, .int v_stages, .int v_isStopped, .ref (a 5), .ref (a 6), .ref (a 7), .ref (a 8), .ref (a 9), .ref (a 10), .ref (a 11), .ref (a 12), .ref (a 13), .ref (a 14), .ref (a 15), .ref (a 16), .ref (a 17), .ref (a 18), .ref (a 19), .ref (a 20), .ref (a 21), .ref (a 22), .ref (a 23), .ref (a 24), .ref (a 25), .ref (a 26), .ref (a 27), .ref (a 28), .ref (a 29), .ref (a 30), .int v_begun, .ref (a 31), .ref (a 32)])), ((a 3), .inl ((d 3), 400, .inl f_tape))]) rfl rfl (by decide) (by decide) (va_runS (As := [.int r_54]) (rest := []) F (c12_isLetter l G k _ r_54) (cwSt F mf_X12_isLetter km_X12_34 rfl rfl ⟨Nat.le_of_ble_eq_true rfl, Nat.le_of_ble_eq_true rfl⟩) (cs_pre St [] rfl (by decide) [] rfl) rfl rfl hl.1 rfl (lv_room (Nat.le_of_ble_eq_true rfl)) dX12_scan_89 ⟨Nat.le_of_ble_eq_true rfl, Nat.le_of_ble_eq_true rfl⟩) (fun r_58 u_59 H locs hw St => ?_)
              try dsimp only at hw
              rcases hw with ⟨z_60, hf_61⟩ | ⟨z_62, hf_63⟩
              ·
                subst r_58
                have St : cS G k [(h, .inr (12, [.ref (a 0), .ref (a 1), .ref (a 2), .ref (a 3), .int v_taped, .int v_size, .int bh, .int bh, .int v_hand, .int v_value, .int v_fault, .int v_faultAt, .ref (a 4), .int v_clock, .int v_coin, .int v_loan, .int v_matched, .int v_taxed, .int v_paidStages, .int v_grown, .int v_pledges, .int v_sums, .int v_stages, .int v_isStopped, .ref (a 5), .ref (a 6), .ref (a 7), .ref (a 8), .ref (a 9), .ref (a 10), .ref (a 11), .ref (a 12), .ref (a 13), .ref (a 14), .ref (a 15), .ref (a 16), .ref (a 17), .ref (a 18), .ref (a 19), .ref (a 20), .ref (a 21), .ref (a 22), .ref (a 23), .ref (a 24), .ref (a 25), .ref (a 26), .ref (a 27), .ref (a 28), .ref (a 29), .ref (a 30), .int v_begun, .ref (a 31), .ref (a 32)])), ((a 3), .inl ((d 3), 400, .inl f_tape))] [((d 3), .byte)] A s H locs := St
                refine lv_if_eq (tgt := 130) hx hb dX12_scan_92 (by decide) (fun c92 => ?_) (fun c92 => ?_)
                · exact absurd c92 (by decide)
                have lp95 : ∀ (n : Nat) (b2 : Int32) (H : Heap) (locs : List Loc) (ls : Array Slot), (bh.toInt ≤ b2.toInt ∧ b2.toInt ≤ v_size.toInt ∧ (bh.toInt < b2.toInt ∨ b2 = bh)) → ((v_size.toInt - b2.toInt).toNat) < n → cS G k [(h, .inr (12, [.ref (a 0), .ref (a 1), .ref (a 2), .ref (a 3), .int v_taped, .int v_size, .int bh, .int b2, .int v_hand, .int v_value, .int v_fault, .int v_faultAt, .ref (a 4), .int v_clock, .int v_coin, .int v_loan, .int v_matched, .int v_taxed, .int v_paidStages, .int v_grown, .int v_pledges, .int v_sums, .int v_stages, .int v_isStopped, .ref (a 5), .ref (a 6), .ref (a 7), .ref (a 8), .ref (a 9), .ref (a 10), .ref (a 11), .ref (a 12), .ref (a 13), .ref (a 14), .ref (a 15), .ref (a 16), .ref (a 17), .ref (a 18), .ref (a 19), .ref (a 20), .ref (a 21), .ref (a 22), .ref (a 23), .ref (a 24), .ref (a 25), .ref (a 26), .ref (a 27), .ref (a 28), .ref (a 29), .ref (a 30), .int v_begun, .ref (a 31), .ref (a 32)])), ((a 3), .inl ((d 3), 400, .inl f_tape))] [((d 3), .byte)] A s H locs → lv_has ls 2 [(1, .int r_54), (0, .ref h)] → W p l e ({ frames := 1, cells := 0, slots := 0, locals := 21 } : Room) s m args below meth c H locs 0 0 Q (F0 m 95 ls []) := by
                  intro n
                  induction n with
                  | zero => intro b2 H locs ls hI hn; exact absurd hn (Nat.not_lt_zero _)
                  | succ n ih =>
                    intro b2 H locs ls hI hn St hl
                    obtain ⟨hI3, hI4, hI2⟩ := hI
                    skip
                    refine lv_aload_n hx hb dX12_scan_95 rfl (lv_at hl 1 rfl) ?_
                    refine lv_aload_n hx hb dX12_scan_96 rfl (lv_at hl 1 rfl) ?_
                    refine cs_get F St 0 rfl rfl inX12 7 (by decide) kf_X12_24 rfl dX12_scan_97 ?_
                    refine cs_i St [0, 1] [] (wc := [(h, .inr (12, [.ref (a 0), .ref (a 1), .ref (a 2), .ref (a 3), .int v_taped, .int v_size, .int bh, .int b2, .int v_hand, .int v_value, .int v_fault, .int v_faultAt, .ref (a 4), .int v_clock, .int v_coin, .int v_loan, .int v_matched, .int v_taxed, .int v_paidStages, .int v_grown, .int v_pledges, .int v_sums, .int v_stages, .int v_isStopped, .ref (a 5), .ref (a 6), .ref (a 7), .ref (a 8), .ref (a 9), .ref (a 10), .ref (a 11), .ref (a 12), .ref (a 13), .ref (a 14), .ref (a 15), .ref (a 16), .ref (a 17), .ref (a 18), .ref (a 19), .ref (a 20), .ref (a 21), .ref (a 22), .ref (a 23), .ref (a 24), .ref (a 25), .ref (a 26), .ref (a 27), .ref (a 28), .ref (a 29), .ref (a 30), .int v_begun, .ref (a 31), .ref (a 32)])), ((a 3), .inl ((d 3), 400, .inl f_tape))]) (wr := []) rfl rfl (by decide) (by decide) (va_runV (As := [.int b2]) (rest := []) F (m_byteAt l G k _ h a d v_taped v_size bh b2 v_hand v_value v_fault v_faultAt v_clock v_coin v_loan v_matched v_taxed v_paidStages v_grown v_pledges v_sums v_stages v_isStopped v_begun f_tape b2 (by omega) (by omega) (by omega)) (cwVt F mf_X12_byteAt km_X12_27 rfl rfl ⟨Nat.le_of_ble_eq_true rfl, Nat.le_of_ble_eq_true rfl⟩) (cs_preV St [0, 1] rfl (by decide) [0] rfl (ci := 12) (q0 := 0) rfl rfl) rfl rfl hl.1 rfl (lv_room (Nat.le_of_ble_eq_true rfl)) dX12_scan_100 ⟨Nat.le_of_ble_eq_true rfl, Nat.le_of_ble_eq_true rfl⟩) (fun r_64 u_65 H locs hw St => ?_)
                    try dsimp only at hw
                    obtain ⟨z_66, hby_67⟩ := hw
                    have St : cS G k [(h, .inr (12, [.ref (a 0), .ref (a 1), .ref (a 2), .ref (a 3), .int v_taped, .int v_size, .int bh, .int b2, .int v_hand, .int v_value, .int v_fault, .int v_faultAt, .ref (a 4), .int v_clock, .int v_coin, .int v_loan, .int v_matched, .int v_taxed, .int v_paidStages, .int v_grown, .int v_pledges, .int v_sums, .int v_stages, .int v_isStopped, .ref (a 5), .ref (a 6), .ref (a 7), .ref (a 8), .ref (a 9), .ref (a 10), .ref (a 11), .ref (a 12), .ref (a 13), .ref (a 14), .ref (a 15), .ref (a 16), .ref (a 17), .ref (a 18), .ref (a 19), .ref (a 20), .ref (a 21), .ref (a 22), .ref (a 23), .ref (a 24), .ref (a 25), .ref (a 26), .ref (a 27), .ref (a 28), .ref (a 29), .ref (a 30), .int v_begun, .ref (a 31), .ref (a 32)])), ((a 3), .inl ((d 3), 400, .inl f_tape))] [((d 3), .byte)] A s H locs := St
                    refine cs_i St [] [0, 1] (wc := []) (wr := [(h, .inr (12, [.ref (a 0), .ref (a 1), .ref (a 2), .ref (a 3), .int v_taped, .int v_size, .int bh, .int b2, .int v_hand, .int v_value, .int v_fault, .int v_faultAt, .ref (a 4), .int v_clock, .int v_coin, .int v_loan, .int v_matched, .int v_taxed, .int v_paidStages, .int v_grown, .int v_pledges, .int v_sums, .int v_stages, .int v_isStopped, .ref (a 5), .ref (a 6), .ref (a 7), .ref (a 8), .ref (a 9), .ref (a 10), .ref (a 11), .ref (a 12), .ref (a 13), .ref (a 14), .ref (a 15), .ref (a 16), .ref (a 17), .ref (a 18), .ref (a 19), .ref (a 20), .ref (a 21), .ref (a 22), .ref (a 23), .ref (a 24), .ref (a 25), .ref (a 26), .ref (a 27), .ref (a 28), .ref (a 29), .ref (a 30), .int v_begun, .ref (a 31), .ref (a 32)])), ((a 3), .inl ((d 3), 400, .inl f_tape))]) rfl rfl (by decide) (by decide) (va_runS (As := [.int r_64]) (rest := []) F (c12_isLetter l G k _ r_64) (cwSt F mf_X12_isLetter km_X12_34 rfl rfl ⟨Nat.le_of_ble_eq_true rfl, Nat.le_of_ble_eq_true rfl⟩) (cs_pre St [] rfl (by decide) [] rfl) rfl rfl hl.1 rfl (lv_room (Nat.le_of_ble_eq_true rfl)) dX12_scan_103 ⟨Nat.le_of_ble_eq_true rfl, Nat.le_of_ble_eq_true rfl⟩) (fun r_68 u_69 H locs hw St => ?_)
                    try dsimp only at hw
                    rcases hw with ⟨z_70, hf_71⟩ | ⟨z_72, hf_73⟩
                    ·
                      subst r_68
                      have St : cS G k [(h, .inr (12, [.ref (a 0), .ref (a 1), .ref (a 2), .ref (a 3), .int v_taped, .int v_size, .int bh, .int b2, .int v_hand, .int v_value, .int v_fault, .int v_faultAt, .ref (a 4), .int v_clock, .int v_coin, .int v_loan, .int v_matched, .int v_taxed, .int v_paidStages, .int v_grown, .int v_pledges, .int v_sums, .int v_stages, .int v_isStopped, .ref (a 5), .ref (a 6), .ref (a 7), .ref (a 8), .ref (a 9), .ref (a 10), .ref (a 11), .ref (a 12), .ref (a 13), .ref (a 14), .ref (a 15), .ref (a 16), .ref (a 17), .ref (a 18), .ref (a 19), .ref (a 20), .ref (a 21), .ref (a 22), .ref (a 23), .ref (a 24), .ref (a 25), .ref (a 26), .ref (a 27), .ref (a 28), .ref (a 29), .ref (a 30), .int v_begun, .ref (a 31), .ref (a 32)])), ((a 3), .inl ((d 3), 400, .inl f_tape))] [((d 3), .byte)] A s H locs := St
                      refine lv_if_eq (tgt := 122) hx hb dX12_scan_106 (by decide) (fun c106 => ?_) (fun c106 => ?_)
                      · exact absurd c106 (by decide)
                      refine lv_aload_n hx hb dX12_scan_109 rfl (lv_at hl 1 rfl) ?_
                      refine lv_dup hx hb dX12_scan_110 rfl ?_
                      refine cs_get F St 0 rfl rfl inX12 7 (by decide) kf_X12_24 rfl dX12_scan_111 ?_
                      refine lv_iconst (v := 1) hx hb dX12_scan_114 (by decide) ?_
                      refine lv_iadd hx hb dX12_scan_115 ?_
                      refine lv_topi (fun y_74 ey_74 => ?_)
                      have jy_74 := ci_add (x := b2) (y := 1) rfl (show (1 : Int32).toInt = 1 by decide) ey_74
                      refine cs_put F St 0 rfl rfl inX12 tyX12_ok nmX12 7 (by decide) kf_X12_24 rfl rfl rfl (Nat.le_of_ble_eq_true rfl) (w' := [(h, .inr (12, [.ref (a 0), .ref (a 1), .ref (a 2), .ref (a 3), .int v_taped, .int v_size, .int bh, .int y_74, .int v_hand, .int v_value, .int v_fault, .int v_faultAt, .ref (a 4), .int v_clock, .int v_coin, .int v_loan, .int v_matched, .int v_taxed, .int v_paidStages, .int v_grown, .int v_pledges, .int v_sums, .int v_stages, .int v_isStopped, .ref (a 5), .ref (a 6), .ref (a 7), .ref (a 8), .ref (a 9), .ref (a 10), .ref (a 11), .ref (a 12), .ref (a 13), .ref (a 14), .ref (a 15), .ref (a 16), .ref (a 17), .ref (a 18), .ref (a 19), .ref (a 20), .ref (a 21), .ref (a 22), .ref (a 23), .ref (a 24), .ref (a 25), .ref (a 26), .ref (a 27), .ref (a 28), .ref (a 29), .ref (a 30), .int v_begun, .ref (a 31), .ref (a 32)])), ((a 3), .inl ((d 3), 400, .inl f_tape))]) rfl dX12_scan_116 (fun H locs St => ?_)
                      refine lv_goto (tgt := 95) hx hb dX12_scan_119 (by decide) ?_
                      exact ih y_74 _ _ _ ⟨by omega, by omega, Or.inl (by omega)⟩ (by omega) St (lv_sub hl [0, 1] rfl)
                    ·
                      subst r_68
                      have St : cS G k [(h, .inr (12, [.ref (a 0), .ref (a 1), .ref (a 2), .ref (a 3), .int v_taped, .int v_size, .int bh, .int b2, .int v_hand, .int v_value, .int v_fault, .int v_faultAt, .ref (a 4), .int v_clock, .int v_coin, .int v_loan, .int v_matched, .int v_taxed, .int v_paidStages, .int v_grown, .int v_pledges, .int v_sums, .int v_stages, .int v_isStopped, .ref (a 5), .ref (a 6), .ref (a 7), .ref (a 8), .ref (a 9), .ref (a 10), .ref (a 11), .ref (a 12), .ref (a 13), .ref (a 14), .ref (a 15), .ref (a 16), .ref (a 17), .ref (a 18), .ref (a 19), .ref (a 20), .ref (a 21), .ref (a 22), .ref (a 23), .ref (a 24), .ref (a 25), .ref (a 26), .ref (a 27), .ref (a 28), .ref (a 29), .ref (a 30), .int v_begun, .ref (a 31), .ref (a 32)])), ((a 3), .inl ((d 3), 400, .inl f_tape))] [((d 3), .byte)] A s H locs := St
                      refine lv_if_eq (tgt := 122) hx hb dX12_scan_106 (by decide) (fun c106 => ?_) (fun c106 => ?_)
                      rotate_left
                      · exact absurd (by decide) c106
                      have hgo : bh.toInt < b2.toInt := by
                          rcases hI2 with h9 | h9
                          · exact h9
                          · exact False.elim (by subst h9; rw [← z_56] at z_66; subst z_66; omega)
                      refine lv_aload_n hx hb dX12_scan_122 rfl (lv_at hl 1 rfl) ?_
                      refine lv_iconst (v := 1) hx hb dX12_scan_123 (by decide) ?_
                      refine cs_put F St 0 rfl rfl inX12 tyX12_ok nmX12 8 (by decide) kf_X12_31 rfl rfl rfl (Nat.le_of_ble_eq_true rfl) (w' := [(h, .inr (12, [.ref (a 0), .ref (a 1), .ref (a 2), .ref (a 3), .int v_taped, .int v_size, .int bh, .int b2, .int 1, .int v_value, .int v_fault, .int v_faultAt, .ref (a 4), .int v_clock, .int v_coin, .int v_loan, .int v_matched, .int v_taxed, .int v_paidStages, .int v_grown, .int v_pledges, .int v_sums, .int v_stages, .int v_isStopped, .ref (a 5), .ref (a 6), .ref (a 7), .ref (a 8), .ref (a 9), .ref (a 10), .ref (a 11), .ref (a 12), .ref (a 13), .ref (a 14), .ref (a 15), .ref (a 16), .ref (a 17), .ref (a 18), .ref (a 19), .ref (a 20), .ref (a 21), .ref (a 22), .ref (a 23), .ref (a 24), .ref (a 25), .ref (a 26), .ref (a 27), .ref (a 28), .ref (a 29), .ref (a 30), .int v_begun, .ref (a 31), .ref (a 32)])), ((a 3), .inl ((d 3), 400, .inl f_tape))]) rfl dX12_scan_124 (fun H locs St => ?_)
                      refine lv_goto (tgt := 257) hx hb dX12_scan_127 (by decide) ?_
                      exact cs_vret F hr hlk hQ St (bh, b2, 1, v_value) ⟨⟨by omega, by omega, by omega, by omega⟩, Or.inr (by omega)⟩ [0, 1] rfl (by decide) [] rfl (by decide) (by decide) dX12_scan_257
                exact lp95 401 bh _ _ _ ⟨by omega, by omega, Or.inr rfl⟩ (by omega) St (lv_sub hl [0, 1] rfl)
              ·
                subst r_58
                have St : cS G k [(h, .inr (12, [.ref (a 0), .ref (a 1), .ref (a 2), .ref (a 3), .int v_taped, .int v_size, .int bh, .int bh, .int v_hand, .int v_value, .int v_fault, .int v_faultAt, .ref (a 4), .int v_clock, .int v_coin, .int v_loan, .int v_matched, .int v_taxed, .int v_paidStages, .int v_grown, .int v_pledges, .int v_sums, .int v_stages, .int v_isStopped, .ref (a 5), .ref (a 6), .ref (a 7), .ref (a 8), .ref (a 9), .ref (a 10), .ref (a 11), .ref (a 12), .ref (a 13), .ref (a 14), .ref (a 15), .ref (a 16), .ref (a 17), .ref (a 18), .ref (a 19), .ref (a 20), .ref (a 21), .ref (a 22), .ref (a 23), .ref (a 24), .ref (a 25), .ref (a 26), .ref (a 27), .ref (a 28), .ref (a 29), .ref (a 30), .int v_begun, .ref (a 31), .ref (a 32)])), ((a 3), .inl ((d 3), 400, .inl f_tape))] [((d 3), .byte)] A s H locs := St
                refine lv_if_eq (tgt := 130) hx hb dX12_scan_92 (by decide) (fun c92 => ?_) (fun c92 => ?_)
                rotate_left
                · exact absurd (by decide) c92
                refine lv_iload_n hx hb dX12_scan_130 rfl (lv_at hl 0 rfl) ?_
                refine cs_i St [] [0, 1] (wc := []) (wr := [(h, .inr (12, [.ref (a 0), .ref (a 1), .ref (a 2), .ref (a 3), .int v_taped, .int v_size, .int bh, .int bh, .int v_hand, .int v_value, .int v_fault, .int v_faultAt, .ref (a 4), .int v_clock, .int v_coin, .int v_loan, .int v_matched, .int v_taxed, .int v_paidStages, .int v_grown, .int v_pledges, .int v_sums, .int v_stages, .int v_isStopped, .ref (a 5), .ref (a 6), .ref (a 7), .ref (a 8), .ref (a 9), .ref (a 10), .ref (a 11), .ref (a 12), .ref (a 13), .ref (a 14), .ref (a 15), .ref (a 16), .ref (a 17), .ref (a 18), .ref (a 19), .ref (a 20), .ref (a 21), .ref (a 22), .ref (a 23), .ref (a 24), .ref (a 25), .ref (a 26), .ref (a 27), .ref (a 28), .ref (a 29), .ref (a 30), .int v_begun, .ref (a 31), .ref (a 32)])), ((a 3), .inl ((d 3), 400, .inl f_tape))]) rfl rfl (by decide) (by decide) (va_runS (As := [.int r_54]) (rest := []) F (c12_isDigit l G k _ r_54) (cwSt F mf_X12_isDigit km_X12_38 rfl rfl ⟨Nat.le_of_ble_eq_true rfl, Nat.le_of_ble_eq_true rfl⟩) (cs_pre St [] rfl (by decide) [] rfl) rfl rfl hl.1 rfl (lv_room (Nat.le_of_ble_eq_true rfl)) dX12_scan_131 ⟨Nat.le_of_ble_eq_true rfl, Nat.le_of_ble_eq_true rfl⟩) (fun r_75 u_76 H locs hw St => ?_)
                try dsimp only at hw
                rcases hw with ⟨z_77, hf_78⟩ | ⟨z_79, hf_80⟩
                ·
                  subst r_75
                  have St : cS G k [(h, .inr (12, [.ref (a 0), .ref (a 1), .ref (a 2), .ref (a 3), .int v_taped, .int v_size, .int bh, .int bh, .int v_hand, .int v_value, .int v_fault, .int v_faultAt, .ref (a 4), .int v_clock, .int v_coin, .int v_loan, .int v_matched, .int v_taxed, .int v_paidStages, .int v_grown, .int v_pledges, .int v_sums, .int v_stages, .int v_isStopped, .ref (a 5), .ref (a 6), .ref (a 7), .ref (a 8), .ref (a 9), .ref (a 10), .ref (a 11), .ref (a 12), .ref (a 13), .ref (a 14), .ref (a 15), .ref (a 16), .ref (a 17), .ref (a 18), .ref (a 19), .ref (a 20), .ref (a 21), .ref (a 22), .ref (a 23), .ref (a 24), .ref (a 25), .ref (a 26), .ref (a 27), .ref (a 28), .ref (a 29), .ref (a 30), .int v_begun, .ref (a 31), .ref (a 32)])), ((a 3), .inl ((d 3), 400, .inl f_tape))] [((d 3), .byte)] A s H locs := St
                  refine lv_if_eq (tgt := 232) hx hb dX12_scan_134 (by decide) (fun c134 => ?_) (fun c134 => ?_)
                  · exact absurd c134 (by decide)
                  refine lv_aload_n hx hb dX12_scan_137 rfl (lv_at hl 1 rfl) ?_
                  refine lv_iconst (v := 0) hx hb dX12_scan_138 (by decide) ?_
                  refine cs_put F St 0 rfl rfl inX12 tyX12_ok nmX12 9 (by decide) kf_X12_41 rfl rfl rfl (Nat.le_of_ble_eq_true rfl) (w' := [(h, .inr (12, [.ref (a 0), .ref (a 1), .ref (a 2), .ref (a 3), .int v_taped, .int v_size, .int bh, .int bh, .int v_hand, .int 0, .int v_fault, .int v_faultAt, .ref (a 4), .int v_clock, .int v_coin, .int v_loan, .int v_matched, .int v_taxed, .int v_paidStages, .int v_grown, .int v_pledges, .int v_sums, .int v_stages, .int v_isStopped, .ref (a 5), .ref (a 6), .ref (a 7), .ref (a 8), .ref (a 9), .ref (a 10), .ref (a 11), .ref (a 12), .ref (a 13), .ref (a 14), .ref (a 15), .ref (a 16), .ref (a 17), .ref (a 18), .ref (a 19), .ref (a 20), .ref (a 21), .ref (a 22), .ref (a 23), .ref (a 24), .ref (a 25), .ref (a 26), .ref (a 27), .ref (a 28), .ref (a 29), .ref (a 30), .int v_begun, .ref (a 31), .ref (a 32)])), ((a 3), .inl ((d 3), 400, .inl f_tape))]) rfl dX12_scan_139 (fun H locs St => ?_)
                  have lp142 : ∀ (n : Nat) (b3 : Int32) (vl : Int32) (H : Heap) (locs : List Loc) (ls : Array Slot), (bh.toInt ≤ b3.toInt ∧ b3.toInt ≤ v_size.toInt ∧ (bh.toInt < b3.toInt ∨ b3 = bh)) → ((v_size.toInt - b3.toInt).toNat) < n → cS G k [(h, .inr (12, [.ref (a 0), .ref (a 1), .ref (a 2), .ref (a 3), .int v_taped, .int v_size, .int bh, .int b3, .int v_hand, .int vl, .int v_fault, .int v_faultAt, .ref (a 4), .int v_clock, .int v_coin, .int v_loan, .int v_matched, .int v_taxed, .int v_paidStages, .int v_grown, .int v_pledges, .int v_sums, .int v_stages, .int v_isStopped, .ref (a 5), .ref (a 6), .ref (a 7), .ref (a 8), .ref (a 9), .ref (a 10), .ref (a 11), .ref (a 12), .ref (a 13), .ref (a 14), .ref (a 15), .ref (a 16), .ref (a 17), .ref (a 18), .ref (a 19), .ref (a 20), .ref (a 21), .ref (a 22), .ref (a 23), .ref (a 24), .ref (a 25), .ref (a 26), .ref (a 27), .ref (a 28), .ref (a 29), .ref (a 30), .int v_begun, .ref (a 31), .ref (a 32)])), ((a 3), .inl ((d 3), 400, .inl f_tape))] [((d 3), .byte)] A s H locs → lv_has ls 2 [(1, .int r_54), (0, .ref h)] → W p l e ({ frames := 1, cells := 0, slots := 0, locals := 21 } : Room) s m args below meth c H locs 0 0 Q (F0 m 142 ls []) := by
                    intro n
                    induction n with
                    | zero => intro b3 vl H locs ls hI hn; exact absurd hn (Nat.not_lt_zero _)
                    | succ n ih =>
                      intro b3 vl H locs ls hI hn St hl
                      obtain ⟨hI3, hI4, hI2⟩ := hI
                      skip
                      refine lv_aload_n hx hb dX12_scan_142 rfl (lv_at hl 1 rfl) ?_
                      refine lv_aload_n hx hb dX12_scan_143 rfl (lv_at hl 1 rfl) ?_
                      refine cs_get F St 0 rfl rfl inX12 7 (by decide) kf_X12_24 rfl dX12_scan_144 ?_
                      refine cs_i St [0, 1] [] (wc := [(h, .inr (12, [.ref (a 0), .ref (a 1), .ref (a 2), .ref (a 3), .int v_taped, .int v_size, .int bh, .int b3, .int v_hand, .int vl, .int v_fault, .int v_faultAt, .ref (a 4), .int v_clock, .int v_coin, .int v_loan, .int v_matched, .int v_taxed, .int v_paidStages, .int v_grown, .int v_pledges, .int v_sums, .int v_stages, .int v_isStopped, .ref (a 5), .ref (a 6), .ref (a 7), .ref (a 8), .ref (a 9), .ref (a 10), .ref (a 11), .ref (a 12), .ref (a 13), .ref (a 14), .ref (a 15), .ref (a 16), .ref (a 17), .ref (a 18), .ref (a 19), .ref (a 20), .ref (a 21), .ref (a 22), .ref (a 23), .ref (a 24), .ref (a 25), .ref (a 26), .ref (a 27), .ref (a 28), .ref (a 29), .ref (a 30), .int v_begun, .ref (a 31), .ref (a 32)])), ((a 3), .inl ((d 3), 400, .inl f_tape))]) (wr := []) rfl rfl (by decide) (by decide) (va_runV (As := [.int b3]) (rest := []) F (m_byteAt l G k _ h a d v_taped v_size bh b3 v_hand vl v_fault v_faultAt v_clock v_coin v_loan v_matched v_taxed v_paidStages v_grown v_pledges v_sums v_stages v_isStopped v_begun f_tape b3 (by omega) (by omega) (by omega)) (cwVt F mf_X12_byteAt km_X12_27 rfl rfl ⟨Nat.le_of_ble_eq_true rfl, Nat.le_of_ble_eq_true rfl⟩) (cs_preV St [0, 1] rfl (by decide) [0] rfl (ci := 12) (q0 := 0) rfl rfl) rfl rfl hl.1 rfl (lv_room (Nat.le_of_ble_eq_true rfl)) dX12_scan_147 ⟨Nat.le_of_ble_eq_true rfl, Nat.le_of_ble_eq_true rfl⟩) (fun r_81 u_82 H locs hw St => ?_)
                      try dsimp only at hw
                      obtain ⟨z_83, hby_84⟩ := hw
                      have St : cS G k [(h, .inr (12, [.ref (a 0), .ref (a 1), .ref (a 2), .ref (a 3), .int v_taped, .int v_size, .int bh, .int b3, .int v_hand, .int vl, .int v_fault, .int v_faultAt, .ref (a 4), .int v_clock, .int v_coin, .int v_loan, .int v_matched, .int v_taxed, .int v_paidStages, .int v_grown, .int v_pledges, .int v_sums, .int v_stages, .int v_isStopped, .ref (a 5), .ref (a 6), .ref (a 7), .ref (a 8), .ref (a 9), .ref (a 10), .ref (a 11), .ref (a 12), .ref (a 13), .ref (a 14), .ref (a 15), .ref (a 16), .ref (a 17), .ref (a 18), .ref (a 19), .ref (a 20), .ref (a 21), .ref (a 22), .ref (a 23), .ref (a 24), .ref (a 25), .ref (a 26), .ref (a 27), .ref (a 28), .ref (a 29), .ref (a 30), .int v_begun, .ref (a 31), .ref (a 32)])), ((a 3), .inl ((d 3), 400, .inl f_tape))] [((d 3), .byte)] A s H locs := St
                      refine cs_i St [] [0, 1] (wc := []) (wr := [(h, .inr (12, [.ref (a 0), .ref (a 1), .ref (a 2), .ref (a 3), .int v_taped, .int v_size, .int bh, .int b3, .int v_hand, .int vl, .int v_fault, .int v_faultAt, .ref (a 4), .int v_clock, .int v_coin, .int v_loan, .int v_matched, .int v_taxed, .int v_paidStages, .int v_grown, .int v_pledges, .int v_sums, .int v_stages, .int v_isStopped, .ref (a 5), .ref (a 6), .ref (a 7), .ref (a 8), .ref (a 9), .ref (a 10), .ref (a 11), .ref (a 12), .ref (a 13), .ref (a 14), .ref (a 15), .ref (a 16), .ref (a 17), .ref (a 18), .ref (a 19), .ref (a 20), .ref (a 21), .ref (a 22), .ref (a 23), .ref (a 24), .ref (a 25), .ref (a 26), .ref (a 27), .ref (a 28), .ref (a 29), .ref (a 30), .int v_begun, .ref (a 31), .ref (a 32)])), ((a 3), .inl ((d 3), 400, .inl f_tape))]) rfl rfl (by decide) (by decide) (va_runS (As := [.int r_81]) (rest := []) F (c12_isDigit l G k _ r_81) (cwSt F mf_X12_isDigit km_X12_38 rfl rfl ⟨Nat.le_of_ble_eq_true rfl, Nat.le_of_ble_eq_true rfl⟩) (cs_pre St [] rfl (by decide) [] rfl) rfl rfl hl.1 rfl (lv_room (Nat.le_of_ble_eq_true rfl)) dX12_scan_150 ⟨Nat.le_of_ble_eq_true rfl, Nat.le_of_ble_eq_true rfl⟩) (fun r_85 u_86 H locs hw St => ?_)
                      try dsimp only at hw
                      rcases hw with ⟨z_87, hf_88⟩ | ⟨z_89, hf_90⟩
                      ·
                        subst r_85
                        have St : cS G k [(h, .inr (12, [.ref (a 0), .ref (a 1), .ref (a 2), .ref (a 3), .int v_taped, .int v_size, .int bh, .int b3, .int v_hand, .int vl, .int v_fault, .int v_faultAt, .ref (a 4), .int v_clock, .int v_coin, .int v_loan, .int v_matched, .int v_taxed, .int v_paidStages, .int v_grown, .int v_pledges, .int v_sums, .int v_stages, .int v_isStopped, .ref (a 5), .ref (a 6), .ref (a 7), .ref (a 8), .ref (a 9), .ref (a 10), .ref (a 11), .ref (a 12), .ref (a 13), .ref (a 14), .ref (a 15), .ref (a 16), .ref (a 17), .ref (a 18), .ref (a 19), .ref (a 20), .ref (a 21), .ref (a 22), .ref (a 23), .ref (a 24), .ref (a 25), .ref (a 26), .ref (a 27), .ref (a 28), .ref (a 29), .ref (a 30), .int v_begun, .ref (a 31), .ref (a 32)])), ((a 3), .inl ((d 3), 400, .inl f_tape))] [((d 3), .byte)] A s H locs := St
                        refine lv_if_eq (tgt := 206) hx hb dX12_scan_153 (by decide) (fun c153 => ?_) (fun c153 => ?_)
                        · exact absurd c153 (by decide)
                        refine lv_aload_n hx hb dX12_scan_156 rfl (lv_at hl 1 rfl) ?_
                        refine cs_get F St 0 rfl rfl inX12 7 (by decide) kf_X12_24 rfl dX12_scan_157 ?_
                        refine lv_aload_n hx hb dX12_scan_160 rfl (lv_at hl 1 rfl) ?_
                        refine cs_get F St 0 rfl rfl inX12 6 (by decide) kf_X12_7 rfl dX12_scan_161 ?_
                        refine lv_isub hx hb dX12_scan_164 ?_
                        refine lv_topi (fun y_91 ey_91 => ?_)
                        have jy_91 := ci_sub (x := b3) (y := bh) rfl rfl ey_91
                        refine lv_bipush (v := 6) hx hb dX12_scan_165 (by decide) ?_
                        refine lv_icmp_ge (tgt := 193) hx hb dX12_scan_167 (by decide) (fun c167 => ?_) (fun c167 => ?_)
                        ·
                          have i167 := ci_le (x := 6) (y := y_91) (show (6 : Int32).toInt = 6 by decide) rfl c167
                          refine lv_aload_n hx hb dX12_scan_193 rfl (lv_at hl 1 rfl) ?_
                          refine lv_dup hx hb dX12_scan_194 rfl ?_
                          refine cs_get F St 0 rfl rfl inX12 7 (by decide) kf_X12_24 rfl dX12_scan_195 ?_
                          refine lv_iconst (v := 1) hx hb dX12_scan_198 (by decide) ?_
                          refine lv_iadd hx hb dX12_scan_199 ?_
                          refine lv_topi (fun y_92 ey_92 => ?_)
                          have jy_92 := ci_add (x := b3) (y := 1) rfl (show (1 : Int32).toInt = 1 by decide) ey_92
                          refine cs_put F St 0 rfl rfl inX12 tyX12_ok nmX12 7 (by decide) kf_X12_24 rfl rfl rfl (Nat.le_of_ble_eq_true rfl) (w' := [(h, .inr (12, [.ref (a 0), .ref (a 1), .ref (a 2), .ref (a 3), .int v_taped, .int v_size, .int bh, .int y_92, .int v_hand, .int vl, .int v_fault, .int v_faultAt, .ref (a 4), .int v_clock, .int v_coin, .int v_loan, .int v_matched, .int v_taxed, .int v_paidStages, .int v_grown, .int v_pledges, .int v_sums, .int v_stages, .int v_isStopped, .ref (a 5), .ref (a 6), .ref (a 7), .ref (a 8), .ref (a 9), .ref (a 10), .ref (a 11), .ref (a 12), .ref (a 13), .ref (a 14), .ref (a 15), .ref (a 16), .ref (a 17), .ref (a 18), .ref (a 19), .ref (a 20), .ref (a 21), .ref (a 22), .ref (a 23), .ref (a 24), .ref (a 25), .ref (a 26), .ref (a 27), .ref (a 28), .ref (a 29), .ref (a 30), .int v_begun, .ref (a 31), .ref (a 32)])), ((a 3), .inl ((d 3), 400, .inl f_tape))]) rfl dX12_scan_200 (fun H locs St => ?_)
                          refine lv_goto (tgt := 142) hx hb dX12_scan_203 (by decide) ?_
                          exact ih y_92 vl _ _ _ ⟨by omega, by omega, Or.inl (by omega)⟩ (by omega) St (lv_sub hl [0, 1] rfl)
                        ·
                          have i167 := ci_nle (x := 6) (y := y_91) (show (6 : Int32).toInt = 6 by decide) rfl c167
                          refine lv_aload_n hx hb dX12_scan_170 rfl (lv_at hl 1 rfl) ?_
                          refine lv_bipush (v := 10) hx hb dX12_scan_171 (by decide) ?_
                          refine lv_aload_n hx hb dX12_scan_173 rfl (lv_at hl 1 rfl) ?_
                          refine cs_get F St 0 rfl rfl inX12 9 (by decide) kf_X12_41 rfl dX12_scan_174 ?_
                          refine lv_imul hx hb dX12_scan_177 ?_
                          refine lv_topi (fun y_93 ey_93 => ?_)
                          refine lv_aload_n hx hb dX12_scan_178 rfl (lv_at hl 1 rfl) ?_
                          refine lv_aload_n hx hb dX12_scan_179 rfl (lv_at hl 1 rfl) ?_
                          refine cs_get F St 0 rfl rfl inX12 7 (by decide) kf_X12_24 rfl dX12_scan_180 ?_
                          refine cs_i St [0, 1] [] (wc := [(h, .inr (12, [.ref (a 0), .ref (a 1), .ref (a 2), .ref (a 3), .int v_taped, .int v_size, .int bh, .int b3, .int v_hand, .int vl, .int v_fault, .int v_faultAt, .ref (a 4), .int v_clock, .int v_coin, .int v_loan, .int v_matched, .int v_taxed, .int v_paidStages, .int v_grown, .int v_pledges, .int v_sums, .int v_stages, .int v_isStopped, .ref (a 5), .ref (a 6), .ref (a 7), .ref (a 8), .ref (a 9), .ref (a 10), .ref (a 11), .ref (a 12), .ref (a 13), .ref (a 14), .ref (a 15), .ref (a 16), .ref (a 17), .ref (a 18), .ref (a 19), .ref (a 20), .ref (a 21), .ref (a 22), .ref (a 23), .ref (a 24), .ref (a 25), .ref (a 26), .ref (a 27), .ref (a 28), .ref (a 29), .ref (a 30), .int v_begun, .ref (a 31), .ref (a 32)])), ((a 3), .inl ((d 3), 400, .inl f_tape))]) (wr := []) rfl rfl (by decide) (by decide) (va_runV (As := [.int b3]) (rest := [.int y_93, .ref h]) F (m_byteAt l G k _ h a d v_taped v_size bh b3 v_hand vl v_fault v_faultAt v_clock v_coin v_loan v_matched v_taxed v_paidStages v_grown v_pledges v_sums v_stages v_isStopped v_begun f_tape b3 (by omega) (by omega) (by omega)) (cwVt F mf_X12_byteAt km_X12_27 rfl rfl ⟨Nat.le_of_ble_eq_true rfl, Nat.le_of_ble_eq_true rfl⟩) (cs_preV St [0, 1] rfl (by decide) [0] rfl (ci := 12) (q0 := 0) rfl rfl) rfl rfl hl.1 rfl (lv_room (Nat.le_of_ble_eq_true rfl)) dX12_scan_183 ⟨Nat.le_of_ble_eq_true rfl, Nat.le_of_ble_eq_true rfl⟩) (fun r_94 u_95 H locs hw St => ?_)
                          try dsimp only at hw
                          obtain ⟨z_96, hby_97⟩ := hw
                          have St : cS G k [(h, .inr (12, [.ref (a 0), .ref (a 1), .ref (a 2), .ref (a 3), .int v_taped, .int v_size, .int bh, .int b3, .int v_hand, .int vl, .int v_fault, .int v_faultAt, .ref (a 4), .int v_clock, .int v_coin, .int v_loan, .int v_matched, .int v_taxed, .int v_paidStages, .int v_grown, .int v_pledges, .int v_sums, .int v_stages, .int v_isStopped, .ref (a 5), .ref (a 6), .ref (a 7), .ref (a 8), .ref (a 9), .ref (a 10), .ref (a 11), .ref (a 12), .ref (a 13), .ref (a 14), .ref (a 15), .ref (a 16), .ref (a 17), .ref (a 18), .ref (a 19), .ref (a 20), .ref (a 21), .ref (a 22), .ref (a 23), .ref (a 24), .ref (a 25), .ref (a 26), .ref (a 27), .ref (a 28), .ref (a 29), .ref (a 30), .int v_begun, .ref (a 31), .ref (a 32)])), ((a 3), .inl ((d 3), 400, .inl f_tape))] [((d 3), .byte)] A s H locs := St
                          refine lv_iadd hx hb dX12_scan_186 ?_
                          refine lv_topi (fun y_98 ey_98 => ?_)
                          have jy_98 := ci_add (x := y_93) (y := r_94) rfl rfl ey_98
                          refine lv_bipush (v := 48) hx hb dX12_scan_187 (by decide) ?_
                          refine lv_isub hx hb dX12_scan_189 ?_
                          refine lv_topi (fun y_99 ey_99 => ?_)
                          have jy_99 := ci_sub (x := y_98) (y := 48) rfl (show (48 : Int32).toInt = 48 by decide) ey_99
                          refine cs_put F St 0 rfl rfl inX12 tyX12_ok nmX12 9 (by decide) kf_X12_41 rfl rfl rfl (Nat.le_of_ble_eq_true rfl) (w' := [(h, .inr (12, [.ref (a 0), .ref (a 1), .ref (a 2), .ref (a 3), .int v_taped, .int v_size, .int bh, .int b3, .int v_hand, .int y_99, .int v_fault, .int v_faultAt, .ref (a 4), .int v_clock, .int v_coin, .int v_loan, .int v_matched, .int v_taxed, .int v_paidStages, .int v_grown, .int v_pledges, .int v_sums, .int v_stages, .int v_isStopped, .ref (a 5), .ref (a 6), .ref (a 7), .ref (a 8), .ref (a 9), .ref (a 10), .ref (a 11), .ref (a 12), .ref (a 13), .ref (a 14), .ref (a 15), .ref (a 16), .ref (a 17), .ref (a 18), .ref (a 19), .ref (a 20), .ref (a 21), .ref (a 22), .ref (a 23), .ref (a 24), .ref (a 25), .ref (a 26), .ref (a 27), .ref (a 28), .ref (a 29), .ref (a 30), .int v_begun, .ref (a 31), .ref (a 32)])), ((a 3), .inl ((d 3), 400, .inl f_tape))]) rfl dX12_scan_190 (fun H locs St => ?_)
                          refine lv_aload_n hx hb dX12_scan_193 rfl (lv_at hl 1 rfl) ?_
                          refine lv_dup hx hb dX12_scan_194 rfl ?_
                          refine cs_get F St 0 rfl rfl inX12 7 (by decide) kf_X12_24 rfl dX12_scan_195 ?_
                          refine lv_iconst (v := 1) hx hb dX12_scan_198 (by decide) ?_
                          refine lv_iadd hx hb dX12_scan_199 ?_
                          refine lv_topi (fun y_100 ey_100 => ?_)
                          have jy_100 := ci_add (x := b3) (y := 1) rfl (show (1 : Int32).toInt = 1 by decide) ey_100
                          refine cs_put F St 0 rfl rfl inX12 tyX12_ok nmX12 7 (by decide) kf_X12_24 rfl rfl rfl (Nat.le_of_ble_eq_true rfl) (w' := [(h, .inr (12, [.ref (a 0), .ref (a 1), .ref (a 2), .ref (a 3), .int v_taped, .int v_size, .int bh, .int y_100, .int v_hand, .int y_99, .int v_fault, .int v_faultAt, .ref (a 4), .int v_clock, .int v_coin, .int v_loan, .int v_matched, .int v_taxed, .int v_paidStages, .int v_grown, .int v_pledges, .int v_sums, .int v_stages, .int v_isStopped, .ref (a 5), .ref (a 6), .ref (a 7), .ref (a 8), .ref (a 9), .ref (a 10), .ref (a 11), .ref (a 12), .ref (a 13), .ref (a 14), .ref (a 15), .ref (a 16), .ref (a 17), .ref (a 18), .ref (a 19), .ref (a 20), .ref (a 21), .ref (a 22), .ref (a 23), .ref (a 24), .ref (a 25), .ref (a 26), .ref (a 27), .ref (a 28), .ref (a 29), .ref (a 30), .int v_begun, .ref (a 31), .ref (a 32)])), ((a 3), .inl ((d 3), 400, .inl f_tape))]) rfl dX12_scan_200 (fun H locs St => ?_)
                          refine lv_goto (tgt := 142) hx hb dX12_scan_203 (by decide) ?_
                          exact ih y_100 y_99 _ _ _ ⟨by omega, by omega, Or.inl (by omega)⟩ (by omega) St (lv_sub hl [0, 1] rfl)
                      ·
                        subst r_85
                        have St : cS G k [(h, .inr (12, [.ref (a 0), .ref (a 1), .ref (a 2), .ref (a 3), .int v_taped, .int v_size, .int bh, .int b3, .int v_hand, .int vl, .int v_fault, .int v_faultAt, .ref (a 4), .int v_clock, .int v_coin, .int v_loan, .int v_matched, .int v_taxed, .int v_paidStages, .int v_grown, .int v_pledges, .int v_sums, .int v_stages, .int v_isStopped, .ref (a 5), .ref (a 6), .ref (a 7), .ref (a 8), .ref (a 9), .ref (a 10), .ref (a 11), .ref (a 12), .ref (a 13), .ref (a 14), .ref (a 15), .ref (a 16), .ref (a 17), .ref (a 18), .ref (a 19), .ref (a 20), .ref (a 21), .ref (a 22), .ref (a 23), .ref (a 24), .ref (a 25), .ref (a 26), .ref (a 27), .ref (a 28), .ref (a 29), .ref (a 30), .int v_begun, .ref (a 31), .ref (a 32)])), ((a 3), .inl ((d 3), 400, .inl f_tape))] [((d 3), .byte)] A s H locs := St
                        refine lv_if_eq (tgt := 206) hx hb dX12_scan_153 (by decide) (fun c153 => ?_) (fun c153 => ?_)
                        rotate_left
                        · exact absurd (by decide) c153
                        have hgo : bh.toInt < b3.toInt := by
                            rcases hI2 with h9 | h9
                            · exact h9
                            · exact False.elim (by subst h9; rw [← z_56] at z_83; subst z_83; omega)
                        refine lv_aload_n hx hb dX12_scan_206 rfl (lv_at hl 1 rfl) ?_
                        refine lv_aload_n hx hb dX12_scan_207 rfl (lv_at hl 1 rfl) ?_
                        refine cs_get F St 0 rfl rfl inX12 7 (by decide) kf_X12_24 rfl dX12_scan_208 ?_
                        refine lv_aload_n hx hb dX12_scan_211 rfl (lv_at hl 1 rfl) ?_
                        refine cs_get F St 0 rfl rfl inX12 6 (by decide) kf_X12_7 rfl dX12_scan_212 ?_
                        refine lv_isub hx hb dX12_scan_215 ?_
                        refine lv_topi (fun y_101 ey_101 => ?_)
                        have jy_101 := ci_sub (x := b3) (y := bh) rfl rfl ey_101
                        refine lv_bipush (v := 6) hx hb dX12_scan_216 (by decide) ?_
                        refine lv_icmp_le (tgt := 225) hx hb dX12_scan_218 (by decide) (fun c218 => ?_) (fun c218 => ?_)
                        ·
                          have i218 := ci_le (x := y_101) (y := 6) rfl (show (6 : Int32).toInt = 6 by decide) c218
                          refine lv_iconst (v := 2) hx hb dX12_scan_225 (by decide) ?_
                          refine cs_put F St 0 rfl rfl inX12 tyX12_ok nmX12 8 (by decide) kf_X12_31 rfl rfl rfl (Nat.le_of_ble_eq_true rfl) (w' := [(h, .inr (12, [.ref (a 0), .ref (a 1), .ref (a 2), .ref (a 3), .int v_taped, .int v_size, .int bh, .int b3, .int 2, .int vl, .int v_fault, .int v_faultAt, .ref (a 4), .int v_clock, .int v_coin, .int v_loan, .int v_matched, .int v_taxed, .int v_paidStages, .int v_grown, .int v_pledges, .int v_sums, .int v_stages, .int v_isStopped, .ref (a 5), .ref (a 6), .ref (a 7), .ref (a 8), .ref (a 9), .ref (a 10), .ref (a 11), .ref (a 12), .ref (a 13), .ref (a 14), .ref (a 15), .ref (a 16), .ref (a 17), .ref (a 18), .ref (a 19), .ref (a 20), .ref (a 21), .ref (a 22), .ref (a 23), .ref (a 24), .ref (a 25), .ref (a 26), .ref (a 27), .ref (a 28), .ref (a 29), .ref (a 30), .int v_begun, .ref (a 31), .ref (a 32)])), ((a 3), .inl ((d 3), 400, .inl f_tape))]) rfl dX12_scan_226 (fun H locs St => ?_)
                          refine lv_goto (tgt := 257) hx hb dX12_scan_229 (by decide) ?_
                          exact cs_vret F hr hlk hQ St (bh, b3, 2, vl) ⟨⟨by omega, by omega, by omega, by omega⟩, Or.inr (by omega)⟩ [0, 1] rfl (by decide) [] rfl (by decide) (by decide) dX12_scan_257
                        ·
                          have i218 := ci_nle (x := y_101) (y := 6) rfl (show (6 : Int32).toInt = 6 by decide) c218
                          refine lv_iconst (v := 4) hx hb dX12_scan_221 (by decide) ?_
                          refine lv_goto (tgt := 226) hx hb dX12_scan_222 (by decide) ?_
                          refine cs_put F St 0 rfl rfl inX12 tyX12_ok nmX12 8 (by decide) kf_X12_31 rfl rfl rfl (Nat.le_of_ble_eq_true rfl) (w' := [(h, .inr (12, [.ref (a 0), .ref (a 1), .ref (a 2), .ref (a 3), .int v_taped, .int v_size, .int bh, .int b3, .int 4, .int vl, .int v_fault, .int v_faultAt, .ref (a 4), .int v_clock, .int v_coin, .int v_loan, .int v_matched, .int v_taxed, .int v_paidStages, .int v_grown, .int v_pledges, .int v_sums, .int v_stages, .int v_isStopped, .ref (a 5), .ref (a 6), .ref (a 7), .ref (a 8), .ref (a 9), .ref (a 10), .ref (a 11), .ref (a 12), .ref (a 13), .ref (a 14), .ref (a 15), .ref (a 16), .ref (a 17), .ref (a 18), .ref (a 19), .ref (a 20), .ref (a 21), .ref (a 22), .ref (a 23), .ref (a 24), .ref (a 25), .ref (a 26), .ref (a 27), .ref (a 28), .ref (a 29), .ref (a 30), .int v_begun, .ref (a 31), .ref (a 32)])), ((a 3), .inl ((d 3), 400, .inl f_tape))]) rfl dX12_scan_226 (fun H locs St => ?_)
                          refine lv_goto (tgt := 257) hx hb dX12_scan_229 (by decide) ?_
                          exact cs_vret F hr hlk hQ St (bh, b3, 4, vl) ⟨⟨by omega, by omega, by omega, by omega⟩, Or.inr (by omega)⟩ [0, 1] rfl (by decide) [] rfl (by decide) (by decide) dX12_scan_257
                  exact lp142 401 bh 0 _ _ _ ⟨by omega, by omega, Or.inr rfl⟩ (by omega) St (lv_sub hl [0, 1] rfl)
                ·
                  subst r_75
                  have St : cS G k [(h, .inr (12, [.ref (a 0), .ref (a 1), .ref (a 2), .ref (a 3), .int v_taped, .int v_size, .int bh, .int bh, .int v_hand, .int v_value, .int v_fault, .int v_faultAt, .ref (a 4), .int v_clock, .int v_coin, .int v_loan, .int v_matched, .int v_taxed, .int v_paidStages, .int v_grown, .int v_pledges, .int v_sums, .int v_stages, .int v_isStopped, .ref (a 5), .ref (a 6), .ref (a 7), .ref (a 8), .ref (a 9), .ref (a 10), .ref (a 11), .ref (a 12), .ref (a 13), .ref (a 14), .ref (a 15), .ref (a 16), .ref (a 17), .ref (a 18), .ref (a 19), .ref (a 20), .ref (a 21), .ref (a 22), .ref (a 23), .ref (a 24), .ref (a 25), .ref (a 26), .ref (a 27), .ref (a 28), .ref (a 29), .ref (a 30), .int v_begun, .ref (a 31), .ref (a 32)])), ((a 3), .inl ((d 3), 400, .inl f_tape))] [((d 3), .byte)] A s H locs := St
                  refine lv_if_eq (tgt := 232) hx hb dX12_scan_134 (by decide) (fun c134 => ?_) (fun c134 => ?_)
                  rotate_left
                  · exact absurd (by decide) c134
                  refine lv_aload_n hx hb dX12_scan_232 rfl (lv_at hl 1 rfl) ?_
                  refine lv_iload_n hx hb dX12_scan_233 rfl (lv_at hl 0 rfl) ?_
                  refine lv_bipush (v := 59) hx hb dX12_scan_234 (by decide) ?_
                  refine lv_icmp_ne (tgt := 243) hx hb dX12_scan_236 (by decide) (fun c236 => ?_) (fun c236 => ?_)
                  ·
                    have i236 := ci_ne (x := r_54) (y := 59) rfl (show (59 : Int32).toInt = 59 by decide) c236
                    refine lv_iconst (v := 4) hx hb dX12_scan_243 (by decide) ?_
                    refine cs_put F St 0 rfl rfl inX12 tyX12_ok nmX12 8 (by decide) kf_X12_31 rfl rfl rfl (Nat.le_of_ble_eq_true rfl) (w' := [(h, .inr (12, [.ref (a 0), .ref (a 1), .ref (a 2), .ref (a 3), .int v_taped, .int v_size, .int bh, .int bh, .int 4, .int v_value, .int v_fault, .int v_faultAt, .ref (a 4), .int v_clock, .int v_coin, .int v_loan, .int v_matched, .int v_taxed, .int v_paidStages, .int v_grown, .int v_pledges, .int v_sums, .int v_stages, .int v_isStopped, .ref (a 5), .ref (a 6), .ref (a 7), .ref (a 8), .ref (a 9), .ref (a 10), .ref (a 11), .ref (a 12), .ref (a 13), .ref (a 14), .ref (a 15), .ref (a 16), .ref (a 17), .ref (a 18), .ref (a 19), .ref (a 20), .ref (a 21), .ref (a 22), .ref (a 23), .ref (a 24), .ref (a 25), .ref (a 26), .ref (a 27), .ref (a 28), .ref (a 29), .ref (a 30), .int v_begun, .ref (a 31), .ref (a 32)])), ((a 3), .inl ((d 3), 400, .inl f_tape))]) rfl dX12_scan_244 (fun H locs St => ?_)
                    refine lv_aload_n hx hb dX12_scan_247 rfl (lv_at hl 1 rfl) ?_
                    refine lv_dup hx hb dX12_scan_248 rfl ?_
                    refine cs_get F St 0 rfl rfl inX12 7 (by decide) kf_X12_24 rfl dX12_scan_249 ?_
                    refine lv_iconst (v := 1) hx hb dX12_scan_252 (by decide) ?_
                    refine lv_iadd hx hb dX12_scan_253 ?_
                    refine lv_topi (fun y_102 ey_102 => ?_)
                    have jy_102 := ci_add (x := bh) (y := 1) rfl (show (1 : Int32).toInt = 1 by decide) ey_102
                    refine cs_put F St 0 rfl rfl inX12 tyX12_ok nmX12 7 (by decide) kf_X12_24 rfl rfl rfl (Nat.le_of_ble_eq_true rfl) (w' := [(h, .inr (12, [.ref (a 0), .ref (a 1), .ref (a 2), .ref (a 3), .int v_taped, .int v_size, .int bh, .int y_102, .int 4, .int v_value, .int v_fault, .int v_faultAt, .ref (a 4), .int v_clock, .int v_coin, .int v_loan, .int v_matched, .int v_taxed, .int v_paidStages, .int v_grown, .int v_pledges, .int v_sums, .int v_stages, .int v_isStopped, .ref (a 5), .ref (a 6), .ref (a 7), .ref (a 8), .ref (a 9), .ref (a 10), .ref (a 11), .ref (a 12), .ref (a 13), .ref (a 14), .ref (a 15), .ref (a 16), .ref (a 17), .ref (a 18), .ref (a 19), .ref (a 20), .ref (a 21), .ref (a 22), .ref (a 23), .ref (a 24), .ref (a 25), .ref (a 26), .ref (a 27), .ref (a 28), .ref (a 29), .ref (a 30), .int v_begun, .ref (a 31), .ref (a 32)])), ((a 3), .inl ((d 3), 400, .inl f_tape))]) rfl dX12_scan_254 (fun H locs St => ?_)
                    exact cs_vret F hr hlk hQ St (bh, y_102, 4, v_value) ⟨⟨by omega, by omega, by omega, by omega⟩, Or.inr (by omega)⟩ [0, 1] rfl (by decide) [] rfl (by decide) (by decide) dX12_scan_257
                  ·
                    have i236 := ci_eq (x := r_54) (y := 59) rfl (show (59 : Int32).toInt = 59 by decide) c236
                    refine lv_iconst (v := 3) hx hb dX12_scan_239 (by decide) ?_
                    refine lv_goto (tgt := 244) hx hb dX12_scan_240 (by decide) ?_
                    refine cs_put F St 0 rfl rfl inX12 tyX12_ok nmX12 8 (by decide) kf_X12_31 rfl rfl rfl (Nat.le_of_ble_eq_true rfl) (w' := [(h, .inr (12, [.ref (a 0), .ref (a 1), .ref (a 2), .ref (a 3), .int v_taped, .int v_size, .int bh, .int bh, .int 3, .int v_value, .int v_fault, .int v_faultAt, .ref (a 4), .int v_clock, .int v_coin, .int v_loan, .int v_matched, .int v_taxed, .int v_paidStages, .int v_grown, .int v_pledges, .int v_sums, .int v_stages, .int v_isStopped, .ref (a 5), .ref (a 6), .ref (a 7), .ref (a 8), .ref (a 9), .ref (a 10), .ref (a 11), .ref (a 12), .ref (a 13), .ref (a 14), .ref (a 15), .ref (a 16), .ref (a 17), .ref (a 18), .ref (a 19), .ref (a 20), .ref (a 21), .ref (a 22), .ref (a 23), .ref (a 24), .ref (a 25), .ref (a 26), .ref (a 27), .ref (a 28), .ref (a 29), .ref (a 30), .int v_begun, .ref (a 31), .ref (a 32)])), ((a 3), .inl ((d 3), 400, .inl f_tape))]) rfl dX12_scan_244 (fun H locs St => ?_)
                    refine lv_aload_n hx hb dX12_scan_247 rfl (lv_at hl 1 rfl) ?_
                    refine lv_dup hx hb dX12_scan_248 rfl ?_
                    refine cs_get F St 0 rfl rfl inX12 7 (by decide) kf_X12_24 rfl dX12_scan_249 ?_
                    refine lv_iconst (v := 1) hx hb dX12_scan_252 (by decide) ?_
                    refine lv_iadd hx hb dX12_scan_253 ?_
                    refine lv_topi (fun y_103 ey_103 => ?_)
                    have jy_103 := ci_add (x := bh) (y := 1) rfl (show (1 : Int32).toInt = 1 by decide) ey_103
                    refine cs_put F St 0 rfl rfl inX12 tyX12_ok nmX12 7 (by decide) kf_X12_24 rfl rfl rfl (Nat.le_of_ble_eq_true rfl) (w' := [(h, .inr (12, [.ref (a 0), .ref (a 1), .ref (a 2), .ref (a 3), .int v_taped, .int v_size, .int bh, .int y_103, .int 3, .int v_value, .int v_fault, .int v_faultAt, .ref (a 4), .int v_clock, .int v_coin, .int v_loan, .int v_matched, .int v_taxed, .int v_paidStages, .int v_grown, .int v_pledges, .int v_sums, .int v_stages, .int v_isStopped, .ref (a 5), .ref (a 6), .ref (a 7), .ref (a 8), .ref (a 9), .ref (a 10), .ref (a 11), .ref (a 12), .ref (a 13), .ref (a 14), .ref (a 15), .ref (a 16), .ref (a 17), .ref (a 18), .ref (a 19), .ref (a 20), .ref (a 21), .ref (a 22), .ref (a 23), .ref (a 24), .ref (a 25), .ref (a 26), .ref (a 27), .ref (a 28), .ref (a 29), .ref (a 30), .int v_begun, .ref (a 31), .ref (a 32)])), ((a 3), .inl ((d 3), 400, .inl f_tape))]) rfl dX12_scan_254 (fun H locs St => ?_)
                    exact cs_vret F hr hlk hQ St (bh, y_103, 3, v_value) ⟨⟨by omega, by omega, by omega, by omega⟩, Or.inr (by omega)⟩ [0, 1] rfl (by decide) [] rfl (by decide) (by decide) dX12_scan_257
            ·
              have i77 := ci_eq (x := bh) (y := v_size) rfl rfl c77
              refine lv_aload_n hx hb dX12_scan_80 rfl (lv_at hl 1 rfl) ?_
              refine lv_iconst (v := 0) hx hb dX12_scan_81 (by decide) ?_
              refine cs_put F St 0 rfl rfl inX12 tyX12_ok nmX12 8 (by decide) kf_X12_31 rfl rfl rfl (Nat.le_of_ble_eq_true rfl) (w' := [(h, .inr (12, [.ref (a 0), .ref (a 1), .ref (a 2), .ref (a 3), .int v_taped, .int v_size, .int bh, .int bh, .int 0, .int v_value, .int v_fault, .int v_faultAt, .ref (a 4), .int v_clock, .int v_coin, .int v_loan, .int v_matched, .int v_taxed, .int v_paidStages, .int v_grown, .int v_pledges, .int v_sums, .int v_stages, .int v_isStopped, .ref (a 5), .ref (a 6), .ref (a 7), .ref (a 8), .ref (a 9), .ref (a 10), .ref (a 11), .ref (a 12), .ref (a 13), .ref (a 14), .ref (a 15), .ref (a 16), .ref (a 17), .ref (a 18), .ref (a 19), .ref (a 20), .ref (a 21), .ref (a 22), .ref (a 23), .ref (a 24), .ref (a 25), .ref (a 26), .ref (a 27), .ref (a 28), .ref (a 29), .ref (a 30), .int v_begun, .ref (a 31), .ref (a 32)])), ((a 3), .inl ((d 3), 400, .inl f_tape))]) rfl dX12_scan_82 (fun H locs St => ?_)
              refine lv_goto (tgt := 257) hx hb dX12_scan_85 (by decide) ?_
              exact cs_vret F hr hlk hQ St (bh, bh, 0, v_value) ⟨⟨by omega, by omega, by omega, by omega⟩, Or.inl (by decide)⟩ [0, 1] rfl (by decide) [] rfl (by decide) (by decide) dX12_scan_257
          ·
            have i36 := ci_eq (x := y_53) (y := 10) rfl (show (10 : Int32).toInt = 10 by decide) c36
            refine lv_aload_n hx hb dX12_scan_39 rfl (lv_at hl 0 rfl) ?_
            refine lv_dup hx hb dX12_scan_40 rfl ?_
            refine cs_get F St 0 rfl rfl inX12 7 (by decide) kf_X12_24 rfl dX12_scan_41 ?_
            refine lv_iconst (v := 1) hx hb dX12_scan_44 (by decide) ?_
            refine lv_iadd hx hb dX12_scan_45 ?_
            refine lv_topi (fun y_104 ey_104 => ?_)
            have jy_104 := ci_add (x := bh) (y := 1) rfl (show (1 : Int32).toInt = 1 by decide) ey_104
            refine cs_put F St 0 rfl rfl inX12 tyX12_ok nmX12 7 (by decide) kf_X12_24 rfl rfl rfl (Nat.le_of_ble_eq_true rfl) (w' := [(h, .inr (12, [.ref (a 0), .ref (a 1), .ref (a 2), .ref (a 3), .int v_taped, .int v_size, .int v_from, .int y_104, .int v_hand, .int v_value, .int v_fault, .int v_faultAt, .ref (a 4), .int v_clock, .int v_coin, .int v_loan, .int v_matched, .int v_taxed, .int v_paidStages, .int v_grown, .int v_pledges, .int v_sums, .int v_stages, .int v_isStopped, .ref (a 5), .ref (a 6), .ref (a 7), .ref (a 8), .ref (a 9), .ref (a 10), .ref (a 11), .ref (a 12), .ref (a 13), .ref (a 14), .ref (a 15), .ref (a 16), .ref (a 17), .ref (a 18), .ref (a 19), .ref (a 20), .ref (a 21), .ref (a 22), .ref (a 23), .ref (a 24), .ref (a 25), .ref (a 26), .ref (a 27), .ref (a 28), .ref (a 29), .ref (a 30), .int v_begun, .ref (a 31), .ref (a 32)])), ((a 3), .inl ((d 3), 400, .inl f_tape))]) rfl dX12_scan_46 (fun H locs St => ?_)
            refine lv_goto (tgt := 0) hx hb dX12_scan_49 (by decide) ?_
            exact ih y_104 _ _ _ ⟨by omega, by omega⟩ (by omega) St (lv_sub hl [0] rfl)
  exact lp0 401 v_behind _ _ _ ⟨by omega, by omega⟩ (by omega) St (lv_sub hl [0] rfl)
