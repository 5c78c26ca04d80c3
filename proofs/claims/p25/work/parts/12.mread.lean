set_option maxHeartbeats 4000000 in
set_option maxRecDepth 100000 in
theorem c12_in (l : Launch) (G : va_G) (k : Nat → Nat) (sz : Nat) (x : Int64) (lo : Int64) (hi : Int64) (iv : Int) (ilo : Int) (ihi : Int) (ev : x.toInt = iv) (elo : lo.toInt = ilo) (ehi : hi.toInt = ihi) : Met l yX12_in (Cond.code yX12_in cX12_in 6 (some .boolean) :: tb) ({ frames := 0, cells := 0, slots := 0, locals := 0 } : Room) (va_Pc [.long x, .long lo, .long hi] (cP G k [] [] sz)) (va_Qi (fun (r : Int32) (_ : Unit) => ((r = 1) ∧ (ilo ≤ iv ∧ iv ≤ ihi)) ∨ ((r = 0) ∧ (¬ (ilo ≤ iv ∧ iv ≤ ihi)))) (cB G (fun (_ : Unit) => []) (fun (_ : Unit) => []) (va_A [] sz)) (va_A [] sz)) 0 0 (va_A [] sz) := by
  refine ofC_i (cc := cX12_in) (maxL := 6) (ret := (some .boolean)) (by decide) rfl (Nat.le_of_ble_eq_true rfl) ?_
  intro p e s m args below meth c A ls Q F hr hin hlk St hl hQ
  have hx := F.1
  have hb := F.2.1
  have hl : lv_has ls 6 [(0, .long x), (2, .long lo), (4, .long hi)] := hl
  have St : cS G k [] [] A s s.heap [] := St
  refine lv_lload_n hx hb dX12_in_0 rfl (lv_at hl 0 rfl) ?_
  refine lv_lload_n hx hb dX12_in_1 rfl (lv_at hl 1 rfl) ?_
  refine W.lcmp hx hb dX12_in_2 ?_
  refine lv_if_lt (tgt := 17) hx hb dX12_in_3 (by decide) (fun c3 => ?_) (fun c3 => ?_)
  ·
    have i3 := cl_lt (x := x) (y := lo) (u := iv) (v := ilo) ev elo ((lg_cmp_lt _ _).mp c3)
    refine lv_iconst (v := 0) hx hb dX12_in_17 (by decide) ?_
    exact cs_zret F hr hlk hQ St () (r := 0) rfl (Or.inr ⟨rfl, by omega⟩) [] rfl (by decide) [] rfl (by decide) (by decide) dX12_in_18
  ·
    have i3 := cl_nlt (x := x) (y := lo) (u := iv) (v := ilo) ev elo (fun q => c3 ((lg_cmp_lt _ _).mpr q))
    refine lv_lload_n hx hb dX12_in_6 rfl (lv_at hl 0 rfl) ?_
    refine lv_lload hx hb dX12_in_7 (lv_at hl 2 rfl) ?_
    refine W.lcmp hx hb dX12_in_9 ?_
    refine lv_if_gt (tgt := 17) hx hb dX12_in_10 (by decide) (fun c10 => ?_) (fun c10 => ?_)
    ·
      have i10 := cl_lt (x := hi) (y := x) (u := ihi) (v := iv) ehi ev ((lg_cmp_gt _ _).mp c10)
      refine lv_iconst (v := 0) hx hb dX12_in_17 (by decide) ?_
      exact cs_zret F hr hlk hQ St () (r := 0) rfl (Or.inr ⟨rfl, by omega⟩) [] rfl (by decide) [] rfl (by decide) (by decide) dX12_in_18
    ·
      have i10 := cl_nlt (x := hi) (y := x) (u := ihi) (v := iv) ehi ev (fun q => c10 ((lg_cmp_gt _ _).mpr q))
      refine lv_iconst (v := 1) hx hb dX12_in_13 (by decide) ?_
      refine lv_goto (tgt := 18) hx hb dX12_in_14 (by decide) ?_
      exact cs_zret F hr hlk hQ St () (r := 1) rfl (Or.inl ⟨rfl, by omega⟩) [] rfl (by decide) [] rfl (by decide) (by decide) dX12_in_18
set_option maxHeartbeats 4000000 in
set_option maxRecDepth 100000 in
theorem c12_isGiver (l : Launch) (G : va_G) (k : Nat → Nat) (sz : Nat) (g : Int32) : Met l yX12_isGiver (Cond.code yX12_isGiver cX12_isGiver 1 (some .boolean) :: tb) ({ frames := 1, cells := 0, slots := 0, locals := 25 } : Room) (va_Pc [.int g] (cP G k [] [] sz)) (va_Qi (fun (r : Int32) (_ : Unit) => ((r = 1) ∧ (0 ≤ g.toInt ∧ g.toInt ≤ 29)) ∨ ((r = 0) ∧ (¬ (0 ≤ g.toInt ∧ g.toInt ≤ 29)))) (cB G (fun (_ : Unit) => []) (fun (_ : Unit) => []) (va_A [] sz)) (va_A [] sz)) 0 0 (va_A [] sz) := by
  refine ofC_i (cc := cX12_isGiver) (maxL := 1) (ret := (some .boolean)) (by decide) rfl (Nat.le_of_ble_eq_true rfl) ?_
  intro p e s m args below meth c A ls Q F hr hin hlk St hl hQ
  have hx := F.1
  have hb := F.2.1
  have hl : lv_has ls 1 [(0, .int g)] := hl
  have St : cS G k [] [] A s s.heap [] := St
  refine lv_iload_n hx hb dX12_isGiver_0 rfl (lv_at hl 0 rfl) ?_
  refine lv_i2l (v := g.toInt64) hx hb dX12_isGiver_1 rfl ?_
  refine lv_lconst (v := 0) hx hb dX12_isGiver_2 (by decide) ?_
  refine lv_ldc2 (v := 29) hx hb F.2.2.2.1 (F.2.2.2.2 _ kk_X12_214) dX12_isGiver_3 ?_
  refine cs_i St [] [] (wc := []) (wr := []) rfl rfl (by decide) (by decide) (va_runS (As := [.long g.toInt64, .long 0, .long 29]) (rest := []) F (c12_in l G k _ g.toInt64 0 29 g.toInt 0 29 (Int32.toInt_toInt64 g) (by decide) (by decide)) (cwSt F mf_X12_in km_X12_58 rfl rfl ⟨Nat.le_of_ble_eq_true rfl, Nat.le_of_ble_eq_true rfl⟩) (cs_pre St [] rfl (by decide) [] rfl) rfl rfl hl.1 rfl (lv_room (Nat.le_of_ble_eq_true rfl)) dX12_isGiver_6 ⟨Nat.le_of_ble_eq_true rfl, Nat.le_of_ble_eq_true rfl⟩) (fun r_1 u_2 H locs hw St => ?_)
  try dsimp only at hw
  rcases hw with ⟨z_3, hf_4⟩ | ⟨z_5, hf_6⟩
  ·
    subst r_1
    have St : cS G k [] [] A s H locs := St
    exact cs_zret F hr hlk hQ St () (r := 1) rfl (Or.inl ⟨rfl, by omega⟩) [] rfl (by decide) [] rfl (by decide) (by decide) dX12_isGiver_9
  ·
    subst r_1
    have St : cS G k [] [] A s H locs := St
    exact cs_zret F hr hlk hQ St () (r := 0) rfl (Or.inr ⟨rfl, by omega⟩) [] rfl (by decide) [] rfl (by decide) (by decide) dX12_isGiver_9
set_option maxHeartbeats 4000000 in
set_option maxRecDepth 100000 in
theorem c12_isMonth (l : Launch) (G : va_G) (k : Nat → Nat) (sz : Nat) (g : Int32) : Met l yX12_isMonth (Cond.code yX12_isMonth cX12_isMonth 1 (some .boolean) :: tb) ({ frames := 1, cells := 0, slots := 0, locals := 25 } : Room) (va_Pc [.int g] (cP G k [] [] sz)) (va_Qi (fun (r : Int32) (_ : Unit) => ((r = 1) ∧ (0 ≤ g.toInt ∧ g.toInt ≤ 119)) ∨ ((r = 0) ∧ (¬ (0 ≤ g.toInt ∧ g.toInt ≤ 119)))) (cB G (fun (_ : Unit) => []) (fun (_ : Unit) => []) (va_A [] sz)) (va_A [] sz)) 0 0 (va_A [] sz) := by
  refine ofC_i (cc := cX12_isMonth) (maxL := 1) (ret := (some .boolean)) (by decide) rfl (Nat.le_of_ble_eq_true rfl) ?_
  intro p e s m args below meth c A ls Q F hr hin hlk St hl hQ
  have hx := F.1
  have hb := F.2.1
  have hl : lv_has ls 1 [(0, .int g)] := hl
  have St : cS G k [] [] A s s.heap [] := St
  refine lv_iload_n hx hb dX12_isMonth_0 rfl (lv_at hl 0 rfl) ?_
  refine lv_i2l (v := g.toInt64) hx hb dX12_isMonth_1 rfl ?_
  refine lv_lconst (v := 0) hx hb dX12_isMonth_2 (by decide) ?_
  refine lv_ldc2 (v := 119) hx hb F.2.2.2.1 (F.2.2.2.2 _ kk_X12_216) dX12_isMonth_3 ?_
  refine cs_i St [] [] (wc := []) (wr := []) rfl rfl (by decide) (by decide) (va_runS (As := [.long g.toInt64, .long 0, .long 119]) (rest := []) F (c12_in l G k _ g.toInt64 0 119 g.toInt 0 119 (Int32.toInt_toInt64 g) (by decide) (by decide)) (cwSt F mf_X12_in km_X12_58 rfl rfl ⟨Nat.le_of_ble_eq_true rfl, Nat.le_of_ble_eq_true rfl⟩) (cs_pre St [] rfl (by decide) [] rfl) rfl rfl hl.1 rfl (lv_room (Nat.le_of_ble_eq_true rfl)) dX12_isMonth_6 ⟨Nat.le_of_ble_eq_true rfl, Nat.le_of_ble_eq_true rfl⟩) (fun r_1 u_2 H locs hw St => ?_)
  try dsimp only at hw
  rcases hw with ⟨z_3, hf_4⟩ | ⟨z_5, hf_6⟩
  ·
    subst r_1
    have St : cS G k [] [] A s H locs := St
    exact cs_zret F hr hlk hQ St () (r := 1) rfl (Or.inl ⟨rfl, by omega⟩) [] rfl (by decide) [] rfl (by decide) (by decide) dX12_isMonth_9
  ·
    subst r_1
    have St : cS G k [] [] A s H locs := St
    exact cs_zret F hr hlk hQ St () (r := 0) rfl (Or.inr ⟨rfl, by omega⟩) [] rfl (by decide) [] rfl (by decide) (by decide) dX12_isMonth_9
set_option maxHeartbeats 4000000 in
set_option maxRecDepth 100000 in
theorem c12_isLetter (l : Launch) (G : va_G) (k : Nat → Nat) (sz : Nat) (x : Int32) : Met l yX12_isLetter (Cond.code yX12_isLetter cX12_isLetter 1 (some .boolean) :: tb) ({ frames := 0, cells := 0, slots := 0, locals := 0 } : Room) (va_Pc [.int x] (cP G k [] [] sz)) (va_Qi (fun (r : Int32) (_ : Unit) => ((r = 1) ∧ (97 ≤ x.toInt ∧ x.toInt ≤ 122)) ∨ ((r = 0) ∧ (¬ (97 ≤ x.toInt ∧ x.toInt ≤ 122)))) (cB G (fun (_ : Unit) => []) (fun (_ : Unit) => []) (va_A [] sz)) (va_A [] sz)) 0 0 (va_A [] sz) := by
  refine ofC_i (cc := cX12_isLetter) (maxL := 1) (ret := (some .boolean)) (by decide) rfl (Nat.le_of_ble_eq_true rfl) ?_
  intro p e s m args below meth c A ls Q F hr hin hlk St hl hQ
  have hx := F.1
  have hb := F.2.1
  have hl : lv_has ls 1 [(0, .int x)] := hl
  have St : cS G k [] [] A s s.heap [] := St
  refine lv_iload_n hx hb dX12_isLetter_0 rfl (lv_at hl 0 rfl) ?_
  refine lv_bipush (v := 97) hx hb dX12_isLetter_1 (by decide) ?_
  refine lv_icmp_lt (tgt := 16) hx hb dX12_isLetter_3 (by decide) (fun c3 => ?_) (fun c3 => ?_)
  ·
    have i3 := ci_lt (x := x) (y := 97) rfl (show (97 : Int32).toInt = 97 by decide) c3
    refine lv_iconst (v := 0) hx hb dX12_isLetter_16 (by decide) ?_
    exact cs_zret F hr hlk hQ St () (r := 0) rfl (Or.inr ⟨rfl, by omega⟩) [] rfl (by decide) [] rfl (by decide) (by decide) dX12_isLetter_17
  ·
    have i3 := ci_nlt (x := x) (y := 97) rfl (show (97 : Int32).toInt = 97 by decide) c3
    refine lv_iload_n hx hb dX12_isLetter_6 rfl (lv_at hl 0 rfl) ?_
    refine lv_bipush (v := 122) hx hb dX12_isLetter_7 (by decide) ?_
    refine lv_icmp_gt (tgt := 16) hx hb dX12_isLetter_9 (by decide) (fun c9 => ?_) (fun c9 => ?_)
    ·
      have i9 := ci_lt (x := 122) (y := x) (show (122 : Int32).toInt = 122 by decide) rfl c9
      refine lv_iconst (v := 0) hx hb dX12_isLetter_16 (by decide) ?_
      exact cs_zret F hr hlk hQ St () (r := 0) rfl (Or.inr ⟨rfl, by omega⟩) [] rfl (by decide) [] rfl (by decide) (by decide) dX12_isLetter_17
    ·
      have i9 := ci_nlt (x := 122) (y := x) (show (122 : Int32).toInt = 122 by decide) rfl c9
      refine lv_iconst (v := 1) hx hb dX12_isLetter_12 (by decide) ?_
      refine lv_goto (tgt := 17) hx hb dX12_isLetter_13 (by decide) ?_
      exact cs_zret F hr hlk hQ St () (r := 1) rfl (Or.inl ⟨rfl, by omega⟩) [] rfl (by decide) [] rfl (by decide) (by decide) dX12_isLetter_17
set_option maxHeartbeats 4000000 in
set_option maxRecDepth 100000 in
theorem c12_isDigit (l : Launch) (G : va_G) (k : Nat → Nat) (sz : Nat) (x : Int32) : Met l yX12_isDigit (Cond.code yX12_isDigit cX12_isDigit 1 (some .boolean) :: tb) ({ frames := 0, cells := 0, slots := 0, locals := 0 } : Room) (va_Pc [.int x] (cP G k [] [] sz)) (va_Qi (fun (r : Int32) (_ : Unit) => ((r = 1) ∧ (48 ≤ x.toInt ∧ x.toInt ≤ 57)) ∨ ((r = 0) ∧ (¬ (48 ≤ x.toInt ∧ x.toInt ≤ 57)))) (cB G (fun (_ : Unit) => []) (fun (_ : Unit) => []) (va_A [] sz)) (va_A [] sz)) 0 0 (va_A [] sz) := by
  refine ofC_i (cc := cX12_isDigit) (maxL := 1) (ret := (some .boolean)) (by decide) rfl (Nat.le_of_ble_eq_true rfl) ?_
  intro p e s m args below meth c A ls Q F hr hin hlk St hl hQ
  have hx := F.1
  have hb := F.2.1
  have hl : lv_has ls 1 [(0, .int x)] := hl
  have St : cS G k [] [] A s s.heap [] := St
  refine lv_iload_n hx hb dX12_isDigit_0 rfl (lv_at hl 0 rfl) ?_
  refine lv_bipush (v := 48) hx hb dX12_isDigit_1 (by decide) ?_
  refine lv_icmp_lt (tgt := 16) hx hb dX12_isDigit_3 (by decide) (fun c3 => ?_) (fun c3 => ?_)
  ·
    have i3 := ci_lt (x := x) (y := 48) rfl (show (48 : Int32).toInt = 48 by decide) c3
    refine lv_iconst (v := 0) hx hb dX12_isDigit_16 (by decide) ?_
    exact cs_zret F hr hlk hQ St () (r := 0) rfl (Or.inr ⟨rfl, by omega⟩) [] rfl (by decide) [] rfl (by decide) (by decide) dX12_isDigit_17
  ·
    have i3 := ci_nlt (x := x) (y := 48) rfl (show (48 : Int32).toInt = 48 by decide) c3
    refine lv_iload_n hx hb dX12_isDigit_6 rfl (lv_at hl 0 rfl) ?_
    refine lv_bipush (v := 57) hx hb dX12_isDigit_7 (by decide) ?_
    refine lv_icmp_gt (tgt := 16) hx hb dX12_isDigit_9 (by decide) (fun c9 => ?_) (fun c9 => ?_)
    ·
      have i9 := ci_lt (x := 57) (y := x) (show (57 : Int32).toInt = 57 by decide) rfl c9
      refine lv_iconst (v := 0) hx hb dX12_isDigit_16 (by decide) ?_
      exact cs_zret F hr hlk hQ St () (r := 0) rfl (Or.inr ⟨rfl, by omega⟩) [] rfl (by decide) [] rfl (by decide) (by decide) dX12_isDigit_17
    ·
      have i9 := ci_nlt (x := 57) (y := x) (show (57 : Int32).toInt = 57 by decide) rfl c9
      refine lv_iconst (v := 1) hx hb dX12_isDigit_12 (by decide) ?_
      refine lv_goto (tgt := 17) hx hb dX12_isDigit_13 (by decide) ?_
      exact cs_zret F hr hlk hQ St () (r := 1) rfl (Or.inl ⟨rfl, by omega⟩) [] rfl (by decide) [] rfl (by decide) (by decide) dX12_isDigit_17
set_option maxHeartbeats 4000000 in
set_option maxRecDepth 100000 in
theorem m_byteAt (l : Launch) (G : va_G) (k : Nat → Nat) (sz : Nat) (h : Nat) (a : Nat → Nat) (d : Nat → ClassId) (v_taped : Int32) (v_size : Int32) (v_from : Int32) (v_behind : Int32) (v_hand : Int32) (v_value : Int32) (v_fault : Int32) (v_faultAt : Int32) (v_clock : Int32) (v_coin : Int32) (v_loan : Int32) (v_matched : Int32) (v_taxed : Int32) (v_paidStages : Int32) (v_grown : Int32) (v_pledges : Int32) (v_sums : Int32) (v_stages : Int32) (v_isStopped : Int32) (v_begun : Int32) (f_tape : Nat → Int32) (x : Int32) (hs0 : 0 ≤ v_size.toInt) (hs1 : v_size.toInt ≤ 400) (hx0 : 0 ≤ x.toInt) : Met l yX12_byteAt (Cond.code yX12_byteAt cX12_byteAt 2 (some .int) :: tb) ({ frames := 0, cells := 0, slots := 0, locals := 0 } : Room) (va_Pc [.ref h, .int x] (cP G k [(h, .inr (12, [.ref (a 0), .ref (a 1), .ref (a 2), .ref (a 3), .int v_taped, .int v_size, .int v_from, .int v_behind, .int v_hand, .int v_value, .int v_fault, .int v_faultAt, .ref (a 4), .int v_clock, .int v_coin, .int v_loan, .int v_matched, .int v_taxed, .int v_paidStages, .int v_grown, .int v_pledges, .int v_sums, .int v_stages, .int v_isStopped, .ref (a 5), .ref (a 6), .ref (a 7), .ref (a 8), .ref (a 9), .ref (a 10), .ref (a 11), .ref (a 12), .ref (a 13), .ref (a 14), .ref (a 15), .ref (a 16), .ref (a 17), .ref (a 18), .ref (a 19), .ref (a 20), .ref (a 21), .ref (a 22), .ref (a 23), .ref (a 24), .ref (a 25), .ref (a 26), .ref (a 27), .ref (a 28), .ref (a 29), .ref (a 30), .int v_begun, .ref (a 31), .ref (a 32)])), ((a 3), .inl ((d 3), 400, .inl f_tape))] [((d 3), .byte)] sz)) (va_Qi (fun (r : Int32) (_ : Unit) => (r = byA f_tape v_size x) ∧ (x.toInt < v_size.toInt ∨ r.toInt = 0)) (cB G (fun (_ : Unit) => [(h, .inr (12, [.ref (a 0), .ref (a 1), .ref (a 2), .ref (a 3), .int v_taped, .int v_size, .int v_from, .int v_behind, .int v_hand, .int v_value, .int v_fault, .int v_faultAt, .ref (a 4), .int v_clock, .int v_coin, .int v_loan, .int v_matched, .int v_taxed, .int v_paidStages, .int v_grown, .int v_pledges, .int v_sums, .int v_stages, .int v_isStopped, .ref (a 5), .ref (a 6), .ref (a 7), .ref (a 8), .ref (a 9), .ref (a 10), .ref (a 11), .ref (a 12), .ref (a 13), .ref (a 14), .ref (a 15), .ref (a 16), .ref (a 17), .ref (a 18), .ref (a 19), .ref (a 20), .ref (a 21), .ref (a 22), .ref (a 23), .ref (a 24), .ref (a 25), .ref (a 26), .ref (a 27), .ref (a 28), .ref (a 29), .ref (a 30), .int v_begun, .ref (a 31), .ref (a 32)])), ((a 3), .inl ((d 3), 400, .inl f_tape))]) (fun (_ : Unit) => []) (va_A [(h, .inr (12, [.ref (a 0), .ref (a 1), .ref (a 2), .ref (a 3), .int v_taped, .int v_size, .int v_from, .int v_behind, .int v_hand, .int v_value, .int v_fault, .int v_faultAt, .ref (a 4), .int v_clock, .int v_coin, .int v_loan, .int v_matched, .int v_taxed, .int v_paidStages, .int v_grown, .int v_pledges, .int v_sums, .int v_stages, .int v_isStopped, .ref (a 5), .ref (a 6), .ref (a 7), .ref (a 8), .ref (a 9), .ref (a 10), .ref (a 11), .ref (a 12), .ref (a 13), .ref (a 14), .ref (a 15), .ref (a 16), .ref (a 17), .ref (a 18), .ref (a 19), .ref (a 20), .ref (a 21), .ref (a 22), .ref (a 23), .ref (a 24), .ref (a 25), .ref (a 26), .ref (a 27), .ref (a 28), .ref (a 29), .ref (a 30), .int v_begun, .ref (a 31), .ref (a 32)])), ((a 3), .inl ((d 3), 400, .inl f_tape))] sz)) (va_A [(h, .inr (12, [.ref (a 0), .ref (a 1), .ref (a 2), .ref (a 3), .int v_taped, .int v_size, .int v_from, .int v_behind, .int v_hand, .int v_value, .int v_fault, .int v_faultAt, .ref (a 4), .int v_clock, .int v_coin, .int v_loan, .int v_matched, .int v_taxed, .int v_paidStages, .int v_grown, .int v_pledges, .int v_sums, .int v_stages, .int v_isStopped, .ref (a 5), .ref (a 6), .ref (a 7), .ref (a 8), .ref (a 9), .ref (a 10), .ref (a 11), .ref (a 12), .ref (a 13), .ref (a 14), .ref (a 15), .ref (a 16), .ref (a 17), .ref (a 18), .ref (a 19), .ref (a 20), .ref (a 21), .ref (a 22), .ref (a 23), .ref (a 24), .ref (a 25), .ref (a 26), .ref (a 27), .ref (a 28), .ref (a 29), .ref (a 30), .int v_begun, .ref (a 31), .ref (a 32)])), ((a 3), .inl ((d 3), 400, .inl f_tape))] sz)) 0 0 (va_A [(h, .inr (12, [.ref (a 0), .ref (a 1), .ref (a 2), .ref (a 3), .int v_taped, .int v_size, .int v_from, .int v_behind, .int v_hand, .int v_value, .int v_fault, .int v_faultAt, .ref (a 4), .int v_clock, .int v_coin, .int v_loan, .int v_matched, .int v_taxed, .int v_paidStages, .int v_grown, .int v_pledges, .int v_sums, .int v_stages, .int v_isStopped, .ref (a 5), .ref (a 6), .ref (a 7), .ref (a 8), .ref (a 9), .ref (a 10), .ref (a 11), .ref (a 12), .ref (a 13), .ref (a 14), .ref (a 15), .ref (a 16), .ref (a 17), .ref (a 18), .ref (a 19), .ref (a 20), .ref (a 21), .ref (a 22), .ref (a 23), .ref (a 24), .ref (a 25), .ref (a 26), .ref (a 27), .ref (a 28), .ref (a 29), .ref (a 30), .int v_begun, .ref (a 31), .ref (a 32)])), ((a 3), .inl ((d 3), 400, .inl f_tape))] sz) := by
  refine ofC_i (cc := cX12_byteAt) (maxL := 2) (ret := (some .int)) (by decide) rfl (Nat.le_of_ble_eq_true rfl) ?_
  intro p e s m args below meth c A ls Q F hr hin hlk St hl hQ
  have hx := F.1
  have hb := F.2.1
  have hl : lv_has ls 2 [(0, .ref h), (1, .int x)] := hl
  have St : cS G k [(h, .inr (12, [.ref (a 0), .ref (a 1), .ref (a 2), .ref (a 3), .int v_taped, .int v_size, .int v_from, .int v_behind, .int v_hand, .int v_value, .int v_fault, .int v_faultAt, .ref (a 4), .int v_clock, .int v_coin, .int v_loan, .int v_matched, .int v_taxed, .int v_paidStages, .int v_grown, .int v_pledges, .int v_sums, .int v_stages, .int v_isStopped, .ref (a 5), .ref (a 6), .ref (a 7), .ref (a 8), .ref (a 9), .ref (a 10), .ref (a 11), .ref (a 12), .ref (a 13), .ref (a 14), .ref (a 15), .ref (a 16), .ref (a 17), .ref (a 18), .ref (a 19), .ref (a 20), .ref (a 21), .ref (a 22), .ref (a 23), .ref (a 24), .ref (a 25), .ref (a 26), .ref (a 27), .ref (a 28), .ref (a 29), .ref (a 30), .int v_begun, .ref (a 31), .ref (a 32)])), ((a 3), .inl ((d 3), 400, .inl f_tape))] [((d 3), .byte)] A s s.heap [] := St
  refine lv_iload_n hx hb dX12_byteAt_0 rfl (lv_at hl 1 rfl) ?_
  refine lv_aload_n hx hb dX12_byteAt_1 rfl (lv_at hl 0 rfl) ?_
  refine cs_get F St 0 rfl rfl inX12 5 (by decide) kf_X12_17 rfl dX12_byteAt_2 ?_
  refine lv_icmp_ge (tgt := 21) hx hb dX12_byteAt_5 (by decide) (fun c5 => ?_) (fun c5 => ?_)
  ·
    have i5 := ci_le (x := v_size) (y := x) rfl rfl c5
    refine lv_iconst (v := 0) hx hb dX12_byteAt_21 (by decide) ?_
    exact cs_iret F hr hlk hQ St () (r := 0) ⟨byA_out (by omega), Or.inr (by decide)⟩ [0, 1] rfl (by decide) [] rfl (by decide) (by decide) dX12_byteAt_22
  ·
    have i5 := ci_nle (x := v_size) (y := x) rfl rfl c5
    refine lv_aload_n hx hb dX12_byteAt_8 rfl (lv_at hl 0 rfl) ?_
    refine cs_get F St 0 rfl rfl inX12 3 (by decide) kf_X12_20 rfl dX12_byteAt_9 ?_
    refine lv_iload_n hx hb dX12_byteAt_12 rfl (lv_at hl 1 rfl) ?_
    refine cs_bld F St 1 0 rfl rfl (vp_in_iff.mpr ⟨by omega, by omega⟩) dX12_byteAt_13 ?_
    refine lv_topi (fun y_1 ey_1 => ?_)
    refine lv_sipush (v := 255) hx hb dX12_byteAt_14 (by decide) ?_
    refine lv_iand hx hb dX12_byteAt_17 ?_
    refine lv_topi (fun y_2 ey_2 => ?_)
    refine lv_goto (tgt := 22) hx hb dX12_byteAt_18 (by decide) ?_
    exact cs_iret F hr hlk hQ St () (r := y_2) ⟨by rw [ey_2, ey_1]; exact byA_in (by omega), Or.inl (by omega)⟩ [0, 1] rfl (by decide) [] rfl (by decide) (by decide) dX12_byteAt_22
