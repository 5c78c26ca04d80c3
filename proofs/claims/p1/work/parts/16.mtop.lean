set_option maxHeartbeats 4000000 in
set_option maxRecDepth 100000 in
theorem c12_in (l : Launch) (G : va_G) (k : Nat → Nat) (sz : Nat) (v : Int64) (lo : Int64) (hi : Int64) (iv : Int) (ilo : Int) (ihi : Int) (ev : v.toInt = iv) (elo : lo.toInt = ilo) (ehi : hi.toInt = ihi) : Met l yX12_in (Cond.code yX12_in cX12_in 6 (some .boolean) :: tb) ({ frames := 0, cells := 0, slots := 0, locals := 0 } : Room) (va_Pc [.long v, .long lo, .long hi] (cP G k [] [] sz)) (va_Qi (fun (r : Int32) (_ : Unit) => ((r = 1) ∧ (ilo ≤ iv ∧ iv ≤ ihi)) ∨ ((r = 0) ∧ (¬ (ilo ≤ iv ∧ iv ≤ ihi)))) (cB G (fun (_ : Unit) => []) (fun (_ : Unit) => []) (va_A [] sz)) (va_A [] sz)) 0 0 (va_A [] sz) := by
  refine ofC_i (cc := cX12_in) (maxL := 6) (ret := (some .boolean)) (by decide) rfl (Nat.le_of_ble_eq_true rfl) ?_
  intro p e s m args below meth c A ls Q F hr hin hlk St hl hQ
  have hx := F.1
  have hb := F.2.1
  have hl : lv_has ls 6 [(0, .long v), (2, .long lo), (4, .long hi)] := hl
  have St : cS G k [] [] A s s.heap [] := St
  refine lv_lload_n hx hb dX12_in_0 rfl (lv_at hl 0 rfl) ?_
  refine lv_lload_n hx hb dX12_in_1 rfl (lv_at hl 1 rfl) ?_
  refine W.lcmp hx hb dX12_in_2 ?_
  refine lv_if_lt (tgt := 17) hx hb dX12_in_3 (by decide) (fun c3 => ?_) (fun c3 => ?_)
  ·
    have i3 := cl_lt (x := v) (y := lo) (u := iv) (v := ilo) ev elo ((lg_cmp_lt _ _).mp c3)
    refine lv_iconst (v := 0) hx hb dX12_in_17 (by decide) ?_
    exact cs_zret F hr hlk hQ St () (r := 0) rfl (Or.inr ⟨rfl, by omega⟩) [] rfl (by decide) [] rfl (by decide) (by decide) dX12_in_18
  ·
    have i3 := cl_nlt (x := v) (y := lo) (u := iv) (v := ilo) ev elo (fun q => c3 ((lg_cmp_lt _ _).mpr q))
    refine lv_lload_n hx hb dX12_in_6 rfl (lv_at hl 0 rfl) ?_
    refine lv_lload hx hb dX12_in_7 (lv_at hl 2 rfl) ?_
    refine W.lcmp hx hb dX12_in_9 ?_
    refine lv_if_gt (tgt := 17) hx hb dX12_in_10 (by decide) (fun c10 => ?_) (fun c10 => ?_)
    ·
      have i10 := cl_lt (x := hi) (y := v) (u := ihi) (v := iv) ehi ev ((lg_cmp_gt _ _).mp c10)
      refine lv_iconst (v := 0) hx hb dX12_in_17 (by decide) ?_
      exact cs_zret F hr hlk hQ St () (r := 0) rfl (Or.inr ⟨rfl, by omega⟩) [] rfl (by decide) [] rfl (by decide) (by decide) dX12_in_18
    ·
      have i10 := cl_nlt (x := hi) (y := v) (u := ihi) (v := iv) ehi ev (fun q => c10 ((lg_cmp_gt _ _).mpr q))
      refine lv_iconst (v := 1) hx hb dX12_in_13 (by decide) ?_
      refine lv_goto (tgt := 18) hx hb dX12_in_14 (by decide) ?_
      exact cs_zret F hr hlk hQ St () (r := 1) rfl (Or.inl ⟨rfl, by omega⟩) [] rfl (by decide) [] rfl (by decide) (by decide) dX12_in_18
set_option maxHeartbeats 4000000 in
set_option maxRecDepth 100000 in
theorem c12_isGiver (l : Launch) (G : va_G) (k : Nat → Nat) (sz : Nat) (g : Int32) : Met l yX12_isGiver (Cond.code yX12_isGiver cX12_isGiver 1 (some .boolean) :: tb) ({ frames := 1, cells := 0, slots := 0, locals := 25 } : Room) (va_Pc [.int g] (cP G k [] [] sz)) (va_Qi (fun (r : Int32) (_ : Unit) => ((r = 1) ∧ (0 ≤ g.toInt ∧ g.toInt ≤ 29)) ∨ ((r = 0) ∧ (¬ (0 ≤ g.toInt ∧ g.toInt ≤ 29)))) (cB G (fun (_ : Unit) => []) (fun (_ : Unit) => []) (va_A [] sz)) (va_A [] sz)) 0 0 (va_A [] sz) := by
  refine ofC_i (cc := cX12_isGiver) (maxL := 1) (ret := (some .boolean)) (by decide) rfl (Nat.le_of_ble_eq_true rfl) ?_
  intro p e s m args below meth c A ls Q F hr hin hlk St hl hQ
  have hx := F.1
  have hb := F.2.1
  have hl : lv_has ls 1 [(0, .int g)] := hl
  have St : cS G k [] [] A s s.heap [] := St
  refine lv_iload_n hx hb dX12_isGiver_0 rfl (lv_at hl 0 rfl) ?_
  refine lv_i2l (v := g.toInt64) hx hb dX12_isGiver_1 rfl ?_
  refine lv_lconst (v := 0) hx hb dX12_isGiver_2 (by decide) ?_
  refine lv_ldc2 (v := 29) hx hb F.2.2.2.1 (F.2.2.2.2 _ kk_X12_214) dX12_isGiver_3 ?_
  refine cs_i St [] [] (wc := []) (wr := []) rfl rfl (by decide) (by decide) (va_runS (As := [.long g.toInt64, .long 0, .long 29]) (rest := []) F (c12_in l G k _ g.toInt64 0 29 g.toInt 0 29 (Int32.toInt_toInt64 g) (by decide) (by decide)) (cwSt F mf_X12_in km_X12_58 rfl rfl ⟨Nat.le_of_ble_eq_true rfl, Nat.le_of_ble_eq_true rfl⟩) (cs_pre St [] rfl (by decide) [] rfl) rfl rfl hl.1 rfl (lv_room (Nat.le_of_ble_eq_true rfl)) dX12_isGiver_6 ⟨Nat.le_of_ble_eq_true rfl, Nat.le_of_ble_eq_true rfl⟩) (fun r_1 u_2 H locs hw St => ?_)
  try dsimp only at hw
  rcases hw with ⟨z_3, hf_4⟩ | ⟨z_5, hf_6⟩
  ·
    subst r_1
    have St : cS G k [] [] A s H locs := St
    exact cs_zret F hr hlk hQ St () (r := 1) rfl (Or.inl ⟨rfl, by omega⟩) [] rfl (by decide) [] rfl (by decide) (by decide) dX12_isGiver_9
  ·
    subst r_1
    have St : cS G k [] [] A s H locs := St
    exact cs_zret F hr hlk hQ St () (r := 0) rfl (Or.inr ⟨rfl, by omega⟩) [] rfl (by decide) [] rfl (by decide) (by decide) dX12_isGiver_9
set_option maxHeartbeats 4000000 in
set_option maxRecDepth 100000 in
theorem c12_isMonth (l : Launch) (G : va_G) (k : Nat → Nat) (sz : Nat) (g : Int32) : Met l yX12_isMonth (Cond.code yX12_isMonth cX12_isMonth 1 (some .boolean) :: tb) ({ frames := 1, cells := 0, slots := 0, locals := 25 } : Room) (va_Pc [.int g] (cP G k [] [] sz)) (va_Qi (fun (r : Int32) (_ : Unit) => ((r = 1) ∧ (0 ≤ g.toInt ∧ g.toInt ≤ 119)) ∨ ((r = 0) ∧ (¬ (0 ≤ g.toInt ∧ g.toInt ≤ 119)))) (cB G (fun (_ : Unit) => []) (fun (_ : Unit) => []) (va_A [] sz)) (va_A [] sz)) 0 0 (va_A [] sz) := by
  refine ofC_i (cc := cX12_isMonth) (maxL := 1) (ret := (some .boolean)) (by decide) rfl (Nat.le_of_ble_eq_true rfl) ?_
  intro p e s m args below meth c A ls Q F hr hin hlk St hl hQ
  have hx := F.1
  have hb := F.2.1
  have hl : lv_has ls 1 [(0, .int g)] := hl
  have St : cS G k [] [] A s s.heap [] := St
  refine lv_iload_n hx hb dX12_isMonth_0 rfl (lv_at hl 0 rfl) ?_
  refine lv_i2l (v := g.toInt64) hx hb dX12_isMonth_1 rfl ?_
  refine lv_lconst (v := 0) hx hb dX12_isMonth_2 (by decide) ?_
  refine lv_ldc2 (v := 119) hx hb F.2.2.2.1 (F.2.2.2.2 _ kk_X12_216) dX12_isMonth_3 ?_
  refine cs_i St [] [] (wc := []) (wr := []) rfl rfl (by decide) (by decide) (va_runS (As := [.long g.toInt64, .long 0, .long 119]) (rest := []) F (c12_in l G k _ g.toInt64 0 119 g.toInt 0 119 (Int32.toInt_toInt64 g) (by decide) (by decide)) (cwSt F mf_X12_in km_X12_58 rfl rfl ⟨Nat.le_of_ble_eq_true rfl, Nat.le_of_ble_eq_true rfl⟩) (cs_pre St [] rfl (by decide) [] rfl) rfl rfl hl.1 rfl (lv_room (Nat.le_of_ble_eq_true rfl)) dX12_isMonth_6 ⟨Nat.le_of_ble_eq_true rfl, Nat.le_of_ble_eq_true rfl⟩) (fun r_1 u_2 H locs hw St => ?_)
  try dsimp only at hw
  rcases hw with ⟨z_3, hf_4⟩ | ⟨z_5, hf_6⟩
  ·
    subst r_1
    have St : cS G k [] [] A s H locs := St
    exact cs_zret F hr hlk hQ St () (r := 1) rfl (Or.inl ⟨rfl, by omega⟩) [] rfl (by decide) [] rfl (by decide) (by decide) dX12_isMonth_9
  ·
    subst r_1
    have St : cS G k [] [] A s H locs := St
    exact cs_zret F hr hlk hQ St () (r := 0) rfl (Or.inr ⟨rfl, by omega⟩) [] rfl (by decide) [] rfl (by decide) (by decide) dX12_isMonth_9
set_option maxHeartbeats 4000000 in
set_option maxRecDepth 100000 in
theorem c12_lay (l : Launch) (G : va_G) (k : Nat → Nat) (sz : Nat) (h : Nat) (a : Nat → Nat) (d : Nat → ClassId) (x : Int32) (nn : Int32) (f : Nat → Int32) (h0 : 0 ≤ nn.toInt) (h1 : nn.toInt ≤ 396) : Met l yX12_lay (Cond.code yX12_lay cX12_lay 3 none :: tb) ({ frames := 0, cells := 0, slots := 0, locals := 0 } : Room) (va_Pc [.ref h, .int x] (cP G k [(h, .inr (12, [.ref (a 0), .ref (a 1), .ref (a 2), .ref (a 3), .int nn, .int 0, .int 0, .int 0, .int 0, .int 0, .int 0, .int (-1), .ref (a 4), .int 0, .int 0, .int 0, .int 0, .int 0, .int 0, .int 0, .int 0, .int 0, .int 0, .int 0, .ref (a 5), .ref (a 6), .ref (a 7), .ref (a 8), .ref (a 9), .ref (a 10), .ref (a 11), .ref (a 12), .ref (a 13), .ref (a 14), .ref (a 15), .ref (a 16), .ref (a 17), .ref (a 18), .ref (a 19), .ref (a 20), .ref (a 21), .ref (a 22), .ref (a 23), .ref (a 24), .ref (a 25), .ref (a 26), .ref (a 27), .ref (a 28), .ref (a 29), .ref (a 30), .int 0, .ref (a 31), .ref (a 32)])), ((a 3), .inl ((d 3), 400, .inl f))] [((d 3), .byte)] sz)) (va_Qv (fun (u : Int32 × (Nat → Int32)) => match u with | (n2, f2) => (n2 = nn + 4)) (cB G (fun u => match u with | (n2, f2) => [(h, .inr (12, [.ref (a 0), .ref (a 1), .ref (a 2), .ref (a 3), .int n2, .int 0, .int 0, .int 0, .int 0, .int 0, .int 0, .int (-1), .ref (a 4), .int 0, .int 0, .int 0, .int 0, .int 0, .int 0, .int 0, .int 0, .int 0, .int 0, .int 0, .ref (a 5), .ref (a 6), .ref (a 7), .ref (a 8), .ref (a 9), .ref (a 10), .ref (a 11), .ref (a 12), .ref (a 13), .ref (a 14), .ref (a 15), .ref (a 16), .ref (a 17), .ref (a 18), .ref (a 19), .ref (a 20), .ref (a 21), .ref (a 22), .ref (a 23), .ref (a 24), .ref (a 25), .ref (a 26), .ref (a 27), .ref (a 28), .ref (a 29), .ref (a 30), .int 0, .ref (a 31), .ref (a 32)])), ((a 3), .inl ((d 3), 400, .inl f2))]) (fun u => match u with | (n2, f2) => []) (va_A [(h, .inr (12, [.ref (a 0), .ref (a 1), .ref (a 2), .ref (a 3), .int nn, .int 0, .int 0, .int 0, .int 0, .int 0, .int 0, .int (-1), .ref (a 4), .int 0, .int 0, .int 0, .int 0, .int 0, .int 0, .int 0, .int 0, .int 0, .int 0, .int 0, .ref (a 5), .ref (a 6), .ref (a 7), .ref (a 8), .ref (a 9), .ref (a 10), .ref (a 11), .ref (a 12), .ref (a 13), .ref (a 14), .ref (a 15), .ref (a 16), .ref (a 17), .ref (a 18), .ref (a 19), .ref (a 20), .ref (a 21), .ref (a 22), .ref (a 23), .ref (a 24), .ref (a 25), .ref (a 26), .ref (a 27), .ref (a 28), .ref (a 29), .ref (a 30), .int 0, .ref (a 31), .ref (a 32)])), ((a 3), .inl ((d 3), 400, .inl f))] sz)) (va_A [(h, .inr (12, [.ref (a 0), .ref (a 1), .ref (a 2), .ref (a 3), .int nn, .int 0, .int 0, .int 0, .int 0, .int 0, .int 0, .int (-1), .ref (a 4), .int 0, .int 0, .int 0, .int 0, .int 0, .int 0, .int 0, .int 0, .int 0, .int 0, .int 0, .ref (a 5), .ref (a 6), .ref (a 7), .ref (a 8), .ref (a 9), .ref (a 10), .ref (a 11), .ref (a 12), .ref (a 13), .ref (a 14), .ref (a 15), .ref (a 16), .ref (a 17), .ref (a 18), .ref (a 19), .ref (a 20), .ref (a 21), .ref (a 22), .ref (a 23), .ref (a 24), .ref (a 25), .ref (a 26), .ref (a 27), .ref (a 28), .ref (a 29), .ref (a 30), .int 0, .ref (a 31), .ref (a 32)])), ((a 3), .inl ((d 3), 400, .inl f))] sz)) 0 0 (va_A [(h, .inr (12, [.ref (a 0), .ref (a 1), .ref (a 2), .ref (a 3), .int nn, .int 0, .int 0, .int 0, .int 0, .int 0, .int 0, .int (-1), .ref (a 4), .int 0, .int 0, .int 0, .int 0, .int 0, .int 0, .int 0, .int 0, .int 0, .int 0, .int 0, .ref (a 5), .ref (a 6), .ref (a 7), .ref (a 8), .ref (a 9), .ref (a 10), .ref (a 11), .ref (a 12), .ref (a 13), .ref (a 14), .ref (a 15), .ref (a 16), .ref (a 17), .ref (a 18), .ref (a 19), .ref (a 20), .ref (a 21), .ref (a 22), .ref (a 23), .ref (a 24), .ref (a 25), .ref (a 26), .ref (a 27), .ref (a 28), .ref (a 29), .ref (a 30), .int 0, .ref (a 31), .ref (a 32)])), ((a 3), .inl ((d 3), 400, .inl f))] sz) := by
  refine ofC_v (cc := cX12_lay) (maxL := 3) (ret := none) (by decide) rfl (Nat.le_of_ble_eq_true rfl) ?_
  intro p e s m args below meth c A ls Q F hr hin hlk St hl hQ
  have hx := F.1
  have hb := F.2.1
  have hl : lv_has ls 3 [(0, .ref h), (1, .int x)] := hl
  have St : cS G k [(h, .inr (12, [.ref (a 0), .ref (a 1), .ref (a 2), .ref (a 3), .int nn, .int 0, .int 0, .int 0, .int 0, .int 0, .int 0, .int (-1), .ref (a 4), .int 0, .int 0, .int 0, .int 0, .int 0, .int 0, .int 0, .int 0, .int 0, .int 0, .int 0, .ref (a 5), .ref (a 6), .ref (a 7), .ref (a 8), .ref (a 9), .ref (a 10), .ref (a 11), .ref (a 12), .ref (a 13), .ref (a 14), .ref (a 15), .ref (a 16), .ref (a 17), .ref (a 18), .ref (a 19), .ref (a 20), .ref (a 21), .ref (a 22), .ref (a 23), .ref (a 24), .ref (a 25), .ref (a 26), .ref (a 27), .ref (a 28), .ref (a 29), .ref (a 30), .int 0, .ref (a 31), .ref (a 32)])), ((a 3), .inl ((d 3), 400, .inl f))] [((d 3), .byte)] A s s.heap [] := St
  refine lv_bipush (v := 24) hx hb dX12_lay_0 (by decide) ?_
  refine lv_istore_n (lv' := [(2, .int 24), (0, .ref h), (1, .int x)]) hx hb dX12_lay_2 rfl hl (by decide) rfl (fun ls hl => ?_)
  refine lv_iload_n hx hb dX12_lay_3 rfl (lv_at hl 0 rfl) ?_
  refine lv_if_lt (tgt := 36) hx hb dX12_lay_4 (by decide) (fun c4 => ?_) (fun c4 => ?_)
  · exact absurd c4 (by decide)
  refine lv_aload_n hx hb dX12_lay_7 rfl (lv_at hl 1 rfl) ?_
  refine cs_get F St 0 rfl rfl inX12 3 (by decide) kf_X12_20 rfl dX12_lay_8 ?_
  refine lv_aload_n hx hb dX12_lay_11 rfl (lv_at hl 1 rfl) ?_
  refine cs_get F St 0 rfl rfl inX12 4 (by decide) kf_X12_203 rfl dX12_lay_12 ?_
  refine lv_iload_n hx hb dX12_lay_15 rfl (lv_at hl 2 rfl) ?_
  refine lv_iload_n hx hb dX12_lay_16 rfl (lv_at hl 0 rfl) ?_
  refine lv_ishr hx hb dX12_lay_17 ?_
  refine lv_topi (fun y_1 ey_1 => ?_)
  refine lv_i2b (v := y_1.toInt8.toInt32) hx hb dX12_lay_18 rfl ?_
  refine cs_bst F St 1 0 rfl rfl (vp_in_iff.mpr ⟨by omega, by omega⟩) (w' := [(h, .inr (12, [.ref (a 0), .ref (a 1), .ref (a 2), .ref (a 3), .int nn, .int 0, .int 0, .int 0, .int 0, .int 0, .int 0, .int (-1), .ref (a 4), .int 0, .int 0, .int 0, .int 0, .int 0, .int 0, .int 0, .int 0, .int 0, .int 0, .int 0, .ref (a 5), .ref (a 6), .ref (a 7), .ref (a 8), .ref (a 9), .ref (a 10), .ref (a 11), .ref (a 12), .ref (a 13), .ref (a 14), .ref (a 15), .ref (a 16), .ref (a 17), .ref (a 18), .ref (a 19), .ref (a 20), .ref (a 21), .ref (a 22), .ref (a 23), .ref (a 24), .ref (a 25), .ref (a 26), .ref (a 27), .ref (a 28), .ref (a 29), .ref (a 30), .int 0, .ref (a 31), .ref (a 32)])), ((a 3), .inl ((d 3), 400, .inl (upd f (nn : Int32).toNatClampNeg (vp_nar .byte y_1.toInt8.toInt32))))]) rfl dX12_lay_19 (fun H locs St => ?_)
  obtain ⟨f_2, ef_2⟩ : ∃ zz : Nat → Int32, zz = upd f (nn : Int32).toNatClampNeg (vp_nar .byte y_1.toInt8.toInt32) := ⟨_, rfl⟩
  rw [← ef_2] at St
  refine lv_aload_n hx hb dX12_lay_20 rfl (lv_at hl 1 rfl) ?_
  refine lv_dup hx hb dX12_lay_21 rfl ?_
  refine cs_get F St 0 rfl rfl inX12 4 (by decide) kf_X12_203 rfl dX12_lay_22 ?_
  refine lv_iconst (v := 1) hx hb dX12_lay_25 (by decide) ?_
  refine lv_iadd hx hb dX12_lay_26 ?_
  refine lv_topi (fun y_3 ey_3 => ?_)
  have jy_3 := ci_add (x := nn) (y := 1) rfl (show (1 : Int32).toInt = 1 by decide) ey_3
  refine cs_put F St 0 rfl rfl inX12 tyX12_ok nmX12 4 (by decide) kf_X12_203 rfl rfl rfl (Nat.le_of_ble_eq_true rfl) (w' := [(h, .inr (12, [.ref (a 0), .ref (a 1), .ref (a 2), .ref (a 3), .int y_3, .int 0, .int 0, .int 0, .int 0, .int 0, .int 0, .int (-1), .ref (a 4), .int 0, .int 0, .int 0, .int 0, .int 0, .int 0, .int 0, .int 0, .int 0, .int 0, .int 0, .ref (a 5), .ref (a 6), .ref (a 7), .ref (a 8), .ref (a 9), .ref (a 10), .ref (a 11), .ref (a 12), .ref (a 13), .ref (a 14), .ref (a 15), .ref (a 16), .ref (a 17), .ref (a 18), .ref (a 19), .ref (a 20), .ref (a 21), .ref (a 22), .ref (a 23), .ref (a 24), .ref (a 25), .ref (a 26), .ref (a 27), .ref (a 28), .ref (a 29), .ref (a 30), .int 0, .ref (a 31), .ref (a 32)])), ((a 3), .inl ((d 3), 400, .inl f_2))]) rfl dX12_lay_27 (fun H locs St => ?_)
  refine lv_iinc (v := 16) (lv' := [(2, .int 16), (0, .ref h), (1, .int x)]) hx hb dX12_lay_30 hl (k := 0) rfl (by decide) (by decide) rfl (fun ls hl => ?_)
  refine lv_goto (tgt := 3) hx hb dX12_lay_33 (by decide) ?_
  refine lv_iload_n hx hb dX12_lay_3 rfl (lv_at hl 0 rfl) ?_
  refine lv_if_lt (tgt := 36) hx hb dX12_lay_4 (by decide) (fun c4 => ?_) (fun c4 => ?_)
  · exact absurd c4 (by decide)
  refine lv_aload_n hx hb dX12_lay_7 rfl (lv_at hl 1 rfl) ?_
  refine cs_get F St 0 rfl rfl inX12 3 (by decide) kf_X12_20 rfl dX12_lay_8 ?_
  refine lv_aload_n hx hb dX12_lay_11 rfl (lv_at hl 1 rfl) ?_
  refine cs_get F St 0 rfl rfl inX12 4 (by decide) kf_X12_203 rfl dX12_lay_12 ?_
  refine lv_iload_n hx hb dX12_lay_15 rfl (lv_at hl 2 rfl) ?_
  refine lv_iload_n hx hb dX12_lay_16 rfl (lv_at hl 0 rfl) ?_
  refine lv_ishr hx hb dX12_lay_17 ?_
  refine lv_topi (fun y_4 ey_4 => ?_)
  refine lv_i2b (v := y_4.toInt8.toInt32) hx hb dX12_lay_18 rfl ?_
  refine cs_bst F St 1 0 rfl rfl (vp_in_iff.mpr ⟨by omega, by omega⟩) (w' := [(h, .inr (12, [.ref (a 0), .ref (a 1), .ref (a 2), .ref (a 3), .int y_3, .int 0, .int 0, .int 0, .int 0, .int 0, .int 0, .int (-1), .ref (a 4), .int 0, .int 0, .int 0, .int 0, .int 0, .int 0, .int 0, .int 0, .int 0, .int 0, .int 0, .ref (a 5), .ref (a 6), .ref (a 7), .ref (a 8), .ref (a 9), .ref (a 10), .ref (a 11), .ref (a 12), .ref (a 13), .ref (a 14), .ref (a 15), .ref (a 16), .ref (a 17), .ref (a 18), .ref (a 19), .ref (a 20), .ref (a 21), .ref (a 22), .ref (a 23), .ref (a 24), .ref (a 25), .ref (a 26), .ref (a 27), .ref (a 28), .ref (a 29), .ref (a 30), .int 0, .ref (a 31), .ref (a 32)])), ((a 3), .inl ((d 3), 400, .inl (upd f_2 (y_3 : Int32).toNatClampNeg (vp_nar .byte y_4.toInt8.toInt32))))]) rfl dX12_lay_19 (fun H locs St => ?_)
  obtain ⟨f_5, ef_5⟩ : ∃ zz : Nat → Int32, zz = upd f_2 (y_3 : Int32).toNatClampNeg (vp_nar .byte y_4.toInt8.toInt32) := ⟨_, rfl⟩
  rw [← ef_5] at St
  refine lv_aload_n hx hb dX12_lay_20 rfl (lv_at hl 1 rfl) ?_
  refine lv_dup hx hb dX12_lay_21 rfl ?_
  refine cs_get F St 0 rfl rfl inX12 4 (by decide) kf_X12_203 rfl dX12_lay_22 ?_
  refine lv_iconst (v := 1) hx hb dX12_lay_25 (by decide) ?_
  refine lv_iadd hx hb dX12_lay_26 ?_
  refine lv_topi (fun y_6 ey_6 => ?_)
  have jy_6 := ci_add (x := y_3) (y := 1) rfl (show (1 : Int32).toInt = 1 by decide) ey_6
  refine cs_put F St 0 rfl rfl inX12 tyX12_ok nmX12 4 (by decide) kf_X12_203 rfl rfl rfl (Nat.le_of_ble_eq_true rfl) (w' := [(h, .inr (12, [.ref (a 0), .ref (a 1), .ref (a 2), .ref (a 3), .int y_6, .int 0, .int 0, .int 0, .int 0, .int 0, .int 0, .int (-1), .ref (a 4), .int 0, .int 0, .int 0, .int 0, .int 0, .int 0, .int 0, .int 0, .int 0, .int 0, .int 0, .ref (a 5), .ref (a 6), .ref (a 7), .ref (a 8), .ref (a 9), .ref (a 10), .ref (a 11), .ref (a 12), .ref (a 13), .ref (a 14), .ref (a 15), .ref (a 16), .ref (a 17), .ref (a 18), .ref (a 19), .ref (a 20), .ref (a 21), .ref (a 22), .ref (a 23), .ref (a 24), .ref (a 25), .ref (a 26), .ref (a 27), .ref (a 28), .ref (a 29), .ref (a 30), .int 0, .ref (a 31), .ref (a 32)])), ((a 3), .inl ((d 3), 400, .inl f_5))]) rfl dX12_lay_27 (fun H locs St => ?_)
  refine lv_iinc (v := 8) (lv' := [(2, .int 8), (0, .ref h), (1, .int x)]) hx hb dX12_lay_30 hl (k := 0) rfl (by decide) (by decide) rfl (fun ls hl => ?_)
  refine lv_goto (tgt := 3) hx hb dX12_lay_33 (by decide) ?_
  refine lv_iload_n hx hb dX12_lay_3 rfl (lv_at hl 0 rfl) ?_
  refine lv_if_lt (tgt := 36) hx hb dX12_lay_4 (by decide) (fun c4 => ?_) (fun c4 => ?_)
  · exact absurd c4 (by decide)
  refine lv_aload_n hx hb dX12_lay_7 rfl (lv_at hl 1 rfl) ?_
  refine cs_get F St 0 rfl rfl inX12 3 (by decide) kf_X12_20 rfl dX12_lay_8 ?_
  refine lv_aload_n hx hb dX12_lay_11 rfl (lv_at hl 1 rfl) ?_
  refine cs_get F St 0 rfl rfl inX12 4 (by decide) kf_X12_203 rfl dX12_lay_12 ?_
  refine lv_iload_n hx hb dX12_lay_15 rfl (lv_at hl 2 rfl) ?_
  refine lv_iload_n hx hb dX12_lay_16 rfl (lv_at hl 0 rfl) ?_
  refine lv_ishr hx hb dX12_lay_17 ?_
  refine lv_topi (fun y_7 ey_7 => ?_)
  refine lv_i2b (v := y_7.toInt8.toInt32) hx hb dX12_lay_18 rfl ?_
  refine cs_bst F St 1 0 rfl rfl (vp_in_iff.mpr ⟨by omega, by omega⟩) (w' := [(h, .inr (12, [.ref (a 0), .ref (a 1), .ref (a 2), .ref (a 3), .int y_6, .int 0, .int 0, .int 0, .int 0, .int 0, .int 0, .int (-1), .ref (a 4), .int 0, .int 0, .int 0, .int 0, .int 0, .int 0, .int 0, .int 0, .int 0, .int 0, .int 0, .ref (a 5), .ref (a 6), .ref (a 7), .ref (a 8), .ref (a 9), .ref (a 10), .ref (a 11), .ref (a 12), .ref (a 13), .ref (a 14), .ref (a 15), .ref (a 16), .ref (a 17), .ref (a 18), .ref (a 19), .ref (a 20), .ref (a 21), .ref (a 22), .ref (a 23), .ref (a 24), .ref (a 25), .ref (a 26), .ref (a 27), .ref (a 28), .ref (a 29), .ref (a 30), .int 0, .ref (a 31), .ref (a 32)])), ((a 3), .inl ((d 3), 400, .inl (upd f_5 (y_6 : Int32).toNatClampNeg (vp_nar .byte y_7.toInt8.toInt32))))]) rfl dX12_lay_19 (fun H locs St => ?_)
  obtain ⟨f_8, ef_8⟩ : ∃ zz : Nat → Int32, zz = upd f_5 (y_6 : Int32).toNatClampNeg (vp_nar .byte y_7.toInt8.toInt32) := ⟨_, rfl⟩
  rw [← ef_8] at St
  refine lv_aload_n hx hb dX12_lay_20 rfl (lv_at hl 1 rfl) ?_
  refine lv_dup hx hb dX12_lay_21 rfl ?_
  refine cs_get F St 0 rfl rfl inX12 4 (by decide) kf_X12_203 rfl dX12_lay_22 ?_
  refine lv_iconst (v := 1) hx hb dX12_lay_25 (by decide) ?_
  refine lv_iadd hx hb dX12_lay_26 ?_
  refine lv_topi (fun y_9 ey_9 => ?_)
  have jy_9 := ci_add (x := y_6) (y := 1) rfl (show (1 : Int32).toInt = 1 by decide) ey_9
  refine cs_put F St 0 rfl rfl inX12 tyX12_ok nmX12 4 (by decide) kf_X12_203 rfl rfl rfl (Nat.le_of_ble_eq_true rfl) (w' := [(h, .inr (12, [.ref (a 0), .ref (a 1), .ref (a 2), .ref (a 3), .int y_9, .int 0, .int 0, .int 0, .int 0, .int 0, .int 0, .int (-1), .ref (a 4), .int 0, .int 0, .int 0, .int 0, .int 0, .int 0, .int 0, .int 0, .int 0, .int 0, .int 0, .ref (a 5), .ref (a 6), .ref (a 7), .ref (a 8), .ref (a 9), .ref (a 10), .ref (a 11), .ref (a 12), .ref (a 13), .ref (a 14), .ref (a 15), .ref (a 16), .ref (a 17), .ref (a 18), .ref (a 19), .ref (a 20), .ref (a 21), .ref (a 22), .ref (a 23), .ref (a 24), .ref (a 25), .ref (a 26), .ref (a 27), .ref (a 28), .ref (a 29), .ref (a 30), .int 0, .ref (a 31), .ref (a 32)])), ((a 3), .inl ((d 3), 400, .inl f_8))]) rfl dX12_lay_27 (fun H locs St => ?_)
  refine lv_iinc (v := 0) (lv' := [(2, .int 0), (0, .ref h), (1, .int x)]) hx hb dX12_lay_30 hl (k := 0) rfl (by decide) (by decide) rfl (fun ls hl => ?_)
  refine lv_goto (tgt := 3) hx hb dX12_lay_33 (by decide) ?_
  refine lv_iload_n hx hb dX12_lay_3 rfl (lv_at hl 0 rfl) ?_
  refine lv_if_lt (tgt := 36) hx hb dX12_lay_4 (by decide) (fun c4 => ?_) (fun c4 => ?_)
  · exact absurd c4 (by decide)
  refine lv_aload_n hx hb dX12_lay_7 rfl (lv_at hl 1 rfl) ?_
  refine cs_get F St 0 rfl rfl inX12 3 (by decide) kf_X12_20 rfl dX12_lay_8 ?_
  refine lv_aload_n hx hb dX12_lay_11 rfl (lv_at hl 1 rfl) ?_
  refine cs_get F St 0 rfl rfl inX12 4 (by decide) kf_X12_203 rfl dX12_lay_12 ?_
  refine lv_iload_n hx hb dX12_lay_15 rfl (lv_at hl 2 rfl) ?_
  refine lv_iload_n hx hb dX12_lay_16 rfl (lv_at hl 0 rfl) ?_
  refine lv_ishr hx hb dX12_lay_17 ?_
  refine lv_topi (fun y_10 ey_10 => ?_)
  refine lv_i2b (v := y_10.toInt8.toInt32) hx hb dX12_lay_18 rfl ?_
  refine cs_bst F St 1 0 rfl rfl (vp_in_iff.mpr ⟨by omega, by omega⟩) (w' := [(h, .inr (12, [.ref (a 0), .ref (a 1), .ref (a 2), .ref (a 3), .int y_9, .int 0, .int 0, .int 0, .int 0, .int 0, .int 0, .int (-1), .ref (a 4), .int 0, .int 0, .int 0, .int 0, .int 0, .int 0, .int 0, .int 0, .int 0, .int 0, .int 0, .ref (a 5), .ref (a 6), .ref (a 7), .ref (a 8), .ref (a 9), .ref (a 10), .ref (a 11), .ref (a 12), .ref (a 13), .ref (a 14), .ref (a 15), .ref (a 16), .ref (a 17), .ref (a 18), .ref (a 19), .ref (a 20), .ref (a 21), .ref (a 22), .ref (a 23), .ref (a 24), .ref (a 25), .ref (a 26), .ref (a 27), .ref (a 28), .ref (a 29), .ref (a 30), .int 0, .ref (a 31), .ref (a 32)])), ((a 3), .inl ((d 3), 400, .inl (upd f_8 (y_9 : Int32).toNatClampNeg (vp_nar .byte y_10.toInt8.toInt32))))]) rfl dX12_lay_19 (fun H locs St => ?_)
  obtain ⟨f_11, ef_11⟩ : ∃ zz : Nat → Int32, zz = upd f_8 (y_9 : Int32).toNatClampNeg (vp_nar .byte y_10.toInt8.toInt32) := ⟨_, rfl⟩
  rw [← ef_11] at St
  refine lv_aload_n hx hb dX12_lay_20 rfl (lv_at hl 1 rfl) ?_
  refine lv_dup hx hb dX12_lay_21 rfl ?_
  refine cs_get F St 0 rfl rfl inX12 4 (by decide) kf_X12_203 rfl dX12_lay_22 ?_
  refine lv_iconst (v := 1) hx hb dX12_lay_25 (by decide) ?_
  refine lv_iadd hx hb dX12_lay_26 ?_
  refine lv_topi (fun y_12 ey_12 => ?_)
  have jy_12 := ci_add (x := y_9) (y := 1) rfl (show (1 : Int32).toInt = 1 by decide) ey_12
  refine cs_put F St 0 rfl rfl inX12 tyX12_ok nmX12 4 (by decide) kf_X12_203 rfl rfl rfl (Nat.le_of_ble_eq_true rfl) (w' := [(h, .inr (12, [.ref (a 0), .ref (a 1), .ref (a 2), .ref (a 3), .int y_12, .int 0, .int 0, .int 0, .int 0, .int 0, .int 0, .int (-1), .ref (a 4), .int 0, .int 0, .int 0, .int 0, .int 0, .int 0, .int 0, .int 0, .int 0, .int 0, .int 0, .ref (a 5), .ref (a 6), .ref (a 7), .ref (a 8), .ref (a 9), .ref (a 10), .ref (a 11), .ref (a 12), .ref (a 13), .ref (a 14), .ref (a 15), .ref (a 16), .ref (a 17), .ref (a 18), .ref (a 19), .ref (a 20), .ref (a 21), .ref (a 22), .ref (a 23), .ref (a 24), .ref (a 25), .ref (a 26), .ref (a 27), .ref (a 28), .ref (a 29), .ref (a 30), .int 0, .ref (a 31), .ref (a 32)])), ((a 3), .inl ((d 3), 400, .inl f_11))]) rfl dX12_lay_27 (fun H locs St => ?_)
  refine lv_iinc (v := (-8)) (lv' := [(2, .int (-8)), (0, .ref h), (1, .int x)]) hx hb dX12_lay_30 hl (k := 0) rfl (by decide) (by decide) rfl (fun ls hl => ?_)
  refine lv_goto (tgt := 3) hx hb dX12_lay_33 (by decide) ?_
  refine lv_iload_n hx hb dX12_lay_3 rfl (lv_at hl 0 rfl) ?_
  refine lv_if_lt (tgt := 36) hx hb dX12_lay_4 (by decide) (fun c4 => ?_) (fun c4 => ?_)
  rotate_left
  · exact absurd (by decide) c4
  exact cs_vret F hr hlk hQ St (y_12, f_11) (eq_add (show (4 : Int32).toInt = 4 by decide) (by omega)) [0, 1] rfl (by decide) [] rfl (by decide) (by decide) dX12_lay_36
set_option maxHeartbeats 4000000 in
set_option maxRecDepth 100000 in
theorem m_feed (l : Launch) (G : va_G) (k : Nat → Nat) (sz : Nat) (h : Nat) (a : Nat → Nat) (d : Nat → ClassId) (x1 : Int32) (x2 : Int32) (x3 : Int32) (x4 : Int32) (x5 : Int32) : Met l yX12_feed (Cond.code yX12_feed cX12_feed 6 (some .int) :: tb) ({ frames := 1, cells := 0, slots := 0, locals := 22 } : Room) (va_Pc [.ref h, .int x1, .int x2, .int x3, .int x4, .int x5] (cP G k [(h, .inr (12, [.ref (a 0), .ref (a 1), .ref (a 2), .ref (a 3), .int 0, .int 0, .int 0, .int 0, .int 0, .int 0, .int 0, .int (-1), .ref (a 4), .int 0, .int 0, .int 0, .int 0, .int 0, .int 0, .int 0, .int 0, .int 0, .int 0, .int 0, .ref (a 5), .ref (a 6), .ref (a 7), .ref (a 8), .ref (a 9), .ref (a 10), .ref (a 11), .ref (a 12), .ref (a 13), .ref (a 14), .ref (a 15), .ref (a 16), .ref (a 17), .ref (a 18), .ref (a 19), .ref (a 20), .ref (a 21), .ref (a 22), .ref (a 23), .ref (a 24), .ref (a 25), .ref (a 26), .ref (a 27), .ref (a 28), .ref (a 29), .ref (a 30), .int 0, .ref (a 31), .ref (a 32)])), ((a 3), .inl ((d 3), 400, .inl (fun _ => 0)))] [((d 3), .byte)] sz)) (va_Qi (fun (r : Int32) (_ : Unit) => (r = 20)) (cB G (fun (_ : Unit) => []) (fun (_ : Unit) => []) (va_A [(h, .inr (12, [.ref (a 0), .ref (a 1), .ref (a 2), .ref (a 3), .int 0, .int 0, .int 0, .int 0, .int 0, .int 0, .int 0, .int (-1), .ref (a 4), .int 0, .int 0, .int 0, .int 0, .int 0, .int 0, .int 0, .int 0, .int 0, .int 0, .int 0, .ref (a 5), .ref (a 6), .ref (a 7), .ref (a 8), .ref (a 9), .ref (a 10), .ref (a 11), .ref (a 12), .ref (a 13), .ref (a 14), .ref (a 15), .ref (a 16), .ref (a 17), .ref (a 18), .ref (a 19), .ref (a 20), .ref (a 21), .ref (a 22), .ref (a 23), .ref (a 24), .ref (a 25), .ref (a 26), .ref (a 27), .ref (a 28), .ref (a 29), .ref (a 30), .int 0, .ref (a 31), .ref (a 32)])), ((a 3), .inl ((d 3), 400, .inl (fun _ => 0)))] sz)) (va_A [(h, .inr (12, [.ref (a 0), .ref (a 1), .ref (a 2), .ref (a 3), .int 0, .int 0, .int 0, .int 0, .int 0, .int 0, .int 0, .int (-1), .ref (a 4), .int 0, .int 0, .int 0, .int 0, .int 0, .int 0, .int 0, .int 0, .int 0, .int 0, .int 0, .ref (a 5), .ref (a 6), .ref (a 7), .ref (a 8), .ref (a 9), .ref (a 10), .ref (a 11), .ref (a 12), .ref (a 13), .ref (a 14), .ref (a 15), .ref (a 16), .ref (a 17), .ref (a 18), .ref (a 19), .ref (a 20), .ref (a 21), .ref (a 22), .ref (a 23), .ref (a 24), .ref (a 25), .ref (a 26), .ref (a 27), .ref (a 28), .ref (a 29), .ref (a 30), .int 0, .ref (a 31), .ref (a 32)])), ((a 3), .inl ((d 3), 400, .inl (fun _ => 0)))] sz)) 0 0 (va_A [(h, .inr (12, [.ref (a 0), .ref (a 1), .ref (a 2), .ref (a 3), .int 0, .int 0, .int 0, .int 0, .int 0, .int 0, .int 0, .int (-1), .ref (a 4), .int 0, .int 0, .int 0, .int 0, .int 0, .int 0, .int 0, .int 0, .int 0, .int 0, .int 0, .ref (a 5), .ref (a 6), .ref (a 7), .ref (a 8), .ref (a 9), .ref (a 10), .ref (a 11), .ref (a 12), .ref (a 13), .ref (a 14), .ref (a 15), .ref (a 16), .ref (a 17), .ref (a 18), .ref (a 19), .ref (a 20), .ref (a 21), .ref (a 22), .ref (a 23), .ref (a 24), .ref (a 25), .ref (a 26), .ref (a 27), .ref (a 28), .ref (a 29), .ref (a 30), .int 0, .ref (a 31), .ref (a 32)])), ((a 3), .inl ((d 3), 400, .inl (fun _ => 0)))] sz) := by
  refine ofC_i (cc := cX12_feed) (maxL := 6) (ret := (some .int)) (by decide) rfl (Nat.le_of_ble_eq_true rfl) ?_
  intro p e s m args below meth c A ls Q F hr hin hlk St hl hQ
  have hx := F.1
  have hb := F.2.1
  have hl : lv_has ls 6 [(0, .ref h), (1, .int x1), (2, .int x2), (3, .int x3), (4, .int x4), (5, .int x5)] := hl
  have St : cS G k [(h, .inr (12, [.ref (a 0), .ref (a 1), .ref (a 2), .ref (a 3), .int 0, .int 0, .int 0, .int 0, .int 0, .int 0, .int 0, .int (-1), .ref (a 4), .int 0, .int 0, .int 0, .int 0, .int 0, .int 0, .int 0, .int 0, .int 0, .int 0, .int 0, .ref (a 5), .ref (a 6), .ref (a 7), .ref (a 8), .ref (a 9), .ref (a 10), .ref (a 11), .ref (a 12), .ref (a 13), .ref (a 14), .ref (a 15), .ref (a 16), .ref (a 17), .ref (a 18), .ref (a 19), .ref (a 20), .ref (a 21), .ref (a 22), .ref (a 23), .ref (a 24), .ref (a 25), .ref (a 26), .ref (a 27), .ref (a 28), .ref (a 29), .ref (a 30), .int 0, .ref (a 31), .ref (a 32)])), ((a 3), .inl ((d 3), 400, .inl (fun _ => 0)))] [((d 3), .byte)] A s s.heap [] := St
  refine lv_aload_n hx hb dX12_feed_0 rfl (lv_at hl 0 rfl) ?_
  refine cs_get F St 0 rfl rfl inX12 4 (by decide) kf_X12_203 rfl dX12_feed_1 ?_
  refine lv_bipush (v := 20) hx hb dX12_feed_4 (by decide) ?_
  refine lv_iadd hx hb dX12_feed_6 ?_
  refine top_i (y := 20) (by decide) ?_
  refine lv_sipush (v := 400) hx hb dX12_feed_7 (by decide) ?_
  refine lv_icmp_le (tgt := 16) hx hb dX12_feed_10 (by decide) (fun c10 => ?_) (fun c10 => ?_)
  rotate_left
  · exact absurd (by decide) c10
  refine lv_aload_n hx hb dX12_feed_16 rfl (lv_at hl 0 rfl) ?_
  refine lv_iload_n hx hb dX12_feed_17 rfl (lv_at hl 1 rfl) ?_
  refine cs_v St [0, 1] [] (wc := [(h, .inr (12, [.ref (a 0), .ref (a 1), .ref (a 2), .ref (a 3), .int 0, .int 0, .int 0, .int 0, .int 0, .int 0, .int 0, .int (-1), .ref (a 4), .int 0, .int 0, .int 0, .int 0, .int 0, .int 0, .int 0, .int 0, .int 0, .int 0, .int 0, .ref (a 5), .ref (a 6), .ref (a 7), .ref (a 8), .ref (a 9), .ref (a 10), .ref (a 11), .ref (a 12), .ref (a 13), .ref (a 14), .ref (a 15), .ref (a 16), .ref (a 17), .ref (a 18), .ref (a 19), .ref (a 20), .ref (a 21), .ref (a 22), .ref (a 23), .ref (a 24), .ref (a 25), .ref (a 26), .ref (a 27), .ref (a 28), .ref (a 29), .ref (a 30), .int 0, .ref (a 31), .ref (a 32)])), ((a 3), .inl ((d 3), 400, .inl (fun _ => 0)))]) (wr := []) rfl rfl (by decide) (by decide) (va_runV (As := [.int x1]) (rest := []) F (c12_lay l G k _ h a d x1 0 (fun _ => 0) (by decide) (by decide)) (cwVt F mf_X12_lay km_X12_206 rfl rfl ⟨Nat.le_of_ble_eq_true rfl, Nat.le_of_ble_eq_true rfl⟩) (cs_preV St [0, 1] rfl (by decide) [0] rfl (ci := 12) (q0 := 0) rfl rfl) rfl rfl hl.1 rfl (lv_room (Nat.le_of_ble_eq_true rfl)) dX12_feed_18 ⟨Nat.le_of_ble_eq_true rfl, Nat.le_of_ble_eq_true rfl⟩) (fun u_2 H locs hw St => ?_)
  obtain ⟨n2_3, f2_4⟩ := u_2
  try dsimp only at hw
  have z_5 := hw
  obtain rfl : n2_3 = 4 := by rw [z_5] <;> decide
  have St : cS G k [(h, .inr (12, [.ref (a 0), .ref (a 1), .ref (a 2), .ref (a 3), .int 4, .int 0, .int 0, .int 0, .int 0, .int 0, .int 0, .int (-1), .ref (a 4), .int 0, .int 0, .int 0, .int 0, .int 0, .int 0, .int 0, .int 0, .int 0, .int 0, .int 0, .ref (a 5), .ref (a 6), .ref (a 7), .ref (a 8), .ref (a 9), .ref (a 10), .ref (a 11), .ref (a 12), .ref (a 13), .ref (a 14), .ref (a 15), .ref (a 16), .ref (a 17), .ref (a 18), .ref (a 19), .ref (a 20), .ref (a 21), .ref (a 22), .ref (a 23), .ref (a 24), .ref (a 25), .ref (a 26), .ref (a 27), .ref (a 28), .ref (a 29), .ref (a 30), .int 0, .ref (a 31), .ref (a 32)])), ((a 3), .inl ((d 3), 400, .inl f2_4))] [((d 3), .byte)] A s H locs := St
  refine lv_aload_n hx hb dX12_feed_21 rfl (lv_at hl 0 rfl) ?_
  refine lv_iload_n hx hb dX12_feed_22 rfl (lv_at hl 2 rfl) ?_
  refine cs_v St [0, 1] [] (wc := [(h, .inr (12, [.ref (a 0), .ref (a 1), .ref (a 2), .ref (a 3), .int 4, .int 0, .int 0, .int 0, .int 0, .int 0, .int 0, .int (-1), .ref (a 4), .int 0, .int 0, .int 0, .int 0, .int 0, .int 0, .int 0, .int 0, .int 0, .int 0, .int 0, .ref (a 5), .ref (a 6), .ref (a 7), .ref (a 8), .ref (a 9), .ref (a 10), .ref (a 11), .ref (a 12), .ref (a 13), .ref (a 14), .ref (a 15), .ref (a 16), .ref (a 17), .ref (a 18), .ref (a 19), .ref (a 20), .ref (a 21), .ref (a 22), .ref (a 23), .ref (a 24), .ref (a 25), .ref (a 26), .ref (a 27), .ref (a 28), .ref (a 29), .ref (a 30), .int 0, .ref (a 31), .ref (a 32)])), ((a 3), .inl ((d 3), 400, .inl f2_4))]) (wr := []) rfl rfl (by decide) (by decide) (va_runV (As := [.int x2]) (rest := []) F (c12_lay l G k _ h a d x2 4 f2_4 (by decide) (by decide)) (cwVt F mf_X12_lay km_X12_206 rfl rfl ⟨Nat.le_of_ble_eq_true rfl, Nat.le_of_ble_eq_true rfl⟩) (cs_preV St [0, 1] rfl (by decide) [0] rfl (ci := 12) (q0 := 0) rfl rfl) rfl rfl hl.1 rfl (lv_room (Nat.le_of_ble_eq_true rfl)) dX12_feed_23 ⟨Nat.le_of_ble_eq_true rfl, Nat.le_of_ble_eq_true rfl⟩) (fun u_7 H locs hw St => ?_)
  obtain ⟨n2_8, f2_9⟩ := u_7
  try dsimp only at hw
  have z_10 := hw
  obtain rfl : n2_8 = 8 := by rw [z_10] <;> decide
  have St : cS G k [(h, .inr (12, [.ref (a 0), .ref (a 1), .ref (a 2), .ref (a 3), .int 8, .int 0, .int 0, .int 0, .int 0, .int 0, .int 0, .int (-1), .ref (a 4), .int 0, .int 0, .int 0, .int 0, .int 0, .int 0, .int 0, .int 0, .int 0, .int 0, .int 0, .ref (a 5), .ref (a 6), .ref (a 7), .ref (a 8), .ref (a 9), .ref (a 10), .ref (a 11), .ref (a 12), .ref (a 13), .ref (a 14), .ref (a 15), .ref (a 16), .ref (a 17), .ref (a 18), .ref (a 19), .ref (a 20), .ref (a 21), .ref (a 22), .ref (a 23), .ref (a 24), .ref (a 25), .ref (a 26), .ref (a 27), .ref (a 28), .ref (a 29), .ref (a 30), .int 0, .ref (a 31), .ref (a 32)])), ((a 3), .inl ((d 3), 400, .inl f2_9))] [((d 3), .byte)] A s H locs := St
  refine lv_aload_n hx hb dX12_feed_26 rfl (lv_at hl 0 rfl) ?_
  refine lv_iload_n hx hb dX12_feed_27 rfl (lv_at hl 3 rfl) ?_
  refine cs_v St [0, 1] [] (wc := [(h, .inr (12, [.ref (a 0), .ref (a 1), .ref (a 2), .ref (a 3), .int 8, .int 0, .int 0, .int 0, .int 0, .int 0, .int 0, .int (-1), .ref (a 4), .int 0, .int 0, .int 0, .int 0, .int 0, .int 0, .int 0, .int 0, .int 0, .int 0, .int 0, .ref (a 5), .ref (a 6), .ref (a 7), .ref (a 8), .ref (a 9), .ref (a 10), .ref (a 11), .ref (a 12), .ref (a 13), .ref (a 14), .ref (a 15), .ref (a 16), .ref (a 17), .ref (a 18), .ref (a 19), .ref (a 20), .ref (a 21), .ref (a 22), .ref (a 23), .ref (a 24), .ref (a 25), .ref (a 26), .ref (a 27), .ref (a 28), .ref (a 29), .ref (a 30), .int 0, .ref (a 31), .ref (a 32)])), ((a 3), .inl ((d 3), 400, .inl f2_9))]) (wr := []) rfl rfl (by decide) (by decide) (va_runV (As := [.int x3]) (rest := []) F (c12_lay l G k _ h a d x3 8 f2_9 (by decide) (by decide)) (cwVt F mf_X12_lay km_X12_206 rfl rfl ⟨Nat.le_of_ble_eq_true rfl, Nat.le_of_ble_eq_true rfl⟩) (cs_preV St [0, 1] rfl (by decide) [0] rfl (ci := 12) (q0 := 0) rfl rfl) rfl rfl hl.1 rfl (lv_room (Nat.le_of_ble_eq_true rfl)) dX12_feed_28 ⟨Nat.le_of_ble_eq_true rfl, Nat.le_of_ble_eq_true rfl⟩) (fun u_12 H locs hw St => ?_)
  obtain ⟨n2_13, f2_14⟩ := u_12
  try dsimp only at hw
  have z_15 := hw
  obtain rfl : n2_13 = 12 := by rw [z_15] <;> decide
  have St : cS G k [(h, .inr (12, [.ref (a 0), .ref (a 1), .ref (a 2), .ref (a 3), .int 12, .int 0, .int 0, .int 0, .int 0, .int 0, .int 0, .int (-1), .ref (a 4), .int 0, .int 0, .int 0, .int 0, .int 0, .int 0, .int 0, .int 0, .int 0, .int 0, .int 0, .ref (a 5), .ref (a 6), .ref (a 7), .ref (a 8), .ref (a 9), .ref (a 10), .ref (a 11), .ref (a 12), .ref (a 13), .ref (a 14), .ref (a 15), .ref (a 16), .ref (a 17), .ref (a 18), .ref (a 19), .ref (a 20), .ref (a 21), .ref (a 22), .ref (a 23), .ref (a 24), .ref (a 25), .ref (a 26), .ref (a 27), .ref (a 28), .ref (a 29), .ref (a 30), .int 0, .ref (a 31), .ref (a 32)])), ((a 3), .inl ((d 3), 400, .inl f2_14))] [((d 3), .byte)] A s H locs := St
  refine lv_aload_n hx hb dX12_feed_31 rfl (lv_at hl 0 rfl) ?_
  refine lv_iload hx hb dX12_feed_32 (lv_at hl 4 rfl) ?_
  refine cs_v St [0, 1] [] (wc := [(h, .inr (12, [.ref (a 0), .ref (a 1), .ref (a 2), .ref (a 3), .int 12, .int 0, .int 0, .int 0, .int 0, .int 0, .int 0, .int (-1), .ref (a 4), .int 0, .int 0, .int 0, .int 0, .int 0, .int 0, .int 0, .int 0, .int 0, .int 0, .int 0, .ref (a 5), .ref (a 6), .ref (a 7), .ref (a 8), .ref (a 9), .ref (a 10), .ref (a 11), .ref (a 12), .ref (a 13), .ref (a 14), .ref (a 15), .ref (a 16), .ref (a 17), .ref (a 18), .ref (a 19), .ref (a 20), .ref (a 21), .ref (a 22), .ref (a 23), .ref (a 24), .ref (a 25), .ref (a 26), .ref (a 27), .ref (a 28), .ref (a 29), .ref (a 30), .int 0, .ref (a 31), .ref (a 32)])), ((a 3), .inl ((d 3), 400, .inl f2_14))]) (wr := []) rfl rfl (by decide) (by decide) (va_runV (As := [.int x4]) (rest := []) F (c12_lay l G k _ h a d x4 12 f2_14 (by decide) (by decide)) (cwVt F mf_X12_lay km_X12_206 rfl rfl ⟨Nat.le_of_ble_eq_true rfl, Nat.le_of_ble_eq_true rfl⟩) (cs_preV St [0, 1] rfl (by decide) [0] rfl (ci := 12) (q0 := 0) rfl rfl) rfl rfl hl.1 rfl (lv_room (Nat.le_of_ble_eq_true rfl)) dX12_feed_34 ⟨Nat.le_of_ble_eq_true rfl, Nat.le_of_ble_eq_true rfl⟩) (fun u_17 H locs hw St => ?_)
  obtain ⟨n2_18, f2_19⟩ := u_17
  try dsimp only at hw
  have z_20 := hw
  obtain rfl : n2_18 = 16 := by rw [z_20] <;> decide
  have St : cS G k [(h, .inr (12, [.ref (a 0), .ref (a 1), .ref (a 2), .ref (a 3), .int 16, .int 0, .int 0, .int 0, .int 0, .int 0, .int 0, .int (-1), .ref (a 4), .int 0, .int 0, .int 0, .int 0, .int 0, .int 0, .int 0, .int 0, .int 0, .int 0, .int 0, .ref (a 5), .ref (a 6), .ref (a 7), .ref (a 8), .ref (a 9), .ref (a 10), .ref (a 11), .ref (a 12), .ref (a 13), .ref (a 14), .ref (a 15), .ref (a 16), .ref (a 17), .ref (a 18), .ref (a 19), .ref (a 20), .ref (a 21), .ref (a 22), .ref (a 23), .ref (a 24), .ref (a 25), .ref (a 26), .ref (a 27), .ref (a 28), .ref (a 29), .ref (a 30), .int 0, .ref (a 31), .ref (a 32)])), ((a 3), .inl ((d 3), 400, .inl f2_19))] [((d 3), .byte)] A s H locs := St
  refine lv_aload_n hx hb dX12_feed_37 rfl (lv_at hl 0 rfl) ?_
  refine lv_iload hx hb dX12_feed_38 (lv_at hl 5 rfl) ?_
  refine cs_v St [0, 1] [] (wc := [(h, .inr (12, [.ref (a 0), .ref (a 1), .ref (a 2), .ref (a 3), .int 16, .int 0, .int 0, .int 0, .int 0, .int 0, .int 0, .int (-1), .ref (a 4), .int 0, .int 0, .int 0, .int 0, .int 0, .int 0, .int 0, .int 0, .int 0, .int 0, .int 0, .ref (a 5), .ref (a 6), .ref (a 7), .ref (a 8), .ref (a 9), .ref (a 10), .ref (a 11), .ref (a 12), .ref (a 13), .ref (a 14), .ref (a 15), .ref (a 16), .ref (a 17), .ref (a 18), .ref (a 19), .ref (a 20), .ref (a 21), .ref (a 22), .ref (a 23), .ref (a 24), .ref (a 25), .ref (a 26), .ref (a 27), .ref (a 28), .ref (a 29), .ref (a 30), .int 0, .ref (a 31), .ref (a 32)])), ((a 3), .inl ((d 3), 400, .inl f2_19))]) (wr := []) rfl rfl (by decide) (by decide) (va_runV (As := [.int x5]) (rest := []) F (c12_lay l G k _ h a d x5 16 f2_19 (by decide) (by decide)) (cwVt F mf_X12_lay km_X12_206 rfl rfl ⟨Nat.le_of_ble_eq_true rfl, Nat.le_of_ble_eq_true rfl⟩) (cs_preV St [0, 1] rfl (by decide) [0] rfl (ci := 12) (q0 := 0) rfl rfl) rfl rfl hl.1 rfl (lv_room (Nat.le_of_ble_eq_true rfl)) dX12_feed_40 ⟨Nat.le_of_ble_eq_true rfl, Nat.le_of_ble_eq_true rfl⟩) (fun u_22 H locs hw St => ?_)
  obtain ⟨n2_23, f2_24⟩ := u_22
  try dsimp only at hw
  have z_25 := hw
  obtain rfl : n2_23 = 20 := by rw [z_25] <;> decide
  have St : cS G k [(h, .inr (12, [.ref (a 0), .ref (a 1), .ref (a 2), .ref (a 3), .int 20, .int 0, .int 0, .int 0, .int 0, .int 0, .int 0, .int (-1), .ref (a 4), .int 0, .int 0, .int 0, .int 0, .int 0, .int 0, .int 0, .int 0, .int 0, .int 0, .int 0, .ref (a 5), .ref (a 6), .ref (a 7), .ref (a 8), .ref (a 9), .ref (a 10), .ref (a 11), .ref (a 12), .ref (a 13), .ref (a 14), .ref (a 15), .ref (a 16), .ref (a 17), .ref (a 18), .ref (a 19), .ref (a 20), .ref (a 21), .ref (a 22), .ref (a 23), .ref (a 24), .ref (a 25), .ref (a 26), .ref (a 27), .ref (a 28), .ref (a 29), .ref (a 30), .int 0, .ref (a 31), .ref (a 32)])), ((a 3), .inl ((d 3), 400, .inl f2_24))] [((d 3), .byte)] A s H locs := St
  refine lv_aload_n hx hb dX12_feed_43 rfl (lv_at hl 0 rfl) ?_
  refine cs_get F St 0 rfl rfl inX12 4 (by decide) kf_X12_203 rfl dX12_feed_44 ?_
  exact cs_iret F hr hlk hQ St () (r := 20) rfl [] rfl (by decide) [] rfl (by decide) (by decide) dX12_feed_47
set_option maxHeartbeats 4000000 in
set_option maxRecDepth 100000 in
theorem m_end (l : Launch) (G : va_G) (k : Nat → Nat) (sz : Nat) (h : Nat) (a : Nat → Nat) (d : Nat → ClassId) (x1 : Int32) : Met l yX12_end (Cond.code yX12_end cX12_end 2 (some .int) :: tb) ({ frames := 1, cells := 0, slots := 0, locals := 25 } : Room) (va_Pc [.ref h, .int x1] (cP G k [(h, .inr (12, [.ref (a 0), .ref (a 1), .ref (a 2), .ref (a 3), .int 0, .int 0, .int 0, .int 0, .int 0, .int 0, .int 0, .int (-1), .ref (a 4), .int 0, .int 0, .int 0, .int 0, .int 0, .int 0, .int 0, .int 0, .int 0, .int 0, .int 0, .ref (a 5), .ref (a 6), .ref (a 7), .ref (a 8), .ref (a 9), .ref (a 10), .ref (a 11), .ref (a 12), .ref (a 13), .ref (a 14), .ref (a 15), .ref (a 16), .ref (a 17), .ref (a 18), .ref (a 19), .ref (a 20), .ref (a 21), .ref (a 22), .ref (a 23), .ref (a 24), .ref (a 25), .ref (a 26), .ref (a 27), .ref (a 28), .ref (a 29), .ref (a 30), .int 0, .ref (a 31), .ref (a 32)]))] [] sz)) (va_Qi (fun (r : Int32) (_ : Unit) => ((r = x1) ∧ (x1.toInt = 0)) ∨ ((r = (-1)) ∧ (¬ x1.toInt = 0))) (cB G (fun (_ : Unit) => []) (fun (_ : Unit) => []) (va_A [(h, .inr (12, [.ref (a 0), .ref (a 1), .ref (a 2), .ref (a 3), .int 0, .int 0, .int 0, .int 0, .int 0, .int 0, .int 0, .int (-1), .ref (a 4), .int 0, .int 0, .int 0, .int 0, .int 0, .int 0, .int 0, .int 0, .int 0, .int 0, .int 0, .ref (a 5), .ref (a 6), .ref (a 7), .ref (a 8), .ref (a 9), .ref (a 10), .ref (a 11), .ref (a 12), .ref (a 13), .ref (a 14), .ref (a 15), .ref (a 16), .ref (a 17), .ref (a 18), .ref (a 19), .ref (a 20), .ref (a 21), .ref (a 22), .ref (a 23), .ref (a 24), .ref (a 25), .ref (a 26), .ref (a 27), .ref (a 28), .ref (a 29), .ref (a 30), .int 0, .ref (a 31), .ref (a 32)]))] sz)) (va_A [(h, .inr (12, [.ref (a 0), .ref (a 1), .ref (a 2), .ref (a 3), .int 0, .int 0, .int 0, .int 0, .int 0, .int 0, .int 0, .int (-1), .ref (a 4), .int 0, .int 0, .int 0, .int 0, .int 0, .int 0, .int 0, .int 0, .int 0, .int 0, .int 0, .ref (a 5), .ref (a 6), .ref (a 7), .ref (a 8), .ref (a 9), .ref (a 10), .ref (a 11), .ref (a 12), .ref (a 13), .ref (a 14), .ref (a 15), .ref (a 16), .ref (a 17), .ref (a 18), .ref (a 19), .ref (a 20), .ref (a 21), .ref (a 22), .ref (a 23), .ref (a 24), .ref (a 25), .ref (a 26), .ref (a 27), .ref (a 28), .ref (a 29), .ref (a 30), .int 0, .ref (a 31), .ref (a 32)]))] sz)) 0 0 (va_A [(h, .inr (12, [.ref (a 0), .ref (a 1), .ref (a 2), .ref (a 3), .int 0, .int 0, .int 0, .int 0, .int 0, .int 0, .int 0, .int (-1), .ref (a 4), .int 0, .int 0, .int 0, .int 0, .int 0, .int 0, .int 0, .int 0, .int 0, .int 0, .int 0, .ref (a 5), .ref (a 6), .ref (a 7), .ref (a 8), .ref (a 9), .ref (a 10), .ref (a 11), .ref (a 12), .ref (a 13), .ref (a 14), .ref (a 15), .ref (a 16), .ref (a 17), .ref (a 18), .ref (a 19), .ref (a 20), .ref (a 21), .ref (a 22), .ref (a 23), .ref (a 24), .ref (a 25), .ref (a 26), .ref (a 27), .ref (a 28), .ref (a 29), .ref (a 30), .int 0, .ref (a 31), .ref (a 32)]))] sz) := by
  refine ofC_i (cc := cX12_end) (maxL := 2) (ret := (some .int)) (by decide) rfl (Nat.le_of_ble_eq_true rfl) ?_
  intro p e s m args below meth c A ls Q F hr hin hlk St hl hQ
  have hx := F.1
  have hb := F.2.1
  have hl : lv_has ls 2 [(0, .ref h), (1, .int x1)] := hl
  have St : cS G k [(h, .inr (12, [.ref (a 0), .ref (a 1), .ref (a 2), .ref (a 3), .int 0, .int 0, .int 0, .int 0, .int 0, .int 0, .int 0, .int (-1), .ref (a 4), .int 0, .int 0, .int 0, .int 0, .int 0, .int 0, .int 0, .int 0, .int 0, .int 0, .int 0, .ref (a 5), .ref (a 6), .ref (a 7), .ref (a 8), .ref (a 9), .ref (a 10), .ref (a 11), .ref (a 12), .ref (a 13), .ref (a 14), .ref (a 15), .ref (a 16), .ref (a 17), .ref (a 18), .ref (a 19), .ref (a 20), .ref (a 21), .ref (a 22), .ref (a 23), .ref (a 24), .ref (a 25), .ref (a 26), .ref (a 27), .ref (a 28), .ref (a 29), .ref (a 30), .int 0, .ref (a 31), .ref (a 32)]))] [] A s s.heap [] := St
  refine lv_iload_n hx hb dX12_end_0 rfl (lv_at hl 1 rfl) ?_
  refine lv_i2l (v := x1.toInt64) hx hb dX12_end_1 rfl ?_
  refine lv_lconst (v := 0) hx hb dX12_end_2 (by decide) ?_
  refine lv_aload_n hx hb dX12_end_3 rfl (lv_at hl 0 rfl) ?_
  refine cs_get F St 0 rfl rfl inX12 4 (by decide) kf_X12_203 rfl dX12_end_4 ?_
  refine lv_i2l (v := 0) hx hb dX12_end_7 (by decide) ?_
  refine cs_i St [] [0] (wc := []) (wr := [(h, .inr (12, [.ref (a 0), .ref (a 1), .ref (a 2), .ref (a 3), .int 0, .int 0, .int 0, .int 0, .int 0, .int 0, .int 0, .int (-1), .ref (a 4), .int 0, .int 0, .int 0, .int 0, .int 0, .int 0, .int 0, .int 0, .int 0, .int 0, .int 0, .ref (a 5), .ref (a 6), .ref (a 7), .ref (a 8), .ref (a 9), .ref (a 10), .ref (a 11), .ref (a 12), .ref (a 13), .ref (a 14), .ref (a 15), .ref (a 16), .ref (a 17), .ref (a 18), .ref (a 19), .ref (a 20), .ref (a 21), .ref (a 22), .ref (a 23), .ref (a 24), .ref (a 25), .ref (a 26), .ref (a 27), .ref (a 28), .ref (a 29), .ref (a 30), .int 0, .ref (a 31), .ref (a 32)]))]) rfl rfl (by decide) (by decide) (va_runS (As := [.long x1.toInt64, .long 0, .long 0]) (rest := []) F (c12_in l G k _ x1.toInt64 0 0 x1.toInt 0 0 (Int32.toInt_toInt64 x1) (by decide) (by decide)) (cwSt F mf_X12_in km_X12_58 rfl rfl ⟨Nat.le_of_ble_eq_true rfl, Nat.le_of_ble_eq_true rfl⟩) (cs_pre St [] rfl (by decide) [] rfl) rfl rfl hl.1 rfl (lv_room (Nat.le_of_ble_eq_true rfl)) dX12_end_8 ⟨Nat.le_of_ble_eq_true rfl, Nat.le_of_ble_eq_true rfl⟩) (fun r_1 u_2 H locs hw St => ?_)
  try dsimp only at hw
  rcases hw with ⟨z_3, hf_4⟩ | ⟨z_5, hf_6⟩
  ·
    subst r_1
    have St : cS G k [(h, .inr (12, [.ref (a 0), .ref (a 1), .ref (a 2), .ref (a 3), .int 0, .int 0, .int 0, .int 0, .int 0, .int 0, .int 0, .int (-1), .ref (a 4), .int 0, .int 0, .int 0, .int 0, .int 0, .int 0, .int 0, .int 0, .int 0, .int 0, .int 0, .ref (a 5), .ref (a 6), .ref (a 7), .ref (a 8), .ref (a 9), .ref (a 10), .ref (a 11), .ref (a 12), .ref (a 13), .ref (a 14), .ref (a 15), .ref (a 16), .ref (a 17), .ref (a 18), .ref (a 19), .ref (a 20), .ref (a 21), .ref (a 22), .ref (a 23), .ref (a 24), .ref (a 25), .ref (a 26), .ref (a 27), .ref (a 28), .ref (a 29), .ref (a 30), .int 0, .ref (a 31), .ref (a 32)]))] [] A s H locs := St
    refine lv_if_ne (tgt := 16) hx hb dX12_end_11 (by decide) (fun c11 => ?_) (fun c11 => ?_)
    rotate_left
    · exact absurd c11 (by decide)
    refine lv_aload_n hx hb dX12_end_16 rfl (lv_at hl 0 rfl) ?_
    refine lv_iload_n hx hb dX12_end_17 rfl (lv_at hl 1 rfl) ?_
    refine cs_put F St 0 rfl rfl inX12 tyX12_ok nmX12 4 (by decide) kf_X12_203 rfl rfl rfl (Nat.le_of_ble_eq_true rfl) (w' := [(h, .inr (12, [.ref (a 0), .ref (a 1), .ref (a 2), .ref (a 3), .int x1, .int 0, .int 0, .int 0, .int 0, .int 0, .int 0, .int (-1), .ref (a 4), .int 0, .int 0, .int 0, .int 0, .int 0, .int 0, .int 0, .int 0, .int 0, .int 0, .int 0, .ref (a 5), .ref (a 6), .ref (a 7), .ref (a 8), .ref (a 9), .ref (a 10), .ref (a 11), .ref (a 12), .ref (a 13), .ref (a 14), .ref (a 15), .ref (a 16), .ref (a 17), .ref (a 18), .ref (a 19), .ref (a 20), .ref (a 21), .ref (a 22), .ref (a 23), .ref (a 24), .ref (a 25), .ref (a 26), .ref (a 27), .ref (a 28), .ref (a 29), .ref (a 30), .int 0, .ref (a 31), .ref (a 32)]))]) rfl dX12_end_18 (fun H locs St => ?_)
    refine lv_iload_n hx hb dX12_end_21 rfl (lv_at hl 1 rfl) ?_
    exact cs_iret F hr hlk hQ St () (r := x1) (Or.inl ⟨rfl, by omega⟩) [] rfl (by decide) [] rfl (by decide) (by decide) dX12_end_22
  ·
    subst r_1
    have St : cS G k [(h, .inr (12, [.ref (a 0), .ref (a 1), .ref (a 2), .ref (a 3), .int 0, .int 0, .int 0, .int 0, .int 0, .int 0, .int 0, .int (-1), .ref (a 4), .int 0, .int 0, .int 0, .int 0, .int 0, .int 0, .int 0, .int 0, .int 0, .int 0, .int 0, .ref (a 5), .ref (a 6), .ref (a 7), .ref (a 8), .ref (a 9), .ref (a 10), .ref (a 11), .ref (a 12), .ref (a 13), .ref (a 14), .ref (a 15), .ref (a 16), .ref (a 17), .ref (a 18), .ref (a 19), .ref (a 20), .ref (a 21), .ref (a 22), .ref (a 23), .ref (a 24), .ref (a 25), .ref (a 26), .ref (a 27), .ref (a 28), .ref (a 29), .ref (a 30), .int 0, .ref (a 31), .ref (a 32)]))] [] A s H locs := St
    refine lv_if_ne (tgt := 16) hx hb dX12_end_11 (by decide) (fun c11 => ?_) (fun c11 => ?_)
    · exact absurd c11 (by decide)
    refine lv_iconst (v := (-1)) hx hb dX12_end_14 (by decide) ?_
    exact cs_iret F hr hlk hQ St () (r := (-1)) (Or.inr ⟨rfl, by omega⟩) [] rfl (by decide) [] rfl (by decide) (by decide) dX12_end_15
set_option maxHeartbeats 4000000 in
set_option maxRecDepth 100000 in
theorem m_byteAt (l : Launch) (G : va_G) (k : Nat → Nat) (sz : Nat) (h : Nat) (a : Nat → Nat) (d : Nat → ClassId) : Met l yX12_byteAt (Cond.code yX12_byteAt cX12_byteAt 2 (some .int) :: tb) ({ frames := 0, cells := 0, slots := 0, locals := 0 } : Room) (va_Pc [.ref h, .int 0] (cP G k [(h, .inr (12, [.ref (a 0), .ref (a 1), .ref (a 2), .ref (a 3), .int 0, .int 0, .int 0, .int 0, .int 0, .int 0, .int 0, .int (-1), .ref (a 4), .int 0, .int 0, .int 0, .int 0, .int 0, .int 0, .int 0, .int 0, .int 0, .int 0, .int 0, .ref (a 5), .ref (a 6), .ref (a 7), .ref (a 8), .ref (a 9), .ref (a 10), .ref (a 11), .ref (a 12), .ref (a 13), .ref (a 14), .ref (a 15), .ref (a 16), .ref (a 17), .ref (a 18), .ref (a 19), .ref (a 20), .ref (a 21), .ref (a 22), .ref (a 23), .ref (a 24), .ref (a 25), .ref (a 26), .ref (a 27), .ref (a 28), .ref (a 29), .ref (a 30), .int 0, .ref (a 31), .ref (a 32)]))] [] sz)) (va_Qi (fun (r : Int32) (_ : Unit) => (r = 0)) (cB G (fun (_ : Unit) => [(h, .inr (12, [.ref (a 0), .ref (a 1), .ref (a 2), .ref (a 3), .int 0, .int 0, .int 0, .int 0, .int 0, .int 0, .int 0, .int (-1), .ref (a 4), .int 0, .int 0, .int 0, .int 0, .int 0, .int 0, .int 0, .int 0, .int 0, .int 0, .int 0, .ref (a 5), .ref (a 6), .ref (a 7), .ref (a 8), .ref (a 9), .ref (a 10), .ref (a 11), .ref (a 12), .ref (a 13), .ref (a 14), .ref (a 15), .ref (a 16), .ref (a 17), .ref (a 18), .ref (a 19), .ref (a 20), .ref (a 21), .ref (a 22), .ref (a 23), .ref (a 24), .ref (a 25), .ref (a 26), .ref (a 27), .ref (a 28), .ref (a 29), .ref (a 30), .int 0, .ref (a 31), .ref (a 32)]))]) (fun (_ : Unit) => []) (va_A [(h, .inr (12, [.ref (a 0), .ref (a 1), .ref (a 2), .ref (a 3), .int 0, .int 0, .int 0, .int 0, .int 0, .int 0, .int 0, .int (-1), .ref (a 4), .int 0, .int 0, .int 0, .int 0, .int 0, .int 0, .int 0, .int 0, .int 0, .int 0, .int 0, .ref (a 5), .ref (a 6), .ref (a 7), .ref (a 8), .ref (a 9), .ref (a 10), .ref (a 11), .ref (a 12), .ref (a 13), .ref (a 14), .ref (a 15), .ref (a 16), .ref (a 17), .ref (a 18), .ref (a 19), .ref (a 20), .ref (a 21), .ref (a 22), .ref (a 23), .ref (a 24), .ref (a 25), .ref (a 26), .ref (a 27), .ref (a 28), .ref (a 29), .ref (a 30), .int 0, .ref (a 31), .ref (a 32)]))] sz)) (va_A [(h, .inr (12, [.ref (a 0), .ref (a 1), .ref (a 2), .ref (a 3), .int 0, .int 0, .int 0, .int 0, .int 0, .int 0, .int 0, .int (-1), .ref (a 4), .int 0, .int 0, .int 0, .int 0, .int 0, .int 0, .int 0, .int 0, .int 0, .int 0, .int 0, .ref (a 5), .ref (a 6), .ref (a 7), .ref (a 8), .ref (a 9), .ref (a 10), .ref (a 11), .ref (a 12), .ref (a 13), .ref (a 14), .ref (a 15), .ref (a 16), .ref (a 17), .ref (a 18), .ref (a 19), .ref (a 20), .ref (a 21), .ref (a 22), .ref (a 23), .ref (a 24), .ref (a 25), .ref (a 26), .ref (a 27), .ref (a 28), .ref (a 29), .ref (a 30), .int 0, .ref (a 31), .ref (a 32)]))] sz)) 0 0 (va_A [(h, .inr (12, [.ref (a 0), .ref (a 1), .ref (a 2), .ref (a 3), .int 0, .int 0, .int 0, .int 0, .int 0, .int 0, .int 0, .int (-1), .ref (a 4), .int 0, .int 0, .int 0, .int 0, .int 0, .int 0, .int 0, .int 0, .int 0, .int 0, .int 0, .ref (a 5), .ref (a 6), .ref (a 7), .ref (a 8), .ref (a 9), .ref (a 10), .ref (a 11), .ref (a 12), .ref (a 13), .ref (a 14), .ref (a 15), .ref (a 16), .ref (a 17), .ref (a 18), .ref (a 19), .ref (a 20), .ref (a 21), .ref (a 22), .ref (a 23), .ref (a 24), .ref (a 25), .ref (a 26), .ref (a 27), .ref (a 28), .ref (a 29), .ref (a 30), .int 0, .ref (a 31), .ref (a 32)]))] sz) := by
  refine ofC_i (cc := cX12_byteAt) (maxL := 2) (ret := (some .int)) (by decide) rfl (Nat.le_of_ble_eq_true rfl) ?_
  intro p e s m args below meth c A ls Q F hr hin hlk St hl hQ
  have hx := F.1
  have hb := F.2.1
  have hl : lv_has ls 2 [(0, .ref h), (1, .int 0)] := hl
  have St : cS G k [(h, .inr (12, [.ref (a 0), .ref (a 1), .ref (a 2), .ref (a 3), .int 0, .int 0, .int 0, .int 0, .int 0, .int 0, .int 0, .int (-1), .ref (a 4), .int 0, .int 0, .int 0, .int 0, .int 0, .int 0, .int 0, .int 0, .int 0, .int 0, .int 0, .ref (a 5), .ref (a 6), .ref (a 7), .ref (a 8), .ref (a 9), .ref (a 10), .ref (a 11), .ref (a 12), .ref (a 13), .ref (a 14), .ref (a 15), .ref (a 16), .ref (a 17), .ref (a 18), .ref (a 19), .ref (a 20), .ref (a 21), .ref (a 22), .ref (a 23), .ref (a 24), .ref (a 25), .ref (a 26), .ref (a 27), .ref (a 28), .ref (a 29), .ref (a 30), .int 0, .ref (a 31), .ref (a 32)]))] [] A s s.heap [] := St
  refine lv_iload_n hx hb dX12_byteAt_0 rfl (lv_at hl 1 rfl) ?_
  refine lv_aload_n hx hb dX12_byteAt_1 rfl (lv_at hl 0 rfl) ?_
  refine cs_get F St 0 rfl rfl inX12 5 (by decide) kf_X12_17 rfl dX12_byteAt_2 ?_
  refine lv_icmp_ge (tgt := 21) hx hb dX12_byteAt_5 (by decide) (fun c5 => ?_) (fun c5 => ?_)
  rotate_left
  · exact absurd (by decide) c5
  refine lv_iconst (v := 0) hx hb dX12_byteAt_21 (by decide) ?_
  exact cs_iret F hr hlk hQ St () (r := 0) rfl [0] rfl (by decide) [] rfl (by decide) (by decide) dX12_byteAt_22
set_option maxHeartbeats 4000000 in
set_option maxRecDepth 100000 in
theorem m_scan (l : Launch) (G : va_G) (k : Nat → Nat) (sz : Nat) (h : Nat) (a : Nat → Nat) (d : Nat → ClassId) : Met l yX12_scan (Cond.code yX12_scan cX12_scan 2 none :: tb) ({ frames := 1, cells := 0, slots := 0, locals := 21 } : Room) (va_Pc [.ref h] (cP G k [(h, .inr (12, [.ref (a 0), .ref (a 1), .ref (a 2), .ref (a 3), .int 0, .int 0, .int 0, .int 0, .int 0, .int 0, .int 0, .int (-1), .ref (a 4), .int 0, .int 0, .int 0, .int 0, .int 0, .int 0, .int 0, .int 0, .int 0, .int 0, .int 0, .ref (a 5), .ref (a 6), .ref (a 7), .ref (a 8), .ref (a 9), .ref (a 10), .ref (a 11), .ref (a 12), .ref (a 13), .ref (a 14), .ref (a 15), .ref (a 16), .ref (a 17), .ref (a 18), .ref (a 19), .ref (a 20), .ref (a 21), .ref (a 22), .ref (a 23), .ref (a 24), .ref (a 25), .ref (a 26), .ref (a 27), .ref (a 28), .ref (a 29), .ref (a 30), .int 0, .ref (a 31), .ref (a 32)]))] [] sz)) (va_Qv (fun (_ : Unit) => True) (cB G (fun (_ : Unit) => [(h, .inr (12, [.ref (a 0), .ref (a 1), .ref (a 2), .ref (a 3), .int 0, .int 0, .int 0, .int 0, .int 0, .int 0, .int 0, .int (-1), .ref (a 4), .int 0, .int 0, .int 0, .int 0, .int 0, .int 0, .int 0, .int 0, .int 0, .int 0, .int 0, .ref (a 5), .ref (a 6), .ref (a 7), .ref (a 8), .ref (a 9), .ref (a 10), .ref (a 11), .ref (a 12), .ref (a 13), .ref (a 14), .ref (a 15), .ref (a 16), .ref (a 17), .ref (a 18), .ref (a 19), .ref (a 20), .ref (a 21), .ref (a 22), .ref (a 23), .ref (a 24), .ref (a 25), .ref (a 26), .ref (a 27), .ref (a 28), .ref (a 29), .ref (a 30), .int 0, .ref (a 31), .ref (a 32)]))]) (fun (_ : Unit) => []) (va_A [(h, .inr (12, [.ref (a 0), .ref (a 1), .ref (a 2), .ref (a 3), .int 0, .int 0, .int 0, .int 0, .int 0, .int 0, .int 0, .int (-1), .ref (a 4), .int 0, .int 0, .int 0, .int 0, .int 0, .int 0, .int 0, .int 0, .int 0, .int 0, .int 0, .ref (a 5), .ref (a 6), .ref (a 7), .ref (a 8), .ref (a 9), .ref (a 10), .ref (a 11), .ref (a 12), .ref (a 13), .ref (a 14), .ref (a 15), .ref (a 16), .ref (a 17), .ref (a 18), .ref (a 19), .ref (a 20), .ref (a 21), .ref (a 22), .ref (a 23), .ref (a 24), .ref (a 25), .ref (a 26), .ref (a 27), .ref (a 28), .ref (a 29), .ref (a 30), .int 0, .ref (a 31), .ref (a 32)]))] sz)) (va_A [(h, .inr (12, [.ref (a 0), .ref (a 1), .ref (a 2), .ref (a 3), .int 0, .int 0, .int 0, .int 0, .int 0, .int 0, .int 0, .int (-1), .ref (a 4), .int 0, .int 0, .int 0, .int 0, .int 0, .int 0, .int 0, .int 0, .int 0, .int 0, .int 0, .ref (a 5), .ref (a 6), .ref (a 7), .ref (a 8), .ref (a 9), .ref (a 10), .ref (a 11), .ref (a 12), .ref (a 13), .ref (a 14), .ref (a 15), .ref (a 16), .ref (a 17), .ref (a 18), .ref (a 19), .ref (a 20), .ref (a 21), .ref (a 22), .ref (a 23), .ref (a 24), .ref (a 25), .ref (a 26), .ref (a 27), .ref (a 28), .ref (a 29), .ref (a 30), .int 0, .ref (a 31), .ref (a 32)]))] sz)) 0 0 (va_A [(h, .inr (12, [.ref (a 0), .ref (a 1), .ref (a 2), .ref (a 3), .int 0, .int 0, .int 0, .int 0, .int 0, .int 0, .int 0, .int (-1), .ref (a 4), .int 0, .int 0, .int 0, .int 0, .int 0, .int 0, .int 0, .int 0, .int 0, .int 0, .int 0, .ref (a 5), .ref (a 6), .ref (a 7), .ref (a 8), .ref (a 9), .ref (a 10), .ref (a 11), .ref (a 12), .ref (a 13), .ref (a 14), .ref (a 15), .ref (a 16), .ref (a 17), .ref (a 18), .ref (a 19), .ref (a 20), .ref (a 21), .ref (a 22), .ref (a 23), .ref (a 24), .ref (a 25), .ref (a 26), .ref (a 27), .ref (a 28), .ref (a 29), .ref (a 30), .int 0, .ref (a 31), .ref (a 32)]))] sz) := by
  refine ofC_v (cc := cX12_scan) (maxL := 2) (ret := none) (by decide) rfl (Nat.le_of_ble_eq_true rfl) ?_
  intro p e s m args below meth c A ls Q F hr hin hlk St hl hQ
  have hx := F.1
  have hb := F.2.1
  have hl : lv_has ls 2 [(0, .ref h)] := hl
  have St : cS G k [(h, .inr (12, [.ref (a 0), .ref (a 1), .ref (a 2), .ref (a 3), .int 0, .int 0, .int 0, .int 0, .int 0, .int 0, .int 0, .int (-1), .ref (a 4), .int 0, .int 0, .int 0, .int 0, .int 0, .int 0, .int 0, .int 0, .int 0, .int 0, .int 0, .ref (a 5), .ref (a 6), .ref (a 7), .ref (a 8), .ref (a 9), .ref (a 10), .ref (a 11), .ref (a 12), .ref (a 13), .ref (a 14), .ref (a 15), .ref (a 16), .ref (a 17), .ref (a 18), .ref (a 19), .ref (a 20), .ref (a 21), .ref (a 22), .ref (a 23), .ref (a 24), .ref (a 25), .ref (a 26), .ref (a 27), .ref (a 28), .ref (a 29), .ref (a 30), .int 0, .ref (a 31), .ref (a 32)]))] [] A s s.heap [] := St
  refine lv_aload_n hx hb dX12_scan_0 rfl (lv_at hl 0 rfl) ?_
  refine cs_get F St 0 rfl rfl inX12 7 (by decide) kf_X12_24 rfl dX12_scan_1 ?_
  refine lv_aload_n hx hb dX12_scan_4 rfl (lv_at hl 0 rfl) ?_
  refine cs_get F St 0 rfl rfl inX12 5 (by decide) kf_X12_17 rfl dX12_scan_5 ?_
  refine lv_icmp_ge (tgt := 52) hx hb dX12_scan_8 (by decide) (fun c8 => ?_) (fun c8 => ?_)
  rotate_left
  · exact absurd (by decide) c8
  refine lv_aload_n hx hb dX12_scan_52 rfl (lv_at hl 0 rfl) ?_
  refine lv_aload_n hx hb dX12_scan_53 rfl (lv_at hl 0 rfl) ?_
  refine cs_get F St 0 rfl rfl inX12 7 (by decide) kf_X12_24 rfl dX12_scan_54 ?_
  refine cs_put F St 0 rfl rfl inX12 tyX12_ok nmX12 6 (by decide) kf_X12_7 rfl rfl rfl (Nat.le_of_ble_eq_true rfl) (w' := [(h, .inr (12, [.ref (a 0), .ref (a 1), .ref (a 2), .ref (a 3), .int 0, .int 0, .int 0, .int 0, .int 0, .int 0, .int 0, .int (-1), .ref (a 4), .int 0, .int 0, .int 0, .int 0, .int 0, .int 0, .int 0, .int 0, .int 0, .int 0, .int 0, .ref (a 5), .ref (a 6), .ref (a 7), .ref (a 8), .ref (a 9), .ref (a 10), .ref (a 11), .ref (a 12), .ref (a 13), .ref (a 14), .ref (a 15), .ref (a 16), .ref (a 17), .ref (a 18), .ref (a 19), .ref (a 20), .ref (a 21), .ref (a 22), .ref (a 23), .ref (a 24), .ref (a 25), .ref (a 26), .ref (a 27), .ref (a 28), .ref (a 29), .ref (a 30), .int 0, .ref (a 31), .ref (a 32)]))]) rfl dX12_scan_57 (fun H locs St => ?_)
  refine lv_aload_n hx hb dX12_scan_60 rfl (lv_at hl 0 rfl) ?_
  refine lv_aload_n hx hb dX12_scan_61 rfl (lv_at hl 0 rfl) ?_
  refine cs_get F St 0 rfl rfl inX12 6 (by decide) kf_X12_7 rfl dX12_scan_62 ?_
  refine cs_i St [0] [] (wc := [(h, .inr (12, [.ref (a 0), .ref (a 1), .ref (a 2), .ref (a 3), .int 0, .int 0, .int 0, .int 0, .int 0, .int 0, .int 0, .int (-1), .ref (a 4), .int 0, .int 0, .int 0, .int 0, .int 0, .int 0, .int 0, .int 0, .int 0, .int 0, .int 0, .ref (a 5), .ref (a 6), .ref (a 7), .ref (a 8), .ref (a 9), .ref (a 10), .ref (a 11), .ref (a 12), .ref (a 13), .ref (a 14), .ref (a 15), .ref (a 16), .ref (a 17), .ref (a 18), .ref (a 19), .ref (a 20), .ref (a 21), .ref (a 22), .ref (a 23), .ref (a 24), .ref (a 25), .ref (a 26), .ref (a 27), .ref (a 28), .ref (a 29), .ref (a 30), .int 0, .ref (a 31), .ref (a 32)]))]) (wr := []) rfl rfl (by decide) (by decide) (va_runV (As := [.int 0]) (rest := []) F (m_byteAt l G k _ h a (fun _ => default)) (cwVt F mf_X12_byteAt km_X12_27 rfl rfl ⟨Nat.le_of_ble_eq_true rfl, Nat.le_of_ble_eq_true rfl⟩) (cs_preV St [0] rfl (by decide) [] rfl (ci := 12) (q0 := 0) rfl rfl) rfl rfl hl.1 rfl (lv_room (Nat.le_of_ble_eq_true rfl)) dX12_scan_65 ⟨Nat.le_of_ble_eq_true rfl, Nat.le_of_ble_eq_true rfl⟩) (fun r_1 u_2 H locs hw St => ?_)
  try dsimp only at hw
  have z_3 := hw
  subst r_1
  have St : cS G k [(h, .inr (12, [.ref (a 0), .ref (a 1), .ref (a 2), .ref (a 3), .int 0, .int 0, .int 0, .int 0, .int 0, .int 0, .int 0, .int (-1), .ref (a 4), .int 0, .int 0, .int 0, .int 0, .int 0, .int 0, .int 0, .int 0, .int 0, .int 0, .int 0, .ref (a 5), .ref (a 6), .ref (a 7), .ref (a 8), .ref (a 9), .ref (a 10), .ref (a 11), .ref (a 12), .ref (a 13), .ref (a 14), .ref (a 15), .ref (a 16), .ref (a 17), .ref (a 18), .ref (a 19), .ref (a 20), .ref (a 21), .ref (a 22), .ref (a 23), .ref (a 24), .ref (a 25), .ref (a 26), .ref (a 27), .ref (a 28), .ref (a 29), .ref (a 30), .int 0, .ref (a 31), .ref (a 32)]))] [] A s H locs := St
  refine lv_istore_n (lv' := [(1, .int 0), (0, .ref h)]) hx hb dX12_scan_68 rfl hl (by decide) rfl (fun ls hl => ?_)
  refine lv_aload_n hx hb dX12_scan_69 rfl (lv_at hl 1 rfl) ?_
  refine cs_get F St 0 rfl rfl inX12 6 (by decide) kf_X12_7 rfl dX12_scan_70 ?_
  refine lv_aload_n hx hb dX12_scan_73 rfl (lv_at hl 1 rfl) ?_
  refine cs_get F St 0 rfl rfl inX12 5 (by decide) kf_X12_17 rfl dX12_scan_74 ?_
  refine lv_icmp_ne (tgt := 88) hx hb dX12_scan_77 (by decide) (fun c77 => ?_) (fun c77 => ?_)
  · exact absurd c77 (by decide)
  refine lv_aload_n hx hb dX12_scan_80 rfl (lv_at hl 1 rfl) ?_
  refine lv_iconst (v := 0) hx hb dX12_scan_81 (by decide) ?_
  refine cs_put F St 0 rfl rfl inX12 tyX12_ok nmX12 8 (by decide) kf_X12_31 rfl rfl rfl (Nat.le_of_ble_eq_true rfl) (w' := [(h, .inr (12, [.ref (a 0), .ref (a 1), .ref (a 2), .ref (a 3), .int 0, .int 0, .int 0, .int 0, .int 0, .int 0, .int 0, .int (-1), .ref (a 4), .int 0, .int 0, .int 0, .int 0, .int 0, .int 0, .int 0, .int 0, .int 0, .int 0, .int 0, .ref (a 5), .ref (a 6), .ref (a 7), .ref (a 8), .ref (a 9), .ref (a 10), .ref (a 11), .ref (a 12), .ref (a 13), .ref (a 14), .ref (a 15), .ref (a 16), .ref (a 17), .ref (a 18), .ref (a 19), .ref (a 20), .ref (a 21), .ref (a 22), .ref (a 23), .ref (a 24), .ref (a 25), .ref (a 26), .ref (a 27), .ref (a 28), .ref (a 29), .ref (a 30), .int 0, .ref (a 31), .ref (a 32)]))]) rfl dX12_scan_82 (fun H locs St => ?_)
  refine lv_goto (tgt := 257) hx hb dX12_scan_85 (by decide) ?_
  exact cs_vret F hr hlk hQ St () (by trivial) [0] rfl (by decide) [] rfl (by decide) (by decide) dX12_scan_257
set_option maxHeartbeats 4000000 in
set_option maxRecDepth 100000 in
theorem m_readTrust (l : Launch) (G : va_G) (k : Nat → Nat) (sz : Nat) (h : Nat) (a : Nat → Nat) (d : Nat → ClassId) (f0 : Nat → Int32) (f1 : Nat → Int32) : Met l yX12_readTrust (Cond.code yX12_readTrust cX12_readTrust 3 (some .int) :: tb) ({ frames := 0, cells := 0, slots := 0, locals := 0 } : Room) (va_Pc [.ref h] (cP G k [(h, .inr (12, [.ref (a 0), .ref (a 1), .ref (a 2), .ref (a 3), .int 0, .int 0, .int 0, .int 0, .int 0, .int 0, .int 0, .int (-1), .ref (a 4), .int 0, .int 0, .int 0, .int 0, .int 0, .int 0, .int 0, .int 0, .int 0, .int 0, .int 0, .ref (a 5), .ref (a 6), .ref (a 7), .ref (a 8), .ref (a 9), .ref (a 10), .ref (a 11), .ref (a 12), .ref (a 13), .ref (a 14), .ref (a 15), .ref (a 16), .ref (a 17), .ref (a 18), .ref (a 19), .ref (a 20), .ref (a 21), .ref (a 22), .ref (a 23), .ref (a 24), .ref (a 25), .ref (a 26), .ref (a 27), .ref (a 28), .ref (a 29), .ref (a 30), .int 0, .ref (a 31), .ref (a 32)])), ((a 1), .inl ((d 1), 9, .inl f0)), ((a 4), .inl ((d 4), 6, .inl f1))] [((d 1), .int), ((d 4), .boolean)] sz)) (va_Qi (fun (r : Int32) (u : (Nat → Int32) × (Nat → Int32)) => match u with | (g0, g1) => (r = 0)) (cB G (fun u => match u with | (g0, g1) => [(h, .inr (12, [.ref (a 0), .ref (a 1), .ref (a 2), .ref (a 3), .int 0, .int 0, .int 0, .int 0, .int 0, .int 0, .int 0, .int (-1), .ref (a 4), .int 0, .int 0, .int 0, .int 0, .int 0, .int 0, .int 0, .int 0, .int 0, .int 0, .int 0, .ref (a 5), .ref (a 6), .ref (a 7), .ref (a 8), .ref (a 9), .ref (a 10), .ref (a 11), .ref (a 12), .ref (a 13), .ref (a 14), .ref (a 15), .ref (a 16), .ref (a 17), .ref (a 18), .ref (a 19), .ref (a 20), .ref (a 21), .ref (a 22), .ref (a 23), .ref (a 24), .ref (a 25), .ref (a 26), .ref (a 27), .ref (a 28), .ref (a 29), .ref (a 30), .int 0, .ref (a 31), .ref (a 32)])), ((a 1), .inl ((d 1), 9, .inl g0)), ((a 4), .inl ((d 4), 6, .inl g1))]) (fun u => match u with | (g0, g1) => []) (va_A [(h, .inr (12, [.ref (a 0), .ref (a 1), .ref (a 2), .ref (a 3), .int 0, .int 0, .int 0, .int 0, .int 0, .int 0, .int 0, .int (-1), .ref (a 4), .int 0, .int 0, .int 0, .int 0, .int 0, .int 0, .int 0, .int 0, .int 0, .int 0, .int 0, .ref (a 5), .ref (a 6), .ref (a 7), .ref (a 8), .ref (a 9), .ref (a 10), .ref (a 11), .ref (a 12), .ref (a 13), .ref (a 14), .ref (a 15), .ref (a 16), .ref (a 17), .ref (a 18), .ref (a 19), .ref (a 20), .ref (a 21), .ref (a 22), .ref (a 23), .ref (a 24), .ref (a 25), .ref (a 26), .ref (a 27), .ref (a 28), .ref (a 29), .ref (a 30), .int 0, .ref (a 31), .ref (a 32)])), ((a 1), .inl ((d 1), 9, .inl f0)), ((a 4), .inl ((d 4), 6, .inl f1))] sz)) (va_A [(h, .inr (12, [.ref (a 0), .ref (a 1), .ref (a 2), .ref (a 3), .int 0, .int 0, .int 0, .int 0, .int 0, .int 0, .int 0, .int (-1), .ref (a 4), .int 0, .int 0, .int 0, .int 0, .int 0, .int 0, .int 0, .int 0, .int 0, .int 0, .int 0, .ref (a 5), .ref (a 6), .ref (a 7), .ref (a 8), .ref (a 9), .ref (a 10), .ref (a 11), .ref (a 12), .ref (a 13), .ref (a 14), .ref (a 15), .ref (a 16), .ref (a 17), .ref (a 18), .ref (a 19), .ref (a 20), .ref (a 21), .ref (a 22), .ref (a 23), .ref (a 24), .ref (a 25), .ref (a 26), .ref (a 27), .ref (a 28), .ref (a 29), .ref (a 30), .int 0, .ref (a 31), .ref (a 32)])), ((a 1), .inl ((d 1), 9, .inl f0)), ((a 4), .inl ((d 4), 6, .inl f1))] sz)) 0 0 (va_A [(h, .inr (12, [.ref (a 0), .ref (a 1), .ref (a 2), .ref (a 3), .int 0, .int 0, .int 0, .int 0, .int 0, .int 0, .int 0, .int (-1), .ref (a 4), .int 0, .int 0, .int 0, .int 0, .int 0, .int 0, .int 0, .int 0, .int 0, .int 0, .int 0, .ref (a 5), .ref (a 6), .ref (a 7), .ref (a 8), .ref (a 9), .ref (a 10), .ref (a 11), .ref (a 12), .ref (a 13), .ref (a 14), .ref (a 15), .ref (a 16), .ref (a 17), .ref (a 18), .ref (a 19), .ref (a 20), .ref (a 21), .ref (a 22), .ref (a 23), .ref (a 24), .ref (a 25), .ref (a 26), .ref (a 27), .ref (a 28), .ref (a 29), .ref (a 30), .int 0, .ref (a 31), .ref (a 32)])), ((a 1), .inl ((d 1), 9, .inl f0)), ((a 4), .inl ((d 4), 6, .inl f1))] sz) := by
  refine ofC_i (cc := cX12_readTrust) (maxL := 3) (ret := (some .int)) (by decide) rfl (Nat.le_of_ble_eq_true rfl) ?_
  intro p e s m args below meth c A ls Q F hr hin hlk St hl hQ
  have hx := F.1
  have hb := F.2.1
  have hl : lv_has ls 3 [(0, .ref h)] := hl
  have St : cS G k [(h, .inr (12, [.ref (a 0), .ref (a 1), .ref (a 2), .ref (a 3), .int 0, .int 0, .int 0, .int 0, .int 0, .int 0, .int 0, .int (-1), .ref (a 4), .int 0, .int 0, .int 0, .int 0, .int 0, .int 0, .int 0, .int 0, .int 0, .int 0, .int 0, .ref (a 5), .ref (a 6), .ref (a 7), .ref (a 8), .ref (a 9), .ref (a 10), .ref (a 11), .ref (a 12), .ref (a 13), .ref (a 14), .ref (a 15), .ref (a 16), .ref (a 17), .ref (a 18), .ref (a 19), .ref (a 20), .ref (a 21), .ref (a 22), .ref (a 23), .ref (a 24), .ref (a 25), .ref (a 26), .ref (a 27), .ref (a 28), .ref (a 29), .ref (a 30), .int 0, .ref (a 31), .ref (a 32)])), ((a 1), .inl ((d 1), 9, .inl f0)), ((a 4), .inl ((d 4), 6, .inl f1))] [((d 1), .int), ((d 4), .boolean)] A s s.heap [] := St
  refine lv_iconst (v := 0) hx hb dX12_readTrust_0 (by decide) ?_
  refine lv_istore_n (lv' := [(1, .int 0), (0, .ref h)]) hx hb dX12_readTrust_1 rfl hl (by decide) rfl (fun ls hl => ?_)
  have lp2 : ∀ (n : Nat) (i : Int32) (fr : Nat → Int32) (H : Heap) (locs : List Loc) (ls : Array Slot), (0 ≤ i.toInt ∧ i.toInt ≤ 9) → ((9 - i.toInt).toNat) < n → cS G k [(h, .inr (12, [.ref (a 0), .ref (a 1), .ref (a 2), .ref (a 3), .int 0, .int 0, .int 0, .int 0, .int 0, .int 0, .int 0, .int (-1), .ref (a 4), .int 0, .int 0, .int 0, .int 0, .int 0, .int 0, .int 0, .int 0, .int 0, .int 0, .int 0, .ref (a 5), .ref (a 6), .ref (a 7), .ref (a 8), .ref (a 9), .ref (a 10), .ref (a 11), .ref (a 12), .ref (a 13), .ref (a 14), .ref (a 15), .ref (a 16), .ref (a 17), .ref (a 18), .ref (a 19), .ref (a 20), .ref (a 21), .ref (a 22), .ref (a 23), .ref (a 24), .ref (a 25), .ref (a 26), .ref (a 27), .ref (a 28), .ref (a 29), .ref (a 30), .int 0, .ref (a 31), .ref (a 32)])), ((a 1), .inl ((d 1), 9, .inl fr)), ((a 4), .inl ((d 4), 6, .inl f1))] [((d 1), .int), ((d 4), .boolean)] A s H locs → lv_has ls 3 [(1, .int i), (0, .ref h)] → W p l e ({ frames := 0, cells := 0, slots := 0, locals := 0 } : Room) s m args below meth c H locs 0 0 Q (F0 m 2 ls []) := by
    intro n
    induction n with
    | zero => intro i fr H locs ls hI hn; exact absurd hn (Nat.not_lt_zero _)
    | succ n ih =>
      intro i fr H locs ls hI hn St hl
      obtain ⟨hI0, hI1⟩ := hI
      refine lv_iload_n hx hb dX12_readTrust_2 rfl (lv_at hl 0 rfl) ?_
      refine lv_bipush (v := 9) hx hb dX12_readTrust_3 (by decide) ?_
      refine lv_icmp_ge (tgt := 25) hx hb dX12_readTrust_5 (by decide) (fun c5 => ?_) (fun c5 => ?_)
      ·
        have i5 := ci_le (x := 9) (y := i) (show (9 : Int32).toInt = 9 by decide) rfl c5
        refine lv_iconst (v := 0) hx hb dX12_readTrust_25 (by decide) ?_
        refine lv_istore_n (lv' := [(1, .int 0), (0, .ref h)]) hx hb dX12_readTrust_26 rfl hl (by decide) rfl (fun ls hl => ?_)
        have lp27 : ∀ (n : Nat) (i : Int32) (ft : Nat → Int32) (H : Heap) (locs : List Loc) (ls : Array Slot), (0 ≤ i.toInt ∧ i.toInt ≤ 6) → ((6 - i.toInt).toNat) < n → cS G k [(h, .inr (12, [.ref (a 0), .ref (a 1), .ref (a 2), .ref (a 3), .int 0, .int 0, .int 0, .int 0, .int 0, .int 0, .int 0, .int (-1), .ref (a 4), .int 0, .int 0, .int 0, .int 0, .int 0, .int 0, .int 0, .int 0, .int 0, .int 0, .int 0, .ref (a 5), .ref (a 6), .ref (a 7), .ref (a 8), .ref (a 9), .ref (a 10), .ref (a 11), .ref (a 12), .ref (a 13), .ref (a 14), .ref (a 15), .ref (a 16), .ref (a 17), .ref (a 18), .ref (a 19), .ref (a 20), .ref (a 21), .ref (a 22), .ref (a 23), .ref (a 24), .ref (a 25), .ref (a 26), .ref (a 27), .ref (a 28), .ref (a 29), .ref (a 30), .int 0, .ref (a 31), .ref (a 32)])), ((a 1), .inl ((d 1), 9, .inl fr)), ((a 4), .inl ((d 4), 6, .inl ft))] [((d 1), .int), ((d 4), .boolean)] A s H locs → lv_has ls 3 [(1, .int i), (0, .ref h)] → W p l e ({ frames := 0, cells := 0, slots := 0, locals := 0 } : Room) s m args below meth c H locs 0 0 Q (F0 m 27 ls []) := by
          intro n
          induction n with
          | zero => intro i ft H locs ls hI hn; exact absurd hn (Nat.not_lt_zero _)
          | succ n ih =>
            intro i ft H locs ls hI hn St hl
            obtain ⟨hI0, hI1⟩ := hI
            refine lv_iload_n hx hb dX12_readTrust_27 rfl (lv_at hl 0 rfl) ?_
            refine lv_aload_n hx hb dX12_readTrust_28 rfl (lv_at hl 1 rfl) ?_
            refine cs_get F St 0 rfl rfl inX12 12 (by decide) kf_X12_89 rfl dX12_readTrust_29 ?_
            refine cs_len F St 2 1 rfl rfl (v := 6) rfl dX12_readTrust_32 ?_
            refine lv_icmp_ge (tgt := 49) hx hb dX12_readTrust_33 (by decide) (fun c33 => ?_) (fun c33 => ?_)
            ·
              have i33 := ci_le (x := 6) (y := i) (show (6 : Int32).toInt = 6 by decide) rfl c33
              refine lv_iconst (v := 0) hx hb dX12_readTrust_49 (by decide) ?_
              refine lv_istore_n (lv' := [(1, .int 0), (0, .ref h)]) hx hb dX12_readTrust_50 rfl hl (by decide) rfl (fun ls hl => ?_)
              refine lv_aload_n hx hb dX12_readTrust_51 rfl (lv_at hl 1 rfl) ?_
              refine cs_get F St 0 rfl rfl inX12 8 (by decide) kf_X12_31 rfl dX12_readTrust_52 ?_
              refine lv_if_eq (tgt := 129) hx hb dX12_readTrust_55 (by decide) (fun c55 => ?_) (fun c55 => ?_)
              rotate_left
              · exact absurd (by decide) c55
              refine lv_iload_n hx hb dX12_readTrust_129 rfl (lv_at hl 0 rfl) ?_
              exact cs_iret F hr hlk hQ St (fr, ft) (r := 0) rfl [0, 1, 2] rfl (by decide) [] rfl (by decide) (by decide) dX12_readTrust_130
            ·
              have i33 := ci_nle (x := 6) (y := i) (show (6 : Int32).toInt = 6 by decide) rfl c33
              refine lv_aload_n hx hb dX12_readTrust_36 rfl (lv_at hl 1 rfl) ?_
              refine cs_get F St 0 rfl rfl inX12 12 (by decide) kf_X12_89 rfl dX12_readTrust_37 ?_
              refine lv_iload_n hx hb dX12_readTrust_40 rfl (lv_at hl 0 rfl) ?_
              refine lv_iconst (v := 0) hx hb dX12_readTrust_41 (by decide) ?_
              refine cs_zst F St 2 1 rfl rfl (vp_in_iff.mpr ⟨by omega, by omega⟩) (w' := [(h, .inr (12, [.ref (a 0), .ref (a 1), .ref (a 2), .ref (a 3), .int 0, .int 0, .int 0, .int 0, .int 0, .int 0, .int 0, .int (-1), .ref (a 4), .int 0, .int 0, .int 0, .int 0, .int 0, .int 0, .int 0, .int 0, .int 0, .int 0, .int 0, .ref (a 5), .ref (a 6), .ref (a 7), .ref (a 8), .ref (a 9), .ref (a 10), .ref (a 11), .ref (a 12), .ref (a 13), .ref (a 14), .ref (a 15), .ref (a 16), .ref (a 17), .ref (a 18), .ref (a 19), .ref (a 20), .ref (a 21), .ref (a 22), .ref (a 23), .ref (a 24), .ref (a 25), .ref (a 26), .ref (a 27), .ref (a 28), .ref (a 29), .ref (a 30), .int 0, .ref (a 31), .ref (a 32)])), ((a 1), .inl ((d 1), 9, .inl fr)), ((a 4), .inl ((d 4), 6, .inl (upd ft (i : Int32).toNatClampNeg (vp_nar .boolean 0))))]) rfl dX12_readTrust_42 (fun H locs St => ?_)
              obtain ⟨f_1, ef_1⟩ : ∃ zz : Nat → Int32, zz = upd ft (i : Int32).toNatClampNeg (vp_nar .boolean 0) := ⟨_, rfl⟩
              rw [← ef_1] at St
              obtain ⟨y_2, ey_2⟩ : ∃ zz : Int32, zz = i + 1 := ⟨_, rfl⟩
              have jy_2 := ci_add (x := i) rfl (show (1 : Int32).toInt = 1 by decide) ey_2
              refine lv_iinc (v := y_2) (lv' := [(1, .int y_2), (0, .ref h)]) hx hb dX12_readTrust_43 hl (k := 0) rfl (by rw [ey_2]; rfl) (by decide) rfl (fun ls hl => ?_)
              refine lv_goto (tgt := 27) hx hb dX12_readTrust_46 (by decide) ?_
              exact ih y_2 f_1 _ _ _ ⟨by omega, by omega⟩ (by omega) St (lv_sub hl [0, 1] rfl)
        exact lp27 7 0 f1 _ _ _ ⟨by decide, by decide⟩ (by decide) St (lv_sub hl [0, 1] rfl)
      ·
        have i5 := ci_nle (x := 9) (y := i) (show (9 : Int32).toInt = 9 by decide) rfl c5
        refine lv_aload_n hx hb dX12_readTrust_8 rfl (lv_at hl 1 rfl) ?_
        refine cs_get F St 0 rfl rfl inX12 1 (by decide) kf_X12_82 rfl dX12_readTrust_9 ?_
        refine lv_iload_n hx hb dX12_readTrust_12 rfl (lv_at hl 0 rfl) ?_
        refine va_gets hx hb (St.2.2.2.2.2.2.2.2.1) St.toS F.2.2.2.1 (F.2.2.2.2 _ kf_X12_86) (fun _ h => h) dX12_readTrust_13 ?_
        refine lv_iload_n hx hb dX12_readTrust_16 rfl (lv_at hl 0 rfl) ?_
        refine va_ti hx hb (St.2.2.2.2.2.2.2.2.2.1) St.toS (vp_in_iff.mpr ⟨by omega, by omega⟩) (v := .int (untold (i : Int32).toNatClampNeg)) rfl dX12_readTrust_17 ?_
        refine lv_topi (fun y_3 ey_3 => ?_)
        refine cs_ist F St 1 0 rfl rfl (vp_in_iff.mpr ⟨by omega, by omega⟩) (w' := [(h, .inr (12, [.ref (a 0), .ref (a 1), .ref (a 2), .ref (a 3), .int 0, .int 0, .int 0, .int 0, .int 0, .int 0, .int 0, .int (-1), .ref (a 4), .int 0, .int 0, .int 0, .int 0, .int 0, .int 0, .int 0, .int 0, .int 0, .int 0, .int 0, .ref (a 5), .ref (a 6), .ref (a 7), .ref (a 8), .ref (a 9), .ref (a 10), .ref (a 11), .ref (a 12), .ref (a 13), .ref (a 14), .ref (a 15), .ref (a 16), .ref (a 17), .ref (a 18), .ref (a 19), .ref (a 20), .ref (a 21), .ref (a 22), .ref (a 23), .ref (a 24), .ref (a 25), .ref (a 26), .ref (a 27), .ref (a 28), .ref (a 29), .ref (a 30), .int 0, .ref (a 31), .ref (a 32)])), ((a 1), .inl ((d 1), 9, .inl (upd fr (i : Int32).toNatClampNeg y_3))), ((a 4), .inl ((d 4), 6, .inl f1))]) rfl dX12_readTrust_18 (fun H locs St => ?_)
        obtain ⟨f_4, ef_4⟩ : ∃ zz : Nat → Int32, zz = upd fr (i : Int32).toNatClampNeg y_3 := ⟨_, rfl⟩
        rw [← ef_4] at St
        obtain ⟨y_5, ey_5⟩ : ∃ zz : Int32, zz = i + 1 := ⟨_, rfl⟩
        have jy_5 := ci_add (x := i) rfl (show (1 : Int32).toInt = 1 by decide) ey_5
        refine lv_iinc (v := y_5) (lv' := [(1, .int y_5), (0, .ref h)]) hx hb dX12_readTrust_19 hl (k := 0) rfl (by rw [ey_5]; rfl) (by decide) rfl (fun ls hl => ?_)
        refine lv_goto (tgt := 2) hx hb dX12_readTrust_22 (by decide) ?_
        exact ih y_5 f_4 _ _ _ ⟨by omega, by omega⟩ (by omega) St (lv_sub hl [0, 1] rfl)
  exact lp2 10 0 f0 _ _ _ ⟨by decide, by decide⟩ (by decide) St (lv_sub hl [0, 1] rfl)
set_option maxHeartbeats 4000000 in
set_option maxRecDepth 100000 in
theorem m_trust (l : Launch) (G : va_G) (k : Nat → Nat) (sz : Nat) (h : Nat) (a : Nat → Nat) (d : Nat → ClassId) : Met l yX12_trust (Cond.codeWith yX12_trust cX12_trust 3 (some .int) [((28), (37), (40), (117))] :: tb) ({ frames := 2, cells := 0, slots := 0, locals := 42 } : Room) (va_Pc [.ref h] (cP G k [(h, .inr (12, [.ref (a 0), .ref (a 1), .ref (a 2), .ref (a 3), .int 0, .int 0, .int 0, .int 0, .int 0, .int 0, .int 0, .int (-1), .ref (a 4), .int 0, .int 0, .int 0, .int 0, .int 0, .int 0, .int 0, .int 0, .int 0, .int 0, .int 0, .ref (a 5), .ref (a 6), .ref (a 7), .ref (a 8), .ref (a 9), .ref (a 10), .ref (a 11), .ref (a 12), .ref (a 13), .ref (a 14), .ref (a 15), .ref (a 16), .ref (a 17), .ref (a 18), .ref (a 19), .ref (a 20), .ref (a 21), .ref (a 22), .ref (a 23), .ref (a 24), .ref (a 25), .ref (a 26), .ref (a 27), .ref (a 28), .ref (a 29), .ref (a 30), .int 0, .ref (a 31), .ref (a 32)])), ((a 0), .inl ((d 0), 9, .inl untold)), ((a 1), .inl ((d 1), 9, .inl (fun _ => 0))), ((a 4), .inl ((d 4), 6, .inl (fun _ => 0)))] [((d 0), .int), ((d 1), .int), ((d 4), .boolean)] sz)) (va_Qi (fun (r : Int32) (_ : Unit) => (r = 0)) (cB G (fun (_ : Unit) => []) (fun (_ : Unit) => []) (va_A [(h, .inr (12, [.ref (a 0), .ref (a 1), .ref (a 2), .ref (a 3), .int 0, .int 0, .int 0, .int 0, .int 0, .int 0, .int 0, .int (-1), .ref (a 4), .int 0, .int 0, .int 0, .int 0, .int 0, .int 0, .int 0, .int 0, .int 0, .int 0, .int 0, .ref (a 5), .ref (a 6), .ref (a 7), .ref (a 8), .ref (a 9), .ref (a 10), .ref (a 11), .ref (a 12), .ref (a 13), .ref (a 14), .ref (a 15), .ref (a 16), .ref (a 17), .ref (a 18), .ref (a 19), .ref (a 20), .ref (a 21), .ref (a 22), .ref (a 23), .ref (a 24), .ref (a 25), .ref (a 26), .ref (a 27), .ref (a 28), .ref (a 29), .ref (a 30), .int 0, .ref (a 31), .ref (a 32)])), ((a 0), .inl ((d 0), 9, .inl untold)), ((a 1), .inl ((d 1), 9, .inl (fun _ => 0))), ((a 4), .inl ((d 4), 6, .inl (fun _ => 0)))] sz)) (va_A [(h, .inr (12, [.ref (a 0), .ref (a 1), .ref (a 2), .ref (a 3), .int 0, .int 0, .int 0, .int 0, .int 0, .int 0, .int 0, .int (-1), .ref (a 4), .int 0, .int 0, .int 0, .int 0, .int 0, .int 0, .int 0, .int 0, .int 0, .int 0, .int 0, .ref (a 5), .ref (a 6), .ref (a 7), .ref (a 8), .ref (a 9), .ref (a 10), .ref (a 11), .ref (a 12), .ref (a 13), .ref (a 14), .ref (a 15), .ref (a 16), .ref (a 17), .ref (a 18), .ref (a 19), .ref (a 20), .ref (a 21), .ref (a 22), .ref (a 23), .ref (a 24), .ref (a 25), .ref (a 26), .ref (a 27), .ref (a 28), .ref (a 29), .ref (a 30), .int 0, .ref (a 31), .ref (a 32)])), ((a 0), .inl ((d 0), 9, .inl untold)), ((a 1), .inl ((d 1), 9, .inl (fun _ => 0))), ((a 4), .inl ((d 4), 6, .inl (fun _ => 0)))] sz)) 0 0 (va_A [(h, .inr (12, [.ref (a 0), .ref (a 1), .ref (a 2), .ref (a 3), .int 0, .int 0, .int 0, .int 0, .int 0, .int 0, .int 0, .int (-1), .ref (a 4), .int 0, .int 0, .int 0, .int 0, .int 0, .int 0, .int 0, .int 0, .int 0, .int 0, .int 0, .ref (a 5), .ref (a 6), .ref (a 7), .ref (a 8), .ref (a 9), .ref (a 10), .ref (a 11), .ref (a 12), .ref (a 13), .ref (a 14), .ref (a 15), .ref (a 16), .ref (a 17), .ref (a 18), .ref (a 19), .ref (a 20), .ref (a 21), .ref (a 22), .ref (a 23), .ref (a 24), .ref (a 25), .ref (a 26), .ref (a 27), .ref (a 28), .ref (a 29), .ref (a 30), .int 0, .ref (a 31), .ref (a 32)])), ((a 0), .inl ((d 0), 9, .inl untold)), ((a 1), .inl ((d 1), 9, .inl (fun _ => 0))), ((a 4), .inl ((d 4), 6, .inl (fun _ => 0)))] sz) := by
  refine ofCW_i (cc := cX12_trust) (maxL := 3) (ret := (some .int)) (by decide) rfl (Nat.le_of_ble_eq_true rfl) ?_
  intro p e s m args below meth c A ls Q F hr hin hlk St hl hQ
  have hx := F.1
  have hb := F.2.1
  have hl : lv_has ls 3 [(0, .ref h)] := hl
  have St : cS G k [(h, .inr (12, [.ref (a 0), .ref (a 1), .ref (a 2), .ref (a 3), .int 0, .int 0, .int 0, .int 0, .int 0, .int 0, .int 0, .int (-1), .ref (a 4), .int 0, .int 0, .int 0, .int 0, .int 0, .int 0, .int 0, .int 0, .int 0, .int 0, .int 0, .ref (a 5), .ref (a 6), .ref (a 7), .ref (a 8), .ref (a 9), .ref (a 10), .ref (a 11), .ref (a 12), .ref (a 13), .ref (a 14), .ref (a 15), .ref (a 16), .ref (a 17), .ref (a 18), .ref (a 19), .ref (a 20), .ref (a 21), .ref (a 22), .ref (a 23), .ref (a 24), .ref (a 25), .ref (a 26), .ref (a 27), .ref (a 28), .ref (a 29), .ref (a 30), .int 0, .ref (a 31), .ref (a 32)])), ((a 0), .inl ((d 0), 9, .inl untold)), ((a 1), .inl ((d 1), 9, .inl (fun _ => 0))), ((a 4), .inl ((d 4), 6, .inl (fun _ => 0)))] [((d 0), .int), ((d 1), .int), ((d 4), .boolean)] A s s.heap [] := St
  refine lv_aload_n hx hb dX12_trust_0 rfl (lv_at hl 0 rfl) ?_
  refine lv_aload_n hx hb dX12_trust_1 rfl (lv_at hl 0 rfl) ?_
  refine cs_get F St 0 rfl rfl inX12 4 (by decide) kf_X12_203 rfl dX12_trust_2 ?_
  refine cs_put F St 0 rfl rfl inX12 tyX12_ok nmX12 5 (by decide) kf_X12_17 rfl rfl rfl (Nat.le_of_ble_eq_true rfl) (w' := [(h, .inr (12, [.ref (a 0), .ref (a 1), .ref (a 2), .ref (a 3), .int 0, .int 0, .int 0, .int 0, .int 0, .int 0, .int 0, .int (-1), .ref (a 4), .int 0, .int 0, .int 0, .int 0, .int 0, .int 0, .int 0, .int 0, .int 0, .int 0, .int 0, .ref (a 5), .ref (a 6), .ref (a 7), .ref (a 8), .ref (a 9), .ref (a 10), .ref (a 11), .ref (a 12), .ref (a 13), .ref (a 14), .ref (a 15), .ref (a 16), .ref (a 17), .ref (a 18), .ref (a 19), .ref (a 20), .ref (a 21), .ref (a 22), .ref (a 23), .ref (a 24), .ref (a 25), .ref (a 26), .ref (a 27), .ref (a 28), .ref (a 29), .ref (a 30), .int 0, .ref (a 31), .ref (a 32)])), ((a 0), .inl ((d 0), 9, .inl untold)), ((a 1), .inl ((d 1), 9, .inl (fun _ => 0))), ((a 4), .inl ((d 4), 6, .inl (fun _ => 0)))]) rfl dX12_trust_5 (fun H locs St => ?_)
  refine lv_aload_n hx hb dX12_trust_8 rfl (lv_at hl 0 rfl) ?_
  refine lv_iconst (v := 0) hx hb dX12_trust_9 (by decide) ?_
  refine cs_put F St 0 rfl rfl inX12 tyX12_ok nmX12 4 (by decide) kf_X12_203 rfl rfl rfl (Nat.le_of_ble_eq_true rfl) (w' := [(h, .inr (12, [.ref (a 0), .ref (a 1), .ref (a 2), .ref (a 3), .int 0, .int 0, .int 0, .int 0, .int 0, .int 0, .int 0, .int (-1), .ref (a 4), .int 0, .int 0, .int 0, .int 0, .int 0, .int 0, .int 0, .int 0, .int 0, .int 0, .int 0, .ref (a 5), .ref (a 6), .ref (a 7), .ref (a 8), .ref (a 9), .ref (a 10), .ref (a 11), .ref (a 12), .ref (a 13), .ref (a 14), .ref (a 15), .ref (a 16), .ref (a 17), .ref (a 18), .ref (a 19), .ref (a 20), .ref (a 21), .ref (a 22), .ref (a 23), .ref (a 24), .ref (a 25), .ref (a 26), .ref (a 27), .ref (a 28), .ref (a 29), .ref (a 30), .int 0, .ref (a 31), .ref (a 32)])), ((a 0), .inl ((d 0), 9, .inl untold)), ((a 1), .inl ((d 1), 9, .inl (fun _ => 0))), ((a 4), .inl ((d 4), 6, .inl (fun _ => 0)))]) rfl dX12_trust_10 (fun H locs St => ?_)
  refine lv_aload_n hx hb dX12_trust_13 rfl (lv_at hl 0 rfl) ?_
  refine lv_iconst (v := 0) hx hb dX12_trust_14 (by decide) ?_
  refine cs_put F St 0 rfl rfl inX12 tyX12_ok nmX12 7 (by decide) kf_X12_24 rfl rfl rfl (Nat.le_of_ble_eq_true rfl) (w' := [(h, .inr (12, [.ref (a 0), .ref (a 1), .ref (a 2), .ref (a 3), .int 0, .int 0, .int 0, .int 0, .int 0, .int 0, .int 0, .int (-1), .ref (a 4), .int 0, .int 0, .int 0, .int 0, .int 0, .int 0, .int 0, .int 0, .int 0, .int 0, .int 0, .ref (a 5), .ref (a 6), .ref (a 7), .ref (a 8), .ref (a 9), .ref (a 10), .ref (a 11), .ref (a 12), .ref (a 13), .ref (a 14), .ref (a 15), .ref (a 16), .ref (a 17), .ref (a 18), .ref (a 19), .ref (a 20), .ref (a 21), .ref (a 22), .ref (a 23), .ref (a 24), .ref (a 25), .ref (a 26), .ref (a 27), .ref (a 28), .ref (a 29), .ref (a 30), .int 0, .ref (a 31), .ref (a 32)])), ((a 0), .inl ((d 0), 9, .inl untold)), ((a 1), .inl ((d 1), 9, .inl (fun _ => 0))), ((a 4), .inl ((d 4), 6, .inl (fun _ => 0)))]) rfl dX12_trust_15 (fun H locs St => ?_)
  refine lv_aload_n hx hb dX12_trust_18 rfl (lv_at hl 0 rfl) ?_
  refine lv_iconst (v := 0) hx hb dX12_trust_19 (by decide) ?_
  refine cs_put F St 0 rfl rfl inX12 tyX12_ok nmX12 10 (by decide) kf_X12_1 rfl rfl rfl (Nat.le_of_ble_eq_true rfl) (w' := [(h, .inr (12, [.ref (a 0), .ref (a 1), .ref (a 2), .ref (a 3), .int 0, .int 0, .int 0, .int 0, .int 0, .int 0, .int 0, .int (-1), .ref (a 4), .int 0, .int 0, .int 0, .int 0, .int 0, .int 0, .int 0, .int 0, .int 0, .int 0, .int 0, .ref (a 5), .ref (a 6), .ref (a 7), .ref (a 8), .ref (a 9), .ref (a 10), .ref (a 11), .ref (a 12), .ref (a 13), .ref (a 14), .ref (a 15), .ref (a 16), .ref (a 17), .ref (a 18), .ref (a 19), .ref (a 20), .ref (a 21), .ref (a 22), .ref (a 23), .ref (a 24), .ref (a 25), .ref (a 26), .ref (a 27), .ref (a 28), .ref (a 29), .ref (a 30), .int 0, .ref (a 31), .ref (a 32)])), ((a 0), .inl ((d 0), 9, .inl untold)), ((a 1), .inl ((d 1), 9, .inl (fun _ => 0))), ((a 4), .inl ((d 4), 6, .inl (fun _ => 0)))]) rfl dX12_trust_20 (fun H locs St => ?_)
  refine lv_aload_n hx hb dX12_trust_23 rfl (lv_at hl 0 rfl) ?_
  refine lv_iconst (v := (-1)) hx hb dX12_trust_24 (by decide) ?_
  refine cs_put F St 0 rfl rfl inX12 tyX12_ok nmX12 11 (by decide) kf_X12_10 rfl rfl rfl (Nat.le_of_ble_eq_true rfl) (w' := [(h, .inr (12, [.ref (a 0), .ref (a 1), .ref (a 2), .ref (a 3), .int 0, .int 0, .int 0, .int 0, .int 0, .int 0, .int 0, .int (-1), .ref (a 4), .int 0, .int 0, .int 0, .int 0, .int 0, .int 0, .int 0, .int 0, .int 0, .int 0, .int 0, .ref (a 5), .ref (a 6), .ref (a 7), .ref (a 8), .ref (a 9), .ref (a 10), .ref (a 11), .ref (a 12), .ref (a 13), .ref (a 14), .ref (a 15), .ref (a 16), .ref (a 17), .ref (a 18), .ref (a 19), .ref (a 20), .ref (a 21), .ref (a 22), .ref (a 23), .ref (a 24), .ref (a 25), .ref (a 26), .ref (a 27), .ref (a 28), .ref (a 29), .ref (a 30), .int 0, .ref (a 31), .ref (a 32)])), ((a 0), .inl ((d 0), 9, .inl untold)), ((a 1), .inl ((d 1), 9, .inl (fun _ => 0))), ((a 4), .inl ((d 4), 6, .inl (fun _ => 0)))]) rfl dX12_trust_25 (fun H locs St => ?_)
  refine lv_aload_n hx hb dX12_trust_28 rfl (lv_at hl 0 rfl) ?_
  refine cs_v St [0] [1, 2, 3] (wc := [(h, .inr (12, [.ref (a 0), .ref (a 1), .ref (a 2), .ref (a 3), .int 0, .int 0, .int 0, .int 0, .int 0, .int 0, .int 0, .int (-1), .ref (a 4), .int 0, .int 0, .int 0, .int 0, .int 0, .int 0, .int 0, .int 0, .int 0, .int 0, .int 0, .ref (a 5), .ref (a 6), .ref (a 7), .ref (a 8), .ref (a 9), .ref (a 10), .ref (a 11), .ref (a 12), .ref (a 13), .ref (a 14), .ref (a 15), .ref (a 16), .ref (a 17), .ref (a 18), .ref (a 19), .ref (a 20), .ref (a 21), .ref (a 22), .ref (a 23), .ref (a 24), .ref (a 25), .ref (a 26), .ref (a 27), .ref (a 28), .ref (a 29), .ref (a 30), .int 0, .ref (a 31), .ref (a 32)]))]) (wr := [((a 0), .inl ((d 0), 9, .inl untold)), ((a 1), .inl ((d 1), 9, .inl (fun _ => 0))), ((a 4), .inl ((d 4), 6, .inl (fun _ => 0)))]) rfl rfl (by decide) (by decide) (va_runV (As := []) (rest := []) F (m_scan l G k _ h a (fun _ => default)) (cwVt F mf_X12_scan km_X12_62 rfl rfl ⟨Nat.le_of_ble_eq_true rfl, Nat.le_of_ble_eq_true rfl⟩) (cs_preV St [0] rfl (by decide) [] rfl (ci := 12) (q0 := 0) rfl rfl) rfl rfl hl.1 rfl (lv_room (Nat.le_of_ble_eq_true rfl)) dX12_trust_29 ⟨Nat.le_of_ble_eq_true rfl, Nat.le_of_ble_eq_true rfl⟩) (fun u_2 H locs hw St => ?_)
  try dsimp only at hw
  have St : cS G k [((a 0), .inl ((d 0), 9, .inl untold)), ((a 1), .inl ((d 1), 9, .inl (fun _ => 0))), ((a 4), .inl ((d 4), 6, .inl (fun _ => 0))), (h, .inr (12, [.ref (a 0), .ref (a 1), .ref (a 2), .ref (a 3), .int 0, .int 0, .int 0, .int 0, .int 0, .int 0, .int 0, .int (-1), .ref (a 4), .int 0, .int 0, .int 0, .int 0, .int 0, .int 0, .int 0, .int 0, .int 0, .int 0, .int 0, .ref (a 5), .ref (a 6), .ref (a 7), .ref (a 8), .ref (a 9), .ref (a 10), .ref (a 11), .ref (a 12), .ref (a 13), .ref (a 14), .ref (a 15), .ref (a 16), .ref (a 17), .ref (a 18), .ref (a 19), .ref (a 20), .ref (a 21), .ref (a 22), .ref (a 23), .ref (a 24), .ref (a 25), .ref (a 26), .ref (a 27), .ref (a 28), .ref (a 29), .ref (a 30), .int 0, .ref (a 31), .ref (a 32)]))] [((d 0), .int), ((d 1), .int), ((d 4), .boolean)] A s H locs := St
  refine lv_aload_n hx hb dX12_trust_32 rfl (lv_at hl 0 rfl) ?_
  refine cs_i St [3, 1, 2] [0] (wc := [(h, .inr (12, [.ref (a 0), .ref (a 1), .ref (a 2), .ref (a 3), .int 0, .int 0, .int 0, .int 0, .int 0, .int 0, .int 0, .int (-1), .ref (a 4), .int 0, .int 0, .int 0, .int 0, .int 0, .int 0, .int 0, .int 0, .int 0, .int 0, .int 0, .ref (a 5), .ref (a 6), .ref (a 7), .ref (a 8), .ref (a 9), .ref (a 10), .ref (a 11), .ref (a 12), .ref (a 13), .ref (a 14), .ref (a 15), .ref (a 16), .ref (a 17), .ref (a 18), .ref (a 19), .ref (a 20), .ref (a 21), .ref (a 22), .ref (a 23), .ref (a 24), .ref (a 25), .ref (a 26), .ref (a 27), .ref (a 28), .ref (a 29), .ref (a 30), .int 0, .ref (a 31), .ref (a 32)])), ((a 1), .inl ((d 1), 9, .inl (fun _ => 0))), ((a 4), .inl ((d 4), 6, .inl (fun _ => 0)))]) (wr := [((a 0), .inl ((d 0), 9, .inl untold))]) rfl rfl (by decide) (by decide) (va_runV (As := []) (rest := []) F (m_readTrust l G k _ h a d (fun _ => 0) (fun _ => 0)) (cwVt F mf_X12_readTrust km_X12_209 rfl rfl ⟨Nat.le_of_ble_eq_true rfl, Nat.le_of_ble_eq_true rfl⟩) (cs_preV St [3, 1, 2] rfl (by decide) [1, 2] rfl (ci := 12) (q0 := 3) rfl rfl) rfl rfl hl.1 rfl (lv_room (Nat.le_of_ble_eq_true rfl)) dX12_trust_33 ⟨Nat.le_of_ble_eq_true rfl, Nat.le_of_ble_eq_true rfl⟩) (fun r_3 u_4 H locs hw St => ?_)
  obtain ⟨g0_5, g1_6⟩ := u_4
  try dsimp only at hw
  have z_7 := hw
  subst r_3
  have St : cS G k [((a 0), .inl ((d 0), 9, .inl untold)), (h, .inr (12, [.ref (a 0), .ref (a 1), .ref (a 2), .ref (a 3), .int 0, .int 0, .int 0, .int 0, .int 0, .int 0, .int 0, .int (-1), .ref (a 4), .int 0, .int 0, .int 0, .int 0, .int 0, .int 0, .int 0, .int 0, .int 0, .int 0, .int 0, .ref (a 5), .ref (a 6), .ref (a 7), .ref (a 8), .ref (a 9), .ref (a 10), .ref (a 11), .ref (a 12), .ref (a 13), .ref (a 14), .ref (a 15), .ref (a 16), .ref (a 17), .ref (a 18), .ref (a 19), .ref (a 20), .ref (a 21), .ref (a 22), .ref (a 23), .ref (a 24), .ref (a 25), .ref (a 26), .ref (a 27), .ref (a 28), .ref (a 29), .ref (a 30), .int 0, .ref (a 31), .ref (a 32)])), ((a 1), .inl ((d 1), 9, .inl g0_5)), ((a 4), .inl ((d 4), 6, .inl g1_6))] [((d 0), .int), ((d 1), .int), ((d 4), .boolean)] A s H locs := St
  refine lv_istore_n (lv' := [(1, .int 0), (0, .ref h)]) hx hb dX12_trust_36 rfl hl (by decide) rfl (fun ls hl => ?_)
  refine lv_goto (tgt := 43) hx hb dX12_trust_37 (by decide) ?_
  refine lv_iconst (v := 0) hx hb dX12_trust_43 (by decide) ?_
  refine lv_istore_n (lv' := [(2, .int 0), (1, .int 0), (0, .ref h)]) hx hb dX12_trust_44 rfl hl (by decide) rfl (fun ls hl => ?_)
  have lp45 : ∀ (n : Nat) (i : Int32) (fr : Nat → Int32) (H : Heap) (locs : List Loc) (ls : Array Slot), (0 ≤ i.toInt ∧ i.toInt ≤ 9) → ((9 - i.toInt).toNat) < n → cS G k [((a 0), .inl ((d 0), 9, .inl fr)), (h, .inr (12, [.ref (a 0), .ref (a 1), .ref (a 2), .ref (a 3), .int 0, .int 0, .int 0, .int 0, .int 0, .int 0, .int 0, .int (-1), .ref (a 4), .int 0, .int 0, .int 0, .int 0, .int 0, .int 0, .int 0, .int 0, .int 0, .int 0, .int 0, .ref (a 5), .ref (a 6), .ref (a 7), .ref (a 8), .ref (a 9), .ref (a 10), .ref (a 11), .ref (a 12), .ref (a 13), .ref (a 14), .ref (a 15), .ref (a 16), .ref (a 17), .ref (a 18), .ref (a 19), .ref (a 20), .ref (a 21), .ref (a 22), .ref (a 23), .ref (a 24), .ref (a 25), .ref (a 26), .ref (a 27), .ref (a 28), .ref (a 29), .ref (a 30), .int 0, .ref (a 31), .ref (a 32)])), ((a 1), .inl ((d 1), 9, .inl g0_5)), ((a 4), .inl ((d 4), 6, .inl g1_6))] [((d 0), .int), ((d 1), .int), ((d 4), .boolean)] A s H locs → lv_has ls 3 [(2, .int i), (1, .int 0), (0, .ref h)] → W p l e ({ frames := 2, cells := 0, slots := 0, locals := 42 } : Room) s m args below meth c H locs 0 0 Q (F0 m 45 ls []) := by
    intro n
    induction n with
    | zero => intro i fr H locs ls hI hn; exact absurd hn (Nat.not_lt_zero _)
    | succ n ih =>
      intro i fr H locs ls hI hn St hl
      obtain ⟨hI0, hI1⟩ := hI
      refine lv_iload_n hx hb dX12_trust_45 rfl (lv_at hl 0 rfl) ?_
      refine lv_bipush (v := 9) hx hb dX12_trust_46 (by decide) ?_
      refine lv_icmp_ge (tgt := 69) hx hb dX12_trust_48 (by decide) (fun c48 => ?_) (fun c48 => ?_)
      ·
        have i48 := ci_le (x := 9) (y := i) (show (9 : Int32).toInt = 9 by decide) rfl c48
        refine lv_iload_n hx hb dX12_trust_69 rfl (lv_at hl 1 rfl) ?_
        exact cs_iret F hr hlk hQ St () (r := 0) rfl [] rfl (by decide) [] rfl (by decide) (by decide) dX12_trust_70
      ·
        have i48 := ci_nle (x := 9) (y := i) (show (9 : Int32).toInt = 9 by decide) rfl c48
        refine lv_aload_n hx hb dX12_trust_51 rfl (lv_at hl 2 rfl) ?_
        refine cs_get F St 1 rfl rfl inX12 0 (by decide) kf_X12_114 rfl dX12_trust_52 ?_
        refine lv_iload_n hx hb dX12_trust_55 rfl (lv_at hl 0 rfl) ?_
        refine lv_aload_n hx hb dX12_trust_56 rfl (lv_at hl 2 rfl) ?_
        refine cs_get F St 1 rfl rfl inX12 1 (by decide) kf_X12_82 rfl dX12_trust_57 ?_
        refine lv_iload_n hx hb dX12_trust_60 rfl (lv_at hl 0 rfl) ?_
        refine cs_ild F St 2 1 rfl rfl (vp_in_iff.mpr ⟨by omega, by omega⟩) dX12_trust_61 ?_
        refine lv_topi (fun y_8 ey_8 => ?_)
        refine cs_ist F St 0 0 rfl rfl (vp_in_iff.mpr ⟨by omega, by omega⟩) (w' := [((a 0), .inl ((d 0), 9, .inl (upd fr (i : Int32).toNatClampNeg y_8))), (h, .inr (12, [.ref (a 0), .ref (a 1), .ref (a 2), .ref (a 3), .int 0, .int 0, .int 0, .int 0, .int 0, .int 0, .int 0, .int (-1), .ref (a 4), .int 0, .int 0, .int 0, .int 0, .int 0, .int 0, .int 0, .int 0, .int 0, .int 0, .int 0, .ref (a 5), .ref (a 6), .ref (a 7), .ref (a 8), .ref (a 9), .ref (a 10), .ref (a 11), .ref (a 12), .ref (a 13), .ref (a 14), .ref (a 15), .ref (a 16), .ref (a 17), .ref (a 18), .ref (a 19), .ref (a 20), .ref (a 21), .ref (a 22), .ref (a 23), .ref (a 24), .ref (a 25), .ref (a 26), .ref (a 27), .ref (a 28), .ref (a 29), .ref (a 30), .int 0, .ref (a 31), .ref (a 32)])), ((a 1), .inl ((d 1), 9, .inl g0_5)), ((a 4), .inl ((d 4), 6, .inl g1_6))]) rfl dX12_trust_62 (fun H locs St => ?_)
        obtain ⟨f_9, ef_9⟩ : ∃ zz : Nat → Int32, zz = upd fr (i : Int32).toNatClampNeg y_8 := ⟨_, rfl⟩
        rw [← ef_9] at St
        obtain ⟨y_10, ey_10⟩ : ∃ zz : Int32, zz = i + 1 := ⟨_, rfl⟩
        have jy_10 := ci_add (x := i) rfl (show (1 : Int32).toInt = 1 by decide) ey_10
        refine lv_iinc (v := y_10) (lv' := [(2, .int y_10), (1, .int 0), (0, .ref h)]) hx hb dX12_trust_63 hl (k := 0) rfl (by rw [ey_10]; rfl) (by decide) rfl (fun ls hl => ?_)
        refine lv_goto (tgt := 45) hx hb dX12_trust_66 (by decide) ?_
        exact ih y_10 f_9 _ _ _ ⟨by omega, by omega⟩ (by omega) St (lv_sub hl [0, 1, 2] rfl)
  exact lp45 10 0 untold _ _ _ ⟨by decide, by decide⟩ (by decide) St (lv_sub hl [0, 1, 2] rfl)
set_option maxHeartbeats 4000000 in
set_option maxRecDepth 100000 in
theorem m_fault (l : Launch) (G : va_G) (k : Nat → Nat) (sz : Nat) (h : Nat) (a : Nat → Nat) (d : Nat → ClassId) (x1 : Int32) : Met l yX12_fault (Cond.code yX12_fault cX12_fault 2 (some .int) :: tb) ({ frames := 0, cells := 0, slots := 0, locals := 0 } : Room) (va_Pc [.ref h, .int x1] (cP G k [(h, .inr (12, [.ref (a 0), .ref (a 1), .ref (a 2), .ref (a 3), .int 0, .int 0, .int 0, .int 0, .int 0, .int 0, .int 0, .int (-1), .ref (a 4), .int 0, .int 0, .int 0, .int 0, .int 0, .int 0, .int 0, .int 0, .int 0, .int 0, .int 0, .ref (a 5), .ref (a 6), .ref (a 7), .ref (a 8), .ref (a 9), .ref (a 10), .ref (a 11), .ref (a 12), .ref (a 13), .ref (a 14), .ref (a 15), .ref (a 16), .ref (a 17), .ref (a 18), .ref (a 19), .ref (a 20), .ref (a 21), .ref (a 22), .ref (a 23), .ref (a 24), .ref (a 25), .ref (a 26), .ref (a 27), .ref (a 28), .ref (a 29), .ref (a 30), .int 0, .ref (a 31), .ref (a 32)]))] [] sz)) (va_Qi (fun (r : Int32) (_ : Unit) => ((r = 0) ∧ (x1.toInt = 0)) ∨ ((r = (-1)) ∧ (¬ x1.toInt = 0))) (cB G (fun (_ : Unit) => []) (fun (_ : Unit) => []) (va_A [(h, .inr (12, [.ref (a 0), .ref (a 1), .ref (a 2), .ref (a 3), .int 0, .int 0, .int 0, .int 0, .int 0, .int 0, .int 0, .int (-1), .ref (a 4), .int 0, .int 0, .int 0, .int 0, .int 0, .int 0, .int 0, .int 0, .int 0, .int 0, .int 0, .ref (a 5), .ref (a 6), .ref (a 7), .ref (a 8), .ref (a 9), .ref (a 10), .ref (a 11), .ref (a 12), .ref (a 13), .ref (a 14), .ref (a 15), .ref (a 16), .ref (a 17), .ref (a 18), .ref (a 19), .ref (a 20), .ref (a 21), .ref (a 22), .ref (a 23), .ref (a 24), .ref (a 25), .ref (a 26), .ref (a 27), .ref (a 28), .ref (a 29), .ref (a 30), .int 0, .ref (a 31), .ref (a 32)]))] sz)) (va_A [(h, .inr (12, [.ref (a 0), .ref (a 1), .ref (a 2), .ref (a 3), .int 0, .int 0, .int 0, .int 0, .int 0, .int 0, .int 0, .int (-1), .ref (a 4), .int 0, .int 0, .int 0, .int 0, .int 0, .int 0, .int 0, .int 0, .int 0, .int 0, .int 0, .ref (a 5), .ref (a 6), .ref (a 7), .ref (a 8), .ref (a 9), .ref (a 10), .ref (a 11), .ref (a 12), .ref (a 13), .ref (a 14), .ref (a 15), .ref (a 16), .ref (a 17), .ref (a 18), .ref (a 19), .ref (a 20), .ref (a 21), .ref (a 22), .ref (a 23), .ref (a 24), .ref (a 25), .ref (a 26), .ref (a 27), .ref (a 28), .ref (a 29), .ref (a 30), .int 0, .ref (a 31), .ref (a 32)]))] sz)) 0 0 (va_A [(h, .inr (12, [.ref (a 0), .ref (a 1), .ref (a 2), .ref (a 3), .int 0, .int 0, .int 0, .int 0, .int 0, .int 0, .int 0, .int (-1), .ref (a 4), .int 0, .int 0, .int 0, .int 0, .int 0, .int 0, .int 0, .int 0, .int 0, .int 0, .int 0, .ref (a 5), .ref (a 6), .ref (a 7), .ref (a 8), .ref (a 9), .ref (a 10), .ref (a 11), .ref (a 12), .ref (a 13), .ref (a 14), .ref (a 15), .ref (a 16), .ref (a 17), .ref (a 18), .ref (a 19), .ref (a 20), .ref (a 21), .ref (a 22), .ref (a 23), .ref (a 24), .ref (a 25), .ref (a 26), .ref (a 27), .ref (a 28), .ref (a 29), .ref (a 30), .int 0, .ref (a 31), .ref (a 32)]))] sz) := by
  refine ofC_i (cc := cX12_fault) (maxL := 2) (ret := (some .int)) (by decide) rfl (Nat.le_of_ble_eq_true rfl) ?_
  intro p e s m args below meth c A ls Q F hr hin hlk St hl hQ
  have hx := F.1
  have hb := F.2.1
  have hl : lv_has ls 2 [(0, .ref h), (1, .int x1)] := hl
  have St : cS G k [(h, .inr (12, [.ref (a 0), .ref (a 1), .ref (a 2), .ref (a 3), .int 0, .int 0, .int 0, .int 0, .int 0, .int 0, .int 0, .int (-1), .ref (a 4), .int 0, .int 0, .int 0, .int 0, .int 0, .int 0, .int 0, .int 0, .int 0, .int 0, .int 0, .ref (a 5), .ref (a 6), .ref (a 7), .ref (a 8), .ref (a 9), .ref (a 10), .ref (a 11), .ref (a 12), .ref (a 13), .ref (a 14), .ref (a 15), .ref (a 16), .ref (a 17), .ref (a 18), .ref (a 19), .ref (a 20), .ref (a 21), .ref (a 22), .ref (a 23), .ref (a 24), .ref (a 25), .ref (a 26), .ref (a 27), .ref (a 28), .ref (a 29), .ref (a 30), .int 0, .ref (a 31), .ref (a 32)]))] [] A s s.heap [] := St
  refine lv_iload_n hx hb dX12_fault_0 rfl (lv_at hl 1 rfl) ?_
  refine lv_if_ne (tgt := 11) hx hb dX12_fault_1 (by decide) (fun c1 => ?_) (fun c1 => ?_)
  ·
    have i1 := ci_ne (x := x1) (y := 0) rfl (show (0 : Int32).toInt = 0 by decide) c1
    refine lv_iload_n hx hb dX12_fault_11 rfl (lv_at hl 1 rfl) ?_
    refine lv_iconst (v := 1) hx hb dX12_fault_12 (by decide) ?_
    refine lv_icmp_ne (tgt := 23) hx hb dX12_fault_13 (by decide) (fun c13 => ?_) (fun c13 => ?_)
    ·
      have i13 := ci_ne (x := x1) (y := 1) rfl (show (1 : Int32).toInt = 1 by decide) c13
      refine lv_iconst (v := (-1)) hx hb dX12_fault_23 (by decide) ?_
      exact cs_iret F hr hlk hQ St () (r := (-1)) (Or.inr ⟨rfl, by omega⟩) [] rfl (by decide) [] rfl (by decide) (by decide) dX12_fault_24
    ·
      have i13 := ci_eq (x := x1) (y := 1) rfl (show (1 : Int32).toInt = 1 by decide) c13
      refine lv_aload_n hx hb dX12_fault_16 rfl (lv_at hl 0 rfl) ?_
      refine cs_get F St 0 rfl rfl inX12 11 (by decide) kf_X12_10 rfl dX12_fault_17 ?_
      refine lv_goto (tgt := 24) hx hb dX12_fault_20 (by decide) ?_
      exact cs_iret F hr hlk hQ St () (r := (-1)) (Or.inr ⟨rfl, by omega⟩) [] rfl (by decide) [] rfl (by decide) (by decide) dX12_fault_24
  ·
    have i1 := ci_eq (x := x1) (y := 0) rfl (show (0 : Int32).toInt = 0 by decide) c1
    refine lv_aload_n hx hb dX12_fault_4 rfl (lv_at hl 0 rfl) ?_
    refine cs_get F St 0 rfl rfl inX12 10 (by decide) kf_X12_1 rfl dX12_fault_5 ?_
    refine lv_goto (tgt := 24) hx hb dX12_fault_8 (by decide) ?_
    exact cs_iret F hr hlk hQ St () (r := 0) (Or.inl ⟨rfl, by omega⟩) [] rfl (by decide) [] rfl (by decide) (by decide) dX12_fault_24
set_option maxHeartbeats 4000000 in
set_option maxRecDepth 100000 in
theorem m_rule (l : Launch) (G : va_G) (k : Nat → Nat) (sz : Nat) (h : Nat) (a : Nat → Nat) (d : Nat → ClassId) (x1 : Int32) : Met l yX12_rule (Cond.code yX12_rule cX12_rule 2 (some .int) :: tb) ({ frames := 1, cells := 0, slots := 0, locals := 25 } : Room) (va_Pc [.ref h, .int x1] (cP G k [(h, .inr (12, [.ref (a 0), .ref (a 1), .ref (a 2), .ref (a 3), .int 0, .int 0, .int 0, .int 0, .int 0, .int 0, .int 0, .int (-1), .ref (a 4), .int 0, .int 0, .int 0, .int 0, .int 0, .int 0, .int 0, .int 0, .int 0, .int 0, .int 0, .ref (a 5), .ref (a 6), .ref (a 7), .ref (a 8), .ref (a 9), .ref (a 10), .ref (a 11), .ref (a 12), .ref (a 13), .ref (a 14), .ref (a 15), .ref (a 16), .ref (a 17), .ref (a 18), .ref (a 19), .ref (a 20), .ref (a 21), .ref (a 22), .ref (a 23), .ref (a 24), .ref (a 25), .ref (a 26), .ref (a 27), .ref (a 28), .ref (a 29), .ref (a 30), .int 0, .ref (a 31), .ref (a 32)])), ((a 0), .inl ((d 0), 9, .inl untold))] [((d 0), .int)] sz)) (va_Qi (fun (r : Int32) (_ : Unit) => ((r = untold (x1 : Int32).toNatClampNeg) ∧ (0 ≤ x1.toInt ∧ x1.toInt ≤ 8)) ∨ ((r = (-9)) ∧ (¬ (0 ≤ x1.toInt ∧ x1.toInt ≤ 8)))) (cB G (fun (_ : Unit) => []) (fun (_ : Unit) => []) (va_A [(h, .inr (12, [.ref (a 0), .ref (a 1), .ref (a 2), .ref (a 3), .int 0, .int 0, .int 0, .int 0, .int 0, .int 0, .int 0, .int (-1), .ref (a 4), .int 0, .int 0, .int 0, .int 0, .int 0, .int 0, .int 0, .int 0, .int 0, .int 0, .int 0, .ref (a 5), .ref (a 6), .ref (a 7), .ref (a 8), .ref (a 9), .ref (a 10), .ref (a 11), .ref (a 12), .ref (a 13), .ref (a 14), .ref (a 15), .ref (a 16), .ref (a 17), .ref (a 18), .ref (a 19), .ref (a 20), .ref (a 21), .ref (a 22), .ref (a 23), .ref (a 24), .ref (a 25), .ref (a 26), .ref (a 27), .ref (a 28), .ref (a 29), .ref (a 30), .int 0, .ref (a 31), .ref (a 32)])), ((a 0), .inl ((d 0), 9, .inl untold))] sz)) (va_A [(h, .inr (12, [.ref (a 0), .ref (a 1), .ref (a 2), .ref (a 3), .int 0, .int 0, .int 0, .int 0, .int 0, .int 0, .int 0, .int (-1), .ref (a 4), .int 0, .int 0, .int 0, .int 0, .int 0, .int 0, .int 0, .int 0, .int 0, .int 0, .int 0, .ref (a 5), .ref (a 6), .ref (a 7), .ref (a 8), .ref (a 9), .ref (a 10), .ref (a 11), .ref (a 12), .ref (a 13), .ref (a 14), .ref (a 15), .ref (a 16), .ref (a 17), .ref (a 18), .ref (a 19), .ref (a 20), .ref (a 21), .ref (a 22), .ref (a 23), .ref (a 24), .ref (a 25), .ref (a 26), .ref (a 27), .ref (a 28), .ref (a 29), .ref (a 30), .int 0, .ref (a 31), .ref (a 32)])), ((a 0), .inl ((d 0), 9, .inl untold))] sz)) 0 0 (va_A [(h, .inr (12, [.ref (a 0), .ref (a 1), .ref (a 2), .ref (a 3), .int 0, .int 0, .int 0, .int 0, .int 0, .int 0, .int 0, .int (-1), .ref (a 4), .int 0, .int 0, .int 0, .int 0, .int 0, .int 0, .int 0, .int 0, .int 0, .int 0, .int 0, .ref (a 5), .ref (a 6), .ref (a 7), .ref (a 8), .ref (a 9), .ref (a 10), .ref (a 11), .ref (a 12), .ref (a 13), .ref (a 14), .ref (a 15), .ref (a 16), .ref (a 17), .ref (a 18), .ref (a 19), .ref (a 20), .ref (a 21), .ref (a 22), .ref (a 23), .ref (a 24), .ref (a 25), .ref (a 26), .ref (a 27), .ref (a 28), .ref (a 29), .ref (a 30), .int 0, .ref (a 31), .ref (a 32)])), ((a 0), .inl ((d 0), 9, .inl untold))] sz) := by
  refine ofC_i (cc := cX12_rule) (maxL := 2) (ret := (some .int)) (by decide) rfl (Nat.le_of_ble_eq_true rfl) ?_
  intro p e s m args below meth c A ls Q F hr hin hlk St hl hQ
  have hx := F.1
  have hb := F.2.1
  have hl : lv_has ls 2 [(0, .ref h), (1, .int x1)] := hl
  have St : cS G k [(h, .inr (12, [.ref (a 0), .ref (a 1), .ref (a 2), .ref (a 3), .int 0, .int 0, .int 0, .int 0, .int 0, .int 0, .int 0, .int (-1), .ref (a 4), .int 0, .int 0, .int 0, .int 0, .int 0, .int 0, .int 0, .int 0, .int 0, .int 0, .int 0, .ref (a 5), .ref (a 6), .ref (a 7), .ref (a 8), .ref (a 9), .ref (a 10), .ref (a 11), .ref (a 12), .ref (a 13), .ref (a 14), .ref (a 15), .ref (a 16), .ref (a 17), .ref (a 18), .ref (a 19), .ref (a 20), .ref (a 21), .ref (a 22), .ref (a 23), .ref (a 24), .ref (a 25), .ref (a 26), .ref (a 27), .ref (a 28), .ref (a 29), .ref (a 30), .int 0, .ref (a 31), .ref (a 32)])), ((a 0), .inl ((d 0), 9, .inl untold))] [((d 0), .int)] A s s.heap [] := St
  refine lv_iload_n hx hb dX12_rule_0 rfl (lv_at hl 1 rfl) ?_
  refine lv_i2l (v := x1.toInt64) hx hb dX12_rule_1 rfl ?_
  refine lv_lconst (v := 0) hx hb dX12_rule_2 (by decide) ?_
  refine lv_ldc2 (v := 8) hx hb F.2.2.2.1 (F.2.2.2.2 _ kk_X12_212) dX12_rule_3 ?_
  refine cs_i St [] [0, 1] (wc := []) (wr := [(h, .inr (12, [.ref (a 0), .ref (a 1), .ref (a 2), .ref (a 3), .int 0, .int 0, .int 0, .int 0, .int 0, .int 0, .int 0, .int (-1), .ref (a 4), .int 0, .int 0, .int 0, .int 0, .int 0, .int 0, .int 0, .int 0, .int 0, .int 0, .int 0, .ref (a 5), .ref (a 6), .ref (a 7), .ref (a 8), .ref (a 9), .ref (a 10), .ref (a 11), .ref (a 12), .ref (a 13), .ref (a 14), .ref (a 15), .ref (a 16), .ref (a 17), .ref (a 18), .ref (a 19), .ref (a 20), .ref (a 21), .ref (a 22), .ref (a 23), .ref (a 24), .ref (a 25), .ref (a 26), .ref (a 27), .ref (a 28), .ref (a 29), .ref (a 30), .int 0, .ref (a 31), .ref (a 32)])), ((a 0), .inl ((d 0), 9, .inl untold))]) rfl rfl (by decide) (by decide) (va_runS (As := [.long x1.toInt64, .long 0, .long 8]) (rest := []) F (c12_in l G k _ x1.toInt64 0 8 x1.toInt 0 8 (Int32.toInt_toInt64 x1) (by decide) (by decide)) (cwSt F mf_X12_in km_X12_58 rfl rfl ⟨Nat.le_of_ble_eq_true rfl, Nat.le_of_ble_eq_true rfl⟩) (cs_pre St [] rfl (by decide) [] rfl) rfl rfl hl.1 rfl (lv_room (Nat.le_of_ble_eq_true rfl)) dX12_rule_6 ⟨Nat.le_of_ble_eq_true rfl, Nat.le_of_ble_eq_true rfl⟩) (fun r_1 u_2 H locs hw St => ?_)
  try dsimp only at hw
  rcases hw with ⟨z_3, hf_4⟩ | ⟨z_5, hf_6⟩
  ·
    subst r_1
    have St : cS G k [(h, .inr (12, [.ref (a 0), .ref (a 1), .ref (a 2), .ref (a 3), .int 0, .int 0, .int 0, .int 0, .int 0, .int 0, .int 0, .int (-1), .ref (a 4), .int 0, .int 0, .int 0, .int 0, .int 0, .int 0, .int 0, .int 0, .int 0, .int 0, .int 0, .ref (a 5), .ref (a 6), .ref (a 7), .ref (a 8), .ref (a 9), .ref (a 10), .ref (a 11), .ref (a 12), .ref (a 13), .ref (a 14), .ref (a 15), .ref (a 16), .ref (a 17), .ref (a 18), .ref (a 19), .ref (a 20), .ref (a 21), .ref (a 22), .ref (a 23), .ref (a 24), .ref (a 25), .ref (a 26), .ref (a 27), .ref (a 28), .ref (a 29), .ref (a 30), .int 0, .ref (a 31), .ref (a 32)])), ((a 0), .inl ((d 0), 9, .inl untold))] [((d 0), .int)] A s H locs := St
    refine lv_if_eq (tgt := 21) hx hb dX12_rule_9 (by decide) (fun c9 => ?_) (fun c9 => ?_)
    · exact absurd c9 (by decide)
    refine lv_aload_n hx hb dX12_rule_12 rfl (lv_at hl 0 rfl) ?_
    refine cs_get F St 0 rfl rfl inX12 0 (by decide) kf_X12_114 rfl dX12_rule_13 ?_
    refine lv_iload_n hx hb dX12_rule_16 rfl (lv_at hl 1 rfl) ?_
    refine cs_ild F St 1 0 rfl rfl (vp_in_iff.mpr ⟨by omega, by omega⟩) dX12_rule_17 ?_
    refine lv_topi (fun y_7 ey_7 => ?_)
    refine lv_goto (tgt := 23) hx hb dX12_rule_18 (by decide) ?_
    exact cs_iret F hr hlk hQ St () (r := y_7) (Or.inl ⟨ey_7, by omega⟩) [] rfl (by decide) [] rfl (by decide) (by decide) dX12_rule_23
  ·
    subst r_1
    have St : cS G k [(h, .inr (12, [.ref (a 0), .ref (a 1), .ref (a 2), .ref (a 3), .int 0, .int 0, .int 0, .int 0, .int 0, .int 0, .int 0, .int (-1), .ref (a 4), .int 0, .int 0, .int 0, .int 0, .int 0, .int 0, .int 0, .int 0, .int 0, .int 0, .int 0, .ref (a 5), .ref (a 6), .ref (a 7), .ref (a 8), .ref (a 9), .ref (a 10), .ref (a 11), .ref (a 12), .ref (a 13), .ref (a 14), .ref (a 15), .ref (a 16), .ref (a 17), .ref (a 18), .ref (a 19), .ref (a 20), .ref (a 21), .ref (a 22), .ref (a 23), .ref (a 24), .ref (a 25), .ref (a 26), .ref (a 27), .ref (a 28), .ref (a 29), .ref (a 30), .int 0, .ref (a 31), .ref (a 32)])), ((a 0), .inl ((d 0), 9, .inl untold))] [((d 0), .int)] A s H locs := St
    refine lv_if_eq (tgt := 21) hx hb dX12_rule_9 (by decide) (fun c9 => ?_) (fun c9 => ?_)
    rotate_left
    · exact absurd (by decide) c9
    refine lv_bipush (v := (-9)) hx hb dX12_rule_21 (by decide) ?_
    exact cs_iret F hr hlk hQ St () (r := (-9)) (Or.inr ⟨rfl, by omega⟩) [] rfl (by decide) [] rfl (by decide) (by decide) dX12_rule_23
set_option maxHeartbeats 4000000 in
set_option maxRecDepth 100000 in
theorem m_declare (l : Launch) (G : va_G) (k : Nat → Nat) (sz : Nat) (h : Nat) (a : Nat → Nat) (d : Nat → ClassId) (x1 : Int32) (x2 : Int32) (x3 : Int32) : Met l yX12_declare (Cond.code yX12_declare cX12_declare 4 (some .int) :: tb) ({ frames := 2, cells := 0, slots := 0, locals := 45 } : Room) (va_Pc [.ref h, .int x1, .int x2, .int x3] (cP G k [(h, .inr (12, [.ref (a 0), .ref (a 1), .ref (a 2), .ref (a 3), .int 0, .int 0, .int 0, .int 0, .int 0, .int 0, .int 0, .int (-1), .ref (a 4), .int 0, .int 0, .int 0, .int 0, .int 0, .int 0, .int 0, .int 0, .int 0, .int 0, .int 0, .ref (a 5), .ref (a 6), .ref (a 7), .ref (a 8), .ref (a 9), .ref (a 10), .ref (a 11), .ref (a 12), .ref (a 13), .ref (a 14), .ref (a 15), .ref (a 16), .ref (a 17), .ref (a 18), .ref (a 19), .ref (a 20), .ref (a 21), .ref (a 22), .ref (a 23), .ref (a 24), .ref (a 25), .ref (a 26), .ref (a 27), .ref (a 28), .ref (a 29), .ref (a 30), .int 0, .ref (a 31), .ref (a 32)])), ((a 5), .inl ((d 5), 30, .inl (minus 30))), ((a 6), .inl ((d 6), 30, .inl (minus 30)))] [((d 5), .int), ((d 6), .int)] sz)) (va_Qi (fun (r : Int32) (_ : Unit) => ((r = 1) ∧ ((0 ≤ x1.toInt ∧ x1.toInt ≤ 29) ∧ 0 ≤ x2.toInt ∧ x2.toInt ≤ x3.toInt ∧ x3.toInt ≤ 119)) ∨ ((r = (-2)) ∧ (¬ ((0 ≤ x1.toInt ∧ x1.toInt ≤ 29) ∧ 0 ≤ x2.toInt ∧ x2.toInt ≤ x3.toInt ∧ x3.toInt ≤ 119)))) (cB G (fun (_ : Unit) => []) (fun (_ : Unit) => []) (va_A [(h, .inr (12, [.ref (a 0), .ref (a 1), .ref (a 2), .ref (a 3), .int 0, .int 0, .int 0, .int 0, .int 0, .int 0, .int 0, .int (-1), .ref (a 4), .int 0, .int 0, .int 0, .int 0, .int 0, .int 0, .int 0, .int 0, .int 0, .int 0, .int 0, .ref (a 5), .ref (a 6), .ref (a 7), .ref (a 8), .ref (a 9), .ref (a 10), .ref (a 11), .ref (a 12), .ref (a 13), .ref (a 14), .ref (a 15), .ref (a 16), .ref (a 17), .ref (a 18), .ref (a 19), .ref (a 20), .ref (a 21), .ref (a 22), .ref (a 23), .ref (a 24), .ref (a 25), .ref (a 26), .ref (a 27), .ref (a 28), .ref (a 29), .ref (a 30), .int 0, .ref (a 31), .ref (a 32)])), ((a 5), .inl ((d 5), 30, .inl (minus 30))), ((a 6), .inl ((d 6), 30, .inl (minus 30)))] sz)) (va_A [(h, .inr (12, [.ref (a 0), .ref (a 1), .ref (a 2), .ref (a 3), .int 0, .int 0, .int 0, .int 0, .int 0, .int 0, .int 0, .int (-1), .ref (a 4), .int 0, .int 0, .int 0, .int 0, .int 0, .int 0, .int 0, .int 0, .int 0, .int 0, .int 0, .ref (a 5), .ref (a 6), .ref (a 7), .ref (a 8), .ref (a 9), .ref (a 10), .ref (a 11), .ref (a 12), .ref (a 13), .ref (a 14), .ref (a 15), .ref (a 16), .ref (a 17), .ref (a 18), .ref (a 19), .ref (a 20), .ref (a 21), .ref (a 22), .ref (a 23), .ref (a 24), .ref (a 25), .ref (a 26), .ref (a 27), .ref (a 28), .ref (a 29), .ref (a 30), .int 0, .ref (a 31), .ref (a 32)])), ((a 5), .inl ((d 5), 30, .inl (minus 30))), ((a 6), .inl ((d 6), 30, .inl (minus 30)))] sz)) 0 0 (va_A [(h, .inr (12, [.ref (a 0), .ref (a 1), .ref (a 2), .ref (a 3), .int 0, .int 0, .int 0, .int 0, .int 0, .int 0, .int 0, .int (-1), .ref (a 4), .int 0, .int 0, .int 0, .int 0, .int 0, .int 0, .int 0, .int 0, .int 0, .int 0, .int 0, .ref (a 5), .ref (a 6), .ref (a 7), .ref (a 8), .ref (a 9), .ref (a 10), .ref (a 11), .ref (a 12), .ref (a 13), .ref (a 14), .ref (a 15), .ref (a 16), .ref (a 17), .ref (a 18), .ref (a 19), .ref (a 20), .ref (a 21), .ref (a 22), .ref (a 23), .ref (a 24), .ref (a 25), .ref (a 26), .ref (a 27), .ref (a 28), .ref (a 29), .ref (a 30), .int 0, .ref (a 31), .ref (a 32)])), ((a 5), .inl ((d 5), 30, .inl (minus 30))), ((a 6), .inl ((d 6), 30, .inl (minus 30)))] sz) := by
  refine ofC_i (cc := cX12_declare) (maxL := 4) (ret := (some .int)) (by decide) rfl (Nat.le_of_ble_eq_true rfl) ?_
  intro p e s m args below meth c A ls Q F hr hin hlk St hl hQ
  have hx := F.1
  have hb := F.2.1
  have hl : lv_has ls 4 [(0, .ref h), (1, .int x1), (2, .int x2), (3, .int x3)] := hl
  have St : cS G k [(h, .inr (12, [.ref (a 0), .ref (a 1), .ref (a 2), .ref (a 3), .int 0, .int 0, .int 0, .int 0, .int 0, .int 0, .int 0, .int (-1), .ref (a 4), .int 0, .int 0, .int 0, .int 0, .int 0, .int 0, .int 0, .int 0, .int 0, .int 0, .int 0, .ref (a 5), .ref (a 6), .ref (a 7), .ref (a 8), .ref (a 9), .ref (a 10), .ref (a 11), .ref (a 12), .ref (a 13), .ref (a 14), .ref (a 15), .ref (a 16), .ref (a 17), .ref (a 18), .ref (a 19), .ref (a 20), .ref (a 21), .ref (a 22), .ref (a 23), .ref (a 24), .ref (a 25), .ref (a 26), .ref (a 27), .ref (a 28), .ref (a 29), .ref (a 30), .int 0, .ref (a 31), .ref (a 32)])), ((a 5), .inl ((d 5), 30, .inl (minus 30))), ((a 6), .inl ((d 6), 30, .inl (minus 30)))] [((d 5), .int), ((d 6), .int)] A s s.heap [] := St
  refine lv_iload_n hx hb dX12_declare_0 rfl (lv_at hl 1 rfl) ?_
  refine cs_i St [] [0, 1, 2] (wc := []) (wr := [(h, .inr (12, [.ref (a 0), .ref (a 1), .ref (a 2), .ref (a 3), .int 0, .int 0, .int 0, .int 0, .int 0, .int 0, .int 0, .int (-1), .ref (a 4), .int 0, .int 0, .int 0, .int 0, .int 0, .int 0, .int 0, .int 0, .int 0, .int 0, .int 0, .ref (a 5), .ref (a 6), .ref (a 7), .ref (a 8), .ref (a 9), .ref (a 10), .ref (a 11), .ref (a 12), .ref (a 13), .ref (a 14), .ref (a 15), .ref (a 16), .ref (a 17), .ref (a 18), .ref (a 19), .ref (a 20), .ref (a 21), .ref (a 22), .ref (a 23), .ref (a 24), .ref (a 25), .ref (a 26), .ref (a 27), .ref (a 28), .ref (a 29), .ref (a 30), .int 0, .ref (a 31), .ref (a 32)])), ((a 5), .inl ((d 5), 30, .inl (minus 30))), ((a 6), .inl ((d 6), 30, .inl (minus 30)))]) rfl rfl (by decide) (by decide) (va_runS (As := [.int x1]) (rest := []) F (c12_isGiver l G k _ x1) (cwSt F mf_X12_isGiver km_X12_218 rfl rfl ⟨Nat.le_of_ble_eq_true rfl, Nat.le_of_ble_eq_true rfl⟩) (cs_pre St [] rfl (by decide) [] rfl) rfl rfl hl.1 rfl (lv_room (Nat.le_of_ble_eq_true rfl)) dX12_declare_1 ⟨Nat.le_of_ble_eq_true rfl, Nat.le_of_ble_eq_true rfl⟩) (fun r_1 u_2 H locs hw St => ?_)
  try dsimp only at hw
  rcases hw with ⟨z_3, hf_4⟩ | ⟨z_5, hf_6⟩
  ·
    subst r_1
    have St : cS G k [(h, .inr (12, [.ref (a 0), .ref (a 1), .ref (a 2), .ref (a 3), .int 0, .int 0, .int 0, .int 0, .int 0, .int 0, .int 0, .int (-1), .ref (a 4), .int 0, .int 0, .int 0, .int 0, .int 0, .int 0, .int 0, .int 0, .int 0, .int 0, .int 0, .ref (a 5), .ref (a 6), .ref (a 7), .ref (a 8), .ref (a 9), .ref (a 10), .ref (a 11), .ref (a 12), .ref (a 13), .ref (a 14), .ref (a 15), .ref (a 16), .ref (a 17), .ref (a 18), .ref (a 19), .ref (a 20), .ref (a 21), .ref (a 22), .ref (a 23), .ref (a 24), .ref (a 25), .ref (a 26), .ref (a 27), .ref (a 28), .ref (a 29), .ref (a 30), .int 0, .ref (a 31), .ref (a 32)])), ((a 5), .inl ((d 5), 30, .inl (minus 30))), ((a 6), .inl ((d 6), 30, .inl (minus 30)))] [((d 5), .int), ((d 6), .int)] A s H locs := St
    refine lv_if_eq (tgt := 27) hx hb dX12_declare_4 (by decide) (fun c4 => ?_) (fun c4 => ?_)
    · exact absurd c4 (by decide)
    refine lv_iload_n hx hb dX12_declare_7 rfl (lv_at hl 2 rfl) ?_
    refine cs_i St [] [0, 1, 2] (wc := []) (wr := [(h, .inr (12, [.ref (a 0), .ref (a 1), .ref (a 2), .ref (a 3), .int 0, .int 0, .int 0, .int 0, .int 0, .int 0, .int 0, .int (-1), .ref (a 4), .int 0, .int 0, .int 0, .int 0, .int 0, .int 0, .int 0, .int 0, .int 0, .int 0, .int 0, .ref (a 5), .ref (a 6), .ref (a 7), .ref (a 8), .ref (a 9), .ref (a 10), .ref (a 11), .ref (a 12), .ref (a 13), .ref (a 14), .ref (a 15), .ref (a 16), .ref (a 17), .ref (a 18), .ref (a 19), .ref (a 20), .ref (a 21), .ref (a 22), .ref (a 23), .ref (a 24), .ref (a 25), .ref (a 26), .ref (a 27), .ref (a 28), .ref (a 29), .ref (a 30), .int 0, .ref (a 31), .ref (a 32)])), ((a 5), .inl ((d 5), 30, .inl (minus 30))), ((a 6), .inl ((d 6), 30, .inl (minus 30)))]) rfl rfl (by decide) (by decide) (va_runS (As := [.int x2]) (rest := []) F (c12_isMonth l G k _ x2) (cwSt F mf_X12_isMonth km_X12_221 rfl rfl ⟨Nat.le_of_ble_eq_true rfl, Nat.le_of_ble_eq_true rfl⟩) (cs_pre St [] rfl (by decide) [] rfl) rfl rfl hl.1 rfl (lv_room (Nat.le_of_ble_eq_true rfl)) dX12_declare_8 ⟨Nat.le_of_ble_eq_true rfl, Nat.le_of_ble_eq_true rfl⟩) (fun r_7 u_8 H locs hw St => ?_)
    try dsimp only at hw
    rcases hw with ⟨z_9, hf_10⟩ | ⟨z_11, hf_12⟩
    ·
      subst r_7
      have St : cS G k [(h, .inr (12, [.ref (a 0), .ref (a 1), .ref (a 2), .ref (a 3), .int 0, .int 0, .int 0, .int 0, .int 0, .int 0, .int 0, .int (-1), .ref (a 4), .int 0, .int 0, .int 0, .int 0, .int 0, .int 0, .int 0, .int 0, .int 0, .int 0, .int 0, .ref (a 5), .ref (a 6), .ref (a 7), .ref (a 8), .ref (a 9), .ref (a 10), .ref (a 11), .ref (a 12), .ref (a 13), .ref (a 14), .ref (a 15), .ref (a 16), .ref (a 17), .ref (a 18), .ref (a 19), .ref (a 20), .ref (a 21), .ref (a 22), .ref (a 23), .ref (a 24), .ref (a 25), .ref (a 26), .ref (a 27), .ref (a 28), .ref (a 29), .ref (a 30), .int 0, .ref (a 31), .ref (a 32)])), ((a 5), .inl ((d 5), 30, .inl (minus 30))), ((a 6), .inl ((d 6), 30, .inl (minus 30)))] [((d 5), .int), ((d 6), .int)] A s H locs := St
      refine lv_if_eq (tgt := 27) hx hb dX12_declare_11 (by decide) (fun c11 => ?_) (fun c11 => ?_)
      · exact absurd c11 (by decide)
      refine lv_iload_n hx hb dX12_declare_14 rfl (lv_at hl 3 rfl) ?_
      refine lv_i2l (v := x3.toInt64) hx hb dX12_declare_15 rfl ?_
      refine lv_iload_n hx hb dX12_declare_16 rfl (lv_at hl 2 rfl) ?_
      refine lv_i2l (v := x2.toInt64) hx hb dX12_declare_17 rfl ?_
      refine lv_ldc2 (v := 119) hx hb F.2.2.2.1 (F.2.2.2.2 _ kk_X12_216) dX12_declare_18 ?_
      refine cs_i St [] [0, 1, 2] (wc := []) (wr := [(h, .inr (12, [.ref (a 0), .ref (a 1), .ref (a 2), .ref (a 3), .int 0, .int 0, .int 0, .int 0, .int 0, .int 0, .int 0, .int (-1), .ref (a 4), .int 0, .int 0, .int 0, .int 0, .int 0, .int 0, .int 0, .int 0, .int 0, .int 0, .int 0, .ref (a 5), .ref (a 6), .ref (a 7), .ref (a 8), .ref (a 9), .ref (a 10), .ref (a 11), .ref (a 12), .ref (a 13), .ref (a 14), .ref (a 15), .ref (a 16), .ref (a 17), .ref (a 18), .ref (a 19), .ref (a 20), .ref (a 21), .ref (a 22), .ref (a 23), .ref (a 24), .ref (a 25), .ref (a 26), .ref (a 27), .ref (a 28), .ref (a 29), .ref (a 30), .int 0, .ref (a 31), .ref (a 32)])), ((a 5), .inl ((d 5), 30, .inl (minus 30))), ((a 6), .inl ((d 6), 30, .inl (minus 30)))]) rfl rfl (by decide) (by decide) (va_runS (As := [.long x3.toInt64, .long x2.toInt64, .long 119]) (rest := []) F (c12_in l G k _ x3.toInt64 x2.toInt64 119 x3.toInt x2.toInt 119 (Int32.toInt_toInt64 x3) (Int32.toInt_toInt64 x2) (by decide)) (cwSt F mf_X12_in km_X12_58 rfl rfl ⟨Nat.le_of_ble_eq_true rfl, Nat.le_of_ble_eq_true rfl⟩) (cs_pre St [] rfl (by decide) [] rfl) rfl rfl hl.1 rfl (lv_room (Nat.le_of_ble_eq_true rfl)) dX12_declare_21 ⟨Nat.le_of_ble_eq_true rfl, Nat.le_of_ble_eq_true rfl⟩) (fun r_13 u_14 H locs hw St => ?_)
      try dsimp only at hw
      rcases hw with ⟨z_15, hf_16⟩ | ⟨z_17, hf_18⟩
      ·
        subst r_13
        have St : cS G k [(h, .inr (12, [.ref (a 0), .ref (a 1), .ref (a 2), .ref (a 3), .int 0, .int 0, .int 0, .int 0, .int 0, .int 0, .int 0, .int (-1), .ref (a 4), .int 0, .int 0, .int 0, .int 0, .int 0, .int 0, .int 0, .int 0, .int 0, .int 0, .int 0, .ref (a 5), .ref (a 6), .ref (a 7), .ref (a 8), .ref (a 9), .ref (a 10), .ref (a 11), .ref (a 12), .ref (a 13), .ref (a 14), .ref (a 15), .ref (a 16), .ref (a 17), .ref (a 18), .ref (a 19), .ref (a 20), .ref (a 21), .ref (a 22), .ref (a 23), .ref (a 24), .ref (a 25), .ref (a 26), .ref (a 27), .ref (a 28), .ref (a 29), .ref (a 30), .int 0, .ref (a 31), .ref (a 32)])), ((a 5), .inl ((d 5), 30, .inl (minus 30))), ((a 6), .inl ((d 6), 30, .inl (minus 30)))] [((d 5), .int), ((d 6), .int)] A s H locs := St
        refine lv_if_ne (tgt := 30) hx hb dX12_declare_24 (by decide) (fun c24 => ?_) (fun c24 => ?_)
        rotate_left
        · exact absurd c24 (by decide)
        refine lv_aload_n hx hb dX12_declare_30 rfl (lv_at hl 0 rfl) ?_
        refine cs_get F St 0 rfl rfl inX12 23 (by decide) kf_X12_224 rfl dX12_declare_31 ?_
        refine lv_if_eq (tgt := 40) hx hb dX12_declare_34 (by decide) (fun c34 => ?_) (fun c34 => ?_)
        rotate_left
        · exact absurd (by decide) c34
        refine lv_aload_n hx hb dX12_declare_40 rfl (lv_at hl 0 rfl) ?_
        refine cs_get F St 0 rfl rfl inX12 24 (by decide) kf_X12_120 rfl dX12_declare_41 ?_
        refine lv_iload_n hx hb dX12_declare_44 rfl (lv_at hl 1 rfl) ?_
        refine lv_iload_n hx hb dX12_declare_45 rfl (lv_at hl 2 rfl) ?_
        refine cs_ist F St 1 0 rfl rfl (vp_in_iff.mpr ⟨by omega, by omega⟩) (w' := [(h, .inr (12, [.ref (a 0), .ref (a 1), .ref (a 2), .ref (a 3), .int 0, .int 0, .int 0, .int 0, .int 0, .int 0, .int 0, .int (-1), .ref (a 4), .int 0, .int 0, .int 0, .int 0, .int 0, .int 0, .int 0, .int 0, .int 0, .int 0, .int 0, .ref (a 5), .ref (a 6), .ref (a 7), .ref (a 8), .ref (a 9), .ref (a 10), .ref (a 11), .ref (a 12), .ref (a 13), .ref (a 14), .ref (a 15), .ref (a 16), .ref (a 17), .ref (a 18), .ref (a 19), .ref (a 20), .ref (a 21), .ref (a 22), .ref (a 23), .ref (a 24), .ref (a 25), .ref (a 26), .ref (a 27), .ref (a 28), .ref (a 29), .ref (a 30), .int 0, .ref (a 31), .ref (a 32)])), ((a 5), .inl ((d 5), 30, .inl (upd (minus 30) (x1 : Int32).toNatClampNeg x2))), ((a 6), .inl ((d 6), 30, .inl (minus 30)))]) rfl dX12_declare_46 (fun H locs St => ?_)
        obtain ⟨f_19, ef_19⟩ : ∃ zz : Nat → Int32, zz = upd (minus 30) (x1 : Int32).toNatClampNeg x2 := ⟨_, rfl⟩
        rw [← ef_19] at St
        refine lv_aload_n hx hb dX12_declare_47 rfl (lv_at hl 0 rfl) ?_
        refine cs_get F St 0 rfl rfl inX12 25 (by decide) kf_X12_123 rfl dX12_declare_48 ?_
        refine lv_iload_n hx hb dX12_declare_51 rfl (lv_at hl 1 rfl) ?_
        refine lv_iload_n hx hb dX12_declare_52 rfl (lv_at hl 3 rfl) ?_
        refine cs_ist F St 2 1 rfl rfl (vp_in_iff.mpr ⟨by omega, by omega⟩) (w' := [(h, .inr (12, [.ref (a 0), .ref (a 1), .ref (a 2), .ref (a 3), .int 0, .int 0, .int 0, .int 0, .int 0, .int 0, .int 0, .int (-1), .ref (a 4), .int 0, .int 0, .int 0, .int 0, .int 0, .int 0, .int 0, .int 0, .int 0, .int 0, .int 0, .ref (a 5), .ref (a 6), .ref (a 7), .ref (a 8), .ref (a 9), .ref (a 10), .ref (a 11), .ref (a 12), .ref (a 13), .ref (a 14), .ref (a 15), .ref (a 16), .ref (a 17), .ref (a 18), .ref (a 19), .ref (a 20), .ref (a 21), .ref (a 22), .ref (a 23), .ref (a 24), .ref (a 25), .ref (a 26), .ref (a 27), .ref (a 28), .ref (a 29), .ref (a 30), .int 0, .ref (a 31), .ref (a 32)])), ((a 5), .inl ((d 5), 30, .inl f_19)), ((a 6), .inl ((d 6), 30, .inl (upd (minus 30) (x1 : Int32).toNatClampNeg x3)))]) rfl dX12_declare_53 (fun H locs St => ?_)
        obtain ⟨f_20, ef_20⟩ : ∃ zz : Nat → Int32, zz = upd (minus 30) (x1 : Int32).toNatClampNeg x3 := ⟨_, rfl⟩
        rw [← ef_20] at St
        refine lv_iconst (v := 1) hx hb dX12_declare_54 (by decide) ?_
        exact cs_iret F hr hlk hQ St () (r := 1) (Or.inl ⟨rfl, by omega⟩) [] rfl (by decide) [] rfl (by decide) (by decide) dX12_declare_55
      ·
        subst r_13
        have St : cS G k [(h, .inr (12, [.ref (a 0), .ref (a 1), .ref (a 2), .ref (a 3), .int 0, .int 0, .int 0, .int 0, .int 0, .int 0, .int 0, .int (-1), .ref (a 4), .int 0, .int 0, .int 0, .int 0, .int 0, .int 0, .int 0, .int 0, .int 0, .int 0, .int 0, .ref (a 5), .ref (a 6), .ref (a 7), .ref (a 8), .ref (a 9), .ref (a 10), .ref (a 11), .ref (a 12), .ref (a 13), .ref (a 14), .ref (a 15), .ref (a 16), .ref (a 17), .ref (a 18), .ref (a 19), .ref (a 20), .ref (a 21), .ref (a 22), .ref (a 23), .ref (a 24), .ref (a 25), .ref (a 26), .ref (a 27), .ref (a 28), .ref (a 29), .ref (a 30), .int 0, .ref (a 31), .ref (a 32)])), ((a 5), .inl ((d 5), 30, .inl (minus 30))), ((a 6), .inl ((d 6), 30, .inl (minus 30)))] [((d 5), .int), ((d 6), .int)] A s H locs := St
        refine lv_if_ne (tgt := 30) hx hb dX12_declare_24 (by decide) (fun c24 => ?_) (fun c24 => ?_)
        · exact absurd c24 (by decide)
        refine lv_bipush (v := (-2)) hx hb dX12_declare_27 (by decide) ?_
        exact cs_iret F hr hlk hQ St () (r := (-2)) (Or.inr ⟨rfl, by omega⟩) [] rfl (by decide) [] rfl (by decide) (by decide) dX12_declare_29
    ·
      subst r_7
      have St : cS G k [(h, .inr (12, [.ref (a 0), .ref (a 1), .ref (a 2), .ref (a 3), .int 0, .int 0, .int 0, .int 0, .int 0, .int 0, .int 0, .int (-1), .ref (a 4), .int 0, .int 0, .int 0, .int 0, .int 0, .int 0, .int 0, .int 0, .int 0, .int 0, .int 0, .ref (a 5), .ref (a 6), .ref (a 7), .ref (a 8), .ref (a 9), .ref (a 10), .ref (a 11), .ref (a 12), .ref (a 13), .ref (a 14), .ref (a 15), .ref (a 16), .ref (a 17), .ref (a 18), .ref (a 19), .ref (a 20), .ref (a 21), .ref (a 22), .ref (a 23), .ref (a 24), .ref (a 25), .ref (a 26), .ref (a 27), .ref (a 28), .ref (a 29), .ref (a 30), .int 0, .ref (a 31), .ref (a 32)])), ((a 5), .inl ((d 5), 30, .inl (minus 30))), ((a 6), .inl ((d 6), 30, .inl (minus 30)))] [((d 5), .int), ((d 6), .int)] A s H locs := St
      refine lv_if_eq (tgt := 27) hx hb dX12_declare_11 (by decide) (fun c11 => ?_) (fun c11 => ?_)
      rotate_left
      · exact absurd (by decide) c11
      refine lv_bipush (v := (-2)) hx hb dX12_declare_27 (by decide) ?_
      exact cs_iret F hr hlk hQ St () (r := (-2)) (Or.inr ⟨rfl, by omega⟩) [] rfl (by decide) [] rfl (by decide) (by decide) dX12_declare_29
  ·
    subst r_1
    have St : cS G k [(h, .inr (12, [.ref (a 0), .ref (a 1), .ref (a 2), .ref (a 3), .int 0, .int 0, .int 0, .int 0, .int 0, .int 0, .int 0, .int (-1), .ref (a 4), .int 0, .int 0, .int 0, .int 0, .int 0, .int 0, .int 0, .int 0, .int 0, .int 0, .int 0, .ref (a 5), .ref (a 6), .ref (a 7), .ref (a 8), .ref (a 9), .ref (a 10), .ref (a 11), .ref (a 12), .ref (a 13), .ref (a 14), .ref (a 15), .ref (a 16), .ref (a 17), .ref (a 18), .ref (a 19), .ref (a 20), .ref (a 21), .ref (a 22), .ref (a 23), .ref (a 24), .ref (a 25), .ref (a 26), .ref (a 27), .ref (a 28), .ref (a 29), .ref (a 30), .int 0, .ref (a 31), .ref (a 32)])), ((a 5), .inl ((d 5), 30, .inl (minus 30))), ((a 6), .inl ((d 6), 30, .inl (minus 30)))] [((d 5), .int), ((d 6), .int)] A s H locs := St
    refine lv_if_eq (tgt := 27) hx hb dX12_declare_4 (by decide) (fun c4 => ?_) (fun c4 => ?_)
    rotate_left
    · exact absurd (by decide) c4
    refine lv_bipush (v := (-2)) hx hb dX12_declare_27 (by decide) ?_
    exact cs_iret F hr hlk hQ St () (r := (-2)) (Or.inr ⟨rfl, by omega⟩) [] rfl (by decide) [] rfl (by decide) (by decide) dX12_declare_29
set_option maxHeartbeats 4000000 in
set_option maxRecDepth 100000 in
theorem m_nameless (l : Launch) (G : va_G) (k : Nat → Nat) (sz : Nat) (h : Nat) (a : Nat → Nat) (d : Nat → ClassId) (x1 : Int32) (x2 : Int32) : Met l yX12_nameless (Cond.code yX12_nameless cX12_nameless 4 (some .int) :: tb) ({ frames := 2, cells := 0, slots := 0, locals := 45 } : Room) (va_Pc [.ref h, .int x1, .int x2] (cP G k [(h, .inr (12, [.ref (a 0), .ref (a 1), .ref (a 2), .ref (a 3), .int 0, .int 0, .int 0, .int 0, .int 0, .int 0, .int 0, .int (-1), .ref (a 4), .int 0, .int 0, .int 0, .int 0, .int 0, .int 0, .int 0, .int 0, .int 0, .int 0, .int 0, .ref (a 5), .ref (a 6), .ref (a 7), .ref (a 8), .ref (a 9), .ref (a 10), .ref (a 11), .ref (a 12), .ref (a 13), .ref (a 14), .ref (a 15), .ref (a 16), .ref (a 17), .ref (a 18), .ref (a 19), .ref (a 20), .ref (a 21), .ref (a 22), .ref (a 23), .ref (a 24), .ref (a 25), .ref (a 26), .ref (a 27), .ref (a 28), .ref (a 29), .ref (a 30), .int 0, .ref (a 31), .ref (a 32)])), ((a 9), .inl ((d 9), 30, .inl (fun _ => 0)))] [((d 9), .boolean)] sz)) (va_Qi (fun (r : Int32) (_ : Unit) => ((r = 0) ∧ (0 ≤ x1.toInt ∧ x1.toInt ≤ 29) ∧ (x2 = 0)) ∨ ((r = 1) ∧ (0 ≤ x1.toInt ∧ x1.toInt ≤ 29) ∧ (¬ x2 = 0)) ∨ ((r = (-2)) ∧ (¬ (0 ≤ x1.toInt ∧ x1.toInt ≤ 29)))) (cB G (fun (_ : Unit) => []) (fun (_ : Unit) => []) (va_A [(h, .inr (12, [.ref (a 0), .ref (a 1), .ref (a 2), .ref (a 3), .int 0, .int 0, .int 0, .int 0, .int 0, .int 0, .int 0, .int (-1), .ref (a 4), .int 0, .int 0, .int 0, .int 0, .int 0, .int 0, .int 0, .int 0, .int 0, .int 0, .int 0, .ref (a 5), .ref (a 6), .ref (a 7), .ref (a 8), .ref (a 9), .ref (a 10), .ref (a 11), .ref (a 12), .ref (a 13), .ref (a 14), .ref (a 15), .ref (a 16), .ref (a 17), .ref (a 18), .ref (a 19), .ref (a 20), .ref (a 21), .ref (a 22), .ref (a 23), .ref (a 24), .ref (a 25), .ref (a 26), .ref (a 27), .ref (a 28), .ref (a 29), .ref (a 30), .int 0, .ref (a 31), .ref (a 32)])), ((a 9), .inl ((d 9), 30, .inl (fun _ => 0)))] sz)) (va_A [(h, .inr (12, [.ref (a 0), .ref (a 1), .ref (a 2), .ref (a 3), .int 0, .int 0, .int 0, .int 0, .int 0, .int 0, .int 0, .int (-1), .ref (a 4), .int 0, .int 0, .int 0, .int 0, .int 0, .int 0, .int 0, .int 0, .int 0, .int 0, .int 0, .ref (a 5), .ref (a 6), .ref (a 7), .ref (a 8), .ref (a 9), .ref (a 10), .ref (a 11), .ref (a 12), .ref (a 13), .ref (a 14), .ref (a 15), .ref (a 16), .ref (a 17), .ref (a 18), .ref (a 19), .ref (a 20), .ref (a 21), .ref (a 22), .ref (a 23), .ref (a 24), .ref (a 25), .ref (a 26), .ref (a 27), .ref (a 28), .ref (a 29), .ref (a 30), .int 0, .ref (a 31), .ref (a 32)])), ((a 9), .inl ((d 9), 30, .inl (fun _ => 0)))] sz)) 0 0 (va_A [(h, .inr (12, [.ref (a 0), .ref (a 1), .ref (a 2), .ref (a 3), .int 0, .int 0, .int 0, .int 0, .int 0, .int 0, .int 0, .int (-1), .ref (a 4), .int 0, .int 0, .int 0, .int 0, .int 0, .int 0, .int 0, .int 0, .int 0, .int 0, .int 0, .ref (a 5), .ref (a 6), .ref (a 7), .ref (a 8), .ref (a 9), .ref (a 10), .ref (a 11), .ref (a 12), .ref (a 13), .ref (a 14), .ref (a 15), .ref (a 16), .ref (a 17), .ref (a 18), .ref (a 19), .ref (a 20), .ref (a 21), .ref (a 22), .ref (a 23), .ref (a 24), .ref (a 25), .ref (a 26), .ref (a 27), .ref (a 28), .ref (a 29), .ref (a 30), .int 0, .ref (a 31), .ref (a 32)])), ((a 9), .inl ((d 9), 30, .inl (fun _ => 0)))] sz) := by
  refine ofC_i (cc := cX12_nameless) (maxL := 4) (ret := (some .int)) (by decide) rfl (Nat.le_of_ble_eq_true rfl) ?_
  intro p e s m args below meth c A ls Q F hr hin hlk St hl hQ
  have hx := F.1
  have hb := F.2.1
  have hl : lv_has ls 4 [(0, .ref h), (1, .int x1), (2, .int x2)] := hl
  have St : cS G k [(h, .inr (12, [.ref (a 0), .ref (a 1), .ref (a 2), .ref (a 3), .int 0, .int 0, .int 0, .int 0, .int 0, .int 0, .int 0, .int (-1), .ref (a 4), .int 0, .int 0, .int 0, .int 0, .int 0, .int 0, .int 0, .int 0, .int 0, .int 0, .int 0, .ref (a 5), .ref (a 6), .ref (a 7), .ref (a 8), .ref (a 9), .ref (a 10), .ref (a 11), .ref (a 12), .ref (a 13), .ref (a 14), .ref (a 15), .ref (a 16), .ref (a 17), .ref (a 18), .ref (a 19), .ref (a 20), .ref (a 21), .ref (a 22), .ref (a 23), .ref (a 24), .ref (a 25), .ref (a 26), .ref (a 27), .ref (a 28), .ref (a 29), .ref (a 30), .int 0, .ref (a 31), .ref (a 32)])), ((a 9), .inl ((d 9), 30, .inl (fun _ => 0)))] [((d 9), .boolean)] A s s.heap [] := St
  refine lv_iload_n hx hb dX12_nameless_0 rfl (lv_at hl 1 rfl) ?_
  refine cs_i St [] [0, 1] (wc := []) (wr := [(h, .inr (12, [.ref (a 0), .ref (a 1), .ref (a 2), .ref (a 3), .int 0, .int 0, .int 0, .int 0, .int 0, .int 0, .int 0, .int (-1), .ref (a 4), .int 0, .int 0, .int 0, .int 0, .int 0, .int 0, .int 0, .int 0, .int 0, .int 0, .int 0, .ref (a 5), .ref (a 6), .ref (a 7), .ref (a 8), .ref (a 9), .ref (a 10), .ref (a 11), .ref (a 12), .ref (a 13), .ref (a 14), .ref (a 15), .ref (a 16), .ref (a 17), .ref (a 18), .ref (a 19), .ref (a 20), .ref (a 21), .ref (a 22), .ref (a 23), .ref (a 24), .ref (a 25), .ref (a 26), .ref (a 27), .ref (a 28), .ref (a 29), .ref (a 30), .int 0, .ref (a 31), .ref (a 32)])), ((a 9), .inl ((d 9), 30, .inl (fun _ => 0)))]) rfl rfl (by decide) (by decide) (va_runS (As := [.int x1]) (rest := []) F (c12_isGiver l G k _ x1) (cwSt F mf_X12_isGiver km_X12_218 rfl rfl ⟨Nat.le_of_ble_eq_true rfl, Nat.le_of_ble_eq_true rfl⟩) (cs_pre St [] rfl (by decide) [] rfl) rfl rfl hl.1 rfl (lv_room (Nat.le_of_ble_eq_true rfl)) dX12_nameless_1 ⟨Nat.le_of_ble_eq_true rfl, Nat.le_of_ble_eq_true rfl⟩) (fun r_1 u_2 H locs hw St => ?_)
  try dsimp only at hw
  rcases hw with ⟨z_3, hf_4⟩ | ⟨z_5, hf_6⟩
  ·
    subst r_1
    have St : cS G k [(h, .inr (12, [.ref (a 0), .ref (a 1), .ref (a 2), .ref (a 3), .int 0, .int 0, .int 0, .int 0, .int 0, .int 0, .int 0, .int (-1), .ref (a 4), .int 0, .int 0, .int 0, .int 0, .int 0, .int 0, .int 0, .int 0, .int 0, .int 0, .int 0, .ref (a 5), .ref (a 6), .ref (a 7), .ref (a 8), .ref (a 9), .ref (a 10), .ref (a 11), .ref (a 12), .ref (a 13), .ref (a 14), .ref (a 15), .ref (a 16), .ref (a 17), .ref (a 18), .ref (a 19), .ref (a 20), .ref (a 21), .ref (a 22), .ref (a 23), .ref (a 24), .ref (a 25), .ref (a 26), .ref (a 27), .ref (a 28), .ref (a 29), .ref (a 30), .int 0, .ref (a 31), .ref (a 32)])), ((a 9), .inl ((d 9), 30, .inl (fun _ => 0)))] [((d 9), .boolean)] A s H locs := St
    refine lv_if_ne (tgt := 10) hx hb dX12_nameless_4 (by decide) (fun c4 => ?_) (fun c4 => ?_)
    rotate_left
    · exact absurd c4 (by decide)
    refine lv_aload_n hx hb dX12_nameless_10 rfl (lv_at hl 0 rfl) ?_
    refine cs_get F St 0 rfl rfl inX12 23 (by decide) kf_X12_224 rfl dX12_nameless_11 ?_
    refine lv_if_eq (tgt := 20) hx hb dX12_nameless_14 (by decide) (fun c14 => ?_) (fun c14 => ?_)
    rotate_left
    · exact absurd (by decide) c14
    refine lv_aload_n hx hb dX12_nameless_20 rfl (lv_at hl 0 rfl) ?_
    refine cs_get F St 0 rfl rfl inX12 28 (by decide) kf_X12_132 rfl dX12_nameless_21 ?_
    refine lv_iload_n hx hb dX12_nameless_24 rfl (lv_at hl 1 rfl) ?_
    refine cs_zld F St 1 0 rfl rfl (vp_in_iff.mpr ⟨by omega, by omega⟩) dX12_nameless_25 ?_
    refine top_i (y := 0) rfl ?_
    refine lv_istore_n (lv' := [(3, .int 0), (0, .ref h), (1, .int x1), (2, .int x2)]) hx hb dX12_nameless_26 rfl hl (by decide) rfl (fun ls hl => ?_)
    refine lv_aload_n hx hb dX12_nameless_27 rfl (lv_at hl 1 rfl) ?_
    refine cs_get F St 0 rfl rfl inX12 28 (by decide) kf_X12_132 rfl dX12_nameless_28 ?_
    refine lv_iload_n hx hb dX12_nameless_31 rfl (lv_at hl 2 rfl) ?_
    refine lv_iload_n hx hb dX12_nameless_32 rfl (lv_at hl 3 rfl) ?_
    refine cs_zst F St 1 0 rfl rfl (vp_in_iff.mpr ⟨by omega, by omega⟩) (w' := [(h, .inr (12, [.ref (a 0), .ref (a 1), .ref (a 2), .ref (a 3), .int 0, .int 0, .int 0, .int 0, .int 0, .int 0, .int 0, .int (-1), .ref (a 4), .int 0, .int 0, .int 0, .int 0, .int 0, .int 0, .int 0, .int 0, .int 0, .int 0, .int 0, .ref (a 5), .ref (a 6), .ref (a 7), .ref (a 8), .ref (a 9), .ref (a 10), .ref (a 11), .ref (a 12), .ref (a 13), .ref (a 14), .ref (a 15), .ref (a 16), .ref (a 17), .ref (a 18), .ref (a 19), .ref (a 20), .ref (a 21), .ref (a 22), .ref (a 23), .ref (a 24), .ref (a 25), .ref (a 26), .ref (a 27), .ref (a 28), .ref (a 29), .ref (a 30), .int 0, .ref (a 31), .ref (a 32)])), ((a 9), .inl ((d 9), 30, .inl (upd (fun _ => 0) (x1 : Int32).toNatClampNeg (vp_nar .boolean x2))))]) rfl dX12_nameless_33 (fun H locs St => ?_)
    obtain ⟨f_7, ef_7⟩ : ∃ zz : Nat → Int32, zz = upd (fun _ => 0) (x1 : Int32).toNatClampNeg (vp_nar .boolean x2) := ⟨_, rfl⟩
    rw [← ef_7] at St
    refine lv_iload_n hx hb dX12_nameless_34 rfl (lv_at hl 0 rfl) ?_
    refine lv_iload_n hx hb dX12_nameless_35 rfl (lv_at hl 3 rfl) ?_
    refine lv_icmp_ne (tgt := 43) hx hb dX12_nameless_36 (by decide) (fun c36 => ?_) (fun c36 => ?_)
    ·
      have i36 := ci_ne (x := 0) (y := x2) (show (0 : Int32).toInt = 0 by decide) rfl c36
      refine lv_iconst (v := 1) hx hb dX12_nameless_43 (by decide) ?_
      exact cs_iret F hr hlk hQ St () (r := 1) (Or.inr (Or.inl ⟨rfl, by omega, fun q => c36 q.symm⟩)) [] rfl (by decide) [] rfl (by decide) (by decide) dX12_nameless_44
    ·
      have i36 := ci_eq (x := 0) (y := x2) (show (0 : Int32).toInt = 0 by decide) rfl c36
      refine lv_iconst (v := 0) hx hb dX12_nameless_39 (by decide) ?_
      refine lv_goto (tgt := 44) hx hb dX12_nameless_40 (by decide) ?_
      exact cs_iret F hr hlk hQ St () (r := 0) (Or.inl ⟨rfl, by omega, c36.symm⟩) [] rfl (by decide) [] rfl (by decide) (by decide) dX12_nameless_44
  ·
    subst r_1
    have St : cS G k [(h, .inr (12, [.ref (a 0), .ref (a 1), .ref (a 2), .ref (a 3), .int 0, .int 0, .int 0, .int 0, .int 0, .int 0, .int 0, .int (-1), .ref (a 4), .int 0, .int 0, .int 0, .int 0, .int 0, .int 0, .int 0, .int 0, .int 0, .int 0, .int 0, .ref (a 5), .ref (a 6), .ref (a 7), .ref (a 8), .ref (a 9), .ref (a 10), .ref (a 11), .ref (a 12), .ref (a 13), .ref (a 14), .ref (a 15), .ref (a 16), .ref (a 17), .ref (a 18), .ref (a 19), .ref (a 20), .ref (a 21), .ref (a 22), .ref (a 23), .ref (a 24), .ref (a 25), .ref (a 26), .ref (a 27), .ref (a 28), .ref (a 29), .ref (a 30), .int 0, .ref (a 31), .ref (a 32)])), ((a 9), .inl ((d 9), 30, .inl (fun _ => 0)))] [((d 9), .boolean)] A s H locs := St
    refine lv_if_ne (tgt := 10) hx hb dX12_nameless_4 (by decide) (fun c4 => ?_) (fun c4 => ?_)
    · exact absurd c4 (by decide)
    refine lv_bipush (v := (-2)) hx hb dX12_nameless_7 (by decide) ?_
    exact cs_iret F hr hlk hQ St () (r := (-2)) (Or.inr (Or.inr ⟨rfl, by omega⟩)) [] rfl (by decide) [] rfl (by decide) (by decide) dX12_nameless_9
set_option maxHeartbeats 4000000 in
set_option maxRecDepth 100000 in
theorem m_monthOf (l : Launch) (G : va_G) (k : Nat → Nat) (sz : Nat) (h : Nat) (a : Nat → Nat) (d : Nat → ClassId) (q1 : Int32) (g1 : Nat → Int32) (g2 : Nat → Int32) : Met l yX12_monthOf (Cond.code yX12_monthOf cX12_monthOf 3 (some .int) :: tb) ({ frames := 0, cells := 0, slots := 0, locals := 0 } : Room) (va_Pc [.ref h, .int 0, .int q1] (cP G k [(h, .inr (12, [.ref (a 0), .ref (a 1), .ref (a 2), .ref (a 3), .int 0, .int 0, .int 0, .int 0, .int 0, .int 0, .int 0, .int (-1), .ref (a 4), .int 0, .int 0, .int 0, .int 0, .int 0, .int 0, .int 0, .int 0, .int 0, .int 0, .int 0, .ref (a 5), .ref (a 6), .ref (a 7), .ref (a 8), .ref (a 9), .ref (a 10), .ref (a 11), .ref (a 12), .ref (a 13), .ref (a 14), .ref (a 15), .ref (a 16), .ref (a 17), .ref (a 18), .ref (a 19), .ref (a 20), .ref (a 21), .ref (a 22), .ref (a 23), .ref (a 24), .ref (a 25), .ref (a 26), .ref (a 27), .ref (a 28), .ref (a 29), .ref (a 30), .int 0, .ref (a 31), .ref (a 32)])), ((a 12), .inl ((d 12), 60, .inl g1)), ((a 13), .inl ((d 13), 60, .inl g2))] [((d 12), .int), ((d 13), .int)] sz)) (va_Qi (fun (r : Int32) (_ : Unit) => (r = r)) (cB G (fun (_ : Unit) => [(h, .inr (12, [.ref (a 0), .ref (a 1), .ref (a 2), .ref (a 3), .int 0, .int 0, .int 0, .int 0, .int 0, .int 0, .int 0, .int (-1), .ref (a 4), .int 0, .int 0, .int 0, .int 0, .int 0, .int 0, .int 0, .int 0, .int 0, .int 0, .int 0, .ref (a 5), .ref (a 6), .ref (a 7), .ref (a 8), .ref (a 9), .ref (a 10), .ref (a 11), .ref (a 12), .ref (a 13), .ref (a 14), .ref (a 15), .ref (a 16), .ref (a 17), .ref (a 18), .ref (a 19), .ref (a 20), .ref (a 21), .ref (a 22), .ref (a 23), .ref (a 24), .ref (a 25), .ref (a 26), .ref (a 27), .ref (a 28), .ref (a 29), .ref (a 30), .int 0, .ref (a 31), .ref (a 32)])), ((a 12), .inl ((d 12), 60, .inl g1)), ((a 13), .inl ((d 13), 60, .inl g2))]) (fun (_ : Unit) => []) (va_A [(h, .inr (12, [.ref (a 0), .ref (a 1), .ref (a 2), .ref (a 3), .int 0, .int 0, .int 0, .int 0, .int 0, .int 0, .int 0, .int (-1), .ref (a 4), .int 0, .int 0, .int 0, .int 0, .int 0, .int 0, .int 0, .int 0, .int 0, .int 0, .int 0, .ref (a 5), .ref (a 6), .ref (a 7), .ref (a 8), .ref (a 9), .ref (a 10), .ref (a 11), .ref (a 12), .ref (a 13), .ref (a 14), .ref (a 15), .ref (a 16), .ref (a 17), .ref (a 18), .ref (a 19), .ref (a 20), .ref (a 21), .ref (a 22), .ref (a 23), .ref (a 24), .ref (a 25), .ref (a 26), .ref (a 27), .ref (a 28), .ref (a 29), .ref (a 30), .int 0, .ref (a 31), .ref (a 32)])), ((a 12), .inl ((d 12), 60, .inl g1)), ((a 13), .inl ((d 13), 60, .inl g2))] sz)) (va_A [(h, .inr (12, [.ref (a 0), .ref (a 1), .ref (a 2), .ref (a 3), .int 0, .int 0, .int 0, .int 0, .int 0, .int 0, .int 0, .int (-1), .ref (a 4), .int 0, .int 0, .int 0, .int 0, .int 0, .int 0, .int 0, .int 0, .int 0, .int 0, .int 0, .ref (a 5), .ref (a 6), .ref (a 7), .ref (a 8), .ref (a 9), .ref (a 10), .ref (a 11), .ref (a 12), .ref (a 13), .ref (a 14), .ref (a 15), .ref (a 16), .ref (a 17), .ref (a 18), .ref (a 19), .ref (a 20), .ref (a 21), .ref (a 22), .ref (a 23), .ref (a 24), .ref (a 25), .ref (a 26), .ref (a 27), .ref (a 28), .ref (a 29), .ref (a 30), .int 0, .ref (a 31), .ref (a 32)])), ((a 12), .inl ((d 12), 60, .inl g1)), ((a 13), .inl ((d 13), 60, .inl g2))] sz)) 0 0 (va_A [(h, .inr (12, [.ref (a 0), .ref (a 1), .ref (a 2), .ref (a 3), .int 0, .int 0, .int 0, .int 0, .int 0, .int 0, .int 0, .int (-1), .ref (a 4), .int 0, .int 0, .int 0, .int 0, .int 0, .int 0, .int 0, .int 0, .int 0, .int 0, .int 0, .ref (a 5), .ref (a 6), .ref (a 7), .ref (a 8), .ref (a 9), .ref (a 10), .ref (a 11), .ref (a 12), .ref (a 13), .ref (a 14), .ref (a 15), .ref (a 16), .ref (a 17), .ref (a 18), .ref (a 19), .ref (a 20), .ref (a 21), .ref (a 22), .ref (a 23), .ref (a 24), .ref (a 25), .ref (a 26), .ref (a 27), .ref (a 28), .ref (a 29), .ref (a 30), .int 0, .ref (a 31), .ref (a 32)])), ((a 12), .inl ((d 12), 60, .inl g1)), ((a 13), .inl ((d 13), 60, .inl g2))] sz) := by
  refine ofC_i (cc := cX12_monthOf) (maxL := 3) (ret := (some .int)) (by decide) rfl (Nat.le_of_ble_eq_true rfl) ?_
  intro p e s m args below meth c A ls Q F hr hin hlk St hl hQ
  have hx := F.1
  have hb := F.2.1
  have hl : lv_has ls 3 [(0, .ref h), (1, .int 0), (2, .int q1)] := hl
  have St : cS G k [(h, .inr (12, [.ref (a 0), .ref (a 1), .ref (a 2), .ref (a 3), .int 0, .int 0, .int 0, .int 0, .int 0, .int 0, .int 0, .int (-1), .ref (a 4), .int 0, .int 0, .int 0, .int 0, .int 0, .int 0, .int 0, .int 0, .int 0, .int 0, .int 0, .ref (a 5), .ref (a 6), .ref (a 7), .ref (a 8), .ref (a 9), .ref (a 10), .ref (a 11), .ref (a 12), .ref (a 13), .ref (a 14), .ref (a 15), .ref (a 16), .ref (a 17), .ref (a 18), .ref (a 19), .ref (a 20), .ref (a 21), .ref (a 22), .ref (a 23), .ref (a 24), .ref (a 25), .ref (a 26), .ref (a 27), .ref (a 28), .ref (a 29), .ref (a 30), .int 0, .ref (a 31), .ref (a 32)])), ((a 12), .inl ((d 12), 60, .inl g1)), ((a 13), .inl ((d 13), 60, .inl g2))] [((d 12), .int), ((d 13), .int)] A s s.heap [] := St
  refine lv_aload_n hx hb dX12_monthOf_0 rfl (lv_at hl 0 rfl) ?_
  refine cs_get F St 0 rfl rfl inX12 31 (by decide) kf_X12_141 rfl dX12_monthOf_1 ?_
  refine lv_iload_n hx hb dX12_monthOf_4 rfl (lv_at hl 1 rfl) ?_
  refine cs_ild F St 1 0 rfl rfl (vp_in_iff.mpr (by decide)) dX12_monthOf_5 ?_
  refine lv_topi (fun y_1 ey_1 => ?_)
  refine lv_iload_n hx hb dX12_monthOf_6 rfl (lv_at hl 2 rfl) ?_
  refine lv_aload_n hx hb dX12_monthOf_7 rfl (lv_at hl 0 rfl) ?_
  refine cs_get F St 0 rfl rfl inX12 32 (by decide) kf_X12_144 rfl dX12_monthOf_8 ?_
  refine lv_iload_n hx hb dX12_monthOf_11 rfl (lv_at hl 1 rfl) ?_
  refine cs_ild F St 2 1 rfl rfl (vp_in_iff.mpr (by decide)) dX12_monthOf_12 ?_
  refine lv_topi (fun y_2 ey_2 => ?_)
  refine lv_imul hx hb dX12_monthOf_13 ?_
  refine lv_topi (fun y_3 ey_3 => ?_)
  refine lv_iadd hx hb dX12_monthOf_14 ?_
  refine lv_topi (fun y_4 ey_4 => ?_)
  have jy_4 := ci_add (x := y_1) (y := y_3) rfl rfl ey_4
  exact cs_iret F hr hlk hQ St () (r := y_4) rfl [0, 1, 2] rfl (by decide) [] rfl (by decide) (by decide) dX12_monthOf_15
set_option maxHeartbeats 4000000 in
set_option maxRecDepth 100000 in
theorem m_pledge (l : Launch) (G : va_G) (k : Nat → Nat) (sz : Nat) (h : Nat) (a : Nat → Nat) (d : Nat → ClassId) (x1 : Int32) (x2 : Int32) (x3 : Int32) (x4 : Int32) (x5 : Int32) : Met l yX12_pledge (Cond.code yX12_pledge cX12_pledge 8 (some .int) :: tb) ({ frames := 2, cells := 0, slots := 0, locals := 45 } : Room) (va_Pc [.ref h, .int x1, .int x2, .int x3, .int x4, .int x5] (cP G k [(h, .inr (12, [.ref (a 0), .ref (a 1), .ref (a 2), .ref (a 3), .int 0, .int 0, .int 0, .int 0, .int 0, .int 0, .int 0, .int (-1), .ref (a 4), .int 0, .int 0, .int 0, .int 0, .int 0, .int 0, .int 0, .int 0, .int 0, .int 0, .int 0, .ref (a 5), .ref (a 6), .ref (a 7), .ref (a 8), .ref (a 9), .ref (a 10), .ref (a 11), .ref (a 12), .ref (a 13), .ref (a 14), .ref (a 15), .ref (a 16), .ref (a 17), .ref (a 18), .ref (a 19), .ref (a 20), .ref (a 21), .ref (a 22), .ref (a 23), .ref (a 24), .ref (a 25), .ref (a 26), .ref (a 27), .ref (a 28), .ref (a 29), .ref (a 30), .int 0, .ref (a 31), .ref (a 32)])), ((a 10), .inl ((d 10), 60, .inl (fun _ => 0))), ((a 11), .inl ((d 11), 60, .inl (fun _ => 0))), ((a 12), .inl ((d 12), 60, .inl (fun _ => 0))), ((a 13), .inl ((d 13), 60, .inl (fun _ => 0))), ((a 14), .inl ((d 14), 60, .inl (fun _ => 0))), ((a 15), .inl ((d 15), 60, .inl (fun _ => 0))), ((a 18), .inl ((d 18), 5040, .inl (fun _ => 0))), ((a 20), .inl ((d 20), 5040, .inl (fun _ => 0))), ((a 21), .inl ((d 21), 5040, .inl (fun _ => 0)))] [((d 10), .int), ((d 11), .int), ((d 12), .int), ((d 13), .int), ((d 14), .int), ((d 15), .int), ((d 18), .int), ((d 20), .boolean), ((d 21), .boolean)] sz)) (va_Qi (fun (r : Int32) (_ : Unit) => ((r = 0) ∧ ((0 ≤ x1.toInt ∧ x1.toInt ≤ 29) ∧ (1 ≤ x2.toInt ∧ x2.toInt ≤ 100000) ∧ (0 ≤ x3.toInt ∧ x3.toInt ≤ 119) ∧ (1 ≤ x4.toInt ∧ x4.toInt ≤ 12) ∧ 1 ≤ x5.toInt ∧ x5.toInt ≤ 84)) ∨ ((r = (-2)) ∧ (¬ ((0 ≤ x1.toInt ∧ x1.toInt ≤ 29) ∧ (1 ≤ x2.toInt ∧ x2.toInt ≤ 100000) ∧ (0 ≤ x3.toInt ∧ x3.toInt ≤ 119) ∧ (1 ≤ x4.toInt ∧ x4.toInt ≤ 12) ∧ 1 ≤ x5.toInt ∧ x5.toInt ≤ 84)))) (cB G (fun (_ : Unit) => []) (fun (_ : Unit) => []) (va_A [(h, .inr (12, [.ref (a 0), .ref (a 1), .ref (a 2), .ref (a 3), .int 0, .int 0, .int 0, .int 0, .int 0, .int 0, .int 0, .int (-1), .ref (a 4), .int 0, .int 0, .int 0, .int 0, .int 0, .int 0, .int 0, .int 0, .int 0, .int 0, .int 0, .ref (a 5), .ref (a 6), .ref (a 7), .ref (a 8), .ref (a 9), .ref (a 10), .ref (a 11), .ref (a 12), .ref (a 13), .ref (a 14), .ref (a 15), .ref (a 16), .ref (a 17), .ref (a 18), .ref (a 19), .ref (a 20), .ref (a 21), .ref (a 22), .ref (a 23), .ref (a 24), .ref (a 25), .ref (a 26), .ref (a 27), .ref (a 28), .ref (a 29), .ref (a 30), .int 0, .ref (a 31), .ref (a 32)])), ((a 10), .inl ((d 10), 60, .inl (fun _ => 0))), ((a 11), .inl ((d 11), 60, .inl (fun _ => 0))), ((a 12), .inl ((d 12), 60, .inl (fun _ => 0))), ((a 13), .inl ((d 13), 60, .inl (fun _ => 0))), ((a 14), .inl ((d 14), 60, .inl (fun _ => 0))), ((a 15), .inl ((d 15), 60, .inl (fun _ => 0))), ((a 18), .inl ((d 18), 5040, .inl (fun _ => 0))), ((a 20), .inl ((d 20), 5040, .inl (fun _ => 0))), ((a 21), .inl ((d 21), 5040, .inl (fun _ => 0)))] sz)) (va_A [(h, .inr (12, [.ref (a 0), .ref (a 1), .ref (a 2), .ref (a 3), .int 0, .int 0, .int 0, .int 0, .int 0, .int 0, .int 0, .int (-1), .ref (a 4), .int 0, .int 0, .int 0, .int 0, .int 0, .int 0, .int 0, .int 0, .int 0, .int 0, .int 0, .ref (a 5), .ref (a 6), .ref (a 7), .ref (a 8), .ref (a 9), .ref (a 10), .ref (a 11), .ref (a 12), .ref (a 13), .ref (a 14), .ref (a 15), .ref (a 16), .ref (a 17), .ref (a 18), .ref (a 19), .ref (a 20), .ref (a 21), .ref (a 22), .ref (a 23), .ref (a 24), .ref (a 25), .ref (a 26), .ref (a 27), .ref (a 28), .ref (a 29), .ref (a 30), .int 0, .ref (a 31), .ref (a 32)])), ((a 10), .inl ((d 10), 60, .inl (fun _ => 0))), ((a 11), .inl ((d 11), 60, .inl (fun _ => 0))), ((a 12), .inl ((d 12), 60, .inl (fun _ => 0))), ((a 13), .inl ((d 13), 60, .inl (fun _ => 0))), ((a 14), .inl ((d 14), 60, .inl (fun _ => 0))), ((a 15), .inl ((d 15), 60, .inl (fun _ => 0))), ((a 18), .inl ((d 18), 5040, .inl (fun _ => 0))), ((a 20), .inl ((d 20), 5040, .inl (fun _ => 0))), ((a 21), .inl ((d 21), 5040, .inl (fun _ => 0)))] sz)) 0 0 (va_A [(h, .inr (12, [.ref (a 0), .ref (a 1), .ref (a 2), .ref (a 3), .int 0, .int 0, .int 0, .int 0, .int 0, .int 0, .int 0, .int (-1), .ref (a 4), .int 0, .int 0, .int 0, .int 0, .int 0, .int 0, .int 0, .int 0, .int 0, .int 0, .int 0, .ref (a 5), .ref (a 6), .ref (a 7), .ref (a 8), .ref (a 9), .ref (a 10), .ref (a 11), .ref (a 12), .ref (a 13), .ref (a 14), .ref (a 15), .ref (a 16), .ref (a 17), .ref (a 18), .ref (a 19), .ref (a 20), .ref (a 21), .ref (a 22), .ref (a 23), .ref (a 24), .ref (a 25), .ref (a 26), .ref (a 27), .ref (a 28), .ref (a 29), .ref (a 30), .int 0, .ref (a 31), .ref (a 32)])), ((a 10), .inl ((d 10), 60, .inl (fun _ => 0))), ((a 11), .inl ((d 11), 60, .inl (fun _ => 0))), ((a 12), .inl ((d 12), 60, .inl (fun _ => 0))), ((a 13), .inl ((d 13), 60, .inl (fun _ => 0))), ((a 14), .inl ((d 14), 60, .inl (fun _ => 0))), ((a 15), .inl ((d 15), 60, .inl (fun _ => 0))), ((a 18), .inl ((d 18), 5040, .inl (fun _ => 0))), ((a 20), .inl ((d 20), 5040, .inl (fun _ => 0))), ((a 21), .inl ((d 21), 5040, .inl (fun _ => 0)))] sz) := by
  refine ofC_i (cc := cX12_pledge) (maxL := 8) (ret := (some .int)) (by decide) rfl (Nat.le_of_ble_eq_true rfl) ?_
  intro p e s m args below meth c A ls Q F hr hin hlk St hl hQ
  have hx := F.1
  have hb := F.2.1
  have hl : lv_has ls 8 [(0, .ref h), (1, .int x1), (2, .int x2), (3, .int x3), (4, .int x4), (5, .int x5)] := hl
  have St : cS G k [(h, .inr (12, [.ref (a 0), .ref (a 1), .ref (a 2), .ref (a 3), .int 0, .int 0, .int 0, .int 0, .int 0, .int 0, .int 0, .int (-1), .ref (a 4), .int 0, .int 0, .int 0, .int 0, .int 0, .int 0, .int 0, .int 0, .int 0, .int 0, .int 0, .ref (a 5), .ref (a 6), .ref (a 7), .ref (a 8), .ref (a 9), .ref (a 10), .ref (a 11), .ref (a 12), .ref (a 13), .ref (a 14), .ref (a 15), .ref (a 16), .ref (a 17), .ref (a 18), .ref (a 19), .ref (a 20), .ref (a 21), .ref (a 22), .ref (a 23), .ref (a 24), .ref (a 25), .ref (a 26), .ref (a 27), .ref (a 28), .ref (a 29), .ref (a 30), .int 0, .ref (a 31), .ref (a 32)])), ((a 10), .inl ((d 10), 60, .inl (fun _ => 0))), ((a 11), .inl ((d 11), 60, .inl (fun _ => 0))), ((a 12), .inl ((d 12), 60, .inl (fun _ => 0))), ((a 13), .inl ((d 13), 60, .inl (fun _ => 0))), ((a 14), .inl ((d 14), 60, .inl (fun _ => 0))), ((a 15), .inl ((d 15), 60, .inl (fun _ => 0))), ((a 18), .inl ((d 18), 5040, .inl (fun _ => 0))), ((a 20), .inl ((d 20), 5040, .inl (fun _ => 0))), ((a 21), .inl ((d 21), 5040, .inl (fun _ => 0)))] [((d 10), .int), ((d 11), .int), ((d 12), .int), ((d 13), .int), ((d 14), .int), ((d 15), .int), ((d 18), .int), ((d 20), .boolean), ((d 21), .boolean)] A s s.heap [] := St
  refine lv_iload_n hx hb dX12_pledge_0 rfl (lv_at hl 1 rfl) ?_
  refine cs_i St [] [0, 1, 2, 3, 4, 5, 6, 7, 8, 9] (wc := []) (wr := [(h, .inr (12, [.ref (a 0), .ref (a 1), .ref (a 2), .ref (a 3), .int 0, .int 0, .int 0, .int 0, .int 0, .int 0, .int 0, .int (-1), .ref (a 4), .int 0, .int 0, .int 0, .int 0, .int 0, .int 0, .int 0, .int 0, .int 0, .int 0, .int 0, .ref (a 5), .ref (a 6), .ref (a 7), .ref (a 8), .ref (a 9), .ref (a 10), .ref (a 11), .ref (a 12), .ref (a 13), .ref (a 14), .ref (a 15), .ref (a 16), .ref (a 17), .ref (a 18), .ref (a 19), .ref (a 20), .ref (a 21), .ref (a 22), .ref (a 23), .ref (a 24), .ref (a 25), .ref (a 26), .ref (a 27), .ref (a 28), .ref (a 29), .ref (a 30), .int 0, .ref (a 31), .ref (a 32)])), ((a 10), .inl ((d 10), 60, .inl (fun _ => 0))), ((a 11), .inl ((d 11), 60, .inl (fun _ => 0))), ((a 12), .inl ((d 12), 60, .inl (fun _ => 0))), ((a 13), .inl ((d 13), 60, .inl (fun _ => 0))), ((a 14), .inl ((d 14), 60, .inl (fun _ => 0))), ((a 15), .inl ((d 15), 60, .inl (fun _ => 0))), ((a 18), .inl ((d 18), 5040, .inl (fun _ => 0))), ((a 20), .inl ((d 20), 5040, .inl (fun _ => 0))), ((a 21), .inl ((d 21), 5040, .inl (fun _ => 0)))]) rfl rfl (by decide) (by decide) (va_runS (As := [.int x1]) (rest := []) F (c12_isGiver l G k _ x1) (cwSt F mf_X12_isGiver km_X12_218 rfl rfl ⟨Nat.le_of_ble_eq_true rfl, Nat.le_of_ble_eq_true rfl⟩) (cs_pre St [] rfl (by decide) [] rfl) rfl rfl hl.1 rfl (lv_room (Nat.le_of_ble_eq_true rfl)) dX12_pledge_1 ⟨Nat.le_of_ble_eq_true rfl, Nat.le_of_ble_eq_true rfl⟩) (fun r_1 u_2 H locs hw St => ?_)
  try dsimp only at hw
  rcases hw with ⟨z_3, hf_4⟩ | ⟨z_5, hf_6⟩
  ·
    subst r_1
    have St : cS G k [(h, .inr (12, [.ref (a 0), .ref (a 1), .ref (a 2), .ref (a 3), .int 0, .int 0, .int 0, .int 0, .int 0, .int 0, .int 0, .int (-1), .ref (a 4), .int 0, .int 0, .int 0, .int 0, .int 0, .int 0, .int 0, .int 0, .int 0, .int 0, .int 0, .ref (a 5), .ref (a 6), .ref (a 7), .ref (a 8), .ref (a 9), .ref (a 10), .ref (a 11), .ref (a 12), .ref (a 13), .ref (a 14), .ref (a 15), .ref (a 16), .ref (a 17), .ref (a 18), .ref (a 19), .ref (a 20), .ref (a 21), .ref (a 22), .ref (a 23), .ref (a 24), .ref (a 25), .ref (a 26), .ref (a 27), .ref (a 28), .ref (a 29), .ref (a 30), .int 0, .ref (a 31), .ref (a 32)])), ((a 10), .inl ((d 10), 60, .inl (fun _ => 0))), ((a 11), .inl ((d 11), 60, .inl (fun _ => 0))), ((a 12), .inl ((d 12), 60, .inl (fun _ => 0))), ((a 13), .inl ((d 13), 60, .inl (fun _ => 0))), ((a 14), .inl ((d 14), 60, .inl (fun _ => 0))), ((a 15), .inl ((d 15), 60, .inl (fun _ => 0))), ((a 18), .inl ((d 18), 5040, .inl (fun _ => 0))), ((a 20), .inl ((d 20), 5040, .inl (fun _ => 0))), ((a 21), .inl ((d 21), 5040, .inl (fun _ => 0)))] [((d 10), .int), ((d 11), .int), ((d 12), .int), ((d 13), .int), ((d 14), .int), ((d 15), .int), ((d 18), .int), ((d 20), .boolean), ((d 21), .boolean)] A s H locs := St
    refine lv_if_eq (tgt := 61) hx hb dX12_pledge_4 (by decide) (fun c4 => ?_) (fun c4 => ?_)
    · exact absurd c4 (by decide)
    refine lv_iload_n hx hb dX12_pledge_7 rfl (lv_at hl 2 rfl) ?_
    refine lv_i2l (v := x2.toInt64) hx hb dX12_pledge_8 rfl ?_
    refine lv_lconst (v := 1) hx hb dX12_pledge_9 (by decide) ?_
    refine lv_ldc2 (v := 100000) hx hb F.2.2.2.1 (F.2.2.2.2 _ kk_X12_228) dX12_pledge_10 ?_
    refine cs_i St [] [0, 1, 2, 3, 4, 5, 6, 7, 8, 9] (wc := []) (wr := [(h, .inr (12, [.ref (a 0), .ref (a 1), .ref (a 2), .ref (a 3), .int 0, .int 0, .int 0, .int 0, .int 0, .int 0, .int 0, .int (-1), .ref (a 4), .int 0, .int 0, .int 0, .int 0, .int 0, .int 0, .int 0, .int 0, .int 0, .int 0, .int 0, .ref (a 5), .ref (a 6), .ref (a 7), .ref (a 8), .ref (a 9), .ref (a 10), .ref (a 11), .ref (a 12), .ref (a 13), .ref (a 14), .ref (a 15), .ref (a 16), .ref (a 17), .ref (a 18), .ref (a 19), .ref (a 20), .ref (a 21), .ref (a 22), .ref (a 23), .ref (a 24), .ref (a 25), .ref (a 26), .ref (a 27), .ref (a 28), .ref (a 29), .ref (a 30), .int 0, .ref (a 31), .ref (a 32)])), ((a 10), .inl ((d 10), 60, .inl (fun _ => 0))), ((a 11), .inl ((d 11), 60, .inl (fun _ => 0))), ((a 12), .inl ((d 12), 60, .inl (fun _ => 0))), ((a 13), .inl ((d 13), 60, .inl (fun _ => 0))), ((a 14), .inl ((d 14), 60, .inl (fun _ => 0))), ((a 15), .inl ((d 15), 60, .inl (fun _ => 0))), ((a 18), .inl ((d 18), 5040, .inl (fun _ => 0))), ((a 20), .inl ((d 20), 5040, .inl (fun _ => 0))), ((a 21), .inl ((d 21), 5040, .inl (fun _ => 0)))]) rfl rfl (by decide) (by decide) (va_runS (As := [.long x2.toInt64, .long 1, .long 100000]) (rest := []) F (c12_in l G k _ x2.toInt64 1 100000 x2.toInt 1 100000 (Int32.toInt_toInt64 x2) (by decide) (by decide)) (cwSt F mf_X12_in km_X12_58 rfl rfl ⟨Nat.le_of_ble_eq_true rfl, Nat.le_of_ble_eq_true rfl⟩) (cs_pre St [] rfl (by decide) [] rfl) rfl rfl hl.1 rfl (lv_room (Nat.le_of_ble_eq_true rfl)) dX12_pledge_13 ⟨Nat.le_of_ble_eq_true rfl, Nat.le_of_ble_eq_true rfl⟩) (fun r_7 u_8 H locs hw St => ?_)
    try dsimp only at hw
    rcases hw with ⟨z_9, hf_10⟩ | ⟨z_11, hf_12⟩
    ·
      subst r_7
      have St : cS G k [(h, .inr (12, [.ref (a 0), .ref (a 1), .ref (a 2), .ref (a 3), .int 0, .int 0, .int 0, .int 0, .int 0, .int 0, .int 0, .int (-1), .ref (a 4), .int 0, .int 0, .int 0, .int 0, .int 0, .int 0, .int 0, .int 0, .int 0, .int 0, .int 0, .ref (a 5), .ref (a 6), .ref (a 7), .ref (a 8), .ref (a 9), .ref (a 10), .ref (a 11), .ref (a 12), .ref (a 13), .ref (a 14), .ref (a 15), .ref (a 16), .ref (a 17), .ref (a 18), .ref (a 19), .ref (a 20), .ref (a 21), .ref (a 22), .ref (a 23), .ref (a 24), .ref (a 25), .ref (a 26), .ref (a 27), .ref (a 28), .ref (a 29), .ref (a 30), .int 0, .ref (a 31), .ref (a 32)])), ((a 10), .inl ((d 10), 60, .inl (fun _ => 0))), ((a 11), .inl ((d 11), 60, .inl (fun _ => 0))), ((a 12), .inl ((d 12), 60, .inl (fun _ => 0))), ((a 13), .inl ((d 13), 60, .inl (fun _ => 0))), ((a 14), .inl ((d 14), 60, .inl (fun _ => 0))), ((a 15), .inl ((d 15), 60, .inl (fun _ => 0))), ((a 18), .inl ((d 18), 5040, .inl (fun _ => 0))), ((a 20), .inl ((d 20), 5040, .inl (fun _ => 0))), ((a 21), .inl ((d 21), 5040, .inl (fun _ => 0)))] [((d 10), .int), ((d 11), .int), ((d 12), .int), ((d 13), .int), ((d 14), .int), ((d 15), .int), ((d 18), .int), ((d 20), .boolean), ((d 21), .boolean)] A s H locs := St
      refine lv_if_eq (tgt := 61) hx hb dX12_pledge_16 (by decide) (fun c16 => ?_) (fun c16 => ?_)
      · exact absurd c16 (by decide)
      refine lv_iload_n hx hb dX12_pledge_19 rfl (lv_at hl 3 rfl) ?_
      refine lv_i2l (v := x3.toInt64) hx hb dX12_pledge_20 rfl ?_
      refine lv_aload_n hx hb dX12_pledge_21 rfl (lv_at hl 0 rfl) ?_
      refine cs_get F St 0 rfl rfl inX12 13 (by decide) kf_X12_230 rfl dX12_pledge_22 ?_
      refine lv_i2l (v := 0) hx hb dX12_pledge_25 (by decide) ?_
      refine lv_ldc2 (v := 119) hx hb F.2.2.2.1 (F.2.2.2.2 _ kk_X12_216) dX12_pledge_26 ?_
      refine cs_i St [] [0, 1, 2, 3, 4, 5, 6, 7, 8, 9] (wc := []) (wr := [(h, .inr (12, [.ref (a 0), .ref (a 1), .ref (a 2), .ref (a 3), .int 0, .int 0, .int 0, .int 0, .int 0, .int 0, .int 0, .int (-1), .ref (a 4), .int 0, .int 0, .int 0, .int 0, .int 0, .int 0, .int 0, .int 0, .int 0, .int 0, .int 0, .ref (a 5), .ref (a 6), .ref (a 7), .ref (a 8), .ref (a 9), .ref (a 10), .ref (a 11), .ref (a 12), .ref (a 13), .ref (a 14), .ref (a 15), .ref (a 16), .ref (a 17), .ref (a 18), .ref (a 19), .ref (a 20), .ref (a 21), .ref (a 22), .ref (a 23), .ref (a 24), .ref (a 25), .ref (a 26), .ref (a 27), .ref (a 28), .ref (a 29), .ref (a 30), .int 0, .ref (a 31), .ref (a 32)])), ((a 10), .inl ((d 10), 60, .inl (fun _ => 0))), ((a 11), .inl ((d 11), 60, .inl (fun _ => 0))), ((a 12), .inl ((d 12), 60, .inl (fun _ => 0))), ((a 13), .inl ((d 13), 60, .inl (fun _ => 0))), ((a 14), .inl ((d 14), 60, .inl (fun _ => 0))), ((a 15), .inl ((d 15), 60, .inl (fun _ => 0))), ((a 18), .inl ((d 18), 5040, .inl (fun _ => 0))), ((a 20), .inl ((d 20), 5040, .inl (fun _ => 0))), ((a 21), .inl ((d 21), 5040, .inl (fun _ => 0)))]) rfl rfl (by decide) (by decide) (va_runS (As := [.long x3.toInt64, .long 0, .long 119]) (rest := []) F (c12_in l G k _ x3.toInt64 0 119 x3.toInt 0 119 (Int32.toInt_toInt64 x3) (by decide) (by decide)) (cwSt F mf_X12_in km_X12_58 rfl rfl ⟨Nat.le_of_ble_eq_true rfl, Nat.le_of_ble_eq_true rfl⟩) (cs_pre St [] rfl (by decide) [] rfl) rfl rfl hl.1 rfl (lv_room (Nat.le_of_ble_eq_true rfl)) dX12_pledge_29 ⟨Nat.le_of_ble_eq_true rfl, Nat.le_of_ble_eq_true rfl⟩) (fun r_13 u_14 H locs hw St => ?_)
      try dsimp only at hw
      rcases hw with ⟨z_15, hf_16⟩ | ⟨z_17, hf_18⟩
      ·
        subst r_13
        have St : cS G k [(h, .inr (12, [.ref (a 0), .ref (a 1), .ref (a 2), .ref (a 3), .int 0, .int 0, .int 0, .int 0, .int 0, .int 0, .int 0, .int (-1), .ref (a 4), .int 0, .int 0, .int 0, .int 0, .int 0, .int 0, .int 0, .int 0, .int 0, .int 0, .int 0, .ref (a 5), .ref (a 6), .ref (a 7), .ref (a 8), .ref (a 9), .ref (a 10), .ref (a 11), .ref (a 12), .ref (a 13), .ref (a 14), .ref (a 15), .ref (a 16), .ref (a 17), .ref (a 18), .ref (a 19), .ref (a 20), .ref (a 21), .ref (a 22), .ref (a 23), .ref (a 24), .ref (a 25), .ref (a 26), .ref (a 27), .ref (a 28), .ref (a 29), .ref (a 30), .int 0, .ref (a 31), .ref (a 32)])), ((a 10), .inl ((d 10), 60, .inl (fun _ => 0))), ((a 11), .inl ((d 11), 60, .inl (fun _ => 0))), ((a 12), .inl ((d 12), 60, .inl (fun _ => 0))), ((a 13), .inl ((d 13), 60, .inl (fun _ => 0))), ((a 14), .inl ((d 14), 60, .inl (fun _ => 0))), ((a 15), .inl ((d 15), 60, .inl (fun _ => 0))), ((a 18), .inl ((d 18), 5040, .inl (fun _ => 0))), ((a 20), .inl ((d 20), 5040, .inl (fun _ => 0))), ((a 21), .inl ((d 21), 5040, .inl (fun _ => 0)))] [((d 10), .int), ((d 11), .int), ((d 12), .int), ((d 13), .int), ((d 14), .int), ((d 15), .int), ((d 18), .int), ((d 20), .boolean), ((d 21), .boolean)] A s H locs := St
        refine lv_if_eq (tgt := 61) hx hb dX12_pledge_32 (by decide) (fun c32 => ?_) (fun c32 => ?_)
        · exact absurd c32 (by decide)
        refine lv_iload hx hb dX12_pledge_35 (lv_at hl 4 rfl) ?_
        refine lv_i2l (v := x4.toInt64) hx hb dX12_pledge_37 rfl ?_
        refine lv_lconst (v := 1) hx hb dX12_pledge_38 (by decide) ?_
        refine lv_ldc2 (v := 12) hx hb F.2.2.2.1 (F.2.2.2.2 _ kk_X12_233) dX12_pledge_39 ?_
        refine cs_i St [] [0, 1, 2, 3, 4, 5, 6, 7, 8, 9] (wc := []) (wr := [(h, .inr (12, [.ref (a 0), .ref (a 1), .ref (a 2), .ref (a 3), .int 0, .int 0, .int 0, .int 0, .int 0, .int 0, .int 0, .int (-1), .ref (a 4), .int 0, .int 0, .int 0, .int 0, .int 0, .int 0, .int 0, .int 0, .int 0, .int 0, .int 0, .ref (a 5), .ref (a 6), .ref (a 7), .ref (a 8), .ref (a 9), .ref (a 10), .ref (a 11), .ref (a 12), .ref (a 13), .ref (a 14), .ref (a 15), .ref (a 16), .ref (a 17), .ref (a 18), .ref (a 19), .ref (a 20), .ref (a 21), .ref (a 22), .ref (a 23), .ref (a 24), .ref (a 25), .ref (a 26), .ref (a 27), .ref (a 28), .ref (a 29), .ref (a 30), .int 0, .ref (a 31), .ref (a 32)])), ((a 10), .inl ((d 10), 60, .inl (fun _ => 0))), ((a 11), .inl ((d 11), 60, .inl (fun _ => 0))), ((a 12), .inl ((d 12), 60, .inl (fun _ => 0))), ((a 13), .inl ((d 13), 60, .inl (fun _ => 0))), ((a 14), .inl ((d 14), 60, .inl (fun _ => 0))), ((a 15), .inl ((d 15), 60, .inl (fun _ => 0))), ((a 18), .inl ((d 18), 5040, .inl (fun _ => 0))), ((a 20), .inl ((d 20), 5040, .inl (fun _ => 0))), ((a 21), .inl ((d 21), 5040, .inl (fun _ => 0)))]) rfl rfl (by decide) (by decide) (va_runS (As := [.long x4.toInt64, .long 1, .long 12]) (rest := []) F (c12_in l G k _ x4.toInt64 1 12 x4.toInt 1 12 (Int32.toInt_toInt64 x4) (by decide) (by decide)) (cwSt F mf_X12_in km_X12_58 rfl rfl ⟨Nat.le_of_ble_eq_true rfl, Nat.le_of_ble_eq_true rfl⟩) (cs_pre St [] rfl (by decide) [] rfl) rfl rfl hl.1 rfl (lv_room (Nat.le_of_ble_eq_true rfl)) dX12_pledge_42 ⟨Nat.le_of_ble_eq_true rfl, Nat.le_of_ble_eq_true rfl⟩) (fun r_19 u_20 H locs hw St => ?_)
        try dsimp only at hw
        rcases hw with ⟨z_21, hf_22⟩ | ⟨z_23, hf_24⟩
        ·
          subst r_19
          have St : cS G k [(h, .inr (12, [.ref (a 0), .ref (a 1), .ref (a 2), .ref (a 3), .int 0, .int 0, .int 0, .int 0, .int 0, .int 0, .int 0, .int (-1), .ref (a 4), .int 0, .int 0, .int 0, .int 0, .int 0, .int 0, .int 0, .int 0, .int 0, .int 0, .int 0, .ref (a 5), .ref (a 6), .ref (a 7), .ref (a 8), .ref (a 9), .ref (a 10), .ref (a 11), .ref (a 12), .ref (a 13), .ref (a 14), .ref (a 15), .ref (a 16), .ref (a 17), .ref (a 18), .ref (a 19), .ref (a 20), .ref (a 21), .ref (a 22), .ref (a 23), .ref (a 24), .ref (a 25), .ref (a 26), .ref (a 27), .ref (a 28), .ref (a 29), .ref (a 30), .int 0, .ref (a 31), .ref (a 32)])), ((a 10), .inl ((d 10), 60, .inl (fun _ => 0))), ((a 11), .inl ((d 11), 60, .inl (fun _ => 0))), ((a 12), .inl ((d 12), 60, .inl (fun _ => 0))), ((a 13), .inl ((d 13), 60, .inl (fun _ => 0))), ((a 14), .inl ((d 14), 60, .inl (fun _ => 0))), ((a 15), .inl ((d 15), 60, .inl (fun _ => 0))), ((a 18), .inl ((d 18), 5040, .inl (fun _ => 0))), ((a 20), .inl ((d 20), 5040, .inl (fun _ => 0))), ((a 21), .inl ((d 21), 5040, .inl (fun _ => 0)))] [((d 10), .int), ((d 11), .int), ((d 12), .int), ((d 13), .int), ((d 14), .int), ((d 15), .int), ((d 18), .int), ((d 20), .boolean), ((d 21), .boolean)] A s H locs := St
          refine lv_if_eq (tgt := 61) hx hb dX12_pledge_45 (by decide) (fun c45 => ?_) (fun c45 => ?_)
          · exact absurd c45 (by decide)
          refine lv_iload hx hb dX12_pledge_48 (lv_at hl 5 rfl) ?_
          refine lv_i2l (v := x5.toInt64) hx hb dX12_pledge_50 rfl ?_
          refine lv_lconst (v := 1) hx hb dX12_pledge_51 (by decide) ?_
          refine lv_ldc2 (v := 84) hx hb F.2.2.2.1 (F.2.2.2.2 _ kk_X12_235) dX12_pledge_52 ?_
          refine cs_i St [] [0, 1, 2, 3, 4, 5, 6, 7, 8, 9] (wc := []) (wr := [(h, .inr (12, [.ref (a 0), .ref (a 1), .ref (a 2), .ref (a 3), .int 0, .int 0, .int 0, .int 0, .int 0, .int 0, .int 0, .int (-1), .ref (a 4), .int 0, .int 0, .int 0, .int 0, .int 0, .int 0, .int 0, .int 0, .int 0, .int 0, .int 0, .ref (a 5), .ref (a 6), .ref (a 7), .ref (a 8), .ref (a 9), .ref (a 10), .ref (a 11), .ref (a 12), .ref (a 13), .ref (a 14), .ref (a 15), .ref (a 16), .ref (a 17), .ref (a 18), .ref (a 19), .ref (a 20), .ref (a 21), .ref (a 22), .ref (a 23), .ref (a 24), .ref (a 25), .ref (a 26), .ref (a 27), .ref (a 28), .ref (a 29), .ref (a 30), .int 0, .ref (a 31), .ref (a 32)])), ((a 10), .inl ((d 10), 60, .inl (fun _ => 0))), ((a 11), .inl ((d 11), 60, .inl (fun _ => 0))), ((a 12), .inl ((d 12), 60, .inl (fun _ => 0))), ((a 13), .inl ((d 13), 60, .inl (fun _ => 0))), ((a 14), .inl ((d 14), 60, .inl (fun _ => 0))), ((a 15), .inl ((d 15), 60, .inl (fun _ => 0))), ((a 18), .inl ((d 18), 5040, .inl (fun _ => 0))), ((a 20), .inl ((d 20), 5040, .inl (fun _ => 0))), ((a 21), .inl ((d 21), 5040, .inl (fun _ => 0)))]) rfl rfl (by decide) (by decide) (va_runS (As := [.long x5.toInt64, .long 1, .long 84]) (rest := []) F (c12_in l G k _ x5.toInt64 1 84 x5.toInt 1 84 (Int32.toInt_toInt64 x5) (by decide) (by decide)) (cwSt F mf_X12_in km_X12_58 rfl rfl ⟨Nat.le_of_ble_eq_true rfl, Nat.le_of_ble_eq_true rfl⟩) (cs_pre St [] rfl (by decide) [] rfl) rfl rfl hl.1 rfl (lv_room (Nat.le_of_ble_eq_true rfl)) dX12_pledge_55 ⟨Nat.le_of_ble_eq_true rfl, Nat.le_of_ble_eq_true rfl⟩) (fun r_25 u_26 H locs hw St => ?_)
          try dsimp only at hw
          rcases hw with ⟨z_27, hf_28⟩ | ⟨z_29, hf_30⟩
          ·
            subst r_25
            have St : cS G k [(h, .inr (12, [.ref (a 0), .ref (a 1), .ref (a 2), .ref (a 3), .int 0, .int 0, .int 0, .int 0, .int 0, .int 0, .int 0, .int (-1), .ref (a 4), .int 0, .int 0, .int 0, .int 0, .int 0, .int 0, .int 0, .int 0, .int 0, .int 0, .int 0, .ref (a 5), .ref (a 6), .ref (a 7), .ref (a 8), .ref (a 9), .ref (a 10), .ref (a 11), .ref (a 12), .ref (a 13), .ref (a 14), .ref (a 15), .ref (a 16), .ref (a 17), .ref (a 18), .ref (a 19), .ref (a 20), .ref (a 21), .ref (a 22), .ref (a 23), .ref (a 24), .ref (a 25), .ref (a 26), .ref (a 27), .ref (a 28), .ref (a 29), .ref (a 30), .int 0, .ref (a 31), .ref (a 32)])), ((a 10), .inl ((d 10), 60, .inl (fun _ => 0))), ((a 11), .inl ((d 11), 60, .inl (fun _ => 0))), ((a 12), .inl ((d 12), 60, .inl (fun _ => 0))), ((a 13), .inl ((d 13), 60, .inl (fun _ => 0))), ((a 14), .inl ((d 14), 60, .inl (fun _ => 0))), ((a 15), .inl ((d 15), 60, .inl (fun _ => 0))), ((a 18), .inl ((d 18), 5040, .inl (fun _ => 0))), ((a 20), .inl ((d 20), 5040, .inl (fun _ => 0))), ((a 21), .inl ((d 21), 5040, .inl (fun _ => 0)))] [((d 10), .int), ((d 11), .int), ((d 12), .int), ((d 13), .int), ((d 14), .int), ((d 15), .int), ((d 18), .int), ((d 20), .boolean), ((d 21), .boolean)] A s H locs := St
            refine lv_if_ne (tgt := 64) hx hb dX12_pledge_58 (by decide) (fun c58 => ?_) (fun c58 => ?_)
            rotate_left
            · exact absurd c58 (by decide)
            refine lv_aload_n hx hb dX12_pledge_64 rfl (lv_at hl 0 rfl) ?_
            refine cs_get F St 0 rfl rfl inX12 23 (by decide) kf_X12_224 rfl dX12_pledge_65 ?_
            refine lv_if_eq (tgt := 74) hx hb dX12_pledge_68 (by decide) (fun c68 => ?_) (fun c68 => ?_)
            rotate_left
            · exact absurd (by decide) c68
            refine lv_aload_n hx hb dX12_pledge_74 rfl (lv_at hl 0 rfl) ?_
            refine cs_get F St 0 rfl rfl inX12 20 (by decide) kf_X12_237 rfl dX12_pledge_75 ?_
            refine lv_bipush (v := 60) hx hb dX12_pledge_78 (by decide) ?_
            refine lv_icmp_ne (tgt := 86) hx hb dX12_pledge_80 (by decide) (fun c80 => ?_) (fun c80 => ?_)
            rotate_left
            · exact absurd c80 (by decide)
            refine lv_aload_n hx hb dX12_pledge_86 rfl (lv_at hl 0 rfl) ?_
            refine cs_get F St 0 rfl rfl inX12 20 (by decide) kf_X12_237 rfl dX12_pledge_87 ?_
            refine lv_istore (lv' := [(6, .int 0), (0, .ref h), (1, .int x1), (2, .int x2), (3, .int x3), (4, .int x4), (5, .int x5)]) hx hb dX12_pledge_90 hl (by decide) rfl (fun ls hl => ?_)
            refine lv_aload_n hx hb dX12_pledge_92 rfl (lv_at hl 1 rfl) ?_
            refine cs_get F St 0 rfl rfl inX12 29 (by decide) kf_X12_135 rfl dX12_pledge_93 ?_
            refine lv_iload hx hb dX12_pledge_96 (lv_at hl 0 rfl) ?_
            refine lv_iload_n hx hb dX12_pledge_98 rfl (lv_at hl 2 rfl) ?_
            refine cs_ist F St 1 0 rfl rfl (vp_in_iff.mpr (by decide)) (w' := [(h, .inr (12, [.ref (a 0), .ref (a 1), .ref (a 2), .ref (a 3), .int 0, .int 0, .int 0, .int 0, .int 0, .int 0, .int 0, .int (-1), .ref (a 4), .int 0, .int 0, .int 0, .int 0, .int 0, .int 0, .int 0, .int 0, .int 0, .int 0, .int 0, .ref (a 5), .ref (a 6), .ref (a 7), .ref (a 8), .ref (a 9), .ref (a 10), .ref (a 11), .ref (a 12), .ref (a 13), .ref (a 14), .ref (a 15), .ref (a 16), .ref (a 17), .ref (a 18), .ref (a 19), .ref (a 20), .ref (a 21), .ref (a 22), .ref (a 23), .ref (a 24), .ref (a 25), .ref (a 26), .ref (a 27), .ref (a 28), .ref (a 29), .ref (a 30), .int 0, .ref (a 31), .ref (a 32)])), ((a 10), .inl ((d 10), 60, .inl (upd (fun _ => 0) (0 : Int32).toNatClampNeg x1))), ((a 11), .inl ((d 11), 60, .inl (fun _ => 0))), ((a 12), .inl ((d 12), 60, .inl (fun _ => 0))), ((a 13), .inl ((d 13), 60, .inl (fun _ => 0))), ((a 14), .inl ((d 14), 60, .inl (fun _ => 0))), ((a 15), .inl ((d 15), 60, .inl (fun _ => 0))), ((a 18), .inl ((d 18), 5040, .inl (fun _ => 0))), ((a 20), .inl ((d 20), 5040, .inl (fun _ => 0))), ((a 21), .inl ((d 21), 5040, .inl (fun _ => 0)))]) rfl dX12_pledge_99 (fun H locs St => ?_)
            obtain ⟨f_31, ef_31⟩ : ∃ zz : Nat → Int32, zz = upd (fun _ => 0) (0 : Int32).toNatClampNeg x1 := ⟨_, rfl⟩
            rw [← ef_31] at St
            refine lv_aload_n hx hb dX12_pledge_100 rfl (lv_at hl 1 rfl) ?_
            refine cs_get F St 0 rfl rfl inX12 30 (by decide) kf_X12_138 rfl dX12_pledge_101 ?_
            refine lv_iload hx hb dX12_pledge_104 (lv_at hl 0 rfl) ?_
            refine lv_iload_n hx hb dX12_pledge_106 rfl (lv_at hl 3 rfl) ?_
            refine cs_ist F St 2 1 rfl rfl (vp_in_iff.mpr (by decide)) (w' := [(h, .inr (12, [.ref (a 0), .ref (a 1), .ref (a 2), .ref (a 3), .int 0, .int 0, .int 0, .int 0, .int 0, .int 0, .int 0, .int (-1), .ref (a 4), .int 0, .int 0, .int 0, .int 0, .int 0, .int 0, .int 0, .int 0, .int 0, .int 0, .int 0, .ref (a 5), .ref (a 6), .ref (a 7), .ref (a 8), .ref (a 9), .ref (a 10), .ref (a 11), .ref (a 12), .ref (a 13), .ref (a 14), .ref (a 15), .ref (a 16), .ref (a 17), .ref (a 18), .ref (a 19), .ref (a 20), .ref (a 21), .ref (a 22), .ref (a 23), .ref (a 24), .ref (a 25), .ref (a 26), .ref (a 27), .ref (a 28), .ref (a 29), .ref (a 30), .int 0, .ref (a 31), .ref (a 32)])), ((a 10), .inl ((d 10), 60, .inl f_31)), ((a 11), .inl ((d 11), 60, .inl (upd (fun _ => 0) (0 : Int32).toNatClampNeg x2))), ((a 12), .inl ((d 12), 60, .inl (fun _ => 0))), ((a 13), .inl ((d 13), 60, .inl (fun _ => 0))), ((a 14), .inl ((d 14), 60, .inl (fun _ => 0))), ((a 15), .inl ((d 15), 60, .inl (fun _ => 0))), ((a 18), .inl ((d 18), 5040, .inl (fun _ => 0))), ((a 20), .inl ((d 20), 5040, .inl (fun _ => 0))), ((a 21), .inl ((d 21), 5040, .inl (fun _ => 0)))]) rfl dX12_pledge_107 (fun H locs St => ?_)
            obtain ⟨f_32, ef_32⟩ : ∃ zz : Nat → Int32, zz = upd (fun _ => 0) (0 : Int32).toNatClampNeg x2 := ⟨_, rfl⟩
            rw [← ef_32] at St
            refine lv_aload_n hx hb dX12_pledge_108 rfl (lv_at hl 1 rfl) ?_
            refine cs_get F St 0 rfl rfl inX12 31 (by decide) kf_X12_141 rfl dX12_pledge_109 ?_
            refine lv_iload hx hb dX12_pledge_112 (lv_at hl 0 rfl) ?_
            refine lv_iload_n hx hb dX12_pledge_114 rfl (lv_at hl 4 rfl) ?_
            refine cs_ist F St 3 2 rfl rfl (vp_in_iff.mpr (by decide)) (w' := [(h, .inr (12, [.ref (a 0), .ref (a 1), .ref (a 2), .ref (a 3), .int 0, .int 0, .int 0, .int 0, .int 0, .int 0, .int 0, .int (-1), .ref (a 4), .int 0, .int 0, .int 0, .int 0, .int 0, .int 0, .int 0, .int 0, .int 0, .int 0, .int 0, .ref (a 5), .ref (a 6), .ref (a 7), .ref (a 8), .ref (a 9), .ref (a 10), .ref (a 11), .ref (a 12), .ref (a 13), .ref (a 14), .ref (a 15), .ref (a 16), .ref (a 17), .ref (a 18), .ref (a 19), .ref (a 20), .ref (a 21), .ref (a 22), .ref (a 23), .ref (a 24), .ref (a 25), .ref (a 26), .ref (a 27), .ref (a 28), .ref (a 29), .ref (a 30), .int 0, .ref (a 31), .ref (a 32)])), ((a 10), .inl ((d 10), 60, .inl f_31)), ((a 11), .inl ((d 11), 60, .inl f_32)), ((a 12), .inl ((d 12), 60, .inl (upd (fun _ => 0) (0 : Int32).toNatClampNeg x3))), ((a 13), .inl ((d 13), 60, .inl (fun _ => 0))), ((a 14), .inl ((d 14), 60, .inl (fun _ => 0))), ((a 15), .inl ((d 15), 60, .inl (fun _ => 0))), ((a 18), .inl ((d 18), 5040, .inl (fun _ => 0))), ((a 20), .inl ((d 20), 5040, .inl (fun _ => 0))), ((a 21), .inl ((d 21), 5040, .inl (fun _ => 0)))]) rfl dX12_pledge_115 (fun H locs St => ?_)
            obtain ⟨f_33, ef_33⟩ : ∃ zz : Nat → Int32, zz = upd (fun _ => 0) (0 : Int32).toNatClampNeg x3 := ⟨_, rfl⟩
            rw [← ef_33] at St
            refine lv_aload_n hx hb dX12_pledge_116 rfl (lv_at hl 1 rfl) ?_
            refine cs_get F St 0 rfl rfl inX12 32 (by decide) kf_X12_144 rfl dX12_pledge_117 ?_
            refine lv_iload hx hb dX12_pledge_120 (lv_at hl 0 rfl) ?_
            refine lv_iload hx hb dX12_pledge_122 (lv_at hl 5 rfl) ?_
            refine cs_ist F St 4 3 rfl rfl (vp_in_iff.mpr (by decide)) (w' := [(h, .inr (12, [.ref (a 0), .ref (a 1), .ref (a 2), .ref (a 3), .int 0, .int 0, .int 0, .int 0, .int 0, .int 0, .int 0, .int (-1), .ref (a 4), .int 0, .int 0, .int 0, .int 0, .int 0, .int 0, .int 0, .int 0, .int 0, .int 0, .int 0, .ref (a 5), .ref (a 6), .ref (a 7), .ref (a 8), .ref (a 9), .ref (a 10), .ref (a 11), .ref (a 12), .ref (a 13), .ref (a 14), .ref (a 15), .ref (a 16), .ref (a 17), .ref (a 18), .ref (a 19), .ref (a 20), .ref (a 21), .ref (a 22), .ref (a 23), .ref (a 24), .ref (a 25), .ref (a 26), .ref (a 27), .ref (a 28), .ref (a 29), .ref (a 30), .int 0, .ref (a 31), .ref (a 32)])), ((a 10), .inl ((d 10), 60, .inl f_31)), ((a 11), .inl ((d 11), 60, .inl f_32)), ((a 12), .inl ((d 12), 60, .inl f_33)), ((a 13), .inl ((d 13), 60, .inl (upd (fun _ => 0) (0 : Int32).toNatClampNeg x4))), ((a 14), .inl ((d 14), 60, .inl (fun _ => 0))), ((a 15), .inl ((d 15), 60, .inl (fun _ => 0))), ((a 18), .inl ((d 18), 5040, .inl (fun _ => 0))), ((a 20), .inl ((d 20), 5040, .inl (fun _ => 0))), ((a 21), .inl ((d 21), 5040, .inl (fun _ => 0)))]) rfl dX12_pledge_124 (fun H locs St => ?_)
            obtain ⟨f_34, ef_34⟩ : ∃ zz : Nat → Int32, zz = upd (fun _ => 0) (0 : Int32).toNatClampNeg x4 := ⟨_, rfl⟩
            rw [← ef_34] at St
            refine lv_aload_n hx hb dX12_pledge_125 rfl (lv_at hl 1 rfl) ?_
            refine cs_get F St 0 rfl rfl inX12 33 (by decide) kf_X12_147 rfl dX12_pledge_126 ?_
            refine lv_iload hx hb dX12_pledge_129 (lv_at hl 0 rfl) ?_
            refine lv_iload hx hb dX12_pledge_131 (lv_at hl 6 rfl) ?_
            refine cs_ist F St 5 4 rfl rfl (vp_in_iff.mpr (by decide)) (w' := [(h, .inr (12, [.ref (a 0), .ref (a 1), .ref (a 2), .ref (a 3), .int 0, .int 0, .int 0, .int 0, .int 0, .int 0, .int 0, .int (-1), .ref (a 4), .int 0, .int 0, .int 0, .int 0, .int 0, .int 0, .int 0, .int 0, .int 0, .int 0, .int 0, .ref (a 5), .ref (a 6), .ref (a 7), .ref (a 8), .ref (a 9), .ref (a 10), .ref (a 11), .ref (a 12), .ref (a 13), .ref (a 14), .ref (a 15), .ref (a 16), .ref (a 17), .ref (a 18), .ref (a 19), .ref (a 20), .ref (a 21), .ref (a 22), .ref (a 23), .ref (a 24), .ref (a 25), .ref (a 26), .ref (a 27), .ref (a 28), .ref (a 29), .ref (a 30), .int 0, .ref (a 31), .ref (a 32)])), ((a 10), .inl ((d 10), 60, .inl f_31)), ((a 11), .inl ((d 11), 60, .inl f_32)), ((a 12), .inl ((d 12), 60, .inl f_33)), ((a 13), .inl ((d 13), 60, .inl f_34)), ((a 14), .inl ((d 14), 60, .inl (upd (fun _ => 0) (0 : Int32).toNatClampNeg x5))), ((a 15), .inl ((d 15), 60, .inl (fun _ => 0))), ((a 18), .inl ((d 18), 5040, .inl (fun _ => 0))), ((a 20), .inl ((d 20), 5040, .inl (fun _ => 0))), ((a 21), .inl ((d 21), 5040, .inl (fun _ => 0)))]) rfl dX12_pledge_133 (fun H locs St => ?_)
            obtain ⟨f_35, ef_35⟩ : ∃ zz : Nat → Int32, zz = upd (fun _ => 0) (0 : Int32).toNatClampNeg x5 := ⟨_, rfl⟩
            rw [← ef_35] at St
            refine lv_aload_n hx hb dX12_pledge_134 rfl (lv_at hl 1 rfl) ?_
            refine cs_get F St 0 rfl rfl inX12 34 (by decide) kf_X12_150 rfl dX12_pledge_135 ?_
            refine lv_iload hx hb dX12_pledge_138 (lv_at hl 0 rfl) ?_
            refine lv_iconst (v := (-1)) hx hb dX12_pledge_140 (by decide) ?_
            refine cs_ist F St 6 5 rfl rfl (vp_in_iff.mpr (by decide)) (w' := [(h, .inr (12, [.ref (a 0), .ref (a 1), .ref (a 2), .ref (a 3), .int 0, .int 0, .int 0, .int 0, .int 0, .int 0, .int 0, .int (-1), .ref (a 4), .int 0, .int 0, .int 0, .int 0, .int 0, .int 0, .int 0, .int 0, .int 0, .int 0, .int 0, .ref (a 5), .ref (a 6), .ref (a 7), .ref (a 8), .ref (a 9), .ref (a 10), .ref (a 11), .ref (a 12), .ref (a 13), .ref (a 14), .ref (a 15), .ref (a 16), .ref (a 17), .ref (a 18), .ref (a 19), .ref (a 20), .ref (a 21), .ref (a 22), .ref (a 23), .ref (a 24), .ref (a 25), .ref (a 26), .ref (a 27), .ref (a 28), .ref (a 29), .ref (a 30), .int 0, .ref (a 31), .ref (a 32)])), ((a 10), .inl ((d 10), 60, .inl f_31)), ((a 11), .inl ((d 11), 60, .inl f_32)), ((a 12), .inl ((d 12), 60, .inl f_33)), ((a 13), .inl ((d 13), 60, .inl f_34)), ((a 14), .inl ((d 14), 60, .inl f_35)), ((a 15), .inl ((d 15), 60, .inl (upd (fun _ => 0) (0 : Int32).toNatClampNeg (-1)))), ((a 18), .inl ((d 18), 5040, .inl (fun _ => 0))), ((a 20), .inl ((d 20), 5040, .inl (fun _ => 0))), ((a 21), .inl ((d 21), 5040, .inl (fun _ => 0)))]) rfl dX12_pledge_141 (fun H locs St => ?_)
            obtain ⟨f_36, ef_36⟩ : ∃ zz : Nat → Int32, zz = upd (fun _ => 0) (0 : Int32).toNatClampNeg (-1) := ⟨_, rfl⟩
            rw [← ef_36] at St
            refine lv_iconst (v := 0) hx hb dX12_pledge_142 (by decide) ?_
            refine lv_istore (lv' := [(7, .int 0), (6, .int 0), (0, .ref h), (1, .int x1), (2, .int x2), (3, .int x3), (4, .int x4), (5, .int x5)]) hx hb dX12_pledge_143 hl (by decide) rfl (fun ls hl => ?_)
            have lp145 : ∀ (n : Nat) (i : Int32) (gd : Nat → Int32) (gt : Nat → Int32) (gc : Nat → Int32) (H : Heap) (locs : List Loc) (ls : Array Slot), (0 ≤ i.toInt ∧ i.toInt ≤ x5.toInt) → ((84 - i.toInt).toNat) < n → cS G k [(h, .inr (12, [.ref (a 0), .ref (a 1), .ref (a 2), .ref (a 3), .int 0, .int 0, .int 0, .int 0, .int 0, .int 0, .int 0, .int (-1), .ref (a 4), .int 0, .int 0, .int 0, .int 0, .int 0, .int 0, .int 0, .int 0, .int 0, .int 0, .int 0, .ref (a 5), .ref (a 6), .ref (a 7), .ref (a 8), .ref (a 9), .ref (a 10), .ref (a 11), .ref (a 12), .ref (a 13), .ref (a 14), .ref (a 15), .ref (a 16), .ref (a 17), .ref (a 18), .ref (a 19), .ref (a 20), .ref (a 21), .ref (a 22), .ref (a 23), .ref (a 24), .ref (a 25), .ref (a 26), .ref (a 27), .ref (a 28), .ref (a 29), .ref (a 30), .int 0, .ref (a 31), .ref (a 32)])), ((a 10), .inl ((d 10), 60, .inl f_31)), ((a 11), .inl ((d 11), 60, .inl f_32)), ((a 12), .inl ((d 12), 60, .inl f_33)), ((a 13), .inl ((d 13), 60, .inl f_34)), ((a 14), .inl ((d 14), 60, .inl f_35)), ((a 15), .inl ((d 15), 60, .inl f_36)), ((a 18), .inl ((d 18), 5040, .inl gd)), ((a 20), .inl ((d 20), 5040, .inl gt)), ((a 21), .inl ((d 21), 5040, .inl gc))] [((d 10), .int), ((d 11), .int), ((d 12), .int), ((d 13), .int), ((d 14), .int), ((d 15), .int), ((d 18), .int), ((d 20), .boolean), ((d 21), .boolean)] A s H locs → lv_has ls 8 [(7, .int i), (6, .int 0), (0, .ref h), (1, .int x1), (2, .int x2), (3, .int x3), (4, .int x4), (5, .int x5)] → W p l e ({ frames := 2, cells := 0, slots := 0, locals := 45 } : Room) s m args below meth c H locs 0 0 Q (F0 m 145 ls []) := by
              intro n
              induction n with
              | zero => intro i gd gt gc H locs ls hI hn; exact absurd hn (Nat.not_lt_zero _)
              | succ n ih =>
                intro i gd gt gc H locs ls hI hn St hl
                obtain ⟨hI0, hI1⟩ := hI
                refine lv_iload hx hb dX12_pledge_145 (lv_at hl 0 rfl) ?_
                refine lv_iload hx hb dX12_pledge_147 (lv_at hl 7 rfl) ?_
                refine lv_icmp_ge (tgt := 229) hx hb dX12_pledge_149 (by decide) (fun c149 => ?_) (fun c149 => ?_)
                ·
                  have i149 := ci_le (x := x5) (y := i) rfl rfl c149
                  refine lv_aload_n hx hb dX12_pledge_229 rfl (lv_at hl 2 rfl) ?_
                  refine lv_dup hx hb dX12_pledge_230 rfl ?_
                  refine cs_get F St 0 rfl rfl inX12 20 (by decide) kf_X12_237 rfl dX12_pledge_231 ?_
                  refine lv_iconst (v := 1) hx hb dX12_pledge_234 (by decide) ?_
                  refine lv_iadd hx hb dX12_pledge_235 ?_
                  refine top_i (y := 1) (by decide) ?_
                  refine cs_put F St 0 rfl rfl inX12 tyX12_ok nmX12 20 (by decide) kf_X12_237 rfl rfl rfl (Nat.le_of_ble_eq_true rfl) (w' := [(h, .inr (12, [.ref (a 0), .ref (a 1), .ref (a 2), .ref (a 3), .int 0, .int 0, .int 0, .int 0, .int 0, .int 0, .int 0, .int (-1), .ref (a 4), .int 0, .int 0, .int 0, .int 0, .int 0, .int 0, .int 0, .int 1, .int 0, .int 0, .int 0, .ref (a 5), .ref (a 6), .ref (a 7), .ref (a 8), .ref (a 9), .ref (a 10), .ref (a 11), .ref (a 12), .ref (a 13), .ref (a 14), .ref (a 15), .ref (a 16), .ref (a 17), .ref (a 18), .ref (a 19), .ref (a 20), .ref (a 21), .ref (a 22), .ref (a 23), .ref (a 24), .ref (a 25), .ref (a 26), .ref (a 27), .ref (a 28), .ref (a 29), .ref (a 30), .int 0, .ref (a 31), .ref (a 32)])), ((a 10), .inl ((d 10), 60, .inl f_31)), ((a 11), .inl ((d 11), 60, .inl f_32)), ((a 12), .inl ((d 12), 60, .inl f_33)), ((a 13), .inl ((d 13), 60, .inl f_34)), ((a 14), .inl ((d 14), 60, .inl f_35)), ((a 15), .inl ((d 15), 60, .inl f_36)), ((a 18), .inl ((d 18), 5040, .inl gd)), ((a 20), .inl ((d 20), 5040, .inl gt)), ((a 21), .inl ((d 21), 5040, .inl gc))]) rfl dX12_pledge_236 (fun H locs St => ?_)
                  refine lv_iload hx hb dX12_pledge_239 (lv_at hl 1 rfl) ?_
                  exact cs_iret F hr hlk hQ St () (r := 0) (Or.inl ⟨rfl, by omega⟩) [] rfl (by decide) [] rfl (by decide) (by decide) dX12_pledge_241
                ·
                  have i149 := ci_nle (x := x5) (y := i) rfl rfl c149
                  refine lv_aload_n hx hb dX12_pledge_152 rfl (lv_at hl 2 rfl) ?_
                  refine cs_get F St 0 rfl rfl inX12 37 (by decide) kf_X12_159 rfl dX12_pledge_153 ?_
                  refine lv_bipush (v := 84) hx hb dX12_pledge_156 (by decide) ?_
                  refine lv_iload hx hb dX12_pledge_158 (lv_at hl 1 rfl) ?_
                  refine lv_imul hx hb dX12_pledge_160 ?_
                  refine top_i (y := 0) (by decide) ?_
                  refine lv_iload hx hb dX12_pledge_161 (lv_at hl 0 rfl) ?_
                  refine lv_iadd hx hb dX12_pledge_163 ?_
                  refine lv_topi (fun y_37 ey_37 => ?_)
                  have jy_37 := ci_add (x := 0) (y := i) (show (0 : Int32).toInt = 0 by decide) rfl ey_37
                  refine lv_iload_n hx hb dX12_pledge_164 rfl (lv_at hl 4 rfl) ?_
                  refine cs_ist F St 7 6 rfl rfl (vp_in_iff.mpr ⟨by omega, by omega⟩) (w' := [(h, .inr (12, [.ref (a 0), .ref (a 1), .ref (a 2), .ref (a 3), .int 0, .int 0, .int 0, .int 0, .int 0, .int 0, .int 0, .int (-1), .ref (a 4), .int 0, .int 0, .int 0, .int 0, .int 0, .int 0, .int 0, .int 0, .int 0, .int 0, .int 0, .ref (a 5), .ref (a 6), .ref (a 7), .ref (a 8), .ref (a 9), .ref (a 10), .ref (a 11), .ref (a 12), .ref (a 13), .ref (a 14), .ref (a 15), .ref (a 16), .ref (a 17), .ref (a 18), .ref (a 19), .ref (a 20), .ref (a 21), .ref (a 22), .ref (a 23), .ref (a 24), .ref (a 25), .ref (a 26), .ref (a 27), .ref (a 28), .ref (a 29), .ref (a 30), .int 0, .ref (a 31), .ref (a 32)])), ((a 10), .inl ((d 10), 60, .inl f_31)), ((a 11), .inl ((d 11), 60, .inl f_32)), ((a 12), .inl ((d 12), 60, .inl f_33)), ((a 13), .inl ((d 13), 60, .inl f_34)), ((a 14), .inl ((d 14), 60, .inl f_35)), ((a 15), .inl ((d 15), 60, .inl f_36)), ((a 18), .inl ((d 18), 5040, .inl (upd gd (y_37 : Int32).toNatClampNeg x2))), ((a 20), .inl ((d 20), 5040, .inl gt)), ((a 21), .inl ((d 21), 5040, .inl gc))]) rfl dX12_pledge_165 (fun H locs St => ?_)
                  obtain ⟨f_38, ef_38⟩ : ∃ zz : Nat → Int32, zz = upd gd (y_37 : Int32).toNatClampNeg x2 := ⟨_, rfl⟩
                  rw [← ef_38] at St
                  refine lv_aload_n hx hb dX12_pledge_166 rfl (lv_at hl 2 rfl) ?_
                  refine cs_get F St 0 rfl rfl inX12 39 (by decide) kf_X12_165 rfl dX12_pledge_167 ?_
                  refine lv_bipush (v := 84) hx hb dX12_pledge_170 (by decide) ?_
                  refine lv_iload hx hb dX12_pledge_172 (lv_at hl 1 rfl) ?_
                  refine lv_imul hx hb dX12_pledge_174 ?_
                  refine top_i (y := 0) (by decide) ?_
                  refine lv_iload hx hb dX12_pledge_175 (lv_at hl 0 rfl) ?_
                  refine lv_iadd hx hb dX12_pledge_177 ?_
                  refine lv_topi (fun y_39 ey_39 => ?_)
                  have jy_39 := ci_add (x := 0) (y := i) (show (0 : Int32).toInt = 0 by decide) rfl ey_39
                  refine lv_aload_n hx hb dX12_pledge_178 rfl (lv_at hl 2 rfl) ?_
                  refine lv_iload hx hb dX12_pledge_179 (lv_at hl 1 rfl) ?_
                  refine lv_iload hx hb dX12_pledge_181 (lv_at hl 0 rfl) ?_
                  refine cs_i St [0, 3, 4] [1, 2, 5, 6, 7, 8, 9] (wc := [(h, .inr (12, [.ref (a 0), .ref (a 1), .ref (a 2), .ref (a 3), .int 0, .int 0, .int 0, .int 0, .int 0, .int 0, .int 0, .int (-1), .ref (a 4), .int 0, .int 0, .int 0, .int 0, .int 0, .int 0, .int 0, .int 0, .int 0, .int 0, .int 0, .ref (a 5), .ref (a 6), .ref (a 7), .ref (a 8), .ref (a 9), .ref (a 10), .ref (a 11), .ref (a 12), .ref (a 13), .ref (a 14), .ref (a 15), .ref (a 16), .ref (a 17), .ref (a 18), .ref (a 19), .ref (a 20), .ref (a 21), .ref (a 22), .ref (a 23), .ref (a 24), .ref (a 25), .ref (a 26), .ref (a 27), .ref (a 28), .ref (a 29), .ref (a 30), .int 0, .ref (a 31), .ref (a 32)])), ((a 12), .inl ((d 12), 60, .inl f_33)), ((a 13), .inl ((d 13), 60, .inl f_34))]) (wr := [((a 10), .inl ((d 10), 60, .inl f_31)), ((a 11), .inl ((d 11), 60, .inl f_32)), ((a 14), .inl ((d 14), 60, .inl f_35)), ((a 15), .inl ((d 15), 60, .inl f_36)), ((a 18), .inl ((d 18), 5040, .inl f_38)), ((a 20), .inl ((d 20), 5040, .inl gt)), ((a 21), .inl ((d 21), 5040, .inl gc))]) rfl rfl (by decide) (by decide) (va_runV (As := [.int 0, .int i]) (rest := [.int y_39, .ref (a 20)]) F (m_monthOf l G k _ h a d i f_33 f_34) (cwVt F mf_X12_monthOf km_X12_240 rfl rfl ⟨Nat.le_of_ble_eq_true rfl, Nat.le_of_ble_eq_true rfl⟩) (cs_preV St [0, 3, 4] rfl (by decide) [2, 3] rfl (ci := 12) (q0 := 0) rfl rfl) rfl rfl hl.1 rfl (lv_room (Nat.le_of_ble_eq_true rfl)) dX12_pledge_183 ⟨Nat.le_of_ble_eq_true rfl, Nat.le_of_ble_eq_true rfl⟩) (fun r_40 u_41 H locs hw St => ?_)
                  try dsimp only at hw
                  have hf_42 := hw
                  have St : cS G k [((a 10), .inl ((d 10), 60, .inl f_31)), ((a 11), .inl ((d 11), 60, .inl f_32)), ((a 14), .inl ((d 14), 60, .inl f_35)), ((a 15), .inl ((d 15), 60, .inl f_36)), ((a 18), .inl ((d 18), 5040, .inl f_38)), ((a 20), .inl ((d 20), 5040, .inl gt)), ((a 21), .inl ((d 21), 5040, .inl gc)), (h, .inr (12, [.ref (a 0), .ref (a 1), .ref (a 2), .ref (a 3), .int 0, .int 0, .int 0, .int 0, .int 0, .int 0, .int 0, .int (-1), .ref (a 4), .int 0, .int 0, .int 0, .int 0, .int 0, .int 0, .int 0, .int 0, .int 0, .int 0, .int 0, .ref (a 5), .ref (a 6), .ref (a 7), .ref (a 8), .ref (a 9), .ref (a 10), .ref (a 11), .ref (a 12), .ref (a 13), .ref (a 14), .ref (a 15), .ref (a 16), .ref (a 17), .ref (a 18), .ref (a 19), .ref (a 20), .ref (a 21), .ref (a 22), .ref (a 23), .ref (a 24), .ref (a 25), .ref (a 26), .ref (a 27), .ref (a 28), .ref (a 29), .ref (a 30), .int 0, .ref (a 31), .ref (a 32)])), ((a 12), .inl ((d 12), 60, .inl f_33)), ((a 13), .inl ((d 13), 60, .inl f_34))] [((d 10), .int), ((d 11), .int), ((d 12), .int), ((d 13), .int), ((d 14), .int), ((d 15), .int), ((d 18), .int), ((d 20), .boolean), ((d 21), .boolean)] A s H locs := St
                  refine lv_bipush (v := 119) hx hb dX12_pledge_186 (by decide) ?_
                  refine lv_icmp_gt (tgt := 195) hx hb dX12_pledge_188 (by decide) (fun c188 => ?_) (fun c188 => ?_)
                  ·
                    have i188 := ci_lt (x := 119) (y := r_40) (show (119 : Int32).toInt = 119 by decide) rfl c188
                    refine lv_iconst (v := 0) hx hb dX12_pledge_195 (by decide) ?_
                    refine cs_zst F St 5 7 rfl rfl (vp_in_iff.mpr ⟨by omega, by omega⟩) (w' := [((a 10), .inl ((d 10), 60, .inl f_31)), ((a 11), .inl ((d 11), 60, .inl f_32)), ((a 14), .inl ((d 14), 60, .inl f_35)), ((a 15), .inl ((d 15), 60, .inl f_36)), ((a 18), .inl ((d 18), 5040, .inl f_38)), ((a 20), .inl ((d 20), 5040, .inl (upd gt (y_39 : Int32).toNatClampNeg (vp_nar .boolean 0)))), ((a 21), .inl ((d 21), 5040, .inl gc)), (h, .inr (12, [.ref (a 0), .ref (a 1), .ref (a 2), .ref (a 3), .int 0, .int 0, .int 0, .int 0, .int 0, .int 0, .int 0, .int (-1), .ref (a 4), .int 0, .int 0, .int 0, .int 0, .int 0, .int 0, .int 0, .int 0, .int 0, .int 0, .int 0, .ref (a 5), .ref (a 6), .ref (a 7), .ref (a 8), .ref (a 9), .ref (a 10), .ref (a 11), .ref (a 12), .ref (a 13), .ref (a 14), .ref (a 15), .ref (a 16), .ref (a 17), .ref (a 18), .ref (a 19), .ref (a 20), .ref (a 21), .ref (a 22), .ref (a 23), .ref (a 24), .ref (a 25), .ref (a 26), .ref (a 27), .ref (a 28), .ref (a 29), .ref (a 30), .int 0, .ref (a 31), .ref (a 32)])), ((a 12), .inl ((d 12), 60, .inl f_33)), ((a 13), .inl ((d 13), 60, .inl f_34))]) rfl dX12_pledge_196 (fun H locs St => ?_)
                    obtain ⟨f_43, ef_43⟩ : ∃ zz : Nat → Int32, zz = upd gt (y_39 : Int32).toNatClampNeg (vp_nar .boolean 0) := ⟨_, rfl⟩
                    rw [← ef_43] at St
                    refine lv_aload_n hx hb dX12_pledge_197 rfl (lv_at hl 2 rfl) ?_
                    refine cs_get F St 7 rfl rfl inX12 40 (by decide) kf_X12_168 rfl dX12_pledge_198 ?_
                    refine lv_bipush (v := 84) hx hb dX12_pledge_201 (by decide) ?_
                    refine lv_iload hx hb dX12_pledge_203 (lv_at hl 1 rfl) ?_
                    refine lv_imul hx hb dX12_pledge_205 ?_
                    refine top_i (y := 0) (by decide) ?_
                    refine lv_iload hx hb dX12_pledge_206 (lv_at hl 0 rfl) ?_
                    refine lv_iadd hx hb dX12_pledge_208 ?_
                    refine lv_topi (fun y_44 ey_44 => ?_)
                    have jy_44 := ci_add (x := 0) (y := i) (show (0 : Int32).toInt = 0 by decide) rfl ey_44
                    refine lv_aload_n hx hb dX12_pledge_209 rfl (lv_at hl 2 rfl) ?_
                    refine cs_get F St 7 rfl rfl inX12 39 (by decide) kf_X12_165 rfl dX12_pledge_210 ?_
                    refine lv_bipush (v := 84) hx hb dX12_pledge_213 (by decide) ?_
                    refine lv_iload hx hb dX12_pledge_215 (lv_at hl 1 rfl) ?_
                    refine lv_imul hx hb dX12_pledge_217 ?_
                    refine top_i (y := 0) (by decide) ?_
                    refine lv_iload hx hb dX12_pledge_218 (lv_at hl 0 rfl) ?_
                    refine lv_iadd hx hb dX12_pledge_220 ?_
                    refine lv_topi (fun y_45 ey_45 => ?_)
                    have jy_45 := ci_add (x := 0) (y := i) (show (0 : Int32).toInt = 0 by decide) rfl ey_45
                    refine cs_zld F St 5 7 rfl rfl (vp_in_iff.mpr ⟨by omega, by omega⟩) dX12_pledge_221 ?_
                    refine lv_topi (fun y_46 ey_46 => ?_)
                    refine cs_zst F St 6 8 rfl rfl (vp_in_iff.mpr ⟨by omega, by omega⟩) (w' := [((a 10), .inl ((d 10), 60, .inl f_31)), ((a 11), .inl ((d 11), 60, .inl f_32)), ((a 14), .inl ((d 14), 60, .inl f_35)), ((a 15), .inl ((d 15), 60, .inl f_36)), ((a 18), .inl ((d 18), 5040, .inl f_38)), ((a 20), .inl ((d 20), 5040, .inl f_43)), ((a 21), .inl ((d 21), 5040, .inl (upd gc (y_44 : Int32).toNatClampNeg (vp_nar .boolean y_46)))), (h, .inr (12, [.ref (a 0), .ref (a 1), .ref (a 2), .ref (a 3), .int 0, .int 0, .int 0, .int 0, .int 0, .int 0, .int 0, .int (-1), .ref (a 4), .int 0, .int 0, .int 0, .int 0, .int 0, .int 0, .int 0, .int 0, .int 0, .int 0, .int 0, .ref (a 5), .ref (a 6), .ref (a 7), .ref (a 8), .ref (a 9), .ref (a 10), .ref (a 11), .ref (a 12), .ref (a 13), .ref (a 14), .ref (a 15), .ref (a 16), .ref (a 17), .ref (a 18), .ref (a 19), .ref (a 20), .ref (a 21), .ref (a 22), .ref (a 23), .ref (a 24), .ref (a 25), .ref (a 26), .ref (a 27), .ref (a 28), .ref (a 29), .ref (a 30), .int 0, .ref (a 31), .ref (a 32)])), ((a 12), .inl ((d 12), 60, .inl f_33)), ((a 13), .inl ((d 13), 60, .inl f_34))]) rfl dX12_pledge_222 (fun H locs St => ?_)
                    obtain ⟨f_47, ef_47⟩ : ∃ zz : Nat → Int32, zz = upd gc (y_44 : Int32).toNatClampNeg (vp_nar .boolean y_46) := ⟨_, rfl⟩
                    rw [← ef_47] at St
                    obtain ⟨y_48, ey_48⟩ : ∃ zz : Int32, zz = i + 1 := ⟨_, rfl⟩
                    have jy_48 := ci_add (x := i) rfl (show (1 : Int32).toInt = 1 by decide) ey_48
                    refine lv_iinc (v := y_48) (lv' := [(7, .int y_48), (6, .int 0), (0, .ref h), (1, .int x1), (2, .int x2), (3, .int x3), (4, .int x4), (5, .int x5)]) hx hb dX12_pledge_223 hl (k := 0) rfl (by rw [ey_48]; rfl) (by decide) rfl (fun ls hl => ?_)
                    refine lv_goto (tgt := 145) hx hb dX12_pledge_226 (by decide) ?_
                    exact ih y_48 f_38 f_43 f_47 _ _ _ ⟨by omega, by omega⟩ (by omega) (cs_pick St [7, 0, 1, 8, 9, 2, 3, 4, 5, 6] rfl (by decide) [0, 1, 2, 3, 4, 5, 6, 7, 8] rfl) (lv_sub hl [0, 1, 2, 3, 4, 5, 6, 7] rfl)
                  ·
                    have i188 := ci_nlt (x := 119) (y := r_40) (show (119 : Int32).toInt = 119 by decide) rfl c188
                    refine lv_iconst (v := 1) hx hb dX12_pledge_191 (by decide) ?_
                    refine lv_goto (tgt := 196) hx hb dX12_pledge_192 (by decide) ?_
                    refine cs_zst F St 5 7 rfl rfl (vp_in_iff.mpr ⟨by omega, by omega⟩) (w' := [((a 10), .inl ((d 10), 60, .inl f_31)), ((a 11), .inl ((d 11), 60, .inl f_32)), ((a 14), .inl ((d 14), 60, .inl f_35)), ((a 15), .inl ((d 15), 60, .inl f_36)), ((a 18), .inl ((d 18), 5040, .inl f_38)), ((a 20), .inl ((d 20), 5040, .inl (upd gt (y_39 : Int32).toNatClampNeg (vp_nar .boolean 1)))), ((a 21), .inl ((d 21), 5040, .inl gc)), (h, .inr (12, [.ref (a 0), .ref (a 1), .ref (a 2), .ref (a 3), .int 0, .int 0, .int 0, .int 0, .int 0, .int 0, .int 0, .int (-1), .ref (a 4), .int 0, .int 0, .int 0, .int 0, .int 0, .int 0, .int 0, .int 0, .int 0, .int 0, .int 0, .ref (a 5), .ref (a 6), .ref (a 7), .ref (a 8), .ref (a 9), .ref (a 10), .ref (a 11), .ref (a 12), .ref (a 13), .ref (a 14), .ref (a 15), .ref (a 16), .ref (a 17), .ref (a 18), .ref (a 19), .ref (a 20), .ref (a 21), .ref (a 22), .ref (a 23), .ref (a 24), .ref (a 25), .ref (a 26), .ref (a 27), .ref (a 28), .ref (a 29), .ref (a 30), .int 0, .ref (a 31), .ref (a 32)])), ((a 12), .inl ((d 12), 60, .inl f_33)), ((a 13), .inl ((d 13), 60, .inl f_34))]) rfl dX12_pledge_196 (fun H locs St => ?_)
                    obtain ⟨f_49, ef_49⟩ : ∃ zz : Nat → Int32, zz = upd gt (y_39 : Int32).toNatClampNeg (vp_nar .boolean 1) := ⟨_, rfl⟩
                    rw [← ef_49] at St
                    refine lv_aload_n hx hb dX12_pledge_197 rfl (lv_at hl 2 rfl) ?_
                    refine cs_get F St 7 rfl rfl inX12 40 (by decide) kf_X12_168 rfl dX12_pledge_198 ?_
                    refine lv_bipush (v := 84) hx hb dX12_pledge_201 (by decide) ?_
                    refine lv_iload hx hb dX12_pledge_203 (lv_at hl 1 rfl) ?_
                    refine lv_imul hx hb dX12_pledge_205 ?_
                    refine top_i (y := 0) (by decide) ?_
                    refine lv_iload hx hb dX12_pledge_206 (lv_at hl 0 rfl) ?_
                    refine lv_iadd hx hb dX12_pledge_208 ?_
                    refine lv_topi (fun y_50 ey_50 => ?_)
                    have jy_50 := ci_add (x := 0) (y := i) (show (0 : Int32).toInt = 0 by decide) rfl ey_50
                    refine lv_aload_n hx hb dX12_pledge_209 rfl (lv_at hl 2 rfl) ?_
                    refine cs_get F St 7 rfl rfl inX12 39 (by decide) kf_X12_165 rfl dX12_pledge_210 ?_
                    refine lv_bipush (v := 84) hx hb dX12_pledge_213 (by decide) ?_
                    refine lv_iload hx hb dX12_pledge_215 (lv_at hl 1 rfl) ?_
                    refine lv_imul hx hb dX12_pledge_217 ?_
                    refine top_i (y := 0) (by decide) ?_
                    refine lv_iload hx hb dX12_pledge_218 (lv_at hl 0 rfl) ?_
                    refine lv_iadd hx hb dX12_pledge_220 ?_
                    refine lv_topi (fun y_51 ey_51 => ?_)
                    have jy_51 := ci_add (x := 0) (y := i) (show (0 : Int32).toInt = 0 by decide) rfl ey_51
                    refine cs_zld F St 5 7 rfl rfl (vp_in_iff.mpr ⟨by omega, by omega⟩) dX12_pledge_221 ?_
                    refine lv_topi (fun y_52 ey_52 => ?_)
                    refine cs_zst F St 6 8 rfl rfl (vp_in_iff.mpr ⟨by omega, by omega⟩) (w' := [((a 10), .inl ((d 10), 60, .inl f_31)), ((a 11), .inl ((d 11), 60, .inl f_32)), ((a 14), .inl ((d 14), 60, .inl f_35)), ((a 15), .inl ((d 15), 60, .inl f_36)), ((a 18), .inl ((d 18), 5040, .inl f_38)), ((a 20), .inl ((d 20), 5040, .inl f_49)), ((a 21), .inl ((d 21), 5040, .inl (upd gc (y_50 : Int32).toNatClampNeg (vp_nar .boolean y_52)))), (h, .inr (12, [.ref (a 0), .ref (a 1), .ref (a 2), .ref (a 3), .int 0, .int 0, .int 0, .int 0, .int 0, .int 0, .int 0, .int (-1), .ref (a 4), .int 0, .int 0, .int 0, .int 0, .int 0, .int 0, .int 0, .int 0, .int 0, .int 0, .int 0, .ref (a 5), .ref (a 6), .ref (a 7), .ref (a 8), .ref (a 9), .ref (a 10), .ref (a 11), .ref (a 12), .ref (a 13), .ref (a 14), .ref (a 15), .ref (a 16), .ref (a 17), .ref (a 18), .ref (a 19), .ref (a 20), .ref (a 21), .ref (a 22), .ref (a 23), .ref (a 24), .ref (a 25), .ref (a 26), .ref (a 27), .ref (a 28), .ref (a 29), .ref (a 30), .int 0, .ref (a 31), .ref (a 32)])), ((a 12), .inl ((d 12), 60, .inl f_33)), ((a 13), .inl ((d 13), 60, .inl f_34))]) rfl dX12_pledge_222 (fun H locs St => ?_)
                    obtain ⟨f_53, ef_53⟩ : ∃ zz : Nat → Int32, zz = upd gc (y_50 : Int32).toNatClampNeg (vp_nar .boolean y_52) := ⟨_, rfl⟩
                    rw [← ef_53] at St
                    obtain ⟨y_54, ey_54⟩ : ∃ zz : Int32, zz = i + 1 := ⟨_, rfl⟩
                    have jy_54 := ci_add (x := i) rfl (show (1 : Int32).toInt = 1 by decide) ey_54
                    refine lv_iinc (v := y_54) (lv' := [(7, .int y_54), (6, .int 0), (0, .ref h), (1, .int x1), (2, .int x2), (3, .int x3), (4, .int x4), (5, .int x5)]) hx hb dX12_pledge_223 hl (k := 0) rfl (by rw [ey_54]; rfl) (by decide) rfl (fun ls hl => ?_)
                    refine lv_goto (tgt := 145) hx hb dX12_pledge_226 (by decide) ?_
                    exact ih y_54 f_38 f_49 f_53 _ _ _ ⟨by omega, by omega⟩ (by omega) (cs_pick St [7, 0, 1, 8, 9, 2, 3, 4, 5, 6] rfl (by decide) [0, 1, 2, 3, 4, 5, 6, 7, 8] rfl) (lv_sub hl [0, 1, 2, 3, 4, 5, 6, 7] rfl)
            exact lp145 85 0 (fun _ => 0) (fun _ => 0) (fun _ => 0) _ _ _ ⟨by decide, by rw [show (0 : Int32).toInt = 0 from by decide]; omega⟩ (by decide) St (lv_sub hl [0, 1, 2, 3, 4, 5, 6, 7] rfl)
          ·
            subst r_25
            have St : cS G k [(h, .inr (12, [.ref (a 0), .ref (a 1), .ref (a 2), .ref (a 3), .int 0, .int 0, .int 0, .int 0, .int 0, .int 0, .int 0, .int (-1), .ref (a 4), .int 0, .int 0, .int 0, .int 0, .int 0, .int 0, .int 0, .int 0, .int 0, .int 0, .int 0, .ref (a 5), .ref (a 6), .ref (a 7), .ref (a 8), .ref (a 9), .ref (a 10), .ref (a 11), .ref (a 12), .ref (a 13), .ref (a 14), .ref (a 15), .ref (a 16), .ref (a 17), .ref (a 18), .ref (a 19), .ref (a 20), .ref (a 21), .ref (a 22), .ref (a 23), .ref (a 24), .ref (a 25), .ref (a 26), .ref (a 27), .ref (a 28), .ref (a 29), .ref (a 30), .int 0, .ref (a 31), .ref (a 32)])), ((a 10), .inl ((d 10), 60, .inl (fun _ => 0))), ((a 11), .inl ((d 11), 60, .inl (fun _ => 0))), ((a 12), .inl ((d 12), 60, .inl (fun _ => 0))), ((a 13), .inl ((d 13), 60, .inl (fun _ => 0))), ((a 14), .inl ((d 14), 60, .inl (fun _ => 0))), ((a 15), .inl ((d 15), 60, .inl (fun _ => 0))), ((a 18), .inl ((d 18), 5040, .inl (fun _ => 0))), ((a 20), .inl ((d 20), 5040, .inl (fun _ => 0))), ((a 21), .inl ((d 21), 5040, .inl (fun _ => 0)))] [((d 10), .int), ((d 11), .int), ((d 12), .int), ((d 13), .int), ((d 14), .int), ((d 15), .int), ((d 18), .int), ((d 20), .boolean), ((d 21), .boolean)] A s H locs := St
            refine lv_if_ne (tgt := 64) hx hb dX12_pledge_58 (by decide) (fun c58 => ?_) (fun c58 => ?_)
            · exact absurd c58 (by decide)
            refine lv_bipush (v := (-2)) hx hb dX12_pledge_61 (by decide) ?_
            exact cs_iret F hr hlk hQ St () (r := (-2)) (Or.inr ⟨rfl, by omega⟩) [] rfl (by decide) [] rfl (by decide) (by decide) dX12_pledge_63
        ·
          subst r_19
          have St : cS G k [(h, .inr (12, [.ref (a 0), .ref (a 1), .ref (a 2), .ref (a 3), .int 0, .int 0, .int 0, .int 0, .int 0, .int 0, .int 0, .int (-1), .ref (a 4), .int 0, .int 0, .int 0, .int 0, .int 0, .int 0, .int 0, .int 0, .int 0, .int 0, .int 0, .ref (a 5), .ref (a 6), .ref (a 7), .ref (a 8), .ref (a 9), .ref (a 10), .ref (a 11), .ref (a 12), .ref (a 13), .ref (a 14), .ref (a 15), .ref (a 16), .ref (a 17), .ref (a 18), .ref (a 19), .ref (a 20), .ref (a 21), .ref (a 22), .ref (a 23), .ref (a 24), .ref (a 25), .ref (a 26), .ref (a 27), .ref (a 28), .ref (a 29), .ref (a 30), .int 0, .ref (a 31), .ref (a 32)])), ((a 10), .inl ((d 10), 60, .inl (fun _ => 0))), ((a 11), .inl ((d 11), 60, .inl (fun _ => 0))), ((a 12), .inl ((d 12), 60, .inl (fun _ => 0))), ((a 13), .inl ((d 13), 60, .inl (fun _ => 0))), ((a 14), .inl ((d 14), 60, .inl (fun _ => 0))), ((a 15), .inl ((d 15), 60, .inl (fun _ => 0))), ((a 18), .inl ((d 18), 5040, .inl (fun _ => 0))), ((a 20), .inl ((d 20), 5040, .inl (fun _ => 0))), ((a 21), .inl ((d 21), 5040, .inl (fun _ => 0)))] [((d 10), .int), ((d 11), .int), ((d 12), .int), ((d 13), .int), ((d 14), .int), ((d 15), .int), ((d 18), .int), ((d 20), .boolean), ((d 21), .boolean)] A s H locs := St
          refine lv_if_eq (tgt := 61) hx hb dX12_pledge_45 (by decide) (fun c45 => ?_) (fun c45 => ?_)
          rotate_left
          · exact absurd (by decide) c45
          refine lv_bipush (v := (-2)) hx hb dX12_pledge_61 (by decide) ?_
          exact cs_iret F hr hlk hQ St () (r := (-2)) (Or.inr ⟨rfl, by omega⟩) [] rfl (by decide) [] rfl (by decide) (by decide) dX12_pledge_63
      ·
        subst r_13
        have St : cS G k [(h, .inr (12, [.ref (a 0), .ref (a 1), .ref (a 2), .ref (a 3), .int 0, .int 0, .int 0, .int 0, .int 0, .int 0, .int 0, .int (-1), .ref (a 4), .int 0, .int 0, .int 0, .int 0, .int 0, .int 0, .int 0, .int 0, .int 0, .int 0, .int 0, .ref (a 5), .ref (a 6), .ref (a 7), .ref (a 8), .ref (a 9), .ref (a 10), .ref (a 11), .ref (a 12), .ref (a 13), .ref (a 14), .ref (a 15), .ref (a 16), .ref (a 17), .ref (a 18), .ref (a 19), .ref (a 20), .ref (a 21), .ref (a 22), .ref (a 23), .ref (a 24), .ref (a 25), .ref (a 26), .ref (a 27), .ref (a 28), .ref (a 29), .ref (a 30), .int 0, .ref (a 31), .ref (a 32)])), ((a 10), .inl ((d 10), 60, .inl (fun _ => 0))), ((a 11), .inl ((d 11), 60, .inl (fun _ => 0))), ((a 12), .inl ((d 12), 60, .inl (fun _ => 0))), ((a 13), .inl ((d 13), 60, .inl (fun _ => 0))), ((a 14), .inl ((d 14), 60, .inl (fun _ => 0))), ((a 15), .inl ((d 15), 60, .inl (fun _ => 0))), ((a 18), .inl ((d 18), 5040, .inl (fun _ => 0))), ((a 20), .inl ((d 20), 5040, .inl (fun _ => 0))), ((a 21), .inl ((d 21), 5040, .inl (fun _ => 0)))] [((d 10), .int), ((d 11), .int), ((d 12), .int), ((d 13), .int), ((d 14), .int), ((d 15), .int), ((d 18), .int), ((d 20), .boolean), ((d 21), .boolean)] A s H locs := St
        refine lv_if_eq (tgt := 61) hx hb dX12_pledge_32 (by decide) (fun c32 => ?_) (fun c32 => ?_)
        rotate_left
        · exact absurd (by decide) c32
        refine lv_bipush (v := (-2)) hx hb dX12_pledge_61 (by decide) ?_
        exact cs_iret F hr hlk hQ St () (r := (-2)) (Or.inr ⟨rfl, by omega⟩) [] rfl (by decide) [] rfl (by decide) (by decide) dX12_pledge_63
    ·
      subst r_7
      have St : cS G k [(h, .inr (12, [.ref (a 0), .ref (a 1), .ref (a 2), .ref (a 3), .int 0, .int 0, .int 0, .int 0, .int 0, .int 0, .int 0, .int (-1), .ref (a 4), .int 0, .int 0, .int 0, .int 0, .int 0, .int 0, .int 0, .int 0, .int 0, .int 0, .int 0, .ref (a 5), .ref (a 6), .ref (a 7), .ref (a 8), .ref (a 9), .ref (a 10), .ref (a 11), .ref (a 12), .ref (a 13), .ref (a 14), .ref (a 15), .ref (a 16), .ref (a 17), .ref (a 18), .ref (a 19), .ref (a 20), .ref (a 21), .ref (a 22), .ref (a 23), .ref (a 24), .ref (a 25), .ref (a 26), .ref (a 27), .ref (a 28), .ref (a 29), .ref (a 30), .int 0, .ref (a 31), .ref (a 32)])), ((a 10), .inl ((d 10), 60, .inl (fun _ => 0))), ((a 11), .inl ((d 11), 60, .inl (fun _ => 0))), ((a 12), .inl ((d 12), 60, .inl (fun _ => 0))), ((a 13), .inl ((d 13), 60, .inl (fun _ => 0))), ((a 14), .inl ((d 14), 60, .inl (fun _ => 0))), ((a 15), .inl ((d 15), 60, .inl (fun _ => 0))), ((a 18), .inl ((d 18), 5040, .inl (fun _ => 0))), ((a 20), .inl ((d 20), 5040, .inl (fun _ => 0))), ((a 21), .inl ((d 21), 5040, .inl (fun _ => 0)))] [((d 10), .int), ((d 11), .int), ((d 12), .int), ((d 13), .int), ((d 14), .int), ((d 15), .int), ((d 18), .int), ((d 20), .boolean), ((d 21), .boolean)] A s H locs := St
      refine lv_if_eq (tgt := 61) hx hb dX12_pledge_16 (by decide) (fun c16 => ?_) (fun c16 => ?_)
      rotate_left
      · exact absurd (by decide) c16
      refine lv_bipush (v := (-2)) hx hb dX12_pledge_61 (by decide) ?_
      exact cs_iret F hr hlk hQ St () (r := (-2)) (Or.inr ⟨rfl, by omega⟩) [] rfl (by decide) [] rfl (by decide) (by decide) dX12_pledge_63
  ·
    subst r_1
    have St : cS G k [(h, .inr (12, [.ref (a 0), .ref (a 1), .ref (a 2), .ref (a 3), .int 0, .int 0, .int 0, .int 0, .int 0, .int 0, .int 0, .int (-1), .ref (a 4), .int 0, .int 0, .int 0, .int 0, .int 0, .int 0, .int 0, .int 0, .int 0, .int 0, .int 0, .ref (a 5), .ref (a 6), .ref (a 7), .ref (a 8), .ref (a 9), .ref (a 10), .ref (a 11), .ref (a 12), .ref (a 13), .ref (a 14), .ref (a 15), .ref (a 16), .ref (a 17), .ref (a 18), .ref (a 19), .ref (a 20), .ref (a 21), .ref (a 22), .ref (a 23), .ref (a 24), .ref (a 25), .ref (a 26), .ref (a 27), .ref (a 28), .ref (a 29), .ref (a 30), .int 0, .ref (a 31), .ref (a 32)])), ((a 10), .inl ((d 10), 60, .inl (fun _ => 0))), ((a 11), .inl ((d 11), 60, .inl (fun _ => 0))), ((a 12), .inl ((d 12), 60, .inl (fun _ => 0))), ((a 13), .inl ((d 13), 60, .inl (fun _ => 0))), ((a 14), .inl ((d 14), 60, .inl (fun _ => 0))), ((a 15), .inl ((d 15), 60, .inl (fun _ => 0))), ((a 18), .inl ((d 18), 5040, .inl (fun _ => 0))), ((a 20), .inl ((d 20), 5040, .inl (fun _ => 0))), ((a 21), .inl ((d 21), 5040, .inl (fun _ => 0)))] [((d 10), .int), ((d 11), .int), ((d 12), .int), ((d 13), .int), ((d 14), .int), ((d 15), .int), ((d 18), .int), ((d 20), .boolean), ((d 21), .boolean)] A s H locs := St
    refine lv_if_eq (tgt := 61) hx hb dX12_pledge_4 (by decide) (fun c4 => ?_) (fun c4 => ?_)
    rotate_left
    · exact absurd (by decide) c4
    refine lv_bipush (v := (-2)) hx hb dX12_pledge_61 (by decide) ?_
    exact cs_iret F hr hlk hQ St () (r := (-2)) (Or.inr ⟨rfl, by omega⟩) [] rfl (by decide) [] rfl (by decide) (by decide) dX12_pledge_63
set_option maxHeartbeats 4000000 in
set_option maxRecDepth 100000 in
theorem m_isPledge (l : Launch) (G : va_G) (k : Nat → Nat) (sz : Nat) (h : Nat) (a : Nat → Nat) (x1 : Int32) : Met l yX12_isPledge (Cond.code yX12_isPledge cX12_isPledge 2 (some .boolean) :: tb) ({ frames := 1, cells := 0, slots := 0, locals := 25 } : Room) (va_Pc [.ref h, .int x1] (cP G k [(h, .inr (12, [.ref (a 0), .ref (a 1), .ref (a 2), .ref (a 3), .int 0, .int 0, .int 0, .int 0, .int 0, .int 0, .int 0, .int (-1), .ref (a 4), .int 0, .int 0, .int 0, .int 0, .int 0, .int 0, .int 0, .int 0, .int 0, .int 0, .int 0, .ref (a 5), .ref (a 6), .ref (a 7), .ref (a 8), .ref (a 9), .ref (a 10), .ref (a 11), .ref (a 12), .ref (a 13), .ref (a 14), .ref (a 15), .ref (a 16), .ref (a 17), .ref (a 18), .ref (a 19), .ref (a 20), .ref (a 21), .ref (a 22), .ref (a 23), .ref (a 24), .ref (a 25), .ref (a 26), .ref (a 27), .ref (a 28), .ref (a 29), .ref (a 30), .int 0, .ref (a 31), .ref (a 32)]))] [] sz)) (va_Qi (fun (r : Int32) (_ : Unit) => (r = 0)) (cB G (fun (_ : Unit) => [(h, .inr (12, [.ref (a 0), .ref (a 1), .ref (a 2), .ref (a 3), .int 0, .int 0, .int 0, .int 0, .int 0, .int 0, .int 0, .int (-1), .ref (a 4), .int 0, .int 0, .int 0, .int 0, .int 0, .int 0, .int 0, .int 0, .int 0, .int 0, .int 0, .ref (a 5), .ref (a 6), .ref (a 7), .ref (a 8), .ref (a 9), .ref (a 10), .ref (a 11), .ref (a 12), .ref (a 13), .ref (a 14), .ref (a 15), .ref (a 16), .ref (a 17), .ref (a 18), .ref (a 19), .ref (a 20), .ref (a 21), .ref (a 22), .ref (a 23), .ref (a 24), .ref (a 25), .ref (a 26), .ref (a 27), .ref (a 28), .ref (a 29), .ref (a 30), .int 0, .ref (a 31), .ref (a 32)]))]) (fun (_ : Unit) => []) (va_A [(h, .inr (12, [.ref (a 0), .ref (a 1), .ref (a 2), .ref (a 3), .int 0, .int 0, .int 0, .int 0, .int 0, .int 0, .int 0, .int (-1), .ref (a 4), .int 0, .int 0, .int 0, .int 0, .int 0, .int 0, .int 0, .int 0, .int 0, .int 0, .int 0, .ref (a 5), .ref (a 6), .ref (a 7), .ref (a 8), .ref (a 9), .ref (a 10), .ref (a 11), .ref (a 12), .ref (a 13), .ref (a 14), .ref (a 15), .ref (a 16), .ref (a 17), .ref (a 18), .ref (a 19), .ref (a 20), .ref (a 21), .ref (a 22), .ref (a 23), .ref (a 24), .ref (a 25), .ref (a 26), .ref (a 27), .ref (a 28), .ref (a 29), .ref (a 30), .int 0, .ref (a 31), .ref (a 32)]))] sz)) (va_A [(h, .inr (12, [.ref (a 0), .ref (a 1), .ref (a 2), .ref (a 3), .int 0, .int 0, .int 0, .int 0, .int 0, .int 0, .int 0, .int (-1), .ref (a 4), .int 0, .int 0, .int 0, .int 0, .int 0, .int 0, .int 0, .int 0, .int 0, .int 0, .int 0, .ref (a 5), .ref (a 6), .ref (a 7), .ref (a 8), .ref (a 9), .ref (a 10), .ref (a 11), .ref (a 12), .ref (a 13), .ref (a 14), .ref (a 15), .ref (a 16), .ref (a 17), .ref (a 18), .ref (a 19), .ref (a 20), .ref (a 21), .ref (a 22), .ref (a 23), .ref (a 24), .ref (a 25), .ref (a 26), .ref (a 27), .ref (a 28), .ref (a 29), .ref (a 30), .int 0, .ref (a 31), .ref (a 32)]))] sz)) 0 0 (va_A [(h, .inr (12, [.ref (a 0), .ref (a 1), .ref (a 2), .ref (a 3), .int 0, .int 0, .int 0, .int 0, .int 0, .int 0, .int 0, .int (-1), .ref (a 4), .int 0, .int 0, .int 0, .int 0, .int 0, .int 0, .int 0, .int 0, .int 0, .int 0, .int 0, .ref (a 5), .ref (a 6), .ref (a 7), .ref (a 8), .ref (a 9), .ref (a 10), .ref (a 11), .ref (a 12), .ref (a 13), .ref (a 14), .ref (a 15), .ref (a 16), .ref (a 17), .ref (a 18), .ref (a 19), .ref (a 20), .ref (a 21), .ref (a 22), .ref (a 23), .ref (a 24), .ref (a 25), .ref (a 26), .ref (a 27), .ref (a 28), .ref (a 29), .ref (a 30), .int 0, .ref (a 31), .ref (a 32)]))] sz) := by
  refine ofC_i (cc := cX12_isPledge) (maxL := 2) (ret := (some .boolean)) (by decide) rfl (Nat.le_of_ble_eq_true rfl) ?_
  intro p e s m args below meth c A ls Q F hr hin hlk St hl hQ
  have hx := F.1
  have hb := F.2.1
  have hl : lv_has ls 2 [(0, .ref h), (1, .int x1)] := hl
  have St : cS G k [(h, .inr (12, [.ref (a 0), .ref (a 1), .ref (a 2), .ref (a 3), .int 0, .int 0, .int 0, .int 0, .int 0, .int 0, .int 0, .int (-1), .ref (a 4), .int 0, .int 0, .int 0, .int 0, .int 0, .int 0, .int 0, .int 0, .int 0, .int 0, .int 0, .ref (a 5), .ref (a 6), .ref (a 7), .ref (a 8), .ref (a 9), .ref (a 10), .ref (a 11), .ref (a 12), .ref (a 13), .ref (a 14), .ref (a 15), .ref (a 16), .ref (a 17), .ref (a 18), .ref (a 19), .ref (a 20), .ref (a 21), .ref (a 22), .ref (a 23), .ref (a 24), .ref (a 25), .ref (a 26), .ref (a 27), .ref (a 28), .ref (a 29), .ref (a 30), .int 0, .ref (a 31), .ref (a 32)]))] [] A s s.heap [] := St
  refine lv_iload_n hx hb dX12_isPledge_0 rfl (lv_at hl 1 rfl) ?_
  refine lv_i2l (v := x1.toInt64) hx hb dX12_isPledge_1 rfl ?_
  refine lv_lconst (v := 0) hx hb dX12_isPledge_2 (by decide) ?_
  refine lv_aload_n hx hb dX12_isPledge_3 rfl (lv_at hl 0 rfl) ?_
  refine cs_get F St 0 rfl rfl inX12 20 (by decide) kf_X12_237 rfl dX12_isPledge_4 ?_
  refine lv_i2l (v := 0) hx hb dX12_isPledge_7 (by decide) ?_
  refine lv_lconst (v := 1) hx hb dX12_isPledge_8 (by decide) ?_
  refine lv_lsub hx hb dX12_isPledge_9 ?_
  refine top_l (y := (-1)) (by decide) ?_
  refine cs_i St [] [0] (wc := []) (wr := [(h, .inr (12, [.ref (a 0), .ref (a 1), .ref (a 2), .ref (a 3), .int 0, .int 0, .int 0, .int 0, .int 0, .int 0, .int 0, .int (-1), .ref (a 4), .int 0, .int 0, .int 0, .int 0, .int 0, .int 0, .int 0, .int 0, .int 0, .int 0, .int 0, .ref (a 5), .ref (a 6), .ref (a 7), .ref (a 8), .ref (a 9), .ref (a 10), .ref (a 11), .ref (a 12), .ref (a 13), .ref (a 14), .ref (a 15), .ref (a 16), .ref (a 17), .ref (a 18), .ref (a 19), .ref (a 20), .ref (a 21), .ref (a 22), .ref (a 23), .ref (a 24), .ref (a 25), .ref (a 26), .ref (a 27), .ref (a 28), .ref (a 29), .ref (a 30), .int 0, .ref (a 31), .ref (a 32)]))]) rfl rfl (by decide) (by decide) (va_runS (As := [.long x1.toInt64, .long 0, .long (-1)]) (rest := []) F (c12_in l G k _ x1.toInt64 0 (-1) x1.toInt 0 (-1) (Int32.toInt_toInt64 x1) (by decide) (by decide)) (cwSt F mf_X12_in km_X12_58 rfl rfl ⟨Nat.le_of_ble_eq_true rfl, Nat.le_of_ble_eq_true rfl⟩) (cs_pre St [] rfl (by decide) [] rfl) rfl rfl hl.1 rfl (lv_room (Nat.le_of_ble_eq_true rfl)) dX12_isPledge_10 ⟨Nat.le_of_ble_eq_true rfl, Nat.le_of_ble_eq_true rfl⟩) (fun r_1 u_2 H locs hw St => ?_)
  try dsimp only at hw
  rcases hw with ⟨z_3, hf_4⟩ | ⟨z_5, hf_6⟩
  ·
    exact False.elim (by omega)
  ·
    subst r_1
    have St : cS G k [(h, .inr (12, [.ref (a 0), .ref (a 1), .ref (a 2), .ref (a 3), .int 0, .int 0, .int 0, .int 0, .int 0, .int 0, .int 0, .int (-1), .ref (a 4), .int 0, .int 0, .int 0, .int 0, .int 0, .int 0, .int 0, .int 0, .int 0, .int 0, .int 0, .ref (a 5), .ref (a 6), .ref (a 7), .ref (a 8), .ref (a 9), .ref (a 10), .ref (a 11), .ref (a 12), .ref (a 13), .ref (a 14), .ref (a 15), .ref (a 16), .ref (a 17), .ref (a 18), .ref (a 19), .ref (a 20), .ref (a 21), .ref (a 22), .ref (a 23), .ref (a 24), .ref (a 25), .ref (a 26), .ref (a 27), .ref (a 28), .ref (a 29), .ref (a 30), .int 0, .ref (a 31), .ref (a 32)]))] [] A s H locs := St
    exact cs_zret F hr hlk hQ St () (r := 0) rfl rfl [0] rfl (by decide) [] rfl (by decide) (by decide) dX12_isPledge_13
set_option maxHeartbeats 4000000 in
set_option maxRecDepth 100000 in
theorem m_change (l : Launch) (G : va_G) (k : Nat → Nat) (sz : Nat) (h : Nat) (a : Nat → Nat) (d : Nat → ClassId) (x1 : Int32) (x2 : Int32) : Met l yX12_change (Cond.code yX12_change cX12_change 4 (some .int) :: tb) ({ frames := 2, cells := 0, slots := 0, locals := 46 } : Room) (va_Pc [.ref h, .int x1, .int x2] (cP G k [(h, .inr (12, [.ref (a 0), .ref (a 1), .ref (a 2), .ref (a 3), .int 0, .int 0, .int 0, .int 0, .int 0, .int 0, .int 0, .int (-1), .ref (a 4), .int 0, .int 0, .int 0, .int 0, .int 0, .int 0, .int 0, .int 0, .int 0, .int 0, .int 0, .ref (a 5), .ref (a 6), .ref (a 7), .ref (a 8), .ref (a 9), .ref (a 10), .ref (a 11), .ref (a 12), .ref (a 13), .ref (a 14), .ref (a 15), .ref (a 16), .ref (a 17), .ref (a 18), .ref (a 19), .ref (a 20), .ref (a 21), .ref (a 22), .ref (a 23), .ref (a 24), .ref (a 25), .ref (a 26), .ref (a 27), .ref (a 28), .ref (a 29), .ref (a 30), .int 0, .ref (a 31), .ref (a 32)]))] [] sz)) (va_Qi (fun (r : Int32) (_ : Unit) => (r = (-2))) (cB G (fun (_ : Unit) => []) (fun (_ : Unit) => []) (va_A [(h, .inr (12, [.ref (a 0), .ref (a 1), .ref (a 2), .ref (a 3), .int 0, .int 0, .int 0, .int 0, .int 0, .int 0, .int 0, .int (-1), .ref (a 4), .int 0, .int 0, .int 0, .int 0, .int 0, .int 0, .int 0, .int 0, .int 0, .int 0, .int 0, .ref (a 5), .ref (a 6), .ref (a 7), .ref (a 8), .ref (a 9), .ref (a 10), .ref (a 11), .ref (a 12), .ref (a 13), .ref (a 14), .ref (a 15), .ref (a 16), .ref (a 17), .ref (a 18), .ref (a 19), .ref (a 20), .ref (a 21), .ref (a 22), .ref (a 23), .ref (a 24), .ref (a 25), .ref (a 26), .ref (a 27), .ref (a 28), .ref (a 29), .ref (a 30), .int 0, .ref (a 31), .ref (a 32)]))] sz)) (va_A [(h, .inr (12, [.ref (a 0), .ref (a 1), .ref (a 2), .ref (a 3), .int 0, .int 0, .int 0, .int 0, .int 0, .int 0, .int 0, .int (-1), .ref (a 4), .int 0, .int 0, .int 0, .int 0, .int 0, .int 0, .int 0, .int 0, .int 0, .int 0, .int 0, .ref (a 5), .ref (a 6), .ref (a 7), .ref (a 8), .ref (a 9), .ref (a 10), .ref (a 11), .ref (a 12), .ref (a 13), .ref (a 14), .ref (a 15), .ref (a 16), .ref (a 17), .ref (a 18), .ref (a 19), .ref (a 20), .ref (a 21), .ref (a 22), .ref (a 23), .ref (a 24), .ref (a 25), .ref (a 26), .ref (a 27), .ref (a 28), .ref (a 29), .ref (a 30), .int 0, .ref (a 31), .ref (a 32)]))] sz)) 0 0 (va_A [(h, .inr (12, [.ref (a 0), .ref (a 1), .ref (a 2), .ref (a 3), .int 0, .int 0, .int 0, .int 0, .int 0, .int 0, .int 0, .int (-1), .ref (a 4), .int 0, .int 0, .int 0, .int 0, .int 0, .int 0, .int 0, .int 0, .int 0, .int 0, .int 0, .ref (a 5), .ref (a 6), .ref (a 7), .ref (a 8), .ref (a 9), .ref (a 10), .ref (a 11), .ref (a 12), .ref (a 13), .ref (a 14), .ref (a 15), .ref (a 16), .ref (a 17), .ref (a 18), .ref (a 19), .ref (a 20), .ref (a 21), .ref (a 22), .ref (a 23), .ref (a 24), .ref (a 25), .ref (a 26), .ref (a 27), .ref (a 28), .ref (a 29), .ref (a 30), .int 0, .ref (a 31), .ref (a 32)]))] sz) := by
  refine ofC_i (cc := cX12_change) (maxL := 4) (ret := (some .int)) (by decide) rfl (Nat.le_of_ble_eq_true rfl) ?_
  intro p e s m args below meth c A ls Q F hr hin hlk St hl hQ
  have hx := F.1
  have hb := F.2.1
  have hl : lv_has ls 4 [(0, .ref h), (1, .int x1), (2, .int x2)] := hl
  have St : cS G k [(h, .inr (12, [.ref (a 0), .ref (a 1), .ref (a 2), .ref (a 3), .int 0, .int 0, .int 0, .int 0, .int 0, .int 0, .int 0, .int (-1), .ref (a 4), .int 0, .int 0, .int 0, .int 0, .int 0, .int 0, .int 0, .int 0, .int 0, .int 0, .int 0, .ref (a 5), .ref (a 6), .ref (a 7), .ref (a 8), .ref (a 9), .ref (a 10), .ref (a 11), .ref (a 12), .ref (a 13), .ref (a 14), .ref (a 15), .ref (a 16), .ref (a 17), .ref (a 18), .ref (a 19), .ref (a 20), .ref (a 21), .ref (a 22), .ref (a 23), .ref (a 24), .ref (a 25), .ref (a 26), .ref (a 27), .ref (a 28), .ref (a 29), .ref (a 30), .int 0, .ref (a 31), .ref (a 32)]))] [] A s s.heap [] := St
  refine lv_aload_n hx hb dX12_change_0 rfl (lv_at hl 0 rfl) ?_
  refine lv_iload_n hx hb dX12_change_1 rfl (lv_at hl 1 rfl) ?_
  refine cs_i St [0] [] (wc := [(h, .inr (12, [.ref (a 0), .ref (a 1), .ref (a 2), .ref (a 3), .int 0, .int 0, .int 0, .int 0, .int 0, .int 0, .int 0, .int (-1), .ref (a 4), .int 0, .int 0, .int 0, .int 0, .int 0, .int 0, .int 0, .int 0, .int 0, .int 0, .int 0, .ref (a 5), .ref (a 6), .ref (a 7), .ref (a 8), .ref (a 9), .ref (a 10), .ref (a 11), .ref (a 12), .ref (a 13), .ref (a 14), .ref (a 15), .ref (a 16), .ref (a 17), .ref (a 18), .ref (a 19), .ref (a 20), .ref (a 21), .ref (a 22), .ref (a 23), .ref (a 24), .ref (a 25), .ref (a 26), .ref (a 27), .ref (a 28), .ref (a 29), .ref (a 30), .int 0, .ref (a 31), .ref (a 32)]))]) (wr := []) rfl rfl (by decide) (by decide) (va_runV (As := [.int x1]) (rest := []) F (m_isPledge l G k _ h a x1) (cwVt F mf_X12_isPledge km_X12_243 rfl rfl ⟨Nat.le_of_ble_eq_true rfl, Nat.le_of_ble_eq_true rfl⟩) (cs_preV St [0] rfl (by decide) [] rfl (ci := 12) (q0 := 0) rfl rfl) rfl rfl hl.1 rfl (lv_room (Nat.le_of_ble_eq_true rfl)) dX12_change_2 ⟨Nat.le_of_ble_eq_true rfl, Nat.le_of_ble_eq_true rfl⟩) (fun r_1 u_2 H locs hw St => ?_)
  try dsimp only at hw
  have z_3 := hw
  subst r_1
  have St : cS G k [(h, .inr (12, [.ref (a 0), .ref (a 1), .ref (a 2), .ref (a 3), .int 0, .int 0, .int 0, .int 0, .int 0, .int 0, .int 0, .int (-1), .ref (a 4), .int 0, .int 0, .int 0, .int 0, .int 0, .int 0, .int 0, .int 0, .int 0, .int 0, .int 0, .ref (a 5), .ref (a 6), .ref (a 7), .ref (a 8), .ref (a 9), .ref (a 10), .ref (a 11), .ref (a 12), .ref (a 13), .ref (a 14), .ref (a 15), .ref (a 16), .ref (a 17), .ref (a 18), .ref (a 19), .ref (a 20), .ref (a 21), .ref (a 22), .ref (a 23), .ref (a 24), .ref (a 25), .ref (a 26), .ref (a 27), .ref (a 28), .ref (a 29), .ref (a 30), .int 0, .ref (a 31), .ref (a 32)]))] [] A s H locs := St
  refine lv_if_eq (tgt := 20) hx hb dX12_change_5 (by decide) (fun c5 => ?_) (fun c5 => ?_)
  rotate_left
  · exact absurd (by decide) c5
  refine lv_bipush (v := (-2)) hx hb dX12_change_20 (by decide) ?_
  exact cs_iret F hr hlk hQ St () (r := (-2)) rfl [] rfl (by decide) [] rfl (by decide) (by decide) dX12_change_22
set_option maxHeartbeats 4000000 in
set_option maxRecDepth 100000 in
theorem m_pay (l : Launch) (G : va_G) (k : Nat → Nat) (sz : Nat) (h : Nat) (a : Nat → Nat) (d : Nat → ClassId) (x1 : Int32) (x2 : Int32) : Met l yX12_pay (Cond.code yX12_pay cX12_pay 6 (some .int) :: tb) ({ frames := 2, cells := 0, slots := 0, locals := 46 } : Room) (va_Pc [.ref h, .int x1, .int x2] (cP G k [(h, .inr (12, [.ref (a 0), .ref (a 1), .ref (a 2), .ref (a 3), .int 0, .int 0, .int 0, .int 0, .int 0, .int 0, .int 0, .int (-1), .ref (a 4), .int 0, .int 0, .int 0, .int 0, .int 0, .int 0, .int 0, .int 0, .int 0, .int 0, .int 0, .ref (a 5), .ref (a 6), .ref (a 7), .ref (a 8), .ref (a 9), .ref (a 10), .ref (a 11), .ref (a 12), .ref (a 13), .ref (a 14), .ref (a 15), .ref (a 16), .ref (a 17), .ref (a 18), .ref (a 19), .ref (a 20), .ref (a 21), .ref (a 22), .ref (a 23), .ref (a 24), .ref (a 25), .ref (a 26), .ref (a 27), .ref (a 28), .ref (a 29), .ref (a 30), .int 0, .ref (a 31), .ref (a 32)]))] [] sz)) (va_Qi (fun (r : Int32) (_ : Unit) => (r = (-2))) (cB G (fun (_ : Unit) => []) (fun (_ : Unit) => []) (va_A [(h, .inr (12, [.ref (a 0), .ref (a 1), .ref (a 2), .ref (a 3), .int 0, .int 0, .int 0, .int 0, .int 0, .int 0, .int 0, .int (-1), .ref (a 4), .int 0, .int 0, .int 0, .int 0, .int 0, .int 0, .int 0, .int 0, .int 0, .int 0, .int 0, .ref (a 5), .ref (a 6), .ref (a 7), .ref (a 8), .ref (a 9), .ref (a 10), .ref (a 11), .ref (a 12), .ref (a 13), .ref (a 14), .ref (a 15), .ref (a 16), .ref (a 17), .ref (a 18), .ref (a 19), .ref (a 20), .ref (a 21), .ref (a 22), .ref (a 23), .ref (a 24), .ref (a 25), .ref (a 26), .ref (a 27), .ref (a 28), .ref (a 29), .ref (a 30), .int 0, .ref (a 31), .ref (a 32)]))] sz)) (va_A [(h, .inr (12, [.ref (a 0), .ref (a 1), .ref (a 2), .ref (a 3), .int 0, .int 0, .int 0, .int 0, .int 0, .int 0, .int 0, .int (-1), .ref (a 4), .int 0, .int 0, .int 0, .int 0, .int 0, .int 0, .int 0, .int 0, .int 0, .int 0, .int 0, .ref (a 5), .ref (a 6), .ref (a 7), .ref (a 8), .ref (a 9), .ref (a 10), .ref (a 11), .ref (a 12), .ref (a 13), .ref (a 14), .ref (a 15), .ref (a 16), .ref (a 17), .ref (a 18), .ref (a 19), .ref (a 20), .ref (a 21), .ref (a 22), .ref (a 23), .ref (a 24), .ref (a 25), .ref (a 26), .ref (a 27), .ref (a 28), .ref (a 29), .ref (a 30), .int 0, .ref (a 31), .ref (a 32)]))] sz)) 0 0 (va_A [(h, .inr (12, [.ref (a 0), .ref (a 1), .ref (a 2), .ref (a 3), .int 0, .int 0, .int 0, .int 0, .int 0, .int 0, .int 0, .int (-1), .ref (a 4), .int 0, .int 0, .int 0, .int 0, .int 0, .int 0, .int 0, .int 0, .int 0, .int 0, .int 0, .ref (a 5), .ref (a 6), .ref (a 7), .ref (a 8), .ref (a 9), .ref (a 10), .ref (a 11), .ref (a 12), .ref (a 13), .ref (a 14), .ref (a 15), .ref (a 16), .ref (a 17), .ref (a 18), .ref (a 19), .ref (a 20), .ref (a 21), .ref (a 22), .ref (a 23), .ref (a 24), .ref (a 25), .ref (a 26), .ref (a 27), .ref (a 28), .ref (a 29), .ref (a 30), .int 0, .ref (a 31), .ref (a 32)]))] sz) := by
  refine ofC_i (cc := cX12_pay) (maxL := 6) (ret := (some .int)) (by decide) rfl (Nat.le_of_ble_eq_true rfl) ?_
  intro p e s m args below meth c A ls Q F hr hin hlk St hl hQ
  have hx := F.1
  have hb := F.2.1
  have hl : lv_has ls 6 [(0, .ref h), (1, .int x1), (2, .int x2)] := hl
  have St : cS G k [(h, .inr (12, [.ref (a 0), .ref (a 1), .ref (a 2), .ref (a 3), .int 0, .int 0, .int 0, .int 0, .int 0, .int 0, .int 0, .int (-1), .ref (a 4), .int 0, .int 0, .int 0, .int 0, .int 0, .int 0, .int 0, .int 0, .int 0, .int 0, .int 0, .ref (a 5), .ref (a 6), .ref (a 7), .ref (a 8), .ref (a 9), .ref (a 10), .ref (a 11), .ref (a 12), .ref (a 13), .ref (a 14), .ref (a 15), .ref (a 16), .ref (a 17), .ref (a 18), .ref (a 19), .ref (a 20), .ref (a 21), .ref (a 22), .ref (a 23), .ref (a 24), .ref (a 25), .ref (a 26), .ref (a 27), .ref (a 28), .ref (a 29), .ref (a 30), .int 0, .ref (a 31), .ref (a 32)]))] [] A s s.heap [] := St
  refine lv_aload_n hx hb dX12_pay_0 rfl (lv_at hl 0 rfl) ?_
  refine lv_iload_n hx hb dX12_pay_1 rfl (lv_at hl 1 rfl) ?_
  refine cs_i St [0] [] (wc := [(h, .inr (12, [.ref (a 0), .ref (a 1), .ref (a 2), .ref (a 3), .int 0, .int 0, .int 0, .int 0, .int 0, .int 0, .int 0, .int (-1), .ref (a 4), .int 0, .int 0, .int 0, .int 0, .int 0, .int 0, .int 0, .int 0, .int 0, .int 0, .int 0, .ref (a 5), .ref (a 6), .ref (a 7), .ref (a 8), .ref (a 9), .ref (a 10), .ref (a 11), .ref (a 12), .ref (a 13), .ref (a 14), .ref (a 15), .ref (a 16), .ref (a 17), .ref (a 18), .ref (a 19), .ref (a 20), .ref (a 21), .ref (a 22), .ref (a 23), .ref (a 24), .ref (a 25), .ref (a 26), .ref (a 27), .ref (a 28), .ref (a 29), .ref (a 30), .int 0, .ref (a 31), .ref (a 32)]))]) (wr := []) rfl rfl (by decide) (by decide) (va_runV (As := [.int x1]) (rest := []) F (m_isPledge l G k _ h a x1) (cwVt F mf_X12_isPledge km_X12_243 rfl rfl ⟨Nat.le_of_ble_eq_true rfl, Nat.le_of_ble_eq_true rfl⟩) (cs_preV St [0] rfl (by decide) [] rfl (ci := 12) (q0 := 0) rfl rfl) rfl rfl hl.1 rfl (lv_room (Nat.le_of_ble_eq_true rfl)) dX12_pay_2 ⟨Nat.le_of_ble_eq_true rfl, Nat.le_of_ble_eq_true rfl⟩) (fun r_1 u_2 H locs hw St => ?_)
  try dsimp only at hw
  have z_3 := hw
  subst r_1
  have St : cS G k [(h, .inr (12, [.ref (a 0), .ref (a 1), .ref (a 2), .ref (a 3), .int 0, .int 0, .int 0, .int 0, .int 0, .int 0, .int 0, .int (-1), .ref (a 4), .int 0, .int 0, .int 0, .int 0, .int 0, .int 0, .int 0, .int 0, .int 0, .int 0, .int 0, .ref (a 5), .ref (a 6), .ref (a 7), .ref (a 8), .ref (a 9), .ref (a 10), .ref (a 11), .ref (a 12), .ref (a 13), .ref (a 14), .ref (a 15), .ref (a 16), .ref (a 17), .ref (a 18), .ref (a 19), .ref (a 20), .ref (a 21), .ref (a 22), .ref (a 23), .ref (a 24), .ref (a 25), .ref (a 26), .ref (a 27), .ref (a 28), .ref (a 29), .ref (a 30), .int 0, .ref (a 31), .ref (a 32)]))] [] A s H locs := St
  refine lv_if_eq (tgt := 20) hx hb dX12_pay_5 (by decide) (fun c5 => ?_) (fun c5 => ?_)
  rotate_left
  · exact absurd (by decide) c5
  refine lv_bipush (v := (-2)) hx hb dX12_pay_20 (by decide) ?_
  exact cs_iret F hr hlk hQ St () (r := (-2)) rfl [] rfl (by decide) [] rfl (by decide) (by decide) dX12_pay_22
set_option maxHeartbeats 4000000 in
set_option maxRecDepth 100000 in
theorem m_come (l : Launch) (G : va_G) (k : Nat → Nat) (sz : Nat) (h : Nat) (a : Nat → Nat) (d : Nat → ClassId) (x1 : Int32) (x2 : Int32) (hg : 0 ≤ x1.toInt ∧ x1.toInt ≤ 29) : Met l yX12_come (Cond.code yX12_come cX12_come 4 (some .int) :: tb) ({ frames := 1, cells := 0, slots := 0, locals := 23 } : Room) (va_Pc [.ref h, .int x1, .int x2] (cP G k [(h, .inr (12, [.ref (a 0), .ref (a 1), .ref (a 2), .ref (a 3), .int 0, .int 0, .int 0, .int 0, .int 0, .int 0, .int 0, .int (-1), .ref (a 4), .int 0, .int 0, .int 0, .int 0, .int 0, .int 0, .int 0, .int 0, .int 0, .int 0, .int 0, .ref (a 5), .ref (a 6), .ref (a 7), .ref (a 8), .ref (a 9), .ref (a 10), .ref (a 11), .ref (a 12), .ref (a 13), .ref (a 14), .ref (a 15), .ref (a 16), .ref (a 17), .ref (a 18), .ref (a 19), .ref (a 20), .ref (a 21), .ref (a 22), .ref (a 23), .ref (a 24), .ref (a 25), .ref (a 26), .ref (a 27), .ref (a 28), .ref (a 29), .ref (a 30), .int 0, .ref (a 31), .ref (a 32)])), ((a 22), .inl ((d 22), 250, .inl (fun _ => 0))), ((a 23), .inl ((d 23), 250, .inl (fun _ => 0))), ((a 24), .inl ((d 24), 250, .inl (fun _ => 0))), ((a 25), .inl ((d 25), 250, .inl (fun _ => 0))), ((a 7), .inl ((d 7), 30, .inl (fun _ => 0))), ((a 0), .inl ((d 0), 9, .inl untold))] [((d 22), .int), ((d 23), .int), ((d 24), .int), ((d 25), .boolean), ((d 7), .int), ((d 0), .int)] sz)) (va_Qi (fun (r : Int32) (_ : Unit) => (r = 0)) (cB G (fun (_ : Unit) => []) (fun (_ : Unit) => []) (va_A [(h, .inr (12, [.ref (a 0), .ref (a 1), .ref (a 2), .ref (a 3), .int 0, .int 0, .int 0, .int 0, .int 0, .int 0, .int 0, .int (-1), .ref (a 4), .int 0, .int 0, .int 0, .int 0, .int 0, .int 0, .int 0, .int 0, .int 0, .int 0, .int 0, .ref (a 5), .ref (a 6), .ref (a 7), .ref (a 8), .ref (a 9), .ref (a 10), .ref (a 11), .ref (a 12), .ref (a 13), .ref (a 14), .ref (a 15), .ref (a 16), .ref (a 17), .ref (a 18), .ref (a 19), .ref (a 20), .ref (a 21), .ref (a 22), .ref (a 23), .ref (a 24), .ref (a 25), .ref (a 26), .ref (a 27), .ref (a 28), .ref (a 29), .ref (a 30), .int 0, .ref (a 31), .ref (a 32)])), ((a 22), .inl ((d 22), 250, .inl (fun _ => 0))), ((a 23), .inl ((d 23), 250, .inl (fun _ => 0))), ((a 24), .inl ((d 24), 250, .inl (fun _ => 0))), ((a 25), .inl ((d 25), 250, .inl (fun _ => 0))), ((a 7), .inl ((d 7), 30, .inl (fun _ => 0))), ((a 0), .inl ((d 0), 9, .inl untold))] sz)) (va_A [(h, .inr (12, [.ref (a 0), .ref (a 1), .ref (a 2), .ref (a 3), .int 0, .int 0, .int 0, .int 0, .int 0, .int 0, .int 0, .int (-1), .ref (a 4), .int 0, .int 0, .int 0, .int 0, .int 0, .int 0, .int 0, .int 0, .int 0, .int 0, .int 0, .ref (a 5), .ref (a 6), .ref (a 7), .ref (a 8), .ref (a 9), .ref (a 10), .ref (a 11), .ref (a 12), .ref (a 13), .ref (a 14), .ref (a 15), .ref (a 16), .ref (a 17), .ref (a 18), .ref (a 19), .ref (a 20), .ref (a 21), .ref (a 22), .ref (a 23), .ref (a 24), .ref (a 25), .ref (a 26), .ref (a 27), .ref (a 28), .ref (a 29), .ref (a 30), .int 0, .ref (a 31), .ref (a 32)])), ((a 22), .inl ((d 22), 250, .inl (fun _ => 0))), ((a 23), .inl ((d 23), 250, .inl (fun _ => 0))), ((a 24), .inl ((d 24), 250, .inl (fun _ => 0))), ((a 25), .inl ((d 25), 250, .inl (fun _ => 0))), ((a 7), .inl ((d 7), 30, .inl (fun _ => 0))), ((a 0), .inl ((d 0), 9, .inl untold))] sz)) 0 0 (va_A [(h, .inr (12, [.ref (a 0), .ref (a 1), .ref (a 2), .ref (a 3), .int 0, .int 0, .int 0, .int 0, .int 0, .int 0, .int 0, .int (-1), .ref (a 4), .int 0, .int 0, .int 0, .int 0, .int 0, .int 0, .int 0, .int 0, .int 0, .int 0, .int 0, .ref (a 5), .ref (a 6), .ref (a 7), .ref (a 8), .ref (a 9), .ref (a 10), .ref (a 11), .ref (a 12), .ref (a 13), .ref (a 14), .ref (a 15), .ref (a 16), .ref (a 17), .ref (a 18), .ref (a 19), .ref (a 20), .ref (a 21), .ref (a 22), .ref (a 23), .ref (a 24), .ref (a 25), .ref (a 26), .ref (a 27), .ref (a 28), .ref (a 29), .ref (a 30), .int 0, .ref (a 31), .ref (a 32)])), ((a 22), .inl ((d 22), 250, .inl (fun _ => 0))), ((a 23), .inl ((d 23), 250, .inl (fun _ => 0))), ((a 24), .inl ((d 24), 250, .inl (fun _ => 0))), ((a 25), .inl ((d 25), 250, .inl (fun _ => 0))), ((a 7), .inl ((d 7), 30, .inl (fun _ => 0))), ((a 0), .inl ((d 0), 9, .inl untold))] sz) := by
  refine ofC_i (cc := cX12_come) (maxL := 4) (ret := (some .int)) (by decide) rfl (Nat.le_of_ble_eq_true rfl) ?_
  intro p e s m args below meth c A ls Q F hr hin hlk St hl hQ
  have hx := F.1
  have hb := F.2.1
  have hl : lv_has ls 4 [(0, .ref h), (1, .int x1), (2, .int x2)] := hl
  have St : cS G k [(h, .inr (12, [.ref (a 0), .ref (a 1), .ref (a 2), .ref (a 3), .int 0, .int 0, .int 0, .int 0, .int 0, .int 0, .int 0, .int (-1), .ref (a 4), .int 0, .int 0, .int 0, .int 0, .int 0, .int 0, .int 0, .int 0, .int 0, .int 0, .int 0, .ref (a 5), .ref (a 6), .ref (a 7), .ref (a 8), .ref (a 9), .ref (a 10), .ref (a 11), .ref (a 12), .ref (a 13), .ref (a 14), .ref (a 15), .ref (a 16), .ref (a 17), .ref (a 18), .ref (a 19), .ref (a 20), .ref (a 21), .ref (a 22), .ref (a 23), .ref (a 24), .ref (a 25), .ref (a 26), .ref (a 27), .ref (a 28), .ref (a 29), .ref (a 30), .int 0, .ref (a 31), .ref (a 32)])), ((a 22), .inl ((d 22), 250, .inl (fun _ => 0))), ((a 23), .inl ((d 23), 250, .inl (fun _ => 0))), ((a 24), .inl ((d 24), 250, .inl (fun _ => 0))), ((a 25), .inl ((d 25), 250, .inl (fun _ => 0))), ((a 7), .inl ((d 7), 30, .inl (fun _ => 0))), ((a 0), .inl ((d 0), 9, .inl untold))] [((d 22), .int), ((d 23), .int), ((d 24), .int), ((d 25), .boolean), ((d 7), .int), ((d 0), .int)] A s s.heap [] := St
  refine lv_aload_n hx hb dX12_come_0 rfl (lv_at hl 0 rfl) ?_
  refine cs_get F St 0 rfl rfl inX12 41 (by decide) kf_X12_171 rfl dX12_come_1 ?_
  refine lv_aload_n hx hb dX12_come_4 rfl (lv_at hl 0 rfl) ?_
  refine cs_get F St 0 rfl rfl inX12 21 (by decide) kf_X12_246 rfl dX12_come_5 ?_
  refine lv_iload_n hx hb dX12_come_8 rfl (lv_at hl 1 rfl) ?_
  refine cs_ist F St 1 0 rfl rfl (vp_in_iff.mpr (by decide)) (w' := [(h, .inr (12, [.ref (a 0), .ref (a 1), .ref (a 2), .ref (a 3), .int 0, .int 0, .int 0, .int 0, .int 0, .int 0, .int 0, .int (-1), .ref (a 4), .int 0, .int 0, .int 0, .int 0, .int 0, .int 0, .int 0, .int 0, .int 0, .int 0, .int 0, .ref (a 5), .ref (a 6), .ref (a 7), .ref (a 8), .ref (a 9), .ref (a 10), .ref (a 11), .ref (a 12), .ref (a 13), .ref (a 14), .ref (a 15), .ref (a 16), .ref (a 17), .ref (a 18), .ref (a 19), .ref (a 20), .ref (a 21), .ref (a 22), .ref (a 23), .ref (a 24), .ref (a 25), .ref (a 26), .ref (a 27), .ref (a 28), .ref (a 29), .ref (a 30), .int 0, .ref (a 31), .ref (a 32)])), ((a 22), .inl ((d 22), 250, .inl (upd (fun _ => 0) (0 : Int32).toNatClampNeg x1))), ((a 23), .inl ((d 23), 250, .inl (fun _ => 0))), ((a 24), .inl ((d 24), 250, .inl (fun _ => 0))), ((a 25), .inl ((d 25), 250, .inl (fun _ => 0))), ((a 7), .inl ((d 7), 30, .inl (fun _ => 0))), ((a 0), .inl ((d 0), 9, .inl untold))]) rfl dX12_come_9 (fun H locs St => ?_)
  obtain ⟨f_1, ef_1⟩ : ∃ zz : Nat → Int32, zz = upd (fun _ => 0) (0 : Int32).toNatClampNeg x1 := ⟨_, rfl⟩
  rw [← ef_1] at St
  refine lv_aload_n hx hb dX12_come_10 rfl (lv_at hl 0 rfl) ?_
  refine cs_get F St 0 rfl rfl inX12 42 (by decide) kf_X12_174 rfl dX12_come_11 ?_
  refine lv_aload_n hx hb dX12_come_14 rfl (lv_at hl 0 rfl) ?_
  refine cs_get F St 0 rfl rfl inX12 21 (by decide) kf_X12_246 rfl dX12_come_15 ?_
  refine lv_aload_n hx hb dX12_come_18 rfl (lv_at hl 0 rfl) ?_
  refine cs_get F St 0 rfl rfl inX12 13 (by decide) kf_X12_230 rfl dX12_come_19 ?_
  refine cs_ist F St 2 1 rfl rfl (vp_in_iff.mpr (by decide)) (w' := [(h, .inr (12, [.ref (a 0), .ref (a 1), .ref (a 2), .ref (a 3), .int 0, .int 0, .int 0, .int 0, .int 0, .int 0, .int 0, .int (-1), .ref (a 4), .int 0, .int 0, .int 0, .int 0, .int 0, .int 0, .int 0, .int 0, .int 0, .int 0, .int 0, .ref (a 5), .ref (a 6), .ref (a 7), .ref (a 8), .ref (a 9), .ref (a 10), .ref (a 11), .ref (a 12), .ref (a 13), .ref (a 14), .ref (a 15), .ref (a 16), .ref (a 17), .ref (a 18), .ref (a 19), .ref (a 20), .ref (a 21), .ref (a 22), .ref (a 23), .ref (a 24), .ref (a 25), .ref (a 26), .ref (a 27), .ref (a 28), .ref (a 29), .ref (a 30), .int 0, .ref (a 31), .ref (a 32)])), ((a 22), .inl ((d 22), 250, .inl f_1)), ((a 23), .inl ((d 23), 250, .inl (upd (fun _ => 0) (0 : Int32).toNatClampNeg 0))), ((a 24), .inl ((d 24), 250, .inl (fun _ => 0))), ((a 25), .inl ((d 25), 250, .inl (fun _ => 0))), ((a 7), .inl ((d 7), 30, .inl (fun _ => 0))), ((a 0), .inl ((d 0), 9, .inl untold))]) rfl dX12_come_22 (fun H locs St => ?_)
  obtain ⟨f_2, ef_2⟩ : ∃ zz : Nat → Int32, zz = upd (fun _ => 0) (0 : Int32).toNatClampNeg 0 := ⟨_, rfl⟩
  rw [← ef_2] at St
  refine lv_aload_n hx hb dX12_come_23 rfl (lv_at hl 0 rfl) ?_
  refine cs_get F St 0 rfl rfl inX12 43 (by decide) kf_X12_177 rfl dX12_come_24 ?_
  refine lv_aload_n hx hb dX12_come_27 rfl (lv_at hl 0 rfl) ?_
  refine cs_get F St 0 rfl rfl inX12 21 (by decide) kf_X12_246 rfl dX12_come_28 ?_
  refine lv_iload_n hx hb dX12_come_31 rfl (lv_at hl 2 rfl) ?_
  refine cs_ist F St 3 2 rfl rfl (vp_in_iff.mpr (by decide)) (w' := [(h, .inr (12, [.ref (a 0), .ref (a 1), .ref (a 2), .ref (a 3), .int 0, .int 0, .int 0, .int 0, .int 0, .int 0, .int 0, .int (-1), .ref (a 4), .int 0, .int 0, .int 0, .int 0, .int 0, .int 0, .int 0, .int 0, .int 0, .int 0, .int 0, .ref (a 5), .ref (a 6), .ref (a 7), .ref (a 8), .ref (a 9), .ref (a 10), .ref (a 11), .ref (a 12), .ref (a 13), .ref (a 14), .ref (a 15), .ref (a 16), .ref (a 17), .ref (a 18), .ref (a 19), .ref (a 20), .ref (a 21), .ref (a 22), .ref (a 23), .ref (a 24), .ref (a 25), .ref (a 26), .ref (a 27), .ref (a 28), .ref (a 29), .ref (a 30), .int 0, .ref (a 31), .ref (a 32)])), ((a 22), .inl ((d 22), 250, .inl f_1)), ((a 23), .inl ((d 23), 250, .inl f_2)), ((a 24), .inl ((d 24), 250, .inl (upd (fun _ => 0) (0 : Int32).toNatClampNeg x2))), ((a 25), .inl ((d 25), 250, .inl (fun _ => 0))), ((a 7), .inl ((d 7), 30, .inl (fun _ => 0))), ((a 0), .inl ((d 0), 9, .inl untold))]) rfl dX12_come_32 (fun H locs St => ?_)
  obtain ⟨f_3, ef_3⟩ : ∃ zz : Nat → Int32, zz = upd (fun _ => 0) (0 : Int32).toNatClampNeg x2 := ⟨_, rfl⟩
  rw [← ef_3] at St
  refine lv_aload_n hx hb dX12_come_33 rfl (lv_at hl 0 rfl) ?_
  refine cs_get F St 0 rfl rfl inX12 44 (by decide) kf_X12_180 rfl dX12_come_34 ?_
  refine lv_aload_n hx hb dX12_come_37 rfl (lv_at hl 0 rfl) ?_
  refine cs_get F St 0 rfl rfl inX12 21 (by decide) kf_X12_246 rfl dX12_come_38 ?_
  refine lv_iconst (v := 0) hx hb dX12_come_41 (by decide) ?_
  refine cs_zst F St 4 3 rfl rfl (vp_in_iff.mpr (by decide)) (w' := [(h, .inr (12, [.ref (a 0), .ref (a 1), .ref (a 2), .ref (a 3), .int 0, .int 0, .int 0, .int 0, .int 0, .int 0, .int 0, .int (-1), .ref (a 4), .int 0, .int 0, .int 0, .int 0, .int 0, .int 0, .int 0, .int 0, .int 0, .int 0, .int 0, .ref (a 5), .ref (a 6), .ref (a 7), .ref (a 8), .ref (a 9), .ref (a 10), .ref (a 11), .ref (a 12), .ref (a 13), .ref (a 14), .ref (a 15), .ref (a 16), .ref (a 17), .ref (a 18), .ref (a 19), .ref (a 20), .ref (a 21), .ref (a 22), .ref (a 23), .ref (a 24), .ref (a 25), .ref (a 26), .ref (a 27), .ref (a 28), .ref (a 29), .ref (a 30), .int 0, .ref (a 31), .ref (a 32)])), ((a 22), .inl ((d 22), 250, .inl f_1)), ((a 23), .inl ((d 23), 250, .inl f_2)), ((a 24), .inl ((d 24), 250, .inl f_3)), ((a 25), .inl ((d 25), 250, .inl (upd (fun _ => 0) (0 : Int32).toNatClampNeg (vp_nar .boolean 0)))), ((a 7), .inl ((d 7), 30, .inl (fun _ => 0))), ((a 0), .inl ((d 0), 9, .inl untold))]) rfl dX12_come_42 (fun H locs St => ?_)
  obtain ⟨f_4, ef_4⟩ : ∃ zz : Nat → Int32, zz = upd (fun _ => 0) (0 : Int32).toNatClampNeg (vp_nar .boolean 0) := ⟨_, rfl⟩
  rw [← ef_4] at St
  refine lv_aload_n hx hb dX12_come_43 rfl (lv_at hl 0 rfl) ?_
  refine lv_dup hx hb dX12_come_44 rfl ?_
  refine cs_get F St 0 rfl rfl inX12 21 (by decide) kf_X12_246 rfl dX12_come_45 ?_
  refine lv_iconst (v := 1) hx hb dX12_come_48 (by decide) ?_
  refine lv_iadd hx hb dX12_come_49 ?_
  refine top_i (y := 1) (by decide) ?_
  refine cs_put F St 0 rfl rfl inX12 tyX12_ok nmX12 21 (by decide) kf_X12_246 rfl rfl rfl (Nat.le_of_ble_eq_true rfl) (w' := [(h, .inr (12, [.ref (a 0), .ref (a 1), .ref (a 2), .ref (a 3), .int 0, .int 0, .int 0, .int 0, .int 0, .int 0, .int 0, .int (-1), .ref (a 4), .int 0, .int 0, .int 0, .int 0, .int 0, .int 0, .int 0, .int 0, .int 1, .int 0, .int 0, .ref (a 5), .ref (a 6), .ref (a 7), .ref (a 8), .ref (a 9), .ref (a 10), .ref (a 11), .ref (a 12), .ref (a 13), .ref (a 14), .ref (a 15), .ref (a 16), .ref (a 17), .ref (a 18), .ref (a 19), .ref (a 20), .ref (a 21), .ref (a 22), .ref (a 23), .ref (a 24), .ref (a 25), .ref (a 26), .ref (a 27), .ref (a 28), .ref (a 29), .ref (a 30), .int 0, .ref (a 31), .ref (a 32)])), ((a 22), .inl ((d 22), 250, .inl f_1)), ((a 23), .inl ((d 23), 250, .inl f_2)), ((a 24), .inl ((d 24), 250, .inl f_3)), ((a 25), .inl ((d 25), 250, .inl f_4)), ((a 7), .inl ((d 7), 30, .inl (fun _ => 0))), ((a 0), .inl ((d 0), 9, .inl untold))]) rfl dX12_come_50 (fun H locs St => ?_)
  refine lv_aload_n hx hb dX12_come_53 rfl (lv_at hl 0 rfl) ?_
  refine cs_get F St 0 rfl rfl inX12 26 (by decide) kf_X12_126 rfl dX12_come_54 ?_
  refine lv_iload_n hx hb dX12_come_57 rfl (lv_at hl 1 rfl) ?_
  refine lv_dup2_11 hx hb dX12_come_58 rfl rfl ?_
  refine cs_ild F St 5 4 rfl rfl (vp_in_iff.mpr ⟨by omega, by omega⟩) dX12_come_59 ?_
  refine top_i (y := 0) rfl ?_
  refine lv_iload_n hx hb dX12_come_60 rfl (lv_at hl 2 rfl) ?_
  refine lv_iadd hx hb dX12_come_61 ?_
  refine lv_topi (fun y_5 ey_5 => ?_)
  have jy_5 := ci_add (x := 0) (y := x2) (show (0 : Int32).toInt = 0 by decide) rfl ey_5
  refine cs_ist F St 5 4 rfl rfl (vp_in_iff.mpr ⟨by omega, by omega⟩) (w' := [(h, .inr (12, [.ref (a 0), .ref (a 1), .ref (a 2), .ref (a 3), .int 0, .int 0, .int 0, .int 0, .int 0, .int 0, .int 0, .int (-1), .ref (a 4), .int 0, .int 0, .int 0, .int 0, .int 0, .int 0, .int 0, .int 0, .int 1, .int 0, .int 0, .ref (a 5), .ref (a 6), .ref (a 7), .ref (a 8), .ref (a 9), .ref (a 10), .ref (a 11), .ref (a 12), .ref (a 13), .ref (a 14), .ref (a 15), .ref (a 16), .ref (a 17), .ref (a 18), .ref (a 19), .ref (a 20), .ref (a 21), .ref (a 22), .ref (a 23), .ref (a 24), .ref (a 25), .ref (a 26), .ref (a 27), .ref (a 28), .ref (a 29), .ref (a 30), .int 0, .ref (a 31), .ref (a 32)])), ((a 22), .inl ((d 22), 250, .inl f_1)), ((a 23), .inl ((d 23), 250, .inl f_2)), ((a 24), .inl ((d 24), 250, .inl f_3)), ((a 25), .inl ((d 25), 250, .inl f_4)), ((a 7), .inl ((d 7), 30, .inl (upd (fun _ => 0) (x1 : Int32).toNatClampNeg y_5))), ((a 0), .inl ((d 0), 9, .inl untold))]) rfl dX12_come_62 (fun H locs St => ?_)
  obtain ⟨f_6, ef_6⟩ : ∃ zz : Nat → Int32, zz = upd (fun _ => 0) (x1 : Int32).toNatClampNeg y_5 := ⟨_, rfl⟩
  rw [← ef_6] at St
  refine lv_aload_n hx hb dX12_come_63 rfl (lv_at hl 0 rfl) ?_
  refine cs_get F St 0 rfl rfl inX12 13 (by decide) kf_X12_230 rfl dX12_come_64 ?_
  refine lv_aload_n hx hb dX12_come_67 rfl (lv_at hl 0 rfl) ?_
  refine cs_get F St 0 rfl rfl inX12 0 (by decide) kf_X12_114 rfl dX12_come_68 ?_
  refine lv_iconst (v := 2) hx hb dX12_come_71 (by decide) ?_
  refine cs_ild F St 6 5 rfl rfl (vp_in_iff.mpr (by decide)) dX12_come_72 ?_
  refine top_i (y := 0) (by decide) ?_
  refine lv_icmp_le (tgt := 80) hx hb dX12_come_73 (by decide) (fun c73 => ?_) (fun c73 => ?_)
  rotate_left
  · exact absurd (by decide) c73
  refine lv_aload_n hx hb dX12_come_80 rfl (lv_at hl 0 rfl) ?_
  refine cs_get F St 0 rfl rfl inX12 0 (by decide) kf_X12_114 rfl dX12_come_81 ?_
  refine lv_iconst (v := 0) hx hb dX12_come_84 (by decide) ?_
  refine cs_ild F St 6 5 rfl rfl (vp_in_iff.mpr (by decide)) dX12_come_85 ?_
  refine top_i (y := 0) (by decide) ?_
  refine lv_i2l (v := 0) hx hb dX12_come_86 (by decide) ?_
  refine lv_iload_n hx hb dX12_come_87 rfl (lv_at hl 2 rfl) ?_
  refine lv_i2l (v := x2.toInt64) hx hb dX12_come_88 rfl ?_
  refine lv_lmul hx hb dX12_come_89 ?_
  refine top_l (y := 0) (by simp) ?_
  refine lv_ldc2 (v := 100) hx hb F.2.2.2.1 (F.2.2.2.2 _ kk_X12_249) dX12_come_90 ?_
  refine lv_ldiv hx hb dX12_come_93 (by decide) ?_
  refine top_l (y := 0) (by decide) ?_
  refine lv_l2i (v := 0) hx hb dX12_come_94 (by decide) ?_
  refine lv_istore_n (lv' := [(3, .int 0), (0, .ref h), (1, .int x1), (2, .int x2)]) hx hb dX12_come_95 rfl hl (by decide) rfl (fun ls hl => ?_)
  refine lv_iconst (v := 0) hx hb dX12_come_96 (by decide) ?_
  refine lv_iload_n hx hb dX12_come_97 rfl (lv_at hl 0 rfl) ?_
  refine lv_bipush (v := 100) hx hb dX12_come_98 (by decide) ?_
  refine lv_aload_n hx hb dX12_come_100 rfl (lv_at hl 1 rfl) ?_
  refine cs_get F St 0 rfl rfl inX12 0 (by decide) kf_X12_114 rfl dX12_come_101 ?_
  refine lv_iconst (v := 1) hx hb dX12_come_104 (by decide) ?_
  refine cs_ild F St 6 5 rfl rfl (vp_in_iff.mpr (by decide)) dX12_come_105 ?_
  refine top_i (y := 0) (by decide) ?_
  refine lv_imul hx hb dX12_come_106 ?_
  refine top_i (y := 0) (by decide) ?_
  refine lv_aload_n hx hb dX12_come_107 rfl (lv_at hl 1 rfl) ?_
  refine cs_get F St 0 rfl rfl inX12 16 (by decide) kf_X12_251 rfl dX12_come_108 ?_
  refine lv_isub hx hb dX12_come_111 ?_
  refine top_i (y := 0) (by decide) ?_
  refine va_mmin hx hb (F.2.2.1.trans hl.1.symm) F.2.2.2.1 (F.2.2.2.2 _ km_X12_254) (F.2.2.2.2 _ ks_J9_min_7cf53) (F.2.2.2.2 _ ki_J9) (F.2.2.2.2 _ kd_J9_min_7cf53) (Nat.le_of_ble_eq_true rfl) (Nat.le_of_ble_eq_true rfl) (Nat.le_of_ble_eq_true rfl) (Nat.le_of_ble_eq_true rfl) dX12_come_112 ?_
  refine top_i (y := 0) (by decide) ?_
  refine va_mmax hx hb (F.2.2.1.trans hl.1.symm) F.2.2.2.1 (F.2.2.2.2 _ km_X12_259) (F.2.2.2.2 _ ks_J9_max_7cf53) (F.2.2.2.2 _ ki_J9) (F.2.2.2.2 _ kd_J9_max_7cf53) (Nat.le_of_ble_eq_true rfl) (Nat.le_of_ble_eq_true rfl) (Nat.le_of_ble_eq_true rfl) (Nat.le_of_ble_eq_true rfl) dX12_come_115 ?_
  refine top_i (y := 0) (by decide) ?_
  refine lv_istore_n (lv' := [(3, .int 0), (0, .ref h), (1, .int x1), (2, .int x2)]) hx hb dX12_come_118 rfl hl (by decide) rfl (fun ls hl => ?_)
  refine lv_aload_n hx hb dX12_come_119 rfl (lv_at hl 1 rfl) ?_
  refine lv_dup hx hb dX12_come_120 rfl ?_
  refine cs_get F St 0 rfl rfl inX12 16 (by decide) kf_X12_251 rfl dX12_come_121 ?_
  refine lv_iload_n hx hb dX12_come_124 rfl (lv_at hl 0 rfl) ?_
  refine lv_iadd hx hb dX12_come_125 ?_
  refine top_i (y := 0) (by decide) ?_
  refine cs_put F St 0 rfl rfl inX12 tyX12_ok nmX12 16 (by decide) kf_X12_251 rfl rfl rfl (Nat.le_of_ble_eq_true rfl) (w' := [(h, .inr (12, [.ref (a 0), .ref (a 1), .ref (a 2), .ref (a 3), .int 0, .int 0, .int 0, .int 0, .int 0, .int 0, .int 0, .int (-1), .ref (a 4), .int 0, .int 0, .int 0, .int 0, .int 0, .int 0, .int 0, .int 0, .int 1, .int 0, .int 0, .ref (a 5), .ref (a 6), .ref (a 7), .ref (a 8), .ref (a 9), .ref (a 10), .ref (a 11), .ref (a 12), .ref (a 13), .ref (a 14), .ref (a 15), .ref (a 16), .ref (a 17), .ref (a 18), .ref (a 19), .ref (a 20), .ref (a 21), .ref (a 22), .ref (a 23), .ref (a 24), .ref (a 25), .ref (a 26), .ref (a 27), .ref (a 28), .ref (a 29), .ref (a 30), .int 0, .ref (a 31), .ref (a 32)])), ((a 22), .inl ((d 22), 250, .inl f_1)), ((a 23), .inl ((d 23), 250, .inl f_2)), ((a 24), .inl ((d 24), 250, .inl f_3)), ((a 25), .inl ((d 25), 250, .inl f_4)), ((a 7), .inl ((d 7), 30, .inl f_6)), ((a 0), .inl ((d 0), 9, .inl untold))]) rfl dX12_come_126 (fun H locs St => ?_)
  refine lv_aload_n hx hb dX12_come_129 rfl (lv_at hl 1 rfl) ?_
  refine lv_dup hx hb dX12_come_130 rfl ?_
  refine cs_get F St 0 rfl rfl inX12 14 (by decide) kf_X12_262 rfl dX12_come_131 ?_
  refine lv_iload_n hx hb dX12_come_134 rfl (lv_at hl 3 rfl) ?_
  refine lv_iload_n hx hb dX12_come_135 rfl (lv_at hl 0 rfl) ?_
  refine lv_iadd hx hb dX12_come_136 ?_
  refine lv_topi (fun y_7 ey_7 => ?_)
  have jy_7 := ci_add (x := x2) (y := 0) rfl (show (0 : Int32).toInt = 0 by decide) ey_7
  refine lv_iadd hx hb dX12_come_137 ?_
  refine lv_topi (fun y_8 ey_8 => ?_)
  have jy_8 := ci_add (x := 0) (y := y_7) (show (0 : Int32).toInt = 0 by decide) rfl ey_8
  refine cs_put F St 0 rfl rfl inX12 tyX12_ok nmX12 14 (by decide) kf_X12_262 rfl rfl rfl (Nat.le_of_ble_eq_true rfl) (w' := [(h, .inr (12, [.ref (a 0), .ref (a 1), .ref (a 2), .ref (a 3), .int 0, .int 0, .int 0, .int 0, .int 0, .int 0, .int 0, .int (-1), .ref (a 4), .int 0, .int y_8, .int 0, .int 0, .int 0, .int 0, .int 0, .int 0, .int 1, .int 0, .int 0, .ref (a 5), .ref (a 6), .ref (a 7), .ref (a 8), .ref (a 9), .ref (a 10), .ref (a 11), .ref (a 12), .ref (a 13), .ref (a 14), .ref (a 15), .ref (a 16), .ref (a 17), .ref (a 18), .ref (a 19), .ref (a 20), .ref (a 21), .ref (a 22), .ref (a 23), .ref (a 24), .ref (a 25), .ref (a 26), .ref (a 27), .ref (a 28), .ref (a 29), .ref (a 30), .int 0, .ref (a 31), .ref (a 32)])), ((a 22), .inl ((d 22), 250, .inl f_1)), ((a 23), .inl ((d 23), 250, .inl f_2)), ((a 24), .inl ((d 24), 250, .inl f_3)), ((a 25), .inl ((d 25), 250, .inl f_4)), ((a 7), .inl ((d 7), 30, .inl f_6)), ((a 0), .inl ((d 0), 9, .inl untold))]) rfl dX12_come_138 (fun H locs St => ?_)
  refine lv_iload_n hx hb dX12_come_141 rfl (lv_at hl 0 rfl) ?_
  exact cs_iret F hr hlk hQ St () (r := 0) rfl [] rfl (by decide) [] rfl (by decide) (by decide) dX12_come_142
set_option maxHeartbeats 4000000 in
set_option maxRecDepth 100000 in
theorem m_gift (l : Launch) (G : va_G) (k : Nat → Nat) (sz : Nat) (h : Nat) (a : Nat → Nat) (d : Nat → ClassId) (x1 : Int32) (x2 : Int32) : Met l yX12_gift (Cond.code yX12_gift cX12_gift 3 (some .int) :: tb) ({ frames := 2, cells := 0, slots := 0, locals := 46 } : Room) (va_Pc [.ref h, .int x1, .int x2] (cP G k [(h, .inr (12, [.ref (a 0), .ref (a 1), .ref (a 2), .ref (a 3), .int 0, .int 0, .int 0, .int 0, .int 0, .int 0, .int 0, .int (-1), .ref (a 4), .int 0, .int 0, .int 0, .int 0, .int 0, .int 0, .int 0, .int 0, .int 0, .int 0, .int 0, .ref (a 5), .ref (a 6), .ref (a 7), .ref (a 8), .ref (a 9), .ref (a 10), .ref (a 11), .ref (a 12), .ref (a 13), .ref (a 14), .ref (a 15), .ref (a 16), .ref (a 17), .ref (a 18), .ref (a 19), .ref (a 20), .ref (a 21), .ref (a 22), .ref (a 23), .ref (a 24), .ref (a 25), .ref (a 26), .ref (a 27), .ref (a 28), .ref (a 29), .ref (a 30), .int 0, .ref (a 31), .ref (a 32)])), ((a 22), .inl ((d 22), 250, .inl (fun _ => 0))), ((a 23), .inl ((d 23), 250, .inl (fun _ => 0))), ((a 24), .inl ((d 24), 250, .inl (fun _ => 0))), ((a 25), .inl ((d 25), 250, .inl (fun _ => 0))), ((a 7), .inl ((d 7), 30, .inl (fun _ => 0))), ((a 0), .inl ((d 0), 9, .inl untold))] [((d 22), .int), ((d 23), .int), ((d 24), .int), ((d 25), .boolean), ((d 7), .int), ((d 0), .int)] sz)) (va_Qi (fun (r : Int32) (_ : Unit) => ((r = 0) ∧ ((0 ≤ x1.toInt ∧ x1.toInt ≤ 29) ∧ 1 ≤ x2.toInt ∧ x2.toInt ≤ 5000000)) ∨ ((r = (-2)) ∧ (¬ ((0 ≤ x1.toInt ∧ x1.toInt ≤ 29) ∧ 1 ≤ x2.toInt ∧ x2.toInt ≤ 5000000)))) (cB G (fun (_ : Unit) => []) (fun (_ : Unit) => []) (va_A [(h, .inr (12, [.ref (a 0), .ref (a 1), .ref (a 2), .ref (a 3), .int 0, .int 0, .int 0, .int 0, .int 0, .int 0, .int 0, .int (-1), .ref (a 4), .int 0, .int 0, .int 0, .int 0, .int 0, .int 0, .int 0, .int 0, .int 0, .int 0, .int 0, .ref (a 5), .ref (a 6), .ref (a 7), .ref (a 8), .ref (a 9), .ref (a 10), .ref (a 11), .ref (a 12), .ref (a 13), .ref (a 14), .ref (a 15), .ref (a 16), .ref (a 17), .ref (a 18), .ref (a 19), .ref (a 20), .ref (a 21), .ref (a 22), .ref (a 23), .ref (a 24), .ref (a 25), .ref (a 26), .ref (a 27), .ref (a 28), .ref (a 29), .ref (a 30), .int 0, .ref (a 31), .ref (a 32)])), ((a 22), .inl ((d 22), 250, .inl (fun _ => 0))), ((a 23), .inl ((d 23), 250, .inl (fun _ => 0))), ((a 24), .inl ((d 24), 250, .inl (fun _ => 0))), ((a 25), .inl ((d 25), 250, .inl (fun _ => 0))), ((a 7), .inl ((d 7), 30, .inl (fun _ => 0))), ((a 0), .inl ((d 0), 9, .inl untold))] sz)) (va_A [(h, .inr (12, [.ref (a 0), .ref (a 1), .ref (a 2), .ref (a 3), .int 0, .int 0, .int 0, .int 0, .int 0, .int 0, .int 0, .int (-1), .ref (a 4), .int 0, .int 0, .int 0, .int 0, .int 0, .int 0, .int 0, .int 0, .int 0, .int 0, .int 0, .ref (a 5), .ref (a 6), .ref (a 7), .ref (a 8), .ref (a 9), .ref (a 10), .ref (a 11), .ref (a 12), .ref (a 13), .ref (a 14), .ref (a 15), .ref (a 16), .ref (a 17), .ref (a 18), .ref (a 19), .ref (a 20), .ref (a 21), .ref (a 22), .ref (a 23), .ref (a 24), .ref (a 25), .ref (a 26), .ref (a 27), .ref (a 28), .ref (a 29), .ref (a 30), .int 0, .ref (a 31), .ref (a 32)])), ((a 22), .inl ((d 22), 250, .inl (fun _ => 0))), ((a 23), .inl ((d 23), 250, .inl (fun _ => 0))), ((a 24), .inl ((d 24), 250, .inl (fun _ => 0))), ((a 25), .inl ((d 25), 250, .inl (fun _ => 0))), ((a 7), .inl ((d 7), 30, .inl (fun _ => 0))), ((a 0), .inl ((d 0), 9, .inl untold))] sz)) 0 0 (va_A [(h, .inr (12, [.ref (a 0), .ref (a 1), .ref (a 2), .ref (a 3), .int 0, .int 0, .int 0, .int 0, .int 0, .int 0, .int 0, .int (-1), .ref (a 4), .int 0, .int 0, .int 0, .int 0, .int 0, .int 0, .int 0, .int 0, .int 0, .int 0, .int 0, .ref (a 5), .ref (a 6), .ref (a 7), .ref (a 8), .ref (a 9), .ref (a 10), .ref (a 11), .ref (a 12), .ref (a 13), .ref (a 14), .ref (a 15), .ref (a 16), .ref (a 17), .ref (a 18), .ref (a 19), .ref (a 20), .ref (a 21), .ref (a 22), .ref (a 23), .ref (a 24), .ref (a 25), .ref (a 26), .ref (a 27), .ref (a 28), .ref (a 29), .ref (a 30), .int 0, .ref (a 31), .ref (a 32)])), ((a 22), .inl ((d 22), 250, .inl (fun _ => 0))), ((a 23), .inl ((d 23), 250, .inl (fun _ => 0))), ((a 24), .inl ((d 24), 250, .inl (fun _ => 0))), ((a 25), .inl ((d 25), 250, .inl (fun _ => 0))), ((a 7), .inl ((d 7), 30, .inl (fun _ => 0))), ((a 0), .inl ((d 0), 9, .inl untold))] sz) := by
  refine ofC_i (cc := cX12_gift) (maxL := 3) (ret := (some .int)) (by decide) rfl (Nat.le_of_ble_eq_true rfl) ?_
  intro p e s m args below meth c A ls Q F hr hin hlk St hl hQ
  have hx := F.1
  have hb := F.2.1
  have hl : lv_has ls 3 [(0, .ref h), (1, .int x1), (2, .int x2)] := hl
  have St : cS G k [(h, .inr (12, [.ref (a 0), .ref (a 1), .ref (a 2), .ref (a 3), .int 0, .int 0, .int 0, .int 0, .int 0, .int 0, .int 0, .int (-1), .ref (a 4), .int 0, .int 0, .int 0, .int 0, .int 0, .int 0, .int 0, .int 0, .int 0, .int 0, .int 0, .ref (a 5), .ref (a 6), .ref (a 7), .ref (a 8), .ref (a 9), .ref (a 10), .ref (a 11), .ref (a 12), .ref (a 13), .ref (a 14), .ref (a 15), .ref (a 16), .ref (a 17), .ref (a 18), .ref (a 19), .ref (a 20), .ref (a 21), .ref (a 22), .ref (a 23), .ref (a 24), .ref (a 25), .ref (a 26), .ref (a 27), .ref (a 28), .ref (a 29), .ref (a 30), .int 0, .ref (a 31), .ref (a 32)])), ((a 22), .inl ((d 22), 250, .inl (fun _ => 0))), ((a 23), .inl ((d 23), 250, .inl (fun _ => 0))), ((a 24), .inl ((d 24), 250, .inl (fun _ => 0))), ((a 25), .inl ((d 25), 250, .inl (fun _ => 0))), ((a 7), .inl ((d 7), 30, .inl (fun _ => 0))), ((a 0), .inl ((d 0), 9, .inl untold))] [((d 22), .int), ((d 23), .int), ((d 24), .int), ((d 25), .boolean), ((d 7), .int), ((d 0), .int)] A s s.heap [] := St
  refine lv_iload_n hx hb dX12_gift_0 rfl (lv_at hl 1 rfl) ?_
  refine cs_i St [] [0, 1, 2, 3, 4, 5, 6] (wc := []) (wr := [(h, .inr (12, [.ref (a 0), .ref (a 1), .ref (a 2), .ref (a 3), .int 0, .int 0, .int 0, .int 0, .int 0, .int 0, .int 0, .int (-1), .ref (a 4), .int 0, .int 0, .int 0, .int 0, .int 0, .int 0, .int 0, .int 0, .int 0, .int 0, .int 0, .ref (a 5), .ref (a 6), .ref (a 7), .ref (a 8), .ref (a 9), .ref (a 10), .ref (a 11), .ref (a 12), .ref (a 13), .ref (a 14), .ref (a 15), .ref (a 16), .ref (a 17), .ref (a 18), .ref (a 19), .ref (a 20), .ref (a 21), .ref (a 22), .ref (a 23), .ref (a 24), .ref (a 25), .ref (a 26), .ref (a 27), .ref (a 28), .ref (a 29), .ref (a 30), .int 0, .ref (a 31), .ref (a 32)])), ((a 22), .inl ((d 22), 250, .inl (fun _ => 0))), ((a 23), .inl ((d 23), 250, .inl (fun _ => 0))), ((a 24), .inl ((d 24), 250, .inl (fun _ => 0))), ((a 25), .inl ((d 25), 250, .inl (fun _ => 0))), ((a 7), .inl ((d 7), 30, .inl (fun _ => 0))), ((a 0), .inl ((d 0), 9, .inl untold))]) rfl rfl (by decide) (by decide) (va_runS (As := [.int x1]) (rest := []) F (c12_isGiver l G k _ x1) (cwSt F mf_X12_isGiver km_X12_218 rfl rfl ⟨Nat.le_of_ble_eq_true rfl, Nat.le_of_ble_eq_true rfl⟩) (cs_pre St [] rfl (by decide) [] rfl) rfl rfl hl.1 rfl (lv_room (Nat.le_of_ble_eq_true rfl)) dX12_gift_1 ⟨Nat.le_of_ble_eq_true rfl, Nat.le_of_ble_eq_true rfl⟩) (fun r_1 u_2 H locs hw St => ?_)
  try dsimp only at hw
  rcases hw with ⟨z_3, hf_4⟩ | ⟨z_5, hf_6⟩
  ·
    subst r_1
    have St : cS G k [(h, .inr (12, [.ref (a 0), .ref (a 1), .ref (a 2), .ref (a 3), .int 0, .int 0, .int 0, .int 0, .int 0, .int 0, .int 0, .int (-1), .ref (a 4), .int 0, .int 0, .int 0, .int 0, .int 0, .int 0, .int 0, .int 0, .int 0, .int 0, .int 0, .ref (a 5), .ref (a 6), .ref (a 7), .ref (a 8), .ref (a 9), .ref (a 10), .ref (a 11), .ref (a 12), .ref (a 13), .ref (a 14), .ref (a 15), .ref (a 16), .ref (a 17), .ref (a 18), .ref (a 19), .ref (a 20), .ref (a 21), .ref (a 22), .ref (a 23), .ref (a 24), .ref (a 25), .ref (a 26), .ref (a 27), .ref (a 28), .ref (a 29), .ref (a 30), .int 0, .ref (a 31), .ref (a 32)])), ((a 22), .inl ((d 22), 250, .inl (fun _ => 0))), ((a 23), .inl ((d 23), 250, .inl (fun _ => 0))), ((a 24), .inl ((d 24), 250, .inl (fun _ => 0))), ((a 25), .inl ((d 25), 250, .inl (fun _ => 0))), ((a 7), .inl ((d 7), 30, .inl (fun _ => 0))), ((a 0), .inl ((d 0), 9, .inl untold))] [((d 22), .int), ((d 23), .int), ((d 24), .int), ((d 25), .boolean), ((d 7), .int), ((d 0), .int)] A s H locs := St
    refine lv_if_eq (tgt := 19) hx hb dX12_gift_4 (by decide) (fun c4 => ?_) (fun c4 => ?_)
    · exact absurd c4 (by decide)
    refine lv_iload_n hx hb dX12_gift_7 rfl (lv_at hl 2 rfl) ?_
    refine lv_i2l (v := x2.toInt64) hx hb dX12_gift_8 rfl ?_
    refine lv_lconst (v := 1) hx hb dX12_gift_9 (by decide) ?_
    refine lv_ldc2 (v := 5000000) hx hb F.2.2.2.1 (F.2.2.2.2 _ kk_X12_265) dX12_gift_10 ?_
    refine cs_i St [] [0, 1, 2, 3, 4, 5, 6] (wc := []) (wr := [(h, .inr (12, [.ref (a 0), .ref (a 1), .ref (a 2), .ref (a 3), .int 0, .int 0, .int 0, .int 0, .int 0, .int 0, .int 0, .int (-1), .ref (a 4), .int 0, .int 0, .int 0, .int 0, .int 0, .int 0, .int 0, .int 0, .int 0, .int 0, .int 0, .ref (a 5), .ref (a 6), .ref (a 7), .ref (a 8), .ref (a 9), .ref (a 10), .ref (a 11), .ref (a 12), .ref (a 13), .ref (a 14), .ref (a 15), .ref (a 16), .ref (a 17), .ref (a 18), .ref (a 19), .ref (a 20), .ref (a 21), .ref (a 22), .ref (a 23), .ref (a 24), .ref (a 25), .ref (a 26), .ref (a 27), .ref (a 28), .ref (a 29), .ref (a 30), .int 0, .ref (a 31), .ref (a 32)])), ((a 22), .inl ((d 22), 250, .inl (fun _ => 0))), ((a 23), .inl ((d 23), 250, .inl (fun _ => 0))), ((a 24), .inl ((d 24), 250, .inl (fun _ => 0))), ((a 25), .inl ((d 25), 250, .inl (fun _ => 0))), ((a 7), .inl ((d 7), 30, .inl (fun _ => 0))), ((a 0), .inl ((d 0), 9, .inl untold))]) rfl rfl (by decide) (by decide) (va_runS (As := [.long x2.toInt64, .long 1, .long 5000000]) (rest := []) F (c12_in l G k _ x2.toInt64 1 5000000 x2.toInt 1 5000000 (Int32.toInt_toInt64 x2) (by decide) (by decide)) (cwSt F mf_X12_in km_X12_58 rfl rfl ⟨Nat.le_of_ble_eq_true rfl, Nat.le_of_ble_eq_true rfl⟩) (cs_pre St [] rfl (by decide) [] rfl) rfl rfl hl.1 rfl (lv_room (Nat.le_of_ble_eq_true rfl)) dX12_gift_13 ⟨Nat.le_of_ble_eq_true rfl, Nat.le_of_ble_eq_true rfl⟩) (fun r_7 u_8 H locs hw St => ?_)
    try dsimp only at hw
    rcases hw with ⟨z_9, hf_10⟩ | ⟨z_11, hf_12⟩
    ·
      subst r_7
      have St : cS G k [(h, .inr (12, [.ref (a 0), .ref (a 1), .ref (a 2), .ref (a 3), .int 0, .int 0, .int 0, .int 0, .int 0, .int 0, .int 0, .int (-1), .ref (a 4), .int 0, .int 0, .int 0, .int 0, .int 0, .int 0, .int 0, .int 0, .int 0, .int 0, .int 0, .ref (a 5), .ref (a 6), .ref (a 7), .ref (a 8), .ref (a 9), .ref (a 10), .ref (a 11), .ref (a 12), .ref (a 13), .ref (a 14), .ref (a 15), .ref (a 16), .ref (a 17), .ref (a 18), .ref (a 19), .ref (a 20), .ref (a 21), .ref (a 22), .ref (a 23), .ref (a 24), .ref (a 25), .ref (a 26), .ref (a 27), .ref (a 28), .ref (a 29), .ref (a 30), .int 0, .ref (a 31), .ref (a 32)])), ((a 22), .inl ((d 22), 250, .inl (fun _ => 0))), ((a 23), .inl ((d 23), 250, .inl (fun _ => 0))), ((a 24), .inl ((d 24), 250, .inl (fun _ => 0))), ((a 25), .inl ((d 25), 250, .inl (fun _ => 0))), ((a 7), .inl ((d 7), 30, .inl (fun _ => 0))), ((a 0), .inl ((d 0), 9, .inl untold))] [((d 22), .int), ((d 23), .int), ((d 24), .int), ((d 25), .boolean), ((d 7), .int), ((d 0), .int)] A s H locs := St
      refine lv_if_ne (tgt := 22) hx hb dX12_gift_16 (by decide) (fun c16 => ?_) (fun c16 => ?_)
      rotate_left
      · exact absurd c16 (by decide)
      refine lv_aload_n hx hb dX12_gift_22 rfl (lv_at hl 0 rfl) ?_
      refine cs_get F St 0 rfl rfl inX12 23 (by decide) kf_X12_224 rfl dX12_gift_23 ?_
      refine lv_if_eq (tgt := 32) hx hb dX12_gift_26 (by decide) (fun c26 => ?_) (fun c26 => ?_)
      rotate_left
      · exact absurd (by decide) c26
      refine lv_aload_n hx hb dX12_gift_32 rfl (lv_at hl 0 rfl) ?_
      refine cs_get F St 0 rfl rfl inX12 21 (by decide) kf_X12_246 rfl dX12_gift_33 ?_
      refine lv_sipush (v := 250) hx hb dX12_gift_36 (by decide) ?_
      refine lv_icmp_ne (tgt := 47) hx hb dX12_gift_39 (by decide) (fun c39 => ?_) (fun c39 => ?_)
      rotate_left
      · exact absurd c39 (by decide)
      refine lv_aload_n hx hb dX12_gift_47 rfl (lv_at hl 0 rfl) ?_
      refine lv_iload_n hx hb dX12_gift_48 rfl (lv_at hl 1 rfl) ?_
      refine lv_iload_n hx hb dX12_gift_49 rfl (lv_at hl 2 rfl) ?_
      refine cs_i St [0, 1, 2, 3, 4, 5, 6] [] (wc := [(h, .inr (12, [.ref (a 0), .ref (a 1), .ref (a 2), .ref (a 3), .int 0, .int 0, .int 0, .int 0, .int 0, .int 0, .int 0, .int (-1), .ref (a 4), .int 0, .int 0, .int 0, .int 0, .int 0, .int 0, .int 0, .int 0, .int 0, .int 0, .int 0, .ref (a 5), .ref (a 6), .ref (a 7), .ref (a 8), .ref (a 9), .ref (a 10), .ref (a 11), .ref (a 12), .ref (a 13), .ref (a 14), .ref (a 15), .ref (a 16), .ref (a 17), .ref (a 18), .ref (a 19), .ref (a 20), .ref (a 21), .ref (a 22), .ref (a 23), .ref (a 24), .ref (a 25), .ref (a 26), .ref (a 27), .ref (a 28), .ref (a 29), .ref (a 30), .int 0, .ref (a 31), .ref (a 32)])), ((a 22), .inl ((d 22), 250, .inl (fun _ => 0))), ((a 23), .inl ((d 23), 250, .inl (fun _ => 0))), ((a 24), .inl ((d 24), 250, .inl (fun _ => 0))), ((a 25), .inl ((d 25), 250, .inl (fun _ => 0))), ((a 7), .inl ((d 7), 30, .inl (fun _ => 0))), ((a 0), .inl ((d 0), 9, .inl untold))]) (wr := []) rfl rfl (by decide) (by decide) (va_runV (As := [.int x1, .int x2]) (rest := []) F (m_come l G k _ h a d x1 x2 (by omega)) (cwVt F mf_X12_come km_X12_270 rfl rfl ⟨Nat.le_of_ble_eq_true rfl, Nat.le_of_ble_eq_true rfl⟩) (cs_preV St [0, 1, 2, 3, 4, 5, 6] rfl (by decide) [0, 1, 2, 3, 4, 5] rfl (ci := 12) (q0 := 0) rfl rfl) rfl rfl hl.1 rfl (lv_room (Nat.le_of_ble_eq_true rfl)) dX12_gift_50 ⟨Nat.le_of_ble_eq_true rfl, Nat.le_of_ble_eq_true rfl⟩) (fun r_13 u_14 H locs hw St => ?_)
      try dsimp only at hw
      have z_15 := hw
      subst r_13
      have St : cS G k [] [((d 22), .int), ((d 23), .int), ((d 24), .int), ((d 25), .boolean), ((d 7), .int), ((d 0), .int)] A s H locs := St
      exact cs_iret F hr hlk hQ St () (r := 0) (Or.inl ⟨rfl, by omega⟩) [] rfl (by decide) [] rfl (by decide) (by decide) dX12_gift_53
    ·
      subst r_7
      have St : cS G k [(h, .inr (12, [.ref (a 0), .ref (a 1), .ref (a 2), .ref (a 3), .int 0, .int 0, .int 0, .int 0, .int 0, .int 0, .int 0, .int (-1), .ref (a 4), .int 0, .int 0, .int 0, .int 0, .int 0, .int 0, .int 0, .int 0, .int 0, .int 0, .int 0, .ref (a 5), .ref (a 6), .ref (a 7), .ref (a 8), .ref (a 9), .ref (a 10), .ref (a 11), .ref (a 12), .ref (a 13), .ref (a 14), .ref (a 15), .ref (a 16), .ref (a 17), .ref (a 18), .ref (a 19), .ref (a 20), .ref (a 21), .ref (a 22), .ref (a 23), .ref (a 24), .ref (a 25), .ref (a 26), .ref (a 27), .ref (a 28), .ref (a 29), .ref (a 30), .int 0, .ref (a 31), .ref (a 32)])), ((a 22), .inl ((d 22), 250, .inl (fun _ => 0))), ((a 23), .inl ((d 23), 250, .inl (fun _ => 0))), ((a 24), .inl ((d 24), 250, .inl (fun _ => 0))), ((a 25), .inl ((d 25), 250, .inl (fun _ => 0))), ((a 7), .inl ((d 7), 30, .inl (fun _ => 0))), ((a 0), .inl ((d 0), 9, .inl untold))] [((d 22), .int), ((d 23), .int), ((d 24), .int), ((d 25), .boolean), ((d 7), .int), ((d 0), .int)] A s H locs := St
      refine lv_if_ne (tgt := 22) hx hb dX12_gift_16 (by decide) (fun c16 => ?_) (fun c16 => ?_)
      · exact absurd c16 (by decide)
      refine lv_bipush (v := (-2)) hx hb dX12_gift_19 (by decide) ?_
      exact cs_iret F hr hlk hQ St () (r := (-2)) (Or.inr ⟨rfl, by omega⟩) [] rfl (by decide) [] rfl (by decide) (by decide) dX12_gift_21
  ·
    subst r_1
    have St : cS G k [(h, .inr (12, [.ref (a 0), .ref (a 1), .ref (a 2), .ref (a 3), .int 0, .int 0, .int 0, .int 0, .int 0, .int 0, .int 0, .int (-1), .ref (a 4), .int 0, .int 0, .int 0, .int 0, .int 0, .int 0, .int 0, .int 0, .int 0, .int 0, .int 0, .ref (a 5), .ref (a 6), .ref (a 7), .ref (a 8), .ref (a 9), .ref (a 10), .ref (a 11), .ref (a 12), .ref (a 13), .ref (a 14), .ref (a 15), .ref (a 16), .ref (a 17), .ref (a 18), .ref (a 19), .ref (a 20), .ref (a 21), .ref (a 22), .ref (a 23), .ref (a 24), .ref (a 25), .ref (a 26), .ref (a 27), .ref (a 28), .ref (a 29), .ref (a 30), .int 0, .ref (a 31), .ref (a 32)])), ((a 22), .inl ((d 22), 250, .inl (fun _ => 0))), ((a 23), .inl ((d 23), 250, .inl (fun _ => 0))), ((a 24), .inl ((d 24), 250, .inl (fun _ => 0))), ((a 25), .inl ((d 25), 250, .inl (fun _ => 0))), ((a 7), .inl ((d 7), 30, .inl (fun _ => 0))), ((a 0), .inl ((d 0), 9, .inl untold))] [((d 22), .int), ((d 23), .int), ((d 24), .int), ((d 25), .boolean), ((d 7), .int), ((d 0), .int)] A s H locs := St
    refine lv_if_eq (tgt := 19) hx hb dX12_gift_4 (by decide) (fun c4 => ?_) (fun c4 => ?_)
    rotate_left
    · exact absurd (by decide) c4
    refine lv_bipush (v := (-2)) hx hb dX12_gift_19 (by decide) ?_
    exact cs_iret F hr hlk hQ St () (r := (-2)) (Or.inr ⟨rfl, by omega⟩) [] rfl (by decide) [] rfl (by decide) (by decide) dX12_gift_21
set_option maxHeartbeats 4000000 in
set_option maxRecDepth 100000 in
theorem m_takeUp (l : Launch) (G : va_G) (k : Nat → Nat) (sz : Nat) (h : Nat) (a : Nat → Nat) (d : Nat → ClassId) (x1 : Int32) : Met l yX12_takeUp (Cond.code yX12_takeUp cX12_takeUp 3 (some .int) :: tb) ({ frames := 2, cells := 0, slots := 0, locals := 46 } : Room) (va_Pc [.ref h, .int x1] (cP G k [(h, .inr (12, [.ref (a 0), .ref (a 1), .ref (a 2), .ref (a 3), .int 0, .int 0, .int 0, .int 0, .int 0, .int 0, .int 0, .int (-1), .ref (a 4), .int 0, .int 0, .int 0, .int 0, .int 0, .int 0, .int 0, .int 0, .int 0, .int 0, .int 0, .ref (a 5), .ref (a 6), .ref (a 7), .ref (a 8), .ref (a 9), .ref (a 10), .ref (a 11), .ref (a 12), .ref (a 13), .ref (a 14), .ref (a 15), .ref (a 16), .ref (a 17), .ref (a 18), .ref (a 19), .ref (a 20), .ref (a 21), .ref (a 22), .ref (a 23), .ref (a 24), .ref (a 25), .ref (a 26), .ref (a 27), .ref (a 28), .ref (a 29), .ref (a 30), .int 0, .ref (a 31), .ref (a 32)]))] [] sz)) (va_Qi (fun (r : Int32) (_ : Unit) => (r = (-2))) (cB G (fun (_ : Unit) => []) (fun (_ : Unit) => []) (va_A [(h, .inr (12, [.ref (a 0), .ref (a 1), .ref (a 2), .ref (a 3), .int 0, .int 0, .int 0, .int 0, .int 0, .int 0, .int 0, .int (-1), .ref (a 4), .int 0, .int 0, .int 0, .int 0, .int 0, .int 0, .int 0, .int 0, .int 0, .int 0, .int 0, .ref (a 5), .ref (a 6), .ref (a 7), .ref (a 8), .ref (a 9), .ref (a 10), .ref (a 11), .ref (a 12), .ref (a 13), .ref (a 14), .ref (a 15), .ref (a 16), .ref (a 17), .ref (a 18), .ref (a 19), .ref (a 20), .ref (a 21), .ref (a 22), .ref (a 23), .ref (a 24), .ref (a 25), .ref (a 26), .ref (a 27), .ref (a 28), .ref (a 29), .ref (a 30), .int 0, .ref (a 31), .ref (a 32)]))] sz)) (va_A [(h, .inr (12, [.ref (a 0), .ref (a 1), .ref (a 2), .ref (a 3), .int 0, .int 0, .int 0, .int 0, .int 0, .int 0, .int 0, .int (-1), .ref (a 4), .int 0, .int 0, .int 0, .int 0, .int 0, .int 0, .int 0, .int 0, .int 0, .int 0, .int 0, .ref (a 5), .ref (a 6), .ref (a 7), .ref (a 8), .ref (a 9), .ref (a 10), .ref (a 11), .ref (a 12), .ref (a 13), .ref (a 14), .ref (a 15), .ref (a 16), .ref (a 17), .ref (a 18), .ref (a 19), .ref (a 20), .ref (a 21), .ref (a 22), .ref (a 23), .ref (a 24), .ref (a 25), .ref (a 26), .ref (a 27), .ref (a 28), .ref (a 29), .ref (a 30), .int 0, .ref (a 31), .ref (a 32)]))] sz)) 0 0 (va_A [(h, .inr (12, [.ref (a 0), .ref (a 1), .ref (a 2), .ref (a 3), .int 0, .int 0, .int 0, .int 0, .int 0, .int 0, .int 0, .int (-1), .ref (a 4), .int 0, .int 0, .int 0, .int 0, .int 0, .int 0, .int 0, .int 0, .int 0, .int 0, .int 0, .ref (a 5), .ref (a 6), .ref (a 7), .ref (a 8), .ref (a 9), .ref (a 10), .ref (a 11), .ref (a 12), .ref (a 13), .ref (a 14), .ref (a 15), .ref (a 16), .ref (a 17), .ref (a 18), .ref (a 19), .ref (a 20), .ref (a 21), .ref (a 22), .ref (a 23), .ref (a 24), .ref (a 25), .ref (a 26), .ref (a 27), .ref (a 28), .ref (a 29), .ref (a 30), .int 0, .ref (a 31), .ref (a 32)]))] sz) := by
  refine ofC_i (cc := cX12_takeUp) (maxL := 3) (ret := (some .int)) (by decide) rfl (Nat.le_of_ble_eq_true rfl) ?_
  intro p e s m args below meth c A ls Q F hr hin hlk St hl hQ
  have hx := F.1
  have hb := F.2.1
  have hl : lv_has ls 3 [(0, .ref h), (1, .int x1)] := hl
  have St : cS G k [(h, .inr (12, [.ref (a 0), .ref (a 1), .ref (a 2), .ref (a 3), .int 0, .int 0, .int 0, .int 0, .int 0, .int 0, .int 0, .int (-1), .ref (a 4), .int 0, .int 0, .int 0, .int 0, .int 0, .int 0, .int 0, .int 0, .int 0, .int 0, .int 0, .ref (a 5), .ref (a 6), .ref (a 7), .ref (a 8), .ref (a 9), .ref (a 10), .ref (a 11), .ref (a 12), .ref (a 13), .ref (a 14), .ref (a 15), .ref (a 16), .ref (a 17), .ref (a 18), .ref (a 19), .ref (a 20), .ref (a 21), .ref (a 22), .ref (a 23), .ref (a 24), .ref (a 25), .ref (a 26), .ref (a 27), .ref (a 28), .ref (a 29), .ref (a 30), .int 0, .ref (a 31), .ref (a 32)]))] [] A s s.heap [] := St
  refine lv_aload_n hx hb dX12_takeUp_0 rfl (lv_at hl 0 rfl) ?_
  refine lv_iload_n hx hb dX12_takeUp_1 rfl (lv_at hl 1 rfl) ?_
  refine cs_i St [0] [] (wc := [(h, .inr (12, [.ref (a 0), .ref (a 1), .ref (a 2), .ref (a 3), .int 0, .int 0, .int 0, .int 0, .int 0, .int 0, .int 0, .int (-1), .ref (a 4), .int 0, .int 0, .int 0, .int 0, .int 0, .int 0, .int 0, .int 0, .int 0, .int 0, .int 0, .ref (a 5), .ref (a 6), .ref (a 7), .ref (a 8), .ref (a 9), .ref (a 10), .ref (a 11), .ref (a 12), .ref (a 13), .ref (a 14), .ref (a 15), .ref (a 16), .ref (a 17), .ref (a 18), .ref (a 19), .ref (a 20), .ref (a 21), .ref (a 22), .ref (a 23), .ref (a 24), .ref (a 25), .ref (a 26), .ref (a 27), .ref (a 28), .ref (a 29), .ref (a 30), .int 0, .ref (a 31), .ref (a 32)]))]) (wr := []) rfl rfl (by decide) (by decide) (va_runV (As := [.int x1]) (rest := []) F (m_isPledge l G k _ h a x1) (cwVt F mf_X12_isPledge km_X12_243 rfl rfl ⟨Nat.le_of_ble_eq_true rfl, Nat.le_of_ble_eq_true rfl⟩) (cs_preV St [0] rfl (by decide) [] rfl (ci := 12) (q0 := 0) rfl rfl) rfl rfl hl.1 rfl (lv_room (Nat.le_of_ble_eq_true rfl)) dX12_takeUp_2 ⟨Nat.le_of_ble_eq_true rfl, Nat.le_of_ble_eq_true rfl⟩) (fun r_1 u_2 H locs hw St => ?_)
  try dsimp only at hw
  have z_3 := hw
  subst r_1
  have St : cS G k [(h, .inr (12, [.ref (a 0), .ref (a 1), .ref (a 2), .ref (a 3), .int 0, .int 0, .int 0, .int 0, .int 0, .int 0, .int 0, .int (-1), .ref (a 4), .int 0, .int 0, .int 0, .int 0, .int 0, .int 0, .int 0, .int 0, .int 0, .int 0, .int 0, .ref (a 5), .ref (a 6), .ref (a 7), .ref (a 8), .ref (a 9), .ref (a 10), .ref (a 11), .ref (a 12), .ref (a 13), .ref (a 14), .ref (a 15), .ref (a 16), .ref (a 17), .ref (a 18), .ref (a 19), .ref (a 20), .ref (a 21), .ref (a 22), .ref (a 23), .ref (a 24), .ref (a 25), .ref (a 26), .ref (a 27), .ref (a 28), .ref (a 29), .ref (a 30), .int 0, .ref (a 31), .ref (a 32)]))] [] A s H locs := St
  refine lv_if_ne (tgt := 11) hx hb dX12_takeUp_5 (by decide) (fun c5 => ?_) (fun c5 => ?_)
  · exact absurd c5 (by decide)
  refine lv_bipush (v := (-2)) hx hb dX12_takeUp_8 (by decide) ?_
  exact cs_iret F hr hlk hQ St () (r := (-2)) rfl [] rfl (by decide) [] rfl (by decide) (by decide) dX12_takeUp_10
set_option maxHeartbeats 4000000 in
set_option maxRecDepth 100000 in
theorem m_claim (l : Launch) (G : va_G) (k : Nat → Nat) (sz : Nat) (h : Nat) (a : Nat → Nat) (d : Nat → ClassId) : Met l yX12_claim (Cond.code yX12_claim cX12_claim 4 (some .int) :: tb) ({ frames := 0, cells := 0, slots := 0, locals := 0 } : Room) (va_Pc [.ref h] (cP G k [(h, .inr (12, [.ref (a 0), .ref (a 1), .ref (a 2), .ref (a 3), .int 0, .int 0, .int 0, .int 0, .int 0, .int 0, .int 0, .int (-1), .ref (a 4), .int 0, .int 0, .int 0, .int 0, .int 0, .int 0, .int 0, .int 0, .int 0, .int 0, .int 0, .ref (a 5), .ref (a 6), .ref (a 7), .ref (a 8), .ref (a 9), .ref (a 10), .ref (a 11), .ref (a 12), .ref (a 13), .ref (a 14), .ref (a 15), .ref (a 16), .ref (a 17), .ref (a 18), .ref (a 19), .ref (a 20), .ref (a 21), .ref (a 22), .ref (a 23), .ref (a 24), .ref (a 25), .ref (a 26), .ref (a 27), .ref (a 28), .ref (a 29), .ref (a 30), .int 0, .ref (a 31), .ref (a 32)]))] [] sz)) (va_Qi (fun (r : Int32) (_ : Unit) => (r = 0)) (cB G (fun (_ : Unit) => []) (fun (_ : Unit) => []) (va_A [(h, .inr (12, [.ref (a 0), .ref (a 1), .ref (a 2), .ref (a 3), .int 0, .int 0, .int 0, .int 0, .int 0, .int 0, .int 0, .int (-1), .ref (a 4), .int 0, .int 0, .int 0, .int 0, .int 0, .int 0, .int 0, .int 0, .int 0, .int 0, .int 0, .ref (a 5), .ref (a 6), .ref (a 7), .ref (a 8), .ref (a 9), .ref (a 10), .ref (a 11), .ref (a 12), .ref (a 13), .ref (a 14), .ref (a 15), .ref (a 16), .ref (a 17), .ref (a 18), .ref (a 19), .ref (a 20), .ref (a 21), .ref (a 22), .ref (a 23), .ref (a 24), .ref (a 25), .ref (a 26), .ref (a 27), .ref (a 28), .ref (a 29), .ref (a 30), .int 0, .ref (a 31), .ref (a 32)]))] sz)) (va_A [(h, .inr (12, [.ref (a 0), .ref (a 1), .ref (a 2), .ref (a 3), .int 0, .int 0, .int 0, .int 0, .int 0, .int 0, .int 0, .int (-1), .ref (a 4), .int 0, .int 0, .int 0, .int 0, .int 0, .int 0, .int 0, .int 0, .int 0, .int 0, .int 0, .ref (a 5), .ref (a 6), .ref (a 7), .ref (a 8), .ref (a 9), .ref (a 10), .ref (a 11), .ref (a 12), .ref (a 13), .ref (a 14), .ref (a 15), .ref (a 16), .ref (a 17), .ref (a 18), .ref (a 19), .ref (a 20), .ref (a 21), .ref (a 22), .ref (a 23), .ref (a 24), .ref (a 25), .ref (a 26), .ref (a 27), .ref (a 28), .ref (a 29), .ref (a 30), .int 0, .ref (a 31), .ref (a 32)]))] sz)) 0 0 (va_A [(h, .inr (12, [.ref (a 0), .ref (a 1), .ref (a 2), .ref (a 3), .int 0, .int 0, .int 0, .int 0, .int 0, .int 0, .int 0, .int (-1), .ref (a 4), .int 0, .int 0, .int 0, .int 0, .int 0, .int 0, .int 0, .int 0, .int 0, .int 0, .int 0, .ref (a 5), .ref (a 6), .ref (a 7), .ref (a 8), .ref (a 9), .ref (a 10), .ref (a 11), .ref (a 12), .ref (a 13), .ref (a 14), .ref (a 15), .ref (a 16), .ref (a 17), .ref (a 18), .ref (a 19), .ref (a 20), .ref (a 21), .ref (a 22), .ref (a 23), .ref (a 24), .ref (a 25), .ref (a 26), .ref (a 27), .ref (a 28), .ref (a 29), .ref (a 30), .int 0, .ref (a 31), .ref (a 32)]))] sz) := by
  refine ofC_i (cc := cX12_claim) (maxL := 4) (ret := (some .int)) (by decide) rfl (Nat.le_of_ble_eq_true rfl) ?_
  intro p e s m args below meth c A ls Q F hr hin hlk St hl hQ
  have hx := F.1
  have hb := F.2.1
  have hl : lv_has ls 4 [(0, .ref h)] := hl
  have St : cS G k [(h, .inr (12, [.ref (a 0), .ref (a 1), .ref (a 2), .ref (a 3), .int 0, .int 0, .int 0, .int 0, .int 0, .int 0, .int 0, .int (-1), .ref (a 4), .int 0, .int 0, .int 0, .int 0, .int 0, .int 0, .int 0, .int 0, .int 0, .int 0, .int 0, .ref (a 5), .ref (a 6), .ref (a 7), .ref (a 8), .ref (a 9), .ref (a 10), .ref (a 11), .ref (a 12), .ref (a 13), .ref (a 14), .ref (a 15), .ref (a 16), .ref (a 17), .ref (a 18), .ref (a 19), .ref (a 20), .ref (a 21), .ref (a 22), .ref (a 23), .ref (a 24), .ref (a 25), .ref (a 26), .ref (a 27), .ref (a 28), .ref (a 29), .ref (a 30), .int 0, .ref (a 31), .ref (a 32)]))] [] A s s.heap [] := St
  refine lv_aload_n hx hb dX12_claim_0 rfl (lv_at hl 0 rfl) ?_
  refine cs_get F St 0 rfl rfl inX12 23 (by decide) kf_X12_224 rfl dX12_claim_1 ?_
  refine lv_if_eq (tgt := 10) hx hb dX12_claim_4 (by decide) (fun c4 => ?_) (fun c4 => ?_)
  rotate_left
  · exact absurd (by decide) c4
  refine lv_iconst (v := 0) hx hb dX12_claim_10 (by decide) ?_
  refine lv_istore_n (lv' := [(1, .int 0), (0, .ref h)]) hx hb dX12_claim_11 rfl hl (by decide) rfl (fun ls hl => ?_)
  refine lv_iconst (v := 0) hx hb dX12_claim_12 (by decide) ?_
  refine lv_istore_n (lv' := [(2, .int 0), (1, .int 0), (0, .ref h)]) hx hb dX12_claim_13 rfl hl (by decide) rfl (fun ls hl => ?_)
  refine lv_iload_n hx hb dX12_claim_14 rfl (lv_at hl 0 rfl) ?_
  refine lv_aload_n hx hb dX12_claim_15 rfl (lv_at hl 2 rfl) ?_
  refine cs_get F St 0 rfl rfl inX12 21 (by decide) kf_X12_246 rfl dX12_claim_16 ?_
  refine lv_icmp_ge (tgt := 123) hx hb dX12_claim_19 (by decide) (fun c19 => ?_) (fun c19 => ?_)
  rotate_left
  · exact absurd (by decide) c19
  refine lv_aload_n hx hb dX12_claim_123 rfl (lv_at hl 2 rfl) ?_
  refine lv_dup hx hb dX12_claim_124 rfl ?_
  refine cs_get F St 0 rfl rfl inX12 17 (by decide) kf_X12_276 rfl dX12_claim_125 ?_
  refine lv_iload_n hx hb dX12_claim_128 rfl (lv_at hl 1 rfl) ?_
  refine lv_iadd hx hb dX12_claim_129 ?_
  refine top_i (y := 0) (by decide) ?_
  refine cs_put F St 0 rfl rfl inX12 tyX12_ok nmX12 17 (by decide) kf_X12_276 rfl rfl rfl (Nat.le_of_ble_eq_true rfl) (w' := [(h, .inr (12, [.ref (a 0), .ref (a 1), .ref (a 2), .ref (a 3), .int 0, .int 0, .int 0, .int 0, .int 0, .int 0, .int 0, .int (-1), .ref (a 4), .int 0, .int 0, .int 0, .int 0, .int 0, .int 0, .int 0, .int 0, .int 0, .int 0, .int 0, .ref (a 5), .ref (a 6), .ref (a 7), .ref (a 8), .ref (a 9), .ref (a 10), .ref (a 11), .ref (a 12), .ref (a 13), .ref (a 14), .ref (a 15), .ref (a 16), .ref (a 17), .ref (a 18), .ref (a 19), .ref (a 20), .ref (a 21), .ref (a 22), .ref (a 23), .ref (a 24), .ref (a 25), .ref (a 26), .ref (a 27), .ref (a 28), .ref (a 29), .ref (a 30), .int 0, .ref (a 31), .ref (a 32)]))]) rfl dX12_claim_130 (fun H locs St => ?_)
  refine lv_aload_n hx hb dX12_claim_133 rfl (lv_at hl 2 rfl) ?_
  refine lv_dup hx hb dX12_claim_134 rfl ?_
  refine cs_get F St 0 rfl rfl inX12 14 (by decide) kf_X12_262 rfl dX12_claim_135 ?_
  refine lv_iload_n hx hb dX12_claim_138 rfl (lv_at hl 1 rfl) ?_
  refine lv_iadd hx hb dX12_claim_139 ?_
  refine top_i (y := 0) (by decide) ?_
  refine cs_put F St 0 rfl rfl inX12 tyX12_ok nmX12 14 (by decide) kf_X12_262 rfl rfl rfl (Nat.le_of_ble_eq_true rfl) (w' := [(h, .inr (12, [.ref (a 0), .ref (a 1), .ref (a 2), .ref (a 3), .int 0, .int 0, .int 0, .int 0, .int 0, .int 0, .int 0, .int (-1), .ref (a 4), .int 0, .int 0, .int 0, .int 0, .int 0, .int 0, .int 0, .int 0, .int 0, .int 0, .int 0, .ref (a 5), .ref (a 6), .ref (a 7), .ref (a 8), .ref (a 9), .ref (a 10), .ref (a 11), .ref (a 12), .ref (a 13), .ref (a 14), .ref (a 15), .ref (a 16), .ref (a 17), .ref (a 18), .ref (a 19), .ref (a 20), .ref (a 21), .ref (a 22), .ref (a 23), .ref (a 24), .ref (a 25), .ref (a 26), .ref (a 27), .ref (a 28), .ref (a 29), .ref (a 30), .int 0, .ref (a 31), .ref (a 32)]))]) rfl dX12_claim_140 (fun H locs St => ?_)
  refine lv_iload_n hx hb dX12_claim_143 rfl (lv_at hl 1 rfl) ?_
  exact cs_iret F hr hlk hQ St () (r := 0) rfl [] rfl (by decide) [] rfl (by decide) (by decide) dX12_claim_144
set_option maxHeartbeats 4000000 in
set_option maxRecDepth 100000 in
theorem m_about (l : Launch) (G : va_G) (k : Nat → Nat) (sz : Nat) (h : Nat) (a : Nat → Nat) (d : Nat → ClassId) (x1 : Int32) (x2 : Int32) : Met l yX12_about (Cond.code yX12_about cX12_about 5 (some .int) :: tb) ({ frames := 2, cells := 0, slots := 0, locals := 46 } : Room) (va_Pc [.ref h, .int x1, .int x2] (cP G k [(h, .inr (12, [.ref (a 0), .ref (a 1), .ref (a 2), .ref (a 3), .int 0, .int 0, .int 0, .int 0, .int 0, .int 0, .int 0, .int (-1), .ref (a 4), .int 0, .int 0, .int 0, .int 0, .int 0, .int 0, .int 0, .int 0, .int 0, .int 0, .int 0, .ref (a 5), .ref (a 6), .ref (a 7), .ref (a 8), .ref (a 9), .ref (a 10), .ref (a 11), .ref (a 12), .ref (a 13), .ref (a 14), .ref (a 15), .ref (a 16), .ref (a 17), .ref (a 18), .ref (a 19), .ref (a 20), .ref (a 21), .ref (a 22), .ref (a 23), .ref (a 24), .ref (a 25), .ref (a 26), .ref (a 27), .ref (a 28), .ref (a 29), .ref (a 30), .int 0, .ref (a 31), .ref (a 32)]))] [] sz)) (va_Qi (fun (r : Int32) (_ : Unit) => (r = (-1))) (cB G (fun (_ : Unit) => []) (fun (_ : Unit) => []) (va_A [(h, .inr (12, [.ref (a 0), .ref (a 1), .ref (a 2), .ref (a 3), .int 0, .int 0, .int 0, .int 0, .int 0, .int 0, .int 0, .int (-1), .ref (a 4), .int 0, .int 0, .int 0, .int 0, .int 0, .int 0, .int 0, .int 0, .int 0, .int 0, .int 0, .ref (a 5), .ref (a 6), .ref (a 7), .ref (a 8), .ref (a 9), .ref (a 10), .ref (a 11), .ref (a 12), .ref (a 13), .ref (a 14), .ref (a 15), .ref (a 16), .ref (a 17), .ref (a 18), .ref (a 19), .ref (a 20), .ref (a 21), .ref (a 22), .ref (a 23), .ref (a 24), .ref (a 25), .ref (a 26), .ref (a 27), .ref (a 28), .ref (a 29), .ref (a 30), .int 0, .ref (a 31), .ref (a 32)]))] sz)) (va_A [(h, .inr (12, [.ref (a 0), .ref (a 1), .ref (a 2), .ref (a 3), .int 0, .int 0, .int 0, .int 0, .int 0, .int 0, .int 0, .int (-1), .ref (a 4), .int 0, .int 0, .int 0, .int 0, .int 0, .int 0, .int 0, .int 0, .int 0, .int 0, .int 0, .ref (a 5), .ref (a 6), .ref (a 7), .ref (a 8), .ref (a 9), .ref (a 10), .ref (a 11), .ref (a 12), .ref (a 13), .ref (a 14), .ref (a 15), .ref (a 16), .ref (a 17), .ref (a 18), .ref (a 19), .ref (a 20), .ref (a 21), .ref (a 22), .ref (a 23), .ref (a 24), .ref (a 25), .ref (a 26), .ref (a 27), .ref (a 28), .ref (a 29), .ref (a 30), .int 0, .ref (a 31), .ref (a 32)]))] sz)) 0 0 (va_A [(h, .inr (12, [.ref (a 0), .ref (a 1), .ref (a 2), .ref (a 3), .int 0, .int 0, .int 0, .int 0, .int 0, .int 0, .int 0, .int (-1), .ref (a 4), .int 0, .int 0, .int 0, .int 0, .int 0, .int 0, .int 0, .int 0, .int 0, .int 0, .int 0, .ref (a 5), .ref (a 6), .ref (a 7), .ref (a 8), .ref (a 9), .ref (a 10), .ref (a 11), .ref (a 12), .ref (a 13), .ref (a 14), .ref (a 15), .ref (a 16), .ref (a 17), .ref (a 18), .ref (a 19), .ref (a 20), .ref (a 21), .ref (a 22), .ref (a 23), .ref (a 24), .ref (a 25), .ref (a 26), .ref (a 27), .ref (a 28), .ref (a 29), .ref (a 30), .int 0, .ref (a 31), .ref (a 32)]))] sz) := by
  refine ofC_i (cc := cX12_about) (maxL := 5) (ret := (some .int)) (by decide) rfl (Nat.le_of_ble_eq_true rfl) ?_
  intro p e s m args below meth c A ls Q F hr hin hlk St hl hQ
  have hx := F.1
  have hb := F.2.1
  have hl : lv_has ls 5 [(0, .ref h), (1, .int x1), (2, .int x2)] := hl
  have St : cS G k [(h, .inr (12, [.ref (a 0), .ref (a 1), .ref (a 2), .ref (a 3), .int 0, .int 0, .int 0, .int 0, .int 0, .int 0, .int 0, .int (-1), .ref (a 4), .int 0, .int 0, .int 0, .int 0, .int 0, .int 0, .int 0, .int 0, .int 0, .int 0, .int 0, .ref (a 5), .ref (a 6), .ref (a 7), .ref (a 8), .ref (a 9), .ref (a 10), .ref (a 11), .ref (a 12), .ref (a 13), .ref (a 14), .ref (a 15), .ref (a 16), .ref (a 17), .ref (a 18), .ref (a 19), .ref (a 20), .ref (a 21), .ref (a 22), .ref (a 23), .ref (a 24), .ref (a 25), .ref (a 26), .ref (a 27), .ref (a 28), .ref (a 29), .ref (a 30), .int 0, .ref (a 31), .ref (a 32)]))] [] A s s.heap [] := St
  refine lv_aload_n hx hb dX12_about_0 rfl (lv_at hl 0 rfl) ?_
  refine lv_iload_n hx hb dX12_about_1 rfl (lv_at hl 1 rfl) ?_
  refine cs_i St [0] [] (wc := [(h, .inr (12, [.ref (a 0), .ref (a 1), .ref (a 2), .ref (a 3), .int 0, .int 0, .int 0, .int 0, .int 0, .int 0, .int 0, .int (-1), .ref (a 4), .int 0, .int 0, .int 0, .int 0, .int 0, .int 0, .int 0, .int 0, .int 0, .int 0, .int 0, .ref (a 5), .ref (a 6), .ref (a 7), .ref (a 8), .ref (a 9), .ref (a 10), .ref (a 11), .ref (a 12), .ref (a 13), .ref (a 14), .ref (a 15), .ref (a 16), .ref (a 17), .ref (a 18), .ref (a 19), .ref (a 20), .ref (a 21), .ref (a 22), .ref (a 23), .ref (a 24), .ref (a 25), .ref (a 26), .ref (a 27), .ref (a 28), .ref (a 29), .ref (a 30), .int 0, .ref (a 31), .ref (a 32)]))]) (wr := []) rfl rfl (by decide) (by decide) (va_runV (As := [.int x1]) (rest := []) F (m_isPledge l G k _ h a x1) (cwVt F mf_X12_isPledge km_X12_243 rfl rfl ⟨Nat.le_of_ble_eq_true rfl, Nat.le_of_ble_eq_true rfl⟩) (cs_preV St [0] rfl (by decide) [] rfl (ci := 12) (q0 := 0) rfl rfl) rfl rfl hl.1 rfl (lv_room (Nat.le_of_ble_eq_true rfl)) dX12_about_2 ⟨Nat.le_of_ble_eq_true rfl, Nat.le_of_ble_eq_true rfl⟩) (fun r_1 u_2 H locs hw St => ?_)
  try dsimp only at hw
  have z_3 := hw
  subst r_1
  have St : cS G k [(h, .inr (12, [.ref (a 0), .ref (a 1), .ref (a 2), .ref (a 3), .int 0, .int 0, .int 0, .int 0, .int 0, .int 0, .int 0, .int (-1), .ref (a 4), .int 0, .int 0, .int 0, .int 0, .int 0, .int 0, .int 0, .int 0, .int 0, .int 0, .int 0, .ref (a 5), .ref (a 6), .ref (a 7), .ref (a 8), .ref (a 9), .ref (a 10), .ref (a 11), .ref (a 12), .ref (a 13), .ref (a 14), .ref (a 15), .ref (a 16), .ref (a 17), .ref (a 18), .ref (a 19), .ref (a 20), .ref (a 21), .ref (a 22), .ref (a 23), .ref (a 24), .ref (a 25), .ref (a 26), .ref (a 27), .ref (a 28), .ref (a 29), .ref (a 30), .int 0, .ref (a 31), .ref (a 32)]))] [] A s H locs := St
  refine lv_if_ne (tgt := 10) hx hb dX12_about_5 (by decide) (fun c5 => ?_) (fun c5 => ?_)
  · exact absurd c5 (by decide)
  refine lv_iconst (v := (-1)) hx hb dX12_about_8 (by decide) ?_
  exact cs_iret F hr hlk hQ St () (r := (-1)) rfl [] rfl (by decide) [] rfl (by decide) (by decide) dX12_about_9
set_option maxHeartbeats 4000000 in
set_option maxRecDepth 100000 in
theorem m_giver (l : Launch) (G : va_G) (k : Nat → Nat) (sz : Nat) (h : Nat) (a : Nat → Nat) (d : Nat → ClassId) (x1 : Int32) (x2 : Int32) : Met l yX12_giver (Cond.code yX12_giver cX12_giver 5 (some .int) :: tb) ({ frames := 2, cells := 0, slots := 0, locals := 45 } : Room) (va_Pc [.ref h, .int x1, .int x2] (cP G k [(h, .inr (12, [.ref (a 0), .ref (a 1), .ref (a 2), .ref (a 3), .int 0, .int 0, .int 0, .int 0, .int 0, .int 0, .int 0, .int (-1), .ref (a 4), .int 0, .int 0, .int 0, .int 0, .int 0, .int 0, .int 0, .int 0, .int 0, .int 0, .int 0, .ref (a 5), .ref (a 6), .ref (a 7), .ref (a 8), .ref (a 9), .ref (a 10), .ref (a 11), .ref (a 12), .ref (a 13), .ref (a 14), .ref (a 15), .ref (a 16), .ref (a 17), .ref (a 18), .ref (a 19), .ref (a 20), .ref (a 21), .ref (a 22), .ref (a 23), .ref (a 24), .ref (a 25), .ref (a 26), .ref (a 27), .ref (a 28), .ref (a 29), .ref (a 30), .int 0, .ref (a 31), .ref (a 32)])), ((a 7), .inl ((d 7), 30, .inl (fun _ => 0))), ((a 5), .inl ((d 5), 30, .inl (minus 30))), ((a 6), .inl ((d 6), 30, .inl (minus 30))), ((a 9), .inl ((d 9), 30, .inl (fun _ => 0)))] [((d 7), .int), ((d 5), .int), ((d 6), .int), ((d 9), .boolean)] sz)) (va_Qi (fun (r : Int32) (_ : Unit) => ((r = 0) ∧ ((0 ≤ x1.toInt ∧ x1.toInt ≤ 29) ∧ (x2.toInt = 0 ∨ x2.toInt = 1 ∨ x2.toInt = 4))) ∨ ((r = (-1)) ∧ ((0 ≤ x1.toInt ∧ x1.toInt ≤ 29) ∧ (x2.toInt = 2 ∨ x2.toInt = 3))) ∨ ((r = (-2)) ∧ (¬ (0 ≤ x1.toInt ∧ x1.toInt ≤ 29) ∨ x2.toInt < 0 ∨ 4 < x2.toInt))) (cB G (fun (_ : Unit) => []) (fun (_ : Unit) => []) (va_A [(h, .inr (12, [.ref (a 0), .ref (a 1), .ref (a 2), .ref (a 3), .int 0, .int 0, .int 0, .int 0, .int 0, .int 0, .int 0, .int (-1), .ref (a 4), .int 0, .int 0, .int 0, .int 0, .int 0, .int 0, .int 0, .int 0, .int 0, .int 0, .int 0, .ref (a 5), .ref (a 6), .ref (a 7), .ref (a 8), .ref (a 9), .ref (a 10), .ref (a 11), .ref (a 12), .ref (a 13), .ref (a 14), .ref (a 15), .ref (a 16), .ref (a 17), .ref (a 18), .ref (a 19), .ref (a 20), .ref (a 21), .ref (a 22), .ref (a 23), .ref (a 24), .ref (a 25), .ref (a 26), .ref (a 27), .ref (a 28), .ref (a 29), .ref (a 30), .int 0, .ref (a 31), .ref (a 32)])), ((a 7), .inl ((d 7), 30, .inl (fun _ => 0))), ((a 5), .inl ((d 5), 30, .inl (minus 30))), ((a 6), .inl ((d 6), 30, .inl (minus 30))), ((a 9), .inl ((d 9), 30, .inl (fun _ => 0)))] sz)) (va_A [(h, .inr (12, [.ref (a 0), .ref (a 1), .ref (a 2), .ref (a 3), .int 0, .int 0, .int 0, .int 0, .int 0, .int 0, .int 0, .int (-1), .ref (a 4), .int 0, .int 0, .int 0, .int 0, .int 0, .int 0, .int 0, .int 0, .int 0, .int 0, .int 0, .ref (a 5), .ref (a 6), .ref (a 7), .ref (a 8), .ref (a 9), .ref (a 10), .ref (a 11), .ref (a 12), .ref (a 13), .ref (a 14), .ref (a 15), .ref (a 16), .ref (a 17), .ref (a 18), .ref (a 19), .ref (a 20), .ref (a 21), .ref (a 22), .ref (a 23), .ref (a 24), .ref (a 25), .ref (a 26), .ref (a 27), .ref (a 28), .ref (a 29), .ref (a 30), .int 0, .ref (a 31), .ref (a 32)])), ((a 7), .inl ((d 7), 30, .inl (fun _ => 0))), ((a 5), .inl ((d 5), 30, .inl (minus 30))), ((a 6), .inl ((d 6), 30, .inl (minus 30))), ((a 9), .inl ((d 9), 30, .inl (fun _ => 0)))] sz)) 0 0 (va_A [(h, .inr (12, [.ref (a 0), .ref (a 1), .ref (a 2), .ref (a 3), .int 0, .int 0, .int 0, .int 0, .int 0, .int 0, .int 0, .int (-1), .ref (a 4), .int 0, .int 0, .int 0, .int 0, .int 0, .int 0, .int 0, .int 0, .int 0, .int 0, .int 0, .ref (a 5), .ref (a 6), .ref (a 7), .ref (a 8), .ref (a 9), .ref (a 10), .ref (a 11), .ref (a 12), .ref (a 13), .ref (a 14), .ref (a 15), .ref (a 16), .ref (a 17), .ref (a 18), .ref (a 19), .ref (a 20), .ref (a 21), .ref (a 22), .ref (a 23), .ref (a 24), .ref (a 25), .ref (a 26), .ref (a 27), .ref (a 28), .ref (a 29), .ref (a 30), .int 0, .ref (a 31), .ref (a 32)])), ((a 7), .inl ((d 7), 30, .inl (fun _ => 0))), ((a 5), .inl ((d 5), 30, .inl (minus 30))), ((a 6), .inl ((d 6), 30, .inl (minus 30))), ((a 9), .inl ((d 9), 30, .inl (fun _ => 0)))] sz) := by
  refine ofC_i (cc := cX12_giver) (maxL := 5) (ret := (some .int)) (by decide) rfl (Nat.le_of_ble_eq_true rfl) ?_
  intro p e s m args below meth c A ls Q F hr hin hlk St hl hQ
  have hx := F.1
  have hb := F.2.1
  have hl : lv_has ls 5 [(0, .ref h), (1, .int x1), (2, .int x2)] := hl
  have St : cS G k [(h, .inr (12, [.ref (a 0), .ref (a 1), .ref (a 2), .ref (a 3), .int 0, .int 0, .int 0, .int 0, .int 0, .int 0, .int 0, .int (-1), .ref (a 4), .int 0, .int 0, .int 0, .int 0, .int 0, .int 0, .int 0, .int 0, .int 0, .int 0, .int 0, .ref (a 5), .ref (a 6), .ref (a 7), .ref (a 8), .ref (a 9), .ref (a 10), .ref (a 11), .ref (a 12), .ref (a 13), .ref (a 14), .ref (a 15), .ref (a 16), .ref (a 17), .ref (a 18), .ref (a 19), .ref (a 20), .ref (a 21), .ref (a 22), .ref (a 23), .ref (a 24), .ref (a 25), .ref (a 26), .ref (a 27), .ref (a 28), .ref (a 29), .ref (a 30), .int 0, .ref (a 31), .ref (a 32)])), ((a 7), .inl ((d 7), 30, .inl (fun _ => 0))), ((a 5), .inl ((d 5), 30, .inl (minus 30))), ((a 6), .inl ((d 6), 30, .inl (minus 30))), ((a 9), .inl ((d 9), 30, .inl (fun _ => 0)))] [((d 7), .int), ((d 5), .int), ((d 6), .int), ((d 9), .boolean)] A s s.heap [] := St
  refine lv_iload_n hx hb dX12_giver_0 rfl (lv_at hl 1 rfl) ?_
  refine cs_i St [] [0, 1, 2, 3, 4] (wc := []) (wr := [(h, .inr (12, [.ref (a 0), .ref (a 1), .ref (a 2), .ref (a 3), .int 0, .int 0, .int 0, .int 0, .int 0, .int 0, .int 0, .int (-1), .ref (a 4), .int 0, .int 0, .int 0, .int 0, .int 0, .int 0, .int 0, .int 0, .int 0, .int 0, .int 0, .ref (a 5), .ref (a 6), .ref (a 7), .ref (a 8), .ref (a 9), .ref (a 10), .ref (a 11), .ref (a 12), .ref (a 13), .ref (a 14), .ref (a 15), .ref (a 16), .ref (a 17), .ref (a 18), .ref (a 19), .ref (a 20), .ref (a 21), .ref (a 22), .ref (a 23), .ref (a 24), .ref (a 25), .ref (a 26), .ref (a 27), .ref (a 28), .ref (a 29), .ref (a 30), .int 0, .ref (a 31), .ref (a 32)])), ((a 7), .inl ((d 7), 30, .inl (fun _ => 0))), ((a 5), .inl ((d 5), 30, .inl (minus 30))), ((a 6), .inl ((d 6), 30, .inl (minus 30))), ((a 9), .inl ((d 9), 30, .inl (fun _ => 0)))]) rfl rfl (by decide) (by decide) (va_runS (As := [.int x1]) (rest := []) F (c12_isGiver l G k _ x1) (cwSt F mf_X12_isGiver km_X12_218 rfl rfl ⟨Nat.le_of_ble_eq_true rfl, Nat.le_of_ble_eq_true rfl⟩) (cs_pre St [] rfl (by decide) [] rfl) rfl rfl hl.1 rfl (lv_room (Nat.le_of_ble_eq_true rfl)) dX12_giver_1 ⟨Nat.le_of_ble_eq_true rfl, Nat.le_of_ble_eq_true rfl⟩) (fun r_1 u_2 H locs hw St => ?_)
  try dsimp only at hw
  rcases hw with ⟨z_3, hf_4⟩ | ⟨z_5, hf_6⟩
  ·
    subst r_1
    have St : cS G k [(h, .inr (12, [.ref (a 0), .ref (a 1), .ref (a 2), .ref (a 3), .int 0, .int 0, .int 0, .int 0, .int 0, .int 0, .int 0, .int (-1), .ref (a 4), .int 0, .int 0, .int 0, .int 0, .int 0, .int 0, .int 0, .int 0, .int 0, .int 0, .int 0, .ref (a 5), .ref (a 6), .ref (a 7), .ref (a 8), .ref (a 9), .ref (a 10), .ref (a 11), .ref (a 12), .ref (a 13), .ref (a 14), .ref (a 15), .ref (a 16), .ref (a 17), .ref (a 18), .ref (a 19), .ref (a 20), .ref (a 21), .ref (a 22), .ref (a 23), .ref (a 24), .ref (a 25), .ref (a 26), .ref (a 27), .ref (a 28), .ref (a 29), .ref (a 30), .int 0, .ref (a 31), .ref (a 32)])), ((a 7), .inl ((d 7), 30, .inl (fun _ => 0))), ((a 5), .inl ((d 5), 30, .inl (minus 30))), ((a 6), .inl ((d 6), 30, .inl (minus 30))), ((a 9), .inl ((d 9), 30, .inl (fun _ => 0)))] [((d 7), .int), ((d 5), .int), ((d 6), .int), ((d 9), .boolean)] A s H locs := St
    refine lv_if_ne (tgt := 10) hx hb dX12_giver_4 (by decide) (fun c4 => ?_) (fun c4 => ?_)
    rotate_left
    · exact absurd c4 (by decide)
    refine lv_iload_n hx hb dX12_giver_10 rfl (lv_at hl 2 rfl) ?_
    by_cases w11_0 : x2 = 0
    ·
      subst w11_0
      refine lv_tableIn (tgt := 44) (off := 33) hx hb dX12_giver_11 (by decide) (by decide) (by decide) (by decide) ?_
      refine lv_aload_n hx hb dX12_giver_44 rfl (lv_at hl 0 rfl) ?_
      refine cs_get F St 0 rfl rfl inX12 26 (by decide) kf_X12_126 rfl dX12_giver_45 ?_
      refine lv_iload_n hx hb dX12_giver_48 rfl (lv_at hl 1 rfl) ?_
      refine cs_ild F St 1 0 rfl rfl (vp_in_iff.mpr ⟨by omega, by omega⟩) dX12_giver_49 ?_
      refine top_i (y := 0) rfl ?_
      exact cs_iret F hr hlk hQ St () (r := 0) (Or.inl ⟨rfl, by rw [show (0 : Int32).toInt = 0 from by decide]; omega⟩) [] rfl (by decide) [] rfl (by decide) (by decide) dX12_giver_50
    by_cases w11_1 : x2 = 1
    ·
      subst w11_1
      refine lv_tableIn (tgt := 51) (off := 40) hx hb dX12_giver_11 (by decide) (by decide) (by decide) (by decide) ?_
      refine lv_iconst (v := 0) hx hb dX12_giver_51 (by decide) ?_
      refine lv_istore_n (lv' := [(3, .int 0), (0, .ref h), (1, .int x1), (2, .int 1)]) hx hb dX12_giver_52 rfl hl (by decide) rfl (fun ls hl => ?_)
      refine lv_iconst (v := 0) hx hb dX12_giver_53 (by decide) ?_
      refine lv_istore (lv' := [(4, .int 0), (3, .int 0), (0, .ref h), (1, .int x1), (2, .int 1)]) hx hb dX12_giver_54 hl (by decide) rfl (fun ls hl => ?_)
      refine lv_iload hx hb dX12_giver_56 (lv_at hl 0 rfl) ?_
      refine lv_aload_n hx hb dX12_giver_58 rfl (lv_at hl 2 rfl) ?_
      refine cs_get F St 0 rfl rfl inX12 21 (by decide) kf_X12_246 rfl dX12_giver_59 ?_
      refine lv_icmp_ge (tgt := 106) hx hb dX12_giver_62 (by decide) (fun c62 => ?_) (fun c62 => ?_)
      rotate_left
      · exact absurd (by decide) c62
      refine lv_iload_n hx hb dX12_giver_106 rfl (lv_at hl 1 rfl) ?_
      exact cs_iret F hr hlk hQ St () (r := 0) (Or.inl ⟨rfl, by rw [show (1 : Int32).toInt = 1 from by decide]; omega⟩) [] rfl (by decide) [] rfl (by decide) (by decide) dX12_giver_107
    by_cases w11_2 : x2 = 2
    ·
      subst w11_2
      refine lv_tableIn (tgt := 108) (off := 97) hx hb dX12_giver_11 (by decide) (by decide) (by decide) (by decide) ?_
      refine lv_aload_n hx hb dX12_giver_108 rfl (lv_at hl 0 rfl) ?_
      refine cs_get F St 0 rfl rfl inX12 24 (by decide) kf_X12_120 rfl dX12_giver_109 ?_
      refine lv_iload_n hx hb dX12_giver_112 rfl (lv_at hl 1 rfl) ?_
      refine cs_ild F St 2 1 rfl rfl (vp_in_iff.mpr ⟨by omega, by omega⟩) dX12_giver_113 ?_
      refine top_i (y := (-1)) (minus_at (by omega) (by omega)) ?_
      exact cs_iret F hr hlk hQ St () (r := (-1)) (Or.inr (Or.inl ⟨rfl, by rw [show (2 : Int32).toInt = 2 from by decide]; omega⟩)) [] rfl (by decide) [] rfl (by decide) (by decide) dX12_giver_114
    by_cases w11_3 : x2 = 3
    ·
      subst w11_3
      refine lv_tableIn (tgt := 115) (off := 104) hx hb dX12_giver_11 (by decide) (by decide) (by decide) (by decide) ?_
      refine lv_aload_n hx hb dX12_giver_115 rfl (lv_at hl 0 rfl) ?_
      refine cs_get F St 0 rfl rfl inX12 25 (by decide) kf_X12_123 rfl dX12_giver_116 ?_
      refine lv_iload_n hx hb dX12_giver_119 rfl (lv_at hl 1 rfl) ?_
      refine cs_ild F St 3 2 rfl rfl (vp_in_iff.mpr ⟨by omega, by omega⟩) dX12_giver_120 ?_
      refine top_i (y := (-1)) (minus_at (by omega) (by omega)) ?_
      exact cs_iret F hr hlk hQ St () (r := (-1)) (Or.inr (Or.inl ⟨rfl, by rw [show (3 : Int32).toInt = 3 from by decide]; omega⟩)) [] rfl (by decide) [] rfl (by decide) (by decide) dX12_giver_121
    by_cases w11_4 : x2 = 4
    ·
      subst w11_4
      refine lv_tableIn (tgt := 122) (off := 111) hx hb dX12_giver_11 (by decide) (by decide) (by decide) (by decide) ?_
      refine lv_aload_n hx hb dX12_giver_122 rfl (lv_at hl 0 rfl) ?_
      refine cs_get F St 0 rfl rfl inX12 28 (by decide) kf_X12_132 rfl dX12_giver_123 ?_
      refine lv_iload_n hx hb dX12_giver_126 rfl (lv_at hl 1 rfl) ?_
      refine cs_zld F St 4 3 rfl rfl (vp_in_iff.mpr ⟨by omega, by omega⟩) dX12_giver_127 ?_
      refine top_i (y := 0) rfl ?_
      refine lv_if_eq (tgt := 135) hx hb dX12_giver_128 (by decide) (fun c128 => ?_) (fun c128 => ?_)
      rotate_left
      · exact absurd (by decide) c128
      refine lv_iconst (v := 0) hx hb dX12_giver_135 (by decide) ?_
      exact cs_iret F hr hlk hQ St () (r := 0) (Or.inl ⟨rfl, by rw [show (4 : Int32).toInt = 4 from by decide]; omega⟩) [] rfl (by decide) [] rfl (by decide) (by decide) dX12_giver_136
    have iw11_0 := lv_neT w11_0 (show (0 : Int32).toInt = 0 by decide)
    have iw11_1 := lv_neT w11_1 (show (1 : Int32).toInt = 1 by decide)
    have iw11_2 := lv_neT w11_2 (show (2 : Int32).toInt = 2 by decide)
    have iw11_3 := lv_neT w11_3 (show (3 : Int32).toInt = 3 by decide)
    have iw11_4 := lv_neT w11_4 (show (4 : Int32).toInt = 4 by decide)
    refine lv_tableOut (tgt := 137) hx hb dX12_giver_11 (by omega) (by decide) ?_
    refine lv_bipush (v := (-2)) hx hb dX12_giver_137 (by decide) ?_
    exact cs_iret F hr hlk hQ St () (r := (-2)) (Or.inr (Or.inr ⟨rfl, by omega⟩)) [] rfl (by decide) [] rfl (by decide) (by decide) dX12_giver_139
  ·
    subst r_1
    have St : cS G k [(h, .inr (12, [.ref (a 0), .ref (a 1), .ref (a 2), .ref (a 3), .int 0, .int 0, .int 0, .int 0, .int 0, .int 0, .int 0, .int (-1), .ref (a 4), .int 0, .int 0, .int 0, .int 0, .int 0, .int 0, .int 0, .int 0, .int 0, .int 0, .int 0, .ref (a 5), .ref (a 6), .ref (a 7), .ref (a 8), .ref (a 9), .ref (a 10), .ref (a 11), .ref (a 12), .ref (a 13), .ref (a 14), .ref (a 15), .ref (a 16), .ref (a 17), .ref (a 18), .ref (a 19), .ref (a 20), .ref (a 21), .ref (a 22), .ref (a 23), .ref (a 24), .ref (a 25), .ref (a 26), .ref (a 27), .ref (a 28), .ref (a 29), .ref (a 30), .int 0, .ref (a 31), .ref (a 32)])), ((a 7), .inl ((d 7), 30, .inl (fun _ => 0))), ((a 5), .inl ((d 5), 30, .inl (minus 30))), ((a 6), .inl ((d 6), 30, .inl (minus 30))), ((a 9), .inl ((d 9), 30, .inl (fun _ => 0)))] [((d 7), .int), ((d 5), .int), ((d 6), .int), ((d 9), .boolean)] A s H locs := St
    refine lv_if_ne (tgt := 10) hx hb dX12_giver_4 (by decide) (fun c4 => ?_) (fun c4 => ?_)
    · exact absurd c4 (by decide)
    refine lv_bipush (v := (-2)) hx hb dX12_giver_7 (by decide) ?_
    exact cs_iret F hr hlk hQ St () (r := (-2)) (Or.inr (Or.inr ⟨rfl, by omega⟩)) [] rfl (by decide) [] rfl (by decide) (by decide) dX12_giver_9
set_option maxHeartbeats 4000000 in
set_option maxRecDepth 100000 in
theorem m_stage (l : Launch) (G : va_G) (k : Nat → Nat) (sz : Nat) (h : Nat) (a : Nat → Nat) (d : Nat → ClassId) (x1 : Int32) (x2 : Int32) : Met l yX12_stage (Cond.code yX12_stage cX12_stage 3 (some .int) :: tb) ({ frames := 1, cells := 0, slots := 0, locals := 25 } : Room) (va_Pc [.ref h, .int x1, .int x2] (cP G k [(h, .inr (12, [.ref (a 0), .ref (a 1), .ref (a 2), .ref (a 3), .int 0, .int 0, .int 0, .int 0, .int 0, .int 0, .int 0, .int (-1), .ref (a 4), .int 0, .int 0, .int 0, .int 0, .int 0, .int 0, .int 0, .int 0, .int 0, .int 0, .int 0, .ref (a 5), .ref (a 6), .ref (a 7), .ref (a 8), .ref (a 9), .ref (a 10), .ref (a 11), .ref (a 12), .ref (a 13), .ref (a 14), .ref (a 15), .ref (a 16), .ref (a 17), .ref (a 18), .ref (a 19), .ref (a 20), .ref (a 21), .ref (a 22), .ref (a 23), .ref (a 24), .ref (a 25), .ref (a 26), .ref (a 27), .ref (a 28), .ref (a 29), .ref (a 30), .int 0, .ref (a 31), .ref (a 32)])), ((a 26), .inl ((d 26), 8, .inl (fun _ => 0))), ((a 27), .inl ((d 27), 8, .inl (fun _ => 0)))] [((d 26), .int), ((d 27), .int)] sz)) (va_Qi (fun (r : Int32) (_ : Unit) => ((r = 0) ∧ ((1 ≤ x1.toInt ∧ x1.toInt ≤ 100000000) ∧ 1 ≤ x2.toInt ∧ x2.toInt ≤ 24)) ∨ ((r = (-2)) ∧ (¬ ((1 ≤ x1.toInt ∧ x1.toInt ≤ 100000000) ∧ 1 ≤ x2.toInt ∧ x2.toInt ≤ 24)))) (cB G (fun (_ : Unit) => []) (fun (_ : Unit) => []) (va_A [(h, .inr (12, [.ref (a 0), .ref (a 1), .ref (a 2), .ref (a 3), .int 0, .int 0, .int 0, .int 0, .int 0, .int 0, .int 0, .int (-1), .ref (a 4), .int 0, .int 0, .int 0, .int 0, .int 0, .int 0, .int 0, .int 0, .int 0, .int 0, .int 0, .ref (a 5), .ref (a 6), .ref (a 7), .ref (a 8), .ref (a 9), .ref (a 10), .ref (a 11), .ref (a 12), .ref (a 13), .ref (a 14), .ref (a 15), .ref (a 16), .ref (a 17), .ref (a 18), .ref (a 19), .ref (a 20), .ref (a 21), .ref (a 22), .ref (a 23), .ref (a 24), .ref (a 25), .ref (a 26), .ref (a 27), .ref (a 28), .ref (a 29), .ref (a 30), .int 0, .ref (a 31), .ref (a 32)])), ((a 26), .inl ((d 26), 8, .inl (fun _ => 0))), ((a 27), .inl ((d 27), 8, .inl (fun _ => 0)))] sz)) (va_A [(h, .inr (12, [.ref (a 0), .ref (a 1), .ref (a 2), .ref (a 3), .int 0, .int 0, .int 0, .int 0, .int 0, .int 0, .int 0, .int (-1), .ref (a 4), .int 0, .int 0, .int 0, .int 0, .int 0, .int 0, .int 0, .int 0, .int 0, .int 0, .int 0, .ref (a 5), .ref (a 6), .ref (a 7), .ref (a 8), .ref (a 9), .ref (a 10), .ref (a 11), .ref (a 12), .ref (a 13), .ref (a 14), .ref (a 15), .ref (a 16), .ref (a 17), .ref (a 18), .ref (a 19), .ref (a 20), .ref (a 21), .ref (a 22), .ref (a 23), .ref (a 24), .ref (a 25), .ref (a 26), .ref (a 27), .ref (a 28), .ref (a 29), .ref (a 30), .int 0, .ref (a 31), .ref (a 32)])), ((a 26), .inl ((d 26), 8, .inl (fun _ => 0))), ((a 27), .inl ((d 27), 8, .inl (fun _ => 0)))] sz)) 0 0 (va_A [(h, .inr (12, [.ref (a 0), .ref (a 1), .ref (a 2), .ref (a 3), .int 0, .int 0, .int 0, .int 0, .int 0, .int 0, .int 0, .int (-1), .ref (a 4), .int 0, .int 0, .int 0, .int 0, .int 0, .int 0, .int 0, .int 0, .int 0, .int 0, .int 0, .ref (a 5), .ref (a 6), .ref (a 7), .ref (a 8), .ref (a 9), .ref (a 10), .ref (a 11), .ref (a 12), .ref (a 13), .ref (a 14), .ref (a 15), .ref (a 16), .ref (a 17), .ref (a 18), .ref (a 19), .ref (a 20), .ref (a 21), .ref (a 22), .ref (a 23), .ref (a 24), .ref (a 25), .ref (a 26), .ref (a 27), .ref (a 28), .ref (a 29), .ref (a 30), .int 0, .ref (a 31), .ref (a 32)])), ((a 26), .inl ((d 26), 8, .inl (fun _ => 0))), ((a 27), .inl ((d 27), 8, .inl (fun _ => 0)))] sz) := by
  refine ofC_i (cc := cX12_stage) (maxL := 3) (ret := (some .int)) (by decide) rfl (Nat.le_of_ble_eq_true rfl) ?_
  intro p e s m args below meth c A ls Q F hr hin hlk St hl hQ
  have hx := F.1
  have hb := F.2.1
  have hl : lv_has ls 3 [(0, .ref h), (1, .int x1), (2, .int x2)] := hl
  have St : cS G k [(h, .inr (12, [.ref (a 0), .ref (a 1), .ref (a 2), .ref (a 3), .int 0, .int 0, .int 0, .int 0, .int 0, .int 0, .int 0, .int (-1), .ref (a 4), .int 0, .int 0, .int 0, .int 0, .int 0, .int 0, .int 0, .int 0, .int 0, .int 0, .int 0, .ref (a 5), .ref (a 6), .ref (a 7), .ref (a 8), .ref (a 9), .ref (a 10), .ref (a 11), .ref (a 12), .ref (a 13), .ref (a 14), .ref (a 15), .ref (a 16), .ref (a 17), .ref (a 18), .ref (a 19), .ref (a 20), .ref (a 21), .ref (a 22), .ref (a 23), .ref (a 24), .ref (a 25), .ref (a 26), .ref (a 27), .ref (a 28), .ref (a 29), .ref (a 30), .int 0, .ref (a 31), .ref (a 32)])), ((a 26), .inl ((d 26), 8, .inl (fun _ => 0))), ((a 27), .inl ((d 27), 8, .inl (fun _ => 0)))] [((d 26), .int), ((d 27), .int)] A s s.heap [] := St
  refine lv_iload_n hx hb dX12_stage_0 rfl (lv_at hl 1 rfl) ?_
  refine lv_i2l (v := x1.toInt64) hx hb dX12_stage_1 rfl ?_
  refine lv_lconst (v := 1) hx hb dX12_stage_2 (by decide) ?_
  refine lv_ldc2 (v := 100000000) hx hb F.2.2.2.1 (F.2.2.2.2 _ kk_X12_282) dX12_stage_3 ?_
  refine cs_i St [] [0, 1, 2] (wc := []) (wr := [(h, .inr (12, [.ref (a 0), .ref (a 1), .ref (a 2), .ref (a 3), .int 0, .int 0, .int 0, .int 0, .int 0, .int 0, .int 0, .int (-1), .ref (a 4), .int 0, .int 0, .int 0, .int 0, .int 0, .int 0, .int 0, .int 0, .int 0, .int 0, .int 0, .ref (a 5), .ref (a 6), .ref (a 7), .ref (a 8), .ref (a 9), .ref (a 10), .ref (a 11), .ref (a 12), .ref (a 13), .ref (a 14), .ref (a 15), .ref (a 16), .ref (a 17), .ref (a 18), .ref (a 19), .ref (a 20), .ref (a 21), .ref (a 22), .ref (a 23), .ref (a 24), .ref (a 25), .ref (a 26), .ref (a 27), .ref (a 28), .ref (a 29), .ref (a 30), .int 0, .ref (a 31), .ref (a 32)])), ((a 26), .inl ((d 26), 8, .inl (fun _ => 0))), ((a 27), .inl ((d 27), 8, .inl (fun _ => 0)))]) rfl rfl (by decide) (by decide) (va_runS (As := [.long x1.toInt64, .long 1, .long 100000000]) (rest := []) F (c12_in l G k _ x1.toInt64 1 100000000 x1.toInt 1 100000000 (Int32.toInt_toInt64 x1) (by decide) (by decide)) (cwSt F mf_X12_in km_X12_58 rfl rfl ⟨Nat.le_of_ble_eq_true rfl, Nat.le_of_ble_eq_true rfl⟩) (cs_pre St [] rfl (by decide) [] rfl) rfl rfl hl.1 rfl (lv_room (Nat.le_of_ble_eq_true rfl)) dX12_stage_6 ⟨Nat.le_of_ble_eq_true rfl, Nat.le_of_ble_eq_true rfl⟩) (fun r_1 u_2 H locs hw St => ?_)
  try dsimp only at hw
  rcases hw with ⟨z_3, hf_4⟩ | ⟨z_5, hf_6⟩
  ·
    subst r_1
    have St : cS G k [(h, .inr (12, [.ref (a 0), .ref (a 1), .ref (a 2), .ref (a 3), .int 0, .int 0, .int 0, .int 0, .int 0, .int 0, .int 0, .int (-1), .ref (a 4), .int 0, .int 0, .int 0, .int 0, .int 0, .int 0, .int 0, .int 0, .int 0, .int 0, .int 0, .ref (a 5), .ref (a 6), .ref (a 7), .ref (a 8), .ref (a 9), .ref (a 10), .ref (a 11), .ref (a 12), .ref (a 13), .ref (a 14), .ref (a 15), .ref (a 16), .ref (a 17), .ref (a 18), .ref (a 19), .ref (a 20), .ref (a 21), .ref (a 22), .ref (a 23), .ref (a 24), .ref (a 25), .ref (a 26), .ref (a 27), .ref (a 28), .ref (a 29), .ref (a 30), .int 0, .ref (a 31), .ref (a 32)])), ((a 26), .inl ((d 26), 8, .inl (fun _ => 0))), ((a 27), .inl ((d 27), 8, .inl (fun _ => 0)))] [((d 26), .int), ((d 27), .int)] A s H locs := St
    refine lv_if_eq (tgt := 24) hx hb dX12_stage_9 (by decide) (fun c9 => ?_) (fun c9 => ?_)
    · exact absurd c9 (by decide)
    refine lv_iload_n hx hb dX12_stage_12 rfl (lv_at hl 2 rfl) ?_
    refine lv_i2l (v := x2.toInt64) hx hb dX12_stage_13 rfl ?_
    refine lv_lconst (v := 1) hx hb dX12_stage_14 (by decide) ?_
    refine lv_ldc2 (v := 24) hx hb F.2.2.2.1 (F.2.2.2.2 _ kk_X12_284) dX12_stage_15 ?_
    refine cs_i St [] [0, 1, 2] (wc := []) (wr := [(h, .inr (12, [.ref (a 0), .ref (a 1), .ref (a 2), .ref (a 3), .int 0, .int 0, .int 0, .int 0, .int 0, .int 0, .int 0, .int (-1), .ref (a 4), .int 0, .int 0, .int 0, .int 0, .int 0, .int 0, .int 0, .int 0, .int 0, .int 0, .int 0, .ref (a 5), .ref (a 6), .ref (a 7), .ref (a 8), .ref (a 9), .ref (a 10), .ref (a 11), .ref (a 12), .ref (a 13), .ref (a 14), .ref (a 15), .ref (a 16), .ref (a 17), .ref (a 18), .ref (a 19), .ref (a 20), .ref (a 21), .ref (a 22), .ref (a 23), .ref (a 24), .ref (a 25), .ref (a 26), .ref (a 27), .ref (a 28), .ref (a 29), .ref (a 30), .int 0, .ref (a 31), .ref (a 32)])), ((a 26), .inl ((d 26), 8, .inl (fun _ => 0))), ((a 27), .inl ((d 27), 8, .inl (fun _ => 0)))]) rfl rfl (by decide) (by decide) (va_runS (As := [.long x2.toInt64, .long 1, .long 24]) (rest := []) F (c12_in l G k _ x2.toInt64 1 24 x2.toInt 1 24 (Int32.toInt_toInt64 x2) (by decide) (by decide)) (cwSt F mf_X12_in km_X12_58 rfl rfl ⟨Nat.le_of_ble_eq_true rfl, Nat.le_of_ble_eq_true rfl⟩) (cs_pre St [] rfl (by decide) [] rfl) rfl rfl hl.1 rfl (lv_room (Nat.le_of_ble_eq_true rfl)) dX12_stage_18 ⟨Nat.le_of_ble_eq_true rfl, Nat.le_of_ble_eq_true rfl⟩) (fun r_7 u_8 H locs hw St => ?_)
    try dsimp only at hw
    rcases hw with ⟨z_9, hf_10⟩ | ⟨z_11, hf_12⟩
    ·
      subst r_7
      have St : cS G k [(h, .inr (12, [.ref (a 0), .ref (a 1), .ref (a 2), .ref (a 3), .int 0, .int 0, .int 0, .int 0, .int 0, .int 0, .int 0, .int (-1), .ref (a 4), .int 0, .int 0, .int 0, .int 0, .int 0, .int 0, .int 0, .int 0, .int 0, .int 0, .int 0, .ref (a 5), .ref (a 6), .ref (a 7), .ref (a 8), .ref (a 9), .ref (a 10), .ref (a 11), .ref (a 12), .ref (a 13), .ref (a 14), .ref (a 15), .ref (a 16), .ref (a 17), .ref (a 18), .ref (a 19), .ref (a 20), .ref (a 21), .ref (a 22), .ref (a 23), .ref (a 24), .ref (a 25), .ref (a 26), .ref (a 27), .ref (a 28), .ref (a 29), .ref (a 30), .int 0, .ref (a 31), .ref (a 32)])), ((a 26), .inl ((d 26), 8, .inl (fun _ => 0))), ((a 27), .inl ((d 27), 8, .inl (fun _ => 0)))] [((d 26), .int), ((d 27), .int)] A s H locs := St
      refine lv_if_ne (tgt := 27) hx hb dX12_stage_21 (by decide) (fun c21 => ?_) (fun c21 => ?_)
      rotate_left
      · exact absurd c21 (by decide)
      refine lv_aload_n hx hb dX12_stage_27 rfl (lv_at hl 0 rfl) ?_
      refine cs_get F St 0 rfl rfl inX12 23 (by decide) kf_X12_224 rfl dX12_stage_28 ?_
      refine lv_if_eq (tgt := 37) hx hb dX12_stage_31 (by decide) (fun c31 => ?_) (fun c31 => ?_)
      rotate_left
      · exact absurd (by decide) c31
      refine lv_aload_n hx hb dX12_stage_37 rfl (lv_at hl 0 rfl) ?_
      refine cs_get F St 0 rfl rfl inX12 22 (by decide) kf_X12_286 rfl dX12_stage_38 ?_
      refine lv_bipush (v := 8) hx hb dX12_stage_41 (by decide) ?_
      refine lv_icmp_ne (tgt := 49) hx hb dX12_stage_43 (by decide) (fun c43 => ?_) (fun c43 => ?_)
      rotate_left
      · exact absurd c43 (by decide)
      refine lv_aload_n hx hb dX12_stage_49 rfl (lv_at hl 0 rfl) ?_
      refine cs_get F St 0 rfl rfl inX12 45 (by decide) kf_X12_183 rfl dX12_stage_50 ?_
      refine lv_aload_n hx hb dX12_stage_53 rfl (lv_at hl 0 rfl) ?_
      refine cs_get F St 0 rfl rfl inX12 22 (by decide) kf_X12_286 rfl dX12_stage_54 ?_
      refine lv_iload_n hx hb dX12_stage_57 rfl (lv_at hl 1 rfl) ?_
      refine cs_ist F St 1 0 rfl rfl (vp_in_iff.mpr (by decide)) (w' := [(h, .inr (12, [.ref (a 0), .ref (a 1), .ref (a 2), .ref (a 3), .int 0, .int 0, .int 0, .int 0, .int 0, .int 0, .int 0, .int (-1), .ref (a 4), .int 0, .int 0, .int 0, .int 0, .int 0, .int 0, .int 0, .int 0, .int 0, .int 0, .int 0, .ref (a 5), .ref (a 6), .ref (a 7), .ref (a 8), .ref (a 9), .ref (a 10), .ref (a 11), .ref (a 12), .ref (a 13), .ref (a 14), .ref (a 15), .ref (a 16), .ref (a 17), .ref (a 18), .ref (a 19), .ref (a 20), .ref (a 21), .ref (a 22), .ref (a 23), .ref (a 24), .ref (a 25), .ref (a 26), .ref (a 27), .ref (a 28), .ref (a 29), .ref (a 30), .int 0, .ref (a 31), .ref (a 32)])), ((a 26), .inl ((d 26), 8, .inl (upd (fun _ => 0) (0 : Int32).toNatClampNeg x1))), ((a 27), .inl ((d 27), 8, .inl (fun _ => 0)))]) rfl dX12_stage_58 (fun H locs St => ?_)
      obtain ⟨f_13, ef_13⟩ : ∃ zz : Nat → Int32, zz = upd (fun _ => 0) (0 : Int32).toNatClampNeg x1 := ⟨_, rfl⟩
      rw [← ef_13] at St
      refine lv_aload_n hx hb dX12_stage_59 rfl (lv_at hl 0 rfl) ?_
      refine cs_get F St 0 rfl rfl inX12 46 (by decide) kf_X12_186 rfl dX12_stage_60 ?_
      refine lv_aload_n hx hb dX12_stage_63 rfl (lv_at hl 0 rfl) ?_
      refine cs_get F St 0 rfl rfl inX12 22 (by decide) kf_X12_286 rfl dX12_stage_64 ?_
      refine lv_iload_n hx hb dX12_stage_67 rfl (lv_at hl 2 rfl) ?_
      refine cs_ist F St 2 1 rfl rfl (vp_in_iff.mpr (by decide)) (w' := [(h, .inr (12, [.ref (a 0), .ref (a 1), .ref (a 2), .ref (a 3), .int 0, .int 0, .int 0, .int 0, .int 0, .int 0, .int 0, .int (-1), .ref (a 4), .int 0, .int 0, .int 0, .int 0, .int 0, .int 0, .int 0, .int 0, .int 0, .int 0, .int 0, .ref (a 5), .ref (a 6), .ref (a 7), .ref (a 8), .ref (a 9), .ref (a 10), .ref (a 11), .ref (a 12), .ref (a 13), .ref (a 14), .ref (a 15), .ref (a 16), .ref (a 17), .ref (a 18), .ref (a 19), .ref (a 20), .ref (a 21), .ref (a 22), .ref (a 23), .ref (a 24), .ref (a 25), .ref (a 26), .ref (a 27), .ref (a 28), .ref (a 29), .ref (a 30), .int 0, .ref (a 31), .ref (a 32)])), ((a 26), .inl ((d 26), 8, .inl f_13)), ((a 27), .inl ((d 27), 8, .inl (upd (fun _ => 0) (0 : Int32).toNatClampNeg x2)))]) rfl dX12_stage_68 (fun H locs St => ?_)
      obtain ⟨f_14, ef_14⟩ : ∃ zz : Nat → Int32, zz = upd (fun _ => 0) (0 : Int32).toNatClampNeg x2 := ⟨_, rfl⟩
      rw [← ef_14] at St
      refine lv_aload_n hx hb dX12_stage_69 rfl (lv_at hl 0 rfl) ?_
      refine lv_dup hx hb dX12_stage_70 rfl ?_
      refine cs_get F St 0 rfl rfl inX12 22 (by decide) kf_X12_286 rfl dX12_stage_71 ?_
      refine lv_iconst (v := 1) hx hb dX12_stage_74 (by decide) ?_
      refine lv_iadd hx hb dX12_stage_75 ?_
      refine top_i (y := 1) (by decide) ?_
      refine cs_put F St 0 rfl rfl inX12 tyX12_ok nmX12 22 (by decide) kf_X12_286 rfl rfl rfl (Nat.le_of_ble_eq_true rfl) (w' := [(h, .inr (12, [.ref (a 0), .ref (a 1), .ref (a 2), .ref (a 3), .int 0, .int 0, .int 0, .int 0, .int 0, .int 0, .int 0, .int (-1), .ref (a 4), .int 0, .int 0, .int 0, .int 0, .int 0, .int 0, .int 0, .int 0, .int 0, .int 1, .int 0, .ref (a 5), .ref (a 6), .ref (a 7), .ref (a 8), .ref (a 9), .ref (a 10), .ref (a 11), .ref (a 12), .ref (a 13), .ref (a 14), .ref (a 15), .ref (a 16), .ref (a 17), .ref (a 18), .ref (a 19), .ref (a 20), .ref (a 21), .ref (a 22), .ref (a 23), .ref (a 24), .ref (a 25), .ref (a 26), .ref (a 27), .ref (a 28), .ref (a 29), .ref (a 30), .int 0, .ref (a 31), .ref (a 32)])), ((a 26), .inl ((d 26), 8, .inl f_13)), ((a 27), .inl ((d 27), 8, .inl f_14))]) rfl dX12_stage_76 (fun H locs St => ?_)
      refine lv_aload_n hx hb dX12_stage_79 rfl (lv_at hl 0 rfl) ?_
      refine cs_get F St 0 rfl rfl inX12 22 (by decide) kf_X12_286 rfl dX12_stage_80 ?_
      refine lv_iconst (v := 1) hx hb dX12_stage_83 (by decide) ?_
      refine lv_isub hx hb dX12_stage_84 ?_
      refine top_i (y := 0) (by decide) ?_
      exact cs_iret F hr hlk hQ St () (r := 0) (Or.inl ⟨rfl, by omega⟩) [] rfl (by decide) [] rfl (by decide) (by decide) dX12_stage_85
    ·
      subst r_7
      have St : cS G k [(h, .inr (12, [.ref (a 0), .ref (a 1), .ref (a 2), .ref (a 3), .int 0, .int 0, .int 0, .int 0, .int 0, .int 0, .int 0, .int (-1), .ref (a 4), .int 0, .int 0, .int 0, .int 0, .int 0, .int 0, .int 0, .int 0, .int 0, .int 0, .int 0, .ref (a 5), .ref (a 6), .ref (a 7), .ref (a 8), .ref (a 9), .ref (a 10), .ref (a 11), .ref (a 12), .ref (a 13), .ref (a 14), .ref (a 15), .ref (a 16), .ref (a 17), .ref (a 18), .ref (a 19), .ref (a 20), .ref (a 21), .ref (a 22), .ref (a 23), .ref (a 24), .ref (a 25), .ref (a 26), .ref (a 27), .ref (a 28), .ref (a 29), .ref (a 30), .int 0, .ref (a 31), .ref (a 32)])), ((a 26), .inl ((d 26), 8, .inl (fun _ => 0))), ((a 27), .inl ((d 27), 8, .inl (fun _ => 0)))] [((d 26), .int), ((d 27), .int)] A s H locs := St
      refine lv_if_ne (tgt := 27) hx hb dX12_stage_21 (by decide) (fun c21 => ?_) (fun c21 => ?_)
      · exact absurd c21 (by decide)
      refine lv_bipush (v := (-2)) hx hb dX12_stage_24 (by decide) ?_
      exact cs_iret F hr hlk hQ St () (r := (-2)) (Or.inr ⟨rfl, by omega⟩) [] rfl (by decide) [] rfl (by decide) (by decide) dX12_stage_26
  ·
    subst r_1
    have St : cS G k [(h, .inr (12, [.ref (a 0), .ref (a 1), .ref (a 2), .ref (a 3), .int 0, .int 0, .int 0, .int 0, .int 0, .int 0, .int 0, .int (-1), .ref (a 4), .int 0, .int 0, .int 0, .int 0, .int 0, .int 0, .int 0, .int 0, .int 0, .int 0, .int 0, .ref (a 5), .ref (a 6), .ref (a 7), .ref (a 8), .ref (a 9), .ref (a 10), .ref (a 11), .ref (a 12), .ref (a 13), .ref (a 14), .ref (a 15), .ref (a 16), .ref (a 17), .ref (a 18), .ref (a 19), .ref (a 20), .ref (a 21), .ref (a 22), .ref (a 23), .ref (a 24), .ref (a 25), .ref (a 26), .ref (a 27), .ref (a 28), .ref (a 29), .ref (a 30), .int 0, .ref (a 31), .ref (a 32)])), ((a 26), .inl ((d 26), 8, .inl (fun _ => 0))), ((a 27), .inl ((d 27), 8, .inl (fun _ => 0)))] [((d 26), .int), ((d 27), .int)] A s H locs := St
    refine lv_if_eq (tgt := 24) hx hb dX12_stage_9 (by decide) (fun c9 => ?_) (fun c9 => ?_)
    rotate_left
    · exact absurd (by decide) c9
    refine lv_bipush (v := (-2)) hx hb dX12_stage_24 (by decide) ?_
    exact cs_iret F hr hlk hQ St () (r := (-2)) (Or.inr ⟨rfl, by omega⟩) [] rfl (by decide) [] rfl (by decide) (by decide) dX12_stage_26
set_option maxHeartbeats 4000000 in
set_option maxRecDepth 100000 in
theorem m_runs (l : Launch) (G : va_G) (k : Nat → Nat) (sz : Nat) (h : Nat) (a : Nat → Nat) (cl : Int32) : Met l yX12_runs (Cond.code yX12_runs cX12_runs 1 (some .boolean) :: tb) ({ frames := 0, cells := 0, slots := 0, locals := 0 } : Room) (va_Pc [.ref h] (cP G k [(h, .inr (12, [.ref (a 0), .ref (a 1), .ref (a 2), .ref (a 3), .int 0, .int 0, .int 0, .int 0, .int 0, .int 0, .int 0, .int (-1), .ref (a 4), .int cl, .int 0, .int 0, .int 0, .int 0, .int 0, .int 0, .int 0, .int 0, .int 0, .int 0, .ref (a 5), .ref (a 6), .ref (a 7), .ref (a 8), .ref (a 9), .ref (a 10), .ref (a 11), .ref (a 12), .ref (a 13), .ref (a 14), .ref (a 15), .ref (a 16), .ref (a 17), .ref (a 18), .ref (a 19), .ref (a 20), .ref (a 21), .ref (a 22), .ref (a 23), .ref (a 24), .ref (a 25), .ref (a 26), .ref (a 27), .ref (a 28), .ref (a 29), .ref (a 30), .int 0, .ref (a 31), .ref (a 32)]))] [] sz)) (va_Qi (fun (r : Int32) (_ : Unit) => (r = 0)) (cB G (fun (_ : Unit) => [(h, .inr (12, [.ref (a 0), .ref (a 1), .ref (a 2), .ref (a 3), .int 0, .int 0, .int 0, .int 0, .int 0, .int 0, .int 0, .int (-1), .ref (a 4), .int cl, .int 0, .int 0, .int 0, .int 0, .int 0, .int 0, .int 0, .int 0, .int 0, .int 0, .ref (a 5), .ref (a 6), .ref (a 7), .ref (a 8), .ref (a 9), .ref (a 10), .ref (a 11), .ref (a 12), .ref (a 13), .ref (a 14), .ref (a 15), .ref (a 16), .ref (a 17), .ref (a 18), .ref (a 19), .ref (a 20), .ref (a 21), .ref (a 22), .ref (a 23), .ref (a 24), .ref (a 25), .ref (a 26), .ref (a 27), .ref (a 28), .ref (a 29), .ref (a 30), .int 0, .ref (a 31), .ref (a 32)]))]) (fun (_ : Unit) => []) (va_A [(h, .inr (12, [.ref (a 0), .ref (a 1), .ref (a 2), .ref (a 3), .int 0, .int 0, .int 0, .int 0, .int 0, .int 0, .int 0, .int (-1), .ref (a 4), .int cl, .int 0, .int 0, .int 0, .int 0, .int 0, .int 0, .int 0, .int 0, .int 0, .int 0, .ref (a 5), .ref (a 6), .ref (a 7), .ref (a 8), .ref (a 9), .ref (a 10), .ref (a 11), .ref (a 12), .ref (a 13), .ref (a 14), .ref (a 15), .ref (a 16), .ref (a 17), .ref (a 18), .ref (a 19), .ref (a 20), .ref (a 21), .ref (a 22), .ref (a 23), .ref (a 24), .ref (a 25), .ref (a 26), .ref (a 27), .ref (a 28), .ref (a 29), .ref (a 30), .int 0, .ref (a 31), .ref (a 32)]))] sz)) (va_A [(h, .inr (12, [.ref (a 0), .ref (a 1), .ref (a 2), .ref (a 3), .int 0, .int 0, .int 0, .int 0, .int 0, .int 0, .int 0, .int (-1), .ref (a 4), .int cl, .int 0, .int 0, .int 0, .int 0, .int 0, .int 0, .int 0, .int 0, .int 0, .int 0, .ref (a 5), .ref (a 6), .ref (a 7), .ref (a 8), .ref (a 9), .ref (a 10), .ref (a 11), .ref (a 12), .ref (a 13), .ref (a 14), .ref (a 15), .ref (a 16), .ref (a 17), .ref (a 18), .ref (a 19), .ref (a 20), .ref (a 21), .ref (a 22), .ref (a 23), .ref (a 24), .ref (a 25), .ref (a 26), .ref (a 27), .ref (a 28), .ref (a 29), .ref (a 30), .int 0, .ref (a 31), .ref (a 32)]))] sz)) 0 0 (va_A [(h, .inr (12, [.ref (a 0), .ref (a 1), .ref (a 2), .ref (a 3), .int 0, .int 0, .int 0, .int 0, .int 0, .int 0, .int 0, .int (-1), .ref (a 4), .int cl, .int 0, .int 0, .int 0, .int 0, .int 0, .int 0, .int 0, .int 0, .int 0, .int 0, .ref (a 5), .ref (a 6), .ref (a 7), .ref (a 8), .ref (a 9), .ref (a 10), .ref (a 11), .ref (a 12), .ref (a 13), .ref (a 14), .ref (a 15), .ref (a 16), .ref (a 17), .ref (a 18), .ref (a 19), .ref (a 20), .ref (a 21), .ref (a 22), .ref (a 23), .ref (a 24), .ref (a 25), .ref (a 26), .ref (a 27), .ref (a 28), .ref (a 29), .ref (a 30), .int 0, .ref (a 31), .ref (a 32)]))] sz) := by
  refine ofC_i (cc := cX12_runs) (maxL := 1) (ret := (some .boolean)) (by decide) rfl (Nat.le_of_ble_eq_true rfl) ?_
  intro p e s m args below meth c A ls Q F hr hin hlk St hl hQ
  have hx := F.1
  have hb := F.2.1
  have hl : lv_has ls 1 [(0, .ref h)] := hl
  have St : cS G k [(h, .inr (12, [.ref (a 0), .ref (a 1), .ref (a 2), .ref (a 3), .int 0, .int 0, .int 0, .int 0, .int 0, .int 0, .int 0, .int (-1), .ref (a 4), .int cl, .int 0, .int 0, .int 0, .int 0, .int 0, .int 0, .int 0, .int 0, .int 0, .int 0, .ref (a 5), .ref (a 6), .ref (a 7), .ref (a 8), .ref (a 9), .ref (a 10), .ref (a 11), .ref (a 12), .ref (a 13), .ref (a 14), .ref (a 15), .ref (a 16), .ref (a 17), .ref (a 18), .ref (a 19), .ref (a 20), .ref (a 21), .ref (a 22), .ref (a 23), .ref (a 24), .ref (a 25), .ref (a 26), .ref (a 27), .ref (a 28), .ref (a 29), .ref (a 30), .int 0, .ref (a 31), .ref (a 32)]))] [] A s s.heap [] := St
  refine lv_aload_n hx hb dX12_runs_0 rfl (lv_at hl 0 rfl) ?_
  refine cs_get F St 0 rfl rfl inX12 50 (by decide) kf_X12_289 rfl dX12_runs_1 ?_
  refine lv_if_le (tgt := 36) hx hb dX12_runs_4 (by decide) (fun c4 => ?_) (fun c4 => ?_)
  rotate_left
  · exact absurd (by decide) c4
  refine lv_iconst (v := 0) hx hb dX12_runs_36 (by decide) ?_
  exact cs_zret F hr hlk hQ St () (r := 0) rfl rfl [0] rfl (by decide) [] rfl (by decide) (by decide) dX12_runs_37
set_option maxHeartbeats 4000000 in
set_option maxRecDepth 100000 in
theorem m_begin (l : Launch) (G : va_G) (k : Nat → Nat) (sz : Nat) (h : Nat) (a : Nat → Nat) (d : Nat → ClassId) : Met l yX12_begin (Cond.code yX12_begin cX12_begin 1 (some .int) :: tb) ({ frames := 1, cells := 0, slots := 0, locals := 20 } : Room) (va_Pc [.ref h] (cP G k [(h, .inr (12, [.ref (a 0), .ref (a 1), .ref (a 2), .ref (a 3), .int 0, .int 0, .int 0, .int 0, .int 0, .int 0, .int 0, .int (-1), .ref (a 4), .int 0, .int 0, .int 0, .int 0, .int 0, .int 0, .int 0, .int 0, .int 0, .int 0, .int 0, .ref (a 5), .ref (a 6), .ref (a 7), .ref (a 8), .ref (a 9), .ref (a 10), .ref (a 11), .ref (a 12), .ref (a 13), .ref (a 14), .ref (a 15), .ref (a 16), .ref (a 17), .ref (a 18), .ref (a 19), .ref (a 20), .ref (a 21), .ref (a 22), .ref (a 23), .ref (a 24), .ref (a 25), .ref (a 26), .ref (a 27), .ref (a 28), .ref (a 29), .ref (a 30), .int 0, .ref (a 31), .ref (a 32)]))] [] sz)) (va_Qi (fun (r : Int32) (_ : Unit) => (r = (-4))) (cB G (fun (_ : Unit) => []) (fun (_ : Unit) => []) (va_A [(h, .inr (12, [.ref (a 0), .ref (a 1), .ref (a 2), .ref (a 3), .int 0, .int 0, .int 0, .int 0, .int 0, .int 0, .int 0, .int (-1), .ref (a 4), .int 0, .int 0, .int 0, .int 0, .int 0, .int 0, .int 0, .int 0, .int 0, .int 0, .int 0, .ref (a 5), .ref (a 6), .ref (a 7), .ref (a 8), .ref (a 9), .ref (a 10), .ref (a 11), .ref (a 12), .ref (a 13), .ref (a 14), .ref (a 15), .ref (a 16), .ref (a 17), .ref (a 18), .ref (a 19), .ref (a 20), .ref (a 21), .ref (a 22), .ref (a 23), .ref (a 24), .ref (a 25), .ref (a 26), .ref (a 27), .ref (a 28), .ref (a 29), .ref (a 30), .int 0, .ref (a 31), .ref (a 32)]))] sz)) (va_A [(h, .inr (12, [.ref (a 0), .ref (a 1), .ref (a 2), .ref (a 3), .int 0, .int 0, .int 0, .int 0, .int 0, .int 0, .int 0, .int (-1), .ref (a 4), .int 0, .int 0, .int 0, .int 0, .int 0, .int 0, .int 0, .int 0, .int 0, .int 0, .int 0, .ref (a 5), .ref (a 6), .ref (a 7), .ref (a 8), .ref (a 9), .ref (a 10), .ref (a 11), .ref (a 12), .ref (a 13), .ref (a 14), .ref (a 15), .ref (a 16), .ref (a 17), .ref (a 18), .ref (a 19), .ref (a 20), .ref (a 21), .ref (a 22), .ref (a 23), .ref (a 24), .ref (a 25), .ref (a 26), .ref (a 27), .ref (a 28), .ref (a 29), .ref (a 30), .int 0, .ref (a 31), .ref (a 32)]))] sz)) 0 0 (va_A [(h, .inr (12, [.ref (a 0), .ref (a 1), .ref (a 2), .ref (a 3), .int 0, .int 0, .int 0, .int 0, .int 0, .int 0, .int 0, .int (-1), .ref (a 4), .int 0, .int 0, .int 0, .int 0, .int 0, .int 0, .int 0, .int 0, .int 0, .int 0, .int 0, .ref (a 5), .ref (a 6), .ref (a 7), .ref (a 8), .ref (a 9), .ref (a 10), .ref (a 11), .ref (a 12), .ref (a 13), .ref (a 14), .ref (a 15), .ref (a 16), .ref (a 17), .ref (a 18), .ref (a 19), .ref (a 20), .ref (a 21), .ref (a 22), .ref (a 23), .ref (a 24), .ref (a 25), .ref (a 26), .ref (a 27), .ref (a 28), .ref (a 29), .ref (a 30), .int 0, .ref (a 31), .ref (a 32)]))] sz) := by
  refine ofC_i (cc := cX12_begin) (maxL := 1) (ret := (some .int)) (by decide) rfl (Nat.le_of_ble_eq_true rfl) ?_
  intro p e s m args below meth c A ls Q F hr hin hlk St hl hQ
  have hx := F.1
  have hb := F.2.1
  have hl : lv_has ls 1 [(0, .ref h)] := hl
  have St : cS G k [(h, .inr (12, [.ref (a 0), .ref (a 1), .ref (a 2), .ref (a 3), .int 0, .int 0, .int 0, .int 0, .int 0, .int 0, .int 0, .int (-1), .ref (a 4), .int 0, .int 0, .int 0, .int 0, .int 0, .int 0, .int 0, .int 0, .int 0, .int 0, .int 0, .ref (a 5), .ref (a 6), .ref (a 7), .ref (a 8), .ref (a 9), .ref (a 10), .ref (a 11), .ref (a 12), .ref (a 13), .ref (a 14), .ref (a 15), .ref (a 16), .ref (a 17), .ref (a 18), .ref (a 19), .ref (a 20), .ref (a 21), .ref (a 22), .ref (a 23), .ref (a 24), .ref (a 25), .ref (a 26), .ref (a 27), .ref (a 28), .ref (a 29), .ref (a 30), .int 0, .ref (a 31), .ref (a 32)]))] [] A s s.heap [] := St
  refine lv_aload_n hx hb dX12_begin_0 rfl (lv_at hl 0 rfl) ?_
  refine cs_get F St 0 rfl rfl inX12 23 (by decide) kf_X12_224 rfl dX12_begin_1 ?_
  refine lv_if_ne (tgt := 25) hx hb dX12_begin_4 (by decide) (fun c4 => ?_) (fun c4 => ?_)
  · exact absurd c4 (by decide)
  refine lv_aload_n hx hb dX12_begin_7 rfl (lv_at hl 0 rfl) ?_
  refine cs_i St [0] [] (wc := [(h, .inr (12, [.ref (a 0), .ref (a 1), .ref (a 2), .ref (a 3), .int 0, .int 0, .int 0, .int 0, .int 0, .int 0, .int 0, .int (-1), .ref (a 4), .int 0, .int 0, .int 0, .int 0, .int 0, .int 0, .int 0, .int 0, .int 0, .int 0, .int 0, .ref (a 5), .ref (a 6), .ref (a 7), .ref (a 8), .ref (a 9), .ref (a 10), .ref (a 11), .ref (a 12), .ref (a 13), .ref (a 14), .ref (a 15), .ref (a 16), .ref (a 17), .ref (a 18), .ref (a 19), .ref (a 20), .ref (a 21), .ref (a 22), .ref (a 23), .ref (a 24), .ref (a 25), .ref (a 26), .ref (a 27), .ref (a 28), .ref (a 29), .ref (a 30), .int 0, .ref (a 31), .ref (a 32)]))]) (wr := []) rfl rfl (by decide) (by decide) (va_runV (As := []) (rest := []) F (m_runs l G k _ h a 0) (cwVt F mf_X12_runs km_X12_292 rfl rfl ⟨Nat.le_of_ble_eq_true rfl, Nat.le_of_ble_eq_true rfl⟩) (cs_preV St [0] rfl (by decide) [] rfl (ci := 12) (q0 := 0) rfl rfl) rfl rfl hl.1 rfl (lv_room (Nat.le_of_ble_eq_true rfl)) dX12_begin_8 ⟨Nat.le_of_ble_eq_true rfl, Nat.le_of_ble_eq_true rfl⟩) (fun r_1 u_2 H locs hw St => ?_)
  try dsimp only at hw
  have z_3 := hw
  subst r_1
  have St : cS G k [(h, .inr (12, [.ref (a 0), .ref (a 1), .ref (a 2), .ref (a 3), .int 0, .int 0, .int 0, .int 0, .int 0, .int 0, .int 0, .int (-1), .ref (a 4), .int 0, .int 0, .int 0, .int 0, .int 0, .int 0, .int 0, .int 0, .int 0, .int 0, .int 0, .ref (a 5), .ref (a 6), .ref (a 7), .ref (a 8), .ref (a 9), .ref (a 10), .ref (a 11), .ref (a 12), .ref (a 13), .ref (a 14), .ref (a 15), .ref (a 16), .ref (a 17), .ref (a 18), .ref (a 19), .ref (a 20), .ref (a 21), .ref (a 22), .ref (a 23), .ref (a 24), .ref (a 25), .ref (a 26), .ref (a 27), .ref (a 28), .ref (a 29), .ref (a 30), .int 0, .ref (a 31), .ref (a 32)]))] [] A s H locs := St
  refine lv_if_ne (tgt := 25) hx hb dX12_begin_11 (by decide) (fun c11 => ?_) (fun c11 => ?_)
  · exact absurd c11 (by decide)
  refine lv_aload_n hx hb dX12_begin_14 rfl (lv_at hl 0 rfl) ?_
  refine cs_get F St 0 rfl rfl inX12 50 (by decide) kf_X12_289 rfl dX12_begin_15 ?_
  refine lv_aload_n hx hb dX12_begin_18 rfl (lv_at hl 0 rfl) ?_
  refine cs_get F St 0 rfl rfl inX12 22 (by decide) kf_X12_286 rfl dX12_begin_19 ?_
  refine lv_icmp_ne (tgt := 28) hx hb dX12_begin_22 (by decide) (fun c22 => ?_) (fun c22 => ?_)
  · exact absurd c22 (by decide)
  refine lv_bipush (v := (-4)) hx hb dX12_begin_25 (by decide) ?_
  exact cs_iret F hr hlk hQ St () (r := (-4)) rfl [] rfl (by decide) [] rfl (by decide) (by decide) dX12_begin_27
set_option maxHeartbeats 4000000 in
set_option maxRecDepth 100000 in
theorem m_built (l : Launch) (G : va_G) (k : Nat → Nat) (sz : Nat) (h : Nat) (a : Nat → Nat) (d : Nat → ClassId) (x1 : Int32) (x2 : Int32) : Met l yX12_built (Cond.code yX12_built cX12_built 3 (some .int) :: tb) ({ frames := 1, cells := 0, slots := 0, locals := 25 } : Room) (va_Pc [.ref h, .int x1, .int x2] (cP G k [(h, .inr (12, [.ref (a 0), .ref (a 1), .ref (a 2), .ref (a 3), .int 0, .int 0, .int 0, .int 0, .int 0, .int 0, .int 0, .int (-1), .ref (a 4), .int 0, .int 0, .int 0, .int 0, .int 0, .int 0, .int 0, .int 0, .int 0, .int 0, .int 0, .ref (a 5), .ref (a 6), .ref (a 7), .ref (a 8), .ref (a 9), .ref (a 10), .ref (a 11), .ref (a 12), .ref (a 13), .ref (a 14), .ref (a 15), .ref (a 16), .ref (a 17), .ref (a 18), .ref (a 19), .ref (a 20), .ref (a 21), .ref (a 22), .ref (a 23), .ref (a 24), .ref (a 25), .ref (a 26), .ref (a 27), .ref (a 28), .ref (a 29), .ref (a 30), .int 0, .ref (a 31), .ref (a 32)]))] [] sz)) (va_Qi (fun (r : Int32) (_ : Unit) => (r = (-1))) (cB G (fun (_ : Unit) => []) (fun (_ : Unit) => []) (va_A [(h, .inr (12, [.ref (a 0), .ref (a 1), .ref (a 2), .ref (a 3), .int 0, .int 0, .int 0, .int 0, .int 0, .int 0, .int 0, .int (-1), .ref (a 4), .int 0, .int 0, .int 0, .int 0, .int 0, .int 0, .int 0, .int 0, .int 0, .int 0, .int 0, .ref (a 5), .ref (a 6), .ref (a 7), .ref (a 8), .ref (a 9), .ref (a 10), .ref (a 11), .ref (a 12), .ref (a 13), .ref (a 14), .ref (a 15), .ref (a 16), .ref (a 17), .ref (a 18), .ref (a 19), .ref (a 20), .ref (a 21), .ref (a 22), .ref (a 23), .ref (a 24), .ref (a 25), .ref (a 26), .ref (a 27), .ref (a 28), .ref (a 29), .ref (a 30), .int 0, .ref (a 31), .ref (a 32)]))] sz)) (va_A [(h, .inr (12, [.ref (a 0), .ref (a 1), .ref (a 2), .ref (a 3), .int 0, .int 0, .int 0, .int 0, .int 0, .int 0, .int 0, .int (-1), .ref (a 4), .int 0, .int 0, .int 0, .int 0, .int 0, .int 0, .int 0, .int 0, .int 0, .int 0, .int 0, .ref (a 5), .ref (a 6), .ref (a 7), .ref (a 8), .ref (a 9), .ref (a 10), .ref (a 11), .ref (a 12), .ref (a 13), .ref (a 14), .ref (a 15), .ref (a 16), .ref (a 17), .ref (a 18), .ref (a 19), .ref (a 20), .ref (a 21), .ref (a 22), .ref (a 23), .ref (a 24), .ref (a 25), .ref (a 26), .ref (a 27), .ref (a 28), .ref (a 29), .ref (a 30), .int 0, .ref (a 31), .ref (a 32)]))] sz)) 0 0 (va_A [(h, .inr (12, [.ref (a 0), .ref (a 1), .ref (a 2), .ref (a 3), .int 0, .int 0, .int 0, .int 0, .int 0, .int 0, .int 0, .int (-1), .ref (a 4), .int 0, .int 0, .int 0, .int 0, .int 0, .int 0, .int 0, .int 0, .int 0, .int 0, .int 0, .ref (a 5), .ref (a 6), .ref (a 7), .ref (a 8), .ref (a 9), .ref (a 10), .ref (a 11), .ref (a 12), .ref (a 13), .ref (a 14), .ref (a 15), .ref (a 16), .ref (a 17), .ref (a 18), .ref (a 19), .ref (a 20), .ref (a 21), .ref (a 22), .ref (a 23), .ref (a 24), .ref (a 25), .ref (a 26), .ref (a 27), .ref (a 28), .ref (a 29), .ref (a 30), .int 0, .ref (a 31), .ref (a 32)]))] sz) := by
  refine ofC_i (cc := cX12_built) (maxL := 3) (ret := (some .int)) (by decide) rfl (Nat.le_of_ble_eq_true rfl) ?_
  intro p e s m args below meth c A ls Q F hr hin hlk St hl hQ
  have hx := F.1
  have hb := F.2.1
  have hl : lv_has ls 3 [(0, .ref h), (1, .int x1), (2, .int x2)] := hl
  have St : cS G k [(h, .inr (12, [.ref (a 0), .ref (a 1), .ref (a 2), .ref (a 3), .int 0, .int 0, .int 0, .int 0, .int 0, .int 0, .int 0, .int (-1), .ref (a 4), .int 0, .int 0, .int 0, .int 0, .int 0, .int 0, .int 0, .int 0, .int 0, .int 0, .int 0, .ref (a 5), .ref (a 6), .ref (a 7), .ref (a 8), .ref (a 9), .ref (a 10), .ref (a 11), .ref (a 12), .ref (a 13), .ref (a 14), .ref (a 15), .ref (a 16), .ref (a 17), .ref (a 18), .ref (a 19), .ref (a 20), .ref (a 21), .ref (a 22), .ref (a 23), .ref (a 24), .ref (a 25), .ref (a 26), .ref (a 27), .ref (a 28), .ref (a 29), .ref (a 30), .int 0, .ref (a 31), .ref (a 32)]))] [] A s s.heap [] := St
  refine lv_iload_n hx hb dX12_built_0 rfl (lv_at hl 1 rfl) ?_
  refine lv_i2l (v := x1.toInt64) hx hb dX12_built_1 rfl ?_
  refine lv_lconst (v := 0) hx hb dX12_built_2 (by decide) ?_
  refine lv_aload_n hx hb dX12_built_3 rfl (lv_at hl 0 rfl) ?_
  refine cs_get F St 0 rfl rfl inX12 22 (by decide) kf_X12_286 rfl dX12_built_4 ?_
  refine lv_i2l (v := 0) hx hb dX12_built_7 (by decide) ?_
  refine lv_lconst (v := 1) hx hb dX12_built_8 (by decide) ?_
  refine lv_lsub hx hb dX12_built_9 ?_
  refine top_l (y := (-1)) (by decide) ?_
  refine cs_i St [] [0] (wc := []) (wr := [(h, .inr (12, [.ref (a 0), .ref (a 1), .ref (a 2), .ref (a 3), .int 0, .int 0, .int 0, .int 0, .int 0, .int 0, .int 0, .int (-1), .ref (a 4), .int 0, .int 0, .int 0, .int 0, .int 0, .int 0, .int 0, .int 0, .int 0, .int 0, .int 0, .ref (a 5), .ref (a 6), .ref (a 7), .ref (a 8), .ref (a 9), .ref (a 10), .ref (a 11), .ref (a 12), .ref (a 13), .ref (a 14), .ref (a 15), .ref (a 16), .ref (a 17), .ref (a 18), .ref (a 19), .ref (a 20), .ref (a 21), .ref (a 22), .ref (a 23), .ref (a 24), .ref (a 25), .ref (a 26), .ref (a 27), .ref (a 28), .ref (a 29), .ref (a 30), .int 0, .ref (a 31), .ref (a 32)]))]) rfl rfl (by decide) (by decide) (va_runS (As := [.long x1.toInt64, .long 0, .long (-1)]) (rest := []) F (c12_in l G k _ x1.toInt64 0 (-1) x1.toInt 0 (-1) (Int32.toInt_toInt64 x1) (by decide) (by decide)) (cwSt F mf_X12_in km_X12_58 rfl rfl ⟨Nat.le_of_ble_eq_true rfl, Nat.le_of_ble_eq_true rfl⟩) (cs_pre St [] rfl (by decide) [] rfl) rfl rfl hl.1 rfl (lv_room (Nat.le_of_ble_eq_true rfl)) dX12_built_10 ⟨Nat.le_of_ble_eq_true rfl, Nat.le_of_ble_eq_true rfl⟩) (fun r_1 u_2 H locs hw St => ?_)
  try dsimp only at hw
  rcases hw with ⟨z_3, hf_4⟩ | ⟨z_5, hf_6⟩
  ·
    exact False.elim (by omega)
  ·
    subst r_1
    have St : cS G k [(h, .inr (12, [.ref (a 0), .ref (a 1), .ref (a 2), .ref (a 3), .int 0, .int 0, .int 0, .int 0, .int 0, .int 0, .int 0, .int (-1), .ref (a 4), .int 0, .int 0, .int 0, .int 0, .int 0, .int 0, .int 0, .int 0, .int 0, .int 0, .int 0, .ref (a 5), .ref (a 6), .ref (a 7), .ref (a 8), .ref (a 9), .ref (a 10), .ref (a 11), .ref (a 12), .ref (a 13), .ref (a 14), .ref (a 15), .ref (a 16), .ref (a 17), .ref (a 18), .ref (a 19), .ref (a 20), .ref (a 21), .ref (a 22), .ref (a 23), .ref (a 24), .ref (a 25), .ref (a 26), .ref (a 27), .ref (a 28), .ref (a 29), .ref (a 30), .int 0, .ref (a 31), .ref (a 32)]))] [] A s H locs := St
    refine lv_if_ne (tgt := 18) hx hb dX12_built_13 (by decide) (fun c13 => ?_) (fun c13 => ?_)
    · exact absurd c13 (by decide)
    refine lv_iconst (v := (-1)) hx hb dX12_built_16 (by decide) ?_
    exact cs_iret F hr hlk hQ St () (r := (-1)) rfl [] rfl (by decide) [] rfl (by decide) (by decide) dX12_built_17
set_option maxHeartbeats 4000000 in
set_option maxRecDepth 100000 in
theorem m_endMonth (l : Launch) (G : va_G) (k : Nat → Nat) (sz : Nat) (h : Nat) (a : Nat → Nat) (d : Nat → ClassId) (x1 : Int32) : Met l yX12_endMonth (Cond.code yX12_endMonth cX12_endMonth 3 none :: tb) ({ frames := 1, cells := 0, slots := 0, locals := 23 } : Room) (va_Pc [.ref h] (cP G k [(h, .inr (12, [.ref (a 0), .ref (a 1), .ref (a 2), .ref (a 3), .int 0, .int 0, .int 0, .int 0, .int 0, .int 0, .int 0, .int (-1), .ref (a 4), .int x1, .int 0, .int 0, .int 0, .int 0, .int 0, .int 0, .int 0, .int 0, .int 0, .int 0, .ref (a 5), .ref (a 6), .ref (a 7), .ref (a 8), .ref (a 9), .ref (a 10), .ref (a 11), .ref (a 12), .ref (a 13), .ref (a 14), .ref (a 15), .ref (a 16), .ref (a 17), .ref (a 18), .ref (a 19), .ref (a 20), .ref (a 21), .ref (a 22), .ref (a 23), .ref (a 24), .ref (a 25), .ref (a 26), .ref (a 27), .ref (a 28), .ref (a 29), .ref (a 30), .int 0, .ref (a 31), .ref (a 32)])), ((a 0), .inl ((d 0), 9, .inl untold))] [((d 0), .int)] sz)) (va_Qv (fun (cl : Int32) => (cl = x1 + 1)) (cB G (fun (cl : Int32) => [(h, .inr (12, [.ref (a 0), .ref (a 1), .ref (a 2), .ref (a 3), .int 0, .int 0, .int 0, .int 0, .int 0, .int 0, .int 0, .int (-1), .ref (a 4), .int cl, .int 0, .int 0, .int 0, .int 0, .int 0, .int 0, .int 0, .int 0, .int 0, .int 0, .ref (a 5), .ref (a 6), .ref (a 7), .ref (a 8), .ref (a 9), .ref (a 10), .ref (a 11), .ref (a 12), .ref (a 13), .ref (a 14), .ref (a 15), .ref (a 16), .ref (a 17), .ref (a 18), .ref (a 19), .ref (a 20), .ref (a 21), .ref (a 22), .ref (a 23), .ref (a 24), .ref (a 25), .ref (a 26), .ref (a 27), .ref (a 28), .ref (a 29), .ref (a 30), .int 0, .ref (a 31), .ref (a 32)])), ((a 0), .inl ((d 0), 9, .inl untold))]) (fun (cl : Int32) => []) (va_A [(h, .inr (12, [.ref (a 0), .ref (a 1), .ref (a 2), .ref (a 3), .int 0, .int 0, .int 0, .int 0, .int 0, .int 0, .int 0, .int (-1), .ref (a 4), .int x1, .int 0, .int 0, .int 0, .int 0, .int 0, .int 0, .int 0, .int 0, .int 0, .int 0, .ref (a 5), .ref (a 6), .ref (a 7), .ref (a 8), .ref (a 9), .ref (a 10), .ref (a 11), .ref (a 12), .ref (a 13), .ref (a 14), .ref (a 15), .ref (a 16), .ref (a 17), .ref (a 18), .ref (a 19), .ref (a 20), .ref (a 21), .ref (a 22), .ref (a 23), .ref (a 24), .ref (a 25), .ref (a 26), .ref (a 27), .ref (a 28), .ref (a 29), .ref (a 30), .int 0, .ref (a 31), .ref (a 32)])), ((a 0), .inl ((d 0), 9, .inl untold))] sz)) (va_A [(h, .inr (12, [.ref (a 0), .ref (a 1), .ref (a 2), .ref (a 3), .int 0, .int 0, .int 0, .int 0, .int 0, .int 0, .int 0, .int (-1), .ref (a 4), .int x1, .int 0, .int 0, .int 0, .int 0, .int 0, .int 0, .int 0, .int 0, .int 0, .int 0, .ref (a 5), .ref (a 6), .ref (a 7), .ref (a 8), .ref (a 9), .ref (a 10), .ref (a 11), .ref (a 12), .ref (a 13), .ref (a 14), .ref (a 15), .ref (a 16), .ref (a 17), .ref (a 18), .ref (a 19), .ref (a 20), .ref (a 21), .ref (a 22), .ref (a 23), .ref (a 24), .ref (a 25), .ref (a 26), .ref (a 27), .ref (a 28), .ref (a 29), .ref (a 30), .int 0, .ref (a 31), .ref (a 32)])), ((a 0), .inl ((d 0), 9, .inl untold))] sz)) 0 0 (va_A [(h, .inr (12, [.ref (a 0), .ref (a 1), .ref (a 2), .ref (a 3), .int 0, .int 0, .int 0, .int 0, .int 0, .int 0, .int 0, .int (-1), .ref (a 4), .int x1, .int 0, .int 0, .int 0, .int 0, .int 0, .int 0, .int 0, .int 0, .int 0, .int 0, .ref (a 5), .ref (a 6), .ref (a 7), .ref (a 8), .ref (a 9), .ref (a 10), .ref (a 11), .ref (a 12), .ref (a 13), .ref (a 14), .ref (a 15), .ref (a 16), .ref (a 17), .ref (a 18), .ref (a 19), .ref (a 20), .ref (a 21), .ref (a 22), .ref (a 23), .ref (a 24), .ref (a 25), .ref (a 26), .ref (a 27), .ref (a 28), .ref (a 29), .ref (a 30), .int 0, .ref (a 31), .ref (a 32)])), ((a 0), .inl ((d 0), 9, .inl untold))] sz) := by
  refine ofC_v (cc := cX12_endMonth) (maxL := 3) (ret := none) (by decide) rfl (Nat.le_of_ble_eq_true rfl) ?_
  intro p e s m args below meth c A ls Q F hr hin hlk St hl hQ
  have hx := F.1
  have hb := F.2.1
  have hl : lv_has ls 3 [(0, .ref h)] := hl
  have St : cS G k [(h, .inr (12, [.ref (a 0), .ref (a 1), .ref (a 2), .ref (a 3), .int 0, .int 0, .int 0, .int 0, .int 0, .int 0, .int 0, .int (-1), .ref (a 4), .int x1, .int 0, .int 0, .int 0, .int 0, .int 0, .int 0, .int 0, .int 0, .int 0, .int 0, .ref (a 5), .ref (a 6), .ref (a 7), .ref (a 8), .ref (a 9), .ref (a 10), .ref (a 11), .ref (a 12), .ref (a 13), .ref (a 14), .ref (a 15), .ref (a 16), .ref (a 17), .ref (a 18), .ref (a 19), .ref (a 20), .ref (a 21), .ref (a 22), .ref (a 23), .ref (a 24), .ref (a 25), .ref (a 26), .ref (a 27), .ref (a 28), .ref (a 29), .ref (a 30), .int 0, .ref (a 31), .ref (a 32)])), ((a 0), .inl ((d 0), 9, .inl untold))] [((d 0), .int)] A s s.heap [] := St
  refine lv_iconst (v := 0) hx hb dX12_endMonth_0 (by decide) ?_
  refine lv_istore_n (lv' := [(1, .int 0), (0, .ref h)]) hx hb dX12_endMonth_1 rfl hl (by decide) rfl (fun ls hl => ?_)
  refine lv_iload_n hx hb dX12_endMonth_2 rfl (lv_at hl 0 rfl) ?_
  refine lv_aload_n hx hb dX12_endMonth_3 rfl (lv_at hl 1 rfl) ?_
  refine cs_get F St 0 rfl rfl inX12 20 (by decide) kf_X12_237 rfl dX12_endMonth_4 ?_
  refine lv_icmp_ge (tgt := 21) hx hb dX12_endMonth_7 (by decide) (fun c7 => ?_) (fun c7 => ?_)
  rotate_left
  · exact absurd (by decide) c7
  refine lv_aload_n hx hb dX12_endMonth_21 rfl (lv_at hl 1 rfl) ?_
  refine cs_get F St 0 rfl rfl inX12 15 (by decide) kf_X12_296 rfl dX12_endMonth_22 ?_
  refine lv_i2l (v := 0) hx hb dX12_endMonth_25 (by decide) ?_
  refine lv_aload_n hx hb dX12_endMonth_26 rfl (lv_at hl 1 rfl) ?_
  refine cs_get F St 0 rfl rfl inX12 0 (by decide) kf_X12_114 rfl dX12_endMonth_27 ?_
  refine lv_bipush (v := 6) hx hb dX12_endMonth_30 (by decide) ?_
  refine cs_ild F St 1 0 rfl rfl (vp_in_iff.mpr (by decide)) dX12_endMonth_32 ?_
  refine top_i (y := 0) (by decide) ?_
  refine lv_i2l (v := 0) hx hb dX12_endMonth_33 (by decide) ?_
  refine lv_lmul hx hb dX12_endMonth_34 ?_
  refine top_l (y := 0) (by decide) ?_
  refine lv_ldc2 (v := 1000) hx hb F.2.2.2.1 (F.2.2.2.2 _ kk_X12_303) dX12_endMonth_35 ?_
  refine lv_ldiv hx hb dX12_endMonth_38 (by decide) ?_
  refine top_l (y := 0) (by decide) ?_
  refine lv_l2i (v := 0) hx hb dX12_endMonth_39 (by decide) ?_
  refine lv_istore_n (lv' := [(1, .int 0), (0, .ref h)]) hx hb dX12_endMonth_40 rfl hl (by decide) rfl (fun ls hl => ?_)
  refine lv_aload_n hx hb dX12_endMonth_41 rfl (lv_at hl 1 rfl) ?_
  refine lv_dup hx hb dX12_endMonth_42 rfl ?_
  refine cs_get F St 0 rfl rfl inX12 15 (by decide) kf_X12_296 rfl dX12_endMonth_43 ?_
  refine lv_iload_n hx hb dX12_endMonth_46 rfl (lv_at hl 0 rfl) ?_
  refine lv_iadd hx hb dX12_endMonth_47 ?_
  refine top_i (y := 0) (by decide) ?_
  refine cs_put F St 0 rfl rfl inX12 tyX12_ok nmX12 15 (by decide) kf_X12_296 rfl rfl rfl (Nat.le_of_ble_eq_true rfl) (w' := [(h, .inr (12, [.ref (a 0), .ref (a 1), .ref (a 2), .ref (a 3), .int 0, .int 0, .int 0, .int 0, .int 0, .int 0, .int 0, .int (-1), .ref (a 4), .int x1, .int 0, .int 0, .int 0, .int 0, .int 0, .int 0, .int 0, .int 0, .int 0, .int 0, .ref (a 5), .ref (a 6), .ref (a 7), .ref (a 8), .ref (a 9), .ref (a 10), .ref (a 11), .ref (a 12), .ref (a 13), .ref (a 14), .ref (a 15), .ref (a 16), .ref (a 17), .ref (a 18), .ref (a 19), .ref (a 20), .ref (a 21), .ref (a 22), .ref (a 23), .ref (a 24), .ref (a 25), .ref (a 26), .ref (a 27), .ref (a 28), .ref (a 29), .ref (a 30), .int 0, .ref (a 31), .ref (a 32)])), ((a 0), .inl ((d 0), 9, .inl untold))]) rfl dX12_endMonth_48 (fun H locs St => ?_)
  refine lv_aload_n hx hb dX12_endMonth_51 rfl (lv_at hl 1 rfl) ?_
  refine lv_dup hx hb dX12_endMonth_52 rfl ?_
  refine cs_get F St 0 rfl rfl inX12 19 (by decide) kf_X12_305 rfl dX12_endMonth_53 ?_
  refine lv_iload_n hx hb dX12_endMonth_56 rfl (lv_at hl 0 rfl) ?_
  refine lv_iadd hx hb dX12_endMonth_57 ?_
  refine top_i (y := 0) (by decide) ?_
  refine cs_put F St 0 rfl rfl inX12 tyX12_ok nmX12 19 (by decide) kf_X12_305 rfl rfl rfl (Nat.le_of_ble_eq_true rfl) (w' := [(h, .inr (12, [.ref (a 0), .ref (a 1), .ref (a 2), .ref (a 3), .int 0, .int 0, .int 0, .int 0, .int 0, .int 0, .int 0, .int (-1), .ref (a 4), .int x1, .int 0, .int 0, .int 0, .int 0, .int 0, .int 0, .int 0, .int 0, .int 0, .int 0, .ref (a 5), .ref (a 6), .ref (a 7), .ref (a 8), .ref (a 9), .ref (a 10), .ref (a 11), .ref (a 12), .ref (a 13), .ref (a 14), .ref (a 15), .ref (a 16), .ref (a 17), .ref (a 18), .ref (a 19), .ref (a 20), .ref (a 21), .ref (a 22), .ref (a 23), .ref (a 24), .ref (a 25), .ref (a 26), .ref (a 27), .ref (a 28), .ref (a 29), .ref (a 30), .int 0, .ref (a 31), .ref (a 32)])), ((a 0), .inl ((d 0), 9, .inl untold))]) rfl dX12_endMonth_58 (fun H locs St => ?_)
  refine lv_aload_n hx hb dX12_endMonth_61 rfl (lv_at hl 1 rfl) ?_
  refine cs_i St [0] [1] (wc := [(h, .inr (12, [.ref (a 0), .ref (a 1), .ref (a 2), .ref (a 3), .int 0, .int 0, .int 0, .int 0, .int 0, .int 0, .int 0, .int (-1), .ref (a 4), .int x1, .int 0, .int 0, .int 0, .int 0, .int 0, .int 0, .int 0, .int 0, .int 0, .int 0, .ref (a 5), .ref (a 6), .ref (a 7), .ref (a 8), .ref (a 9), .ref (a 10), .ref (a 11), .ref (a 12), .ref (a 13), .ref (a 14), .ref (a 15), .ref (a 16), .ref (a 17), .ref (a 18), .ref (a 19), .ref (a 20), .ref (a 21), .ref (a 22), .ref (a 23), .ref (a 24), .ref (a 25), .ref (a 26), .ref (a 27), .ref (a 28), .ref (a 29), .ref (a 30), .int 0, .ref (a 31), .ref (a 32)]))]) (wr := [((a 0), .inl ((d 0), 9, .inl untold))]) rfl rfl (by decide) (by decide) (va_runV (As := []) (rest := []) F (m_runs l G k _ h a x1) (cwVt F mf_X12_runs km_X12_292 rfl rfl ⟨Nat.le_of_ble_eq_true rfl, Nat.le_of_ble_eq_true rfl⟩) (cs_preV St [0] rfl (by decide) [] rfl (ci := 12) (q0 := 0) rfl rfl) rfl rfl hl.1 rfl (lv_room (Nat.le_of_ble_eq_true rfl)) dX12_endMonth_62 ⟨Nat.le_of_ble_eq_true rfl, Nat.le_of_ble_eq_true rfl⟩) (fun r_1 u_2 H locs hw St => ?_)
  try dsimp only at hw
  have z_3 := hw
  subst r_1
  have St : cS G k [((a 0), .inl ((d 0), 9, .inl untold)), (h, .inr (12, [.ref (a 0), .ref (a 1), .ref (a 2), .ref (a 3), .int 0, .int 0, .int 0, .int 0, .int 0, .int 0, .int 0, .int (-1), .ref (a 4), .int x1, .int 0, .int 0, .int 0, .int 0, .int 0, .int 0, .int 0, .int 0, .int 0, .int 0, .ref (a 5), .ref (a 6), .ref (a 7), .ref (a 8), .ref (a 9), .ref (a 10), .ref (a 11), .ref (a 12), .ref (a 13), .ref (a 14), .ref (a 15), .ref (a 16), .ref (a 17), .ref (a 18), .ref (a 19), .ref (a 20), .ref (a 21), .ref (a 22), .ref (a 23), .ref (a 24), .ref (a 25), .ref (a 26), .ref (a 27), .ref (a 28), .ref (a 29), .ref (a 30), .int 0, .ref (a 31), .ref (a 32)]))] [((d 0), .int)] A s H locs := St
  refine lv_if_eq (tgt := 72) hx hb dX12_endMonth_65 (by decide) (fun c65 => ?_) (fun c65 => ?_)
  rotate_left
  · exact absurd (by decide) c65
  refine lv_aload_n hx hb dX12_endMonth_72 rfl (lv_at hl 1 rfl) ?_
  refine cs_get F St 1 rfl rfl inX12 14 (by decide) kf_X12_262 rfl dX12_endMonth_73 ?_
  refine lv_aload_n hx hb dX12_endMonth_76 rfl (lv_at hl 1 rfl) ?_
  refine cs_get F St 1 rfl rfl inX12 15 (by decide) kf_X12_296 rfl dX12_endMonth_77 ?_
  refine va_mmin hx hb (F.2.2.1.trans hl.1.symm) F.2.2.2.1 (F.2.2.2.2 _ km_X12_254) (F.2.2.2.2 _ ks_J9_min_7cf53) (F.2.2.2.2 _ ki_J9) (F.2.2.2.2 _ kd_J9_min_7cf53) (Nat.le_of_ble_eq_true rfl) (Nat.le_of_ble_eq_true rfl) (Nat.le_of_ble_eq_true rfl) (Nat.le_of_ble_eq_true rfl) dX12_endMonth_80 ?_
  refine top_i (y := 0) (by decide) ?_
  refine lv_istore_n (lv' := [(2, .int 0), (1, .int 0), (0, .ref h)]) hx hb dX12_endMonth_83 rfl hl (by decide) rfl (fun ls hl => ?_)
  refine lv_aload_n hx hb dX12_endMonth_84 rfl (lv_at hl 2 rfl) ?_
  refine lv_dup hx hb dX12_endMonth_85 rfl ?_
  refine cs_get F St 1 rfl rfl inX12 14 (by decide) kf_X12_262 rfl dX12_endMonth_86 ?_
  refine lv_iload_n hx hb dX12_endMonth_89 rfl (lv_at hl 0 rfl) ?_
  refine lv_isub hx hb dX12_endMonth_90 ?_
  refine top_i (y := 0) (by decide) ?_
  refine cs_put F St 1 rfl rfl inX12 tyX12_ok nmX12 14 (by decide) kf_X12_262 rfl rfl rfl (Nat.le_of_ble_eq_true rfl) (w' := [((a 0), .inl ((d 0), 9, .inl untold)), (h, .inr (12, [.ref (a 0), .ref (a 1), .ref (a 2), .ref (a 3), .int 0, .int 0, .int 0, .int 0, .int 0, .int 0, .int 0, .int (-1), .ref (a 4), .int x1, .int 0, .int 0, .int 0, .int 0, .int 0, .int 0, .int 0, .int 0, .int 0, .int 0, .ref (a 5), .ref (a 6), .ref (a 7), .ref (a 8), .ref (a 9), .ref (a 10), .ref (a 11), .ref (a 12), .ref (a 13), .ref (a 14), .ref (a 15), .ref (a 16), .ref (a 17), .ref (a 18), .ref (a 19), .ref (a 20), .ref (a 21), .ref (a 22), .ref (a 23), .ref (a 24), .ref (a 25), .ref (a 26), .ref (a 27), .ref (a 28), .ref (a 29), .ref (a 30), .int 0, .ref (a 31), .ref (a 32)]))]) rfl dX12_endMonth_91 (fun H locs St => ?_)
  refine lv_aload_n hx hb dX12_endMonth_94 rfl (lv_at hl 2 rfl) ?_
  refine lv_dup hx hb dX12_endMonth_95 rfl ?_
  refine cs_get F St 1 rfl rfl inX12 15 (by decide) kf_X12_296 rfl dX12_endMonth_96 ?_
  refine lv_iload_n hx hb dX12_endMonth_99 rfl (lv_at hl 0 rfl) ?_
  refine lv_isub hx hb dX12_endMonth_100 ?_
  refine top_i (y := 0) (by decide) ?_
  refine cs_put F St 1 rfl rfl inX12 tyX12_ok nmX12 15 (by decide) kf_X12_296 rfl rfl rfl (Nat.le_of_ble_eq_true rfl) (w' := [((a 0), .inl ((d 0), 9, .inl untold)), (h, .inr (12, [.ref (a 0), .ref (a 1), .ref (a 2), .ref (a 3), .int 0, .int 0, .int 0, .int 0, .int 0, .int 0, .int 0, .int (-1), .ref (a 4), .int x1, .int 0, .int 0, .int 0, .int 0, .int 0, .int 0, .int 0, .int 0, .int 0, .int 0, .ref (a 5), .ref (a 6), .ref (a 7), .ref (a 8), .ref (a 9), .ref (a 10), .ref (a 11), .ref (a 12), .ref (a 13), .ref (a 14), .ref (a 15), .ref (a 16), .ref (a 17), .ref (a 18), .ref (a 19), .ref (a 20), .ref (a 21), .ref (a 22), .ref (a 23), .ref (a 24), .ref (a 25), .ref (a 26), .ref (a 27), .ref (a 28), .ref (a 29), .ref (a 30), .int 0, .ref (a 31), .ref (a 32)]))]) rfl dX12_endMonth_101 (fun H locs St => ?_)
  refine lv_aload_n hx hb dX12_endMonth_104 rfl (lv_at hl 2 rfl) ?_
  refine lv_dup hx hb dX12_endMonth_105 rfl ?_
  refine cs_get F St 1 rfl rfl inX12 13 (by decide) kf_X12_230 rfl dX12_endMonth_106 ?_
  refine lv_iconst (v := 1) hx hb dX12_endMonth_109 (by decide) ?_
  refine lv_iadd hx hb dX12_endMonth_110 ?_
  refine lv_topi (fun y_4 ey_4 => ?_)
  have jy_4 := ci_add (x := x1) (y := 1) rfl (show (1 : Int32).toInt = 1 by decide) ey_4
  refine cs_put F St 1 rfl rfl inX12 tyX12_ok nmX12 13 (by decide) kf_X12_230 rfl rfl rfl (Nat.le_of_ble_eq_true rfl) (w' := [((a 0), .inl ((d 0), 9, .inl untold)), (h, .inr (12, [.ref (a 0), .ref (a 1), .ref (a 2), .ref (a 3), .int 0, .int 0, .int 0, .int 0, .int 0, .int 0, .int 0, .int (-1), .ref (a 4), .int y_4, .int 0, .int 0, .int 0, .int 0, .int 0, .int 0, .int 0, .int 0, .int 0, .int 0, .ref (a 5), .ref (a 6), .ref (a 7), .ref (a 8), .ref (a 9), .ref (a 10), .ref (a 11), .ref (a 12), .ref (a 13), .ref (a 14), .ref (a 15), .ref (a 16), .ref (a 17), .ref (a 18), .ref (a 19), .ref (a 20), .ref (a 21), .ref (a 22), .ref (a 23), .ref (a 24), .ref (a 25), .ref (a 26), .ref (a 27), .ref (a 28), .ref (a 29), .ref (a 30), .int 0, .ref (a 31), .ref (a 32)]))]) rfl dX12_endMonth_111 (fun H locs St => ?_)
  exact cs_vret F hr hlk hQ St y_4 ey_4 [1, 0] rfl (by decide) [] rfl (by decide) (by decide) dX12_endMonth_114
set_option maxHeartbeats 4000000 in
set_option maxRecDepth 100000 in
theorem m_months (l : Launch) (G : va_G) (k : Nat → Nat) (sz : Nat) (h : Nat) (a : Nat → Nat) (d : Nat → ClassId) (x1 : Int32) : Met l yX12_months (Cond.code yX12_months cX12_months 3 (some .int) :: tb) ({ frames := 2, cells := 0, slots := 0, locals := 45 } : Room) (va_Pc [.ref h, .int x1] (cP G k [(h, .inr (12, [.ref (a 0), .ref (a 1), .ref (a 2), .ref (a 3), .int 0, .int 0, .int 0, .int 0, .int 0, .int 0, .int 0, .int (-1), .ref (a 4), .int 0, .int 0, .int 0, .int 0, .int 0, .int 0, .int 0, .int 0, .int 0, .int 0, .int 0, .ref (a 5), .ref (a 6), .ref (a 7), .ref (a 8), .ref (a 9), .ref (a 10), .ref (a 11), .ref (a 12), .ref (a 13), .ref (a 14), .ref (a 15), .ref (a 16), .ref (a 17), .ref (a 18), .ref (a 19), .ref (a 20), .ref (a 21), .ref (a 22), .ref (a 23), .ref (a 24), .ref (a 25), .ref (a 26), .ref (a 27), .ref (a 28), .ref (a 29), .ref (a 30), .int 0, .ref (a 31), .ref (a 32)])), ((a 0), .inl ((d 0), 9, .inl untold))] [((d 0), .int)] sz)) (va_Qi (fun (r : Int32) (_ : Unit) => ((r = x1) ∧ (1 ≤ x1.toInt ∧ x1.toInt ≤ 24)) ∨ ((r = (-2)) ∧ (¬ (1 ≤ x1.toInt ∧ x1.toInt ≤ 24)))) (cB G (fun (_ : Unit) => []) (fun (_ : Unit) => []) (va_A [(h, .inr (12, [.ref (a 0), .ref (a 1), .ref (a 2), .ref (a 3), .int 0, .int 0, .int 0, .int 0, .int 0, .int 0, .int 0, .int (-1), .ref (a 4), .int 0, .int 0, .int 0, .int 0, .int 0, .int 0, .int 0, .int 0, .int 0, .int 0, .int 0, .ref (a 5), .ref (a 6), .ref (a 7), .ref (a 8), .ref (a 9), .ref (a 10), .ref (a 11), .ref (a 12), .ref (a 13), .ref (a 14), .ref (a 15), .ref (a 16), .ref (a 17), .ref (a 18), .ref (a 19), .ref (a 20), .ref (a 21), .ref (a 22), .ref (a 23), .ref (a 24), .ref (a 25), .ref (a 26), .ref (a 27), .ref (a 28), .ref (a 29), .ref (a 30), .int 0, .ref (a 31), .ref (a 32)])), ((a 0), .inl ((d 0), 9, .inl untold))] sz)) (va_A [(h, .inr (12, [.ref (a 0), .ref (a 1), .ref (a 2), .ref (a 3), .int 0, .int 0, .int 0, .int 0, .int 0, .int 0, .int 0, .int (-1), .ref (a 4), .int 0, .int 0, .int 0, .int 0, .int 0, .int 0, .int 0, .int 0, .int 0, .int 0, .int 0, .ref (a 5), .ref (a 6), .ref (a 7), .ref (a 8), .ref (a 9), .ref (a 10), .ref (a 11), .ref (a 12), .ref (a 13), .ref (a 14), .ref (a 15), .ref (a 16), .ref (a 17), .ref (a 18), .ref (a 19), .ref (a 20), .ref (a 21), .ref (a 22), .ref (a 23), .ref (a 24), .ref (a 25), .ref (a 26), .ref (a 27), .ref (a 28), .ref (a 29), .ref (a 30), .int 0, .ref (a 31), .ref (a 32)])), ((a 0), .inl ((d 0), 9, .inl untold))] sz)) 0 0 (va_A [(h, .inr (12, [.ref (a 0), .ref (a 1), .ref (a 2), .ref (a 3), .int 0, .int 0, .int 0, .int 0, .int 0, .int 0, .int 0, .int (-1), .ref (a 4), .int 0, .int 0, .int 0, .int 0, .int 0, .int 0, .int 0, .int 0, .int 0, .int 0, .int 0, .ref (a 5), .ref (a 6), .ref (a 7), .ref (a 8), .ref (a 9), .ref (a 10), .ref (a 11), .ref (a 12), .ref (a 13), .ref (a 14), .ref (a 15), .ref (a 16), .ref (a 17), .ref (a 18), .ref (a 19), .ref (a 20), .ref (a 21), .ref (a 22), .ref (a 23), .ref (a 24), .ref (a 25), .ref (a 26), .ref (a 27), .ref (a 28), .ref (a 29), .ref (a 30), .int 0, .ref (a 31), .ref (a 32)])), ((a 0), .inl ((d 0), 9, .inl untold))] sz) := by
  refine ofC_i (cc := cX12_months) (maxL := 3) (ret := (some .int)) (by decide) rfl (Nat.le_of_ble_eq_true rfl) ?_
  intro p e s m args below meth c A ls Q F hr hin hlk St hl hQ
  have hx := F.1
  have hb := F.2.1
  have hl : lv_has ls 3 [(0, .ref h), (1, .int x1)] := hl
  have St : cS G k [(h, .inr (12, [.ref (a 0), .ref (a 1), .ref (a 2), .ref (a 3), .int 0, .int 0, .int 0, .int 0, .int 0, .int 0, .int 0, .int (-1), .ref (a 4), .int 0, .int 0, .int 0, .int 0, .int 0, .int 0, .int 0, .int 0, .int 0, .int 0, .int 0, .ref (a 5), .ref (a 6), .ref (a 7), .ref (a 8), .ref (a 9), .ref (a 10), .ref (a 11), .ref (a 12), .ref (a 13), .ref (a 14), .ref (a 15), .ref (a 16), .ref (a 17), .ref (a 18), .ref (a 19), .ref (a 20), .ref (a 21), .ref (a 22), .ref (a 23), .ref (a 24), .ref (a 25), .ref (a 26), .ref (a 27), .ref (a 28), .ref (a 29), .ref (a 30), .int 0, .ref (a 31), .ref (a 32)])), ((a 0), .inl ((d 0), 9, .inl untold))] [((d 0), .int)] A s s.heap [] := St
  refine lv_iload_n hx hb dX12_months_0 rfl (lv_at hl 1 rfl) ?_
  refine lv_i2l (v := x1.toInt64) hx hb dX12_months_1 rfl ?_
  refine lv_lconst (v := 1) hx hb dX12_months_2 (by decide) ?_
  refine lv_ldc2 (v := 24) hx hb F.2.2.2.1 (F.2.2.2.2 _ kk_X12_284) dX12_months_3 ?_
  refine cs_i St [] [0, 1] (wc := []) (wr := [(h, .inr (12, [.ref (a 0), .ref (a 1), .ref (a 2), .ref (a 3), .int 0, .int 0, .int 0, .int 0, .int 0, .int 0, .int 0, .int (-1), .ref (a 4), .int 0, .int 0, .int 0, .int 0, .int 0, .int 0, .int 0, .int 0, .int 0, .int 0, .int 0, .ref (a 5), .ref (a 6), .ref (a 7), .ref (a 8), .ref (a 9), .ref (a 10), .ref (a 11), .ref (a 12), .ref (a 13), .ref (a 14), .ref (a 15), .ref (a 16), .ref (a 17), .ref (a 18), .ref (a 19), .ref (a 20), .ref (a 21), .ref (a 22), .ref (a 23), .ref (a 24), .ref (a 25), .ref (a 26), .ref (a 27), .ref (a 28), .ref (a 29), .ref (a 30), .int 0, .ref (a 31), .ref (a 32)])), ((a 0), .inl ((d 0), 9, .inl untold))]) rfl rfl (by decide) (by decide) (va_runS (As := [.long x1.toInt64, .long 1, .long 24]) (rest := []) F (c12_in l G k _ x1.toInt64 1 24 x1.toInt 1 24 (Int32.toInt_toInt64 x1) (by decide) (by decide)) (cwSt F mf_X12_in km_X12_58 rfl rfl ⟨Nat.le_of_ble_eq_true rfl, Nat.le_of_ble_eq_true rfl⟩) (cs_pre St [] rfl (by decide) [] rfl) rfl rfl hl.1 rfl (lv_room (Nat.le_of_ble_eq_true rfl)) dX12_months_6 ⟨Nat.le_of_ble_eq_true rfl, Nat.le_of_ble_eq_true rfl⟩) (fun r_1 u_2 H locs hw St => ?_)
  try dsimp only at hw
  rcases hw with ⟨z_3, hf_4⟩ | ⟨z_5, hf_6⟩
  ·
    subst r_1
    have St : cS G k [(h, .inr (12, [.ref (a 0), .ref (a 1), .ref (a 2), .ref (a 3), .int 0, .int 0, .int 0, .int 0, .int 0, .int 0, .int 0, .int (-1), .ref (a 4), .int 0, .int 0, .int 0, .int 0, .int 0, .int 0, .int 0, .int 0, .int 0, .int 0, .int 0, .ref (a 5), .ref (a 6), .ref (a 7), .ref (a 8), .ref (a 9), .ref (a 10), .ref (a 11), .ref (a 12), .ref (a 13), .ref (a 14), .ref (a 15), .ref (a 16), .ref (a 17), .ref (a 18), .ref (a 19), .ref (a 20), .ref (a 21), .ref (a 22), .ref (a 23), .ref (a 24), .ref (a 25), .ref (a 26), .ref (a 27), .ref (a 28), .ref (a 29), .ref (a 30), .int 0, .ref (a 31), .ref (a 32)])), ((a 0), .inl ((d 0), 9, .inl untold))] [((d 0), .int)] A s H locs := St
    refine lv_if_eq (tgt := 23) hx hb dX12_months_9 (by decide) (fun c9 => ?_) (fun c9 => ?_)
    · exact absurd c9 (by decide)
    refine lv_aload_n hx hb dX12_months_12 rfl (lv_at hl 0 rfl) ?_
    refine cs_get F St 0 rfl rfl inX12 13 (by decide) kf_X12_230 rfl dX12_months_13 ?_
    refine lv_iload_n hx hb dX12_months_16 rfl (lv_at hl 1 rfl) ?_
    refine lv_iadd hx hb dX12_months_17 ?_
    refine lv_topi (fun y_7 ey_7 => ?_)
    have jy_7 := ci_add (x := 0) (y := x1) (show (0 : Int32).toInt = 0 by decide) rfl ey_7
    refine lv_bipush (v := 119) hx hb dX12_months_18 (by decide) ?_
    refine lv_icmp_le (tgt := 26) hx hb dX12_months_20 (by decide) (fun c20 => ?_) (fun c20 => ?_)
    rotate_left
    · have i20 := ci_nle (x := y_7) (y := 119) rfl (show (119 : Int32).toInt = 119 by decide) c20; exact False.elim (by omega)
    have i20 := ci_le (x := y_7) (y := 119) rfl (show (119 : Int32).toInt = 119 by decide) c20
    refine lv_aload_n hx hb dX12_months_26 rfl (lv_at hl 0 rfl) ?_
    refine cs_get F St 0 rfl rfl inX12 23 (by decide) kf_X12_224 rfl dX12_months_27 ?_
    refine lv_if_eq (tgt := 36) hx hb dX12_months_30 (by decide) (fun c30 => ?_) (fun c30 => ?_)
    rotate_left
    · exact absurd (by decide) c30
    refine lv_iconst (v := 0) hx hb dX12_months_36 (by decide) ?_
    refine lv_istore_n (lv' := [(2, .int 0), (0, .ref h), (1, .int x1)]) hx hb dX12_months_37 rfl hl (by decide) rfl (fun ls hl => ?_)
    have lp38 : ∀ (n : Nat) (i : Int32) (cl : Int32) (H : Heap) (locs : List Loc) (ls : Array Slot), (0 ≤ i.toInt ∧ i.toInt ≤ x1.toInt ∧ cl = i) → ((24 - i.toInt).toNat) < n → cS G k [(h, .inr (12, [.ref (a 0), .ref (a 1), .ref (a 2), .ref (a 3), .int 0, .int 0, .int 0, .int 0, .int 0, .int 0, .int 0, .int (-1), .ref (a 4), .int cl, .int 0, .int 0, .int 0, .int 0, .int 0, .int 0, .int 0, .int 0, .int 0, .int 0, .ref (a 5), .ref (a 6), .ref (a 7), .ref (a 8), .ref (a 9), .ref (a 10), .ref (a 11), .ref (a 12), .ref (a 13), .ref (a 14), .ref (a 15), .ref (a 16), .ref (a 17), .ref (a 18), .ref (a 19), .ref (a 20), .ref (a 21), .ref (a 22), .ref (a 23), .ref (a 24), .ref (a 25), .ref (a 26), .ref (a 27), .ref (a 28), .ref (a 29), .ref (a 30), .int 0, .ref (a 31), .ref (a 32)])), ((a 0), .inl ((d 0), 9, .inl untold))] [((d 0), .int)] A s H locs → lv_has ls 3 [(2, .int i), (0, .ref h), (1, .int x1)] → W p l e ({ frames := 2, cells := 0, slots := 0, locals := 45 } : Room) s m args below meth c H locs 0 0 Q (F0 m 38 ls []) := by
      intro n
      induction n with
      | zero => intro i cl H locs ls hI hn; exact absurd hn (Nat.not_lt_zero _)
      | succ n ih =>
        intro i cl H locs ls hI hn St hl
        obtain ⟨hI0, hI1, hI2⟩ := hI
        refine lv_iload_n hx hb dX12_months_38 rfl (lv_at hl 0 rfl) ?_
        refine lv_iload_n hx hb dX12_months_39 rfl (lv_at hl 2 rfl) ?_
        refine lv_icmp_ge (tgt := 53) hx hb dX12_months_40 (by decide) (fun c40 => ?_) (fun c40 => ?_)
        ·
          have i40 := ci_le (x := x1) (y := i) rfl rfl c40
          refine lv_aload_n hx hb dX12_months_53 rfl (lv_at hl 1 rfl) ?_
          refine cs_get F St 0 rfl rfl inX12 13 (by decide) kf_X12_230 rfl dX12_months_54 ?_
          exact cs_iret F hr hlk hQ St () (r := cl) (Or.inl ⟨Int32.toInt_inj.mp (by rw [hI2]; omega), by omega⟩) [] rfl (by decide) [] rfl (by decide) (by decide) dX12_months_57
        ·
          have i40 := ci_nle (x := x1) (y := i) rfl rfl c40
          refine lv_aload_n hx hb dX12_months_43 rfl (lv_at hl 1 rfl) ?_
          refine cs_v St [0, 1] [] (wc := [(h, .inr (12, [.ref (a 0), .ref (a 1), .ref (a 2), .ref (a 3), .int 0, .int 0, .int 0, .int 0, .int 0, .int 0, .int 0, .int (-1), .ref (a 4), .int cl, .int 0, .int 0, .int 0, .int 0, .int 0, .int 0, .int 0, .int 0, .int 0, .int 0, .ref (a 5), .ref (a 6), .ref (a 7), .ref (a 8), .ref (a 9), .ref (a 10), .ref (a 11), .ref (a 12), .ref (a 13), .ref (a 14), .ref (a 15), .ref (a 16), .ref (a 17), .ref (a 18), .ref (a 19), .ref (a 20), .ref (a 21), .ref (a 22), .ref (a 23), .ref (a 24), .ref (a 25), .ref (a 26), .ref (a 27), .ref (a 28), .ref (a 29), .ref (a 30), .int 0, .ref (a 31), .ref (a 32)])), ((a 0), .inl ((d 0), 9, .inl untold))]) (wr := []) rfl rfl (by decide) (by decide) (va_runV (As := []) (rest := []) F (m_endMonth l G k _ h a d cl) (cwVt F mf_X12_endMonth km_X12_311 rfl rfl ⟨Nat.le_of_ble_eq_true rfl, Nat.le_of_ble_eq_true rfl⟩) (cs_preV St [0, 1] rfl (by decide) [0] rfl (ci := 12) (q0 := 0) rfl rfl) rfl rfl hl.1 rfl (lv_room (Nat.le_of_ble_eq_true rfl)) dX12_months_44 ⟨Nat.le_of_ble_eq_true rfl, Nat.le_of_ble_eq_true rfl⟩) (fun u_9 H locs hw St => ?_)
          obtain ⟨cl_10, rfl⟩ : ∃ z, z = u_9 := ⟨_, rfl⟩
          try dsimp only at hw
          have z_11 := hw
          have St : cS G k [(h, .inr (12, [.ref (a 0), .ref (a 1), .ref (a 2), .ref (a 3), .int 0, .int 0, .int 0, .int 0, .int 0, .int 0, .int 0, .int (-1), .ref (a 4), .int cl_10, .int 0, .int 0, .int 0, .int 0, .int 0, .int 0, .int 0, .int 0, .int 0, .int 0, .ref (a 5), .ref (a 6), .ref (a 7), .ref (a 8), .ref (a 9), .ref (a 10), .ref (a 11), .ref (a 12), .ref (a 13), .ref (a 14), .ref (a 15), .ref (a 16), .ref (a 17), .ref (a 18), .ref (a 19), .ref (a 20), .ref (a 21), .ref (a 22), .ref (a 23), .ref (a 24), .ref (a 25), .ref (a 26), .ref (a 27), .ref (a 28), .ref (a 29), .ref (a 30), .int 0, .ref (a 31), .ref (a 32)])), ((a 0), .inl ((d 0), 9, .inl untold))] [((d 0), .int)] A s H locs := St
          obtain ⟨y_12, ey_12⟩ : ∃ zz : Int32, zz = i + 1 := ⟨_, rfl⟩
          have jy_12 := ci_add (x := i) rfl (show (1 : Int32).toInt = 1 by decide) ey_12
          refine lv_iinc (v := y_12) (lv' := [(2, .int y_12), (0, .ref h), (1, .int x1)]) hx hb dX12_months_47 hl (k := 0) rfl (by rw [ey_12]; rfl) (by decide) rfl (fun ls hl => ?_)
          refine lv_goto (tgt := 38) hx hb dX12_months_50 (by decide) ?_
          exact ih y_12 cl_10 _ _ _ ⟨by omega, by omega, by rw [z_11, ey_12, hI2]⟩ (by omega) St (lv_sub hl [0, 1, 2] rfl)
    exact lp38 25 0 0 _ _ _ ⟨by decide, by rw [show (0 : Int32).toInt = 0 from by decide]; omega, rfl⟩ (by decide) St (lv_sub hl [0, 1, 2] rfl)
  ·
    subst r_1
    have St : cS G k [(h, .inr (12, [.ref (a 0), .ref (a 1), .ref (a 2), .ref (a 3), .int 0, .int 0, .int 0, .int 0, .int 0, .int 0, .int 0, .int (-1), .ref (a 4), .int 0, .int 0, .int 0, .int 0, .int 0, .int 0, .int 0, .int 0, .int 0, .int 0, .int 0, .ref (a 5), .ref (a 6), .ref (a 7), .ref (a 8), .ref (a 9), .ref (a 10), .ref (a 11), .ref (a 12), .ref (a 13), .ref (a 14), .ref (a 15), .ref (a 16), .ref (a 17), .ref (a 18), .ref (a 19), .ref (a 20), .ref (a 21), .ref (a 22), .ref (a 23), .ref (a 24), .ref (a 25), .ref (a 26), .ref (a 27), .ref (a 28), .ref (a 29), .ref (a 30), .int 0, .ref (a 31), .ref (a 32)])), ((a 0), .inl ((d 0), 9, .inl untold))] [((d 0), .int)] A s H locs := St
    refine lv_if_eq (tgt := 23) hx hb dX12_months_9 (by decide) (fun c9 => ?_) (fun c9 => ?_)
    rotate_left
    · exact absurd (by decide) c9
    refine lv_bipush (v := (-2)) hx hb dX12_months_23 (by decide) ?_
    exact cs_iret F hr hlk hQ St () (r := (-2)) (Or.inr ⟨rfl, by omega⟩) [] rfl (by decide) [] rfl (by decide) (by decide) dX12_months_25
set_option maxHeartbeats 4000000 in
set_option maxRecDepth 100000 in
theorem m_sure (l : Launch) (G : va_G) (k : Nat → Nat) (sz : Nat) (h : Nat) (a : Nat → Nat) (d : Nat → ClassId) (x1 : Int32) : Met l yX12_sure (Cond.code yX12_sure cX12_sure 12 (some .int) :: tb) ({ frames := 1, cells := 0, slots := 0, locals := 25 } : Room) (va_Pc [.ref h, .int x1] (cP G k [(h, .inr (12, [.ref (a 0), .ref (a 1), .ref (a 2), .ref (a 3), .int 0, .int 0, .int 0, .int 0, .int 0, .int 0, .int 0, .int (-1), .ref (a 4), .int 0, .int 0, .int 0, .int 0, .int 0, .int 0, .int 0, .int 0, .int 0, .int 0, .int 0, .ref (a 5), .ref (a 6), .ref (a 7), .ref (a 8), .ref (a 9), .ref (a 10), .ref (a 11), .ref (a 12), .ref (a 13), .ref (a 14), .ref (a 15), .ref (a 16), .ref (a 17), .ref (a 18), .ref (a 19), .ref (a 20), .ref (a 21), .ref (a 22), .ref (a 23), .ref (a 24), .ref (a 25), .ref (a 26), .ref (a 27), .ref (a 28), .ref (a 29), .ref (a 30), .int 0, .ref (a 31), .ref (a 32)]))] [] sz)) (va_Qi (fun (r : Int32) (_ : Unit) => ((r = 0) ∧ (1 ≤ x1.toInt ∧ x1.toInt ≤ 84)) ∨ ((r = (-2)) ∧ (¬ (1 ≤ x1.toInt ∧ x1.toInt ≤ 84)))) (cB G (fun (_ : Unit) => []) (fun (_ : Unit) => []) (va_A [(h, .inr (12, [.ref (a 0), .ref (a 1), .ref (a 2), .ref (a 3), .int 0, .int 0, .int 0, .int 0, .int 0, .int 0, .int 0, .int (-1), .ref (a 4), .int 0, .int 0, .int 0, .int 0, .int 0, .int 0, .int 0, .int 0, .int 0, .int 0, .int 0, .ref (a 5), .ref (a 6), .ref (a 7), .ref (a 8), .ref (a 9), .ref (a 10), .ref (a 11), .ref (a 12), .ref (a 13), .ref (a 14), .ref (a 15), .ref (a 16), .ref (a 17), .ref (a 18), .ref (a 19), .ref (a 20), .ref (a 21), .ref (a 22), .ref (a 23), .ref (a 24), .ref (a 25), .ref (a 26), .ref (a 27), .ref (a 28), .ref (a 29), .ref (a 30), .int 0, .ref (a 31), .ref (a 32)]))] sz)) (va_A [(h, .inr (12, [.ref (a 0), .ref (a 1), .ref (a 2), .ref (a 3), .int 0, .int 0, .int 0, .int 0, .int 0, .int 0, .int 0, .int (-1), .ref (a 4), .int 0, .int 0, .int 0, .int 0, .int 0, .int 0, .int 0, .int 0, .int 0, .int 0, .int 0, .ref (a 5), .ref (a 6), .ref (a 7), .ref (a 8), .ref (a 9), .ref (a 10), .ref (a 11), .ref (a 12), .ref (a 13), .ref (a 14), .ref (a 15), .ref (a 16), .ref (a 17), .ref (a 18), .ref (a 19), .ref (a 20), .ref (a 21), .ref (a 22), .ref (a 23), .ref (a 24), .ref (a 25), .ref (a 26), .ref (a 27), .ref (a 28), .ref (a 29), .ref (a 30), .int 0, .ref (a 31), .ref (a 32)]))] sz)) 0 0 (va_A [(h, .inr (12, [.ref (a 0), .ref (a 1), .ref (a 2), .ref (a 3), .int 0, .int 0, .int 0, .int 0, .int 0, .int 0, .int 0, .int (-1), .ref (a 4), .int 0, .int 0, .int 0, .int 0, .int 0, .int 0, .int 0, .int 0, .int 0, .int 0, .int 0, .ref (a 5), .ref (a 6), .ref (a 7), .ref (a 8), .ref (a 9), .ref (a 10), .ref (a 11), .ref (a 12), .ref (a 13), .ref (a 14), .ref (a 15), .ref (a 16), .ref (a 17), .ref (a 18), .ref (a 19), .ref (a 20), .ref (a 21), .ref (a 22), .ref (a 23), .ref (a 24), .ref (a 25), .ref (a 26), .ref (a 27), .ref (a 28), .ref (a 29), .ref (a 30), .int 0, .ref (a 31), .ref (a 32)]))] sz) := by
  refine ofC_i (cc := cX12_sure) (maxL := 12) (ret := (some .int)) (by decide) rfl (Nat.le_of_ble_eq_true rfl) ?_
  intro p e s m args below meth c A ls Q F hr hin hlk St hl hQ
  have hx := F.1
  have hb := F.2.1
  have hl : lv_has ls 12 [(0, .ref h), (1, .int x1)] := hl
  have St : cS G k [(h, .inr (12, [.ref (a 0), .ref (a 1), .ref (a 2), .ref (a 3), .int 0, .int 0, .int 0, .int 0, .int 0, .int 0, .int 0, .int (-1), .ref (a 4), .int 0, .int 0, .int 0, .int 0, .int 0, .int 0, .int 0, .int 0, .int 0, .int 0, .int 0, .ref (a 5), .ref (a 6), .ref (a 7), .ref (a 8), .ref (a 9), .ref (a 10), .ref (a 11), .ref (a 12), .ref (a 13), .ref (a 14), .ref (a 15), .ref (a 16), .ref (a 17), .ref (a 18), .ref (a 19), .ref (a 20), .ref (a 21), .ref (a 22), .ref (a 23), .ref (a 24), .ref (a 25), .ref (a 26), .ref (a 27), .ref (a 28), .ref (a 29), .ref (a 30), .int 0, .ref (a 31), .ref (a 32)]))] [] A s s.heap [] := St
  refine lv_iload_n hx hb dX12_sure_0 rfl (lv_at hl 1 rfl) ?_
  refine lv_i2l (v := x1.toInt64) hx hb dX12_sure_1 rfl ?_
  refine lv_lconst (v := 1) hx hb dX12_sure_2 (by decide) ?_
  refine lv_ldc2 (v := 84) hx hb F.2.2.2.1 (F.2.2.2.2 _ kk_X12_235) dX12_sure_3 ?_
  refine cs_i St [] [0] (wc := []) (wr := [(h, .inr (12, [.ref (a 0), .ref (a 1), .ref (a 2), .ref (a 3), .int 0, .int 0, .int 0, .int 0, .int 0, .int 0, .int 0, .int (-1), .ref (a 4), .int 0, .int 0, .int 0, .int 0, .int 0, .int 0, .int 0, .int 0, .int 0, .int 0, .int 0, .ref (a 5), .ref (a 6), .ref (a 7), .ref (a 8), .ref (a 9), .ref (a 10), .ref (a 11), .ref (a 12), .ref (a 13), .ref (a 14), .ref (a 15), .ref (a 16), .ref (a 17), .ref (a 18), .ref (a 19), .ref (a 20), .ref (a 21), .ref (a 22), .ref (a 23), .ref (a 24), .ref (a 25), .ref (a 26), .ref (a 27), .ref (a 28), .ref (a 29), .ref (a 30), .int 0, .ref (a 31), .ref (a 32)]))]) rfl rfl (by decide) (by decide) (va_runS (As := [.long x1.toInt64, .long 1, .long 84]) (rest := []) F (c12_in l G k _ x1.toInt64 1 84 x1.toInt 1 84 (Int32.toInt_toInt64 x1) (by decide) (by decide)) (cwSt F mf_X12_in km_X12_58 rfl rfl ⟨Nat.le_of_ble_eq_true rfl, Nat.le_of_ble_eq_true rfl⟩) (cs_pre St [] rfl (by decide) [] rfl) rfl rfl hl.1 rfl (lv_room (Nat.le_of_ble_eq_true rfl)) dX12_sure_6 ⟨Nat.le_of_ble_eq_true rfl, Nat.le_of_ble_eq_true rfl⟩) (fun r_1 u_2 H locs hw St => ?_)
  try dsimp only at hw
  rcases hw with ⟨z_3, hf_4⟩ | ⟨z_5, hf_6⟩
  ·
    subst r_1
    have St : cS G k [(h, .inr (12, [.ref (a 0), .ref (a 1), .ref (a 2), .ref (a 3), .int 0, .int 0, .int 0, .int 0, .int 0, .int 0, .int 0, .int (-1), .ref (a 4), .int 0, .int 0, .int 0, .int 0, .int 0, .int 0, .int 0, .int 0, .int 0, .int 0, .int 0, .ref (a 5), .ref (a 6), .ref (a 7), .ref (a 8), .ref (a 9), .ref (a 10), .ref (a 11), .ref (a 12), .ref (a 13), .ref (a 14), .ref (a 15), .ref (a 16), .ref (a 17), .ref (a 18), .ref (a 19), .ref (a 20), .ref (a 21), .ref (a 22), .ref (a 23), .ref (a 24), .ref (a 25), .ref (a 26), .ref (a 27), .ref (a 28), .ref (a 29), .ref (a 30), .int 0, .ref (a 31), .ref (a 32)]))] [] A s H locs := St
    refine lv_if_ne (tgt := 15) hx hb dX12_sure_9 (by decide) (fun c9 => ?_) (fun c9 => ?_)
    rotate_left
    · exact absurd c9 (by decide)
    refine lv_lconst (v := 0) hx hb dX12_sure_15 (by decide) ?_
    refine lv_lstore_n (lv' := [(2, .long 0), (0, .ref h), (1, .int x1)]) hx hb dX12_sure_16 rfl hl (by decide) rfl (fun ls hl => ?_)
    refine lv_lconst (v := 0) hx hb dX12_sure_17 (by decide) ?_
    refine lv_lstore (lv' := [(4, .long 0), (2, .long 0), (0, .ref h), (1, .int x1)]) hx hb dX12_sure_18 hl (by decide) rfl (fun ls hl => ?_)
    refine lv_lconst (v := 0) hx hb dX12_sure_20 (by decide) ?_
    refine lv_lstore (lv' := [(6, .long 0), (4, .long 0), (2, .long 0), (0, .ref h), (1, .int x1)]) hx hb dX12_sure_21 hl (by decide) rfl (fun ls hl => ?_)
    refine lv_iconst (v := 0) hx hb dX12_sure_23 (by decide) ?_
    refine lv_istore (lv' := [(8, .int 0), (6, .long 0), (4, .long 0), (2, .long 0), (0, .ref h), (1, .int x1)]) hx hb dX12_sure_24 hl (by decide) rfl (fun ls hl => ?_)
    refine lv_iload hx hb dX12_sure_26 (lv_at hl 0 rfl) ?_
    refine lv_aload_n hx hb dX12_sure_28 rfl (lv_at hl 4 rfl) ?_
    refine cs_get F St 0 rfl rfl inX12 20 (by decide) kf_X12_237 rfl dX12_sure_29 ?_
    refine lv_icmp_ge (tgt := 182) hx hb dX12_sure_32 (by decide) (fun c32 => ?_) (fun c32 => ?_)
    rotate_left
    · exact absurd (by decide) c32
    refine lv_lload hx hb dX12_sure_182 (lv_at hl 2 rfl) ?_
    refine lv_lconst (v := 0) hx hb dX12_sure_184 (by decide) ?_
    refine W.lcmp hx hb dX12_sure_185 ?_
    refine top_i (y := 0) (by decide) ?_
    refine lv_if_ne (tgt := 193) hx hb dX12_sure_186 (by decide) (fun c186 => ?_) (fun c186 => ?_)
    · exact absurd c186 (by decide)
    refine lv_iconst (v := 0) hx hb dX12_sure_189 (by decide) ?_
    refine lv_goto (tgt := 201) hx hb dX12_sure_190 (by decide) ?_
    exact cs_iret F hr hlk hQ St () (r := 0) (Or.inl ⟨rfl, by omega⟩) [] rfl (by decide) [] rfl (by decide) (by decide) dX12_sure_201
  ·
    subst r_1
    have St : cS G k [(h, .inr (12, [.ref (a 0), .ref (a 1), .ref (a 2), .ref (a 3), .int 0, .int 0, .int 0, .int 0, .int 0, .int 0, .int 0, .int (-1), .ref (a 4), .int 0, .int 0, .int 0, .int 0, .int 0, .int 0, .int 0, .int 0, .int 0, .int 0, .int 0, .ref (a 5), .ref (a 6), .ref (a 7), .ref (a 8), .ref (a 9), .ref (a 10), .ref (a 11), .ref (a 12), .ref (a 13), .ref (a 14), .ref (a 15), .ref (a 16), .ref (a 17), .ref (a 18), .ref (a 19), .ref (a 20), .ref (a 21), .ref (a 22), .ref (a 23), .ref (a 24), .ref (a 25), .ref (a 26), .ref (a 27), .ref (a 28), .ref (a 29), .ref (a 30), .int 0, .ref (a 31), .ref (a 32)]))] [] A s H locs := St
    refine lv_if_ne (tgt := 15) hx hb dX12_sure_9 (by decide) (fun c9 => ?_) (fun c9 => ?_)
    · exact absurd c9 (by decide)
    refine lv_bipush (v := (-2)) hx hb dX12_sure_12 (by decide) ?_
    exact cs_iret F hr hlk hQ St () (r := (-2)) (Or.inr ⟨rfl, by omega⟩) [] rfl (by decide) [] rfl (by decide) (by decide) dX12_sure_14
set_option maxHeartbeats 4000000 in
set_option maxRecDepth 100000 in
theorem m_carve (l : Launch) (G : va_G) (k : Nat → Nat) (sz : Nat) (h : Nat) (a : Nat → Nat) (d : Nat → ClassId) : Met l yX12_carve (Cond.code yX12_carve cX12_carve 5 (some .int) :: tb) ({ frames := 0, cells := 0, slots := 0, locals := 0 } : Room) (va_Pc [.ref h] (cP G k [(h, .inr (12, [.ref (a 0), .ref (a 1), .ref (a 2), .ref (a 3), .int 0, .int 0, .int 0, .int 0, .int 0, .int 0, .int 0, .int (-1), .ref (a 4), .int 0, .int 0, .int 0, .int 0, .int 0, .int 0, .int 0, .int 0, .int 0, .int 0, .int 0, .ref (a 5), .ref (a 6), .ref (a 7), .ref (a 8), .ref (a 9), .ref (a 10), .ref (a 11), .ref (a 12), .ref (a 13), .ref (a 14), .ref (a 15), .ref (a 16), .ref (a 17), .ref (a 18), .ref (a 19), .ref (a 20), .ref (a 21), .ref (a 22), .ref (a 23), .ref (a 24), .ref (a 25), .ref (a 26), .ref (a 27), .ref (a 28), .ref (a 29), .ref (a 30), .int 0, .ref (a 31), .ref (a 32)])), ((a 31), .inl ((d 31), 30, .inl (fun _ => 0)))] [((d 31), .int)] sz)) (va_Qi (fun (r : Int32) (z0 : (Nat → Int32)) => (r = 0)) (cB G (fun (z0 : (Nat → Int32)) => [(h, .inr (12, [.ref (a 0), .ref (a 1), .ref (a 2), .ref (a 3), .int 0, .int 0, .int 0, .int 0, .int 0, .int 0, .int 0, .int (-1), .ref (a 4), .int 0, .int 0, .int 0, .int 0, .int 0, .int 0, .int 0, .int 0, .int 0, .int 0, .int 0, .ref (a 5), .ref (a 6), .ref (a 7), .ref (a 8), .ref (a 9), .ref (a 10), .ref (a 11), .ref (a 12), .ref (a 13), .ref (a 14), .ref (a 15), .ref (a 16), .ref (a 17), .ref (a 18), .ref (a 19), .ref (a 20), .ref (a 21), .ref (a 22), .ref (a 23), .ref (a 24), .ref (a 25), .ref (a 26), .ref (a 27), .ref (a 28), .ref (a 29), .ref (a 30), .int 0, .ref (a 31), .ref (a 32)])), ((a 31), .inl ((d 31), 30, .inl z0))]) (fun (z0 : (Nat → Int32)) => []) (va_A [(h, .inr (12, [.ref (a 0), .ref (a 1), .ref (a 2), .ref (a 3), .int 0, .int 0, .int 0, .int 0, .int 0, .int 0, .int 0, .int (-1), .ref (a 4), .int 0, .int 0, .int 0, .int 0, .int 0, .int 0, .int 0, .int 0, .int 0, .int 0, .int 0, .ref (a 5), .ref (a 6), .ref (a 7), .ref (a 8), .ref (a 9), .ref (a 10), .ref (a 11), .ref (a 12), .ref (a 13), .ref (a 14), .ref (a 15), .ref (a 16), .ref (a 17), .ref (a 18), .ref (a 19), .ref (a 20), .ref (a 21), .ref (a 22), .ref (a 23), .ref (a 24), .ref (a 25), .ref (a 26), .ref (a 27), .ref (a 28), .ref (a 29), .ref (a 30), .int 0, .ref (a 31), .ref (a 32)])), ((a 31), .inl ((d 31), 30, .inl (fun _ => 0)))] sz)) (va_A [(h, .inr (12, [.ref (a 0), .ref (a 1), .ref (a 2), .ref (a 3), .int 0, .int 0, .int 0, .int 0, .int 0, .int 0, .int 0, .int (-1), .ref (a 4), .int 0, .int 0, .int 0, .int 0, .int 0, .int 0, .int 0, .int 0, .int 0, .int 0, .int 0, .ref (a 5), .ref (a 6), .ref (a 7), .ref (a 8), .ref (a 9), .ref (a 10), .ref (a 11), .ref (a 12), .ref (a 13), .ref (a 14), .ref (a 15), .ref (a 16), .ref (a 17), .ref (a 18), .ref (a 19), .ref (a 20), .ref (a 21), .ref (a 22), .ref (a 23), .ref (a 24), .ref (a 25), .ref (a 26), .ref (a 27), .ref (a 28), .ref (a 29), .ref (a 30), .int 0, .ref (a 31), .ref (a 32)])), ((a 31), .inl ((d 31), 30, .inl (fun _ => 0)))] sz)) 0 0 (va_A [(h, .inr (12, [.ref (a 0), .ref (a 1), .ref (a 2), .ref (a 3), .int 0, .int 0, .int 0, .int 0, .int 0, .int 0, .int 0, .int (-1), .ref (a 4), .int 0, .int 0, .int 0, .int 0, .int 0, .int 0, .int 0, .int 0, .int 0, .int 0, .int 0, .ref (a 5), .ref (a 6), .ref (a 7), .ref (a 8), .ref (a 9), .ref (a 10), .ref (a 11), .ref (a 12), .ref (a 13), .ref (a 14), .ref (a 15), .ref (a 16), .ref (a 17), .ref (a 18), .ref (a 19), .ref (a 20), .ref (a 21), .ref (a 22), .ref (a 23), .ref (a 24), .ref (a 25), .ref (a 26), .ref (a 27), .ref (a 28), .ref (a 29), .ref (a 30), .int 0, .ref (a 31), .ref (a 32)])), ((a 31), .inl ((d 31), 30, .inl (fun _ => 0)))] sz) := by
  refine ofC_i (cc := cX12_carve) (maxL := 5) (ret := (some .int)) (by decide) rfl (Nat.le_of_ble_eq_true rfl) ?_
  intro p e s m args below meth c A ls Q F hr hin hlk St hl hQ
  have hx := F.1
  have hb := F.2.1
  have hl : lv_has ls 5 [(0, .ref h)] := hl
  have St : cS G k [(h, .inr (12, [.ref (a 0), .ref (a 1), .ref (a 2), .ref (a 3), .int 0, .int 0, .int 0, .int 0, .int 0, .int 0, .int 0, .int (-1), .ref (a 4), .int 0, .int 0, .int 0, .int 0, .int 0, .int 0, .int 0, .int 0, .int 0, .int 0, .int 0, .ref (a 5), .ref (a 6), .ref (a 7), .ref (a 8), .ref (a 9), .ref (a 10), .ref (a 11), .ref (a 12), .ref (a 13), .ref (a 14), .ref (a 15), .ref (a 16), .ref (a 17), .ref (a 18), .ref (a 19), .ref (a 20), .ref (a 21), .ref (a 22), .ref (a 23), .ref (a 24), .ref (a 25), .ref (a 26), .ref (a 27), .ref (a 28), .ref (a 29), .ref (a 30), .int 0, .ref (a 31), .ref (a 32)])), ((a 31), .inl ((d 31), 30, .inl (fun _ => 0)))] [((d 31), .int)] A s s.heap [] := St
  refine lv_iconst (v := 0) hx hb dX12_carve_0 (by decide) ?_
  refine lv_istore_n (lv' := [(1, .int 0), (0, .ref h)]) hx hb dX12_carve_1 rfl hl (by decide) rfl (fun ls hl => ?_)
  have lp2 : ∀ (n : Nat) (i : Int32) (fs : Nat → Int32) (H : Heap) (locs : List Loc) (ls : Array Slot), (0 ≤ i.toInt ∧ i.toInt ≤ 30) → ((30 - i.toInt).toNat) < n → cS G k [(h, .inr (12, [.ref (a 0), .ref (a 1), .ref (a 2), .ref (a 3), .int 0, .int 0, .int 0, .int 0, .int 0, .int 0, .int 0, .int (-1), .ref (a 4), .int 0, .int 0, .int 0, .int 0, .int 0, .int 0, .int 0, .int 0, .int 0, .int 0, .int 0, .ref (a 5), .ref (a 6), .ref (a 7), .ref (a 8), .ref (a 9), .ref (a 10), .ref (a 11), .ref (a 12), .ref (a 13), .ref (a 14), .ref (a 15), .ref (a 16), .ref (a 17), .ref (a 18), .ref (a 19), .ref (a 20), .ref (a 21), .ref (a 22), .ref (a 23), .ref (a 24), .ref (a 25), .ref (a 26), .ref (a 27), .ref (a 28), .ref (a 29), .ref (a 30), .int 0, .ref (a 31), .ref (a 32)])), ((a 31), .inl ((d 31), 30, .inl fs))] [((d 31), .int)] A s H locs → lv_has ls 5 [(1, .int i), (0, .ref h)] → W p l e ({ frames := 0, cells := 0, slots := 0, locals := 0 } : Room) s m args below meth c H locs 0 0 Q (F0 m 2 ls []) := by
    intro n
    induction n with
    | zero => intro i fs H locs ls hI hn; exact absurd hn (Nat.not_lt_zero _)
    | succ n ih =>
      intro i fs H locs ls hI hn St hl
      obtain ⟨hI0, hI1⟩ := hI
      refine lv_iload_n hx hb dX12_carve_2 rfl (lv_at hl 0 rfl) ?_
      refine lv_bipush (v := 30) hx hb dX12_carve_3 (by decide) ?_
      refine lv_icmp_ge (tgt := 21) hx hb dX12_carve_5 (by decide) (fun c5 => ?_) (fun c5 => ?_)
      ·
        have i5 := ci_le (x := 30) (y := i) (show (30 : Int32).toInt = 30 by decide) rfl c5
        refine lv_iconst (v := 0) hx hb dX12_carve_21 (by decide) ?_
        refine lv_istore_n (lv' := [(1, .int 0), (0, .ref h)]) hx hb dX12_carve_22 rfl hl (by decide) rfl (fun ls hl => ?_)
        refine lv_iconst (v := 0) hx hb dX12_carve_23 (by decide) ?_
        refine lv_istore_n (lv' := [(2, .int 0), (1, .int 0), (0, .ref h)]) hx hb dX12_carve_24 rfl hl (by decide) rfl (fun ls hl => ?_)
        refine lv_iload_n hx hb dX12_carve_25 rfl (lv_at hl 0 rfl) ?_
        refine lv_aload_n hx hb dX12_carve_26 rfl (lv_at hl 2 rfl) ?_
        refine cs_get F St 0 rfl rfl inX12 21 (by decide) kf_X12_246 rfl dX12_carve_27 ?_
        refine lv_icmp_ge (tgt := 133) hx hb dX12_carve_30 (by decide) (fun c30 => ?_) (fun c30 => ?_)
        rotate_left
        · exact absurd (by decide) c30
        refine lv_iload_n hx hb dX12_carve_133 rfl (lv_at hl 1 rfl) ?_
        exact cs_iret F hr hlk hQ St fs (r := 0) rfl [0, 1] rfl (by decide) [] rfl (by decide) (by decide) dX12_carve_134
      ·
        have i5 := ci_nle (x := 30) (y := i) (show (30 : Int32).toInt = 30 by decide) rfl c5
        refine lv_aload_n hx hb dX12_carve_8 rfl (lv_at hl 1 rfl) ?_
        refine cs_get F St 0 rfl rfl inX12 51 (by decide) kf_X12_197 rfl dX12_carve_9 ?_
        refine lv_iload_n hx hb dX12_carve_12 rfl (lv_at hl 0 rfl) ?_
        refine lv_iconst (v := 0) hx hb dX12_carve_13 (by decide) ?_
        refine cs_ist F St 1 0 rfl rfl (vp_in_iff.mpr ⟨by omega, by omega⟩) (w' := [(h, .inr (12, [.ref (a 0), .ref (a 1), .ref (a 2), .ref (a 3), .int 0, .int 0, .int 0, .int 0, .int 0, .int 0, .int 0, .int (-1), .ref (a 4), .int 0, .int 0, .int 0, .int 0, .int 0, .int 0, .int 0, .int 0, .int 0, .int 0, .int 0, .ref (a 5), .ref (a 6), .ref (a 7), .ref (a 8), .ref (a 9), .ref (a 10), .ref (a 11), .ref (a 12), .ref (a 13), .ref (a 14), .ref (a 15), .ref (a 16), .ref (a 17), .ref (a 18), .ref (a 19), .ref (a 20), .ref (a 21), .ref (a 22), .ref (a 23), .ref (a 24), .ref (a 25), .ref (a 26), .ref (a 27), .ref (a 28), .ref (a 29), .ref (a 30), .int 0, .ref (a 31), .ref (a 32)])), ((a 31), .inl ((d 31), 30, .inl (upd fs (i : Int32).toNatClampNeg 0)))]) rfl dX12_carve_14 (fun H locs St => ?_)
        obtain ⟨f_1, ef_1⟩ : ∃ zz : Nat → Int32, zz = upd fs (i : Int32).toNatClampNeg 0 := ⟨_, rfl⟩
        rw [← ef_1] at St
        obtain ⟨y_2, ey_2⟩ : ∃ zz : Int32, zz = i + 1 := ⟨_, rfl⟩
        have jy_2 := ci_add (x := i) rfl (show (1 : Int32).toInt = 1 by decide) ey_2
        refine lv_iinc (v := y_2) (lv' := [(1, .int y_2), (0, .ref h)]) hx hb dX12_carve_15 hl (k := 0) rfl (by rw [ey_2]; rfl) (by decide) rfl (fun ls hl => ?_)
        refine lv_goto (tgt := 2) hx hb dX12_carve_18 (by decide) ?_
        exact ih y_2 f_1 _ _ _ ⟨by omega, by omega⟩ (by omega) St (lv_sub hl [0, 1] rfl)
  exact lp2 31 0 (fun _ => 0) _ _ _ ⟨by decide, by decide⟩ (by decide) St (lv_sub hl [0, 1] rfl)
set_option maxHeartbeats 4000000 in
set_option maxRecDepth 100000 in
theorem m_stone (l : Launch) (G : va_G) (k : Nat → Nat) (sz : Nat) (h : Nat) (a : Nat → Nat) (d : Nat → ClassId) (x1 : Int32) : Met l yX12_stone (Cond.code yX12_stone cX12_stone 2 (some .int) :: tb) ({ frames := 1, cells := 0, slots := 0, locals := 25 } : Room) (va_Pc [.ref h, .int x1] (cP G k [(h, .inr (12, [.ref (a 0), .ref (a 1), .ref (a 2), .ref (a 3), .int 0, .int 0, .int 0, .int 0, .int 0, .int 0, .int 0, .int (-1), .ref (a 4), .int 0, .int 0, .int 0, .int 0, .int 0, .int 0, .int 0, .int 0, .int 0, .int 0, .int 0, .ref (a 5), .ref (a 6), .ref (a 7), .ref (a 8), .ref (a 9), .ref (a 10), .ref (a 11), .ref (a 12), .ref (a 13), .ref (a 14), .ref (a 15), .ref (a 16), .ref (a 17), .ref (a 18), .ref (a 19), .ref (a 20), .ref (a 21), .ref (a 22), .ref (a 23), .ref (a 24), .ref (a 25), .ref (a 26), .ref (a 27), .ref (a 28), .ref (a 29), .ref (a 30), .int 0, .ref (a 31), .ref (a 32)])), ((a 31), .inl ((d 31), 30, .inl (fun _ => 0)))] [((d 31), .int)] sz)) (va_Qi (fun (r : Int32) (_ : Unit) => (r = (-1))) (cB G (fun (_ : Unit) => []) (fun (_ : Unit) => []) (va_A [(h, .inr (12, [.ref (a 0), .ref (a 1), .ref (a 2), .ref (a 3), .int 0, .int 0, .int 0, .int 0, .int 0, .int 0, .int 0, .int (-1), .ref (a 4), .int 0, .int 0, .int 0, .int 0, .int 0, .int 0, .int 0, .int 0, .int 0, .int 0, .int 0, .ref (a 5), .ref (a 6), .ref (a 7), .ref (a 8), .ref (a 9), .ref (a 10), .ref (a 11), .ref (a 12), .ref (a 13), .ref (a 14), .ref (a 15), .ref (a 16), .ref (a 17), .ref (a 18), .ref (a 19), .ref (a 20), .ref (a 21), .ref (a 22), .ref (a 23), .ref (a 24), .ref (a 25), .ref (a 26), .ref (a 27), .ref (a 28), .ref (a 29), .ref (a 30), .int 0, .ref (a 31), .ref (a 32)])), ((a 31), .inl ((d 31), 30, .inl (fun _ => 0)))] sz)) (va_A [(h, .inr (12, [.ref (a 0), .ref (a 1), .ref (a 2), .ref (a 3), .int 0, .int 0, .int 0, .int 0, .int 0, .int 0, .int 0, .int (-1), .ref (a 4), .int 0, .int 0, .int 0, .int 0, .int 0, .int 0, .int 0, .int 0, .int 0, .int 0, .int 0, .ref (a 5), .ref (a 6), .ref (a 7), .ref (a 8), .ref (a 9), .ref (a 10), .ref (a 11), .ref (a 12), .ref (a 13), .ref (a 14), .ref (a 15), .ref (a 16), .ref (a 17), .ref (a 18), .ref (a 19), .ref (a 20), .ref (a 21), .ref (a 22), .ref (a 23), .ref (a 24), .ref (a 25), .ref (a 26), .ref (a 27), .ref (a 28), .ref (a 29), .ref (a 30), .int 0, .ref (a 31), .ref (a 32)])), ((a 31), .inl ((d 31), 30, .inl (fun _ => 0)))] sz)) 0 0 (va_A [(h, .inr (12, [.ref (a 0), .ref (a 1), .ref (a 2), .ref (a 3), .int 0, .int 0, .int 0, .int 0, .int 0, .int 0, .int 0, .int (-1), .ref (a 4), .int 0, .int 0, .int 0, .int 0, .int 0, .int 0, .int 0, .int 0, .int 0, .int 0, .int 0, .ref (a 5), .ref (a 6), .ref (a 7), .ref (a 8), .ref (a 9), .ref (a 10), .ref (a 11), .ref (a 12), .ref (a 13), .ref (a 14), .ref (a 15), .ref (a 16), .ref (a 17), .ref (a 18), .ref (a 19), .ref (a 20), .ref (a 21), .ref (a 22), .ref (a 23), .ref (a 24), .ref (a 25), .ref (a 26), .ref (a 27), .ref (a 28), .ref (a 29), .ref (a 30), .int 0, .ref (a 31), .ref (a 32)])), ((a 31), .inl ((d 31), 30, .inl (fun _ => 0)))] sz) := by
  refine ofC_i (cc := cX12_stone) (maxL := 2) (ret := (some .int)) (by decide) rfl (Nat.le_of_ble_eq_true rfl) ?_
  intro p e s m args below meth c A ls Q F hr hin hlk St hl hQ
  have hx := F.1
  have hb := F.2.1
  have hl : lv_has ls 2 [(0, .ref h), (1, .int x1)] := hl
  have St : cS G k [(h, .inr (12, [.ref (a 0), .ref (a 1), .ref (a 2), .ref (a 3), .int 0, .int 0, .int 0, .int 0, .int 0, .int 0, .int 0, .int (-1), .ref (a 4), .int 0, .int 0, .int 0, .int 0, .int 0, .int 0, .int 0, .int 0, .int 0, .int 0, .int 0, .ref (a 5), .ref (a 6), .ref (a 7), .ref (a 8), .ref (a 9), .ref (a 10), .ref (a 11), .ref (a 12), .ref (a 13), .ref (a 14), .ref (a 15), .ref (a 16), .ref (a 17), .ref (a 18), .ref (a 19), .ref (a 20), .ref (a 21), .ref (a 22), .ref (a 23), .ref (a 24), .ref (a 25), .ref (a 26), .ref (a 27), .ref (a 28), .ref (a 29), .ref (a 30), .int 0, .ref (a 31), .ref (a 32)])), ((a 31), .inl ((d 31), 30, .inl (fun _ => 0)))] [((d 31), .int)] A s s.heap [] := St
  refine lv_iload_n hx hb dX12_stone_0 rfl (lv_at hl 1 rfl) ?_
  refine lv_i2l (v := x1.toInt64) hx hb dX12_stone_1 rfl ?_
  refine lv_lconst (v := 0) hx hb dX12_stone_2 (by decide) ?_
  refine lv_aload_n hx hb dX12_stone_3 rfl (lv_at hl 0 rfl) ?_
  refine cs_i St [0, 1] [] (wc := [(h, .inr (12, [.ref (a 0), .ref (a 1), .ref (a 2), .ref (a 3), .int 0, .int 0, .int 0, .int 0, .int 0, .int 0, .int 0, .int (-1), .ref (a 4), .int 0, .int 0, .int 0, .int 0, .int 0, .int 0, .int 0, .int 0, .int 0, .int 0, .int 0, .ref (a 5), .ref (a 6), .ref (a 7), .ref (a 8), .ref (a 9), .ref (a 10), .ref (a 11), .ref (a 12), .ref (a 13), .ref (a 14), .ref (a 15), .ref (a 16), .ref (a 17), .ref (a 18), .ref (a 19), .ref (a 20), .ref (a 21), .ref (a 22), .ref (a 23), .ref (a 24), .ref (a 25), .ref (a 26), .ref (a 27), .ref (a 28), .ref (a 29), .ref (a 30), .int 0, .ref (a 31), .ref (a 32)])), ((a 31), .inl ((d 31), 30, .inl (fun _ => 0)))]) (wr := []) rfl rfl (by decide) (by decide) (va_runV (As := []) (rest := [.long 0, .long x1.toInt64]) F (m_carve l G k _ h a d) (cwVt F mf_X12_carve km_X12_314 rfl rfl ⟨Nat.le_of_ble_eq_true rfl, Nat.le_of_ble_eq_true rfl⟩) (cs_preV St [0, 1] rfl (by decide) [0] rfl (ci := 12) (q0 := 0) rfl rfl) rfl rfl hl.1 rfl (lv_room (Nat.le_of_ble_eq_true rfl)) dX12_stone_4 ⟨Nat.le_of_ble_eq_true rfl, Nat.le_of_ble_eq_true rfl⟩) (fun r_1 u_2 H locs hw St => ?_)
  obtain ⟨z0_3, rfl⟩ : ∃ z, z = u_2 := ⟨_, rfl⟩
  try dsimp only at hw
  have z_4 := hw
  subst r_1
  have St : cS G k [(h, .inr (12, [.ref (a 0), .ref (a 1), .ref (a 2), .ref (a 3), .int 0, .int 0, .int 0, .int 0, .int 0, .int 0, .int 0, .int (-1), .ref (a 4), .int 0, .int 0, .int 0, .int 0, .int 0, .int 0, .int 0, .int 0, .int 0, .int 0, .int 0, .ref (a 5), .ref (a 6), .ref (a 7), .ref (a 8), .ref (a 9), .ref (a 10), .ref (a 11), .ref (a 12), .ref (a 13), .ref (a 14), .ref (a 15), .ref (a 16), .ref (a 17), .ref (a 18), .ref (a 19), .ref (a 20), .ref (a 21), .ref (a 22), .ref (a 23), .ref (a 24), .ref (a 25), .ref (a 26), .ref (a 27), .ref (a 28), .ref (a 29), .ref (a 30), .int 0, .ref (a 31), .ref (a 32)])), ((a 31), .inl ((d 31), 30, .inl z0_3))] [((d 31), .int)] A s H locs := St
  refine lv_i2l (v := 0) hx hb dX12_stone_7 (by decide) ?_
  refine lv_lconst (v := 1) hx hb dX12_stone_8 (by decide) ?_
  refine lv_lsub hx hb dX12_stone_9 ?_
  refine top_l (y := (-1)) (by decide) ?_
  refine cs_i St [] [0, 1] (wc := []) (wr := [(h, .inr (12, [.ref (a 0), .ref (a 1), .ref (a 2), .ref (a 3), .int 0, .int 0, .int 0, .int 0, .int 0, .int 0, .int 0, .int (-1), .ref (a 4), .int 0, .int 0, .int 0, .int 0, .int 0, .int 0, .int 0, .int 0, .int 0, .int 0, .int 0, .ref (a 5), .ref (a 6), .ref (a 7), .ref (a 8), .ref (a 9), .ref (a 10), .ref (a 11), .ref (a 12), .ref (a 13), .ref (a 14), .ref (a 15), .ref (a 16), .ref (a 17), .ref (a 18), .ref (a 19), .ref (a 20), .ref (a 21), .ref (a 22), .ref (a 23), .ref (a 24), .ref (a 25), .ref (a 26), .ref (a 27), .ref (a 28), .ref (a 29), .ref (a 30), .int 0, .ref (a 31), .ref (a 32)])), ((a 31), .inl ((d 31), 30, .inl z0_3))]) rfl rfl (by decide) (by decide) (va_runS (As := [.long x1.toInt64, .long 0, .long (-1)]) (rest := []) F (c12_in l G k _ x1.toInt64 0 (-1) x1.toInt 0 (-1) (Int32.toInt_toInt64 x1) (by decide) (by decide)) (cwSt F mf_X12_in km_X12_58 rfl rfl ⟨Nat.le_of_ble_eq_true rfl, Nat.le_of_ble_eq_true rfl⟩) (cs_pre St [] rfl (by decide) [] rfl) rfl rfl hl.1 rfl (lv_room (Nat.le_of_ble_eq_true rfl)) dX12_stone_10 ⟨Nat.le_of_ble_eq_true rfl, Nat.le_of_ble_eq_true rfl⟩) (fun r_5 u_6 H locs hw St => ?_)
  try dsimp only at hw
  rcases hw with ⟨z_7, hf_8⟩ | ⟨z_9, hf_10⟩
  ·
    exact False.elim (by omega)
  ·
    subst r_5
    have St : cS G k [(h, .inr (12, [.ref (a 0), .ref (a 1), .ref (a 2), .ref (a 3), .int 0, .int 0, .int 0, .int 0, .int 0, .int 0, .int 0, .int (-1), .ref (a 4), .int 0, .int 0, .int 0, .int 0, .int 0, .int 0, .int 0, .int 0, .int 0, .int 0, .int 0, .ref (a 5), .ref (a 6), .ref (a 7), .ref (a 8), .ref (a 9), .ref (a 10), .ref (a 11), .ref (a 12), .ref (a 13), .ref (a 14), .ref (a 15), .ref (a 16), .ref (a 17), .ref (a 18), .ref (a 19), .ref (a 20), .ref (a 21), .ref (a 22), .ref (a 23), .ref (a 24), .ref (a 25), .ref (a 26), .ref (a 27), .ref (a 28), .ref (a 29), .ref (a 30), .int 0, .ref (a 31), .ref (a 32)])), ((a 31), .inl ((d 31), 30, .inl z0_3))] [((d 31), .int)] A s H locs := St
    refine lv_if_eq (tgt := 25) hx hb dX12_stone_13 (by decide) (fun c13 => ?_) (fun c13 => ?_)
    rotate_left
    · exact absurd (by decide) c13
    refine lv_iconst (v := (-1)) hx hb dX12_stone_25 (by decide) ?_
    exact cs_iret F hr hlk hQ St () (r := (-1)) rfl [] rfl (by decide) [] rfl (by decide) (by decide) dX12_stone_26
set_option maxHeartbeats 4000000 in
set_option maxRecDepth 100000 in
theorem m_allGiven (l : Launch) (G : va_G) (k : Nat → Nat) (sz : Nat) (h : Nat) (a : Nat → Nat) (sp : Int32) : Met l yX12_allGiven (Cond.code yX12_allGiven cX12_allGiven 3 (some .int) :: tb) ({ frames := 0, cells := 0, slots := 0, locals := 0 } : Room) (va_Pc [.ref h] (cP G k [(h, .inr (12, [.ref (a 0), .ref (a 1), .ref (a 2), .ref (a 3), .int 0, .int 0, .int 0, .int 0, .int 0, .int 0, .int 0, .int (-1), .ref (a 4), .int 0, .int 0, .int 0, .int 0, .int 0, .int 0, .int 0, .int 0, .int 0, .int 0, .int sp, .ref (a 5), .ref (a 6), .ref (a 7), .ref (a 8), .ref (a 9), .ref (a 10), .ref (a 11), .ref (a 12), .ref (a 13), .ref (a 14), .ref (a 15), .ref (a 16), .ref (a 17), .ref (a 18), .ref (a 19), .ref (a 20), .ref (a 21), .ref (a 22), .ref (a 23), .ref (a 24), .ref (a 25), .ref (a 26), .ref (a 27), .ref (a 28), .ref (a 29), .ref (a 30), .int 0, .ref (a 31), .ref (a 32)]))] [] sz)) (va_Qi (fun (r : Int32) (_ : Unit) => (r = 0)) (cB G (fun (_ : Unit) => [(h, .inr (12, [.ref (a 0), .ref (a 1), .ref (a 2), .ref (a 3), .int 0, .int 0, .int 0, .int 0, .int 0, .int 0, .int 0, .int (-1), .ref (a 4), .int 0, .int 0, .int 0, .int 0, .int 0, .int 0, .int 0, .int 0, .int 0, .int 0, .int sp, .ref (a 5), .ref (a 6), .ref (a 7), .ref (a 8), .ref (a 9), .ref (a 10), .ref (a 11), .ref (a 12), .ref (a 13), .ref (a 14), .ref (a 15), .ref (a 16), .ref (a 17), .ref (a 18), .ref (a 19), .ref (a 20), .ref (a 21), .ref (a 22), .ref (a 23), .ref (a 24), .ref (a 25), .ref (a 26), .ref (a 27), .ref (a 28), .ref (a 29), .ref (a 30), .int 0, .ref (a 31), .ref (a 32)]))]) (fun (_ : Unit) => []) (va_A [(h, .inr (12, [.ref (a 0), .ref (a 1), .ref (a 2), .ref (a 3), .int 0, .int 0, .int 0, .int 0, .int 0, .int 0, .int 0, .int (-1), .ref (a 4), .int 0, .int 0, .int 0, .int 0, .int 0, .int 0, .int 0, .int 0, .int 0, .int 0, .int sp, .ref (a 5), .ref (a 6), .ref (a 7), .ref (a 8), .ref (a 9), .ref (a 10), .ref (a 11), .ref (a 12), .ref (a 13), .ref (a 14), .ref (a 15), .ref (a 16), .ref (a 17), .ref (a 18), .ref (a 19), .ref (a 20), .ref (a 21), .ref (a 22), .ref (a 23), .ref (a 24), .ref (a 25), .ref (a 26), .ref (a 27), .ref (a 28), .ref (a 29), .ref (a 30), .int 0, .ref (a 31), .ref (a 32)]))] sz)) (va_A [(h, .inr (12, [.ref (a 0), .ref (a 1), .ref (a 2), .ref (a 3), .int 0, .int 0, .int 0, .int 0, .int 0, .int 0, .int 0, .int (-1), .ref (a 4), .int 0, .int 0, .int 0, .int 0, .int 0, .int 0, .int 0, .int 0, .int 0, .int 0, .int sp, .ref (a 5), .ref (a 6), .ref (a 7), .ref (a 8), .ref (a 9), .ref (a 10), .ref (a 11), .ref (a 12), .ref (a 13), .ref (a 14), .ref (a 15), .ref (a 16), .ref (a 17), .ref (a 18), .ref (a 19), .ref (a 20), .ref (a 21), .ref (a 22), .ref (a 23), .ref (a 24), .ref (a 25), .ref (a 26), .ref (a 27), .ref (a 28), .ref (a 29), .ref (a 30), .int 0, .ref (a 31), .ref (a 32)]))] sz)) 0 0 (va_A [(h, .inr (12, [.ref (a 0), .ref (a 1), .ref (a 2), .ref (a 3), .int 0, .int 0, .int 0, .int 0, .int 0, .int 0, .int 0, .int (-1), .ref (a 4), .int 0, .int 0, .int 0, .int 0, .int 0, .int 0, .int 0, .int 0, .int 0, .int 0, .int sp, .ref (a 5), .ref (a 6), .ref (a 7), .ref (a 8), .ref (a 9), .ref (a 10), .ref (a 11), .ref (a 12), .ref (a 13), .ref (a 14), .ref (a 15), .ref (a 16), .ref (a 17), .ref (a 18), .ref (a 19), .ref (a 20), .ref (a 21), .ref (a 22), .ref (a 23), .ref (a 24), .ref (a 25), .ref (a 26), .ref (a 27), .ref (a 28), .ref (a 29), .ref (a 30), .int 0, .ref (a 31), .ref (a 32)]))] sz) := by
  refine ofC_i (cc := cX12_allGiven) (maxL := 3) (ret := (some .int)) (by decide) rfl (Nat.le_of_ble_eq_true rfl) ?_
  intro p e s m args below meth c A ls Q F hr hin hlk St hl hQ
  have hx := F.1
  have hb := F.2.1
  have hl : lv_has ls 3 [(0, .ref h)] := hl
  have St : cS G k [(h, .inr (12, [.ref (a 0), .ref (a 1), .ref (a 2), .ref (a 3), .int 0, .int 0, .int 0, .int 0, .int 0, .int 0, .int 0, .int (-1), .ref (a 4), .int 0, .int 0, .int 0, .int 0, .int 0, .int 0, .int 0, .int 0, .int 0, .int 0, .int sp, .ref (a 5), .ref (a 6), .ref (a 7), .ref (a 8), .ref (a 9), .ref (a 10), .ref (a 11), .ref (a 12), .ref (a 13), .ref (a 14), .ref (a 15), .ref (a 16), .ref (a 17), .ref (a 18), .ref (a 19), .ref (a 20), .ref (a 21), .ref (a 22), .ref (a 23), .ref (a 24), .ref (a 25), .ref (a 26), .ref (a 27), .ref (a 28), .ref (a 29), .ref (a 30), .int 0, .ref (a 31), .ref (a 32)]))] [] A s s.heap [] := St
  refine lv_iconst (v := 0) hx hb dX12_allGiven_0 (by decide) ?_
  refine lv_istore_n (lv' := [(1, .int 0), (0, .ref h)]) hx hb dX12_allGiven_1 rfl hl (by decide) rfl (fun ls hl => ?_)
  refine lv_iconst (v := 0) hx hb dX12_allGiven_2 (by decide) ?_
  refine lv_istore_n (lv' := [(2, .int 0), (1, .int 0), (0, .ref h)]) hx hb dX12_allGiven_3 rfl hl (by decide) rfl (fun ls hl => ?_)
  refine lv_iload_n hx hb dX12_allGiven_4 rfl (lv_at hl 0 rfl) ?_
  refine lv_aload_n hx hb dX12_allGiven_5 rfl (lv_at hl 2 rfl) ?_
  refine cs_get F St 0 rfl rfl inX12 21 (by decide) kf_X12_246 rfl dX12_allGiven_6 ?_
  refine lv_icmp_ge (tgt := 27) hx hb dX12_allGiven_9 (by decide) (fun c9 => ?_) (fun c9 => ?_)
  rotate_left
  · exact absurd (by decide) c9
  refine lv_iload_n hx hb dX12_allGiven_27 rfl (lv_at hl 1 rfl) ?_
  exact cs_iret F hr hlk hQ St () (r := 0) rfl [0] rfl (by decide) [] rfl (by decide) (by decide) dX12_allGiven_28
set_option maxHeartbeats 4000000 in
set_option maxRecDepth 100000 in
theorem m_stop (l : Launch) (G : va_G) (k : Nat → Nat) (sz : Nat) (h : Nat) (a : Nat → Nat) (d : Nat → ClassId) : Met l yX12_stop (Cond.code yX12_stop cX12_stop 4 (some .int) :: tb) ({ frames := 1, cells := 0, slots := 0, locals := 22 } : Room) (va_Pc [.ref h] (cP G k [(h, .inr (12, [.ref (a 0), .ref (a 1), .ref (a 2), .ref (a 3), .int 0, .int 0, .int 0, .int 0, .int 0, .int 0, .int 0, .int (-1), .ref (a 4), .int 0, .int 0, .int 0, .int 0, .int 0, .int 0, .int 0, .int 0, .int 0, .int 0, .int 0, .ref (a 5), .ref (a 6), .ref (a 7), .ref (a 8), .ref (a 9), .ref (a 10), .ref (a 11), .ref (a 12), .ref (a 13), .ref (a 14), .ref (a 15), .ref (a 16), .ref (a 17), .ref (a 18), .ref (a 19), .ref (a 20), .ref (a 21), .ref (a 22), .ref (a 23), .ref (a 24), .ref (a 25), .ref (a 26), .ref (a 27), .ref (a 28), .ref (a 29), .ref (a 30), .int 0, .ref (a 31), .ref (a 32)])), ((a 8), .inl ((d 8), 30, .inl (fun _ => 0)))] [((d 8), .int)] sz)) (va_Qi (fun (r : Int32) (_ : Unit) => (r = 0)) (cB G (fun (_ : Unit) => []) (fun (_ : Unit) => []) (va_A [(h, .inr (12, [.ref (a 0), .ref (a 1), .ref (a 2), .ref (a 3), .int 0, .int 0, .int 0, .int 0, .int 0, .int 0, .int 0, .int (-1), .ref (a 4), .int 0, .int 0, .int 0, .int 0, .int 0, .int 0, .int 0, .int 0, .int 0, .int 0, .int 0, .ref (a 5), .ref (a 6), .ref (a 7), .ref (a 8), .ref (a 9), .ref (a 10), .ref (a 11), .ref (a 12), .ref (a 13), .ref (a 14), .ref (a 15), .ref (a 16), .ref (a 17), .ref (a 18), .ref (a 19), .ref (a 20), .ref (a 21), .ref (a 22), .ref (a 23), .ref (a 24), .ref (a 25), .ref (a 26), .ref (a 27), .ref (a 28), .ref (a 29), .ref (a 30), .int 0, .ref (a 31), .ref (a 32)])), ((a 8), .inl ((d 8), 30, .inl (fun _ => 0)))] sz)) (va_A [(h, .inr (12, [.ref (a 0), .ref (a 1), .ref (a 2), .ref (a 3), .int 0, .int 0, .int 0, .int 0, .int 0, .int 0, .int 0, .int (-1), .ref (a 4), .int 0, .int 0, .int 0, .int 0, .int 0, .int 0, .int 0, .int 0, .int 0, .int 0, .int 0, .ref (a 5), .ref (a 6), .ref (a 7), .ref (a 8), .ref (a 9), .ref (a 10), .ref (a 11), .ref (a 12), .ref (a 13), .ref (a 14), .ref (a 15), .ref (a 16), .ref (a 17), .ref (a 18), .ref (a 19), .ref (a 20), .ref (a 21), .ref (a 22), .ref (a 23), .ref (a 24), .ref (a 25), .ref (a 26), .ref (a 27), .ref (a 28), .ref (a 29), .ref (a 30), .int 0, .ref (a 31), .ref (a 32)])), ((a 8), .inl ((d 8), 30, .inl (fun _ => 0)))] sz)) 0 0 (va_A [(h, .inr (12, [.ref (a 0), .ref (a 1), .ref (a 2), .ref (a 3), .int 0, .int 0, .int 0, .int 0, .int 0, .int 0, .int 0, .int (-1), .ref (a 4), .int 0, .int 0, .int 0, .int 0, .int 0, .int 0, .int 0, .int 0, .int 0, .int 0, .int 0, .ref (a 5), .ref (a 6), .ref (a 7), .ref (a 8), .ref (a 9), .ref (a 10), .ref (a 11), .ref (a 12), .ref (a 13), .ref (a 14), .ref (a 15), .ref (a 16), .ref (a 17), .ref (a 18), .ref (a 19), .ref (a 20), .ref (a 21), .ref (a 22), .ref (a 23), .ref (a 24), .ref (a 25), .ref (a 26), .ref (a 27), .ref (a 28), .ref (a 29), .ref (a 30), .int 0, .ref (a 31), .ref (a 32)])), ((a 8), .inl ((d 8), 30, .inl (fun _ => 0)))] sz) := by
  refine ofC_i (cc := cX12_stop) (maxL := 4) (ret := (some .int)) (by decide) rfl (Nat.le_of_ble_eq_true rfl) ?_
  intro p e s m args below meth c A ls Q F hr hin hlk St hl hQ
  have hx := F.1
  have hb := F.2.1
  have hl : lv_has ls 4 [(0, .ref h)] := hl
  have St : cS G k [(h, .inr (12, [.ref (a 0), .ref (a 1), .ref (a 2), .ref (a 3), .int 0, .int 0, .int 0, .int 0, .int 0, .int 0, .int 0, .int (-1), .ref (a 4), .int 0, .int 0, .int 0, .int 0, .int 0, .int 0, .int 0, .int 0, .int 0, .int 0, .int 0, .ref (a 5), .ref (a 6), .ref (a 7), .ref (a 8), .ref (a 9), .ref (a 10), .ref (a 11), .ref (a 12), .ref (a 13), .ref (a 14), .ref (a 15), .ref (a 16), .ref (a 17), .ref (a 18), .ref (a 19), .ref (a 20), .ref (a 21), .ref (a 22), .ref (a 23), .ref (a 24), .ref (a 25), .ref (a 26), .ref (a 27), .ref (a 28), .ref (a 29), .ref (a 30), .int 0, .ref (a 31), .ref (a 32)])), ((a 8), .inl ((d 8), 30, .inl (fun _ => 0)))] [((d 8), .int)] A s s.heap [] := St
  refine lv_aload_n hx hb dX12_stop_0 rfl (lv_at hl 0 rfl) ?_
  refine cs_get F St 0 rfl rfl inX12 23 (by decide) kf_X12_224 rfl dX12_stop_1 ?_
  refine lv_if_eq (tgt := 10) hx hb dX12_stop_4 (by decide) (fun c4 => ?_) (fun c4 => ?_)
  rotate_left
  · exact absurd (by decide) c4
  refine lv_aload_n hx hb dX12_stop_10 rfl (lv_at hl 0 rfl) ?_
  refine lv_iconst (v := 1) hx hb dX12_stop_11 (by decide) ?_
  refine cs_put F St 0 rfl rfl inX12 tyX12_ok nmX12 23 (by decide) kf_X12_224 rfl rfl rfl (Nat.le_of_ble_eq_true rfl) (w' := [(h, .inr (12, [.ref (a 0), .ref (a 1), .ref (a 2), .ref (a 3), .int 0, .int 0, .int 0, .int 0, .int 0, .int 0, .int 0, .int (-1), .ref (a 4), .int 0, .int 0, .int 0, .int 0, .int 0, .int 0, .int 0, .int 0, .int 0, .int 0, .int 1, .ref (a 5), .ref (a 6), .ref (a 7), .ref (a 8), .ref (a 9), .ref (a 10), .ref (a 11), .ref (a 12), .ref (a 13), .ref (a 14), .ref (a 15), .ref (a 16), .ref (a 17), .ref (a 18), .ref (a 19), .ref (a 20), .ref (a 21), .ref (a 22), .ref (a 23), .ref (a 24), .ref (a 25), .ref (a 26), .ref (a 27), .ref (a 28), .ref (a 29), .ref (a 30), .int 0, .ref (a 31), .ref (a 32)])), ((a 8), .inl ((d 8), 30, .inl (fun _ => 0)))]) rfl dX12_stop_12 (fun H locs St => ?_)
  refine lv_aload_n hx hb dX12_stop_15 rfl (lv_at hl 0 rfl) ?_
  refine cs_i St [0] [1] (wc := [(h, .inr (12, [.ref (a 0), .ref (a 1), .ref (a 2), .ref (a 3), .int 0, .int 0, .int 0, .int 0, .int 0, .int 0, .int 0, .int (-1), .ref (a 4), .int 0, .int 0, .int 0, .int 0, .int 0, .int 0, .int 0, .int 0, .int 0, .int 0, .int 1, .ref (a 5), .ref (a 6), .ref (a 7), .ref (a 8), .ref (a 9), .ref (a 10), .ref (a 11), .ref (a 12), .ref (a 13), .ref (a 14), .ref (a 15), .ref (a 16), .ref (a 17), .ref (a 18), .ref (a 19), .ref (a 20), .ref (a 21), .ref (a 22), .ref (a 23), .ref (a 24), .ref (a 25), .ref (a 26), .ref (a 27), .ref (a 28), .ref (a 29), .ref (a 30), .int 0, .ref (a 31), .ref (a 32)]))]) (wr := [((a 8), .inl ((d 8), 30, .inl (fun _ => 0)))]) rfl rfl (by decide) (by decide) (va_runV (As := []) (rest := []) F (m_allGiven l G k _ h a 1) (cwVt F mf_X12_allGiven km_X12_317 rfl rfl ⟨Nat.le_of_ble_eq_true rfl, Nat.le_of_ble_eq_true rfl⟩) (cs_preV St [0] rfl (by decide) [] rfl (ci := 12) (q0 := 0) rfl rfl) rfl rfl hl.1 rfl (lv_room (Nat.le_of_ble_eq_true rfl)) dX12_stop_16 ⟨Nat.le_of_ble_eq_true rfl, Nat.le_of_ble_eq_true rfl⟩) (fun r_1 u_2 H locs hw St => ?_)
  try dsimp only at hw
  have z_3 := hw
  subst r_1
  have St : cS G k [((a 8), .inl ((d 8), 30, .inl (fun _ => 0))), (h, .inr (12, [.ref (a 0), .ref (a 1), .ref (a 2), .ref (a 3), .int 0, .int 0, .int 0, .int 0, .int 0, .int 0, .int 0, .int (-1), .ref (a 4), .int 0, .int 0, .int 0, .int 0, .int 0, .int 0, .int 0, .int 0, .int 0, .int 0, .int 1, .ref (a 5), .ref (a 6), .ref (a 7), .ref (a 8), .ref (a 9), .ref (a 10), .ref (a 11), .ref (a 12), .ref (a 13), .ref (a 14), .ref (a 15), .ref (a 16), .ref (a 17), .ref (a 18), .ref (a 19), .ref (a 20), .ref (a 21), .ref (a 22), .ref (a 23), .ref (a 24), .ref (a 25), .ref (a 26), .ref (a 27), .ref (a 28), .ref (a 29), .ref (a 30), .int 0, .ref (a 31), .ref (a 32)]))] [((d 8), .int)] A s H locs := St
  refine lv_istore_n (lv' := [(1, .int 0), (0, .ref h)]) hx hb dX12_stop_19 rfl hl (by decide) rfl (fun ls hl => ?_)
  refine lv_iconst (v := 0) hx hb dX12_stop_20 (by decide) ?_
  refine lv_istore_n (lv' := [(2, .int 0), (1, .int 0), (0, .ref h)]) hx hb dX12_stop_21 rfl hl (by decide) rfl (fun ls hl => ?_)
  refine lv_iconst (v := 0) hx hb dX12_stop_22 (by decide) ?_
  refine lv_istore_n (lv' := [(3, .int 0), (2, .int 0), (1, .int 0), (0, .ref h)]) hx hb dX12_stop_23 rfl hl (by decide) rfl (fun ls hl => ?_)
  have lp24 : ∀ (n : Nat) (i : Int32) (fb : Nat → Int32) (H : Heap) (locs : List Loc) (ls : Array Slot), (0 ≤ i.toInt ∧ i.toInt ≤ 30) → ((30 - i.toInt).toNat) < n → cS G k [((a 8), .inl ((d 8), 30, .inl fb)), (h, .inr (12, [.ref (a 0), .ref (a 1), .ref (a 2), .ref (a 3), .int 0, .int 0, .int 0, .int 0, .int 0, .int 0, .int 0, .int (-1), .ref (a 4), .int 0, .int 0, .int 0, .int 0, .int 0, .int 0, .int 0, .int 0, .int 0, .int 0, .int 1, .ref (a 5), .ref (a 6), .ref (a 7), .ref (a 8), .ref (a 9), .ref (a 10), .ref (a 11), .ref (a 12), .ref (a 13), .ref (a 14), .ref (a 15), .ref (a 16), .ref (a 17), .ref (a 18), .ref (a 19), .ref (a 20), .ref (a 21), .ref (a 22), .ref (a 23), .ref (a 24), .ref (a 25), .ref (a 26), .ref (a 27), .ref (a 28), .ref (a 29), .ref (a 30), .int 0, .ref (a 31), .ref (a 32)]))] [((d 8), .int)] A s H locs → lv_has ls 4 [(3, .int i), (2, .int 0), (1, .int 0), (0, .ref h)] → W p l e ({ frames := 1, cells := 0, slots := 0, locals := 22 } : Room) s m args below meth c H locs 0 0 Q (F0 m 24 ls []) := by
    intro n
    induction n with
    | zero => intro i fb H locs ls hI hn; exact absurd hn (Nat.not_lt_zero _)
    | succ n ih =>
      intro i fb H locs ls hI hn St hl
      obtain ⟨hI0, hI1⟩ := hI
      refine lv_iload_n hx hb dX12_stop_24 rfl (lv_at hl 0 rfl) ?_
      refine lv_bipush (v := 30) hx hb dX12_stop_25 (by decide) ?_
      refine lv_icmp_ge (tgt := 104) hx hb dX12_stop_27 (by decide) (fun c27 => ?_) (fun c27 => ?_)
      ·
        have i27 := ci_le (x := 30) (y := i) (show (30 : Int32).toInt = 30 by decide) rfl c27
        refine lv_aload_n hx hb dX12_stop_104 rfl (lv_at hl 3 rfl) ?_
        refine lv_dup hx hb dX12_stop_105 rfl ?_
        refine cs_get F St 1 rfl rfl inX12 14 (by decide) kf_X12_262 rfl dX12_stop_106 ?_
        refine lv_iload_n hx hb dX12_stop_109 rfl (lv_at hl 1 rfl) ?_
        refine lv_isub hx hb dX12_stop_110 ?_
        refine top_i (y := 0) (by decide) ?_
        refine cs_put F St 1 rfl rfl inX12 tyX12_ok nmX12 14 (by decide) kf_X12_262 rfl rfl rfl (Nat.le_of_ble_eq_true rfl) (w' := [((a 8), .inl ((d 8), 30, .inl fb)), (h, .inr (12, [.ref (a 0), .ref (a 1), .ref (a 2), .ref (a 3), .int 0, .int 0, .int 0, .int 0, .int 0, .int 0, .int 0, .int (-1), .ref (a 4), .int 0, .int 0, .int 0, .int 0, .int 0, .int 0, .int 0, .int 0, .int 0, .int 0, .int 1, .ref (a 5), .ref (a 6), .ref (a 7), .ref (a 8), .ref (a 9), .ref (a 10), .ref (a 11), .ref (a 12), .ref (a 13), .ref (a 14), .ref (a 15), .ref (a 16), .ref (a 17), .ref (a 18), .ref (a 19), .ref (a 20), .ref (a 21), .ref (a 22), .ref (a 23), .ref (a 24), .ref (a 25), .ref (a 26), .ref (a 27), .ref (a 28), .ref (a 29), .ref (a 30), .int 0, .ref (a 31), .ref (a 32)]))]) rfl dX12_stop_111 (fun H locs St => ?_)
        refine lv_iload_n hx hb dX12_stop_114 rfl (lv_at hl 1 rfl) ?_
        exact cs_iret F hr hlk hQ St () (r := 0) rfl [] rfl (by decide) [] rfl (by decide) (by decide) dX12_stop_115
      ·
        have i27 := ci_nle (x := 30) (y := i) (show (30 : Int32).toInt = 30 by decide) rfl c27
        refine lv_aload_n hx hb dX12_stop_30 rfl (lv_at hl 3 rfl) ?_
        refine cs_get F St 1 rfl rfl inX12 27 (by decide) kf_X12_129 rfl dX12_stop_31 ?_
        refine lv_iload_n hx hb dX12_stop_34 rfl (lv_at hl 0 rfl) ?_
        refine lv_iload_n hx hb dX12_stop_35 rfl (lv_at hl 2 rfl) ?_
        refine lv_if_ne (tgt := 43) hx hb dX12_stop_36 (by decide) (fun c36 => ?_) (fun c36 => ?_)
        · exact absurd c36 (by decide)
        refine lv_iconst (v := 0) hx hb dX12_stop_39 (by decide) ?_
        refine lv_goto (tgt := 88) hx hb dX12_stop_40 (by decide) ?_
        refine cs_ist F St 0 0 rfl rfl (vp_in_iff.mpr ⟨by omega, by omega⟩) (w' := [((a 8), .inl ((d 8), 30, .inl (upd fb (i : Int32).toNatClampNeg 0))), (h, .inr (12, [.ref (a 0), .ref (a 1), .ref (a 2), .ref (a 3), .int 0, .int 0, .int 0, .int 0, .int 0, .int 0, .int 0, .int (-1), .ref (a 4), .int 0, .int 0, .int 0, .int 0, .int 0, .int 0, .int 0, .int 0, .int 0, .int 0, .int 1, .ref (a 5), .ref (a 6), .ref (a 7), .ref (a 8), .ref (a 9), .ref (a 10), .ref (a 11), .ref (a 12), .ref (a 13), .ref (a 14), .ref (a 15), .ref (a 16), .ref (a 17), .ref (a 18), .ref (a 19), .ref (a 20), .ref (a 21), .ref (a 22), .ref (a 23), .ref (a 24), .ref (a 25), .ref (a 26), .ref (a 27), .ref (a 28), .ref (a 29), .ref (a 30), .int 0, .ref (a 31), .ref (a 32)]))]) rfl dX12_stop_88 (fun H locs St => ?_)
        obtain ⟨f_4, ef_4⟩ : ∃ zz : Nat → Int32, zz = upd fb (i : Int32).toNatClampNeg 0 := ⟨_, rfl⟩
        rw [← ef_4] at St
        refine lv_iload_n hx hb dX12_stop_89 rfl (lv_at hl 1 rfl) ?_
        refine lv_aload_n hx hb dX12_stop_90 rfl (lv_at hl 3 rfl) ?_
        refine cs_get F St 1 rfl rfl inX12 27 (by decide) kf_X12_129 rfl dX12_stop_91 ?_
        refine lv_iload_n hx hb dX12_stop_94 rfl (lv_at hl 0 rfl) ?_
        refine cs_ild F St 0 0 rfl rfl (vp_in_iff.mpr ⟨by omega, by omega⟩) dX12_stop_95 ?_
        refine top_i (y := 0) (by rw [ef_4]; exact pk_us) ?_
        refine lv_iadd hx hb dX12_stop_96 ?_
        refine top_i (y := 0) (by decide) ?_
        refine lv_istore_n (lv' := [(2, .int 0), (3, .int i), (1, .int 0), (0, .ref h)]) hx hb dX12_stop_97 rfl hl (by decide) rfl (fun ls hl => ?_)
        obtain ⟨y_5, ey_5⟩ : ∃ zz : Int32, zz = i + 1 := ⟨_, rfl⟩
        have jy_5 := ci_add (x := i) rfl (show (1 : Int32).toInt = 1 by decide) ey_5
        refine lv_iinc (v := y_5) (lv' := [(3, .int y_5), (2, .int 0), (1, .int 0), (0, .ref h)]) hx hb dX12_stop_98 hl (k := 1) rfl (by rw [ey_5]; rfl) (by decide) rfl (fun ls hl => ?_)
        refine lv_goto (tgt := 24) hx hb dX12_stop_101 (by decide) ?_
        exact ih y_5 f_4 _ _ _ ⟨by omega, by omega⟩ (by omega) St (lv_sub hl [0, 1, 2, 3] rfl)
  exact lp24 31 0 (fun _ => 0) _ _ _ ⟨by decide, by decide⟩ (by decide) St (lv_sub hl [0, 1, 2, 3] rfl)
set_option maxHeartbeats 4000000 in
set_option maxRecDepth 100000 in
theorem m_back (l : Launch) (G : va_G) (k : Nat → Nat) (sz : Nat) (h : Nat) (a : Nat → Nat) (d : Nat → ClassId) (x1 : Int32) : Met l yX12_back (Cond.code yX12_back cX12_back 2 (some .int) :: tb) ({ frames := 2, cells := 0, slots := 0, locals := 45 } : Room) (va_Pc [.ref h, .int x1] (cP G k [(h, .inr (12, [.ref (a 0), .ref (a 1), .ref (a 2), .ref (a 3), .int 0, .int 0, .int 0, .int 0, .int 0, .int 0, .int 0, .int (-1), .ref (a 4), .int 0, .int 0, .int 0, .int 0, .int 0, .int 0, .int 0, .int 0, .int 0, .int 0, .int 0, .ref (a 5), .ref (a 6), .ref (a 7), .ref (a 8), .ref (a 9), .ref (a 10), .ref (a 11), .ref (a 12), .ref (a 13), .ref (a 14), .ref (a 15), .ref (a 16), .ref (a 17), .ref (a 18), .ref (a 19), .ref (a 20), .ref (a 21), .ref (a 22), .ref (a 23), .ref (a 24), .ref (a 25), .ref (a 26), .ref (a 27), .ref (a 28), .ref (a 29), .ref (a 30), .int 0, .ref (a 31), .ref (a 32)])), ((a 8), .inl ((d 8), 30, .inl (fun _ => 0)))] [((d 8), .int)] sz)) (va_Qi (fun (r : Int32) (_ : Unit) => ((r = 0) ∧ (0 ≤ x1.toInt ∧ x1.toInt ≤ 29)) ∨ ((r = (-2)) ∧ (¬ (0 ≤ x1.toInt ∧ x1.toInt ≤ 29)))) (cB G (fun (_ : Unit) => []) (fun (_ : Unit) => []) (va_A [(h, .inr (12, [.ref (a 0), .ref (a 1), .ref (a 2), .ref (a 3), .int 0, .int 0, .int 0, .int 0, .int 0, .int 0, .int 0, .int (-1), .ref (a 4), .int 0, .int 0, .int 0, .int 0, .int 0, .int 0, .int 0, .int 0, .int 0, .int 0, .int 0, .ref (a 5), .ref (a 6), .ref (a 7), .ref (a 8), .ref (a 9), .ref (a 10), .ref (a 11), .ref (a 12), .ref (a 13), .ref (a 14), .ref (a 15), .ref (a 16), .ref (a 17), .ref (a 18), .ref (a 19), .ref (a 20), .ref (a 21), .ref (a 22), .ref (a 23), .ref (a 24), .ref (a 25), .ref (a 26), .ref (a 27), .ref (a 28), .ref (a 29), .ref (a 30), .int 0, .ref (a 31), .ref (a 32)])), ((a 8), .inl ((d 8), 30, .inl (fun _ => 0)))] sz)) (va_A [(h, .inr (12, [.ref (a 0), .ref (a 1), .ref (a 2), .ref (a 3), .int 0, .int 0, .int 0, .int 0, .int 0, .int 0, .int 0, .int (-1), .ref (a 4), .int 0, .int 0, .int 0, .int 0, .int 0, .int 0, .int 0, .int 0, .int 0, .int 0, .int 0, .ref (a 5), .ref (a 6), .ref (a 7), .ref (a 8), .ref (a 9), .ref (a 10), .ref (a 11), .ref (a 12), .ref (a 13), .ref (a 14), .ref (a 15), .ref (a 16), .ref (a 17), .ref (a 18), .ref (a 19), .ref (a 20), .ref (a 21), .ref (a 22), .ref (a 23), .ref (a 24), .ref (a 25), .ref (a 26), .ref (a 27), .ref (a 28), .ref (a 29), .ref (a 30), .int 0, .ref (a 31), .ref (a 32)])), ((a 8), .inl ((d 8), 30, .inl (fun _ => 0)))] sz)) 0 0 (va_A [(h, .inr (12, [.ref (a 0), .ref (a 1), .ref (a 2), .ref (a 3), .int 0, .int 0, .int 0, .int 0, .int 0, .int 0, .int 0, .int (-1), .ref (a 4), .int 0, .int 0, .int 0, .int 0, .int 0, .int 0, .int 0, .int 0, .int 0, .int 0, .int 0, .ref (a 5), .ref (a 6), .ref (a 7), .ref (a 8), .ref (a 9), .ref (a 10), .ref (a 11), .ref (a 12), .ref (a 13), .ref (a 14), .ref (a 15), .ref (a 16), .ref (a 17), .ref (a 18), .ref (a 19), .ref (a 20), .ref (a 21), .ref (a 22), .ref (a 23), .ref (a 24), .ref (a 25), .ref (a 26), .ref (a 27), .ref (a 28), .ref (a 29), .ref (a 30), .int 0, .ref (a 31), .ref (a 32)])), ((a 8), .inl ((d 8), 30, .inl (fun _ => 0)))] sz) := by
  refine ofC_i (cc := cX12_back) (maxL := 2) (ret := (some .int)) (by decide) rfl (Nat.le_of_ble_eq_true rfl) ?_
  intro p e s m args below meth c A ls Q F hr hin hlk St hl hQ
  have hx := F.1
  have hb := F.2.1
  have hl : lv_has ls 2 [(0, .ref h), (1, .int x1)] := hl
  have St : cS G k [(h, .inr (12, [.ref (a 0), .ref (a 1), .ref (a 2), .ref (a 3), .int 0, .int 0, .int 0, .int 0, .int 0, .int 0, .int 0, .int (-1), .ref (a 4), .int 0, .int 0, .int 0, .int 0, .int 0, .int 0, .int 0, .int 0, .int 0, .int 0, .int 0, .ref (a 5), .ref (a 6), .ref (a 7), .ref (a 8), .ref (a 9), .ref (a 10), .ref (a 11), .ref (a 12), .ref (a 13), .ref (a 14), .ref (a 15), .ref (a 16), .ref (a 17), .ref (a 18), .ref (a 19), .ref (a 20), .ref (a 21), .ref (a 22), .ref (a 23), .ref (a 24), .ref (a 25), .ref (a 26), .ref (a 27), .ref (a 28), .ref (a 29), .ref (a 30), .int 0, .ref (a 31), .ref (a 32)])), ((a 8), .inl ((d 8), 30, .inl (fun _ => 0)))] [((d 8), .int)] A s s.heap [] := St
  refine lv_iload_n hx hb dX12_back_0 rfl (lv_at hl 1 rfl) ?_
  refine cs_i St [] [0, 1] (wc := []) (wr := [(h, .inr (12, [.ref (a 0), .ref (a 1), .ref (a 2), .ref (a 3), .int 0, .int 0, .int 0, .int 0, .int 0, .int 0, .int 0, .int (-1), .ref (a 4), .int 0, .int 0, .int 0, .int 0, .int 0, .int 0, .int 0, .int 0, .int 0, .int 0, .int 0, .ref (a 5), .ref (a 6), .ref (a 7), .ref (a 8), .ref (a 9), .ref (a 10), .ref (a 11), .ref (a 12), .ref (a 13), .ref (a 14), .ref (a 15), .ref (a 16), .ref (a 17), .ref (a 18), .ref (a 19), .ref (a 20), .ref (a 21), .ref (a 22), .ref (a 23), .ref (a 24), .ref (a 25), .ref (a 26), .ref (a 27), .ref (a 28), .ref (a 29), .ref (a 30), .int 0, .ref (a 31), .ref (a 32)])), ((a 8), .inl ((d 8), 30, .inl (fun _ => 0)))]) rfl rfl (by decide) (by decide) (va_runS (As := [.int x1]) (rest := []) F (c12_isGiver l G k _ x1) (cwSt F mf_X12_isGiver km_X12_218 rfl rfl ⟨Nat.le_of_ble_eq_true rfl, Nat.le_of_ble_eq_true rfl⟩) (cs_pre St [] rfl (by decide) [] rfl) rfl rfl hl.1 rfl (lv_room (Nat.le_of_ble_eq_true rfl)) dX12_back_1 ⟨Nat.le_of_ble_eq_true rfl, Nat.le_of_ble_eq_true rfl⟩) (fun r_1 u_2 H locs hw St => ?_)
  try dsimp only at hw
  rcases hw with ⟨z_3, hf_4⟩ | ⟨z_5, hf_6⟩
  ·
    subst r_1
    have St : cS G k [(h, .inr (12, [.ref (a 0), .ref (a 1), .ref (a 2), .ref (a 3), .int 0, .int 0, .int 0, .int 0, .int 0, .int 0, .int 0, .int (-1), .ref (a 4), .int 0, .int 0, .int 0, .int 0, .int 0, .int 0, .int 0, .int 0, .int 0, .int 0, .int 0, .ref (a 5), .ref (a 6), .ref (a 7), .ref (a 8), .ref (a 9), .ref (a 10), .ref (a 11), .ref (a 12), .ref (a 13), .ref (a 14), .ref (a 15), .ref (a 16), .ref (a 17), .ref (a 18), .ref (a 19), .ref (a 20), .ref (a 21), .ref (a 22), .ref (a 23), .ref (a 24), .ref (a 25), .ref (a 26), .ref (a 27), .ref (a 28), .ref (a 29), .ref (a 30), .int 0, .ref (a 31), .ref (a 32)])), ((a 8), .inl ((d 8), 30, .inl (fun _ => 0)))] [((d 8), .int)] A s H locs := St
    refine lv_if_eq (tgt := 16) hx hb dX12_back_4 (by decide) (fun c4 => ?_) (fun c4 => ?_)
    · exact absurd c4 (by decide)
    refine lv_aload_n hx hb dX12_back_7 rfl (lv_at hl 0 rfl) ?_
    refine cs_get F St 0 rfl rfl inX12 27 (by decide) kf_X12_129 rfl dX12_back_8 ?_
    refine lv_iload_n hx hb dX12_back_11 rfl (lv_at hl 1 rfl) ?_
    refine cs_ild F St 1 0 rfl rfl (vp_in_iff.mpr ⟨by omega, by omega⟩) dX12_back_12 ?_
    refine top_i (y := 0) rfl ?_
    refine lv_goto (tgt := 18) hx hb dX12_back_13 (by decide) ?_
    exact cs_iret F hr hlk hQ St () (r := 0) (Or.inl ⟨rfl, by omega⟩) [] rfl (by decide) [] rfl (by decide) (by decide) dX12_back_18
  ·
    subst r_1
    have St : cS G k [(h, .inr (12, [.ref (a 0), .ref (a 1), .ref (a 2), .ref (a 3), .int 0, .int 0, .int 0, .int 0, .int 0, .int 0, .int 0, .int (-1), .ref (a 4), .int 0, .int 0, .int 0, .int 0, .int 0, .int 0, .int 0, .int 0, .int 0, .int 0, .int 0, .ref (a 5), .ref (a 6), .ref (a 7), .ref (a 8), .ref (a 9), .ref (a 10), .ref (a 11), .ref (a 12), .ref (a 13), .ref (a 14), .ref (a 15), .ref (a 16), .ref (a 17), .ref (a 18), .ref (a 19), .ref (a 20), .ref (a 21), .ref (a 22), .ref (a 23), .ref (a 24), .ref (a 25), .ref (a 26), .ref (a 27), .ref (a 28), .ref (a 29), .ref (a 30), .int 0, .ref (a 31), .ref (a 32)])), ((a 8), .inl ((d 8), 30, .inl (fun _ => 0)))] [((d 8), .int)] A s H locs := St
    refine lv_if_eq (tgt := 16) hx hb dX12_back_4 (by decide) (fun c4 => ?_) (fun c4 => ?_)
    rotate_left
    · exact absurd (by decide) c4
    refine lv_bipush (v := (-2)) hx hb dX12_back_16 (by decide) ?_
    exact cs_iret F hr hlk hQ St () (r := (-2)) (Or.inr ⟨rfl, by omega⟩) [] rfl (by decide) [] rfl (by decide) (by decide) dX12_back_18
set_option maxHeartbeats 4000000 in
set_option maxRecDepth 100000 in
theorem m_count (l : Launch) (G : va_G) (k : Nat → Nat) (sz : Nat) (h : Nat) (a : Nat → Nat) (d : Nat → ClassId) (x1 : Int32) : Met l yX12_count (Cond.code yX12_count cX12_count 4 (some .int) :: tb) ({ frames := 1, cells := 0, slots := 0, locals := 24 } : Room) (va_Pc [.ref h, .int x1] (cP G k [(h, .inr (12, [.ref (a 0), .ref (a 1), .ref (a 2), .ref (a 3), .int 0, .int 0, .int 0, .int 0, .int 0, .int 0, .int 0, .int (-1), .ref (a 4), .int 0, .int 0, .int 0, .int 0, .int 0, .int 0, .int 0, .int 0, .int 0, .int 0, .int 0, .ref (a 5), .ref (a 6), .ref (a 7), .ref (a 8), .ref (a 9), .ref (a 10), .ref (a 11), .ref (a 12), .ref (a 13), .ref (a 14), .ref (a 15), .ref (a 16), .ref (a 17), .ref (a 18), .ref (a 19), .ref (a 20), .ref (a 21), .ref (a 22), .ref (a 23), .ref (a 24), .ref (a 25), .ref (a 26), .ref (a 27), .ref (a 28), .ref (a 29), .ref (a 30), .int 0, .ref (a 31), .ref (a 32)])), ((a 31), .inl ((d 31), 30, .inl (fun _ => 0)))] [((d 31), .int)] sz)) (va_Qi (fun (r : Int32) (_ : Unit) => ((r = 0) ∧ (0 ≤ x1.toInt ∧ x1.toInt ≤ 14)) ∨ ((r = (-1)) ∧ (¬ (0 ≤ x1.toInt ∧ x1.toInt ≤ 14)))) (cB G (fun (_ : Unit) => []) (fun (_ : Unit) => []) (va_A [(h, .inr (12, [.ref (a 0), .ref (a 1), .ref (a 2), .ref (a 3), .int 0, .int 0, .int 0, .int 0, .int 0, .int 0, .int 0, .int (-1), .ref (a 4), .int 0, .int 0, .int 0, .int 0, .int 0, .int 0, .int 0, .int 0, .int 0, .int 0, .int 0, .ref (a 5), .ref (a 6), .ref (a 7), .ref (a 8), .ref (a 9), .ref (a 10), .ref (a 11), .ref (a 12), .ref (a 13), .ref (a 14), .ref (a 15), .ref (a 16), .ref (a 17), .ref (a 18), .ref (a 19), .ref (a 20), .ref (a 21), .ref (a 22), .ref (a 23), .ref (a 24), .ref (a 25), .ref (a 26), .ref (a 27), .ref (a 28), .ref (a 29), .ref (a 30), .int 0, .ref (a 31), .ref (a 32)])), ((a 31), .inl ((d 31), 30, .inl (fun _ => 0)))] sz)) (va_A [(h, .inr (12, [.ref (a 0), .ref (a 1), .ref (a 2), .ref (a 3), .int 0, .int 0, .int 0, .int 0, .int 0, .int 0, .int 0, .int (-1), .ref (a 4), .int 0, .int 0, .int 0, .int 0, .int 0, .int 0, .int 0, .int 0, .int 0, .int 0, .int 0, .ref (a 5), .ref (a 6), .ref (a 7), .ref (a 8), .ref (a 9), .ref (a 10), .ref (a 11), .ref (a 12), .ref (a 13), .ref (a 14), .ref (a 15), .ref (a 16), .ref (a 17), .ref (a 18), .ref (a 19), .ref (a 20), .ref (a 21), .ref (a 22), .ref (a 23), .ref (a 24), .ref (a 25), .ref (a 26), .ref (a 27), .ref (a 28), .ref (a 29), .ref (a 30), .int 0, .ref (a 31), .ref (a 32)])), ((a 31), .inl ((d 31), 30, .inl (fun _ => 0)))] sz)) 0 0 (va_A [(h, .inr (12, [.ref (a 0), .ref (a 1), .ref (a 2), .ref (a 3), .int 0, .int 0, .int 0, .int 0, .int 0, .int 0, .int 0, .int (-1), .ref (a 4), .int 0, .int 0, .int 0, .int 0, .int 0, .int 0, .int 0, .int 0, .int 0, .int 0, .int 0, .ref (a 5), .ref (a 6), .ref (a 7), .ref (a 8), .ref (a 9), .ref (a 10), .ref (a 11), .ref (a 12), .ref (a 13), .ref (a 14), .ref (a 15), .ref (a 16), .ref (a 17), .ref (a 18), .ref (a 19), .ref (a 20), .ref (a 21), .ref (a 22), .ref (a 23), .ref (a 24), .ref (a 25), .ref (a 26), .ref (a 27), .ref (a 28), .ref (a 29), .ref (a 30), .int 0, .ref (a 31), .ref (a 32)])), ((a 31), .inl ((d 31), 30, .inl (fun _ => 0)))] sz) := by
  refine ofC_i (cc := cX12_count) (maxL := 4) (ret := (some .int)) (by decide) rfl (Nat.le_of_ble_eq_true rfl) ?_
  intro p e s m args below meth c A ls Q F hr hin hlk St hl hQ
  have hx := F.1
  have hb := F.2.1
  have hl : lv_has ls 4 [(0, .ref h), (1, .int x1)] := hl
  have St : cS G k [(h, .inr (12, [.ref (a 0), .ref (a 1), .ref (a 2), .ref (a 3), .int 0, .int 0, .int 0, .int 0, .int 0, .int 0, .int 0, .int (-1), .ref (a 4), .int 0, .int 0, .int 0, .int 0, .int 0, .int 0, .int 0, .int 0, .int 0, .int 0, .int 0, .ref (a 5), .ref (a 6), .ref (a 7), .ref (a 8), .ref (a 9), .ref (a 10), .ref (a 11), .ref (a 12), .ref (a 13), .ref (a 14), .ref (a 15), .ref (a 16), .ref (a 17), .ref (a 18), .ref (a 19), .ref (a 20), .ref (a 21), .ref (a 22), .ref (a 23), .ref (a 24), .ref (a 25), .ref (a 26), .ref (a 27), .ref (a 28), .ref (a 29), .ref (a 30), .int 0, .ref (a 31), .ref (a 32)])), ((a 31), .inl ((d 31), 30, .inl (fun _ => 0)))] [((d 31), .int)] A s s.heap [] := St
  refine lv_iload_n hx hb dX12_count_0 rfl (lv_at hl 1 rfl) ?_
  by_cases w1_0 : x1 = 0
  ·
    subst w1_0
    refine lv_tableIn (tgt := 76) (off := 75) hx hb dX12_count_1 (by decide) (by decide) (by decide) (by decide) ?_
    refine lv_aload_n hx hb dX12_count_76 rfl (lv_at hl 0 rfl) ?_
    refine cs_get F St 0 rfl rfl inX12 13 (by decide) kf_X12_230 rfl dX12_count_77 ?_
    exact cs_iret F hr hlk hQ St () (r := 0) (Or.inl ⟨rfl, by decide⟩) [] rfl (by decide) [] rfl (by decide) (by decide) dX12_count_80
  by_cases w1_1 : x1 = 1
  ·
    subst w1_1
    refine lv_tableIn (tgt := 81) (off := 80) hx hb dX12_count_1 (by decide) (by decide) (by decide) (by decide) ?_
    refine lv_aload_n hx hb dX12_count_81 rfl (lv_at hl 0 rfl) ?_
    refine cs_get F St 0 rfl rfl inX12 14 (by decide) kf_X12_262 rfl dX12_count_82 ?_
    exact cs_iret F hr hlk hQ St () (r := 0) (Or.inl ⟨rfl, by decide⟩) [] rfl (by decide) [] rfl (by decide) (by decide) dX12_count_85
  by_cases w1_2 : x1 = 2
  ·
    subst w1_2
    refine lv_tableIn (tgt := 86) (off := 85) hx hb dX12_count_1 (by decide) (by decide) (by decide) (by decide) ?_
    refine lv_aload_n hx hb dX12_count_86 rfl (lv_at hl 0 rfl) ?_
    refine cs_get F St 0 rfl rfl inX12 15 (by decide) kf_X12_296 rfl dX12_count_87 ?_
    exact cs_iret F hr hlk hQ St () (r := 0) (Or.inl ⟨rfl, by decide⟩) [] rfl (by decide) [] rfl (by decide) (by decide) dX12_count_90
  by_cases w1_3 : x1 = 3
  ·
    subst w1_3
    refine lv_tableIn (tgt := 91) (off := 90) hx hb dX12_count_1 (by decide) (by decide) (by decide) (by decide) ?_
    refine lv_aload_n hx hb dX12_count_91 rfl (lv_at hl 0 rfl) ?_
    refine cs_i St [0] [1] (wc := [(h, .inr (12, [.ref (a 0), .ref (a 1), .ref (a 2), .ref (a 3), .int 0, .int 0, .int 0, .int 0, .int 0, .int 0, .int 0, .int (-1), .ref (a 4), .int 0, .int 0, .int 0, .int 0, .int 0, .int 0, .int 0, .int 0, .int 0, .int 0, .int 0, .ref (a 5), .ref (a 6), .ref (a 7), .ref (a 8), .ref (a 9), .ref (a 10), .ref (a 11), .ref (a 12), .ref (a 13), .ref (a 14), .ref (a 15), .ref (a 16), .ref (a 17), .ref (a 18), .ref (a 19), .ref (a 20), .ref (a 21), .ref (a 22), .ref (a 23), .ref (a 24), .ref (a 25), .ref (a 26), .ref (a 27), .ref (a 28), .ref (a 29), .ref (a 30), .int 0, .ref (a 31), .ref (a 32)]))]) (wr := [((a 31), .inl ((d 31), 30, .inl (fun _ => 0)))]) rfl rfl (by decide) (by decide) (va_runV (As := []) (rest := []) F (m_allGiven l G k _ h a 0) (cwVt F mf_X12_allGiven km_X12_317 rfl rfl ⟨Nat.le_of_ble_eq_true rfl, Nat.le_of_ble_eq_true rfl⟩) (cs_preV St [0] rfl (by decide) [] rfl (ci := 12) (q0 := 0) rfl rfl) rfl rfl hl.1 rfl (lv_room (Nat.le_of_ble_eq_true rfl)) dX12_count_92 ⟨Nat.le_of_ble_eq_true rfl, Nat.le_of_ble_eq_true rfl⟩) (fun r_1 u_2 H locs hw St => ?_)
    try dsimp only at hw
    have z_3 := hw
    subst r_1
    have St : cS G k [((a 31), .inl ((d 31), 30, .inl (fun _ => 0))), (h, .inr (12, [.ref (a 0), .ref (a 1), .ref (a 2), .ref (a 3), .int 0, .int 0, .int 0, .int 0, .int 0, .int 0, .int 0, .int (-1), .ref (a 4), .int 0, .int 0, .int 0, .int 0, .int 0, .int 0, .int 0, .int 0, .int 0, .int 0, .int 0, .ref (a 5), .ref (a 6), .ref (a 7), .ref (a 8), .ref (a 9), .ref (a 10), .ref (a 11), .ref (a 12), .ref (a 13), .ref (a 14), .ref (a 15), .ref (a 16), .ref (a 17), .ref (a 18), .ref (a 19), .ref (a 20), .ref (a 21), .ref (a 22), .ref (a 23), .ref (a 24), .ref (a 25), .ref (a 26), .ref (a 27), .ref (a 28), .ref (a 29), .ref (a 30), .int 0, .ref (a 31), .ref (a 32)]))] [((d 31), .int)] A s H locs := St
    exact cs_iret F hr hlk hQ St () (r := 0) (Or.inl ⟨rfl, by decide⟩) [] rfl (by decide) [] rfl (by decide) (by decide) dX12_count_95
  by_cases w1_4 : x1 = 4
  ·
    subst w1_4
    refine lv_tableIn (tgt := 96) (off := 95) hx hb dX12_count_1 (by decide) (by decide) (by decide) (by decide) ?_
    refine lv_aload_n hx hb dX12_count_96 rfl (lv_at hl 0 rfl) ?_
    refine cs_get F St 0 rfl rfl inX12 16 (by decide) kf_X12_251 rfl dX12_count_97 ?_
    exact cs_iret F hr hlk hQ St () (r := 0) (Or.inl ⟨rfl, by decide⟩) [] rfl (by decide) [] rfl (by decide) (by decide) dX12_count_100
  by_cases w1_5 : x1 = 5
  ·
    subst w1_5
    refine lv_tableIn (tgt := 101) (off := 100) hx hb dX12_count_1 (by decide) (by decide) (by decide) (by decide) ?_
    refine lv_aload_n hx hb dX12_count_101 rfl (lv_at hl 0 rfl) ?_
    refine cs_get F St 0 rfl rfl inX12 17 (by decide) kf_X12_276 rfl dX12_count_102 ?_
    exact cs_iret F hr hlk hQ St () (r := 0) (Or.inl ⟨rfl, by decide⟩) [] rfl (by decide) [] rfl (by decide) (by decide) dX12_count_105
  by_cases w1_6 : x1 = 6
  ·
    subst w1_6
    refine lv_tableIn (tgt := 106) (off := 105) hx hb dX12_count_1 (by decide) (by decide) (by decide) (by decide) ?_
    refine lv_aload_n hx hb dX12_count_106 rfl (lv_at hl 0 rfl) ?_
    refine cs_get F St 0 rfl rfl inX12 18 (by decide) kf_X12_298 rfl dX12_count_107 ?_
    exact cs_iret F hr hlk hQ St () (r := 0) (Or.inl ⟨rfl, by decide⟩) [] rfl (by decide) [] rfl (by decide) (by decide) dX12_count_110
  by_cases w1_7 : x1 = 7
  ·
    subst w1_7
    refine lv_tableIn (tgt := 111) (off := 110) hx hb dX12_count_1 (by decide) (by decide) (by decide) (by decide) ?_
    refine lv_aload_n hx hb dX12_count_111 rfl (lv_at hl 0 rfl) ?_
    refine cs_get F St 0 rfl rfl inX12 19 (by decide) kf_X12_305 rfl dX12_count_112 ?_
    exact cs_iret F hr hlk hQ St () (r := 0) (Or.inl ⟨rfl, by decide⟩) [] rfl (by decide) [] rfl (by decide) (by decide) dX12_count_115
  by_cases w1_8 : x1 = 8
  ·
    subst w1_8
    refine lv_tableIn (tgt := 116) (off := 115) hx hb dX12_count_1 (by decide) (by decide) (by decide) (by decide) ?_
    refine lv_aload_n hx hb dX12_count_116 rfl (lv_at hl 0 rfl) ?_
    refine cs_get F St 0 rfl rfl inX12 20 (by decide) kf_X12_237 rfl dX12_count_117 ?_
    exact cs_iret F hr hlk hQ St () (r := 0) (Or.inl ⟨rfl, by decide⟩) [] rfl (by decide) [] rfl (by decide) (by decide) dX12_count_120
  by_cases w1_9 : x1 = 9
  ·
    subst w1_9
    refine lv_tableIn (tgt := 121) (off := 120) hx hb dX12_count_1 (by decide) (by decide) (by decide) (by decide) ?_
    refine lv_iconst (v := 0) hx hb dX12_count_121 (by decide) ?_
    refine lv_istore_n (lv' := [(2, .int 0), (0, .ref h), (1, .int 9)]) hx hb dX12_count_122 rfl hl (by decide) rfl (fun ls hl => ?_)
    refine lv_iconst (v := 0) hx hb dX12_count_123 (by decide) ?_
    refine lv_istore_n (lv' := [(3, .int 0), (2, .int 0), (0, .ref h), (1, .int 9)]) hx hb dX12_count_124 rfl hl (by decide) rfl (fun ls hl => ?_)
    refine lv_iload_n hx hb dX12_count_125 rfl (lv_at hl 0 rfl) ?_
    refine lv_aload_n hx hb dX12_count_126 rfl (lv_at hl 2 rfl) ?_
    refine cs_get F St 0 rfl rfl inX12 20 (by decide) kf_X12_237 rfl dX12_count_127 ?_
    refine lv_icmp_ge (tgt := 156) hx hb dX12_count_130 (by decide) (fun c130 => ?_) (fun c130 => ?_)
    rotate_left
    · exact absurd (by decide) c130
    refine lv_iload_n hx hb dX12_count_156 rfl (lv_at hl 1 rfl) ?_
    exact cs_iret F hr hlk hQ St () (r := 0) (Or.inl ⟨rfl, by decide⟩) [] rfl (by decide) [] rfl (by decide) (by decide) dX12_count_157
  by_cases w1_10 : x1 = 10
  ·
    subst w1_10
    refine lv_tableIn (tgt := 158) (off := 157) hx hb dX12_count_1 (by decide) (by decide) (by decide) (by decide) ?_
    refine lv_aload_n hx hb dX12_count_158 rfl (lv_at hl 0 rfl) ?_
    refine cs_get F St 0 rfl rfl inX12 22 (by decide) kf_X12_286 rfl dX12_count_159 ?_
    exact cs_iret F hr hlk hQ St () (r := 0) (Or.inl ⟨rfl, by decide⟩) [] rfl (by decide) [] rfl (by decide) (by decide) dX12_count_162
  by_cases w1_11 : x1 = 11
  ·
    subst w1_11
    refine lv_tableIn (tgt := 163) (off := 162) hx hb dX12_count_1 (by decide) (by decide) (by decide) (by decide) ?_
    refine lv_aload_n hx hb dX12_count_163 rfl (lv_at hl 0 rfl) ?_
    refine cs_get F St 0 rfl rfl inX12 21 (by decide) kf_X12_246 rfl dX12_count_164 ?_
    exact cs_iret F hr hlk hQ St () (r := 0) (Or.inl ⟨rfl, by decide⟩) [] rfl (by decide) [] rfl (by decide) (by decide) dX12_count_167
  by_cases w1_12 : x1 = 12
  ·
    subst w1_12
    refine lv_tableIn (tgt := 168) (off := 167) hx hb dX12_count_1 (by decide) (by decide) (by decide) (by decide) ?_
    refine lv_aload_n hx hb dX12_count_168 rfl (lv_at hl 0 rfl) ?_
    refine cs_get F St 0 rfl rfl inX12 23 (by decide) kf_X12_224 rfl dX12_count_169 ?_
    refine lv_if_eq (tgt := 179) hx hb dX12_count_172 (by decide) (fun c172 => ?_) (fun c172 => ?_)
    rotate_left
    · exact absurd (by decide) c172
    refine lv_iconst (v := 0) hx hb dX12_count_179 (by decide) ?_
    exact cs_iret F hr hlk hQ St () (r := 0) (Or.inl ⟨rfl, by decide⟩) [] rfl (by decide) [] rfl (by decide) (by decide) dX12_count_180
  by_cases w1_13 : x1 = 13
  ·
    subst w1_13
    refine lv_tableIn (tgt := 181) (off := 180) hx hb dX12_count_1 (by decide) (by decide) (by decide) (by decide) ?_
    refine lv_aload_n hx hb dX12_count_181 rfl (lv_at hl 0 rfl) ?_
    refine cs_get F St 0 rfl rfl inX12 4 (by decide) kf_X12_203 rfl dX12_count_182 ?_
    exact cs_iret F hr hlk hQ St () (r := 0) (Or.inl ⟨rfl, by decide⟩) [] rfl (by decide) [] rfl (by decide) (by decide) dX12_count_185
  by_cases w1_14 : x1 = 14
  ·
    subst w1_14
    refine lv_tableIn (tgt := 186) (off := 185) hx hb dX12_count_1 (by decide) (by decide) (by decide) (by decide) ?_
    refine lv_aload_n hx hb dX12_count_186 rfl (lv_at hl 0 rfl) ?_
    refine cs_i St [0, 1] [] (wc := [(h, .inr (12, [.ref (a 0), .ref (a 1), .ref (a 2), .ref (a 3), .int 0, .int 0, .int 0, .int 0, .int 0, .int 0, .int 0, .int (-1), .ref (a 4), .int 0, .int 0, .int 0, .int 0, .int 0, .int 0, .int 0, .int 0, .int 0, .int 0, .int 0, .ref (a 5), .ref (a 6), .ref (a 7), .ref (a 8), .ref (a 9), .ref (a 10), .ref (a 11), .ref (a 12), .ref (a 13), .ref (a 14), .ref (a 15), .ref (a 16), .ref (a 17), .ref (a 18), .ref (a 19), .ref (a 20), .ref (a 21), .ref (a 22), .ref (a 23), .ref (a 24), .ref (a 25), .ref (a 26), .ref (a 27), .ref (a 28), .ref (a 29), .ref (a 30), .int 0, .ref (a 31), .ref (a 32)])), ((a 31), .inl ((d 31), 30, .inl (fun _ => 0)))]) (wr := []) rfl rfl (by decide) (by decide) (va_runV (As := []) (rest := []) F (m_carve l G k _ h a d) (cwVt F mf_X12_carve km_X12_314 rfl rfl ⟨Nat.le_of_ble_eq_true rfl, Nat.le_of_ble_eq_true rfl⟩) (cs_preV St [0, 1] rfl (by decide) [0] rfl (ci := 12) (q0 := 0) rfl rfl) rfl rfl hl.1 rfl (lv_room (Nat.le_of_ble_eq_true rfl)) dX12_count_187 ⟨Nat.le_of_ble_eq_true rfl, Nat.le_of_ble_eq_true rfl⟩) (fun r_4 u_5 H locs hw St => ?_)
    obtain ⟨z0_6, rfl⟩ : ∃ z, z = u_5 := ⟨_, rfl⟩
    try dsimp only at hw
    have z_7 := hw
    subst r_4
    have St : cS G k [(h, .inr (12, [.ref (a 0), .ref (a 1), .ref (a 2), .ref (a 3), .int 0, .int 0, .int 0, .int 0, .int 0, .int 0, .int 0, .int (-1), .ref (a 4), .int 0, .int 0, .int 0, .int 0, .int 0, .int 0, .int 0, .int 0, .int 0, .int 0, .int 0, .ref (a 5), .ref (a 6), .ref (a 7), .ref (a 8), .ref (a 9), .ref (a 10), .ref (a 11), .ref (a 12), .ref (a 13), .ref (a 14), .ref (a 15), .ref (a 16), .ref (a 17), .ref (a 18), .ref (a 19), .ref (a 20), .ref (a 21), .ref (a 22), .ref (a 23), .ref (a 24), .ref (a 25), .ref (a 26), .ref (a 27), .ref (a 28), .ref (a 29), .ref (a 30), .int 0, .ref (a 31), .ref (a 32)])), ((a 31), .inl ((d 31), 30, .inl z0_6))] [((d 31), .int)] A s H locs := St
    exact cs_iret F hr hlk hQ St () (r := 0) (Or.inl ⟨rfl, by decide⟩) [] rfl (by decide) [] rfl (by decide) (by decide) dX12_count_190
  have iw1_0 := lv_neT w1_0 (show (0 : Int32).toInt = 0 by decide)
  have iw1_1 := lv_neT w1_1 (show (1 : Int32).toInt = 1 by decide)
  have iw1_2 := lv_neT w1_2 (show (2 : Int32).toInt = 2 by decide)
  have iw1_3 := lv_neT w1_3 (show (3 : Int32).toInt = 3 by decide)
  have iw1_4 := lv_neT w1_4 (show (4 : Int32).toInt = 4 by decide)
  have iw1_5 := lv_neT w1_5 (show (5 : Int32).toInt = 5 by decide)
  have iw1_6 := lv_neT w1_6 (show (6 : Int32).toInt = 6 by decide)
  have iw1_7 := lv_neT w1_7 (show (7 : Int32).toInt = 7 by decide)
  have iw1_8 := lv_neT w1_8 (show (8 : Int32).toInt = 8 by decide)
  have iw1_9 := lv_neT w1_9 (show (9 : Int32).toInt = 9 by decide)
  have iw1_10 := lv_neT w1_10 (show (10 : Int32).toInt = 10 by decide)
  have iw1_11 := lv_neT w1_11 (show (11 : Int32).toInt = 11 by decide)
  have iw1_12 := lv_neT w1_12 (show (12 : Int32).toInt = 12 by decide)
  have iw1_13 := lv_neT w1_13 (show (13 : Int32).toInt = 13 by decide)
  have iw1_14 := lv_neT w1_14 (show (14 : Int32).toInt = 14 by decide)
  refine lv_tableOut (tgt := 191) hx hb dX12_count_1 (by omega) (by decide) ?_
  refine lv_iconst (v := (-1)) hx hb dX12_count_191 (by decide) ?_
  exact cs_iret F hr hlk hQ St () (r := (-1)) (Or.inr ⟨rfl, by omega⟩) [] rfl (by decide) [] rfl (by decide) (by decide) dX12_count_192
