set_option maxHeartbeats 4000000 in
set_option maxRecDepth 100000 in
theorem e1_dues (l : Launch) (G : va_G) (k : Nat → Nat) (sz : Nat) (x : Int32) (y : Int32) (z : Int32) (hxx : (0 ≤ x.toInt ∧ x.toInt ≤ 119) ∧ (1 ≤ y.toInt ∧ y.toInt ≤ 12) ∧ 1 ≤ z.toInt ∧ z.toInt ≤ 84) : Met l yX1_duesThatCome (Cond.code yX1_duesThatCome cX1_duesThatCome 5 (some .int) :: tb) ({ frames := 0, cells := 0, slots := 0, locals := 0 } : Room) (va_Pc [.int x, .int y, .int z] (cP G k [] [] sz)) (va_Qi (fun (r : Int32) (_ : Unit) => (r.toInt = nDu x y z)) (cB G (fun (_ : Unit) => []) (fun (_ : Unit) => []) (va_A [] sz)) (va_A [] sz)) 0 0 (va_A [] sz) := by
  refine ofC_i (cc := cX1_duesThatCome) (maxL := 5) (ret := (some .int)) (by decide) rfl (Nat.le_of_ble_eq_true rfl) ?_
  intro p e s m args below meth c A ls Q F hr hin hlk St hl hQ
  have hx := F.1
  have hb := F.2.1
  have hl : lv_has ls 5 [(0, .int x), (1, .int y), (2, .int z)] := hl
  have St : cS G k [] [] A s s.heap [] := St
  have y0 : (0 : Int32).toInt = 0 := by decide
  refine lv_iconst (v := 0) hx hb dX1_duesThatCome_0 (by decide) ?_
  refine lv_istore_n (lv' := [(3, .int 0), (0, .int x), (1, .int y), (2, .int z)]) hx hb dX1_duesThatCome_1 rfl hl (by decide) rfl (fun ls hl => ?_)
  refine lv_iconst (v := 0) hx hb dX1_duesThatCome_2 (by decide) ?_
  refine lv_istore (lv' := [(4, .int 0), (3, .int 0), (0, .int x), (1, .int y), (2, .int z)]) hx hb dX1_duesThatCome_3 hl (by decide) rfl (fun ls hl => ?_)
  have lp5 : ∀ (n : Nat) (q_ : Int32) (i_ : Int32) (H : Heap) (locs : List Loc) (ls : Array Slot), ((0 ≤ i_.toInt ∧ i_.toInt ≤ z.toInt) ∧ q_.toInt = sm (tDu x y) i_.toNatClampNeg) → ((85 - i_.toInt).toNat) < n → cS G k [] [] A s H locs → lv_has ls 5 [(4, .int i_), (3, .int q_), (0, .int x), (1, .int y), (2, .int z)] → W p l e ({ frames := 0, cells := 0, slots := 0, locals := 0 } : Room) s m args below meth c H locs 0 0 Q (F0 m 5 ls []) := by
    intro n
    induction n with
    | zero => intro q_ i_ H locs ls hI hn; exact absurd hn (Nat.not_lt_zero _)
    | succ n ih =>
      intro q_ i_ H locs ls hI hn St hl
      obtain ⟨⟨hI0, hI1⟩, hs⟩ := hI
      have nk := nc_int hI0
      have hnb := sm_bd (f := tDu x y) (c := 1) (n := i_.toNatClampNeg) (fun k_ _ => tDu_bd k_)
      rw [← hs] at hnb
      refine lv_iload hx hb dX1_duesThatCome_5 (lv_at hl 0 rfl) ?_
      refine lv_iload_n hx hb dX1_duesThatCome_7 rfl (lv_at hl 4 rfl) ?_
      refine lv_icmp_ge (tgt := 38) hx hb dX1_duesThatCome_8 (by decide) (fun c8 => ?_) (fun c8 => ?_)
      ·
        have i8 := ci_le (x := z) (y := i_) rfl rfl c8
        refine lv_iload_n hx hb dX1_duesThatCome_38 rfl (lv_at hl 1 rfl) ?_
        exact cs_iret F hr hlk hQ St () (r := q_) (sm_at hs (by have q9 := nc_int (x := z) (by omega); omega)) [] rfl (by decide) [] rfl (by decide) (by decide) dX1_duesThatCome_39
      ·
        have i8 := ci_nle (x := z) (y := i_) rfl rfl c8
        refine lv_iload hx hb dX1_duesThatCome_11 (lv_at hl 0 rfl) ?_
        refine lv_bipush (v := 84) hx hb dX1_duesThatCome_13 (by decide) ?_
        refine lv_icmp_ge (tgt := 38) hx hb dX1_duesThatCome_15 (by decide) (fun c15 => ?_) (fun c15 => ?_)
        ·
          have i15 := ci_le (x := 84) (y := i_) (show (84 : Int32).toInt = 84 by decide) rfl c15
          refine lv_iload_n hx hb dX1_duesThatCome_38 rfl (lv_at hl 1 rfl) ?_
          exact cs_iret F hr hlk hQ St () (r := q_) (sm_at hs (by have q9 := nc_int (x := z) (by omega); omega)) [] rfl (by decide) [] rfl (by decide) (by decide) dX1_duesThatCome_39
        ·
          have i15 := ci_nle (x := 84) (y := i_) (show (84 : Int32).toInt = 84 by decide) rfl c15
          refine lv_iload_n hx hb dX1_duesThatCome_18 rfl (lv_at hl 2 rfl) ?_
          refine lv_iload hx hb dX1_duesThatCome_19 (lv_at hl 0 rfl) ?_
          refine lv_iload_n hx hb dX1_duesThatCome_21 rfl (lv_at hl 3 rfl) ?_
          refine lv_imul hx hb dX1_duesThatCome_22 ?_
          refine lv_topi (fun y_1 ey_1 => ?_)
          skip
          refine lv_iadd hx hb dX1_duesThatCome_23 ?_
          refine lv_topi (fun y_2 ey_2 => ?_)
          first | have jy_2 : y_2.toInt = x.toInt + y_1.toInt := (by have q9 := ci_add (x := x) (y := y_1) rfl rfl ey_2; omega) | have jy_2 := ci_add (x := x) (y := y_1) rfl rfl ey_2
          have hmo := mo_of (pf := x) (pe := y) (x := i_) hI0 (by omega) ⟨hxx.1.1, hxx.1.2, hxx.2.1.1, hxx.2.1.2⟩ ey_1 ey_2
          refine lv_bipush (v := 119) hx hb dX1_duesThatCome_24 (by decide) ?_
          refine lv_icmp_gt (tgt := 32) hx hb dX1_duesThatCome_26 (by decide) (fun c26 => ?_) (fun c26 => ?_)
          ·
            have i26 := ci_lt (x := 119) (y := y_2) (show (119 : Int32).toInt = 119 by decide) rfl c26
            obtain ⟨y_3, ey_3⟩ : ∃ zz : Int32, zz = i_ + 1 := ⟨_, rfl⟩
            first | have jy_3 : y_3.toInt = i_.toInt + 1 := (by have q9 := ci_add (x := i_) rfl (show (1 : Int32).toInt = 1 by decide) ey_3; omega) | have jy_3 := ci_add (x := i_) rfl (show (1 : Int32).toInt = 1 by decide) ey_3
            refine lv_iinc (v := y_3) (lv' := [(4, .int y_3), (3, .int q_), (0, .int x), (1, .int y), (2, .int z)]) hx hb dX1_duesThatCome_32 hl (k := 0) rfl (by rw [ey_3]; rfl) (by decide) rfl (fun ls hl => ?_)
            refine lv_goto (tgt := 5) hx hb dX1_duesThatCome_35 (by decide) ?_
            exact ih q_ y_3 _ _ _ ⟨⟨by omega, by omega⟩, sm_up hI0 hs (by omega) (by unfold tDu; split <;> omega)⟩ (by omega) St (lv_sub hl [0, 1, 2, 3, 4] rfl)
          ·
            have i26 := ci_nlt (x := 119) (y := y_2) (show (119 : Int32).toInt = 119 by decide) rfl c26
            obtain ⟨y_4, ey_4⟩ : ∃ zz : Int32, zz = q_ + 1 := ⟨_, rfl⟩
            first | have jy_4 : y_4.toInt = q_.toInt + 1 := (by have q9 := ci_add (x := q_) rfl (show (1 : Int32).toInt = 1 by decide) ey_4; omega) | have jy_4 := ci_add (x := q_) rfl (show (1 : Int32).toInt = 1 by decide) ey_4
            refine lv_iinc (v := y_4) (lv' := [(3, .int y_4), (4, .int i_), (0, .int x), (1, .int y), (2, .int z)]) hx hb dX1_duesThatCome_29 hl (k := 1) rfl (by rw [ey_4]; rfl) (by decide) rfl (fun ls hl => ?_)
            obtain ⟨y_5, ey_5⟩ : ∃ zz : Int32, zz = i_ + 1 := ⟨_, rfl⟩
            first | have jy_5 : y_5.toInt = i_.toInt + 1 := (by have q9 := ci_add (x := i_) rfl (show (1 : Int32).toInt = 1 by decide) ey_5; omega) | have jy_5 := ci_add (x := i_) rfl (show (1 : Int32).toInt = 1 by decide) ey_5
            refine lv_iinc (v := y_5) (lv' := [(4, .int y_5), (3, .int y_4), (0, .int x), (1, .int y), (2, .int z)]) hx hb dX1_duesThatCome_32 hl (k := 1) rfl (by rw [ey_5]; rfl) (by decide) rfl (fun ls hl => ?_)
            refine lv_goto (tgt := 5) hx hb dX1_duesThatCome_35 (by decide) ?_
            exact ih y_4 y_5 _ _ _ ⟨⟨by omega, by omega⟩, sm_up hI0 hs (by omega) (by unfold tDu; split <;> omega)⟩ (by omega) St (lv_sub hl [0, 1, 2, 3, 4] rfl)
  exact lp5 86 0 0 _ _ _ ⟨⟨by omega, by omega⟩, by rw [y0]; rfl⟩ (by omega) St (lv_sub hl [0, 1, 2, 3, 4] rfl)
set_option maxHeartbeats 4000000 in
set_option maxRecDepth 100000 in
theorem e1_init (l : Launch) (G : va_G) (k : Nat → Nat) (sz : Nat) (h : Nat) (ci : ClassId) (x1 : Int32) (x2 : Int32) (x3 : Int32) (x4 : Int32) (x5 : Int32) (hxx : (0 ≤ x3.toInt ∧ x3.toInt ≤ 119) ∧ (1 ≤ x4.toInt ∧ x4.toInt ≤ 12) ∧ 1 ≤ x5.toInt ∧ x5.toInt ≤ 84) : Met l yX1_init (Cond.code yX1_init cX1_init 7 none :: tb) ({ frames := 1, cells := 3, slots := 252, locals := 24 } : Room) (va_Pc [.ref h, .int x1, .int x2, .int x3, .int x4, .int x5] (cP G k [(h, .inr (1, [.int 0, .int 0, .int 0, .int 0, .null, .null, .null, .int 0, .int 0, .int 0, .int 0, .int 0]))] [(ci, .int)] sz)) (va_Qv (fun (u : Int32 × Nat × Nat × Nat × Nat × (Nat → Int32)) => match u with | (sz0, o0, o1, o2, NN, w0) => ((NN : Int) = sz0.toInt) ∧ (NN ≤ 84) ∧ (NN = (nDu x3 x4 x5).toNat) ∧ (w0 = fU (fun _ => true) (fun _ => x2) (fun _ => 0) 0 NN)) (cB G (fun u => match u with | (sz0, o0, o1, o2, NN, w0) => [(qIIIIAAAIIIII h 1 x1 x3 x4 sz0 o0 o1 o2 x2 0 0 0 (-1)), (qarI o0 ci NN w0), (qarI o1 ci NN (fun _ => 0)), (qarI o2 ci NN (fun _ => 0))]) (fun u => match u with | (sz0, o0, o1, o2, NN, w0) => []) (va_A [(h, .inr (1, [.int 0, .int 0, .int 0, .int 0, .null, .null, .null, .int 0, .int 0, .int 0, .int 0, .int 0]))] sz)) (va_A [(h, .inr (1, [.int 0, .int 0, .int 0, .int 0, .null, .null, .null, .int 0, .int 0, .int 0, .int 0, .int 0]))] sz)) 3 252 (va_A [(h, .inr (1, [.int 0, .int 0, .int 0, .int 0, .null, .null, .null, .int 0, .int 0, .int 0, .int 0, .int 0]))] sz) := by
  refine ofC_v (cc := cX1_init) (maxL := 7) (ret := none) (by decide) rfl (Nat.le_of_ble_eq_true rfl) ?_
  intro p e s m args below meth c A ls Q F hr hin hlk St hl hQ
  have hx := F.1
  have hb := F.2.1
  have hl : lv_has ls 7 [(0, .ref h), (1, .int x1), (2, .int x2), (3, .int x3), (4, .int x4), (5, .int x5)] := hl
  have St : cS G k [(h, .inr (1, [.int 0, .int 0, .int 0, .int 0, .null, .null, .null, .int 0, .int 0, .int 0, .int 0, .int 0]))] [(ci, .int)] A s s.heap [] := St
  refine lv_aload_n hx hb dX1_init_0 rfl (lv_at hl 0 rfl) ?_
  refine W.objInit hx hb F.2.2.2.1 (F.2.2.2.2 _ km_X1_3) (F.2.2.2.2 _ kj_objectInit) (F.2.2.2.2 _ kd_objectInit) rfl (by rw [F.2.2.1]; exact hl.1) rfl dX1_init_1 (Nat.le_of_ble_eq_true rfl) (Nat.le_of_ble_eq_true rfl) ?_
  refine W.eq (g2 := F0 m 4 ls []) rfl ?_
  refine lv_aload_n hx hb dX1_init_4 rfl (lv_at hl 0 rfl) ?_
  refine lv_iconst (v := (-1)) hx hb dX1_init_5 (by decide) ?_
  refine cs_put F St 0 rfl rfl inX1 tyX1_ok nmX1 11 (by decide) kf_X1_9 rfl rfl rfl (Nat.le_of_ble_eq_true rfl) (w' := [(h, .inr (1, [.int 0, .int 0, .int 0, .int 0, .null, .null, .null, .int 0, .int 0, .int 0, .int 0, .int (-1)]))]) rfl dX1_init_6 (fun H locs St => ?_)
  refine lv_aload_n hx hb dX1_init_9 rfl (lv_at hl 0 rfl) ?_
  refine lv_iload_n hx hb dX1_init_10 rfl (lv_at hl 1 rfl) ?_
  refine cs_putF F hin St 0 rfl rfl inX1 tyX1_ok nmX1 0 (by decide) kf_X1_15 rfl rfl rfl rfl (Nat.le_of_ble_eq_true rfl) (w' := [(h, .inr (1, [.int x1, .int 0, .int 0, .int 0, .null, .null, .null, .int 0, .int 0, .int 0, .int 0, .int (-1)]))]) rfl dX1_init_11 (fun H locs St => ?_)
  refine lv_aload_n hx hb dX1_init_14 rfl (lv_at hl 0 rfl) ?_
  refine lv_iload_n hx hb dX1_init_15 rfl (lv_at hl 3 rfl) ?_
  refine cs_putF F hin St 0 rfl rfl inX1 tyX1_ok nmX1 1 (by decide) kf_X1_18 rfl rfl rfl rfl (Nat.le_of_ble_eq_true rfl) (w' := [(h, .inr (1, [.int x1, .int x3, .int 0, .int 0, .null, .null, .null, .int 0, .int 0, .int 0, .int 0, .int (-1)]))]) rfl dX1_init_16 (fun H locs St => ?_)
  refine lv_aload_n hx hb dX1_init_19 rfl (lv_at hl 0 rfl) ?_
  refine lv_iload hx hb dX1_init_20 (lv_at hl 4 rfl) ?_
  refine cs_putF F hin St 0 rfl rfl inX1 tyX1_ok nmX1 2 (by decide) kf_X1_21 rfl rfl rfl rfl (Nat.le_of_ble_eq_true rfl) (w' := [(h, .inr (1, [.int x1, .int x3, .int x4, .int 0, .null, .null, .null, .int 0, .int 0, .int 0, .int 0, .int (-1)]))]) rfl dX1_init_22 (fun H locs St => ?_)
  refine lv_aload_n hx hb dX1_init_25 rfl (lv_at hl 0 rfl) ?_
  refine lv_iload_n hx hb dX1_init_26 rfl (lv_at hl 3 rfl) ?_
  refine lv_iload hx hb dX1_init_27 (lv_at hl 4 rfl) ?_
  refine lv_iload hx hb dX1_init_29 (lv_at hl 5 rfl) ?_
  refine cs_i St [] [0] (wc := []) (wr := [(h, .inr (1, [.int x1, .int x3, .int x4, .int 0, .null, .null, .null, .int 0, .int 0, .int 0, .int 0, .int (-1)]))]) rfl rfl (by decide) (by decide) (va_runS (As := [.int x3, .int x4, .int x5]) (rest := [.ref h]) F (e1_dues l G k _ x3 x4 x5 (by omega)) (cwSt F mf_X1_duesThatCome km_X1_24 rfl rfl ⟨Nat.le_of_ble_eq_true rfl, Nat.le_of_ble_eq_true rfl⟩) (cs_pre St [] rfl (by decide) [] rfl) rfl rfl hl.1 rfl (lv_room (Nat.le_of_ble_eq_true rfl)) dX1_init_31 ⟨Nat.le_of_ble_eq_true rfl, Nat.le_of_ble_eq_true rfl⟩) (fun r_1 u_2 H locs hw St => ?_)
  try dsimp only at hw
  have hf_3 := hw
  have St : cS G k [(h, .inr (1, [.int x1, .int x3, .int x4, .int 0, .null, .null, .null, .int 0, .int 0, .int 0, .int 0, .int (-1)]))] [(ci, .int)] A s H locs := St
  have hdu := nDu_bd (x3 := x3) (x4 := x4) (x5 := x5) (by omega)
  refine cs_putF F hin St 0 rfl rfl inX1 tyX1_ok nmX1 3 (by decide) kf_X1_28 rfl rfl rfl rfl (Nat.le_of_ble_eq_true rfl) (w' := [(h, .inr (1, [.int x1, .int x3, .int x4, .int r_1, .null, .null, .null, .int 0, .int 0, .int 0, .int 0, .int (-1)]))]) rfl dX1_init_34 (fun H locs St => ?_)
  refine lv_aload_n hx hb dX1_init_37 rfl (lv_at hl 0 rfl) ?_
  refine lv_aload_n hx hb dX1_init_38 rfl (lv_at hl 0 rfl) ?_
  refine cs_get F St 0 rfl rfl inX1 3 (by decide) kf_X1_28 rfl dX1_init_39 ?_
  obtain ⟨N0, hN0, hN1, hneg⟩ := nc_ex (x := r_1) (by omega)
  refine cs_newa F St (atype := .int) ka_int rfl (N' := N0) (a0 := (N0, .inl (fun _ => 0))) (fun _ => rfl) hneg hN0 (by show N0 * 4 ≤ 536870912; omega) (Nat.le_of_ble_eq_true rfl) (show 0 + N0 ≤ 252 by omega) dX1_init_42 (fun q_4 d_5 H St => ?_)
  refine W.widen (k := 1) (n := 84) (by decide) (by omega) ?_
  have St : cS G k [(h, .inr (1, [.int x1, .int x3, .int x4, .int r_1, .null, .null, .null, .int 0, .int 0, .int 0, .int 0, .int (-1)])), (qarI q_4 d_5 N0 (fun _ => 0))] [(ci, .int), (d_5, .int)] A s _ _ := St
  obtain rfl : ci = d_5 := cs_one St 0 1 rfl rfl
  have St : cS G k [(h, .inr (1, [.int x1, .int x3, .int x4, .int r_1, .null, .null, .null, .int 0, .int 0, .int 0, .int 0, .int (-1)])), (qarI q_4 ci N0 (fun _ => 0))] [(ci, .int), (ci, .int)] A s _ _ := St
  refine cs_putF F hin St 0 rfl rfl inX1 tyX1_ok nmX1 4 (by decide) kf_X1_31 rfl rfl rfl rfl (Nat.le_of_ble_eq_true rfl) (w' := [(h, .inr (1, [.int x1, .int x3, .int x4, .int r_1, .ref q_4, .null, .null, .int 0, .int 0, .int 0, .int 0, .int (-1)])), (qarI q_4 ci N0 (fun _ => 0))]) rfl dX1_init_44 (fun H locs St => ?_)
  refine lv_aload_n hx hb dX1_init_47 rfl (lv_at hl 0 rfl) ?_
  refine lv_aload_n hx hb dX1_init_48 rfl (lv_at hl 0 rfl) ?_
  refine cs_get F St 0 rfl rfl inX1 3 (by decide) kf_X1_28 rfl dX1_init_49 ?_
  refine cs_newa F St (atype := .int) ka_int rfl (N' := N0) (a0 := (N0, .inl (fun _ => 0))) (fun _ => rfl) hneg hN0 (by show N0 * 4 ≤ 536870912; omega) (Nat.le_of_ble_eq_true rfl) (show 84 + N0 ≤ 252 by omega) dX1_init_52 (fun q_6 d_7 H St => ?_)
  refine W.widen (k := 2) (n := 168) (by decide) (by omega) ?_
  have St : cS G k [(h, .inr (1, [.int x1, .int x3, .int x4, .int r_1, .ref q_4, .null, .null, .int 0, .int 0, .int 0, .int 0, .int (-1)])), (qarI q_4 ci N0 (fun _ => 0)), (qarI q_6 d_7 N0 (fun _ => 0))] [(ci, .int), (ci, .int), (d_7, .int)] A s _ _ := St
  obtain rfl : ci = d_7 := cs_one St 0 2 rfl rfl
  have St : cS G k [(h, .inr (1, [.int x1, .int x3, .int x4, .int r_1, .ref q_4, .null, .null, .int 0, .int 0, .int 0, .int 0, .int (-1)])), (qarI q_4 ci N0 (fun _ => 0)), (qarI q_6 ci N0 (fun _ => 0))] [(ci, .int), (ci, .int), (ci, .int)] A s _ _ := St
  refine cs_putF F hin St 0 rfl rfl inX1 tyX1_ok nmX1 5 (by decide) kf_X1_35 rfl rfl rfl rfl (Nat.le_of_ble_eq_true rfl) (w' := [(h, .inr (1, [.int x1, .int x3, .int x4, .int r_1, .ref q_4, .ref q_6, .null, .int 0, .int 0, .int 0, .int 0, .int (-1)])), (qarI q_4 ci N0 (fun _ => 0)), (qarI q_6 ci N0 (fun _ => 0))]) rfl dX1_init_54 (fun H locs St => ?_)
  refine lv_aload_n hx hb dX1_init_57 rfl (lv_at hl 0 rfl) ?_
  refine lv_aload_n hx hb dX1_init_58 rfl (lv_at hl 0 rfl) ?_
  refine cs_get F St 0 rfl rfl inX1 3 (by decide) kf_X1_28 rfl dX1_init_59 ?_
  refine cs_newa F St (atype := .int) ka_int rfl (N' := N0) (a0 := (N0, .inl (fun _ => 0))) (fun _ => rfl) hneg hN0 (by show N0 * 4 ≤ 536870912; omega) (Nat.le_of_ble_eq_true rfl) (show 168 + N0 ≤ 252 by omega) dX1_init_62 (fun q_8 d_9 H St => ?_)
  refine W.widen (k := 3) (n := 252) (by decide) (by omega) ?_
  have St : cS G k [(h, .inr (1, [.int x1, .int x3, .int x4, .int r_1, .ref q_4, .ref q_6, .null, .int 0, .int 0, .int 0, .int 0, .int (-1)])), (qarI q_4 ci N0 (fun _ => 0)), (qarI q_6 ci N0 (fun _ => 0)), (qarI q_8 d_9 N0 (fun _ => 0))] [(ci, .int), (ci, .int), (ci, .int), (d_9, .int)] A s _ _ := St
  obtain rfl : ci = d_9 := cs_one St 0 3 rfl rfl
  have St : cS G k [(h, .inr (1, [.int x1, .int x3, .int x4, .int r_1, .ref q_4, .ref q_6, .null, .int 0, .int 0, .int 0, .int 0, .int (-1)])), (qarI q_4 ci N0 (fun _ => 0)), (qarI q_6 ci N0 (fun _ => 0)), (qarI q_8 ci N0 (fun _ => 0))] [(ci, .int), (ci, .int), (ci, .int), (ci, .int)] A s _ _ := St
  refine cs_putF F hin St 0 rfl rfl inX1 tyX1_ok nmX1 6 (by decide) kf_X1_38 rfl rfl rfl rfl (Nat.le_of_ble_eq_true rfl) (w' := [(qIIIIAAAIIIII h 1 x1 x3 x4 r_1 q_4 q_6 q_8 0 0 0 0 (-1)), (qarI q_4 ci N0 (fun _ => 0)), (qarI q_6 ci N0 (fun _ => 0)), (qarI q_8 ci N0 (fun _ => 0))]) rfl dX1_init_64 (fun H locs St => ?_)
  refine lv_aload_n hx hb dX1_init_67 rfl (lv_at hl 0 rfl) ?_
  refine lv_iload_n hx hb dX1_init_68 rfl (lv_at hl 2 rfl) ?_
  refine cs_put F St 0 rfl rfl inX1 tyX1_ok nmX1 7 (by decide) kf_X1_41 rfl rfl rfl (Nat.le_of_ble_eq_true rfl) (w' := [(qIIIIAAAIIIII h 1 x1 x3 x4 r_1 q_4 q_6 q_8 x2 0 0 0 (-1)), (qarI q_4 ci N0 (fun _ => 0)), (qarI q_6 ci N0 (fun _ => 0)), (qarI q_8 ci N0 (fun _ => 0))]) rfl dX1_init_69 (fun H locs St => ?_)
  refine lv_iconst (v := 0) hx hb dX1_init_72 (by decide) ?_
  refine lv_istore (lv' := [(6, .int 0), (0, .ref h), (1, .int x1), (2, .int x2), (3, .int x3), (4, .int x4), (5, .int x5)]) hx hb dX1_init_73 hl (by decide) rfl (fun ls hl => ?_)
  have lp75 : ∀ (n : Nat) (i : Int32) (fo : Nat → Int32) (H : Heap) (locs : List Loc) (ls : Array Slot), ((0 ≤ i.toInt ∧ i.toInt ≤ N0) ∧ fo = fU (fun _ => true) (fun _ => x2) (fun _ => 0) 0 i.toNatClampNeg) → ((85 - i.toInt).toNat) < n → cS G k [(qIIIIAAAIIIII h 1 x1 x3 x4 r_1 q_4 q_6 q_8 x2 0 0 0 (-1)), (qarI q_4 ci N0 fo), (qarI q_6 ci N0 (fun _ => 0)), (qarI q_8 ci N0 (fun _ => 0))] [(ci, .int), (ci, .int), (ci, .int), (ci, .int)] A s H locs → lv_has ls 7 [(6, .int i), (0, .ref h), (1, .int x1), (2, .int x2), (3, .int x3), (4, .int x4), (5, .int x5)] → W p l e ({ frames := 1, cells := 3, slots := 252, locals := 24 } : Room) s m args below meth c H locs 3 252 Q (F0 m 75 ls []) := by
    intro n
    induction n with
    | zero => intro i fo H locs ls hI hn; exact absurd hn (Nat.not_lt_zero _)
    | succ n ih =>
      intro i fo H locs ls hI hn St hl
      obtain ⟨⟨hI0, hI1⟩, hs⟩ := hI
      have nk := nc_int hI0
      refine lv_iload hx hb dX1_init_75 (lv_at hl 0 rfl) ?_
      refine lv_aload_n hx hb dX1_init_77 rfl (lv_at hl 1 rfl) ?_
      refine cs_get F St 0 rfl rfl inX1 3 (by decide) kf_X1_28 rfl dX1_init_78 ?_
      refine lv_icmp_ge (tgt := 98) hx hb dX1_init_81 (by decide) (fun c81 => ?_) (fun c81 => ?_)
      ·
        have i81 := ci_le (x := r_1) (y := i) rfl rfl c81
        exact cs_vret F hr hlk hQ St (r_1, q_4, q_6, q_8, N0, fo) ⟨hN1, by omega, by omega, fU_at hs (by omega)⟩ [0, 1, 2, 3] rfl (by decide) [] rfl (by decide) (by decide) dX1_init_98
      ·
        have i81 := ci_nle (x := r_1) (y := i) rfl rfl c81
        refine lv_aload_n hx hb dX1_init_84 rfl (lv_at hl 1 rfl) ?_
        refine cs_get F St 0 rfl rfl inX1 4 (by decide) kf_X1_31 rfl dX1_init_85 ?_
        refine lv_iload hx hb dX1_init_88 (lv_at hl 0 rfl) ?_
        refine lv_iload_n hx hb dX1_init_90 rfl (lv_at hl 3 rfl) ?_
        refine cs_ist F St 1 0 rfl rfl (vp_in_iff.mpr ⟨by omega, by omega⟩) (w' := [(qIIIIAAAIIIII h 1 x1 x3 x4 r_1 q_4 q_6 q_8 x2 0 0 0 (-1)), (qarI q_4 ci N0 (upd fo (i : Int32).toNatClampNeg x2)), (qarI q_6 ci N0 (fun _ => 0)), (qarI q_8 ci N0 (fun _ => 0))]) rfl dX1_init_91 (fun H locs St => ?_)
        obtain ⟨f_10, ef_10⟩ : ∃ zz : Nat → Int32, zz = upd fo (i : Int32).toNatClampNeg x2 := ⟨_, rfl⟩
        rw [← ef_10] at St
        obtain ⟨y_11, ey_11⟩ : ∃ zz : Int32, zz = i + 1 := ⟨_, rfl⟩
        first | have jy_11 : y_11.toInt = i.toInt + 1 := (by have q9 := ci_add (x := i) rfl (show (1 : Int32).toInt = 1 by decide) ey_11; omega) | have jy_11 := ci_add (x := i) rfl (show (1 : Int32).toInt = 1 by decide) ey_11
        refine lv_iinc (v := y_11) (lv' := [(6, .int y_11), (0, .ref h), (1, .int x1), (2, .int x2), (3, .int x3), (4, .int x4), (5, .int x5)]) hx hb dX1_init_92 hl (k := 0) rfl (by rw [ey_11]; rfl) (by decide) rfl (fun ls hl => ?_)
        refine lv_goto (tgt := 75) hx hb dX1_init_95 (by decide) ?_
        exact ih y_11 f_10 _ _ _ ⟨⟨by omega, by omega⟩, by rw [ef_10]; exact fU_Y hI0 (Nat.zero_le _) hs (by omega) rfl rfl⟩ (by omega) St (lv_sub hl [0, 1, 2, 3, 4, 5, 6] rfl)
  exact lp75 86 0 (fun _ => 0) _ _ _ ⟨⟨by decide, by rw [show (0 : Int32).toInt = 0 from by decide]; omega⟩, fU_0.symm⟩ (by decide) St (lv_sub hl [0, 1, 2, 3, 4, 5, 6] rfl)
set_option maxHeartbeats 4000000 in
set_option maxRecDepth 100000 in
theorem e2_lapsedNow (l : Launch) (G : va_G) (k : Nat → Nat) (sz : Nat) (h : Nat) (b : Nat) (ce : ClassId) (bn : Int32) (fa : Nat → Option Nat) (ci : ClassId) (nP : Nat) (bP : Nat → va_W) (c9 : Int) (tP : Nat → Pl9) (hnP : (nP : Int) = bn.toInt) (hn60 : nP ≤ 60) (hB : ∀ i, i < nP → okE ci (tP i) (fa i) (bP i)) (hWT : ∀ i, i < nP → wfT c9 (tP i)) : Met l yX2_lapsedNow (Cond.code yX2_lapsedNow cX2_lapsedNow 4 (some .int) :: tb) ({ frames := 1, cells := 0, slots := 0, locals := 21 } : Room) (va_Pc [.ref h] (cP G k ([(qAI h 2 b bn), (qarQ b ce 60 fa)] ++ (PW nP bP ++ [])) [(ci, .int), (ce, .object "TowerAppeal$Pledge")] sz)) (va_Qi (fun (r : Int32) (bP2 : (Nat → va_W)) => (r.toInt = sm (fun i => lnT (tP i)) nP) ∧ (∀ i, i < nP → okE ci (tP i) (fa i) (bP2 i))) (cB G (fun (bP2 : (Nat → va_W)) => ([(qAI h 2 b bn), (qarQ b ce 60 fa)] ++ (PW nP bP2 ++ []))) (fun (bP2 : (Nat → va_W)) => []) (va_A ([(qAI h 2 b bn), (qarQ b ce 60 fa)] ++ (PW nP bP ++ [])) sz)) (va_A ([(qAI h 2 b bn), (qarQ b ce 60 fa)] ++ (PW nP bP ++ [])) sz)) 0 0 (va_A ([(qAI h 2 b bn), (qarQ b ce 60 fa)] ++ (PW nP bP ++ [])) sz) := by
  refine ofC_i (cc := cX2_lapsedNow) (maxL := 4) (ret := (some .int)) (by decide) rfl (Nat.le_of_ble_eq_true rfl) ?_
  intro p e s m args below meth c A ls Q F hr hin hlk St hl hQ
  have hx := F.1
  have hb := F.2.1
  have hl : lv_has ls 4 [(0, .ref h)] := hl
  have St : cS G k ([(qAI h 2 b bn), (qarQ b ce 60 fa)] ++ (PW nP bP ++ [])) [(ci, .int), (ce, .object "TowerAppeal$Pledge")] A s s.heap [] := St
  have y0 : (0 : Int32).toInt = 0 := by decide
  skip
  refine lv_iconst (v := 0) hx hb dX2_lapsedNow_0 (by decide) ?_
  refine lv_istore_n (lv' := [(1, .int 0), (0, .ref h)]) hx hb dX2_lapsedNow_1 rfl hl (by decide) rfl (fun ls hl => ?_)
  refine lv_iconst (v := 0) hx hb dX2_lapsedNow_2 (by decide) ?_
  refine lv_istore_n (lv' := [(2, .int 0), (1, .int 0), (0, .ref h)]) hx hb dX2_lapsedNow_3 rfl hl (by decide) rfl (fun ls hl => ?_)
  have lp4 : ∀ (n : Nat) (kk : Int32) (nn : Int32) (bq : Nat → va_W) (H : Heap) (locs : List Loc) (ls : Array Slot), (((0 ≤ kk.toInt ∧ kk.toInt ≤ bn.toInt) ∧ ∀ i, i < nP → okE ci (tP i) (fa i) (bq i)) ∧ nn.toInt = sm (fun i => lnT (tP i)) kk.toNatClampNeg) → ((60 - kk.toInt).toNat) < n → cS G k ([(qAI h 2 b bn), (qarQ b ce 60 fa)] ++ (PW nP bq ++ [])) [(ci, .int), (ce, .object "TowerAppeal$Pledge")] A s H locs → lv_has ls 4 [(2, .int kk), (1, .int nn), (0, .ref h)] → W p l e ({ frames := 1, cells := 0, slots := 0, locals := 21 } : Room) s m args below meth c H locs 0 0 Q (F0 m 4 ls []) := by
    intro n
    induction n with
    | zero => intro kk nn bq H locs ls hI hn; exact absurd hn (Nat.not_lt_zero _)
    | succ n ih =>
      intro kk nn bq H locs ls hI hn St hl
      obtain ⟨⟨⟨hI0, hI1⟩, hBq⟩, hs⟩ := hI
      have nk := nc_int hI0
      have hnb := sm_bd (f := fun i => lnT (tP i)) (c := 1) (n := kk.toNatClampNeg) (fun i_ h_ => ln_bd (hWT i_ (by omega)))
      rw [← hs] at hnb
      skip
      refine lv_iload_n hx hb dX2_lapsedNow_4 rfl (lv_at hl 0 rfl) ?_
      refine lv_aload_n hx hb dX2_lapsedNow_5 rfl (lv_at hl 2 rfl) ?_
      refine ct_get F St 0 rfl rfl inX2 1 (by decide) kf_X2_17 rfl dX2_lapsedNow_6 ?_
      refine lv_icmp_ge (tgt := 38) hx hb dX2_lapsedNow_9 (by decide) (fun c9 => ?_) (fun c9 => ?_)
      ·
        have i9 := ci_le (x := bn) (y := kk) rfl rfl c9
        refine lv_iload_n hx hb dX2_lapsedNow_38 rfl (lv_at hl 1 rfl) ?_
        have St : cS G k ([(qAI h 2 b bn), (qarQ b ce 60 fa)] ++ (PW nP bq ++ [])) [(ci, .int), (ce, .object "TowerAppeal$Pledge")] A s _ _ := ct_pick St [0, 1] rfl (by decide) [0, 1] rfl
        exact cs_iret F hr hlk hQ St bq (r := nn) ⟨sm_at hs (by omega), hBq⟩ (List.range _) (ix_all (w := ([(qAI h 2 b bn), (qarQ b ce 60 fa)] ++ (PW nP bq ++ [])))) nd_C [] rfl (by decide) (by decide) dX2_lapsedNow_39
      ·
        have i9 := ci_nle (x := bn) (y := kk) rfl rfl c9
        refine lv_aload_n hx hb dX2_lapsedNow_12 rfl (lv_at hl 2 rfl) ?_
        refine lv_iload_n hx hb dX2_lapsedNow_13 rfl (lv_at hl 0 rfl) ?_
        refine ct_q St [0, 1] [] (wc := [(qAI h 2 b bn), (qarQ b ce 60 fa)]) (wr := []) rfl rfl (by decide) (by decide) (va_runV (As := [.int kk]) (rest := []) F (x2_at l G k _ h b ce bn fa kk (by omega) (by omega)) (cwVt F mf_X2_at km_X2_21 rfl rfl ⟨Nat.le_of_ble_eq_true rfl, Nat.le_of_ble_eq_true rfl⟩) (ct_preV St [0, 1] rfl (by decide) [1] rfl (ci := 2) (q0 := 0) rfl rfl) rfl rfl hl.1 rfl (lv_room (Nat.le_of_ble_eq_true rfl)) dX2_lapsedNow_14 ⟨Nat.le_of_ble_eq_true rfl, Nat.le_of_ble_eq_true rfl⟩) (fun r_1 u_2 H locs hw St => ?_)
        try dsimp only at hw
        rcases hw with ⟨z_3, hf_4⟩ | ⟨z_5, hf_6⟩
        ·
          subst r_1
          have St : cS G k ([(qAI h 2 b bn), (qarQ b ce 60 fa)] ++ (PW nP bq ++ [])) [(ci, .int), (ce, .object "TowerAppeal$Pledge")] A s H locs := St
          show W _ _ _ _ _ _ _ _ _ _ _ _ _ _ _ (F0 m 17 ls [.null])
          refine lv_astore_nN (lv' := [(3, .null), (2, .int kk), (1, .int nn), (0, .ref h)]) hx hb dX2_lapsedNow_17 rfl hl (by decide) rfl (fun ls hl => ?_)
          refine lv_aload_nN hx hb dX2_lapsedNow_18 rfl (lv_at hl 0 rfl) ?_
          refine lv_ifnullN (tgt := 32) hx hb dX2_lapsedNow_19 (by decide) ?_
          obtain ⟨y_7, ey_7⟩ : ∃ zz : Int32, zz = kk + 1 := ⟨_, rfl⟩
          first | have jy_7 : y_7.toInt = kk.toInt + 1 := (by have q9 := ci_add (x := kk) rfl (show (1 : Int32).toInt = 1 by decide) ey_7; omega) | have jy_7 := ci_add (x := kk) rfl (show (1 : Int32).toInt = 1 by decide) ey_7
          refine lv_iinc (v := y_7) (lv' := [(2, .int y_7), (3, .null), (1, .int nn), (0, .ref h)]) hx hb dX2_lapsedNow_32 hl (k := 1) rfl (by rw [ey_7]; rfl) (by decide) rfl (fun ls hl => ?_)
          refine lv_goto (tgt := 4) hx hb dX2_lapsedNow_35 (by decide) ?_
          skip
          exact ih y_7 nn bq _ _ _ (by exfalso; omega) (by omega) (show cS G k ([(qAI h 2 b bn), (qarQ b ce 60 fa)] ++ (PW nP bq ++ [])) [(ci, .int), (ce, .object "TowerAppeal$Pledge")] A s H locs from ct_pick St [0, 1] rfl (by decide) [0, 1] rfl) (lv_sub hl [0, 2, 3] rfl)
        ·
          have St : cS G k ([(qAI h 2 b bn), (qarQ b ce 60 fa)] ++ (PW nP bq ++ [])) [(ci, .int), (ce, .object "TowerAppeal$Pledge")] A s H locs := St
          obtain ⟨h_8, o0_9, o1_10, o2_11, N0_12, pg_13, pf_14, pe_15, pz_16, pp_17, pa_18, pl_19, pk_20, pb_21, w0_22, w1_23, w2_24, q_25, q_26, q_27, q_28, q_29, q_30⟩ := (hBq _ (nc_lt (x := kk) (n := nP) (by omega) (by omega)))
          have hj_31 := (nc_lt (x := kk) (n := nP) (by omega) (by omega))
          have St : cS G k ([(qAI h 2 b bn), (qarQ b ce 60 fa), (qIIIIAAAIIIII h_8 1 pg_13 pf_14 pe_15 pz_16 o0_9 o1_10 o2_11 pp_17 pa_18 pl_19 pk_20 pb_21), (qarI o0_9 ci N0_12 w0_22), (qarI o1_10 ci N0_12 w1_23), (qarI o2_11 ci N0_12 w2_24)] ++ (PWx nP kk.toNatClampNeg bq ++ [])) [(ci, .int), (ce, .object "TowerAppeal$Pledge")] A s H locs := cs_pull (cs := [(qAI h 2 b bn), (qarQ b ce 60 fa)]) (rs := []) (b := [(qIIIIAAAIIIII h_8 1 pg_13 pf_14 pe_15 pz_16 o0_9 o1_10 o2_11 pp_17 pa_18 pl_19 pk_20 pb_21), (qarI o0_9 ci N0_12 w0_22), (qarI o1_10 ci N0_12 w1_23), (qarI o2_11 ci N0_12 w2_24)]) St hj_31 q_29
          have hw_32 := wf_of (hWT _ hj_31) q_30
          obtain rfl : r_1 = some h_8 := z_5.trans q_25
          show W _ _ _ _ _ _ _ _ _ _ _ _ _ _ _ (F0 m 17 ls [.ref h_8])
          refine lv_astore_n (lv' := [(3, .ref h_8), (2, .int kk), (1, .int nn), (0, .ref h)]) hx hb dX2_lapsedNow_17 rfl hl (by decide) rfl (fun ls hl => ?_)
          refine lv_aload_n hx hb dX2_lapsedNow_18 rfl (lv_at hl 0 rfl) ?_
          refine lv_ifnull hx hb dX2_lapsedNow_19 ?_
          refine lv_aload_n hx hb dX2_lapsedNow_22 rfl (lv_at hl 0 rfl) ?_
          refine ct_i St [2, 3, 4, 5] [0, 1] (wc := [(qIIIIAAAIIIII h_8 1 pg_13 pf_14 pe_15 pz_16 o0_9 o1_10 o2_11 pp_17 pa_18 pl_19 pk_20 pb_21), (qarI o0_9 ci N0_12 w0_22), (qarI o1_10 ci N0_12 w1_23), (qarI o2_11 ci N0_12 w2_24)]) (wr := [(qAI h 2 b bn), (qarQ b ce 60 fa)]) rfl rfl (by decide) (by decide) (va_runV (As := []) (rest := []) F (x1_isLapsed l G k _ h_8 o0_9 o1_10 o2_11 N0_12 ci pg_13 pf_14 pe_15 pz_16 pp_17 pa_18 pl_19 pk_20 pb_21 w0_22 w1_23 w2_24 (by first | assumption | omega) (by first | assumption | omega) (by first | assumption | exact Or.inl rfl | exact Or.inr rfl)) (cwVt F mf_X1_isLapsed km_X2_25 rfl rfl ⟨Nat.le_of_ble_eq_true rfl, Nat.le_of_ble_eq_true rfl⟩) (ct_preV St [2, 3, 4, 5] rfl (by decide) [0] rfl (ci := 1) (q0 := 2) rfl rfl) rfl rfl hl.1 rfl (lv_room (Nat.le_of_ble_eq_true rfl)) dX2_lapsedNow_23 ⟨Nat.le_of_ble_eq_true rfl, Nat.le_of_ble_eq_true rfl⟩) (fun r_33 u_34 H locs hw St => ?_)
          try dsimp only at hw
          have z_35 := hw
          subst r_33
          have St : cS G k ([(qAI h 2 b bn), (qarQ b ce 60 fa), (qIIIIAAAIIIII h_8 1 pg_13 pf_14 pe_15 pz_16 o0_9 o1_10 o2_11 pp_17 pa_18 pl_19 pk_20 pb_21), (qarI o0_9 ci N0_12 w0_22), (qarI o1_10 ci N0_12 w1_23), (qarI o2_11 ci N0_12 w2_24)] ++ (PWx nP kk.toNatClampNeg bq ++ [])) [(ci, .int), (ce, .object "TowerAppeal$Pledge")] A s H locs := St
          have hpi := z01 q_28
          refine lv_if_eq (tgt := 32) hx hb dX2_lapsedNow_26 (by decide) (fun c26 => ?_) (fun c26 => ?_)
          ·
            have i26 := ci_eq (x := pl_19) (y := 0) rfl (show (0 : Int32).toInt = 0 by decide) c26
            obtain ⟨y_36, ey_36⟩ : ∃ zz : Int32, zz = kk + 1 := ⟨_, rfl⟩
            first | have jy_36 : y_36.toInt = kk.toInt + 1 := (by have q9 := ci_add (x := kk) rfl (show (1 : Int32).toInt = 1 by decide) ey_36; omega) | have jy_36 := ci_add (x := kk) rfl (show (1 : Int32).toInt = 1 by decide) ey_36
            refine lv_iinc (v := y_36) (lv' := [(2, .int y_36), (3, .ref h_8), (1, .int nn), (0, .ref h)]) hx hb dX2_lapsedNow_32 hl (k := 1) rfl (by rw [ey_36]; rfl) (by decide) rfl (fun ls hl => ?_)
            refine lv_goto (tgt := 4) hx hb dX2_lapsedNow_35 (by decide) ?_
            have St : cS G k ([(qAI h 2 b bn), (qarQ b ce 60 fa), (qIIIIAAAIIIII h_8 1 pg_13 pf_14 pe_15 pz_16 o0_9 o1_10 o2_11 pp_17 pa_18 pl_19 pk_20 pb_21), (qarI o0_9 ci N0_12 w0_22), (qarI o1_10 ci N0_12 w1_23), (qarI o2_11 ci N0_12 w2_24)] ++ (PWx nP kk.toNatClampNeg bq ++ [])) [(ci, .int), (ce, .object "TowerAppeal$Pledge")] A s H locs := ct_pick St [0, 1, 2, 3, 4, 5] rfl (by decide) [0, 1] rfl
            have St := cs_push (cs := [(qAI h 2 b bn), (qarQ b ce 60 fa)]) (b := [(qIIIIAAAIIIII h_8 1 pg_13 pf_14 pe_15 pz_16 o0_9 o1_10 o2_11 pp_17 pa_18 pl_19 pk_20 pb_21), (qarI o0_9 ci N0_12 w0_22), (qarI o1_10 ci N0_12 w1_23), (qarI o2_11 ci N0_12 w2_24)]) (rs := []) St hj_31
            obtain ⟨B_37, eB_37⟩ : ∃ zz : Nat → va_W, zz = setB bq kk.toNatClampNeg [(qIIIIAAAIIIII h_8 1 pg_13 pf_14 pe_15 pz_16 o0_9 o1_10 o2_11 pp_17 pa_18 pl_19 pk_20 pb_21), (qarI o0_9 ci N0_12 w0_22), (qarI o1_10 ci N0_12 w1_23), (qarI o2_11 ci N0_12 w2_24)] := ⟨_, rfl⟩
            rw [← eB_37] at St
            have hB_38 : ∀ i, i < nP → okE ci (tbS tP kk.toNatClampNeg (N0_12, pg_13, pf_14, pe_15, pl_19, pk_20, w0_22, w1_23, w2_24) i) (fa i) (B_37 i) := by rw [eB_37]; exact okE_set hBq ⟨h_8, o0_9, o1_10, o2_11, N0_12, pg_13, pf_14, pe_15, pz_16, pp_17, pa_18, pl_19, pk_20, pb_21, w0_22, w1_23, w2_24, q_25, q_26, q_27, q_28, rfl, rfl⟩
            rw [tbS_own q_30] at hB_38
            have St : cS G k ([(qAI h 2 b bn), (qarQ b ce 60 fa)] ++ (PW nP B_37 ++ [])) [(ci, .int), (ce, .object "TowerAppeal$Pledge")] A s H locs := St
            skip
            exact ih y_36 nn B_37 _ _ _ ⟨⟨⟨by omega, by omega⟩, hB_38⟩, sm_up hI0 hs (by omega) (by show _ = _ + lnT (tP _); rw [q_30]; show _ = _ + pl_19.toInt; omega)⟩ (by omega) (show cS G k ([(qAI h 2 b bn), (qarQ b ce 60 fa)] ++ (PW nP B_37 ++ [])) [(ci, .int), (ce, .object "TowerAppeal$Pledge")] A s H locs from ct_pick St [0, 1] rfl (by decide) [0, 1] rfl) (lv_sub hl [0, 2, 3] rfl)
          ·
            have i26 := ci_ne (x := pl_19) (y := 0) rfl (show (0 : Int32).toInt = 0 by decide) c26
            obtain ⟨y_39, ey_39⟩ : ∃ zz : Int32, zz = nn + 1 := ⟨_, rfl⟩
            first | have jy_39 : y_39.toInt = nn.toInt + 1 := (by have q9 := ci_add (x := nn) rfl (show (1 : Int32).toInt = 1 by decide) ey_39; omega) | have jy_39 := ci_add (x := nn) rfl (show (1 : Int32).toInt = 1 by decide) ey_39
            refine lv_iinc (v := y_39) (lv' := [(1, .int y_39), (3, .ref h_8), (2, .int kk), (0, .ref h)]) hx hb dX2_lapsedNow_29 hl (k := 2) rfl (by rw [ey_39]; rfl) (by decide) rfl (fun ls hl => ?_)
            obtain ⟨y_40, ey_40⟩ : ∃ zz : Int32, zz = kk + 1 := ⟨_, rfl⟩
            first | have jy_40 : y_40.toInt = kk.toInt + 1 := (by have q9 := ci_add (x := kk) rfl (show (1 : Int32).toInt = 1 by decide) ey_40; omega) | have jy_40 := ci_add (x := kk) rfl (show (1 : Int32).toInt = 1 by decide) ey_40
            refine lv_iinc (v := y_40) (lv' := [(2, .int y_40), (1, .int y_39), (3, .ref h_8), (0, .ref h)]) hx hb dX2_lapsedNow_32 hl (k := 2) rfl (by rw [ey_40]; rfl) (by decide) rfl (fun ls hl => ?_)
            refine lv_goto (tgt := 4) hx hb dX2_lapsedNow_35 (by decide) ?_
            have St : cS G k ([(qAI h 2 b bn), (qarQ b ce 60 fa), (qIIIIAAAIIIII h_8 1 pg_13 pf_14 pe_15 pz_16 o0_9 o1_10 o2_11 pp_17 pa_18 pl_19 pk_20 pb_21), (qarI o0_9 ci N0_12 w0_22), (qarI o1_10 ci N0_12 w1_23), (qarI o2_11 ci N0_12 w2_24)] ++ (PWx nP kk.toNatClampNeg bq ++ [])) [(ci, .int), (ce, .object "TowerAppeal$Pledge")] A s H locs := ct_pick St [0, 1, 2, 3, 4, 5] rfl (by decide) [0, 1] rfl
            have St := cs_push (cs := [(qAI h 2 b bn), (qarQ b ce 60 fa)]) (b := [(qIIIIAAAIIIII h_8 1 pg_13 pf_14 pe_15 pz_16 o0_9 o1_10 o2_11 pp_17 pa_18 pl_19 pk_20 pb_21), (qarI o0_9 ci N0_12 w0_22), (qarI o1_10 ci N0_12 w1_23), (qarI o2_11 ci N0_12 w2_24)]) (rs := []) St hj_31
            obtain ⟨B_41, eB_41⟩ : ∃ zz : Nat → va_W, zz = setB bq kk.toNatClampNeg [(qIIIIAAAIIIII h_8 1 pg_13 pf_14 pe_15 pz_16 o0_9 o1_10 o2_11 pp_17 pa_18 pl_19 pk_20 pb_21), (qarI o0_9 ci N0_12 w0_22), (qarI o1_10 ci N0_12 w1_23), (qarI o2_11 ci N0_12 w2_24)] := ⟨_, rfl⟩
            rw [← eB_41] at St
            have hB_42 : ∀ i, i < nP → okE ci (tbS tP kk.toNatClampNeg (N0_12, pg_13, pf_14, pe_15, pl_19, pk_20, w0_22, w1_23, w2_24) i) (fa i) (B_41 i) := by rw [eB_41]; exact okE_set hBq ⟨h_8, o0_9, o1_10, o2_11, N0_12, pg_13, pf_14, pe_15, pz_16, pp_17, pa_18, pl_19, pk_20, pb_21, w0_22, w1_23, w2_24, q_25, q_26, q_27, q_28, rfl, rfl⟩
            rw [tbS_own q_30] at hB_42
            have St : cS G k ([(qAI h 2 b bn), (qarQ b ce 60 fa)] ++ (PW nP B_41 ++ [])) [(ci, .int), (ce, .object "TowerAppeal$Pledge")] A s H locs := St
            skip
            exact ih y_40 y_39 B_41 _ _ _ ⟨⟨⟨by omega, by omega⟩, hB_42⟩, sm_up hI0 hs (by omega) (by show _ = _ + lnT (tP _); rw [q_30]; show _ = _ + pl_19.toInt; omega)⟩ (by omega) (show cS G k ([(qAI h 2 b bn), (qarQ b ce 60 fa)] ++ (PW nP B_41 ++ [])) [(ci, .int), (ce, .object "TowerAppeal$Pledge")] A s H locs from ct_pick St [0, 1] rfl (by decide) [0, 1] rfl) (lv_sub hl [0, 1, 3] rfl)
  exact lp4 61 0 0 bP _ _ _ ⟨⟨⟨by omega, by omega⟩, hB⟩, by rw [y0]; rfl⟩ (by omega) St (lv_sub hl [0, 1, 2] rfl)
set_option maxHeartbeats 4000000 in
set_option maxRecDepth 100000 in
theorem e2_sureWithin (l : Launch) (G : va_G) (k : Nat → Nat) (sz : Nat) (h : Nat) (b : Nat) (ce : ClassId) (bn : Int32) (fa : Nat → Option Nat) (ci : ClassId) (nP : Nat) (bP : Nat → va_W) (x : Int32) (y : Int32) (hx9 : 1 ≤ x.toInt ∧ x.toInt ≤ 84) (hy9 : 0 ≤ y.toInt ∧ y.toInt ≤ 119) (tP : Nat → Pl9) (hnP : (nP : Int) = bn.toInt) (hn60 : nP ≤ 60) (hB : ∀ i, i < nP → okE ci (tP i) (fa i) (bP i)) (hWT : ∀ i, i < nP → wfT y.toInt (tP i)) : Met l yX2_sureWithin (Cond.code yX2_sureWithin cX2_sureWithin 11 (some .int) :: tb) ({ frames := 2, cells := 0, slots := 0, locals := 45 } : Room) (va_Pc [.ref h, .int x, .int y] (cP G k ([(qAI h 2 b bn), (qarQ b ce 60 fa)] ++ (PW nP bP ++ [])) [(ci, .int), (ce, .object "TowerAppeal$Pledge")] sz)) (va_Qi (fun (r : Int32) (bP2 : (Nat → va_W)) => (r = suV y.toInt x.toInt tP nP) ∧ (∀ i, i < nP → okE ci (tP i) (fa i) (bP2 i))) (cB G (fun (bP2 : (Nat → va_W)) => ([(qAI h 2 b bn), (qarQ b ce 60 fa)] ++ (PW nP bP2 ++ []))) (fun (bP2 : (Nat → va_W)) => []) (va_A ([(qAI h 2 b bn), (qarQ b ce 60 fa)] ++ (PW nP bP ++ [])) sz)) (va_A ([(qAI h 2 b bn), (qarQ b ce 60 fa)] ++ (PW nP bP ++ [])) sz)) 0 0 (va_A ([(qAI h 2 b bn), (qarQ b ce 60 fa)] ++ (PW nP bP ++ [])) sz) := by
  refine ofC_i (cc := cX2_sureWithin) (maxL := 11) (ret := (some .int)) (by decide) rfl (Nat.le_of_ble_eq_true rfl) ?_
  intro p e s m args below meth c A ls Q F hr hin hlk St hl hQ
  have hx := F.1
  have hb := F.2.1
  have hl : lv_has ls 11 [(0, .ref h), (1, .int x), (2, .int y)] := hl
  have St : cS G k ([(qAI h 2 b bn), (qarQ b ce 60 fa)] ++ (PW nP bP ++ [])) [(ci, .int), (ce, .object "TowerAppeal$Pledge")] A s s.heap [] := St
  have y0 : (0 : Int32).toInt = 0 := by decide
  skip
  refine lv_lconst (v := 0) hx hb dX2_sureWithin_0 (by decide) ?_
  refine lv_lstore_n (lv' := [(3, .long 0), (0, .ref h), (1, .int x), (2, .int y)]) hx hb dX2_sureWithin_1 rfl hl (by decide) rfl (fun ls hl => ?_)
  refine lv_lconst (v := 0) hx hb dX2_sureWithin_2 (by decide) ?_
  refine lv_lstore (lv' := [(5, .long 0), (3, .long 0), (0, .ref h), (1, .int x), (2, .int y)]) hx hb dX2_sureWithin_3 hl (by decide) rfl (fun ls hl => ?_)
  refine lv_lconst (v := 0) hx hb dX2_sureWithin_5 (by decide) ?_
  refine lv_lstore (lv' := [(7, .long 0), (5, .long 0), (3, .long 0), (0, .ref h), (1, .int x), (2, .int y)]) hx hb dX2_sureWithin_6 hl (by decide) rfl (fun ls hl => ?_)
  refine lv_iconst (v := 0) hx hb dX2_sureWithin_8 (by decide) ?_
  refine lv_istore (lv' := [(9, .int 0), (7, .long 0), (5, .long 0), (3, .long 0), (0, .ref h), (1, .int x), (2, .int y)]) hx hb dX2_sureWithin_9 hl (by decide) rfl (fun ls hl => ?_)
  have lp11 : ∀ (n : Nat) (kk : Int32) (j1 : Int64) (j2 : Int64) (j3 : Int64) (bq : Nat → va_W) (H : Heap) (locs : List Loc) (ls : Array Slot), (((0 ≤ kk.toInt ∧ kk.toInt ≤ bn.toInt) ∧ ∀ i, i < nP → okE ci (tP i) (fa i) (bq i)) ∧ j1.toInt = sm (fun i => wiT (y.toInt + 1) (y.toInt + x.toInt) (tP i)) kk.toNatClampNeg ∧ j2.toInt = sm (fun i => duT y.toInt (tP i)) kk.toNatClampNeg ∧ j3.toInt = sm (fun i => flT y.toInt (tP i)) kk.toNatClampNeg) → ((60 - kk.toInt).toNat) < n → cS G k ([(qAI h 2 b bn), (qarQ b ce 60 fa)] ++ (PW nP bq ++ [])) [(ci, .int), (ce, .object "TowerAppeal$Pledge")] A s H locs → lv_has ls 11 [(9, .int kk), (7, .long j3), (5, .long j2), (3, .long j1), (0, .ref h), (1, .int x), (2, .int y)] → W p l e ({ frames := 2, cells := 0, slots := 0, locals := 45 } : Room) s m args below meth c H locs 0 0 Q (F0 m 11 ls []) := by
    intro n
    induction n with
    | zero => intro kk j1 j2 j3 bq H locs ls hI hn; exact absurd hn (Nat.not_lt_zero _)
    | succ n ih =>
      intro kk j1 j2 j3 bq H locs ls hI hn St hl
      obtain ⟨⟨⟨hI0, hI1⟩, hBq⟩, hs1, hs2, hs3⟩ := hI
      have nk := nc_int hI0
      have hb0 := su_bd (f := wiT (y.toInt + 1) (y.toInt + x.toInt)) (n := nP) (k := kk.toNatClampNeg) hWT (fun T_ h_ => wi_bd h_) (by omega)
      have hb1 := su_bd (f := duT y.toInt) (n := nP) (k := kk.toNatClampNeg) hWT (fun T_ h_ => du_bd h_) (by omega)
      have hb2 := su_bd (f := flT y.toInt) (n := nP) (k := kk.toNatClampNeg) hWT (fun T_ h_ => fl_bd h_) (by omega)
      rw [← hs1] at hb0
      rw [← hs2] at hb1
      rw [← hs3] at hb2
      skip
      refine lv_iload hx hb dX2_sureWithin_11 (lv_at hl 0 rfl) ?_
      refine lv_aload_n hx hb dX2_sureWithin_13 rfl (lv_at hl 4 rfl) ?_
      refine ct_get F St 0 rfl rfl inX2 1 (by decide) kf_X2_17 rfl dX2_sureWithin_14 ?_
      refine lv_icmp_ge (tgt := 78) hx hb dX2_sureWithin_17 (by decide) (fun c17 => ?_) (fun c17 => ?_)
      ·
        have i17 := ci_le (x := bn) (y := kk) rfl rfl c17
        refine lv_lload hx hb dX2_sureWithin_78 (lv_at hl 2 rfl) ?_
        refine lv_lconst (v := 0) hx hb dX2_sureWithin_80 (by decide) ?_
        refine W.lcmp hx hb dX2_sureWithin_81 ?_
        refine lv_if_le (tgt := 96) hx hb dX2_sureWithin_82 (by decide) (fun c82 => ?_) (fun c82 => ?_)
        ·
          have i82 := cl_le (x := j2) (y := 0) (u := j2.toInt) (v := 0) rfl (by decide) ((lg_cmp_le _ _).mp c82)
          refine lv_iconst (v := 0) hx hb dX2_sureWithin_96 (by decide) ?_
          have St : cS G k ([(qAI h 2 b bn), (qarQ b ce 60 fa)] ++ (PW nP bq ++ [])) [(ci, .int), (ce, .object "TowerAppeal$Pledge")] A s _ _ := ct_pick St [0, 1] rfl (by decide) [0, 1] rfl
          have hkn : kk.toNatClampNeg = nP := by omega
          rw [hkn] at hs1 hs2 hs3
          exact cs_iret F hr hlk hQ St bq (r := 0) ⟨su_0 (hs2.symm.trans (by omega)), hBq⟩ (List.range _) (ix_all (w := ([(qAI h 2 b bn), (qarQ b ce 60 fa)] ++ (PW nP bq ++ [])))) nd_C [] rfl (by decide) (by decide) dX2_sureWithin_97
        ·
          have i82 := cl_nle (x := j2) (y := 0) (u := j2.toInt) (v := 0) rfl (by decide) (fun q => c82 ((lg_cmp_le _ _).mpr q))
          refine lv_lload_n hx hb dX2_sureWithin_85 rfl (lv_at hl 3 rfl) ?_
          refine lv_lload hx hb dX2_sureWithin_86 (lv_at hl 1 rfl) ?_
          refine lv_lmul hx hb dX2_sureWithin_88 ?_
          refine lv_topl (fun y_1 ey_1 => ?_)
          obtain ⟨jm1, jm2, jm3⟩ := cl_mulb (u := j1.toInt) (v := j3.toInt) (A := 504000000) (B := 504000000) rfl rfl ey_1 (by omega) (by omega) (by omega) (by omega) (by decide)
          refine lv_lload hx hb dX2_sureWithin_89 (lv_at hl 2 rfl) ?_
          refine lv_ldiv hx hb dX2_sureWithin_91 (ne0_l (by omega)) ?_
          refine lv_topl (fun y_2 ey_2 => ?_)
          have jd := cl_div (u := j1.toInt * j3.toInt) (v := j2.toInt) jm1 rfl ey_2 jm2 (by omega)
          refine lv_l2i (v := y_2.toInt32) hx hb dX2_sureWithin_92 rfl ?_
          refine lv_goto (tgt := 97) hx hb dX2_sureWithin_93 (by decide) ?_
          have St : cS G k ([(qAI h 2 b bn), (qarQ b ce 60 fa)] ++ (PW nP bq ++ [])) [(ci, .int), (ce, .object "TowerAppeal$Pledge")] A s _ _ := ct_pick St [0, 1] rfl (by decide) [0, 1] rfl
          have hkn : kk.toNatClampNeg = nP := by omega
          rw [hkn] at hs1 hs2 hs3
          exact cs_iret F hr hlk hQ St bq (r := y_2.toInt32) ⟨su_of (fun z_ => absurd (hs2.trans z_) (by omega)) (by rw [jd, hs1, hs2, hs3]; rfl), hBq⟩ (List.range _) (ix_all (w := ([(qAI h 2 b bn), (qarQ b ce 60 fa)] ++ (PW nP bq ++ [])))) nd_C [] rfl (by decide) (by decide) dX2_sureWithin_97
      ·
        have i17 := ci_nle (x := bn) (y := kk) rfl rfl c17
        refine lv_aload_n hx hb dX2_sureWithin_20 rfl (lv_at hl 4 rfl) ?_
        refine lv_iload hx hb dX2_sureWithin_21 (lv_at hl 0 rfl) ?_
        refine ct_q St [0, 1] [] (wc := [(qAI h 2 b bn), (qarQ b ce 60 fa)]) (wr := []) rfl rfl (by decide) (by decide) (va_runV (As := [.int kk]) (rest := []) F (x2_at l G k _ h b ce bn fa kk (by omega) (by omega)) (cwVt F mf_X2_at km_X2_21 rfl rfl ⟨Nat.le_of_ble_eq_true rfl, Nat.le_of_ble_eq_true rfl⟩) (ct_preV St [0, 1] rfl (by decide) [1] rfl (ci := 2) (q0 := 0) rfl rfl) rfl rfl hl.1 rfl (lv_room (Nat.le_of_ble_eq_true rfl)) dX2_sureWithin_23 ⟨Nat.le_of_ble_eq_true rfl, Nat.le_of_ble_eq_true rfl⟩) (fun r_3 u_4 H locs hw St => ?_)
        try dsimp only at hw
        rcases hw with ⟨z_5, hf_6⟩ | ⟨z_7, hf_8⟩
        ·
          subst r_3
          have St : cS G k ([(qAI h 2 b bn), (qarQ b ce 60 fa)] ++ (PW nP bq ++ [])) [(ci, .int), (ce, .object "TowerAppeal$Pledge")] A s H locs := St
          show W _ _ _ _ _ _ _ _ _ _ _ _ _ _ _ (F0 m 26 ls [.null])
          refine lv_astoreN (lv' := [(10, .null), (9, .int kk), (7, .long j3), (5, .long j2), (3, .long j1), (0, .ref h), (1, .int x), (2, .int y)]) hx hb dX2_sureWithin_26 hl (by decide) rfl (fun ls hl => ?_)
          refine lv_aloadN hx hb dX2_sureWithin_28 (lv_at hl 0 rfl) ?_
          refine lv_ifnullN (tgt := 72) hx hb dX2_sureWithin_30 (by decide) ?_
          obtain ⟨y_9, ey_9⟩ : ∃ zz : Int32, zz = kk + 1 := ⟨_, rfl⟩
          first | have jy_9 : y_9.toInt = kk.toInt + 1 := (by have q9 := ci_add (x := kk) rfl (show (1 : Int32).toInt = 1 by decide) ey_9; omega) | have jy_9 := ci_add (x := kk) rfl (show (1 : Int32).toInt = 1 by decide) ey_9
          refine lv_iinc (v := y_9) (lv' := [(9, .int y_9), (10, .null), (7, .long j3), (5, .long j2), (3, .long j1), (0, .ref h), (1, .int x), (2, .int y)]) hx hb dX2_sureWithin_72 hl (k := 1) rfl (by rw [ey_9]; rfl) (by decide) rfl (fun ls hl => ?_)
          refine lv_goto (tgt := 11) hx hb dX2_sureWithin_75 (by decide) ?_
          skip
          exact ih y_9 j1 j2 j3 bq _ _ _ (by exfalso; omega) (by omega) (show cS G k ([(qAI h 2 b bn), (qarQ b ce 60 fa)] ++ (PW nP bq ++ [])) [(ci, .int), (ce, .object "TowerAppeal$Pledge")] A s H locs from ct_pick St [0, 1] rfl (by decide) [0, 1] rfl) (lv_sub hl [0, 2, 3, 4, 5, 6, 7] rfl)
        ·
          have St : cS G k ([(qAI h 2 b bn), (qarQ b ce 60 fa)] ++ (PW nP bq ++ [])) [(ci, .int), (ce, .object "TowerAppeal$Pledge")] A s H locs := St
          obtain ⟨h_10, o0_11, o1_12, o2_13, N0_14, pg_15, pf_16, pe_17, pz_18, pp_19, pa_20, pl_21, pk_22, pb_23, w0_24, w1_25, w2_26, q_27, q_28, q_29, q_30, q_31, q_32⟩ := (hBq _ (nc_lt (x := kk) (n := nP) (by omega) (by omega)))
          have hj_33 := (nc_lt (x := kk) (n := nP) (by omega) (by omega))
          have St : cS G k ([(qAI h 2 b bn), (qarQ b ce 60 fa), (qIIIIAAAIIIII h_10 1 pg_15 pf_16 pe_17 pz_18 o0_11 o1_12 o2_13 pp_19 pa_20 pl_21 pk_22 pb_23), (qarI o0_11 ci N0_14 w0_24), (qarI o1_12 ci N0_14 w1_25), (qarI o2_13 ci N0_14 w2_26)] ++ (PWx nP kk.toNatClampNeg bq ++ [])) [(ci, .int), (ce, .object "TowerAppeal$Pledge")] A s H locs := cs_pull (cs := [(qAI h 2 b bn), (qarQ b ce 60 fa)]) (rs := []) (b := [(qIIIIAAAIIIII h_10 1 pg_15 pf_16 pe_17 pz_18 o0_11 o1_12 o2_13 pp_19 pa_20 pl_21 pk_22 pb_23), (qarI o0_11 ci N0_14 w0_24), (qarI o1_12 ci N0_14 w1_25), (qarI o2_13 ci N0_14 w2_26)]) St hj_33 q_31
          have hw_34 := wf_of (hWT _ hj_33) q_32
          obtain rfl : r_3 = some h_10 := z_7.trans q_27
          show W _ _ _ _ _ _ _ _ _ _ _ _ _ _ _ (F0 m 26 ls [.ref h_10])
          refine lv_astore (lv' := [(10, .ref h_10), (9, .int kk), (7, .long j3), (5, .long j2), (3, .long j1), (0, .ref h), (1, .int x), (2, .int y)]) hx hb dX2_sureWithin_26 hl (by decide) rfl (fun ls hl => ?_)
          refine lv_aload hx hb dX2_sureWithin_28 (lv_at hl 0 rfl) ?_
          refine lv_ifnull hx hb dX2_sureWithin_30 ?_
          refine lv_lload_n hx hb dX2_sureWithin_33 rfl (lv_at hl 4 rfl) ?_
          refine lv_aload hx hb dX2_sureWithin_34 (lv_at hl 0 rfl) ?_
          refine lv_iload_n hx hb dX2_sureWithin_36 rfl (lv_at hl 7 rfl) ?_
          refine lv_iconst (v := 1) hx hb dX2_sureWithin_37 (by decide) ?_
          refine lv_iadd hx hb dX2_sureWithin_38 ?_
          refine lv_topi (fun y_35 ey_35 => ?_)
          first | have jy_35 : y_35.toInt = y.toInt + 1 := (by have q9 := ci_add (x := y) (y := 1) rfl (show (1 : Int32).toInt = 1 by decide) ey_35; omega) | have jy_35 := ci_add (x := y) (y := 1) rfl (show (1 : Int32).toInt = 1 by decide) ey_35
          refine lv_iload_n hx hb dX2_sureWithin_39 rfl (lv_at hl 7 rfl) ?_
          refine lv_iload_n hx hb dX2_sureWithin_40 rfl (lv_at hl 6 rfl) ?_
          refine lv_iadd hx hb dX2_sureWithin_41 ?_
          refine lv_topi (fun y_36 ey_36 => ?_)
          first | have jy_36 : y_36.toInt = y.toInt + x.toInt := (by have q9 := ci_add (x := y) (y := x) rfl rfl ey_36; omega) | have jy_36 := ci_add (x := y) (y := x) rfl rfl ey_36
          refine ct_i St [2, 3, 4, 5] [0, 1] (wc := [(qIIIIAAAIIIII h_10 1 pg_15 pf_16 pe_17 pz_18 o0_11 o1_12 o2_13 pp_19 pa_20 pl_21 pk_22 pb_23), (qarI o0_11 ci N0_14 w0_24), (qarI o1_12 ci N0_14 w1_25), (qarI o2_13 ci N0_14 w2_26)]) (wr := [(qAI h 2 b bn), (qarQ b ce 60 fa)]) rfl rfl (by decide) (by decide) (va_runV (As := [.int y_35, .int y_36]) (rest := [.long j1]) F (e1_unfilledWithin l G k _ h_10 o0_11 o1_12 o2_13 N0_14 ci pg_15 pf_16 pe_17 pz_18 pp_19 pa_20 pl_21 pk_22 pb_23 w0_24 w1_25 w2_26 y_35 y_36 (by first | assumption | omega) (by first | assumption | omega) hw_34.2.1) (cwVt F mf_X1_unfilledWithin km_X2_37 rfl rfl ⟨Nat.le_of_ble_eq_true rfl, Nat.le_of_ble_eq_true rfl⟩) (ct_preV St [2, 3, 4, 5] rfl (by decide) [0] rfl (ci := 1) (q0 := 2) rfl rfl) rfl rfl hl.1 rfl (lv_room (Nat.le_of_ble_eq_true rfl)) dX2_sureWithin_42 ⟨Nat.le_of_ble_eq_true rfl, Nat.le_of_ble_eq_true rfl⟩) (fun r_37 u_38 H locs hw St => ?_)
          try dsimp only at hw
          have hv_39 := hw
          have St : cS G k ([(qAI h 2 b bn), (qarQ b ce 60 fa), (qIIIIAAAIIIII h_10 1 pg_15 pf_16 pe_17 pz_18 o0_11 o1_12 o2_13 pp_19 pa_20 pl_21 pk_22 pb_23), (qarI o0_11 ci N0_14 w0_24), (qarI o1_12 ci N0_14 w1_25), (qarI o2_13 ci N0_14 w2_26)] ++ (PWx nP kk.toNatClampNeg bq ++ [])) [(ci, .int), (ce, .object "TowerAppeal$Pledge")] A s H locs := St
          rw [jy_35, jy_36] at hv_39
          refine lv_i2l (v := r_37.toInt64) hx hb dX2_sureWithin_45 rfl ?_
          refine lv_ladd hx hb dX2_sureWithin_46 ?_
          refine lv_topl (fun y_40 ey_40 => ?_)
          first | have jy_40 : y_40.toInt = j1.toInt + r_37.toInt := (by have q8 := ci_rng r_37; have q9 := cl_add (x := j1) (y := r_37.toInt64) (u := j1.toInt) (v := r_37.toInt) rfl (Int32.toInt_toInt64 r_37) ey_40; omega) | have jy_40 := cl_add (x := j1) (y := r_37.toInt64) (u := j1.toInt) (v := r_37.toInt) rfl (Int32.toInt_toInt64 r_37) ey_40
          refine lv_lstore_n (lv' := [(3, .long y_40), (10, .ref h_10), (9, .int kk), (7, .long j3), (5, .long j2), (0, .ref h), (1, .int x), (2, .int y)]) hx hb dX2_sureWithin_47 rfl hl (by decide) rfl (fun ls hl => ?_)
          refine lv_lload hx hb dX2_sureWithin_48 (lv_at hl 4 rfl) ?_
          refine lv_aload hx hb dX2_sureWithin_50 (lv_at hl 1 rfl) ?_
          refine lv_iload_n hx hb dX2_sureWithin_52 rfl (lv_at hl 7 rfl) ?_
          refine ct_i St [2, 3, 4, 5] [0, 1] (wc := [(qIIIIAAAIIIII h_10 1 pg_15 pf_16 pe_17 pz_18 o0_11 o1_12 o2_13 pp_19 pa_20 pl_21 pk_22 pb_23), (qarI o0_11 ci N0_14 w0_24), (qarI o1_12 ci N0_14 w1_25), (qarI o2_13 ci N0_14 w2_26)]) (wr := [(qAI h 2 b bn), (qarQ b ce 60 fa)]) rfl rfl (by decide) (by decide) (va_runV (As := [.int y]) (rest := [.long j2]) F (e1_dueSoFar l G k _ h_10 o0_11 o1_12 o2_13 N0_14 ci pg_15 pf_16 pe_17 pz_18 pp_19 pa_20 pl_21 pk_22 pb_23 w0_24 w1_25 w2_26 y (by first | assumption | omega) (by first | assumption | omega) hw_34.2.1) (cwVt F mf_X1_dueSoFar km_X2_41 rfl rfl ⟨Nat.le_of_ble_eq_true rfl, Nat.le_of_ble_eq_true rfl⟩) (ct_preV St [2, 3, 4, 5] rfl (by decide) [0] rfl (ci := 1) (q0 := 2) rfl rfl) rfl rfl hl.1 rfl (lv_room (Nat.le_of_ble_eq_true rfl)) dX2_sureWithin_53 ⟨Nat.le_of_ble_eq_true rfl, Nat.le_of_ble_eq_true rfl⟩) (fun r_41 u_42 H locs hw St => ?_)
          try dsimp only at hw
          have hv_43 := hw
          have St : cS G k ([(qAI h 2 b bn), (qarQ b ce 60 fa), (qIIIIAAAIIIII h_10 1 pg_15 pf_16 pe_17 pz_18 o0_11 o1_12 o2_13 pp_19 pa_20 pl_21 pk_22 pb_23), (qarI o0_11 ci N0_14 w0_24), (qarI o1_12 ci N0_14 w1_25), (qarI o2_13 ci N0_14 w2_26)] ++ (PWx nP kk.toNatClampNeg bq ++ [])) [(ci, .int), (ce, .object "TowerAppeal$Pledge")] A s H locs := St
          refine lv_i2l (v := r_41.toInt64) hx hb dX2_sureWithin_56 rfl ?_
          refine lv_ladd hx hb dX2_sureWithin_57 ?_
          refine lv_topl (fun y_44 ey_44 => ?_)
          first | have jy_44 : y_44.toInt = j2.toInt + r_41.toInt := (by have q8 := ci_rng r_41; have q9 := cl_add (x := j2) (y := r_41.toInt64) (u := j2.toInt) (v := r_41.toInt) rfl (Int32.toInt_toInt64 r_41) ey_44; omega) | have jy_44 := cl_add (x := j2) (y := r_41.toInt64) (u := j2.toInt) (v := r_41.toInt) rfl (Int32.toInt_toInt64 r_41) ey_44
          refine lv_lstore (lv' := [(5, .long y_44), (3, .long y_40), (10, .ref h_10), (9, .int kk), (7, .long j3), (0, .ref h), (1, .int x), (2, .int y)]) hx hb dX2_sureWithin_58 hl (by decide) rfl (fun ls hl => ?_)
          refine lv_lload hx hb dX2_sureWithin_60 (lv_at hl 4 rfl) ?_
          refine lv_aload hx hb dX2_sureWithin_62 (lv_at hl 2 rfl) ?_
          refine lv_iload_n hx hb dX2_sureWithin_64 rfl (lv_at hl 7 rfl) ?_
          refine ct_i St [2, 3, 4, 5] [0, 1] (wc := [(qIIIIAAAIIIII h_10 1 pg_15 pf_16 pe_17 pz_18 o0_11 o1_12 o2_13 pp_19 pa_20 pl_21 pk_22 pb_23), (qarI o0_11 ci N0_14 w0_24), (qarI o1_12 ci N0_14 w1_25), (qarI o2_13 ci N0_14 w2_26)]) (wr := [(qAI h 2 b bn), (qarQ b ce 60 fa)]) rfl rfl (by decide) (by decide) (va_runV (As := [.int y]) (rest := [.long j3]) F (e1_filledSoFar l G k _ h_10 o0_11 o1_12 o2_13 N0_14 ci pg_15 pf_16 pe_17 pz_18 pp_19 pa_20 pl_21 pk_22 pb_23 w0_24 w1_25 w2_26 y (by first | assumption | omega) (by first | assumption | omega) hw_34.2.1) (cwVt F mf_X1_filledSoFar km_X2_44 rfl rfl ⟨Nat.le_of_ble_eq_true rfl, Nat.le_of_ble_eq_true rfl⟩) (ct_preV St [2, 3, 4, 5] rfl (by decide) [0] rfl (ci := 1) (q0 := 2) rfl rfl) rfl rfl hl.1 rfl (lv_room (Nat.le_of_ble_eq_true rfl)) dX2_sureWithin_65 ⟨Nat.le_of_ble_eq_true rfl, Nat.le_of_ble_eq_true rfl⟩) (fun r_45 u_46 H locs hw St => ?_)
          try dsimp only at hw
          have hv_47 := hw
          have St : cS G k ([(qAI h 2 b bn), (qarQ b ce 60 fa), (qIIIIAAAIIIII h_10 1 pg_15 pf_16 pe_17 pz_18 o0_11 o1_12 o2_13 pp_19 pa_20 pl_21 pk_22 pb_23), (qarI o0_11 ci N0_14 w0_24), (qarI o1_12 ci N0_14 w1_25), (qarI o2_13 ci N0_14 w2_26)] ++ (PWx nP kk.toNatClampNeg bq ++ [])) [(ci, .int), (ce, .object "TowerAppeal$Pledge")] A s H locs := St
          refine lv_i2l (v := r_45.toInt64) hx hb dX2_sureWithin_68 rfl ?_
          refine lv_ladd hx hb dX2_sureWithin_69 ?_
          refine lv_topl (fun y_48 ey_48 => ?_)
          first | have jy_48 : y_48.toInt = j3.toInt + r_45.toInt := (by have q8 := ci_rng r_45; have q9 := cl_add (x := j3) (y := r_45.toInt64) (u := j3.toInt) (v := r_45.toInt) rfl (Int32.toInt_toInt64 r_45) ey_48; omega) | have jy_48 := cl_add (x := j3) (y := r_45.toInt64) (u := j3.toInt) (v := r_45.toInt) rfl (Int32.toInt_toInt64 r_45) ey_48
          refine lv_lstore (lv' := [(7, .long y_48), (5, .long y_44), (3, .long y_40), (10, .ref h_10), (9, .int kk), (0, .ref h), (1, .int x), (2, .int y)]) hx hb dX2_sureWithin_70 hl (by decide) rfl (fun ls hl => ?_)
          obtain ⟨y_49, ey_49⟩ : ∃ zz : Int32, zz = kk + 1 := ⟨_, rfl⟩
          first | have jy_49 : y_49.toInt = kk.toInt + 1 := (by have q9 := ci_add (x := kk) rfl (show (1 : Int32).toInt = 1 by decide) ey_49; omega) | have jy_49 := ci_add (x := kk) rfl (show (1 : Int32).toInt = 1 by decide) ey_49
          refine lv_iinc (v := y_49) (lv' := [(9, .int y_49), (7, .long y_48), (5, .long y_44), (3, .long y_40), (10, .ref h_10), (0, .ref h), (1, .int x), (2, .int y)]) hx hb dX2_sureWithin_72 hl (k := 4) rfl (by rw [ey_49]; rfl) (by decide) rfl (fun ls hl => ?_)
          refine lv_goto (tgt := 11) hx hb dX2_sureWithin_75 (by decide) ?_
          have St : cS G k ([(qAI h 2 b bn), (qarQ b ce 60 fa), (qIIIIAAAIIIII h_10 1 pg_15 pf_16 pe_17 pz_18 o0_11 o1_12 o2_13 pp_19 pa_20 pl_21 pk_22 pb_23), (qarI o0_11 ci N0_14 w0_24), (qarI o1_12 ci N0_14 w1_25), (qarI o2_13 ci N0_14 w2_26)] ++ (PWx nP kk.toNatClampNeg bq ++ [])) [(ci, .int), (ce, .object "TowerAppeal$Pledge")] A s H locs := ct_pick St [0, 1, 2, 3, 4, 5] rfl (by decide) [0, 1] rfl
          have St := cs_push (cs := [(qAI h 2 b bn), (qarQ b ce 60 fa)]) (b := [(qIIIIAAAIIIII h_10 1 pg_15 pf_16 pe_17 pz_18 o0_11 o1_12 o2_13 pp_19 pa_20 pl_21 pk_22 pb_23), (qarI o0_11 ci N0_14 w0_24), (qarI o1_12 ci N0_14 w1_25), (qarI o2_13 ci N0_14 w2_26)]) (rs := []) St hj_33
          obtain ⟨B_50, eB_50⟩ : ∃ zz : Nat → va_W, zz = setB bq kk.toNatClampNeg [(qIIIIAAAIIIII h_10 1 pg_15 pf_16 pe_17 pz_18 o0_11 o1_12 o2_13 pp_19 pa_20 pl_21 pk_22 pb_23), (qarI o0_11 ci N0_14 w0_24), (qarI o1_12 ci N0_14 w1_25), (qarI o2_13 ci N0_14 w2_26)] := ⟨_, rfl⟩
          rw [← eB_50] at St
          have hB_51 : ∀ i, i < nP → okE ci (tbS tP kk.toNatClampNeg (N0_14, pg_15, pf_16, pe_17, pl_21, pk_22, w0_24, w1_25, w2_26) i) (fa i) (B_50 i) := by rw [eB_50]; exact okE_set hBq ⟨h_10, o0_11, o1_12, o2_13, N0_14, pg_15, pf_16, pe_17, pz_18, pp_19, pa_20, pl_21, pk_22, pb_23, w0_24, w1_25, w2_26, q_27, q_28, q_29, q_30, rfl, rfl⟩
          rw [tbS_own q_32] at hB_51
          have St : cS G k ([(qAI h 2 b bn), (qarQ b ce 60 fa)] ++ (PW nP B_50 ++ [])) [(ci, .int), (ce, .object "TowerAppeal$Pledge")] A s H locs := St
          skip
          exact ih y_49 y_40 y_44 y_48 B_50 _ _ _ ⟨⟨⟨by omega, by omega⟩, hB_51⟩, sm_upL hI0 hs1 (by omega) (by show _ = _ + wiT (y.toInt + 1) (y.toInt + x.toInt) (tP _); rw [q_32]; show _ = _ + sm _ _; rw [← hv_39]; omega), sm_upL hI0 hs2 (by omega) (by show _ = _ + duT y.toInt (tP _); rw [q_32]; show _ = _ + sm _ _; rw [← hv_43]; omega), sm_upL hI0 hs3 (by omega) (by show _ = _ + flT y.toInt (tP _); rw [q_32]; show _ = _ + sm _ _; rw [← hv_47]; omega)⟩ (by omega) (show cS G k ([(qAI h 2 b bn), (qarQ b ce 60 fa)] ++ (PW nP B_50 ++ [])) [(ci, .int), (ce, .object "TowerAppeal$Pledge")] A s H locs from ct_pick St [0, 1] rfl (by decide) [0, 1] rfl) (lv_sub hl [0, 1, 2, 3, 5, 6, 7] rfl)
  exact lp11 61 0 0 0 0 bP _ _ _ ⟨⟨⟨by omega, by omega⟩, hB⟩, rfl, rfl, rfl⟩ (by omega) St (lv_sub hl [0, 1, 2, 3, 4, 5, 6] rfl)
set_option maxHeartbeats 4000000 in
set_option maxRecDepth 100000 in
theorem e5_isFull (l : Launch) (G : va_G) (k : Nat → Nat) (sz : Nat) (h : Nat) (b0 : Nat) (b1 : Nat) (b2 : Nat) (b3 : Nat) (sn : Int32) (st : Int64) : Met l yX5_isFull (Cond.code yX5_isFull cX5_isFull 1 (some .boolean) :: tb) ({ frames := 0, cells := 0, slots := 0, locals := 0 } : Room) (va_Pc [.ref h] (cP G k [(qAAAAIJ h 5 b0 b1 b2 b3 sn st)] [] sz)) (va_Qi (fun (r : Int32) (_ : Unit) => ((r = 1) ∧ (250 ≤ sn.toInt)) ∨ ((r = 0) ∧ (¬ (250 ≤ sn.toInt)))) (cB G (fun (_ : Unit) => [(qAAAAIJ h 5 b0 b1 b2 b3 sn st)]) (fun (_ : Unit) => []) (va_A [(qAAAAIJ h 5 b0 b1 b2 b3 sn st)] sz)) (va_A [(qAAAAIJ h 5 b0 b1 b2 b3 sn st)] sz)) 0 0 (va_A [(qAAAAIJ h 5 b0 b1 b2 b3 sn st)] sz) := by
  refine ofC_i (cc := cX5_isFull) (maxL := 1) (ret := (some .boolean)) (by decide) rfl (Nat.le_of_ble_eq_true rfl) ?_
  intro p e s m args below meth c A ls Q F hr hin hlk St hl hQ
  have hx := F.1
  have hb := F.2.1
  have hl : lv_has ls 1 [(0, .ref h)] := hl
  have St : cS G k [(qAAAAIJ h 5 b0 b1 b2 b3 sn st)] [] A s s.heap [] := St
  refine lv_aload_n hx hb dX5_isFull_0 rfl (lv_at hl 0 rfl) ?_
  refine cs_get F St 0 rfl rfl inX5 4 (by decide) kf_X5_25 rfl dX5_isFull_1 ?_
  refine lv_sipush (v := 250) hx hb dX5_isFull_4 (by decide) ?_
  refine lv_icmp_lt (tgt := 14) hx hb dX5_isFull_7 (by decide) (fun c7 => ?_) (fun c7 => ?_)
  ·
    have i7 := ci_lt (x := sn) (y := 250) rfl (show (250 : Int32).toInt = 250 by decide) c7
    refine lv_iconst (v := 0) hx hb dX5_isFull_14 (by decide) ?_
    exact cs_zret F hr hlk hQ St () (r := 0) rfl (Or.inr ⟨rfl, by omega⟩) [0] rfl (by decide) [] rfl (by decide) (by decide) dX5_isFull_15
  ·
    have i7 := ci_nlt (x := sn) (y := 250) rfl (show (250 : Int32).toInt = 250 by decide) c7
    refine lv_iconst (v := 1) hx hb dX5_isFull_10 (by decide) ?_
    refine lv_goto (tgt := 15) hx hb dX5_isFull_11 (by decide) ?_
    exact cs_zret F hr hlk hQ St () (r := 1) rfl (Or.inl ⟨rfl, by omega⟩) [0] rfl (by decide) [] rfl (by decide) (by decide) dX5_isFull_15
set_option maxHeartbeats 4000000 in
set_option maxRecDepth 100000 in
theorem e5_add (l : Launch) (G : va_G) (k : Nat → Nat) (sz : Nat) (h : Nat) (b0 : Nat) (b1 : Nat) (b2 : Nat) (b3 : Nat) (sn : Int32) (st : Int64) (e0 : ClassId) (e1 : ClassId) (e2 : ClassId) (f0 : Nat → Int32) (f1 : Nat → Int32) (f2 : Nat → Int32) (x : Int32) (y : Int32) (z : Int32) (hs0 : 0 ≤ sn.toInt ∧ sn.toInt < 250) (hst : 0 ≤ st.toInt ∧ st.toInt ≤ 2000000000) : Met l yX5_add (Cond.code yX5_add cX5_add 4 none :: tb) ({ frames := 0, cells := 0, slots := 0, locals := 0 } : Room) (va_Pc [.ref h, .int x, .int y, .int z] (cP G k [(qAAAAIJ h 5 b0 b1 b2 b3 sn st), (qarI b0 e0 250 f0), (qarI b1 e1 250 f1), (qarI b2 e2 250 f2)] [(e0, .int), (e1, .int), (e2, .int)] sz)) (va_Qv (fun (u : Int32 × Int64 × (Nat → Int32) × (Nat → Int32) × (Nat → Int32)) => match u with | (sn2, st2, z0, z1, z2) => (sn2.toInt = sn.toInt + 1) ∧ (z0 = upd f0 sn.toNatClampNeg x) ∧ (z1 = upd f1 sn.toNatClampNeg y) ∧ (z2 = upd f2 sn.toNatClampNeg z) ∧ (st2.toInt = st.toInt + y.toInt)) (cB G (fun u => match u with | (sn2, st2, z0, z1, z2) => [(qAAAAIJ h 5 b0 b1 b2 b3 sn2 st2), (qarI b0 e0 250 z0), (qarI b1 e1 250 z1), (qarI b2 e2 250 z2)]) (fun u => match u with | (sn2, st2, z0, z1, z2) => []) (va_A [(qAAAAIJ h 5 b0 b1 b2 b3 sn st), (qarI b0 e0 250 f0), (qarI b1 e1 250 f1), (qarI b2 e2 250 f2)] sz)) (va_A [(qAAAAIJ h 5 b0 b1 b2 b3 sn st), (qarI b0 e0 250 f0), (qarI b1 e1 250 f1), (qarI b2 e2 250 f2)] sz)) 0 0 (va_A [(qAAAAIJ h 5 b0 b1 b2 b3 sn st), (qarI b0 e0 250 f0), (qarI b1 e1 250 f1), (qarI b2 e2 250 f2)] sz) := by
  refine ofC_v (cc := cX5_add) (maxL := 4) (ret := none) (by decide) rfl (Nat.le_of_ble_eq_true rfl) ?_
  intro p e s m args below meth c A ls Q F hr hin hlk St hl hQ
  have hx := F.1
  have hb := F.2.1
  have hl : lv_has ls 4 [(0, .ref h), (1, .int x), (2, .int y), (3, .int z)] := hl
  have St : cS G k [(qAAAAIJ h 5 b0 b1 b2 b3 sn st), (qarI b0 e0 250 f0), (qarI b1 e1 250 f1), (qarI b2 e2 250 f2)] [(e0, .int), (e1, .int), (e2, .int)] A s s.heap [] := St
  have y0 : (0 : Int32).toInt = 0 := by decide
  have rgy := ci_rng y
  refine lv_aload_n hx hb dX5_add_0 rfl (lv_at hl 0 rfl) ?_
  refine cs_get F St 0 rfl rfl inX5 4 (by decide) kf_X5_25 rfl dX5_add_1 ?_
  refine lv_if_lt (tgt := 68) hx hb dX5_add_4 (by decide) (fun c4 => ?_) (fun c4 => ?_)
  · have i4 := ci_lt (x := sn) (y := 0) rfl (show (0 : Int32).toInt = 0 by decide) c4; exact False.elim (by omega)
  have i4 := ci_nlt (x := sn) (y := 0) rfl (show (0 : Int32).toInt = 0 by decide) c4
  refine lv_aload_n hx hb dX5_add_7 rfl (lv_at hl 0 rfl) ?_
  refine cs_get F St 0 rfl rfl inX5 4 (by decide) kf_X5_25 rfl dX5_add_8 ?_
  refine lv_sipush (v := 250) hx hb dX5_add_11 (by decide) ?_
  refine lv_icmp_ge (tgt := 68) hx hb dX5_add_14 (by decide) (fun c14 => ?_) (fun c14 => ?_)
  · have i14 := ci_le (x := 250) (y := sn) (show (250 : Int32).toInt = 250 by decide) rfl c14; exact False.elim (by omega)
  have i14 := ci_nle (x := 250) (y := sn) (show (250 : Int32).toInt = 250 by decide) rfl c14
  refine lv_aload_n hx hb dX5_add_17 rfl (lv_at hl 0 rfl) ?_
  refine cs_get F St 0 rfl rfl inX5 0 (by decide) kf_X5_9 rfl dX5_add_18 ?_
  refine lv_aload_n hx hb dX5_add_21 rfl (lv_at hl 0 rfl) ?_
  refine cs_get F St 0 rfl rfl inX5 4 (by decide) kf_X5_25 rfl dX5_add_22 ?_
  refine lv_iload_n hx hb dX5_add_25 rfl (lv_at hl 1 rfl) ?_
  refine cs_ist F St 1 0 rfl rfl (vp_in_iff.mpr ⟨by omega, by omega⟩) (w' := [(qAAAAIJ h 5 b0 b1 b2 b3 sn st), (qarI b0 e0 250 (upd f0 (sn : Int32).toNatClampNeg x)), (qarI b1 e1 250 f1), (qarI b2 e2 250 f2)]) rfl dX5_add_26 (fun H locs St => ?_)
  obtain ⟨f_1, ef_1⟩ : ∃ zz : Nat → Int32, zz = upd f0 (sn : Int32).toNatClampNeg x := ⟨_, rfl⟩
  rw [← ef_1] at St
  refine lv_aload_n hx hb dX5_add_27 rfl (lv_at hl 0 rfl) ?_
  refine cs_get F St 0 rfl rfl inX5 1 (by decide) kf_X5_15 rfl dX5_add_28 ?_
  refine lv_aload_n hx hb dX5_add_31 rfl (lv_at hl 0 rfl) ?_
  refine cs_get F St 0 rfl rfl inX5 4 (by decide) kf_X5_25 rfl dX5_add_32 ?_
  refine lv_iload_n hx hb dX5_add_35 rfl (lv_at hl 2 rfl) ?_
  refine cs_ist F St 2 1 rfl rfl (vp_in_iff.mpr ⟨by omega, by omega⟩) (w' := [(qAAAAIJ h 5 b0 b1 b2 b3 sn st), (qarI b0 e0 250 f_1), (qarI b1 e1 250 (upd f1 (sn : Int32).toNatClampNeg y)), (qarI b2 e2 250 f2)]) rfl dX5_add_36 (fun H locs St => ?_)
  obtain ⟨f_2, ef_2⟩ : ∃ zz : Nat → Int32, zz = upd f1 (sn : Int32).toNatClampNeg y := ⟨_, rfl⟩
  rw [← ef_2] at St
  refine lv_aload_n hx hb dX5_add_37 rfl (lv_at hl 0 rfl) ?_
  refine cs_get F St 0 rfl rfl inX5 2 (by decide) kf_X5_18 rfl dX5_add_38 ?_
  refine lv_aload_n hx hb dX5_add_41 rfl (lv_at hl 0 rfl) ?_
  refine cs_get F St 0 rfl rfl inX5 4 (by decide) kf_X5_25 rfl dX5_add_42 ?_
  refine lv_iload_n hx hb dX5_add_45 rfl (lv_at hl 3 rfl) ?_
  refine cs_ist F St 3 2 rfl rfl (vp_in_iff.mpr ⟨by omega, by omega⟩) (w' := [(qAAAAIJ h 5 b0 b1 b2 b3 sn st), (qarI b0 e0 250 f_1), (qarI b1 e1 250 f_2), (qarI b2 e2 250 (upd f2 (sn : Int32).toNatClampNeg z))]) rfl dX5_add_46 (fun H locs St => ?_)
  obtain ⟨f_3, ef_3⟩ : ∃ zz : Nat → Int32, zz = upd f2 (sn : Int32).toNatClampNeg z := ⟨_, rfl⟩
  rw [← ef_3] at St
  refine lv_aload_n hx hb dX5_add_47 rfl (lv_at hl 0 rfl) ?_
  refine lv_dup hx hb dX5_add_48 rfl ?_
  refine cs_get F St 0 rfl rfl inX5 4 (by decide) kf_X5_25 rfl dX5_add_49 ?_
  refine lv_iconst (v := 1) hx hb dX5_add_52 (by decide) ?_
  refine lv_iadd hx hb dX5_add_53 ?_
  refine lv_topi (fun y_4 ey_4 => ?_)
  first | have jy_4 : y_4.toInt = sn.toInt + 1 := (by have q9 := ci_add (x := sn) (y := 1) rfl (show (1 : Int32).toInt = 1 by decide) ey_4; omega) | have jy_4 := ci_add (x := sn) (y := 1) rfl (show (1 : Int32).toInt = 1 by decide) ey_4
  refine cs_put F St 0 rfl rfl inX5 tyX5_ok nmX5 4 (by decide) kf_X5_25 rfl rfl rfl (Nat.le_of_ble_eq_true rfl) (w' := [(qAAAAIJ h 5 b0 b1 b2 b3 y_4 st), (qarI b0 e0 250 f_1), (qarI b1 e1 250 f_2), (qarI b2 e2 250 f_3)]) rfl dX5_add_54 (fun H locs St => ?_)
  refine lv_aload_n hx hb dX5_add_57 rfl (lv_at hl 0 rfl) ?_
  refine lv_dup hx hb dX5_add_58 rfl ?_
  refine cs_get F St 0 rfl rfl inX5 5 (by decide) kf_X5_29 rfl dX5_add_59 ?_
  refine lv_iload_n hx hb dX5_add_62 rfl (lv_at hl 2 rfl) ?_
  refine lv_i2l (v := y.toInt64) hx hb dX5_add_63 rfl ?_
  refine lv_ladd hx hb dX5_add_64 ?_
  refine lv_topl (fun y_5 ey_5 => ?_)
  first | have jy_5 : y_5.toInt = st.toInt + y.toInt := (by have q8 := ci_rng y; have q9 := cl_add (x := st) (y := y.toInt64) (u := st.toInt) (v := y.toInt) rfl (Int32.toInt_toInt64 y) ey_5; omega) | have jy_5 := cl_add (x := st) (y := y.toInt64) (u := st.toInt) (v := y.toInt) rfl (Int32.toInt_toInt64 y) ey_5
  refine cs_put F St 0 rfl rfl inX5 tyX5_ok nmX5 5 (by decide) kf_X5_29 rfl rfl rfl (Nat.le_of_ble_eq_true rfl) (w' := [(qAAAAIJ h 5 b0 b1 b2 b3 y_4 y_5), (qarI b0 e0 250 f_1), (qarI b1 e1 250 f_2), (qarI b2 e2 250 f_3)]) rfl dX5_add_65 (fun H locs St => ?_)
  exact cs_vret F hr hlk hQ St (y_4, y_5, f_1, f_2, f_3) ⟨by omega, ef_1, ef_2, ef_3, by omega⟩ [0, 1, 2, 3] rfl (by decide) [] rfl (by decide) (by decide) dX5_add_68
set_option maxHeartbeats 4000000 in
set_option maxRecDepth 100000 in
theorem e5_giverOf (l : Launch) (G : va_G) (k : Nat → Nat) (sz : Nat) (h : Nat) (b0 : Nat) (b1 : Nat) (b2 : Nat) (b3 : Nat) (sn : Int32) (st : Int64) (e0 : ClassId) (f0 : Nat → Int32) (x : Int32) (hsn : 0 ≤ sn.toInt ∧ sn.toInt ≤ 250) (hxx : 0 ≤ x.toInt ∧ x.toInt < sn.toInt) : Met l yX5_giverOf (Cond.code yX5_giverOf cX5_giverOf 2 (some .int) :: tb) ({ frames := 0, cells := 0, slots := 0, locals := 0 } : Room) (va_Pc [.ref h, .int x] (cP G k [(qAAAAIJ h 5 b0 b1 b2 b3 sn st), (qarI b0 e0 250 f0)] [(e0, .int)] sz)) (va_Qi (fun (r : Int32) (_ : Unit) => (r = f0 x.toNatClampNeg)) (cB G (fun (_ : Unit) => [(qAAAAIJ h 5 b0 b1 b2 b3 sn st), (qarI b0 e0 250 f0)]) (fun (_ : Unit) => []) (va_A [(qAAAAIJ h 5 b0 b1 b2 b3 sn st), (qarI b0 e0 250 f0)] sz)) (va_A [(qAAAAIJ h 5 b0 b1 b2 b3 sn st), (qarI b0 e0 250 f0)] sz)) 0 0 (va_A [(qAAAAIJ h 5 b0 b1 b2 b3 sn st), (qarI b0 e0 250 f0)] sz) := by
  refine ofC_i (cc := cX5_giverOf) (maxL := 2) (ret := (some .int)) (by decide) rfl (Nat.le_of_ble_eq_true rfl) ?_
  intro p e s m args below meth c A ls Q F hr hin hlk St hl hQ
  have hx := F.1
  have hb := F.2.1
  have hl : lv_has ls 2 [(0, .ref h), (1, .int x)] := hl
  have St : cS G k [(qAAAAIJ h 5 b0 b1 b2 b3 sn st), (qarI b0 e0 250 f0)] [(e0, .int)] A s s.heap [] := St
  have y0 : (0 : Int32).toInt = 0 := by decide
  refine lv_iload_n hx hb dX5_giverOf_0 rfl (lv_at hl 1 rfl) ?_
  refine lv_if_lt (tgt := 28) hx hb dX5_giverOf_1 (by decide) (fun c1 => ?_) (fun c1 => ?_)
  · have i1 := ci_lt (x := x) (y := 0) rfl (show (0 : Int32).toInt = 0 by decide) c1; exact False.elim (by omega)
  have i1 := ci_nlt (x := x) (y := 0) rfl (show (0 : Int32).toInt = 0 by decide) c1
  refine lv_iload_n hx hb dX5_giverOf_4 rfl (lv_at hl 1 rfl) ?_
  refine lv_aload_n hx hb dX5_giverOf_5 rfl (lv_at hl 0 rfl) ?_
  refine cs_get F St 0 rfl rfl inX5 4 (by decide) kf_X5_25 rfl dX5_giverOf_6 ?_
  refine lv_icmp_ge (tgt := 28) hx hb dX5_giverOf_9 (by decide) (fun c9 => ?_) (fun c9 => ?_)
  · have i9 := ci_le (x := sn) (y := x) rfl rfl c9; exact False.elim (by omega)
  have i9 := ci_nle (x := sn) (y := x) rfl rfl c9
  refine lv_iload_n hx hb dX5_giverOf_12 rfl (lv_at hl 1 rfl) ?_
  refine lv_sipush (v := 250) hx hb dX5_giverOf_13 (by decide) ?_
  refine lv_icmp_ge (tgt := 28) hx hb dX5_giverOf_16 (by decide) (fun c16 => ?_) (fun c16 => ?_)
  · have i16 := ci_le (x := 250) (y := x) (show (250 : Int32).toInt = 250 by decide) rfl c16; exact False.elim (by omega)
  have i16 := ci_nle (x := 250) (y := x) (show (250 : Int32).toInt = 250 by decide) rfl c16
  refine lv_aload_n hx hb dX5_giverOf_19 rfl (lv_at hl 0 rfl) ?_
  refine cs_get F St 0 rfl rfl inX5 0 (by decide) kf_X5_9 rfl dX5_giverOf_20 ?_
  refine lv_iload_n hx hb dX5_giverOf_23 rfl (lv_at hl 1 rfl) ?_
  refine cs_ild F St 1 0 rfl rfl (vp_in_iff.mpr ⟨by omega, by omega⟩) dX5_giverOf_24 ?_
  refine lv_topi (fun y_1 ey_1 => ?_)
  have gy_1 := congrArg Int32.toInt ey_1
  refine lv_goto (tgt := 29) hx hb dX5_giverOf_25 (by decide) ?_
  exact cs_iret F hr hlk hQ St () (r := y_1) ey_1 [0, 1] rfl (by decide) [] rfl (by decide) (by decide) dX5_giverOf_29
set_option maxHeartbeats 4000000 in
set_option maxRecDepth 100000 in
theorem e5_penceOf (l : Launch) (G : va_G) (k : Nat → Nat) (sz : Nat) (h : Nat) (b0 : Nat) (b1 : Nat) (b2 : Nat) (b3 : Nat) (sn : Int32) (st : Int64) (e1 : ClassId) (f1 : Nat → Int32) (x : Int32) (hsn : 0 ≤ sn.toInt ∧ sn.toInt ≤ 250) (hxx : 0 ≤ x.toInt ∧ x.toInt < sn.toInt) : Met l yX5_penceOf (Cond.code yX5_penceOf cX5_penceOf 2 (some .int) :: tb) ({ frames := 0, cells := 0, slots := 0, locals := 0 } : Room) (va_Pc [.ref h, .int x] (cP G k [(qAAAAIJ h 5 b0 b1 b2 b3 sn st), (qarI b1 e1 250 f1)] [(e1, .int)] sz)) (va_Qi (fun (r : Int32) (_ : Unit) => (r = f1 x.toNatClampNeg)) (cB G (fun (_ : Unit) => [(qAAAAIJ h 5 b0 b1 b2 b3 sn st), (qarI b1 e1 250 f1)]) (fun (_ : Unit) => []) (va_A [(qAAAAIJ h 5 b0 b1 b2 b3 sn st), (qarI b1 e1 250 f1)] sz)) (va_A [(qAAAAIJ h 5 b0 b1 b2 b3 sn st), (qarI b1 e1 250 f1)] sz)) 0 0 (va_A [(qAAAAIJ h 5 b0 b1 b2 b3 sn st), (qarI b1 e1 250 f1)] sz) := by
  refine ofC_i (cc := cX5_penceOf) (maxL := 2) (ret := (some .int)) (by decide) rfl (Nat.le_of_ble_eq_true rfl) ?_
  intro p e s m args below meth c A ls Q F hr hin hlk St hl hQ
  have hx := F.1
  have hb := F.2.1
  have hl : lv_has ls 2 [(0, .ref h), (1, .int x)] := hl
  have St : cS G k [(qAAAAIJ h 5 b0 b1 b2 b3 sn st), (qarI b1 e1 250 f1)] [(e1, .int)] A s s.heap [] := St
  have y0 : (0 : Int32).toInt = 0 := by decide
  refine lv_iload_n hx hb dX5_penceOf_0 rfl (lv_at hl 1 rfl) ?_
  refine lv_if_lt (tgt := 28) hx hb dX5_penceOf_1 (by decide) (fun c1 => ?_) (fun c1 => ?_)
  · have i1 := ci_lt (x := x) (y := 0) rfl (show (0 : Int32).toInt = 0 by decide) c1; exact False.elim (by omega)
  have i1 := ci_nlt (x := x) (y := 0) rfl (show (0 : Int32).toInt = 0 by decide) c1
  refine lv_iload_n hx hb dX5_penceOf_4 rfl (lv_at hl 1 rfl) ?_
  refine lv_aload_n hx hb dX5_penceOf_5 rfl (lv_at hl 0 rfl) ?_
  refine cs_get F St 0 rfl rfl inX5 4 (by decide) kf_X5_25 rfl dX5_penceOf_6 ?_
  refine lv_icmp_ge (tgt := 28) hx hb dX5_penceOf_9 (by decide) (fun c9 => ?_) (fun c9 => ?_)
  · have i9 := ci_le (x := sn) (y := x) rfl rfl c9; exact False.elim (by omega)
  have i9 := ci_nle (x := sn) (y := x) rfl rfl c9
  refine lv_iload_n hx hb dX5_penceOf_12 rfl (lv_at hl 1 rfl) ?_
  refine lv_sipush (v := 250) hx hb dX5_penceOf_13 (by decide) ?_
  refine lv_icmp_ge (tgt := 28) hx hb dX5_penceOf_16 (by decide) (fun c16 => ?_) (fun c16 => ?_)
  · have i16 := ci_le (x := 250) (y := x) (show (250 : Int32).toInt = 250 by decide) rfl c16; exact False.elim (by omega)
  have i16 := ci_nle (x := 250) (y := x) (show (250 : Int32).toInt = 250 by decide) rfl c16
  refine lv_aload_n hx hb dX5_penceOf_19 rfl (lv_at hl 0 rfl) ?_
  refine cs_get F St 0 rfl rfl inX5 1 (by decide) kf_X5_15 rfl dX5_penceOf_20 ?_
  refine lv_iload_n hx hb dX5_penceOf_23 rfl (lv_at hl 1 rfl) ?_
  refine cs_ild F St 1 0 rfl rfl (vp_in_iff.mpr ⟨by omega, by omega⟩) dX5_penceOf_24 ?_
  refine lv_topi (fun y_1 ey_1 => ?_)
  have gy_1 := congrArg Int32.toInt ey_1
  refine lv_goto (tgt := 29) hx hb dX5_penceOf_25 (by decide) ?_
  exact cs_iret F hr hlk hQ St () (r := y_1) ey_1 [0, 1] rfl (by decide) [] rfl (by decide) (by decide) dX5_penceOf_29
set_option maxHeartbeats 4000000 in
set_option maxRecDepth 100000 in
theorem e5_givenBy (l : Launch) (G : va_G) (k : Nat → Nat) (sz : Nat) (h : Nat) (b0 : Nat) (b1 : Nat) (b2 : Nat) (b3 : Nat) (sn : Int32) (st : Int64) (e0 : ClassId) (e1 : ClassId) (f0 : Nat → Int32) (f1 : Nat → Int32) (x : Int32) (hSp : mSp sn f1) : Met l yX5_givenBy (Cond.code yX5_givenBy cX5_givenBy 4 (some .int) :: tb) ({ frames := 0, cells := 0, slots := 0, locals := 0 } : Room) (va_Pc [.ref h, .int x] (cP G k [(qAAAAIJ h 5 b0 b1 b2 b3 sn st), (qarI b0 e0 250 f0), (qarI b1 e1 250 f1)] [(e0, .int), (e1, .int)] sz)) (va_Qi (fun (r : Int32) (_ : Unit) => (r.toInt = sm (tG f0 f1 x.toInt) sn.toNatClampNeg)) (cB G (fun (_ : Unit) => [(qAAAAIJ h 5 b0 b1 b2 b3 sn st), (qarI b0 e0 250 f0), (qarI b1 e1 250 f1)]) (fun (_ : Unit) => []) (va_A [(qAAAAIJ h 5 b0 b1 b2 b3 sn st), (qarI b0 e0 250 f0), (qarI b1 e1 250 f1)] sz)) (va_A [(qAAAAIJ h 5 b0 b1 b2 b3 sn st), (qarI b0 e0 250 f0), (qarI b1 e1 250 f1)] sz)) 0 0 (va_A [(qAAAAIJ h 5 b0 b1 b2 b3 sn st), (qarI b0 e0 250 f0), (qarI b1 e1 250 f1)] sz) := by
  refine ofC_i (cc := cX5_givenBy) (maxL := 4) (ret := (some .int)) (by decide) rfl (Nat.le_of_ble_eq_true rfl) ?_
  intro p e s m args below meth c A ls Q F hr hin hlk St hl hQ
  have hx := F.1
  have hb := F.2.1
  have hl : lv_has ls 4 [(0, .ref h), (1, .int x)] := hl
  have St : cS G k [(qAAAAIJ h 5 b0 b1 b2 b3 sn st), (qarI b0 e0 250 f0), (qarI b1 e1 250 f1)] [(e0, .int), (e1, .int)] A s s.heap [] := St
  have y0 : (0 : Int32).toInt = 0 := by decide
  have hsn := hSp.1
  have hn5 := nc_int (x := sn) (by omega)
  refine lv_iconst (v := 0) hx hb dX5_givenBy_0 (by decide) ?_
  refine lv_istore_n (lv' := [(2, .int 0), (0, .ref h), (1, .int x)]) hx hb dX5_givenBy_1 rfl hl (by decide) rfl (fun ls hl => ?_)
  refine lv_iconst (v := 0) hx hb dX5_givenBy_2 (by decide) ?_
  refine lv_istore_n (lv' := [(3, .int 0), (2, .int 0), (0, .ref h), (1, .int x)]) hx hb dX5_givenBy_3 rfl hl (by decide) rfl (fun ls hl => ?_)
  have lp4 : ∀ (n : Nat) (kk : Int32) (nn : Int32) (H : Heap) (locs : List Loc) (ls : Array Slot), ((0 ≤ kk.toInt ∧ kk.toInt ≤ sn.toInt) ∧ nn.toInt = sm (tG f0 f1 x.toInt) kk.toNatClampNeg) → ((251 - kk.toInt).toNat) < n → cS G k [(qAAAAIJ h 5 b0 b1 b2 b3 sn st), (qarI b0 e0 250 f0), (qarI b1 e1 250 f1)] [(e0, .int), (e1, .int)] A s H locs → lv_has ls 4 [(3, .int kk), (2, .int nn), (0, .ref h), (1, .int x)] → W p l e ({ frames := 0, cells := 0, slots := 0, locals := 0 } : Room) s m args below meth c H locs 0 0 Q (F0 m 4 ls []) := by
    intro n
    induction n with
    | zero => intro kk nn H locs ls hI hn; exact absurd hn (Nat.not_lt_zero _)
    | succ n ih =>
      intro kk nn H locs ls hI hn St hl
      obtain ⟨⟨hI0, hI1⟩, hs⟩ := hI
      have nk := nc_int hI0
      have hnb := sG_bd (u0 := f0) (g := x.toInt) (k := kk.toNatClampNeg) hSp (by omega)
      rw [← hs] at hnb
      refine lv_iload_n hx hb dX5_givenBy_4 rfl (lv_at hl 0 rfl) ?_
      refine lv_aload_n hx hb dX5_givenBy_5 rfl (lv_at hl 2 rfl) ?_
      refine cs_get F St 0 rfl rfl inX5 4 (by decide) kf_X5_25 rfl dX5_givenBy_6 ?_
      refine lv_icmp_ge (tgt := 44) hx hb dX5_givenBy_9 (by decide) (fun c9 => ?_) (fun c9 => ?_)
      ·
        have i9 := ci_le (x := sn) (y := kk) rfl rfl c9
        refine lv_iload_n hx hb dX5_givenBy_44 rfl (lv_at hl 1 rfl) ?_
        exact cs_iret F hr hlk hQ St () (r := nn) (sm_at hs (by omega)) [0, 1, 2] rfl (by decide) [] rfl (by decide) (by decide) dX5_givenBy_45
      ·
        have i9 := ci_nle (x := sn) (y := kk) rfl rfl c9
        refine lv_iload_n hx hb dX5_givenBy_12 rfl (lv_at hl 0 rfl) ?_
        refine lv_sipush (v := 250) hx hb dX5_givenBy_13 (by decide) ?_
        refine lv_icmp_ge (tgt := 44) hx hb dX5_givenBy_16 (by decide) (fun c16 => ?_) (fun c16 => ?_)
        ·
          have i16 := ci_le (x := 250) (y := kk) (show (250 : Int32).toInt = 250 by decide) rfl c16
          refine lv_iload_n hx hb dX5_givenBy_44 rfl (lv_at hl 1 rfl) ?_
          exact cs_iret F hr hlk hQ St () (r := nn) (sm_at hs (by omega)) [0, 1, 2] rfl (by decide) [] rfl (by decide) (by decide) dX5_givenBy_45
        ·
          have i16 := ci_nle (x := 250) (y := kk) (show (250 : Int32).toInt = 250 by decide) rfl c16
          have hpk := hSp.2 kk.toNatClampNeg (by omega)
          refine lv_aload_n hx hb dX5_givenBy_19 rfl (lv_at hl 2 rfl) ?_
          refine cs_get F St 0 rfl rfl inX5 0 (by decide) kf_X5_9 rfl dX5_givenBy_20 ?_
          refine lv_iload_n hx hb dX5_givenBy_23 rfl (lv_at hl 0 rfl) ?_
          refine cs_ild F St 1 0 rfl rfl (vp_in_iff.mpr ⟨by omega, by omega⟩) dX5_givenBy_24 ?_
          refine lv_topi (fun y_1 ey_1 => ?_)
          have gy_1 := congrArg Int32.toInt ey_1
          refine lv_iload_n hx hb dX5_givenBy_25 rfl (lv_at hl 3 rfl) ?_
          refine lv_icmp_ne (tgt := 38) hx hb dX5_givenBy_26 (by decide) (fun c26 => ?_) (fun c26 => ?_)
          ·
            have i26 := ci_ne (x := y_1) (y := x) rfl rfl c26
            obtain ⟨y_2, ey_2⟩ : ∃ zz : Int32, zz = kk + 1 := ⟨_, rfl⟩
            first | have jy_2 : y_2.toInt = kk.toInt + 1 := (by have q9 := ci_add (x := kk) rfl (show (1 : Int32).toInt = 1 by decide) ey_2; omega) | have jy_2 := ci_add (x := kk) rfl (show (1 : Int32).toInt = 1 by decide) ey_2
            refine lv_iinc (v := y_2) (lv' := [(3, .int y_2), (2, .int nn), (0, .ref h), (1, .int x)]) hx hb dX5_givenBy_38 hl (k := 0) rfl (by rw [ey_2]; rfl) (by decide) rfl (fun ls hl => ?_)
            refine lv_goto (tgt := 4) hx hb dX5_givenBy_41 (by decide) ?_
            exact ih y_2 nn _ _ _ ⟨⟨by omega, by omega⟩, sm_up hI0 hs (by omega) (by unfold tG; split <;> omega)⟩ (by omega) St (lv_sub hl [0, 1, 2, 3] rfl)
          ·
            have i26 := ci_eq (x := y_1) (y := x) rfl rfl c26
            refine lv_iload_n hx hb dX5_givenBy_29 rfl (lv_at hl 1 rfl) ?_
            refine lv_aload_n hx hb dX5_givenBy_30 rfl (lv_at hl 2 rfl) ?_
            refine cs_get F St 0 rfl rfl inX5 1 (by decide) kf_X5_15 rfl dX5_givenBy_31 ?_
            refine lv_iload_n hx hb dX5_givenBy_34 rfl (lv_at hl 0 rfl) ?_
            refine cs_ild F St 2 1 rfl rfl (vp_in_iff.mpr ⟨by omega, by omega⟩) dX5_givenBy_35 ?_
            refine lv_topi (fun y_3 ey_3 => ?_)
            have gy_3 := congrArg Int32.toInt ey_3
            refine lv_iadd hx hb dX5_givenBy_36 ?_
            refine lv_topi (fun y_4 ey_4 => ?_)
            first | have jy_4 : y_4.toInt = nn.toInt + y_3.toInt := (by have q9 := ci_add (x := nn) (y := y_3) rfl rfl ey_4; omega) | have jy_4 := ci_add (x := nn) (y := y_3) rfl rfl ey_4
            refine lv_istore_n (lv' := [(2, .int y_4), (3, .int kk), (0, .ref h), (1, .int x)]) hx hb dX5_givenBy_37 rfl hl (by decide) rfl (fun ls hl => ?_)
            obtain ⟨y_5, ey_5⟩ : ∃ zz : Int32, zz = kk + 1 := ⟨_, rfl⟩
            first | have jy_5 : y_5.toInt = kk.toInt + 1 := (by have q9 := ci_add (x := kk) rfl (show (1 : Int32).toInt = 1 by decide) ey_5; omega) | have jy_5 := ci_add (x := kk) rfl (show (1 : Int32).toInt = 1 by decide) ey_5
            refine lv_iinc (v := y_5) (lv' := [(3, .int y_5), (2, .int y_4), (0, .ref h), (1, .int x)]) hx hb dX5_givenBy_38 hl (k := 1) rfl (by rw [ey_5]; rfl) (by decide) rfl (fun ls hl => ?_)
            refine lv_goto (tgt := 4) hx hb dX5_givenBy_41 (by decide) ?_
            exact ih y_5 y_4 _ _ _ ⟨⟨by omega, by omega⟩, sm_up hI0 hs (by omega) (by unfold tG; split <;> omega)⟩ (by omega) St (lv_sub hl [0, 1, 2, 3] rfl)
  exact lp4 252 0 0 _ _ _ ⟨⟨by omega, by omega⟩, by rw [y0]; rfl⟩ (by omega) St (lv_sub hl [0, 1, 2, 3] rfl)
set_option maxHeartbeats 4000000 in
set_option maxRecDepth 100000 in
theorem e0_setDecl (l : Launch) (G : va_G) (k : Nat → Nat) (sz : Nat) (h : Nat) (b0 : Nat) (b1 : Nat) (b2 : Nat) (b3 : Nat) (b4 : Nat) (b5 : Nat) (e0 : ClassId) (e1 : ClassId) (f0 : Nat → Int32) (f1 : Nat → Int32) (x : Int32) (y : Int32) (z : Int32) (hxx : 0 ≤ x.toInt ∧ x.toInt ≤ 29) : Met l yX0_setDeclaration (Cond.code yX0_setDeclaration cX0_setDeclaration 4 none :: tb) ({ frames := 1, cells := 0, slots := 0, locals := 20 } : Room) (va_Pc [.ref h, .int x, .int y, .int z] (cP G k [(qAAAAAA h 0 b0 b1 b2 b3 b4 b5), (qarI b0 e0 30 f0), (qarI b1 e1 30 f1)] [(e0, .int), (e1, .int)] sz)) (va_Qv (fun (u : (Nat → Int32) × (Nat → Int32)) => match u with | (z0, z1) => (z0 = upd f0 x.toNatClampNeg y) ∧ (z1 = upd f1 x.toNatClampNeg z)) (cB G (fun u => match u with | (z0, z1) => [(qAAAAAA h 0 b0 b1 b2 b3 b4 b5), (qarI b0 e0 30 z0), (qarI b1 e1 30 z1)]) (fun u => match u with | (z0, z1) => []) (va_A [(qAAAAAA h 0 b0 b1 b2 b3 b4 b5), (qarI b0 e0 30 f0), (qarI b1 e1 30 f1)] sz)) (va_A [(qAAAAAA h 0 b0 b1 b2 b3 b4 b5), (qarI b0 e0 30 f0), (qarI b1 e1 30 f1)] sz)) 0 0 (va_A [(qAAAAAA h 0 b0 b1 b2 b3 b4 b5), (qarI b0 e0 30 f0), (qarI b1 e1 30 f1)] sz) := by
  refine ofC_v (cc := cX0_setDeclaration) (maxL := 4) (ret := none) (by decide) rfl (Nat.le_of_ble_eq_true rfl) ?_
  intro p e s m args below meth c A ls Q F hr hin hlk St hl hQ
  have hx := F.1
  have hb := F.2.1
  have hl : lv_has ls 4 [(0, .ref h), (1, .int x), (2, .int y), (3, .int z)] := hl
  have St : cS G k [(qAAAAAA h 0 b0 b1 b2 b3 b4 b5), (qarI b0 e0 30 f0), (qarI b1 e1 30 f1)] [(e0, .int), (e1, .int)] A s s.heap [] := St
  refine lv_iload_n hx hb dX0_setDeclaration_0 rfl (lv_at hl 1 rfl) ?_
  refine cs_i St [] [0, 1, 2] (wc := []) (wr := [(qAAAAAA h 0 b0 b1 b2 b3 b4 b5), (qarI b0 e0 30 f0), (qarI b1 e1 30 f1)]) rfl rfl (by decide) (by decide) (va_runSN (As := [.int x]) (rest := []) F (x10_isGiver l G k _ x) (cwSNt F mf_X10_isGiver St.2.2.2.2.2.1.2.2.2.2.2.2.1 rfl rfl ⟨Nat.le_of_ble_eq_true rfl, Nat.le_of_ble_eq_true rfl⟩) (cs_pre St [] rfl (by decide) [] rfl) rfl rfl hl.1 rfl (lv_room (Nat.le_of_ble_eq_true rfl)) dX0_setDeclaration_1 ⟨Nat.le_of_ble_eq_true rfl, Nat.le_of_ble_eq_true rfl⟩) (fun r_1 u_2 H locs hw St => ?_)
  try dsimp only at hw
  rcases hw with ⟨z_3, hf_4⟩ | ⟨z_5, hf_6⟩
  ·
    subst r_1
    have St : cS G k [(qAAAAAA h 0 b0 b1 b2 b3 b4 b5), (qarI b0 e0 30 f0), (qarI b1 e1 30 f1)] [(e0, .int), (e1, .int)] A s H locs := St
    refine lv_if_eq (tgt := 21) hx hb dX0_setDeclaration_4 (by decide) (fun c4 => ?_) (fun c4 => ?_)
    · exact absurd c4 (by decide)
    refine lv_aload_n hx hb dX0_setDeclaration_7 rfl (lv_at hl 0 rfl) ?_
    refine cs_get F St 0 rfl rfl inX0 0 (by decide) kf_X0_9 rfl dX0_setDeclaration_8 ?_
    refine lv_iload_n hx hb dX0_setDeclaration_11 rfl (lv_at hl 1 rfl) ?_
    refine lv_iload_n hx hb dX0_setDeclaration_12 rfl (lv_at hl 2 rfl) ?_
    refine cs_ist F St 1 0 rfl rfl (vp_in_iff.mpr ⟨by omega, by omega⟩) (w' := [(qAAAAAA h 0 b0 b1 b2 b3 b4 b5), (qarI b0 e0 30 (upd f0 (x : Int32).toNatClampNeg y)), (qarI b1 e1 30 f1)]) rfl dX0_setDeclaration_13 (fun H locs St => ?_)
    obtain ⟨f_7, ef_7⟩ : ∃ zz : Nat → Int32, zz = upd f0 (x : Int32).toNatClampNeg y := ⟨_, rfl⟩
    rw [← ef_7] at St
    refine lv_aload_n hx hb dX0_setDeclaration_14 rfl (lv_at hl 0 rfl) ?_
    refine cs_get F St 0 rfl rfl inX0 1 (by decide) kf_X0_15 rfl dX0_setDeclaration_15 ?_
    refine lv_iload_n hx hb dX0_setDeclaration_18 rfl (lv_at hl 1 rfl) ?_
    refine lv_iload_n hx hb dX0_setDeclaration_19 rfl (lv_at hl 3 rfl) ?_
    refine cs_ist F St 2 1 rfl rfl (vp_in_iff.mpr ⟨by omega, by omega⟩) (w' := [(qAAAAAA h 0 b0 b1 b2 b3 b4 b5), (qarI b0 e0 30 f_7), (qarI b1 e1 30 (upd f1 (x : Int32).toNatClampNeg z))]) rfl dX0_setDeclaration_20 (fun H locs St => ?_)
    obtain ⟨f_8, ef_8⟩ : ∃ zz : Nat → Int32, zz = upd f1 (x : Int32).toNatClampNeg z := ⟨_, rfl⟩
    rw [← ef_8] at St
    exact cs_vret F hr hlk hQ St (f_7, f_8) ⟨ef_7, ef_8⟩ [0, 1, 2] rfl (by decide) [] rfl (by decide) (by decide) dX0_setDeclaration_21
  ·
    exact False.elim (by omega)
set_option maxHeartbeats 4000000 in
set_option maxRecDepth 100000 in
theorem e0_hasDeclared (l : Launch) (G : va_G) (k : Nat → Nat) (sz : Nat) (h : Nat) (b0 : Nat) (b1 : Nat) (b2 : Nat) (b3 : Nat) (b4 : Nat) (b5 : Nat) (e0 : ClassId) (e1 : ClassId) (f0 : Nat → Int32) (f1 : Nat → Int32) (x : Int32) (y : Int32) (hxx : 0 ≤ x.toInt ∧ x.toInt ≤ 29) : Met l yX0_hasDeclared (Cond.code yX0_hasDeclared cX0_hasDeclared 3 (some .boolean) :: tb) ({ frames := 1, cells := 0, slots := 0, locals := 20 } : Room) (va_Pc [.ref h, .int x, .int y] (cP G k [(qAAAAAA h 0 b0 b1 b2 b3 b4 b5), (qarI b0 e0 30 f0), (qarI b1 e1 30 f1)] [(e0, .int), (e1, .int)] sz)) (va_Qi (fun (r : Int32) (_ : Unit) => ((r = 1) ∧ (¬ (f0 x.toNatClampNeg).toInt = -1 ∧ (f0 x.toNatClampNeg).toInt ≤ y.toInt ∧ y.toInt ≤ (f1 x.toNatClampNeg).toInt)) ∨ ((r = 0) ∧ (¬ (¬ (f0 x.toNatClampNeg).toInt = -1 ∧ (f0 x.toNatClampNeg).toInt ≤ y.toInt ∧ y.toInt ≤ (f1 x.toNatClampNeg).toInt)))) (cB G (fun (_ : Unit) => [(qAAAAAA h 0 b0 b1 b2 b3 b4 b5), (qarI b0 e0 30 f0), (qarI b1 e1 30 f1)]) (fun (_ : Unit) => []) (va_A [(qAAAAAA h 0 b0 b1 b2 b3 b4 b5), (qarI b0 e0 30 f0), (qarI b1 e1 30 f1)] sz)) (va_A [(qAAAAAA h 0 b0 b1 b2 b3 b4 b5), (qarI b0 e0 30 f0), (qarI b1 e1 30 f1)] sz)) 0 0 (va_A [(qAAAAAA h 0 b0 b1 b2 b3 b4 b5), (qarI b0 e0 30 f0), (qarI b1 e1 30 f1)] sz) := by
  refine ofC_i (cc := cX0_hasDeclared) (maxL := 3) (ret := (some .boolean)) (by decide) rfl (Nat.le_of_ble_eq_true rfl) ?_
  intro p e s m args below meth c A ls Q F hr hin hlk St hl hQ
  have hx := F.1
  have hb := F.2.1
  have hl : lv_has ls 3 [(0, .ref h), (1, .int x), (2, .int y)] := hl
  have St : cS G k [(qAAAAAA h 0 b0 b1 b2 b3 b4 b5), (qarI b0 e0 30 f0), (qarI b1 e1 30 f1)] [(e0, .int), (e1, .int)] A s s.heap [] := St
  have ym1 : (-1 : Int32).toInt = -1 := by decide
  refine lv_iload_n hx hb dX0_hasDeclared_0 rfl (lv_at hl 1 rfl) ?_
  refine cs_i St [] [0, 1, 2] (wc := []) (wr := [(qAAAAAA h 0 b0 b1 b2 b3 b4 b5), (qarI b0 e0 30 f0), (qarI b1 e1 30 f1)]) rfl rfl (by decide) (by decide) (va_runSN (As := [.int x]) (rest := []) F (x10_isGiver l G k _ x) (cwSNt F mf_X10_isGiver St.2.2.2.2.2.1.2.2.2.2.2.2.1 rfl rfl ⟨Nat.le_of_ble_eq_true rfl, Nat.le_of_ble_eq_true rfl⟩) (cs_pre St [] rfl (by decide) [] rfl) rfl rfl hl.1 rfl (lv_room (Nat.le_of_ble_eq_true rfl)) dX0_hasDeclared_1 ⟨Nat.le_of_ble_eq_true rfl, Nat.le_of_ble_eq_true rfl⟩) (fun r_1 u_2 H locs hw St => ?_)
  try dsimp only at hw
  rcases hw with ⟨z_3, hf_4⟩ | ⟨z_5, hf_6⟩
  ·
    subst r_1
    have St : cS G k [(qAAAAAA h 0 b0 b1 b2 b3 b4 b5), (qarI b0 e0 30 f0), (qarI b1 e1 30 f1)] [(e0, .int), (e1, .int)] A s H locs := St
    refine lv_if_eq (tgt := 41) hx hb dX0_hasDeclared_4 (by decide) (fun c4 => ?_) (fun c4 => ?_)
    · exact absurd c4 (by decide)
    refine lv_aload_n hx hb dX0_hasDeclared_7 rfl (lv_at hl 0 rfl) ?_
    refine cs_get F St 0 rfl rfl inX0 0 (by decide) kf_X0_9 rfl dX0_hasDeclared_8 ?_
    refine lv_iload_n hx hb dX0_hasDeclared_11 rfl (lv_at hl 1 rfl) ?_
    refine cs_ild F St 1 0 rfl rfl (vp_in_iff.mpr ⟨by omega, by omega⟩) dX0_hasDeclared_12 ?_
    refine lv_topi (fun y_7 ey_7 => ?_)
    have gy_7 := congrArg Int32.toInt ey_7
    refine lv_iconst (v := (-1)) hx hb dX0_hasDeclared_13 (by decide) ?_
    refine lv_icmp_eq (tgt := 41) hx hb dX0_hasDeclared_14 (by decide) (fun c14 => ?_) (fun c14 => ?_)
    ·
      have i14 := ci_eq (x := y_7) (y := (-1)) rfl (show ((-1) : Int32).toInt = -1 by decide) c14
      refine lv_iconst (v := 0) hx hb dX0_hasDeclared_41 (by decide) ?_
      exact cs_zret F hr hlk hQ St () (r := 0) rfl (Or.inr ⟨rfl, by omega⟩) [0, 1, 2] rfl (by decide) [] rfl (by decide) (by decide) dX0_hasDeclared_42
    ·
      have i14 := ci_ne (x := y_7) (y := (-1)) rfl (show ((-1) : Int32).toInt = -1 by decide) c14
      refine lv_iload_n hx hb dX0_hasDeclared_17 rfl (lv_at hl 2 rfl) ?_
      refine lv_aload_n hx hb dX0_hasDeclared_18 rfl (lv_at hl 0 rfl) ?_
      refine cs_get F St 0 rfl rfl inX0 0 (by decide) kf_X0_9 rfl dX0_hasDeclared_19 ?_
      refine lv_iload_n hx hb dX0_hasDeclared_22 rfl (lv_at hl 1 rfl) ?_
      refine cs_ild F St 1 0 rfl rfl (vp_in_iff.mpr ⟨by omega, by omega⟩) dX0_hasDeclared_23 ?_
      refine lv_topi (fun y_8 ey_8 => ?_)
      have gy_8 := congrArg Int32.toInt ey_8
      refine lv_icmp_lt (tgt := 41) hx hb dX0_hasDeclared_24 (by decide) (fun c24 => ?_) (fun c24 => ?_)
      ·
        have i24 := ci_lt (x := y) (y := y_8) rfl rfl c24
        refine lv_iconst (v := 0) hx hb dX0_hasDeclared_41 (by decide) ?_
        exact cs_zret F hr hlk hQ St () (r := 0) rfl (Or.inr ⟨rfl, by omega⟩) [0, 1, 2] rfl (by decide) [] rfl (by decide) (by decide) dX0_hasDeclared_42
      ·
        have i24 := ci_nlt (x := y) (y := y_8) rfl rfl c24
        refine lv_iload_n hx hb dX0_hasDeclared_27 rfl (lv_at hl 2 rfl) ?_
        refine lv_aload_n hx hb dX0_hasDeclared_28 rfl (lv_at hl 0 rfl) ?_
        refine cs_get F St 0 rfl rfl inX0 1 (by decide) kf_X0_15 rfl dX0_hasDeclared_29 ?_
        refine lv_iload_n hx hb dX0_hasDeclared_32 rfl (lv_at hl 1 rfl) ?_
        refine cs_ild F St 2 1 rfl rfl (vp_in_iff.mpr ⟨by omega, by omega⟩) dX0_hasDeclared_33 ?_
        refine lv_topi (fun y_9 ey_9 => ?_)
        have gy_9 := congrArg Int32.toInt ey_9
        refine lv_icmp_gt (tgt := 41) hx hb dX0_hasDeclared_34 (by decide) (fun c34 => ?_) (fun c34 => ?_)
        ·
          have i34 := ci_lt (x := y_9) (y := y) rfl rfl c34
          refine lv_iconst (v := 0) hx hb dX0_hasDeclared_41 (by decide) ?_
          exact cs_zret F hr hlk hQ St () (r := 0) rfl (Or.inr ⟨rfl, by omega⟩) [0, 1, 2] rfl (by decide) [] rfl (by decide) (by decide) dX0_hasDeclared_42
        ·
          have i34 := ci_nlt (x := y_9) (y := y) rfl rfl c34
          refine lv_iconst (v := 1) hx hb dX0_hasDeclared_37 (by decide) ?_
          refine lv_goto (tgt := 42) hx hb dX0_hasDeclared_38 (by decide) ?_
          exact cs_zret F hr hlk hQ St () (r := 1) rfl (Or.inl ⟨rfl, by omega⟩) [0, 1, 2] rfl (by decide) [] rfl (by decide) (by decide) dX0_hasDeclared_42
  ·
    exact False.elim (by omega)
set_option maxHeartbeats 4000000 in
set_option maxRecDepth 100000 in
theorem e0_gotBack (l : Launch) (G : va_G) (k : Nat → Nat) (sz : Nat) (h : Nat) (b0 : Nat) (b1 : Nat) (b2 : Nat) (b3 : Nat) (b4 : Nat) (b5 : Nat) (e3 : ClassId) (f3 : Nat → Int32) (x : Int32) (hxx : 0 ≤ x.toInt ∧ x.toInt ≤ 29) : Met l yX0_gotBack (Cond.code yX0_gotBack cX0_gotBack 2 (some .int) :: tb) ({ frames := 1, cells := 0, slots := 0, locals := 20 } : Room) (va_Pc [.ref h, .int x] (cP G k [(qAAAAAA h 0 b0 b1 b2 b3 b4 b5), (qarI b3 e3 30 f3)] [(e3, .int)] sz)) (va_Qi (fun (r : Int32) (_ : Unit) => (r = f3 x.toNatClampNeg)) (cB G (fun (_ : Unit) => [(qAAAAAA h 0 b0 b1 b2 b3 b4 b5), (qarI b3 e3 30 f3)]) (fun (_ : Unit) => []) (va_A [(qAAAAAA h 0 b0 b1 b2 b3 b4 b5), (qarI b3 e3 30 f3)] sz)) (va_A [(qAAAAAA h 0 b0 b1 b2 b3 b4 b5), (qarI b3 e3 30 f3)] sz)) 0 0 (va_A [(qAAAAAA h 0 b0 b1 b2 b3 b4 b5), (qarI b3 e3 30 f3)] sz) := by
  refine ofC_i (cc := cX0_gotBack) (maxL := 2) (ret := (some .int)) (by decide) rfl (Nat.le_of_ble_eq_true rfl) ?_
  intro p e s m args below meth c A ls Q F hr hin hlk St hl hQ
  have hx := F.1
  have hb := F.2.1
  have hl : lv_has ls 2 [(0, .ref h), (1, .int x)] := hl
  have St : cS G k [(qAAAAAA h 0 b0 b1 b2 b3 b4 b5), (qarI b3 e3 30 f3)] [(e3, .int)] A s s.heap [] := St
  refine lv_iload_n hx hb dX0_gotBack_0 rfl (lv_at hl 1 rfl) ?_
  refine cs_i St [] [0, 1] (wc := []) (wr := [(qAAAAAA h 0 b0 b1 b2 b3 b4 b5), (qarI b3 e3 30 f3)]) rfl rfl (by decide) (by decide) (va_runSN (As := [.int x]) (rest := []) F (x10_isGiver l G k _ x) (cwSNt F mf_X10_isGiver St.2.2.2.2.2.1.2.2.2.2.2.2.1 rfl rfl ⟨Nat.le_of_ble_eq_true rfl, Nat.le_of_ble_eq_true rfl⟩) (cs_pre St [] rfl (by decide) [] rfl) rfl rfl hl.1 rfl (lv_room (Nat.le_of_ble_eq_true rfl)) dX0_gotBack_1 ⟨Nat.le_of_ble_eq_true rfl, Nat.le_of_ble_eq_true rfl⟩) (fun r_1 u_2 H locs hw St => ?_)
  try dsimp only at hw
  rcases hw with ⟨z_3, hf_4⟩ | ⟨z_5, hf_6⟩
  ·
    subst r_1
    have St : cS G k [(qAAAAAA h 0 b0 b1 b2 b3 b4 b5), (qarI b3 e3 30 f3)] [(e3, .int)] A s H locs := St
    refine lv_if_eq (tgt := 16) hx hb dX0_gotBack_4 (by decide) (fun c4 => ?_) (fun c4 => ?_)
    · exact absurd c4 (by decide)
    refine lv_aload_n hx hb dX0_gotBack_7 rfl (lv_at hl 0 rfl) ?_
    refine cs_get F St 0 rfl rfl inX0 3 (by decide) kf_X0_22 rfl dX0_gotBack_8 ?_
    refine lv_iload_n hx hb dX0_gotBack_11 rfl (lv_at hl 1 rfl) ?_
    refine cs_ild F St 1 0 rfl rfl (vp_in_iff.mpr ⟨by omega, by omega⟩) dX0_gotBack_12 ?_
    refine lv_topi (fun y_7 ey_7 => ?_)
    have gy_7 := congrArg Int32.toInt ey_7
    refine lv_goto (tgt := 17) hx hb dX0_gotBack_13 (by decide) ?_
    exact cs_iret F hr hlk hQ St () (r := y_7) ey_7 [0, 1] rfl (by decide) [] rfl (by decide) (by decide) dX0_gotBack_17
  ·
    exact False.elim (by omega)
set_option maxHeartbeats 4000000 in
set_option maxRecDepth 100000 in
theorem e0_ofStone (l : Launch) (G : va_G) (k : Nat → Nat) (sz : Nat) (h : Nat) (b0 : Nat) (b1 : Nat) (b2 : Nat) (b3 : Nat) (b4 : Nat) (b5 : Nat) (e5 : ClassId) (f5 : Nat → Int32) (x : Int32) (hxx : 0 ≤ x.toInt ∧ x.toInt ≤ 29) : Met l yX0_ofStone (Cond.code yX0_ofStone cX0_ofStone 2 (some .int) :: tb) ({ frames := 0, cells := 0, slots := 0, locals := 0 } : Room) (va_Pc [.ref h, .int x] (cP G k [(qAAAAAA h 0 b0 b1 b2 b3 b4 b5), (qarI b5 e5 30 f5)] [(e5, .int)] sz)) (va_Qi (fun (r : Int32) (_ : Unit) => (r = f5 x.toNatClampNeg)) (cB G (fun (_ : Unit) => [(qAAAAAA h 0 b0 b1 b2 b3 b4 b5), (qarI b5 e5 30 f5)]) (fun (_ : Unit) => []) (va_A [(qAAAAAA h 0 b0 b1 b2 b3 b4 b5), (qarI b5 e5 30 f5)] sz)) (va_A [(qAAAAAA h 0 b0 b1 b2 b3 b4 b5), (qarI b5 e5 30 f5)] sz)) 0 0 (va_A [(qAAAAAA h 0 b0 b1 b2 b3 b4 b5), (qarI b5 e5 30 f5)] sz) := by
  refine ofC_i (cc := cX0_ofStone) (maxL := 2) (ret := (some .int)) (by decide) rfl (Nat.le_of_ble_eq_true rfl) ?_
  intro p e s m args below meth c A ls Q F hr hin hlk St hl hQ
  have hx := F.1
  have hb := F.2.1
  have hl : lv_has ls 2 [(0, .ref h), (1, .int x)] := hl
  have St : cS G k [(qAAAAAA h 0 b0 b1 b2 b3 b4 b5), (qarI b5 e5 30 f5)] [(e5, .int)] A s s.heap [] := St
  have y0 : (0 : Int32).toInt = 0 := by decide
  refine lv_iload_n hx hb dX0_ofStone_0 rfl (lv_at hl 1 rfl) ?_
  refine lv_if_lt (tgt := 19) hx hb dX0_ofStone_1 (by decide) (fun c1 => ?_) (fun c1 => ?_)
  · have i1 := ci_lt (x := x) (y := 0) rfl (show (0 : Int32).toInt = 0 by decide) c1; exact False.elim (by omega)
  have i1 := ci_nlt (x := x) (y := 0) rfl (show (0 : Int32).toInt = 0 by decide) c1
  refine lv_iload_n hx hb dX0_ofStone_4 rfl (lv_at hl 1 rfl) ?_
  refine lv_bipush (v := 30) hx hb dX0_ofStone_5 (by decide) ?_
  refine lv_icmp_ge (tgt := 19) hx hb dX0_ofStone_7 (by decide) (fun c7 => ?_) (fun c7 => ?_)
  · have i7 := ci_le (x := 30) (y := x) (show (30 : Int32).toInt = 30 by decide) rfl c7; exact False.elim (by omega)
  have i7 := ci_nle (x := 30) (y := x) (show (30 : Int32).toInt = 30 by decide) rfl c7
  refine lv_aload_n hx hb dX0_ofStone_10 rfl (lv_at hl 0 rfl) ?_
  refine cs_get F St 0 rfl rfl inX0 5 (by decide) kf_X0_28 rfl dX0_ofStone_11 ?_
  refine lv_iload_n hx hb dX0_ofStone_14 rfl (lv_at hl 1 rfl) ?_
  refine cs_ild F St 1 0 rfl rfl (vp_in_iff.mpr ⟨by omega, by omega⟩) dX0_ofStone_15 ?_
  refine lv_topi (fun y_1 ey_1 => ?_)
  have gy_1 := congrArg Int32.toInt ey_1
  refine lv_goto (tgt := 20) hx hb dX0_ofStone_16 (by decide) ?_
  exact cs_iret F hr hlk hQ St () (r := y_1) ey_1 [0, 1] rfl (by decide) [] rfl (by decide) (by decide) dX0_ofStone_20

