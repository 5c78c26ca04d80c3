set_option maxHeartbeats 4000000 in
set_option maxRecDepth 100000 in
theorem x_nameless (l : Launch) (G : va_G) (k : Nat → Nat) (sz : Nat) (h : Nat) (a : Nat → Nat) (d : Nat → ClassId) (cl : Int32) (sp : Int32) (g2 : Nat → Int32) (x1 : Int32) (x2 : Int32) : Met l yX10_nameless (Cond.code yX10_nameless cX10_nameless 3 (some .int) :: tb) ({ frames := 2, cells := 0, slots := 0, locals := 42 } : Room) (va_Pc [.ref h, .int x1, .int x2] (cP G k [(h, .inr (10, [.ref (a 0), .ref (a 2), .ref (a 6), .ref (a 8), .ref (a 15), .ref (a 17), .ref (a 22), .ref (a 23), .int cl, .int sp])), ((a 8), .inr (0, [.ref (a 9), .ref (a 10), .ref (a 11), .ref (a 12), .ref (a 13), .ref (a 14)])), ((a 11), .inl ((d 6), 30, .inl g2))] [((d 6), .boolean)] sz)) (va_Qi (fun (r : Int32) (z2 : (Nat → Int32)) => ((r = (-2) ∧ ¬ (0 ≤ x1.toInt ∧ x1.toInt ≤ 29) ∧ z2 = g2) ∨ (r = (-4) ∧ (0 ≤ x1.toInt ∧ x1.toInt ≤ 29) ∧ ¬ sp.toInt = 0 ∧ z2 = g2) ∨ (r = 1 ∧ (0 ≤ x1.toInt ∧ x1.toInt ≤ 29) ∧ sp.toInt = 0 ∧ z2 = upd g2 x1.toNatClampNeg (vp_nar .boolean x2) ∧ ¬ g2 x1.toNatClampNeg = x2) ∨ (r = 0 ∧ (0 ≤ x1.toInt ∧ x1.toInt ≤ 29) ∧ sp.toInt = 0 ∧ z2 = g2 ∧ g2 x1.toNatClampNeg = x2))) (cB G (fun (z2 : (Nat → Int32)) => [(h, .inr (10, [.ref (a 0), .ref (a 2), .ref (a 6), .ref (a 8), .ref (a 15), .ref (a 17), .ref (a 22), .ref (a 23), .int cl, .int sp])), ((a 8), .inr (0, [.ref (a 9), .ref (a 10), .ref (a 11), .ref (a 12), .ref (a 13), .ref (a 14)])), ((a 11), .inl ((d 6), 30, .inl z2))]) (fun (z2 : (Nat → Int32)) => []) (va_A [(h, .inr (10, [.ref (a 0), .ref (a 2), .ref (a 6), .ref (a 8), .ref (a 15), .ref (a 17), .ref (a 22), .ref (a 23), .int cl, .int sp])), ((a 8), .inr (0, [.ref (a 9), .ref (a 10), .ref (a 11), .ref (a 12), .ref (a 13), .ref (a 14)])), ((a 11), .inl ((d 6), 30, .inl g2))] sz)) (va_A [(h, .inr (10, [.ref (a 0), .ref (a 2), .ref (a 6), .ref (a 8), .ref (a 15), .ref (a 17), .ref (a 22), .ref (a 23), .int cl, .int sp])), ((a 8), .inr (0, [.ref (a 9), .ref (a 10), .ref (a 11), .ref (a 12), .ref (a 13), .ref (a 14)])), ((a 11), .inl ((d 6), 30, .inl g2))] sz)) 0 0 (va_A [(h, .inr (10, [.ref (a 0), .ref (a 2), .ref (a 6), .ref (a 8), .ref (a 15), .ref (a 17), .ref (a 22), .ref (a 23), .int cl, .int sp])), ((a 8), .inr (0, [.ref (a 9), .ref (a 10), .ref (a 11), .ref (a 12), .ref (a 13), .ref (a 14)])), ((a 11), .inl ((d 6), 30, .inl g2))] sz) := by
  refine ofC_i (cc := cX10_nameless) (maxL := 3) (ret := (some .int)) (by decide) rfl (Nat.le_of_ble_eq_true rfl) ?_
  intro p e s m args below meth c A ls Q F hr hin hlk St hl hQ
  have hx := F.1
  have hb := F.2.1
  have hl : lv_has ls 3 [(0, .ref h), (1, .int x1), (2, .int x2)] := hl
  have St : cS G k [(h, .inr (10, [.ref (a 0), .ref (a 2), .ref (a 6), .ref (a 8), .ref (a 15), .ref (a 17), .ref (a 22), .ref (a 23), .int cl, .int sp])), ((a 8), .inr (0, [.ref (a 9), .ref (a 10), .ref (a 11), .ref (a 12), .ref (a 13), .ref (a 14)])), ((a 11), .inl ((d 6), 30, .inl g2))] [((d 6), .boolean)] A s s.heap [] := St
  have y0 : (0 : Int32).toInt = 0 := by decide
  skip
  refine lv_iload_n hx hb dX10_nameless_0 rfl (lv_at hl 1 rfl) ?_
  refine cs_i St [] [0, 1, 2] (wc := []) (wr := [(h, .inr (10, [.ref (a 0), .ref (a 2), .ref (a 6), .ref (a 8), .ref (a 15), .ref (a 17), .ref (a 22), .ref (a 23), .int cl, .int sp])), ((a 8), .inr (0, [.ref (a 9), .ref (a 10), .ref (a 11), .ref (a 12), .ref (a 13), .ref (a 14)])), ((a 11), .inl ((d 6), 30, .inl g2))]) rfl rfl (by decide) (by decide) (va_runS (As := [.int x1]) (rest := []) F (x10_isGiver l G k _ x1) (cwSt F mf_X10_isGiver km_X10_102 rfl rfl ⟨Nat.le_of_ble_eq_true rfl, Nat.le_of_ble_eq_true rfl⟩) (cs_pre St [] rfl (by decide) [] rfl) rfl rfl hl.1 rfl (lv_room (Nat.le_of_ble_eq_true rfl)) dX10_nameless_1 ⟨Nat.le_of_ble_eq_true rfl, Nat.le_of_ble_eq_true rfl⟩) (fun r_1 u_2 H locs hw St => ?_)
  try dsimp only at hw
  rcases hw with ⟨z_3, hf_4⟩ | ⟨z_5, hf_6⟩
  ·
    subst r_1
    have St : cS G k [(h, .inr (10, [.ref (a 0), .ref (a 2), .ref (a 6), .ref (a 8), .ref (a 15), .ref (a 17), .ref (a 22), .ref (a 23), .int cl, .int sp])), ((a 8), .inr (0, [.ref (a 9), .ref (a 10), .ref (a 11), .ref (a 12), .ref (a 13), .ref (a 14)])), ((a 11), .inl ((d 6), 30, .inl g2))] [((d 6), .boolean)] A s H locs := St
    refine lv_if_ne (tgt := 10) hx hb dX10_nameless_4 (by decide) (fun c4 => ?_) (fun c4 => ?_)
    rotate_left
    · exact absurd c4 (by decide)
    refine lv_aload_n hx hb dX10_nameless_10 rfl (lv_at hl 0 rfl) ?_
    refine cs_get F St 0 rfl rfl inX10 9 (by decide) kf_X10_106 rfl dX10_nameless_11 ?_
    refine lv_if_eq (tgt := 20) hx hb dX10_nameless_14 (by decide) (fun c14 => ?_) (fun c14 => ?_)
    ·
      have i14 := ci_eq (x := sp) (y := 0) rfl (show (0 : Int32).toInt = 0 by decide) c14
      refine lv_aload_n hx hb dX10_nameless_20 rfl (lv_at hl 0 rfl) ?_
      refine cs_get F St 0 rfl rfl inX10 3 (by decide) kf_X10_33 rfl dX10_nameless_21 ?_
      refine lv_iload_n hx hb dX10_nameless_24 rfl (lv_at hl 1 rfl) ?_
      refine lv_iload_n hx hb dX10_nameless_25 rfl (lv_at hl 2 rfl) ?_
      refine cs_i St [1, 2] [0] (wc := [((a 8), .inr (0, [.ref (a 9), .ref (a 10), .ref (a 11), .ref (a 12), .ref (a 13), .ref (a 14)])), ((a 11), .inl ((d 6), 30, .inl g2))]) (wr := [(h, .inr (10, [.ref (a 0), .ref (a 2), .ref (a 6), .ref (a 8), .ref (a 15), .ref (a 17), .ref (a 22), .ref (a 23), .int cl, .int sp]))]) rfl rfl (by decide) (by decide) (va_runV (As := [.int x1, .int x2]) (rest := []) F (x0_setWithoutName l G k _ (a 8) (a 9) (a 10) (a 11) (a 12) (a 13) (a 14) (d 6) g2 x1 x2) (cwVt F mf_X0_setWithoutName km_X10_114 rfl rfl ⟨Nat.le_of_ble_eq_true rfl, Nat.le_of_ble_eq_true rfl⟩) (cs_preV St [1, 2] rfl (by decide) [0] rfl (ci := 0) (q0 := 1) rfl rfl) rfl rfl hl.1 rfl (lv_room (Nat.le_of_ble_eq_true rfl)) dX10_nameless_26 ⟨Nat.le_of_ble_eq_true rfl, Nat.le_of_ble_eq_true rfl⟩) (fun r_7 u_8 H locs hw St => ?_)
      obtain ⟨z2_9, rfl⟩ : ∃ z, z = u_8 := ⟨_, rfl⟩
      try dsimp only at hw
      rcases hw with ⟨z_10, hf_11, hg_12⟩ | ⟨z_13, hf_14, hg_15, hh_16⟩ | ⟨z_17, hf_18, hg_19, hh_20⟩
      ·
        exact False.elim (by omega)
      ·
        subst r_7
        have St : cS G k [(h, .inr (10, [.ref (a 0), .ref (a 2), .ref (a 6), .ref (a 8), .ref (a 15), .ref (a 17), .ref (a 22), .ref (a 23), .int cl, .int sp])), ((a 8), .inr (0, [.ref (a 9), .ref (a 10), .ref (a 11), .ref (a 12), .ref (a 13), .ref (a 14)])), ((a 11), .inl ((d 6), 30, .inl z2_9))] [((d 6), .boolean)] A s H locs := St
        refine lv_if_eq (tgt := 36) hx hb dX10_nameless_29 (by decide) (fun c29 => ?_) (fun c29 => ?_)
        rotate_left
        · exact absurd (by decide) c29
        refine lv_iconst (v := 0) hx hb dX10_nameless_36 (by decide) ?_
        exact cs_iret F hr hlk hQ St z2_9 (r := 0) (Or.inr (Or.inr (Or.inr ⟨rfl, by omega, by omega, hg_15, hh_16⟩))) [0, 1, 2] rfl (by decide) [] rfl (by decide) (by decide) dX10_nameless_37
      ·
        subst r_7
        have St : cS G k [(h, .inr (10, [.ref (a 0), .ref (a 2), .ref (a 6), .ref (a 8), .ref (a 15), .ref (a 17), .ref (a 22), .ref (a 23), .int cl, .int sp])), ((a 8), .inr (0, [.ref (a 9), .ref (a 10), .ref (a 11), .ref (a 12), .ref (a 13), .ref (a 14)])), ((a 11), .inl ((d 6), 30, .inl z2_9))] [((d 6), .boolean)] A s H locs := St
        refine lv_if_eq (tgt := 36) hx hb dX10_nameless_29 (by decide) (fun c29 => ?_) (fun c29 => ?_)
        · exact absurd c29 (by decide)
        refine lv_iconst (v := 1) hx hb dX10_nameless_32 (by decide) ?_
        refine lv_goto (tgt := 37) hx hb dX10_nameless_33 (by decide) ?_
        exact cs_iret F hr hlk hQ St z2_9 (r := 1) (Or.inr (Or.inr (Or.inl ⟨rfl, by omega, by omega, hg_19, hh_20⟩))) [0, 1, 2] rfl (by decide) [] rfl (by decide) (by decide) dX10_nameless_37
    ·
      have i14 := ci_ne (x := sp) (y := 0) rfl (show (0 : Int32).toInt = 0 by decide) c14
      refine lv_bipush (v := (-4)) hx hb dX10_nameless_17 (by decide) ?_
      exact cs_iret F hr hlk hQ St g2 (r := (-4)) (Or.inr (Or.inl ⟨rfl, by omega, by omega, rfl⟩)) [0, 1, 2] rfl (by decide) [] rfl (by decide) (by decide) dX10_nameless_19
  ·
    subst r_1
    have St : cS G k [(h, .inr (10, [.ref (a 0), .ref (a 2), .ref (a 6), .ref (a 8), .ref (a 15), .ref (a 17), .ref (a 22), .ref (a 23), .int cl, .int sp])), ((a 8), .inr (0, [.ref (a 9), .ref (a 10), .ref (a 11), .ref (a 12), .ref (a 13), .ref (a 14)])), ((a 11), .inl ((d 6), 30, .inl g2))] [((d 6), .boolean)] A s H locs := St
    refine lv_if_ne (tgt := 10) hx hb dX10_nameless_4 (by decide) (fun c4 => ?_) (fun c4 => ?_)
    · exact absurd c4 (by decide)
    refine lv_bipush (v := (-2)) hx hb dX10_nameless_7 (by decide) ?_
    exact cs_iret F hr hlk hQ St g2 (r := (-2)) (Or.inl ⟨rfl, by omega, rfl⟩) [0, 1, 2] rfl (by decide) [] rfl (by decide) (by decide) dX10_nameless_9
set_option maxHeartbeats 4000000 in
set_option maxRecDepth 100000 in
theorem x_giver (l : Launch) (G : va_G) (k : Nat → Nat) (sz : Nat) (h : Nat) (a : Nat → Nat) (d : Nat → ClassId) (cl : Int32) (sp : Int32) (sn : Int32) (st : Int64) (u0 : Nat → Int32) (u1 : Nat → Int32) (u3 : Nat → Int32) (g0 : Nat → Int32) (g1 : Nat → Int32) (g2 : Nat → Int32) (x1 : Int32) (x2 : Int32) : Met l yX10_giver (Cond.code yX10_giver cX10_giver 3 (some .int) :: tb) ({ frames := 2, cells := 0, slots := 0, locals := 41 } : Room) (va_Pc [.ref h, .int x1, .int x2] (cP G k [(h, .inr (10, [.ref (a 0), .ref (a 2), .ref (a 6), .ref (a 8), .ref (a 15), .ref (a 17), .ref (a 22), .ref (a 23), .int cl, .int sp])), ((a 17), .inr (5, [.ref (a 18), .ref (a 19), .ref (a 20), .ref (a 21), .int sn, .long st])), ((a 18), .inl ((d 11), 250, .inl u0)), ((a 19), .inl ((d 12), 250, .inl u1)), ((a 21), .inl ((d 14), 250, .inl u3)), ((a 8), .inr (0, [.ref (a 9), .ref (a 10), .ref (a 11), .ref (a 12), .ref (a 13), .ref (a 14)])), ((a 9), .inl ((d 4), 30, .inl g0)), ((a 10), .inl ((d 5), 30, .inl g1)), ((a 11), .inl ((d 6), 30, .inl g2))] [((d 11), .int), ((d 12), .int), ((d 14), .boolean), ((d 4), .int), ((d 5), .int), ((d 6), .boolean)] sz)) (va_Qi (fun (r : Int32) (_ : Unit) => True) (cB G (fun (_ : Unit) => [(h, .inr (10, [.ref (a 0), .ref (a 2), .ref (a 6), .ref (a 8), .ref (a 15), .ref (a 17), .ref (a 22), .ref (a 23), .int cl, .int sp])), ((a 17), .inr (5, [.ref (a 18), .ref (a 19), .ref (a 20), .ref (a 21), .int sn, .long st])), ((a 18), .inl ((d 11), 250, .inl u0)), ((a 19), .inl ((d 12), 250, .inl u1)), ((a 21), .inl ((d 14), 250, .inl u3)), ((a 8), .inr (0, [.ref (a 9), .ref (a 10), .ref (a 11), .ref (a 12), .ref (a 13), .ref (a 14)])), ((a 9), .inl ((d 4), 30, .inl g0)), ((a 10), .inl ((d 5), 30, .inl g1)), ((a 11), .inl ((d 6), 30, .inl g2))]) (fun (_ : Unit) => []) (va_A [(h, .inr (10, [.ref (a 0), .ref (a 2), .ref (a 6), .ref (a 8), .ref (a 15), .ref (a 17), .ref (a 22), .ref (a 23), .int cl, .int sp])), ((a 17), .inr (5, [.ref (a 18), .ref (a 19), .ref (a 20), .ref (a 21), .int sn, .long st])), ((a 18), .inl ((d 11), 250, .inl u0)), ((a 19), .inl ((d 12), 250, .inl u1)), ((a 21), .inl ((d 14), 250, .inl u3)), ((a 8), .inr (0, [.ref (a 9), .ref (a 10), .ref (a 11), .ref (a 12), .ref (a 13), .ref (a 14)])), ((a 9), .inl ((d 4), 30, .inl g0)), ((a 10), .inl ((d 5), 30, .inl g1)), ((a 11), .inl ((d 6), 30, .inl g2))] sz)) (va_A [(h, .inr (10, [.ref (a 0), .ref (a 2), .ref (a 6), .ref (a 8), .ref (a 15), .ref (a 17), .ref (a 22), .ref (a 23), .int cl, .int sp])), ((a 17), .inr (5, [.ref (a 18), .ref (a 19), .ref (a 20), .ref (a 21), .int sn, .long st])), ((a 18), .inl ((d 11), 250, .inl u0)), ((a 19), .inl ((d 12), 250, .inl u1)), ((a 21), .inl ((d 14), 250, .inl u3)), ((a 8), .inr (0, [.ref (a 9), .ref (a 10), .ref (a 11), .ref (a 12), .ref (a 13), .ref (a 14)])), ((a 9), .inl ((d 4), 30, .inl g0)), ((a 10), .inl ((d 5), 30, .inl g1)), ((a 11), .inl ((d 6), 30, .inl g2))] sz)) 0 0 (va_A [(h, .inr (10, [.ref (a 0), .ref (a 2), .ref (a 6), .ref (a 8), .ref (a 15), .ref (a 17), .ref (a 22), .ref (a 23), .int cl, .int sp])), ((a 17), .inr (5, [.ref (a 18), .ref (a 19), .ref (a 20), .ref (a 21), .int sn, .long st])), ((a 18), .inl ((d 11), 250, .inl u0)), ((a 19), .inl ((d 12), 250, .inl u1)), ((a 21), .inl ((d 14), 250, .inl u3)), ((a 8), .inr (0, [.ref (a 9), .ref (a 10), .ref (a 11), .ref (a 12), .ref (a 13), .ref (a 14)])), ((a 9), .inl ((d 4), 30, .inl g0)), ((a 10), .inl ((d 5), 30, .inl g1)), ((a 11), .inl ((d 6), 30, .inl g2))] sz) := by
  refine ofC_i (cc := cX10_giver) (maxL := 3) (ret := (some .int)) (by decide) rfl (Nat.le_of_ble_eq_true rfl) ?_
  intro p e s m args below meth c A ls Q F hr hin hlk St hl hQ
  have hx := F.1
  have hb := F.2.1
  have hl : lv_has ls 3 [(0, .ref h), (1, .int x1), (2, .int x2)] := hl
  have St : cS G k [(h, .inr (10, [.ref (a 0), .ref (a 2), .ref (a 6), .ref (a 8), .ref (a 15), .ref (a 17), .ref (a 22), .ref (a 23), .int cl, .int sp])), ((a 17), .inr (5, [.ref (a 18), .ref (a 19), .ref (a 20), .ref (a 21), .int sn, .long st])), ((a 18), .inl ((d 11), 250, .inl u0)), ((a 19), .inl ((d 12), 250, .inl u1)), ((a 21), .inl ((d 14), 250, .inl u3)), ((a 8), .inr (0, [.ref (a 9), .ref (a 10), .ref (a 11), .ref (a 12), .ref (a 13), .ref (a 14)])), ((a 9), .inl ((d 4), 30, .inl g0)), ((a 10), .inl ((d 5), 30, .inl g1)), ((a 11), .inl ((d 6), 30, .inl g2))] [((d 11), .int), ((d 12), .int), ((d 14), .boolean), ((d 4), .int), ((d 5), .int), ((d 6), .boolean)] A s s.heap [] := St
  have y0 : (0 : Int32).toInt = 0 := by decide
  skip
  refine lv_iload_n hx hb dX10_giver_0 rfl (lv_at hl 1 rfl) ?_
  refine cs_i St [] [0, 1, 2, 3, 4, 5, 6, 7, 8] (wc := []) (wr := [(h, .inr (10, [.ref (a 0), .ref (a 2), .ref (a 6), .ref (a 8), .ref (a 15), .ref (a 17), .ref (a 22), .ref (a 23), .int cl, .int sp])), ((a 17), .inr (5, [.ref (a 18), .ref (a 19), .ref (a 20), .ref (a 21), .int sn, .long st])), ((a 18), .inl ((d 11), 250, .inl u0)), ((a 19), .inl ((d 12), 250, .inl u1)), ((a 21), .inl ((d 14), 250, .inl u3)), ((a 8), .inr (0, [.ref (a 9), .ref (a 10), .ref (a 11), .ref (a 12), .ref (a 13), .ref (a 14)])), ((a 9), .inl ((d 4), 30, .inl g0)), ((a 10), .inl ((d 5), 30, .inl g1)), ((a 11), .inl ((d 6), 30, .inl g2))]) rfl rfl (by decide) (by decide) (va_runS (As := [.int x1]) (rest := []) F (x10_isGiver l G k _ x1) (cwSt F mf_X10_isGiver km_X10_102 rfl rfl ⟨Nat.le_of_ble_eq_true rfl, Nat.le_of_ble_eq_true rfl⟩) (cs_pre St [] rfl (by decide) [] rfl) rfl rfl hl.1 rfl (lv_room (Nat.le_of_ble_eq_true rfl)) dX10_giver_1 ⟨Nat.le_of_ble_eq_true rfl, Nat.le_of_ble_eq_true rfl⟩) (fun r_1 u_2 H locs hw St => ?_)
  try dsimp only at hw
  rcases hw with ⟨z_3, hf_4⟩ | ⟨z_5, hf_6⟩
  ·
    subst r_1
    have St : cS G k [(h, .inr (10, [.ref (a 0), .ref (a 2), .ref (a 6), .ref (a 8), .ref (a 15), .ref (a 17), .ref (a 22), .ref (a 23), .int cl, .int sp])), ((a 17), .inr (5, [.ref (a 18), .ref (a 19), .ref (a 20), .ref (a 21), .int sn, .long st])), ((a 18), .inl ((d 11), 250, .inl u0)), ((a 19), .inl ((d 12), 250, .inl u1)), ((a 21), .inl ((d 14), 250, .inl u3)), ((a 8), .inr (0, [.ref (a 9), .ref (a 10), .ref (a 11), .ref (a 12), .ref (a 13), .ref (a 14)])), ((a 9), .inl ((d 4), 30, .inl g0)), ((a 10), .inl ((d 5), 30, .inl g1)), ((a 11), .inl ((d 6), 30, .inl g2))] [((d 11), .int), ((d 12), .int), ((d 14), .boolean), ((d 4), .int), ((d 5), .int), ((d 6), .boolean)] A s H locs := St
    refine lv_if_eq (tgt := 16) hx hb dX10_giver_4 (by decide) (fun c4 => ?_) (fun c4 => ?_)
    · exact absurd c4 (by decide)
    refine lv_iload_n hx hb dX10_giver_7 rfl (lv_at hl 2 rfl) ?_
    refine lv_iconst (v := 0) hx hb dX10_giver_8 (by decide) ?_
    refine lv_iconst (v := 4) hx hb dX10_giver_9 (by decide) ?_
    refine cs_i St [] [0, 1, 2, 3, 4, 5, 6, 7, 8] (wc := []) (wr := [(h, .inr (10, [.ref (a 0), .ref (a 2), .ref (a 6), .ref (a 8), .ref (a 15), .ref (a 17), .ref (a 22), .ref (a 23), .int cl, .int sp])), ((a 17), .inr (5, [.ref (a 18), .ref (a 19), .ref (a 20), .ref (a 21), .int sn, .long st])), ((a 18), .inl ((d 11), 250, .inl u0)), ((a 19), .inl ((d 12), 250, .inl u1)), ((a 21), .inl ((d 14), 250, .inl u3)), ((a 8), .inr (0, [.ref (a 9), .ref (a 10), .ref (a 11), .ref (a 12), .ref (a 13), .ref (a 14)])), ((a 9), .inl ((d 4), 30, .inl g0)), ((a 10), .inl ((d 5), 30, .inl g1)), ((a 11), .inl ((d 6), 30, .inl g2))]) rfl rfl (by decide) (by decide) (va_runS (As := [.int x2, .int 0, .int 4]) (rest := []) F (x10_isWithin l G k _ x2 0 4 0 4 (by decide) (by decide)) (cwSt F mf_X10_isWithin km_X10_119 rfl rfl ⟨Nat.le_of_ble_eq_true rfl, Nat.le_of_ble_eq_true rfl⟩) (cs_pre St [] rfl (by decide) [] rfl) rfl rfl hl.1 rfl (lv_room (Nat.le_of_ble_eq_true rfl)) dX10_giver_10 ⟨Nat.le_of_ble_eq_true rfl, Nat.le_of_ble_eq_true rfl⟩) (fun r_7 u_8 H locs hw St => ?_)
    try dsimp only at hw
    rcases hw with ⟨z_9, hf_10⟩ | ⟨z_11, hf_12⟩
    ·
      subst r_7
      have St : cS G k [(h, .inr (10, [.ref (a 0), .ref (a 2), .ref (a 6), .ref (a 8), .ref (a 15), .ref (a 17), .ref (a 22), .ref (a 23), .int cl, .int sp])), ((a 17), .inr (5, [.ref (a 18), .ref (a 19), .ref (a 20), .ref (a 21), .int sn, .long st])), ((a 18), .inl ((d 11), 250, .inl u0)), ((a 19), .inl ((d 12), 250, .inl u1)), ((a 21), .inl ((d 14), 250, .inl u3)), ((a 8), .inr (0, [.ref (a 9), .ref (a 10), .ref (a 11), .ref (a 12), .ref (a 13), .ref (a 14)])), ((a 9), .inl ((d 4), 30, .inl g0)), ((a 10), .inl ((d 5), 30, .inl g1)), ((a 11), .inl ((d 6), 30, .inl g2))] [((d 11), .int), ((d 12), .int), ((d 14), .boolean), ((d 4), .int), ((d 5), .int), ((d 6), .boolean)] A s H locs := St
      refine lv_if_ne (tgt := 19) hx hb dX10_giver_13 (by decide) (fun c13 => ?_) (fun c13 => ?_)
      rotate_left
      · exact absurd c13 (by decide)
      refine lv_aload_n hx hb dX10_giver_19 rfl (lv_at hl 0 rfl) ?_
      refine cs_get F St 0 rfl rfl inX10 9 (by decide) kf_X10_106 rfl dX10_giver_20 ?_
      refine lv_if_eq (tgt := 29) hx hb dX10_giver_23 (by decide) (fun c23 => ?_) (fun c23 => ?_)
      ·
        have i23 := ci_eq (x := sp) (y := 0) rfl (show (0 : Int32).toInt = 0 by decide) c23
        refine lv_iload_n hx hb dX10_giver_29 rfl (lv_at hl 2 rfl) ?_
        by_cases w30_0 : x2 = 0
        ·
          subst w30_0
          refine lv_tableIn (tgt := 60) (off := 30) hx hb dX10_giver_30 (by decide) (by decide) (by decide) (by decide) ?_
          refine lv_aload_n hx hb dX10_giver_60 rfl (lv_at hl 0 rfl) ?_
          refine cs_get F St 0 rfl rfl inX10 5 (by decide) kf_X10_47 rfl dX10_giver_61 ?_
          refine lv_iload_n hx hb dX10_giver_64 rfl (lv_at hl 1 rfl) ?_
          refine cs_i St [1, 2, 3] [0, 4, 5, 6, 7, 8] (wc := [((a 17), .inr (5, [.ref (a 18), .ref (a 19), .ref (a 20), .ref (a 21), .int sn, .long st])), ((a 18), .inl ((d 11), 250, .inl u0)), ((a 19), .inl ((d 12), 250, .inl u1))]) (wr := [(h, .inr (10, [.ref (a 0), .ref (a 2), .ref (a 6), .ref (a 8), .ref (a 15), .ref (a 17), .ref (a 22), .ref (a 23), .int cl, .int sp])), ((a 21), .inl ((d 14), 250, .inl u3)), ((a 8), .inr (0, [.ref (a 9), .ref (a 10), .ref (a 11), .ref (a 12), .ref (a 13), .ref (a 14)])), ((a 9), .inl ((d 4), 30, .inl g0)), ((a 10), .inl ((d 5), 30, .inl g1)), ((a 11), .inl ((d 6), 30, .inl g2))]) rfl rfl (by decide) (by decide) (va_runV (As := [.int x1]) (rest := []) F (x5_givenBy l G k _ (a 17) (a 18) (a 19) (a 20) (a 21) sn st (d 11) (d 12) u0 u1 x1) (cwVt F mf_X5_givenBy km_X10_200 rfl rfl ⟨Nat.le_of_ble_eq_true rfl, Nat.le_of_ble_eq_true rfl⟩) (cs_preV St [1, 2, 3] rfl (by decide) [0, 1] rfl (ci := 5) (q0 := 1) rfl rfl) rfl rfl hl.1 rfl (lv_room (Nat.le_of_ble_eq_true rfl)) dX10_giver_65 ⟨Nat.le_of_ble_eq_true rfl, Nat.le_of_ble_eq_true rfl⟩) (fun r_13 u_14 H locs hw St => ?_)
          try dsimp only at hw
          have St : cS G k [(h, .inr (10, [.ref (a 0), .ref (a 2), .ref (a 6), .ref (a 8), .ref (a 15), .ref (a 17), .ref (a 22), .ref (a 23), .int cl, .int sp])), ((a 21), .inl ((d 14), 250, .inl u3)), ((a 8), .inr (0, [.ref (a 9), .ref (a 10), .ref (a 11), .ref (a 12), .ref (a 13), .ref (a 14)])), ((a 9), .inl ((d 4), 30, .inl g0)), ((a 10), .inl ((d 5), 30, .inl g1)), ((a 11), .inl ((d 6), 30, .inl g2)), ((a 17), .inr (5, [.ref (a 18), .ref (a 19), .ref (a 20), .ref (a 21), .int sn, .long st])), ((a 18), .inl ((d 11), 250, .inl u0)), ((a 19), .inl ((d 12), 250, .inl u1))] [((d 11), .int), ((d 12), .int), ((d 14), .boolean), ((d 4), .int), ((d 5), .int), ((d 6), .boolean)] A s H locs := St
          exact cs_iret F hr hlk hQ St () (r := r_13) (by trivial) [0, 6, 7, 8, 1, 2, 3, 4, 5] rfl (by decide) [] rfl (by decide) (by decide) dX10_giver_68
        by_cases w30_1 : x2 = 1
        ·
          subst w30_1
          refine lv_tableIn (tgt := 69) (off := 39) hx hb dX10_giver_30 (by decide) (by decide) (by decide) (by decide) ?_
          refine lv_aload_n hx hb dX10_giver_69 rfl (lv_at hl 0 rfl) ?_
          refine cs_get F St 0 rfl rfl inX10 5 (by decide) kf_X10_47 rfl dX10_giver_70 ?_
          refine lv_iload_n hx hb dX10_giver_73 rfl (lv_at hl 1 rfl) ?_
          refine cs_i St [1, 2, 3, 4] [0, 5, 6, 7, 8] (wc := [((a 17), .inr (5, [.ref (a 18), .ref (a 19), .ref (a 20), .ref (a 21), .int sn, .long st])), ((a 18), .inl ((d 11), 250, .inl u0)), ((a 19), .inl ((d 12), 250, .inl u1)), ((a 21), .inl ((d 14), 250, .inl u3))]) (wr := [(h, .inr (10, [.ref (a 0), .ref (a 2), .ref (a 6), .ref (a 8), .ref (a 15), .ref (a 17), .ref (a 22), .ref (a 23), .int cl, .int sp])), ((a 8), .inr (0, [.ref (a 9), .ref (a 10), .ref (a 11), .ref (a 12), .ref (a 13), .ref (a 14)])), ((a 9), .inl ((d 4), 30, .inl g0)), ((a 10), .inl ((d 5), 30, .inl g1)), ((a 11), .inl ((d 6), 30, .inl g2))]) rfl rfl (by decide) (by decide) (va_runV (As := [.int x1]) (rest := []) F (x5_unclaimedOf l G k _ (a 17) (a 18) (a 19) (a 20) (a 21) sn st (d 11) (d 12) (d 14) u0 u1 u3 x1) (cwVt F mf_X5_unclaimedOf km_X10_203 rfl rfl ⟨Nat.le_of_ble_eq_true rfl, Nat.le_of_ble_eq_true rfl⟩) (cs_preV St [1, 2, 3, 4] rfl (by decide) [0, 1, 2] rfl (ci := 5) (q0 := 1) rfl rfl) rfl rfl hl.1 rfl (lv_room (Nat.le_of_ble_eq_true rfl)) dX10_giver_74 ⟨Nat.le_of_ble_eq_true rfl, Nat.le_of_ble_eq_true rfl⟩) (fun r_15 u_16 H locs hw St => ?_)
          try dsimp only at hw
          have St : cS G k [(h, .inr (10, [.ref (a 0), .ref (a 2), .ref (a 6), .ref (a 8), .ref (a 15), .ref (a 17), .ref (a 22), .ref (a 23), .int cl, .int sp])), ((a 8), .inr (0, [.ref (a 9), .ref (a 10), .ref (a 11), .ref (a 12), .ref (a 13), .ref (a 14)])), ((a 9), .inl ((d 4), 30, .inl g0)), ((a 10), .inl ((d 5), 30, .inl g1)), ((a 11), .inl ((d 6), 30, .inl g2)), ((a 17), .inr (5, [.ref (a 18), .ref (a 19), .ref (a 20), .ref (a 21), .int sn, .long st])), ((a 18), .inl ((d 11), 250, .inl u0)), ((a 19), .inl ((d 12), 250, .inl u1)), ((a 21), .inl ((d 14), 250, .inl u3))] [((d 11), .int), ((d 12), .int), ((d 14), .boolean), ((d 4), .int), ((d 5), .int), ((d 6), .boolean)] A s H locs := St
          exact cs_iret F hr hlk hQ St () (r := r_15) (by trivial) [0, 5, 6, 7, 8, 1, 2, 3, 4] rfl (by decide) [] rfl (by decide) (by decide) dX10_giver_77
        by_cases w30_2 : x2 = 2
        ·
          subst w30_2
          refine lv_tableIn (tgt := 78) (off := 48) hx hb dX10_giver_30 (by decide) (by decide) (by decide) (by decide) ?_
          refine lv_aload_n hx hb dX10_giver_78 rfl (lv_at hl 0 rfl) ?_
          refine cs_get F St 0 rfl rfl inX10 3 (by decide) kf_X10_33 rfl dX10_giver_79 ?_
          refine lv_iload_n hx hb dX10_giver_82 rfl (lv_at hl 1 rfl) ?_
          refine cs_i St [5, 6] [0, 1, 2, 3, 4, 7, 8] (wc := [((a 8), .inr (0, [.ref (a 9), .ref (a 10), .ref (a 11), .ref (a 12), .ref (a 13), .ref (a 14)])), ((a 9), .inl ((d 4), 30, .inl g0))]) (wr := [(h, .inr (10, [.ref (a 0), .ref (a 2), .ref (a 6), .ref (a 8), .ref (a 15), .ref (a 17), .ref (a 22), .ref (a 23), .int cl, .int sp])), ((a 17), .inr (5, [.ref (a 18), .ref (a 19), .ref (a 20), .ref (a 21), .int sn, .long st])), ((a 18), .inl ((d 11), 250, .inl u0)), ((a 19), .inl ((d 12), 250, .inl u1)), ((a 21), .inl ((d 14), 250, .inl u3)), ((a 10), .inl ((d 5), 30, .inl g1)), ((a 11), .inl ((d 6), 30, .inl g2))]) rfl rfl (by decide) (by decide) (va_runV (As := [.int x1]) (rest := []) F (x0_declaredFrom l G k _ (a 8) (a 9) (a 10) (a 11) (a 12) (a 13) (a 14) (d 4) g0 x1) (cwVt F mf_X0_declaredFrom km_X10_206 rfl rfl ⟨Nat.le_of_ble_eq_true rfl, Nat.le_of_ble_eq_true rfl⟩) (cs_preV St [5, 6] rfl (by decide) [3] rfl (ci := 0) (q0 := 5) rfl rfl) rfl rfl hl.1 rfl (lv_room (Nat.le_of_ble_eq_true rfl)) dX10_giver_83 ⟨Nat.le_of_ble_eq_true rfl, Nat.le_of_ble_eq_true rfl⟩) (fun r_17 u_18 H locs hw St => ?_)
          try dsimp only at hw
          have St : cS G k [(h, .inr (10, [.ref (a 0), .ref (a 2), .ref (a 6), .ref (a 8), .ref (a 15), .ref (a 17), .ref (a 22), .ref (a 23), .int cl, .int sp])), ((a 17), .inr (5, [.ref (a 18), .ref (a 19), .ref (a 20), .ref (a 21), .int sn, .long st])), ((a 18), .inl ((d 11), 250, .inl u0)), ((a 19), .inl ((d 12), 250, .inl u1)), ((a 21), .inl ((d 14), 250, .inl u3)), ((a 10), .inl ((d 5), 30, .inl g1)), ((a 11), .inl ((d 6), 30, .inl g2)), ((a 8), .inr (0, [.ref (a 9), .ref (a 10), .ref (a 11), .ref (a 12), .ref (a 13), .ref (a 14)])), ((a 9), .inl ((d 4), 30, .inl g0))] [((d 11), .int), ((d 12), .int), ((d 14), .boolean), ((d 4), .int), ((d 5), .int), ((d 6), .boolean)] A s H locs := St
          exact cs_iret F hr hlk hQ St () (r := r_17) (by trivial) [0, 1, 2, 3, 4, 7, 8, 5, 6] rfl (by decide) [] rfl (by decide) (by decide) dX10_giver_86
        by_cases w30_3 : x2 = 3
        ·
          subst w30_3
          refine lv_tableIn (tgt := 87) (off := 57) hx hb dX10_giver_30 (by decide) (by decide) (by decide) (by decide) ?_
          refine lv_aload_n hx hb dX10_giver_87 rfl (lv_at hl 0 rfl) ?_
          refine cs_get F St 0 rfl rfl inX10 3 (by decide) kf_X10_33 rfl dX10_giver_88 ?_
          refine lv_iload_n hx hb dX10_giver_91 rfl (lv_at hl 1 rfl) ?_
          refine cs_i St [5, 7] [0, 1, 2, 3, 4, 6, 8] (wc := [((a 8), .inr (0, [.ref (a 9), .ref (a 10), .ref (a 11), .ref (a 12), .ref (a 13), .ref (a 14)])), ((a 10), .inl ((d 5), 30, .inl g1))]) (wr := [(h, .inr (10, [.ref (a 0), .ref (a 2), .ref (a 6), .ref (a 8), .ref (a 15), .ref (a 17), .ref (a 22), .ref (a 23), .int cl, .int sp])), ((a 17), .inr (5, [.ref (a 18), .ref (a 19), .ref (a 20), .ref (a 21), .int sn, .long st])), ((a 18), .inl ((d 11), 250, .inl u0)), ((a 19), .inl ((d 12), 250, .inl u1)), ((a 21), .inl ((d 14), 250, .inl u3)), ((a 9), .inl ((d 4), 30, .inl g0)), ((a 11), .inl ((d 6), 30, .inl g2))]) rfl rfl (by decide) (by decide) (va_runV (As := [.int x1]) (rest := []) F (x0_declaredTo l G k _ (a 8) (a 9) (a 10) (a 11) (a 12) (a 13) (a 14) (d 5) g1 x1) (cwVt F mf_X0_declaredTo km_X10_209 rfl rfl ⟨Nat.le_of_ble_eq_true rfl, Nat.le_of_ble_eq_true rfl⟩) (cs_preV St [5, 7] rfl (by decide) [4] rfl (ci := 0) (q0 := 5) rfl rfl) rfl rfl hl.1 rfl (lv_room (Nat.le_of_ble_eq_true rfl)) dX10_giver_92 ⟨Nat.le_of_ble_eq_true rfl, Nat.le_of_ble_eq_true rfl⟩) (fun r_19 u_20 H locs hw St => ?_)
          try dsimp only at hw
          have St : cS G k [(h, .inr (10, [.ref (a 0), .ref (a 2), .ref (a 6), .ref (a 8), .ref (a 15), .ref (a 17), .ref (a 22), .ref (a 23), .int cl, .int sp])), ((a 17), .inr (5, [.ref (a 18), .ref (a 19), .ref (a 20), .ref (a 21), .int sn, .long st])), ((a 18), .inl ((d 11), 250, .inl u0)), ((a 19), .inl ((d 12), 250, .inl u1)), ((a 21), .inl ((d 14), 250, .inl u3)), ((a 9), .inl ((d 4), 30, .inl g0)), ((a 11), .inl ((d 6), 30, .inl g2)), ((a 8), .inr (0, [.ref (a 9), .ref (a 10), .ref (a 11), .ref (a 12), .ref (a 13), .ref (a 14)])), ((a 10), .inl ((d 5), 30, .inl g1))] [((d 11), .int), ((d 12), .int), ((d 14), .boolean), ((d 4), .int), ((d 5), .int), ((d 6), .boolean)] A s H locs := St
          exact cs_iret F hr hlk hQ St () (r := r_19) (by trivial) [0, 1, 2, 3, 4, 7, 5, 8, 6] rfl (by decide) [] rfl (by decide) (by decide) dX10_giver_95
        have iw30_0 := lv_neT w30_0 (show (0 : Int32).toInt = 0 by decide)
        have iw30_1 := lv_neT w30_1 (show (1 : Int32).toInt = 1 by decide)
        have iw30_2 := lv_neT w30_2 (show (2 : Int32).toInt = 2 by decide)
        have iw30_3 := lv_neT w30_3 (show (3 : Int32).toInt = 3 by decide)
        refine lv_tableOut (tgt := 96) hx hb dX10_giver_30 (by omega) (by decide) ?_
        refine lv_aload_n hx hb dX10_giver_96 rfl (lv_at hl 0 rfl) ?_
        refine cs_get F St 0 rfl rfl inX10 3 (by decide) kf_X10_33 rfl dX10_giver_97 ?_
        refine lv_iload_n hx hb dX10_giver_100 rfl (lv_at hl 1 rfl) ?_
        refine cs_i St [5, 8] [0, 1, 2, 3, 4, 6, 7] (wc := [((a 8), .inr (0, [.ref (a 9), .ref (a 10), .ref (a 11), .ref (a 12), .ref (a 13), .ref (a 14)])), ((a 11), .inl ((d 6), 30, .inl g2))]) (wr := [(h, .inr (10, [.ref (a 0), .ref (a 2), .ref (a 6), .ref (a 8), .ref (a 15), .ref (a 17), .ref (a 22), .ref (a 23), .int cl, .int sp])), ((a 17), .inr (5, [.ref (a 18), .ref (a 19), .ref (a 20), .ref (a 21), .int sn, .long st])), ((a 18), .inl ((d 11), 250, .inl u0)), ((a 19), .inl ((d 12), 250, .inl u1)), ((a 21), .inl ((d 14), 250, .inl u3)), ((a 9), .inl ((d 4), 30, .inl g0)), ((a 10), .inl ((d 5), 30, .inl g1))]) rfl rfl (by decide) (by decide) (va_runV (As := [.int x1]) (rest := []) F (x0_isWithoutName l G k _ (a 8) (a 9) (a 10) (a 11) (a 12) (a 13) (a 14) (d 6) g2 x1) (cwVt F mf_X0_isWithoutName km_X10_212 rfl rfl ⟨Nat.le_of_ble_eq_true rfl, Nat.le_of_ble_eq_true rfl⟩) (cs_preV St [5, 8] rfl (by decide) [5] rfl (ci := 0) (q0 := 5) rfl rfl) rfl rfl hl.1 rfl (lv_room (Nat.le_of_ble_eq_true rfl)) dX10_giver_101 ⟨Nat.le_of_ble_eq_true rfl, Nat.le_of_ble_eq_true rfl⟩) (fun r_21 u_22 H locs hw St => ?_)
        try dsimp only at hw
        rcases hw with z_23 | z_24
        ·
          subst r_21
          have St : cS G k [(h, .inr (10, [.ref (a 0), .ref (a 2), .ref (a 6), .ref (a 8), .ref (a 15), .ref (a 17), .ref (a 22), .ref (a 23), .int cl, .int sp])), ((a 17), .inr (5, [.ref (a 18), .ref (a 19), .ref (a 20), .ref (a 21), .int sn, .long st])), ((a 18), .inl ((d 11), 250, .inl u0)), ((a 19), .inl ((d 12), 250, .inl u1)), ((a 21), .inl ((d 14), 250, .inl u3)), ((a 9), .inl ((d 4), 30, .inl g0)), ((a 10), .inl ((d 5), 30, .inl g1)), ((a 8), .inr (0, [.ref (a 9), .ref (a 10), .ref (a 11), .ref (a 12), .ref (a 13), .ref (a 14)])), ((a 11), .inl ((d 6), 30, .inl g2))] [((d 11), .int), ((d 12), .int), ((d 14), .boolean), ((d 4), .int), ((d 5), .int), ((d 6), .boolean)] A s H locs := St
          refine lv_if_eq (tgt := 111) hx hb dX10_giver_104 (by decide) (fun c104 => ?_) (fun c104 => ?_)
          · exact absurd c104 (by decide)
          refine lv_iconst (v := 1) hx hb dX10_giver_107 (by decide) ?_
          refine lv_goto (tgt := 112) hx hb dX10_giver_108 (by decide) ?_
          exact cs_iret F hr hlk hQ St () (r := 1) (by trivial) [0, 1, 2, 3, 4, 7, 5, 6, 8] rfl (by decide) [] rfl (by decide) (by decide) dX10_giver_112
        ·
          subst r_21
          have St : cS G k [(h, .inr (10, [.ref (a 0), .ref (a 2), .ref (a 6), .ref (a 8), .ref (a 15), .ref (a 17), .ref (a 22), .ref (a 23), .int cl, .int sp])), ((a 17), .inr (5, [.ref (a 18), .ref (a 19), .ref (a 20), .ref (a 21), .int sn, .long st])), ((a 18), .inl ((d 11), 250, .inl u0)), ((a 19), .inl ((d 12), 250, .inl u1)), ((a 21), .inl ((d 14), 250, .inl u3)), ((a 9), .inl ((d 4), 30, .inl g0)), ((a 10), .inl ((d 5), 30, .inl g1)), ((a 8), .inr (0, [.ref (a 9), .ref (a 10), .ref (a 11), .ref (a 12), .ref (a 13), .ref (a 14)])), ((a 11), .inl ((d 6), 30, .inl g2))] [((d 11), .int), ((d 12), .int), ((d 14), .boolean), ((d 4), .int), ((d 5), .int), ((d 6), .boolean)] A s H locs := St
          refine lv_if_eq (tgt := 111) hx hb dX10_giver_104 (by decide) (fun c104 => ?_) (fun c104 => ?_)
          rotate_left
          · exact absurd (by decide) c104
          refine lv_iconst (v := 0) hx hb dX10_giver_111 (by decide) ?_
          exact cs_iret F hr hlk hQ St () (r := 0) (by trivial) [0, 1, 2, 3, 4, 7, 5, 6, 8] rfl (by decide) [] rfl (by decide) (by decide) dX10_giver_112
      ·
        have i23 := ci_ne (x := sp) (y := 0) rfl (show (0 : Int32).toInt = 0 by decide) c23
        refine lv_bipush (v := (-4)) hx hb dX10_giver_26 (by decide) ?_
        exact cs_iret F hr hlk hQ St () (r := (-4)) (by trivial) [0, 1, 2, 3, 4, 5, 6, 7, 8] rfl (by decide) [] rfl (by decide) (by decide) dX10_giver_28
    ·
      subst r_7
      have St : cS G k [(h, .inr (10, [.ref (a 0), .ref (a 2), .ref (a 6), .ref (a 8), .ref (a 15), .ref (a 17), .ref (a 22), .ref (a 23), .int cl, .int sp])), ((a 17), .inr (5, [.ref (a 18), .ref (a 19), .ref (a 20), .ref (a 21), .int sn, .long st])), ((a 18), .inl ((d 11), 250, .inl u0)), ((a 19), .inl ((d 12), 250, .inl u1)), ((a 21), .inl ((d 14), 250, .inl u3)), ((a 8), .inr (0, [.ref (a 9), .ref (a 10), .ref (a 11), .ref (a 12), .ref (a 13), .ref (a 14)])), ((a 9), .inl ((d 4), 30, .inl g0)), ((a 10), .inl ((d 5), 30, .inl g1)), ((a 11), .inl ((d 6), 30, .inl g2))] [((d 11), .int), ((d 12), .int), ((d 14), .boolean), ((d 4), .int), ((d 5), .int), ((d 6), .boolean)] A s H locs := St
      refine lv_if_ne (tgt := 19) hx hb dX10_giver_13 (by decide) (fun c13 => ?_) (fun c13 => ?_)
      · exact absurd c13 (by decide)
      refine lv_bipush (v := (-2)) hx hb dX10_giver_16 (by decide) ?_
      exact cs_iret F hr hlk hQ St () (r := (-2)) (by trivial) [0, 1, 2, 3, 4, 5, 6, 7, 8] rfl (by decide) [] rfl (by decide) (by decide) dX10_giver_18
  ·
    subst r_1
    have St : cS G k [(h, .inr (10, [.ref (a 0), .ref (a 2), .ref (a 6), .ref (a 8), .ref (a 15), .ref (a 17), .ref (a 22), .ref (a 23), .int cl, .int sp])), ((a 17), .inr (5, [.ref (a 18), .ref (a 19), .ref (a 20), .ref (a 21), .int sn, .long st])), ((a 18), .inl ((d 11), 250, .inl u0)), ((a 19), .inl ((d 12), 250, .inl u1)), ((a 21), .inl ((d 14), 250, .inl u3)), ((a 8), .inr (0, [.ref (a 9), .ref (a 10), .ref (a 11), .ref (a 12), .ref (a 13), .ref (a 14)])), ((a 9), .inl ((d 4), 30, .inl g0)), ((a 10), .inl ((d 5), 30, .inl g1)), ((a 11), .inl ((d 6), 30, .inl g2))] [((d 11), .int), ((d 12), .int), ((d 14), .boolean), ((d 4), .int), ((d 5), .int), ((d 6), .boolean)] A s H locs := St
    refine lv_if_eq (tgt := 16) hx hb dX10_giver_4 (by decide) (fun c4 => ?_) (fun c4 => ?_)
    rotate_left
    · exact absurd (by decide) c4
    refine lv_bipush (v := (-2)) hx hb dX10_giver_16 (by decide) ?_
    exact cs_iret F hr hlk hQ St () (r := (-2)) (by trivial) [0, 1, 2, 3, 4, 5, 6, 7, 8] rfl (by decide) [] rfl (by decide) (by decide) dX10_giver_18

