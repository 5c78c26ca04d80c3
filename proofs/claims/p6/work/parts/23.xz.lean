set_option maxHeartbeats 4000000 in
set_option maxRecDepth 100000 in
theorem x_end (l : Launch) (G : va_G) (k : Nat → Nat) (sz : Nat) (h : Nat) (a : Nat → Nat) (d : Nat → ClassId) (cl : Int32) (sp : Int32) (nn : Int32) (x1 : Int32) : Met l yX10_end (Cond.code yX10_end cX10_end 2 (some .int) :: tb) ({ frames := 1, cells := 0, slots := 0, locals := 21 } : Room) (va_Pc [.ref h, .int x1] (cP G k [(h, .inr (10, [.ref (a 0), .ref (a 2), .ref (a 6), .ref (a 8), .ref (a 15), .ref (a 17), .ref (a 22), .ref (a 23), .int cl, .int sp])), ((a 0), .inr (6, [.ref (a 1), .int nn]))] [] sz)) (va_Qi (fun (r : Int32) (n2 : Int32) => ((r = (-1) ∧ n2 = nn ∧ ¬ (0 ≤ x1.toInt ∧ x1.toInt ≤ nn.toInt)) ∨ (r = x1 ∧ n2 = x1 ∧ 0 ≤ x1.toInt ∧ x1.toInt ≤ nn.toInt))) (cB G (fun (n2 : Int32) => [(h, .inr (10, [.ref (a 0), .ref (a 2), .ref (a 6), .ref (a 8), .ref (a 15), .ref (a 17), .ref (a 22), .ref (a 23), .int cl, .int sp])), ((a 0), .inr (6, [.ref (a 1), .int n2]))]) (fun (n2 : Int32) => []) (va_A [(h, .inr (10, [.ref (a 0), .ref (a 2), .ref (a 6), .ref (a 8), .ref (a 15), .ref (a 17), .ref (a 22), .ref (a 23), .int cl, .int sp])), ((a 0), .inr (6, [.ref (a 1), .int nn]))] sz)) (va_A [(h, .inr (10, [.ref (a 0), .ref (a 2), .ref (a 6), .ref (a 8), .ref (a 15), .ref (a 17), .ref (a 22), .ref (a 23), .int cl, .int sp])), ((a 0), .inr (6, [.ref (a 1), .int nn]))] sz)) 0 0 (va_A [(h, .inr (10, [.ref (a 0), .ref (a 2), .ref (a 6), .ref (a 8), .ref (a 15), .ref (a 17), .ref (a 22), .ref (a 23), .int cl, .int sp])), ((a 0), .inr (6, [.ref (a 1), .int nn]))] sz) := by
  refine ofC_i (cc := cX10_end) (maxL := 2) (ret := (some .int)) (by decide) rfl (Nat.le_of_ble_eq_true rfl) ?_
  intro p e s m args below meth c A ls Q F hr hin hlk St hl hQ
  have hx := F.1
  have hb := F.2.1
  have hl : lv_has ls 2 [(0, .ref h), (1, .int x1)] := hl
  have St : cS G k [(h, .inr (10, [.ref (a 0), .ref (a 2), .ref (a 6), .ref (a 8), .ref (a 15), .ref (a 17), .ref (a 22), .ref (a 23), .int cl, .int sp])), ((a 0), .inr (6, [.ref (a 1), .int nn]))] [] A s s.heap [] := St
  have y0 : (0 : Int32).toInt = 0 := by decide
  skip
  refine lv_iload_n hx hb dX10_end_0 rfl (lv_at hl 1 rfl) ?_
  refine lv_if_lt (tgt := 15) hx hb dX10_end_1 (by decide) (fun c1 => ?_) (fun c1 => ?_)
  ·
    have i1 := ci_lt (x := x1) (y := 0) rfl (show (0 : Int32).toInt = 0 by decide) c1
    refine lv_iconst (v := (-1)) hx hb dX10_end_15 (by decide) ?_
    exact cs_iret F hr hlk hQ St nn (r := (-1)) (Or.inl ⟨rfl, rfl, by omega⟩) [0, 1] rfl (by decide) [] rfl (by decide) (by decide) dX10_end_16
  ·
    have i1 := ci_nlt (x := x1) (y := 0) rfl (show (0 : Int32).toInt = 0 by decide) c1
    refine lv_iload_n hx hb dX10_end_4 rfl (lv_at hl 1 rfl) ?_
    refine lv_aload_n hx hb dX10_end_5 rfl (lv_at hl 0 rfl) ?_
    refine cs_get F St 0 rfl rfl inX10 0 (by decide) kf_X10_10 rfl dX10_end_6 ?_
    refine cs_i St [1] [0] (wc := [((a 0), .inr (6, [.ref (a 1), .int nn]))]) (wr := [(h, .inr (10, [.ref (a 0), .ref (a 2), .ref (a 6), .ref (a 8), .ref (a 15), .ref (a 17), .ref (a 22), .ref (a 23), .int cl, .int sp]))]) rfl rfl (by decide) (by decide) (va_runV (As := []) (rest := [.int x1]) F (x6_length l G k _ (a 0) (a 1) nn) (cwVt F mf_X6_length km_X10_73 rfl rfl ⟨Nat.le_of_ble_eq_true rfl, Nat.le_of_ble_eq_true rfl⟩) (cs_preV St [1] rfl (by decide) [] rfl (ci := 6) (q0 := 1) rfl rfl) rfl rfl hl.1 rfl (lv_room (Nat.le_of_ble_eq_true rfl)) dX10_end_9 ⟨Nat.le_of_ble_eq_true rfl, Nat.le_of_ble_eq_true rfl⟩) (fun r_1 u_2 H locs hw St => ?_)
    try dsimp only at hw
    have z_3 := hw
    subst r_1
    have St : cS G k [(h, .inr (10, [.ref (a 0), .ref (a 2), .ref (a 6), .ref (a 8), .ref (a 15), .ref (a 17), .ref (a 22), .ref (a 23), .int cl, .int sp])), ((a 0), .inr (6, [.ref (a 1), .int nn]))] [] A s H locs := St
    refine lv_icmp_le (tgt := 17) hx hb dX10_end_12 (by decide) (fun c12 => ?_) (fun c12 => ?_)
    ·
      have i12 := ci_le (x := x1) (y := nn) rfl rfl c12
      refine lv_aload_n hx hb dX10_end_17 rfl (lv_at hl 0 rfl) ?_
      refine cs_get F St 0 rfl rfl inX10 0 (by decide) kf_X10_10 rfl dX10_end_18 ?_
      refine lv_iload_n hx hb dX10_end_21 rfl (lv_at hl 1 rfl) ?_
      refine cs_v St [1] [0] (wc := [((a 0), .inr (6, [.ref (a 1), .int nn]))]) (wr := [(h, .inr (10, [.ref (a 0), .ref (a 2), .ref (a 6), .ref (a 8), .ref (a 15), .ref (a 17), .ref (a 22), .ref (a 23), .int cl, .int sp]))]) rfl rfl (by decide) (by decide) (va_runV (As := [.int x1]) (rest := []) F (x6_cutTo l G k _ (a 0) (a 1) nn x1) (cwVt F mf_X6_cutTo km_X10_77 rfl rfl ⟨Nat.le_of_ble_eq_true rfl, Nat.le_of_ble_eq_true rfl⟩) (cs_preV St [1] rfl (by decide) [] rfl (ci := 6) (q0 := 1) rfl rfl) rfl rfl hl.1 rfl (lv_room (Nat.le_of_ble_eq_true rfl)) dX10_end_22 ⟨Nat.le_of_ble_eq_true rfl, Nat.le_of_ble_eq_true rfl⟩) (fun u_5 H locs hw St => ?_)
      try dsimp only at hw
      have St : cS G k [(h, .inr (10, [.ref (a 0), .ref (a 2), .ref (a 6), .ref (a 8), .ref (a 15), .ref (a 17), .ref (a 22), .ref (a 23), .int cl, .int sp])), ((a 0), .inr (6, [.ref (a 1), .int x1]))] [] A s H locs := St
      refine lv_iload_n hx hb dX10_end_25 rfl (lv_at hl 1 rfl) ?_
      exact cs_iret F hr hlk hQ St x1 (r := x1) (Or.inr ⟨rfl, rfl, by omega⟩) [0, 1] rfl (by decide) [] rfl (by decide) (by decide) dX10_end_26
    ·
      have i12 := ci_nle (x := x1) (y := nn) rfl rfl c12
      refine lv_iconst (v := (-1)) hx hb dX10_end_15 (by decide) ?_
      exact cs_iret F hr hlk hQ St nn (r := (-1)) (Or.inl ⟨rfl, rfl, by omega⟩) [0, 1] rfl (by decide) [] rfl (by decide) (by decide) dX10_end_16
set_option maxHeartbeats 4000000 in
set_option maxRecDepth 100000 in
theorem x_declare (l : Launch) (G : va_G) (k : Nat → Nat) (sz : Nat) (h : Nat) (a : Nat → Nat) (d : Nat → ClassId) (cl : Int32) (sp : Int32) (g0 : Nat → Int32) (g1 : Nat → Int32) (x1 : Int32) (x2 : Int32) (x3 : Int32) : Met l yX10_declare (Cond.code yX10_declare cX10_declare 4 (some .int) :: tb) ({ frames := 2, cells := 0, slots := 0, locals := 43 } : Room) (va_Pc [.ref h, .int x1, .int x2, .int x3] (cP G k [(h, .inr (10, [.ref (a 0), .ref (a 2), .ref (a 6), .ref (a 8), .ref (a 15), .ref (a 17), .ref (a 22), .ref (a 23), .int cl, .int sp])), ((a 8), .inr (0, [.ref (a 9), .ref (a 10), .ref (a 11), .ref (a 12), .ref (a 13), .ref (a 14)])), ((a 9), .inl ((d 4), 30, .inl g0)), ((a 10), .inl ((d 5), 30, .inl g1))] [((d 4), .int), ((d 5), .int)] sz)) (va_Qi (fun (r : Int32) (u : (Nat → Int32) × (Nat → Int32)) => match u with | (z0, z1) => ((r = (-2) ∧ ¬ ((0 ≤ x1.toInt ∧ x1.toInt ≤ 29) ∧ 0 ≤ x2.toInt ∧ x2.toInt ≤ x3.toInt ∧ x3.toInt ≤ 119)) ∨ (r = (-4) ∧ ((0 ≤ x1.toInt ∧ x1.toInt ≤ 29) ∧ 0 ≤ x2.toInt ∧ x2.toInt ≤ x3.toInt ∧ x3.toInt ≤ 119) ∧ ¬ sp.toInt = 0) ∨ (r = 1 ∧ ((0 ≤ x1.toInt ∧ x1.toInt ≤ 29) ∧ 0 ≤ x2.toInt ∧ x2.toInt ≤ x3.toInt ∧ x3.toInt ≤ 119) ∧ sp.toInt = 0))) (cB G (fun u => match u with | (z0, z1) => [(h, .inr (10, [.ref (a 0), .ref (a 2), .ref (a 6), .ref (a 8), .ref (a 15), .ref (a 17), .ref (a 22), .ref (a 23), .int cl, .int sp])), ((a 8), .inr (0, [.ref (a 9), .ref (a 10), .ref (a 11), .ref (a 12), .ref (a 13), .ref (a 14)])), ((a 9), .inl ((d 4), 30, .inl z0)), ((a 10), .inl ((d 5), 30, .inl z1))]) (fun u => match u with | (z0, z1) => []) (va_A [(h, .inr (10, [.ref (a 0), .ref (a 2), .ref (a 6), .ref (a 8), .ref (a 15), .ref (a 17), .ref (a 22), .ref (a 23), .int cl, .int sp])), ((a 8), .inr (0, [.ref (a 9), .ref (a 10), .ref (a 11), .ref (a 12), .ref (a 13), .ref (a 14)])), ((a 9), .inl ((d 4), 30, .inl g0)), ((a 10), .inl ((d 5), 30, .inl g1))] sz)) (va_A [(h, .inr (10, [.ref (a 0), .ref (a 2), .ref (a 6), .ref (a 8), .ref (a 15), .ref (a 17), .ref (a 22), .ref (a 23), .int cl, .int sp])), ((a 8), .inr (0, [.ref (a 9), .ref (a 10), .ref (a 11), .ref (a 12), .ref (a 13), .ref (a 14)])), ((a 9), .inl ((d 4), 30, .inl g0)), ((a 10), .inl ((d 5), 30, .inl g1))] sz)) 0 0 (va_A [(h, .inr (10, [.ref (a 0), .ref (a 2), .ref (a 6), .ref (a 8), .ref (a 15), .ref (a 17), .ref (a 22), .ref (a 23), .int cl, .int sp])), ((a 8), .inr (0, [.ref (a 9), .ref (a 10), .ref (a 11), .ref (a 12), .ref (a 13), .ref (a 14)])), ((a 9), .inl ((d 4), 30, .inl g0)), ((a 10), .inl ((d 5), 30, .inl g1))] sz) := by
  refine ofC_i (cc := cX10_declare) (maxL := 4) (ret := (some .int)) (by decide) rfl (Nat.le_of_ble_eq_true rfl) ?_
  intro p e s m args below meth c A ls Q F hr hin hlk St hl hQ
  have hx := F.1
  have hb := F.2.1
  have hl : lv_has ls 4 [(0, .ref h), (1, .int x1), (2, .int x2), (3, .int x3)] := hl
  have St : cS G k [(h, .inr (10, [.ref (a 0), .ref (a 2), .ref (a 6), .ref (a 8), .ref (a 15), .ref (a 17), .ref (a 22), .ref (a 23), .int cl, .int sp])), ((a 8), .inr (0, [.ref (a 9), .ref (a 10), .ref (a 11), .ref (a 12), .ref (a 13), .ref (a 14)])), ((a 9), .inl ((d 4), 30, .inl g0)), ((a 10), .inl ((d 5), 30, .inl g1))] [((d 4), .int), ((d 5), .int)] A s s.heap [] := St
  have y0 : (0 : Int32).toInt = 0 := by decide
  skip
  refine lv_iload_n hx hb dX10_declare_0 rfl (lv_at hl 1 rfl) ?_
  refine cs_i St [] [0, 1, 2, 3] (wc := []) (wr := [(h, .inr (10, [.ref (a 0), .ref (a 2), .ref (a 6), .ref (a 8), .ref (a 15), .ref (a 17), .ref (a 22), .ref (a 23), .int cl, .int sp])), ((a 8), .inr (0, [.ref (a 9), .ref (a 10), .ref (a 11), .ref (a 12), .ref (a 13), .ref (a 14)])), ((a 9), .inl ((d 4), 30, .inl g0)), ((a 10), .inl ((d 5), 30, .inl g1))]) rfl rfl (by decide) (by decide) (va_runS (As := [.int x1]) (rest := []) F (x10_isGiver l G k _ x1) (cwSt F mf_X10_isGiver km_X10_102 rfl rfl ⟨Nat.le_of_ble_eq_true rfl, Nat.le_of_ble_eq_true rfl⟩) (cs_pre St [] rfl (by decide) [] rfl) rfl rfl hl.1 rfl (lv_room (Nat.le_of_ble_eq_true rfl)) dX10_declare_1 ⟨Nat.le_of_ble_eq_true rfl, Nat.le_of_ble_eq_true rfl⟩) (fun r_1 u_2 H locs hw St => ?_)
  try dsimp only at hw
  rcases hw with ⟨z_3, hf_4⟩ | ⟨z_5, hf_6⟩
  ·
    subst r_1
    have St : cS G k [(h, .inr (10, [.ref (a 0), .ref (a 2), .ref (a 6), .ref (a 8), .ref (a 15), .ref (a 17), .ref (a 22), .ref (a 23), .int cl, .int sp])), ((a 8), .inr (0, [.ref (a 9), .ref (a 10), .ref (a 11), .ref (a 12), .ref (a 13), .ref (a 14)])), ((a 9), .inl ((d 4), 30, .inl g0)), ((a 10), .inl ((d 5), 30, .inl g1))] [((d 4), .int), ((d 5), .int)] A s H locs := St
    refine lv_if_eq (tgt := 22) hx hb dX10_declare_4 (by decide) (fun c4 => ?_) (fun c4 => ?_)
    · exact absurd c4 (by decide)
    refine lv_iload_n hx hb dX10_declare_7 rfl (lv_at hl 2 rfl) ?_
    refine lv_if_lt (tgt := 22) hx hb dX10_declare_8 (by decide) (fun c8 => ?_) (fun c8 => ?_)
    ·
      have i8 := ci_lt (x := x2) (y := 0) rfl (show (0 : Int32).toInt = 0 by decide) c8
      refine lv_bipush (v := (-2)) hx hb dX10_declare_22 (by decide) ?_
      exact cs_iret F hr hlk hQ St (g0, g1) (r := (-2)) (Or.inl ⟨rfl, by omega⟩) [0, 1, 2, 3] rfl (by decide) [] rfl (by decide) (by decide) dX10_declare_24
    ·
      have i8 := ci_nlt (x := x2) (y := 0) rfl (show (0 : Int32).toInt = 0 by decide) c8
      refine lv_iload_n hx hb dX10_declare_11 rfl (lv_at hl 2 rfl) ?_
      refine lv_iload_n hx hb dX10_declare_12 rfl (lv_at hl 3 rfl) ?_
      refine lv_icmp_gt (tgt := 22) hx hb dX10_declare_13 (by decide) (fun c13 => ?_) (fun c13 => ?_)
      ·
        have i13 := ci_lt (x := x3) (y := x2) rfl rfl c13
        refine lv_bipush (v := (-2)) hx hb dX10_declare_22 (by decide) ?_
        exact cs_iret F hr hlk hQ St (g0, g1) (r := (-2)) (Or.inl ⟨rfl, by omega⟩) [0, 1, 2, 3] rfl (by decide) [] rfl (by decide) (by decide) dX10_declare_24
      ·
        have i13 := ci_nlt (x := x3) (y := x2) rfl rfl c13
        refine lv_iload_n hx hb dX10_declare_16 rfl (lv_at hl 3 rfl) ?_
        refine lv_bipush (v := 119) hx hb dX10_declare_17 (by decide) ?_
        refine lv_icmp_le (tgt := 25) hx hb dX10_declare_19 (by decide) (fun c19 => ?_) (fun c19 => ?_)
        ·
          have i19 := ci_le (x := x3) (y := 119) rfl (show (119 : Int32).toInt = 119 by decide) c19
          refine lv_aload_n hx hb dX10_declare_25 rfl (lv_at hl 0 rfl) ?_
          refine cs_get F St 0 rfl rfl inX10 9 (by decide) kf_X10_106 rfl dX10_declare_26 ?_
          refine lv_if_eq (tgt := 35) hx hb dX10_declare_29 (by decide) (fun c29 => ?_) (fun c29 => ?_)
          ·
            have i29 := ci_eq (x := sp) (y := 0) rfl (show (0 : Int32).toInt = 0 by decide) c29
            refine lv_aload_n hx hb dX10_declare_35 rfl (lv_at hl 0 rfl) ?_
            refine cs_get F St 0 rfl rfl inX10 3 (by decide) kf_X10_33 rfl dX10_declare_36 ?_
            refine lv_iload_n hx hb dX10_declare_39 rfl (lv_at hl 1 rfl) ?_
            refine lv_iload_n hx hb dX10_declare_40 rfl (lv_at hl 2 rfl) ?_
            refine lv_iload_n hx hb dX10_declare_41 rfl (lv_at hl 3 rfl) ?_
            refine cs_v St [1, 2, 3] [0] (wc := [((a 8), .inr (0, [.ref (a 9), .ref (a 10), .ref (a 11), .ref (a 12), .ref (a 13), .ref (a 14)])), ((a 9), .inl ((d 4), 30, .inl g0)), ((a 10), .inl ((d 5), 30, .inl g1))]) (wr := [(h, .inr (10, [.ref (a 0), .ref (a 2), .ref (a 6), .ref (a 8), .ref (a 15), .ref (a 17), .ref (a 22), .ref (a 23), .int cl, .int sp]))]) rfl rfl (by decide) (by decide) (va_runV (As := [.int x1, .int x2, .int x3]) (rest := []) F (x0_setDecl l G k _ (a 8) (a 9) (a 10) (a 11) (a 12) (a 13) (a 14) (d 4) (d 5) g0 g1 x1 x2 x3) (cwVt F mf_X0_setDeclaration km_X10_110 rfl rfl ⟨Nat.le_of_ble_eq_true rfl, Nat.le_of_ble_eq_true rfl⟩) (cs_preV St [1, 2, 3] rfl (by decide) [0, 1] rfl (ci := 0) (q0 := 1) rfl rfl) rfl rfl hl.1 rfl (lv_room (Nat.le_of_ble_eq_true rfl)) dX10_declare_42 ⟨Nat.le_of_ble_eq_true rfl, Nat.le_of_ble_eq_true rfl⟩) (fun u_8 H locs hw St => ?_)
            obtain ⟨z0_9, z1_10⟩ := u_8
            try dsimp only at hw
            have St : cS G k [(h, .inr (10, [.ref (a 0), .ref (a 2), .ref (a 6), .ref (a 8), .ref (a 15), .ref (a 17), .ref (a 22), .ref (a 23), .int cl, .int sp])), ((a 8), .inr (0, [.ref (a 9), .ref (a 10), .ref (a 11), .ref (a 12), .ref (a 13), .ref (a 14)])), ((a 9), .inl ((d 4), 30, .inl z0_9)), ((a 10), .inl ((d 5), 30, .inl z1_10))] [((d 4), .int), ((d 5), .int)] A s H locs := St
            refine lv_iconst (v := 1) hx hb dX10_declare_45 (by decide) ?_
            exact cs_iret F hr hlk hQ St (z0_9, z1_10) (r := 1) (Or.inr (Or.inr (⟨rfl, by omega⟩))) [0, 1, 2, 3] rfl (by decide) [] rfl (by decide) (by decide) dX10_declare_46
          ·
            have i29 := ci_ne (x := sp) (y := 0) rfl (show (0 : Int32).toInt = 0 by decide) c29
            refine lv_bipush (v := (-4)) hx hb dX10_declare_32 (by decide) ?_
            exact cs_iret F hr hlk hQ St (g0, g1) (r := (-4)) (Or.inr (Or.inl ⟨rfl, by omega⟩)) [0, 1, 2, 3] rfl (by decide) [] rfl (by decide) (by decide) dX10_declare_34
        ·
          have i19 := ci_nle (x := x3) (y := 119) rfl (show (119 : Int32).toInt = 119 by decide) c19
          refine lv_bipush (v := (-2)) hx hb dX10_declare_22 (by decide) ?_
          exact cs_iret F hr hlk hQ St (g0, g1) (r := (-2)) (Or.inl ⟨rfl, by omega⟩) [0, 1, 2, 3] rfl (by decide) [] rfl (by decide) (by decide) dX10_declare_24
  ·
    subst r_1
    have St : cS G k [(h, .inr (10, [.ref (a 0), .ref (a 2), .ref (a 6), .ref (a 8), .ref (a 15), .ref (a 17), .ref (a 22), .ref (a 23), .int cl, .int sp])), ((a 8), .inr (0, [.ref (a 9), .ref (a 10), .ref (a 11), .ref (a 12), .ref (a 13), .ref (a 14)])), ((a 9), .inl ((d 4), 30, .inl g0)), ((a 10), .inl ((d 5), 30, .inl g1))] [((d 4), .int), ((d 5), .int)] A s H locs := St
    refine lv_if_eq (tgt := 22) hx hb dX10_declare_4 (by decide) (fun c4 => ?_) (fun c4 => ?_)
    rotate_left
    · exact absurd (by decide) c4
    refine lv_bipush (v := (-2)) hx hb dX10_declare_22 (by decide) ?_
    exact cs_iret F hr hlk hQ St (g0, g1) (r := (-2)) (Or.inl ⟨rfl, by omega⟩) [0, 1, 2, 3] rfl (by decide) [] rfl (by decide) (by decide) dX10_declare_24

