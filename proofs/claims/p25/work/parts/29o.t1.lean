set_option maxHeartbeats 4000000 in
set_option maxRecDepth 100000 in
theorem y_feed (l : Launch) (G : va_G) (k : Nat → Nat) (sz : Nat) (h : Nat) (a : Nat → Nat) (d : Nat → ClassId) (cl : Int32) (sp : Int32) (nn : Int32) (ft0 : Nat → Int32) (x1 : Int32) (x2 : Int32) (x3 : Int32) (x4 : Int32) (x5 : Int32) (h0 : 0 ≤ nn.toInt) (h1 : nn.toInt ≤ 400) : Met l yX10_feed (Cond.code yX10_feed cX10_feed 6 (some .int) :: tb) ({ frames := 1, cells := 0, slots := 0, locals := 22 } : Room) (va_Pc [.ref h, .int x1, .int x2, .int x3, .int x4, .int x5] (cP G k [(qAAAAAAAAII h 10 (a 0) (a 2) (a 6) (a 8) (a 15) (a 17) (a 22) (a 23) cl sp), (qAI (a 0) 6 (a 1) nn), (qarI (a 1) (d 0) 400 ft0)] [((d 0), .byte)] sz)) (va_Qi (fun (r : Int32) (u : Int32 × (Nat → Int32)) => match u with | (n2, f2) => ((380 < nn.toInt ∧ r = (-3) ∧ n2 = nn ∧ f2 = ft0) ∨ (nn.toInt ≤ 380 ∧ r = n2 ∧ n2.toInt = nn.toInt + 20 ∧ f2 = lay20 ft0 nn.toNatClampNeg x1 x2 x3 x4 x5))) (cB G (fun u => match u with | (n2, f2) => [(qAAAAAAAAII h 10 (a 0) (a 2) (a 6) (a 8) (a 15) (a 17) (a 22) (a 23) cl sp), (qAI (a 0) 6 (a 1) n2), (qarI (a 1) (d 0) 400 f2)]) (fun u => match u with | (n2, f2) => []) (va_A [(qAAAAAAAAII h 10 (a 0) (a 2) (a 6) (a 8) (a 15) (a 17) (a 22) (a 23) cl sp), (qAI (a 0) 6 (a 1) nn), (qarI (a 1) (d 0) 400 ft0)] sz)) (va_A [(qAAAAAAAAII h 10 (a 0) (a 2) (a 6) (a 8) (a 15) (a 17) (a 22) (a 23) cl sp), (qAI (a 0) 6 (a 1) nn), (qarI (a 1) (d 0) 400 ft0)] sz)) 0 0 (va_A [(qAAAAAAAAII h 10 (a 0) (a 2) (a 6) (a 8) (a 15) (a 17) (a 22) (a 23) cl sp), (qAI (a 0) 6 (a 1) nn), (qarI (a 1) (d 0) 400 ft0)] sz) := by
  refine ofC_i (cc := cX10_feed) (maxL := 6) (ret := (some .int)) (by decide) rfl (Nat.le_of_ble_eq_true rfl) ?_
  intro p e s m args below meth c A ls Q F hr hin hlk St hl hQ
  have hx := F.1
  have hb := F.2.1
  have hl : lv_has ls 6 [(0, .ref h), (1, .int x1), (2, .int x2), (3, .int x3), (4, .int x4), (5, .int x5)] := hl
  have St : cS G k [(qAAAAAAAAII h 10 (a 0) (a 2) (a 6) (a 8) (a 15) (a 17) (a 22) (a 23) cl sp), (qAI (a 0) 6 (a 1) nn), (qarI (a 1) (d 0) 400 ft0)] [((d 0), .byte)] A s s.heap [] := St
  have y0 : (0 : Int32).toInt = 0 := by decide
  skip
  refine lv_aload_n hx hb dX10_feed_0 rfl (lv_at hl 0 rfl) ?_
  refine cs_get F St 0 rfl rfl inX10 0 (by decide) kf_X10_10 rfl dX10_feed_1 ?_
  refine cs_i St [1] [0, 2] (wc := [(qAI (a 0) 6 (a 1) nn)]) (wr := [(qAAAAAAAAII h 10 (a 0) (a 2) (a 6) (a 8) (a 15) (a 17) (a 22) (a 23) cl sp), (qarI (a 1) (d 0) 400 ft0)]) rfl rfl (by decide) (by decide) (va_runV (As := []) (rest := []) F (x6_has l G k _ (a 0) (a 1) nn) (cwVt F mf_X6_hasRoomForTwenty km_X10_65 rfl rfl ⟨Nat.le_of_ble_eq_true rfl, Nat.le_of_ble_eq_true rfl⟩) (cs_preV St [1] rfl (by decide) [] rfl (ci := 6) (q0 := 1) rfl rfl) rfl rfl hl.1 rfl (lv_room (Nat.le_of_ble_eq_true rfl)) dX10_feed_4 ⟨Nat.le_of_ble_eq_true rfl, Nat.le_of_ble_eq_true rfl⟩) (fun r_1 u_2 H locs hw St => ?_)
  try dsimp only at hw
  rcases hw with ⟨z_3, hf_4⟩ | ⟨z_5, hf_6⟩
  ·
    subst r_1
    have St : cS G k [(qAAAAAAAAII h 10 (a 0) (a 2) (a 6) (a 8) (a 15) (a 17) (a 22) (a 23) cl sp), (qarI (a 1) (d 0) 400 ft0), (qAI (a 0) 6 (a 1) nn)] [((d 0), .byte)] A s H locs := St
    refine lv_if_ne (tgt := 13) hx hb dX10_feed_7 (by decide) (fun c7 => ?_) (fun c7 => ?_)
    rotate_left
    · exact absurd c7 (by decide)
    refine lv_aload_n hx hb dX10_feed_13 rfl (lv_at hl 0 rfl) ?_
    refine cs_get F St 0 rfl rfl inX10 0 (by decide) kf_X10_10 rfl dX10_feed_14 ?_
    refine lv_iload_n hx hb dX10_feed_17 rfl (lv_at hl 1 rfl) ?_
    refine cs_v St [2, 1] [0] (wc := [(qAI (a 0) 6 (a 1) nn), (qarI (a 1) (d 0) 400 ft0)]) (wr := [(qAAAAAAAAII h 10 (a 0) (a 2) (a 6) (a 8) (a 15) (a 17) (a 22) (a 23) cl sp)]) rfl rfl (by decide) (by decide) (va_runV (As := [.int x1]) (rest := []) F (r6_putFour l G k _ (a 0) (a 1) (d 0) nn ft0 x1 (by omega) (by omega)) (cwVt F mf_X6_putFour km_X10_69 rfl rfl ⟨Nat.le_of_ble_eq_true rfl, Nat.le_of_ble_eq_true rfl⟩) (cs_preV St [2, 1] rfl (by decide) [0] rfl (ci := 6) (q0 := 2) rfl rfl) rfl rfl hl.1 rfl (lv_room (Nat.le_of_ble_eq_true rfl)) dX10_feed_18 ⟨Nat.le_of_ble_eq_true rfl, Nat.le_of_ble_eq_true rfl⟩) (fun u_8 H locs hw St => ?_)
    obtain ⟨n2_9, f2_10⟩ := u_8
    try dsimp only at hw
    obtain ⟨hf_11, hl4_12⟩ := hw
    have St : cS G k [(qAAAAAAAAII h 10 (a 0) (a 2) (a 6) (a 8) (a 15) (a 17) (a 22) (a 23) cl sp), (qAI (a 0) 6 (a 1) n2_9), (qarI (a 1) (d 0) 400 f2_10)] [((d 0), .byte)] A s H locs := St
    refine lv_aload_n hx hb dX10_feed_21 rfl (lv_at hl 0 rfl) ?_
    refine cs_get F St 0 rfl rfl inX10 0 (by decide) kf_X10_10 rfl dX10_feed_22 ?_
    refine lv_iload_n hx hb dX10_feed_25 rfl (lv_at hl 2 rfl) ?_
    refine cs_v St [1, 2] [0] (wc := [(qAI (a 0) 6 (a 1) n2_9), (qarI (a 1) (d 0) 400 f2_10)]) (wr := [(qAAAAAAAAII h 10 (a 0) (a 2) (a 6) (a 8) (a 15) (a 17) (a 22) (a 23) cl sp)]) rfl rfl (by decide) (by decide) (va_runV (As := [.int x2]) (rest := []) F (r6_putFour l G k _ (a 0) (a 1) (d 0) n2_9 f2_10 x2 (by omega) (by omega)) (cwVt F mf_X6_putFour km_X10_69 rfl rfl ⟨Nat.le_of_ble_eq_true rfl, Nat.le_of_ble_eq_true rfl⟩) (cs_preV St [1, 2] rfl (by decide) [0] rfl (ci := 6) (q0 := 1) rfl rfl) rfl rfl hl.1 rfl (lv_room (Nat.le_of_ble_eq_true rfl)) dX10_feed_26 ⟨Nat.le_of_ble_eq_true rfl, Nat.le_of_ble_eq_true rfl⟩) (fun u_14 H locs hw St => ?_)
    obtain ⟨n2_15, f2_16⟩ := u_14
    try dsimp only at hw
    obtain ⟨hf_17, hl4_18⟩ := hw
    have St : cS G k [(qAAAAAAAAII h 10 (a 0) (a 2) (a 6) (a 8) (a 15) (a 17) (a 22) (a 23) cl sp), (qAI (a 0) 6 (a 1) n2_15), (qarI (a 1) (d 0) 400 f2_16)] [((d 0), .byte)] A s H locs := St
    refine lv_aload_n hx hb dX10_feed_29 rfl (lv_at hl 0 rfl) ?_
    refine cs_get F St 0 rfl rfl inX10 0 (by decide) kf_X10_10 rfl dX10_feed_30 ?_
    refine lv_iload_n hx hb dX10_feed_33 rfl (lv_at hl 3 rfl) ?_
    refine cs_v St [1, 2] [0] (wc := [(qAI (a 0) 6 (a 1) n2_15), (qarI (a 1) (d 0) 400 f2_16)]) (wr := [(qAAAAAAAAII h 10 (a 0) (a 2) (a 6) (a 8) (a 15) (a 17) (a 22) (a 23) cl sp)]) rfl rfl (by decide) (by decide) (va_runV (As := [.int x3]) (rest := []) F (r6_putFour l G k _ (a 0) (a 1) (d 0) n2_15 f2_16 x3 (by omega) (by omega)) (cwVt F mf_X6_putFour km_X10_69 rfl rfl ⟨Nat.le_of_ble_eq_true rfl, Nat.le_of_ble_eq_true rfl⟩) (cs_preV St [1, 2] rfl (by decide) [0] rfl (ci := 6) (q0 := 1) rfl rfl) rfl rfl hl.1 rfl (lv_room (Nat.le_of_ble_eq_true rfl)) dX10_feed_34 ⟨Nat.le_of_ble_eq_true rfl, Nat.le_of_ble_eq_true rfl⟩) (fun u_20 H locs hw St => ?_)
    obtain ⟨n2_21, f2_22⟩ := u_20
    try dsimp only at hw
    obtain ⟨hf_23, hl4_24⟩ := hw
    have St : cS G k [(qAAAAAAAAII h 10 (a 0) (a 2) (a 6) (a 8) (a 15) (a 17) (a 22) (a 23) cl sp), (qAI (a 0) 6 (a 1) n2_21), (qarI (a 1) (d 0) 400 f2_22)] [((d 0), .byte)] A s H locs := St
    refine lv_aload_n hx hb dX10_feed_37 rfl (lv_at hl 0 rfl) ?_
    refine cs_get F St 0 rfl rfl inX10 0 (by decide) kf_X10_10 rfl dX10_feed_38 ?_
    refine lv_iload hx hb dX10_feed_41 (lv_at hl 4 rfl) ?_
    refine cs_v St [1, 2] [0] (wc := [(qAI (a 0) 6 (a 1) n2_21), (qarI (a 1) (d 0) 400 f2_22)]) (wr := [(qAAAAAAAAII h 10 (a 0) (a 2) (a 6) (a 8) (a 15) (a 17) (a 22) (a 23) cl sp)]) rfl rfl (by decide) (by decide) (va_runV (As := [.int x4]) (rest := []) F (r6_putFour l G k _ (a 0) (a 1) (d 0) n2_21 f2_22 x4 (by omega) (by omega)) (cwVt F mf_X6_putFour km_X10_69 rfl rfl ⟨Nat.le_of_ble_eq_true rfl, Nat.le_of_ble_eq_true rfl⟩) (cs_preV St [1, 2] rfl (by decide) [0] rfl (ci := 6) (q0 := 1) rfl rfl) rfl rfl hl.1 rfl (lv_room (Nat.le_of_ble_eq_true rfl)) dX10_feed_43 ⟨Nat.le_of_ble_eq_true rfl, Nat.le_of_ble_eq_true rfl⟩) (fun u_26 H locs hw St => ?_)
    obtain ⟨n2_27, f2_28⟩ := u_26
    try dsimp only at hw
    obtain ⟨hf_29, hl4_30⟩ := hw
    have St : cS G k [(qAAAAAAAAII h 10 (a 0) (a 2) (a 6) (a 8) (a 15) (a 17) (a 22) (a 23) cl sp), (qAI (a 0) 6 (a 1) n2_27), (qarI (a 1) (d 0) 400 f2_28)] [((d 0), .byte)] A s H locs := St
    refine lv_aload_n hx hb dX10_feed_46 rfl (lv_at hl 0 rfl) ?_
    refine cs_get F St 0 rfl rfl inX10 0 (by decide) kf_X10_10 rfl dX10_feed_47 ?_
    refine lv_iload hx hb dX10_feed_50 (lv_at hl 5 rfl) ?_
    refine cs_v St [1, 2] [0] (wc := [(qAI (a 0) 6 (a 1) n2_27), (qarI (a 1) (d 0) 400 f2_28)]) (wr := [(qAAAAAAAAII h 10 (a 0) (a 2) (a 6) (a 8) (a 15) (a 17) (a 22) (a 23) cl sp)]) rfl rfl (by decide) (by decide) (va_runV (As := [.int x5]) (rest := []) F (r6_putFour l G k _ (a 0) (a 1) (d 0) n2_27 f2_28 x5 (by omega) (by omega)) (cwVt F mf_X6_putFour km_X10_69 rfl rfl ⟨Nat.le_of_ble_eq_true rfl, Nat.le_of_ble_eq_true rfl⟩) (cs_preV St [1, 2] rfl (by decide) [0] rfl (ci := 6) (q0 := 1) rfl rfl) rfl rfl hl.1 rfl (lv_room (Nat.le_of_ble_eq_true rfl)) dX10_feed_52 ⟨Nat.le_of_ble_eq_true rfl, Nat.le_of_ble_eq_true rfl⟩) (fun u_32 H locs hw St => ?_)
    obtain ⟨n2_33, f2_34⟩ := u_32
    try dsimp only at hw
    obtain ⟨hf_35, hl4_36⟩ := hw
    have St : cS G k [(qAAAAAAAAII h 10 (a 0) (a 2) (a 6) (a 8) (a 15) (a 17) (a 22) (a 23) cl sp), (qAI (a 0) 6 (a 1) n2_33), (qarI (a 1) (d 0) 400 f2_34)] [((d 0), .byte)] A s H locs := St
    refine lv_aload_n hx hb dX10_feed_55 rfl (lv_at hl 0 rfl) ?_
    refine cs_get F St 0 rfl rfl inX10 0 (by decide) kf_X10_10 rfl dX10_feed_56 ?_
    refine cs_i St [1] [0, 2] (wc := [(qAI (a 0) 6 (a 1) n2_33)]) (wr := [(qAAAAAAAAII h 10 (a 0) (a 2) (a 6) (a 8) (a 15) (a 17) (a 22) (a 23) cl sp), (qarI (a 1) (d 0) 400 f2_34)]) rfl rfl (by decide) (by decide) (va_runV (As := []) (rest := []) F (x6_length l G k _ (a 0) (a 1) n2_33) (cwVt F mf_X6_length km_X10_73 rfl rfl ⟨Nat.le_of_ble_eq_true rfl, Nat.le_of_ble_eq_true rfl⟩) (cs_preV St [1] rfl (by decide) [] rfl (ci := 6) (q0 := 1) rfl rfl) rfl rfl hl.1 rfl (lv_room (Nat.le_of_ble_eq_true rfl)) dX10_feed_59 ⟨Nat.le_of_ble_eq_true rfl, Nat.le_of_ble_eq_true rfl⟩) (fun r_37 u_38 H locs hw St => ?_)
    try dsimp only at hw
    have z_39 := hw
    subst r_37
    have St : cS G k [(qAAAAAAAAII h 10 (a 0) (a 2) (a 6) (a 8) (a 15) (a 17) (a 22) (a 23) cl sp), (qarI (a 1) (d 0) 400 f2_34), (qAI (a 0) 6 (a 1) n2_33)] [((d 0), .byte)] A s H locs := St
    exact cs_iret F hr hlk hQ St (n2_33, f2_34) (r := n2_33) (Or.inr ⟨by omega, rfl, by omega, lay20_of h0 (by omega) (by omega) (by omega) (by omega) hl4_12 hl4_18 hl4_24 hl4_30 hl4_36⟩) [0, 2, 1] rfl (by decide) [] rfl (by decide) (by decide) dX10_feed_62
  ·
    subst r_1
    have St : cS G k [(qAAAAAAAAII h 10 (a 0) (a 2) (a 6) (a 8) (a 15) (a 17) (a 22) (a 23) cl sp), (qarI (a 1) (d 0) 400 ft0), (qAI (a 0) 6 (a 1) nn)] [((d 0), .byte)] A s H locs := St
    refine lv_if_ne (tgt := 13) hx hb dX10_feed_7 (by decide) (fun c7 => ?_) (fun c7 => ?_)
    · exact absurd c7 (by decide)
    refine lv_bipush (v := (-3)) hx hb dX10_feed_10 (by decide) ?_
    exact cs_iret F hr hlk hQ St (nn, ft0) (r := (-3)) (Or.inl ⟨by omega, rfl, rfl, rfl⟩) [0, 2, 1] rfl (by decide) [] rfl (by decide) (by decide) dX10_feed_12
set_option maxHeartbeats 4000000 in
set_option maxRecDepth 100000 in
theorem y_trust (l : Launch) (G : va_G) (k : Nat → Nat) (sz : Nat) (h : Nat) (a : Nat → Nat) (d : Nat → ClassId) (cl : Int32) (sp : Int32) (nn : Int32) (ft0 : Nat → Int32) (rh : Int32) (rt : Int32) (rs : Int32) (rv : Int32) (rk : Int32) (rp : Int32) (fd : Nat → Int32) (ft : Nat → Int32) (fr : Nat → Int32) (h0 : 0 ≤ nn.toInt) (h1 : nn.toInt ≤ 400) : Met l yX10_trust (Cond.code yX10_trust cX10_trust 2 (some .int) :: tb) ({ frames := 8, cells := 0, slots := 0, locals := 174 } : Room) (va_Pc [.ref h] (cP G k [(qAAAAAAAAII h 10 (a 0) (a 2) (a 6) (a 8) (a 15) (a 17) (a 22) (a 23) cl sp), (qAI (a 0) 6 (a 1) nn), (qarI (a 1) (d 0) 400 ft0), (qAAIIIIII (a 2) 9 (a 3) (a 5) rh rt rs rv rk rp), (qA (a 3) 8 (a 4)), (qarI (a 4) (d 1) 9 fd), (qarI (a 5) (d 2) 6 ft), (qA (a 6) 8 (a 7)), (qarI (a 7) (d 3) 9 fr)] [((d 0), .byte), ((d 1), .int), ((d 2), .boolean), ((d 3), .int)] sz)) (va_Qi (fun (r : Int32) (u : Int32 × Int32 × Int32 × Int32 × Int32 × Int32 × (Nat → Int32) × (Nat → Int32) × (Nat → Int32)) => match u with | (rh2, rt2, rs2, rv2, rk2, rp2, fd2, ft2, fr2) => (r = (prT ft0 nn.toNatClampNeg).1 ∧ rk2 = (prT ft0 nn.toNatClampNeg).2.1 ∧ rp2 = (prT ft0 nn.toNatClampNeg).2.2.1 ∧ fr2 = (if r = -1 then fr else (prT ft0 nn.toNatClampNeg).2.2.2))) (cB G (fun u => match u with | (rh2, rt2, rs2, rv2, rk2, rp2, fd2, ft2, fr2) => [(qAAAAAAAAII h 10 (a 0) (a 2) (a 6) (a 8) (a 15) (a 17) (a 22) (a 23) cl sp), (qAI (a 0) 6 (a 1) 0), (qarI (a 1) (d 0) 400 ft0), (qAAIIIIII (a 2) 9 (a 3) (a 5) rh2 rt2 rs2 rv2 rk2 rp2), (qA (a 3) 8 (a 4)), (qarI (a 4) (d 1) 9 fd2), (qarI (a 5) (d 2) 6 ft2), (qA (a 6) 8 (a 7)), (qarI (a 7) (d 3) 9 fr2)]) (fun u => match u with | (rh2, rt2, rs2, rv2, rk2, rp2, fd2, ft2, fr2) => []) (va_A [(qAAAAAAAAII h 10 (a 0) (a 2) (a 6) (a 8) (a 15) (a 17) (a 22) (a 23) cl sp), (qAI (a 0) 6 (a 1) nn), (qarI (a 1) (d 0) 400 ft0), (qAAIIIIII (a 2) 9 (a 3) (a 5) rh rt rs rv rk rp), (qA (a 3) 8 (a 4)), (qarI (a 4) (d 1) 9 fd), (qarI (a 5) (d 2) 6 ft), (qA (a 6) 8 (a 7)), (qarI (a 7) (d 3) 9 fr)] sz)) (va_A [(qAAAAAAAAII h 10 (a 0) (a 2) (a 6) (a 8) (a 15) (a 17) (a 22) (a 23) cl sp), (qAI (a 0) 6 (a 1) nn), (qarI (a 1) (d 0) 400 ft0), (qAAIIIIII (a 2) 9 (a 3) (a 5) rh rt rs rv rk rp), (qA (a 3) 8 (a 4)), (qarI (a 4) (d 1) 9 fd), (qarI (a 5) (d 2) 6 ft), (qA (a 6) 8 (a 7)), (qarI (a 7) (d 3) 9 fr)] sz)) 0 0 (va_A [(qAAAAAAAAII h 10 (a 0) (a 2) (a 6) (a 8) (a 15) (a 17) (a 22) (a 23) cl sp), (qAI (a 0) 6 (a 1) nn), (qarI (a 1) (d 0) 400 ft0), (qAAIIIIII (a 2) 9 (a 3) (a 5) rh rt rs rv rk rp), (qA (a 3) 8 (a 4)), (qarI (a 4) (d 1) 9 fd), (qarI (a 5) (d 2) 6 ft), (qA (a 6) 8 (a 7)), (qarI (a 7) (d 3) 9 fr)] sz) := by
  refine ofC_i (cc := cX10_trust) (maxL := 2) (ret := (some .int)) (by decide) rfl (Nat.le_of_ble_eq_true rfl) ?_
  intro p e s m args below meth c A ls Q F hr hin hlk St hl hQ
  have hx := F.1
  have hb := F.2.1
  have hl : lv_has ls 2 [(0, .ref h)] := hl
  have St : cS G k [(qAAAAAAAAII h 10 (a 0) (a 2) (a 6) (a 8) (a 15) (a 17) (a 22) (a 23) cl sp), (qAI (a 0) 6 (a 1) nn), (qarI (a 1) (d 0) 400 ft0), (qAAIIIIII (a 2) 9 (a 3) (a 5) rh rt rs rv rk rp), (qA (a 3) 8 (a 4)), (qarI (a 4) (d 1) 9 fd), (qarI (a 5) (d 2) 6 ft), (qA (a 6) 8 (a 7)), (qarI (a 7) (d 3) 9 fr)] [((d 0), .byte), ((d 1), .int), ((d 2), .boolean), ((d 3), .int)] A s s.heap [] := St
  have y0 : (0 : Int32).toInt = 0 := by decide
  skip
  refine lv_aload_n hx hb dX10_trust_0 rfl (lv_at hl 0 rfl) ?_
  refine cs_get F St 0 rfl rfl inX10 1 (by decide) kf_X10_19 rfl dX10_trust_1 ?_
  refine lv_aload_n hx hb dX10_trust_4 rfl (lv_at hl 0 rfl) ?_
  refine cs_get F St 0 rfl rfl inX10 0 (by decide) kf_X10_10 rfl dX10_trust_5 ?_
  refine cs_i St [3, 4, 5, 6, 1, 2] [0, 7, 8] (wc := [(qAAIIIIII (a 2) 9 (a 3) (a 5) rh rt rs rv rk rp), (qA (a 3) 8 (a 4)), (qarI (a 4) (d 1) 9 fd), (qarI (a 5) (d 2) 6 ft), (qAI (a 0) 6 (a 1) nn), (qarI (a 1) (d 0) 400 ft0)]) (wr := [(qAAAAAAAAII h 10 (a 0) (a 2) (a 6) (a 8) (a 15) (a 17) (a 22) (a 23) cl sp), (qA (a 6) 8 (a 7)), (qarI (a 7) (d 3) 9 fr)]) rfl rfl (by decide) (by decide) (va_runV (As := [.ref (a 0)]) (rest := []) F (r9_read l G k _ (a 2) (a 3) (a 4) (a 5) (d 1) (d 2) rh rt rs rv rk rp fd ft (a 0) (a 1) (d 0) nn ft0 (by omega) (by omega)) (cwVt F mf_X9_read km_X10_80 rfl rfl ⟨Nat.le_of_ble_eq_true rfl, Nat.le_of_ble_eq_true rfl⟩) (cs_preV St [3, 4, 5, 6, 1, 2] rfl (by decide) [1, 2, 0] rfl (ci := 9) (q0 := 3) rfl rfl) rfl rfl hl.1 rfl (lv_room (Nat.le_of_ble_eq_true rfl)) dX10_trust_8 ⟨Nat.le_of_ble_eq_true rfl, Nat.le_of_ble_eq_true rfl⟩) (fun r_1 u_2 H locs hw St => ?_)
  obtain ⟨rh2_3, rt2_4, rs2_5, rv2_6, rk2_7, rp2_8, fd2_9, ft2_10⟩ := u_2
  try dsimp only at hw
  have hX_11 := hw
  have St : cS G k [(qAAAAAAAAII h 10 (a 0) (a 2) (a 6) (a 8) (a 15) (a 17) (a 22) (a 23) cl sp), (qA (a 6) 8 (a 7)), (qarI (a 7) (d 3) 9 fr), (qAAIIIIII (a 2) 9 (a 3) (a 5) rh2_3 rt2_4 rs2_5 rv2_6 rk2_7 rp2_8), (qA (a 3) 8 (a 4)), (qarI (a 4) (d 1) 9 fd2_9), (qarI (a 5) (d 2) 6 ft2_10), (qAI (a 0) 6 (a 1) nn), (qarI (a 1) (d 0) 400 ft0)] [((d 0), .byte), ((d 1), .int), ((d 2), .boolean), ((d 3), .int)] A s H locs := St
  refine lv_istore_n (lv' := [(1, .int r_1), (0, .ref h)]) hx hb dX10_trust_11 rfl hl (by decide) rfl (fun ls hl => ?_)
  refine lv_aload_n hx hb dX10_trust_12 rfl (lv_at hl 1 rfl) ?_
  refine cs_get F St 0 rfl rfl inX10 0 (by decide) kf_X10_10 rfl dX10_trust_13 ?_
  refine lv_iconst (v := 0) hx hb dX10_trust_16 (by decide) ?_
  refine cs_v St [7] [0, 1, 2, 3, 4, 5, 6, 8] (wc := [(qAI (a 0) 6 (a 1) nn)]) (wr := [(qAAAAAAAAII h 10 (a 0) (a 2) (a 6) (a 8) (a 15) (a 17) (a 22) (a 23) cl sp), (qA (a 6) 8 (a 7)), (qarI (a 7) (d 3) 9 fr), (qAAIIIIII (a 2) 9 (a 3) (a 5) rh2_3 rt2_4 rs2_5 rv2_6 rk2_7 rp2_8), (qA (a 3) 8 (a 4)), (qarI (a 4) (d 1) 9 fd2_9), (qarI (a 5) (d 2) 6 ft2_10), (qarI (a 1) (d 0) 400 ft0)]) rfl rfl (by decide) (by decide) (va_runV (As := [.int 0]) (rest := []) F (x6_cutTo l G k _ (a 0) (a 1) nn 0) (cwVt F mf_X6_cutTo km_X10_77 rfl rfl ⟨Nat.le_of_ble_eq_true rfl, Nat.le_of_ble_eq_true rfl⟩) (cs_preV St [7] rfl (by decide) [] rfl (ci := 6) (q0 := 7) rfl rfl) rfl rfl hl.1 rfl (lv_room (Nat.le_of_ble_eq_true rfl)) dX10_trust_17 ⟨Nat.le_of_ble_eq_true rfl, Nat.le_of_ble_eq_true rfl⟩) (fun u_13 H locs hw St => ?_)
  try dsimp only at hw
  have St : cS G k [(qAAAAAAAAII h 10 (a 0) (a 2) (a 6) (a 8) (a 15) (a 17) (a 22) (a 23) cl sp), (qA (a 6) 8 (a 7)), (qarI (a 7) (d 3) 9 fr), (qAAIIIIII (a 2) 9 (a 3) (a 5) rh2_3 rt2_4 rs2_5 rv2_6 rk2_7 rp2_8), (qA (a 3) 8 (a 4)), (qarI (a 4) (d 1) 9 fd2_9), (qarI (a 5) (d 2) 6 ft2_10), (qarI (a 1) (d 0) 400 ft0), (qAI (a 0) 6 (a 1) 0)] [((d 0), .byte), ((d 1), .int), ((d 2), .boolean), ((d 3), .int)] A s H locs := St
  refine lv_iload_n hx hb dX10_trust_20 rfl (lv_at hl 0 rfl) ?_
  refine lv_iconst (v := (-1)) hx hb dX10_trust_21 (by decide) ?_
  refine lv_icmp_eq (tgt := 39) hx hb dX10_trust_22 (by decide) (fun c22 => ?_) (fun c22 => ?_)
  ·
    have i22 := ci_eq (x := r_1) (y := (-1)) rfl (show ((-1) : Int32).toInt = -1 by decide) c22
    refine lv_iload_n hx hb dX10_trust_39 rfl (lv_at hl 0 rfl) ?_
    exact cs_iret F hr hlk hQ St (rh2_3, rt2_4, rs2_5, rv2_6, rk2_7, rp2_8, fd2_9, ft2_10, fr) (r := r_1) ⟨hX_11.1, hX_11.2.1, hX_11.2.2.1, (if_pos c22).symm⟩ [0, 8, 7, 3, 4, 5, 6, 1, 2] rfl (by decide) [] rfl (by decide) (by decide) dX10_trust_40
  ·
    have i22 := ci_ne (x := r_1) (y := (-1)) rfl (show ((-1) : Int32).toInt = -1 by decide) c22
    refine lv_aload_n hx hb dX10_trust_25 rfl (lv_at hl 1 rfl) ?_
    refine cs_get F St 0 rfl rfl inX10 2 (by decide) kf_X10_26 rfl dX10_trust_26 ?_
    refine lv_aload_n hx hb dX10_trust_29 rfl (lv_at hl 1 rfl) ?_
    refine cs_get F St 0 rfl rfl inX10 1 (by decide) kf_X10_19 rfl dX10_trust_30 ?_
    refine cs_q St [3] [0, 1, 2, 4, 5, 6, 7, 8] (wc := [(qAAIIIIII (a 2) 9 (a 3) (a 5) rh2_3 rt2_4 rs2_5 rv2_6 rk2_7 rp2_8)]) (wr := [(qAAAAAAAAII h 10 (a 0) (a 2) (a 6) (a 8) (a 15) (a 17) (a 22) (a 23) cl sp), (qA (a 6) 8 (a 7)), (qarI (a 7) (d 3) 9 fr), (qA (a 3) 8 (a 4)), (qarI (a 4) (d 1) 9 fd2_9), (qarI (a 5) (d 2) 6 ft2_10), (qarI (a 1) (d 0) 400 ft0), (qAI (a 0) 6 (a 1) 0)]) rfl rfl (by decide) (by decide) (va_runV (As := []) (rest := [.ref (a 6)]) F (x9_draft l G k _ (a 2) (a 3) (a 5) rh2_3 rt2_4 rs2_5 rv2_6 rk2_7 rp2_8) (cwVt F mf_X9_draft km_X10_84 rfl rfl ⟨Nat.le_of_ble_eq_true rfl, Nat.le_of_ble_eq_true rfl⟩) (cs_preV St [3] rfl (by decide) [] rfl (ci := 9) (q0 := 3) rfl rfl) rfl rfl hl.1 rfl (lv_room (Nat.le_of_ble_eq_true rfl)) dX10_trust_33 ⟨Nat.le_of_ble_eq_true rfl, Nat.le_of_ble_eq_true rfl⟩) (fun r_14 u_15 H locs hw St => ?_)
    try dsimp only at hw
    have z_16 := hw
    subst r_14
    have St : cS G k [(qAAAAAAAAII h 10 (a 0) (a 2) (a 6) (a 8) (a 15) (a 17) (a 22) (a 23) cl sp), (qA (a 6) 8 (a 7)), (qarI (a 7) (d 3) 9 fr), (qA (a 3) 8 (a 4)), (qarI (a 4) (d 1) 9 fd2_9), (qarI (a 5) (d 2) 6 ft2_10), (qarI (a 1) (d 0) 400 ft0), (qAI (a 0) 6 (a 1) 0), (qAAIIIIII (a 2) 9 (a 3) (a 5) rh2_3 rt2_4 rs2_5 rv2_6 rk2_7 rp2_8)] [((d 0), .byte), ((d 1), .int), ((d 2), .boolean), ((d 3), .int)] A s H locs := St
    show W _ _ _ _ _ _ _ _ _ _ _ _ _ _ _ (F0 m 36 ls [.ref (a 3), .ref (a 6)])
    refine cs_v St [1, 2, 3, 4] [0, 5, 6, 7, 8] (wc := [(qA (a 6) 8 (a 7)), (qarI (a 7) (d 3) 9 fr), (qA (a 3) 8 (a 4)), (qarI (a 4) (d 1) 9 fd2_9)]) (wr := [(qAAAAAAAAII h 10 (a 0) (a 2) (a 6) (a 8) (a 15) (a 17) (a 22) (a 23) cl sp), (qarI (a 5) (d 2) 6 ft2_10), (qarI (a 1) (d 0) 400 ft0), (qAI (a 0) 6 (a 1) 0), (qAAIIIIII (a 2) 9 (a 3) (a 5) rh2_3 rt2_4 rs2_5 rv2_6 rk2_7 rp2_8)]) rfl rfl (by decide) (by decide) (va_runV (As := [.ref (a 3)]) (rest := []) F (r8_takeOver l G k _ (a 6) (a 7) (a 3) (a 4) (d 3) (d 1) fr fd2_9) (cwVt F mf_X8_takeOver km_X10_88 rfl rfl ⟨Nat.le_of_ble_eq_true rfl, Nat.le_of_ble_eq_true rfl⟩) (cs_preV St [1, 2, 3, 4] rfl (by decide) [3, 1] rfl (ci := 8) (q0 := 1) rfl rfl) rfl rfl hl.1 rfl (lv_room (Nat.le_of_ble_eq_true rfl)) dX10_trust_36 ⟨Nat.le_of_ble_eq_true rfl, Nat.le_of_ble_eq_true rfl⟩) (fun u_18 H locs hw St => ?_)
    try dsimp only at hw
    have St : cS G k [(qAAAAAAAAII h 10 (a 0) (a 2) (a 6) (a 8) (a 15) (a 17) (a 22) (a 23) cl sp), (qarI (a 5) (d 2) 6 ft2_10), (qarI (a 1) (d 0) 400 ft0), (qAI (a 0) 6 (a 1) 0), (qAAIIIIII (a 2) 9 (a 3) (a 5) rh2_3 rt2_4 rs2_5 rv2_6 rk2_7 rp2_8), (qA (a 6) 8 (a 7)), (qarI (a 7) (d 3) 9 fd2_9), (qA (a 3) 8 (a 4)), (qarI (a 4) (d 1) 9 fd2_9)] [((d 0), .byte), ((d 1), .int), ((d 2), .boolean), ((d 3), .int)] A s H locs := St
    refine lv_iload_n hx hb dX10_trust_39 rfl (lv_at hl 0 rfl) ?_
    exact cs_iret F hr hlk hQ St (rh2_3, rt2_4, rs2_5, rv2_6, rk2_7, rp2_8, fd2_9, ft2_10, fd2_9) (r := r_1) ⟨hX_11.1, hX_11.2.1, hX_11.2.2.1, (hX_11.2.2.2 c22).trans (if_neg c22).symm⟩ [0, 3, 2, 4, 7, 8, 1, 5, 6] rfl (by decide) [] rfl (by decide) (by decide) dX10_trust_40
set_option maxHeartbeats 4000000 in
set_option maxRecDepth 100000 in
theorem y_fault (l : Launch) (G : va_G) (k : Nat → Nat) (sz : Nat) (h : Nat) (a : Nat → Nat) (d : Nat → ClassId) (cl : Int32) (sp : Int32) (rh : Int32) (rt : Int32) (rs : Int32) (rv : Int32) (rk : Int32) (rp : Int32) (x1 : Int32) : Met l yX10_fault (Cond.code yX10_fault cX10_fault 2 (some .int) :: tb) ({ frames := 1, cells := 0, slots := 0, locals := 20 } : Room) (va_Pc [.ref h, .int x1] (cP G k [(qAAAAAAAAII h 10 (a 0) (a 2) (a 6) (a 8) (a 15) (a 17) (a 22) (a 23) cl sp), (qAAIIIIII (a 2) 9 (a 3) (a 5) rh rt rs rv rk rp)] [] sz)) (va_Qi (fun (r : Int32) (_ : Unit) => ((x1 = 0 ∧ r = rk) ∨ (x1 = 1 ∧ r = rp) ∨ (¬ x1 = 0 ∧ ¬ x1 = 1 ∧ r = (-1)))) (cB G (fun (_ : Unit) => [(qAAAAAAAAII h 10 (a 0) (a 2) (a 6) (a 8) (a 15) (a 17) (a 22) (a 23) cl sp), (qAAIIIIII (a 2) 9 (a 3) (a 5) rh rt rs rv rk rp)]) (fun (_ : Unit) => []) (va_A [(qAAAAAAAAII h 10 (a 0) (a 2) (a 6) (a 8) (a 15) (a 17) (a 22) (a 23) cl sp), (qAAIIIIII (a 2) 9 (a 3) (a 5) rh rt rs rv rk rp)] sz)) (va_A [(qAAAAAAAAII h 10 (a 0) (a 2) (a 6) (a 8) (a 15) (a 17) (a 22) (a 23) cl sp), (qAAIIIIII (a 2) 9 (a 3) (a 5) rh rt rs rv rk rp)] sz)) 0 0 (va_A [(qAAAAAAAAII h 10 (a 0) (a 2) (a 6) (a 8) (a 15) (a 17) (a 22) (a 23) cl sp), (qAAIIIIII (a 2) 9 (a 3) (a 5) rh rt rs rv rk rp)] sz) := by
  refine ofC_i (cc := cX10_fault) (maxL := 2) (ret := (some .int)) (by decide) rfl (Nat.le_of_ble_eq_true rfl) ?_
  intro p e s m args below meth c A ls Q F hr hin hlk St hl hQ
  have hx := F.1
  have hb := F.2.1
  have hl : lv_has ls 2 [(0, .ref h), (1, .int x1)] := hl
  have St : cS G k [(qAAAAAAAAII h 10 (a 0) (a 2) (a 6) (a 8) (a 15) (a 17) (a 22) (a 23) cl sp), (qAAIIIIII (a 2) 9 (a 3) (a 5) rh rt rs rv rk rp)] [] A s s.heap [] := St
  have y0 : (0 : Int32).toInt = 0 := by decide
  skip
  refine lv_iload_n hx hb dX10_fault_0 rfl (lv_at hl 1 rfl) ?_
  refine lv_if_ne (tgt := 12) hx hb dX10_fault_1 (by decide) (fun c1 => ?_) (fun c1 => ?_)
  ·
    have i1 := ci_ne (x := x1) (y := 0) rfl (show (0 : Int32).toInt = 0 by decide) c1
    refine lv_iload_n hx hb dX10_fault_12 rfl (lv_at hl 1 rfl) ?_
    refine lv_iconst (v := 1) hx hb dX10_fault_13 (by decide) ?_
    refine lv_icmp_ne (tgt := 27) hx hb dX10_fault_14 (by decide) (fun c14 => ?_) (fun c14 => ?_)
    ·
      have i14 := ci_ne (x := x1) (y := 1) rfl (show (1 : Int32).toInt = 1 by decide) c14
      refine lv_iconst (v := (-1)) hx hb dX10_fault_27 (by decide) ?_
      exact cs_iret F hr hlk hQ St () (r := (-1)) (Or.inr (Or.inr ⟨c1, c14, rfl⟩)) [0, 1] rfl (by decide) [] rfl (by decide) (by decide) dX10_fault_28
    ·
      have i14 := ci_eq (x := x1) (y := 1) rfl (show (1 : Int32).toInt = 1 by decide) c14
      refine lv_aload_n hx hb dX10_fault_17 rfl (lv_at hl 0 rfl) ?_
      refine cs_get F St 0 rfl rfl inX10 1 (by decide) kf_X10_19 rfl dX10_fault_18 ?_
      refine cs_i St [1] [0] (wc := [(qAAIIIIII (a 2) 9 (a 3) (a 5) rh rt rs rv rk rp)]) (wr := [(qAAAAAAAAII h 10 (a 0) (a 2) (a 6) (a 8) (a 15) (a 17) (a 22) (a 23) cl sp)]) rfl rfl (by decide) (by decide) (va_runV (As := []) (rest := []) F (r9_faultPlace l G k _ (a 2) (a 3) (a 5) rh rt rs rv rk rp) (cwVt F mf_X9_faultPlace km_X10_95 rfl rfl ⟨Nat.le_of_ble_eq_true rfl, Nat.le_of_ble_eq_true rfl⟩) (cs_preV St [1] rfl (by decide) [] rfl (ci := 9) (q0 := 1) rfl rfl) rfl rfl hl.1 rfl (lv_room (Nat.le_of_ble_eq_true rfl)) dX10_fault_21 ⟨Nat.le_of_ble_eq_true rfl, Nat.le_of_ble_eq_true rfl⟩) (fun r_1 u_2 H locs hw St => ?_)
      try dsimp only at hw
      have z_3 := hw
      subst r_1
      have St : cS G k [(qAAAAAAAAII h 10 (a 0) (a 2) (a 6) (a 8) (a 15) (a 17) (a 22) (a 23) cl sp), (qAAIIIIII (a 2) 9 (a 3) (a 5) rh rt rs rv rk rp)] [] A s H locs := St
      refine lv_goto (tgt := 28) hx hb dX10_fault_24 (by decide) ?_
      exact cs_iret F hr hlk hQ St () (r := rp) (Or.inr (Or.inl ⟨c14, rfl⟩)) [0, 1] rfl (by decide) [] rfl (by decide) (by decide) dX10_fault_28
  ·
    have i1 := ci_eq (x := x1) (y := 0) rfl (show (0 : Int32).toInt = 0 by decide) c1
    refine lv_aload_n hx hb dX10_fault_4 rfl (lv_at hl 0 rfl) ?_
    refine cs_get F St 0 rfl rfl inX10 1 (by decide) kf_X10_19 rfl dX10_fault_5 ?_
    refine cs_i St [1] [0] (wc := [(qAAIIIIII (a 2) 9 (a 3) (a 5) rh rt rs rv rk rp)]) (wr := [(qAAAAAAAAII h 10 (a 0) (a 2) (a 6) (a 8) (a 15) (a 17) (a 22) (a 23) cl sp)]) rfl rfl (by decide) (by decide) (va_runV (As := []) (rest := []) F (r9_faultKind l G k _ (a 2) (a 3) (a 5) rh rt rs rv rk rp) (cwVt F mf_X9_faultKind km_X10_92 rfl rfl ⟨Nat.le_of_ble_eq_true rfl, Nat.le_of_ble_eq_true rfl⟩) (cs_preV St [1] rfl (by decide) [] rfl (ci := 9) (q0 := 1) rfl rfl) rfl rfl hl.1 rfl (lv_room (Nat.le_of_ble_eq_true rfl)) dX10_fault_8 ⟨Nat.le_of_ble_eq_true rfl, Nat.le_of_ble_eq_true rfl⟩) (fun r_4 u_5 H locs hw St => ?_)
    try dsimp only at hw
    have z_6 := hw
    subst r_4
    have St : cS G k [(qAAAAAAAAII h 10 (a 0) (a 2) (a 6) (a 8) (a 15) (a 17) (a 22) (a 23) cl sp), (qAAIIIIII (a 2) 9 (a 3) (a 5) rh rt rs rv rk rp)] [] A s H locs := St
    exact cs_iret F hr hlk hQ St () (r := rk) (Or.inl ⟨c1, rfl⟩) [0, 1] rfl (by decide) [] rfl (by decide) (by decide) dX10_fault_11
set_option maxHeartbeats 4000000 in
set_option maxRecDepth 100000 in
theorem y_rule (l : Launch) (G : va_G) (k : Nat → Nat) (sz : Nat) (h : Nat) (a : Nat → Nat) (d : Nat → ClassId) (cl : Int32) (sp : Int32) (fr : Nat → Int32) (x1 : Int32) : Met l yX10_rule (Cond.code yX10_rule cX10_rule 2 (some .int) :: tb) ({ frames := 1, cells := 0, slots := 0, locals := 21 } : Room) (va_Pc [.ref h, .int x1] (cP G k [(qAAAAAAAAII h 10 (a 0) (a 2) (a 6) (a 8) (a 15) (a 17) (a 22) (a 23) cl sp), (qA (a 6) 8 (a 7)), (qarI (a 7) (d 3) 9 fr)] [((d 3), .int)] sz)) (va_Qi (fun (r : Int32) (_ : Unit) => (((0 ≤ x1.toInt ∧ x1.toInt ≤ 8) ∧ r = fr x1.toNatClampNeg) ∨ (¬ (0 ≤ x1.toInt ∧ x1.toInt ≤ 8) ∧ r = (-9)))) (cB G (fun (_ : Unit) => [(qAAAAAAAAII h 10 (a 0) (a 2) (a 6) (a 8) (a 15) (a 17) (a 22) (a 23) cl sp), (qA (a 6) 8 (a 7)), (qarI (a 7) (d 3) 9 fr)]) (fun (_ : Unit) => []) (va_A [(qAAAAAAAAII h 10 (a 0) (a 2) (a 6) (a 8) (a 15) (a 17) (a 22) (a 23) cl sp), (qA (a 6) 8 (a 7)), (qarI (a 7) (d 3) 9 fr)] sz)) (va_A [(qAAAAAAAAII h 10 (a 0) (a 2) (a 6) (a 8) (a 15) (a 17) (a 22) (a 23) cl sp), (qA (a 6) 8 (a 7)), (qarI (a 7) (d 3) 9 fr)] sz)) 0 0 (va_A [(qAAAAAAAAII h 10 (a 0) (a 2) (a 6) (a 8) (a 15) (a 17) (a 22) (a 23) cl sp), (qA (a 6) 8 (a 7)), (qarI (a 7) (d 3) 9 fr)] sz) := by
  refine ofC_i (cc := cX10_rule) (maxL := 2) (ret := (some .int)) (by decide) rfl (Nat.le_of_ble_eq_true rfl) ?_
  intro p e s m args below meth c A ls Q F hr hin hlk St hl hQ
  have hx := F.1
  have hb := F.2.1
  have hl : lv_has ls 2 [(0, .ref h), (1, .int x1)] := hl
  have St : cS G k [(qAAAAAAAAII h 10 (a 0) (a 2) (a 6) (a 8) (a 15) (a 17) (a 22) (a 23) cl sp), (qA (a 6) 8 (a 7)), (qarI (a 7) (d 3) 9 fr)] [((d 3), .int)] A s s.heap [] := St
  have y0 : (0 : Int32).toInt = 0 := by decide
  skip
  refine lv_iload_n hx hb dX10_rule_0 rfl (lv_at hl 1 rfl) ?_
  refine lv_if_lt (tgt := 21) hx hb dX10_rule_1 (by decide) (fun c1 => ?_) (fun c1 => ?_)
  ·
    have i1 := ci_lt (x := x1) (y := 0) rfl (show (0 : Int32).toInt = 0 by decide) c1
    refine lv_bipush (v := (-9)) hx hb dX10_rule_21 (by decide) ?_
    exact cs_iret F hr hlk hQ St () (r := (-9)) (Or.inr ⟨by omega, rfl⟩) [0, 1, 2] rfl (by decide) [] rfl (by decide) (by decide) dX10_rule_23
  ·
    have i1 := ci_nlt (x := x1) (y := 0) rfl (show (0 : Int32).toInt = 0 by decide) c1
    refine lv_iload_n hx hb dX10_rule_4 rfl (lv_at hl 1 rfl) ?_
    refine lv_bipush (v := 9) hx hb dX10_rule_5 (by decide) ?_
    refine lv_icmp_ge (tgt := 21) hx hb dX10_rule_7 (by decide) (fun c7 => ?_) (fun c7 => ?_)
    ·
      have i7 := ci_le (x := 9) (y := x1) (show (9 : Int32).toInt = 9 by decide) rfl c7
      refine lv_bipush (v := (-9)) hx hb dX10_rule_21 (by decide) ?_
      exact cs_iret F hr hlk hQ St () (r := (-9)) (Or.inr ⟨by omega, rfl⟩) [0, 1, 2] rfl (by decide) [] rfl (by decide) (by decide) dX10_rule_23
    ·
      have i7 := ci_nle (x := 9) (y := x1) (show (9 : Int32).toInt = 9 by decide) rfl c7
      refine lv_aload_n hx hb dX10_rule_10 rfl (lv_at hl 0 rfl) ?_
      refine cs_get F St 0 rfl rfl inX10 2 (by decide) kf_X10_26 rfl dX10_rule_11 ?_
      refine lv_iload_n hx hb dX10_rule_14 rfl (lv_at hl 1 rfl) ?_
      refine cs_i St [1, 2] [0] (wc := [(qA (a 6) 8 (a 7)), (qarI (a 7) (d 3) 9 fr)]) (wr := [(qAAAAAAAAII h 10 (a 0) (a 2) (a 6) (a 8) (a 15) (a 17) (a 22) (a 23) cl sp)]) rfl rfl (by decide) (by decide) (va_runV (As := [.int x1]) (rest := []) F (r8_at l G k _ (a 6) (a 7) (d 3) fr x1 (by omega) (by omega)) (cwVt F mf_X8_at km_X10_98 rfl rfl ⟨Nat.le_of_ble_eq_true rfl, Nat.le_of_ble_eq_true rfl⟩) (cs_preV St [1, 2] rfl (by decide) [0] rfl (ci := 8) (q0 := 1) rfl rfl) rfl rfl hl.1 rfl (lv_room (Nat.le_of_ble_eq_true rfl)) dX10_rule_15 ⟨Nat.le_of_ble_eq_true rfl, Nat.le_of_ble_eq_true rfl⟩) (fun r_1 u_2 H locs hw St => ?_)
      try dsimp only at hw
      have hr_3 := hw
      have St : cS G k [(qAAAAAAAAII h 10 (a 0) (a 2) (a 6) (a 8) (a 15) (a 17) (a 22) (a 23) cl sp), (qA (a 6) 8 (a 7)), (qarI (a 7) (d 3) 9 fr)] [((d 3), .int)] A s H locs := St
      refine lv_goto (tgt := 23) hx hb dX10_rule_18 (by decide) ?_
      exact cs_iret F hr hlk hQ St () (r := r_1) (Or.inl ⟨by omega, hr_3⟩) [0, 1, 2] rfl (by decide) [] rfl (by decide) (by decide) dX10_rule_23

