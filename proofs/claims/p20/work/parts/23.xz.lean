set_option maxHeartbeats 4000000 in
set_option maxRecDepth 100000 in
theorem x_feed (l : Launch) (G : va_G) (k : Nat → Nat) (sz : Nat) (h : Nat) (a : Nat → Nat) (d : Nat → ClassId) (cl : Int32) (sp : Int32) (nn : Int32) (ft0 : Nat → Int32) (x1 : Int32) (x2 : Int32) (x3 : Int32) (x4 : Int32) (x5 : Int32) (h0 : 0 ≤ nn.toInt) (h1 : nn.toInt ≤ 400) : Met l yX10_feed (Cond.code yX10_feed cX10_feed 6 (some .int) :: tb) ({ frames := 1, cells := 0, slots := 0, locals := 22 } : Room) (va_Pc [.ref h, .int x1, .int x2, .int x3, .int x4, .int x5] (cP G k [(h, .inr (10, [.ref (a 0), .ref (a 2), .ref (a 6), .ref (a 8), .ref (a 15), .ref (a 17), .ref (a 22), .ref (a 23), .int cl, .int sp])), ((a 0), .inr (6, [.ref (a 1), .int nn])), ((a 1), .inl ((d 0), 400, .inl ft0))] [((d 0), .byte)] sz)) (va_Qi (fun (r : Int32) (u : Int32 × (Nat → Int32)) => match u with | (n2, f2) => ((380 < nn.toInt ∧ r = (-3) ∧ n2 = nn) ∨ (nn.toInt ≤ 380 ∧ r = n2 ∧ n2.toInt = nn.toInt + 20))) (cB G (fun u => match u with | (n2, f2) => [(h, .inr (10, [.ref (a 0), .ref (a 2), .ref (a 6), .ref (a 8), .ref (a 15), .ref (a 17), .ref (a 22), .ref (a 23), .int cl, .int sp])), ((a 0), .inr (6, [.ref (a 1), .int n2])), ((a 1), .inl ((d 0), 400, .inl f2))]) (fun u => match u with | (n2, f2) => []) (va_A [(h, .inr (10, [.ref (a 0), .ref (a 2), .ref (a 6), .ref (a 8), .ref (a 15), .ref (a 17), .ref (a 22), .ref (a 23), .int cl, .int sp])), ((a 0), .inr (6, [.ref (a 1), .int nn])), ((a 1), .inl ((d 0), 400, .inl ft0))] sz)) (va_A [(h, .inr (10, [.ref (a 0), .ref (a 2), .ref (a 6), .ref (a 8), .ref (a 15), .ref (a 17), .ref (a 22), .ref (a 23), .int cl, .int sp])), ((a 0), .inr (6, [.ref (a 1), .int nn])), ((a 1), .inl ((d 0), 400, .inl ft0))] sz)) 0 0 (va_A [(h, .inr (10, [.ref (a 0), .ref (a 2), .ref (a 6), .ref (a 8), .ref (a 15), .ref (a 17), .ref (a 22), .ref (a 23), .int cl, .int sp])), ((a 0), .inr (6, [.ref (a 1), .int nn])), ((a 1), .inl ((d 0), 400, .inl ft0))] sz) := by
  refine ofC_i (cc := cX10_feed) (maxL := 6) (ret := (some .int)) (by decide) rfl (Nat.le_of_ble_eq_true rfl) ?_
  intro p e s m args below meth c A ls Q F hr hin hlk St hl hQ
  have hx := F.1
  have hb := F.2.1
  have hl : lv_has ls 6 [(0, .ref h), (1, .int x1), (2, .int x2), (3, .int x3), (4, .int x4), (5, .int x5)] := hl
  have St : cS G k [(h, .inr (10, [.ref (a 0), .ref (a 2), .ref (a 6), .ref (a 8), .ref (a 15), .ref (a 17), .ref (a 22), .ref (a 23), .int cl, .int sp])), ((a 0), .inr (6, [.ref (a 1), .int nn])), ((a 1), .inl ((d 0), 400, .inl ft0))] [((d 0), .byte)] A s s.heap [] := St
  have y0 : (0 : Int32).toInt = 0 := by decide
  skip
  refine lv_aload_n hx hb dX10_feed_0 rfl (lv_at hl 0 rfl) ?_
  refine cs_get F St 0 rfl rfl inX10 0 (by decide) kf_X10_10 rfl dX10_feed_1 ?_
  refine cs_i St [1] [0, 2] (wc := [((a 0), .inr (6, [.ref (a 1), .int nn]))]) (wr := [(h, .inr (10, [.ref (a 0), .ref (a 2), .ref (a 6), .ref (a 8), .ref (a 15), .ref (a 17), .ref (a 22), .ref (a 23), .int cl, .int sp])), ((a 1), .inl ((d 0), 400, .inl ft0))]) rfl rfl (by decide) (by decide) (va_runV (As := []) (rest := []) F (x6_has l G k _ (a 0) (a 1) nn) (cwVt F mf_X6_hasRoomForTwenty km_X10_65 rfl rfl ⟨Nat.le_of_ble_eq_true rfl, Nat.le_of_ble_eq_true rfl⟩) (cs_preV St [1] rfl (by decide) [] rfl (ci := 6) (q0 := 1) rfl rfl) rfl rfl hl.1 rfl (lv_room (Nat.le_of_ble_eq_true rfl)) dX10_feed_4 ⟨Nat.le_of_ble_eq_true rfl, Nat.le_of_ble_eq_true rfl⟩) (fun r_1 u_2 H locs hw St => ?_)
  try dsimp only at hw
  rcases hw with ⟨z_3, hf_4⟩ | ⟨z_5, hf_6⟩
  ·
    subst r_1
    have St : cS G k [(h, .inr (10, [.ref (a 0), .ref (a 2), .ref (a 6), .ref (a 8), .ref (a 15), .ref (a 17), .ref (a 22), .ref (a 23), .int cl, .int sp])), ((a 1), .inl ((d 0), 400, .inl ft0)), ((a 0), .inr (6, [.ref (a 1), .int nn]))] [((d 0), .byte)] A s H locs := St
    refine lv_if_ne (tgt := 13) hx hb dX10_feed_7 (by decide) (fun c7 => ?_) (fun c7 => ?_)
    rotate_left
    · exact absurd c7 (by decide)
    refine lv_aload_n hx hb dX10_feed_13 rfl (lv_at hl 0 rfl) ?_
    refine cs_get F St 0 rfl rfl inX10 0 (by decide) kf_X10_10 rfl dX10_feed_14 ?_
    refine lv_iload_n hx hb dX10_feed_17 rfl (lv_at hl 1 rfl) ?_
    refine cs_v St [2, 1] [0] (wc := [((a 0), .inr (6, [.ref (a 1), .int nn])), ((a 1), .inl ((d 0), 400, .inl ft0))]) (wr := [(h, .inr (10, [.ref (a 0), .ref (a 2), .ref (a 6), .ref (a 8), .ref (a 15), .ref (a 17), .ref (a 22), .ref (a 23), .int cl, .int sp]))]) rfl rfl (by decide) (by decide) (va_runV (As := [.int x1]) (rest := []) F (x6_putFour l G k _ (a 0) (a 1) (d 0) nn ft0 x1 (by omega) (by omega)) (cwVt F mf_X6_putFour km_X10_69 rfl rfl ⟨Nat.le_of_ble_eq_true rfl, Nat.le_of_ble_eq_true rfl⟩) (cs_preV St [2, 1] rfl (by decide) [0] rfl (ci := 6) (q0 := 2) rfl rfl) rfl rfl hl.1 rfl (lv_room (Nat.le_of_ble_eq_true rfl)) dX10_feed_18 ⟨Nat.le_of_ble_eq_true rfl, Nat.le_of_ble_eq_true rfl⟩) (fun u_8 H locs hw St => ?_)
    obtain ⟨n2_9, f2_10⟩ := u_8
    try dsimp only at hw
    have hf_11 := hw
    have St : cS G k [(h, .inr (10, [.ref (a 0), .ref (a 2), .ref (a 6), .ref (a 8), .ref (a 15), .ref (a 17), .ref (a 22), .ref (a 23), .int cl, .int sp])), ((a 0), .inr (6, [.ref (a 1), .int n2_9])), ((a 1), .inl ((d 0), 400, .inl f2_10))] [((d 0), .byte)] A s H locs := St
    refine lv_aload_n hx hb dX10_feed_21 rfl (lv_at hl 0 rfl) ?_
    refine cs_get F St 0 rfl rfl inX10 0 (by decide) kf_X10_10 rfl dX10_feed_22 ?_
    refine lv_iload_n hx hb dX10_feed_25 rfl (lv_at hl 2 rfl) ?_
    refine cs_v St [1, 2] [0] (wc := [((a 0), .inr (6, [.ref (a 1), .int n2_9])), ((a 1), .inl ((d 0), 400, .inl f2_10))]) (wr := [(h, .inr (10, [.ref (a 0), .ref (a 2), .ref (a 6), .ref (a 8), .ref (a 15), .ref (a 17), .ref (a 22), .ref (a 23), .int cl, .int sp]))]) rfl rfl (by decide) (by decide) (va_runV (As := [.int x2]) (rest := []) F (x6_putFour l G k _ (a 0) (a 1) (d 0) n2_9 f2_10 x2 (by omega) (by omega)) (cwVt F mf_X6_putFour km_X10_69 rfl rfl ⟨Nat.le_of_ble_eq_true rfl, Nat.le_of_ble_eq_true rfl⟩) (cs_preV St [1, 2] rfl (by decide) [0] rfl (ci := 6) (q0 := 1) rfl rfl) rfl rfl hl.1 rfl (lv_room (Nat.le_of_ble_eq_true rfl)) dX10_feed_26 ⟨Nat.le_of_ble_eq_true rfl, Nat.le_of_ble_eq_true rfl⟩) (fun u_13 H locs hw St => ?_)
    obtain ⟨n2_14, f2_15⟩ := u_13
    try dsimp only at hw
    have hf_16 := hw
    have St : cS G k [(h, .inr (10, [.ref (a 0), .ref (a 2), .ref (a 6), .ref (a 8), .ref (a 15), .ref (a 17), .ref (a 22), .ref (a 23), .int cl, .int sp])), ((a 0), .inr (6, [.ref (a 1), .int n2_14])), ((a 1), .inl ((d 0), 400, .inl f2_15))] [((d 0), .byte)] A s H locs := St
    refine lv_aload_n hx hb dX10_feed_29 rfl (lv_at hl 0 rfl) ?_
    refine cs_get F St 0 rfl rfl inX10 0 (by decide) kf_X10_10 rfl dX10_feed_30 ?_
    refine lv_iload_n hx hb dX10_feed_33 rfl (lv_at hl 3 rfl) ?_
    refine cs_v St [1, 2] [0] (wc := [((a 0), .inr (6, [.ref (a 1), .int n2_14])), ((a 1), .inl ((d 0), 400, .inl f2_15))]) (wr := [(h, .inr (10, [.ref (a 0), .ref (a 2), .ref (a 6), .ref (a 8), .ref (a 15), .ref (a 17), .ref (a 22), .ref (a 23), .int cl, .int sp]))]) rfl rfl (by decide) (by decide) (va_runV (As := [.int x3]) (rest := []) F (x6_putFour l G k _ (a 0) (a 1) (d 0) n2_14 f2_15 x3 (by omega) (by omega)) (cwVt F mf_X6_putFour km_X10_69 rfl rfl ⟨Nat.le_of_ble_eq_true rfl, Nat.le_of_ble_eq_true rfl⟩) (cs_preV St [1, 2] rfl (by decide) [0] rfl (ci := 6) (q0 := 1) rfl rfl) rfl rfl hl.1 rfl (lv_room (Nat.le_of_ble_eq_true rfl)) dX10_feed_34 ⟨Nat.le_of_ble_eq_true rfl, Nat.le_of_ble_eq_true rfl⟩) (fun u_18 H locs hw St => ?_)
    obtain ⟨n2_19, f2_20⟩ := u_18
    try dsimp only at hw
    have hf_21 := hw
    have St : cS G k [(h, .inr (10, [.ref (a 0), .ref (a 2), .ref (a 6), .ref (a 8), .ref (a 15), .ref (a 17), .ref (a 22), .ref (a 23), .int cl, .int sp])), ((a 0), .inr (6, [.ref (a 1), .int n2_19])), ((a 1), .inl ((d 0), 400, .inl f2_20))] [((d 0), .byte)] A s H locs := St
    refine lv_aload_n hx hb dX10_feed_37 rfl (lv_at hl 0 rfl) ?_
    refine cs_get F St 0 rfl rfl inX10 0 (by decide) kf_X10_10 rfl dX10_feed_38 ?_
    refine lv_iload hx hb dX10_feed_41 (lv_at hl 4 rfl) ?_
    refine cs_v St [1, 2] [0] (wc := [((a 0), .inr (6, [.ref (a 1), .int n2_19])), ((a 1), .inl ((d 0), 400, .inl f2_20))]) (wr := [(h, .inr (10, [.ref (a 0), .ref (a 2), .ref (a 6), .ref (a 8), .ref (a 15), .ref (a 17), .ref (a 22), .ref (a 23), .int cl, .int sp]))]) rfl rfl (by decide) (by decide) (va_runV (As := [.int x4]) (rest := []) F (x6_putFour l G k _ (a 0) (a 1) (d 0) n2_19 f2_20 x4 (by omega) (by omega)) (cwVt F mf_X6_putFour km_X10_69 rfl rfl ⟨Nat.le_of_ble_eq_true rfl, Nat.le_of_ble_eq_true rfl⟩) (cs_preV St [1, 2] rfl (by decide) [0] rfl (ci := 6) (q0 := 1) rfl rfl) rfl rfl hl.1 rfl (lv_room (Nat.le_of_ble_eq_true rfl)) dX10_feed_43 ⟨Nat.le_of_ble_eq_true rfl, Nat.le_of_ble_eq_true rfl⟩) (fun u_23 H locs hw St => ?_)
    obtain ⟨n2_24, f2_25⟩ := u_23
    try dsimp only at hw
    have hf_26 := hw
    have St : cS G k [(h, .inr (10, [.ref (a 0), .ref (a 2), .ref (a 6), .ref (a 8), .ref (a 15), .ref (a 17), .ref (a 22), .ref (a 23), .int cl, .int sp])), ((a 0), .inr (6, [.ref (a 1), .int n2_24])), ((a 1), .inl ((d 0), 400, .inl f2_25))] [((d 0), .byte)] A s H locs := St
    refine lv_aload_n hx hb dX10_feed_46 rfl (lv_at hl 0 rfl) ?_
    refine cs_get F St 0 rfl rfl inX10 0 (by decide) kf_X10_10 rfl dX10_feed_47 ?_
    refine lv_iload hx hb dX10_feed_50 (lv_at hl 5 rfl) ?_
    refine cs_v St [1, 2] [0] (wc := [((a 0), .inr (6, [.ref (a 1), .int n2_24])), ((a 1), .inl ((d 0), 400, .inl f2_25))]) (wr := [(h, .inr (10, [.ref (a 0), .ref (a 2), .ref (a 6), .ref (a 8), .ref (a 15), .ref (a 17), .ref (a 22), .ref (a 23), .int cl, .int sp]))]) rfl rfl (by decide) (by decide) (va_runV (As := [.int x5]) (rest := []) F (x6_putFour l G k _ (a 0) (a 1) (d 0) n2_24 f2_25 x5 (by omega) (by omega)) (cwVt F mf_X6_putFour km_X10_69 rfl rfl ⟨Nat.le_of_ble_eq_true rfl, Nat.le_of_ble_eq_true rfl⟩) (cs_preV St [1, 2] rfl (by decide) [0] rfl (ci := 6) (q0 := 1) rfl rfl) rfl rfl hl.1 rfl (lv_room (Nat.le_of_ble_eq_true rfl)) dX10_feed_52 ⟨Nat.le_of_ble_eq_true rfl, Nat.le_of_ble_eq_true rfl⟩) (fun u_28 H locs hw St => ?_)
    obtain ⟨n2_29, f2_30⟩ := u_28
    try dsimp only at hw
    have hf_31 := hw
    have St : cS G k [(h, .inr (10, [.ref (a 0), .ref (a 2), .ref (a 6), .ref (a 8), .ref (a 15), .ref (a 17), .ref (a 22), .ref (a 23), .int cl, .int sp])), ((a 0), .inr (6, [.ref (a 1), .int n2_29])), ((a 1), .inl ((d 0), 400, .inl f2_30))] [((d 0), .byte)] A s H locs := St
    refine lv_aload_n hx hb dX10_feed_55 rfl (lv_at hl 0 rfl) ?_
    refine cs_get F St 0 rfl rfl inX10 0 (by decide) kf_X10_10 rfl dX10_feed_56 ?_
    refine cs_i St [1] [0, 2] (wc := [((a 0), .inr (6, [.ref (a 1), .int n2_29]))]) (wr := [(h, .inr (10, [.ref (a 0), .ref (a 2), .ref (a 6), .ref (a 8), .ref (a 15), .ref (a 17), .ref (a 22), .ref (a 23), .int cl, .int sp])), ((a 1), .inl ((d 0), 400, .inl f2_30))]) rfl rfl (by decide) (by decide) (va_runV (As := []) (rest := []) F (x6_length l G k _ (a 0) (a 1) n2_29) (cwVt F mf_X6_length km_X10_73 rfl rfl ⟨Nat.le_of_ble_eq_true rfl, Nat.le_of_ble_eq_true rfl⟩) (cs_preV St [1] rfl (by decide) [] rfl (ci := 6) (q0 := 1) rfl rfl) rfl rfl hl.1 rfl (lv_room (Nat.le_of_ble_eq_true rfl)) dX10_feed_59 ⟨Nat.le_of_ble_eq_true rfl, Nat.le_of_ble_eq_true rfl⟩) (fun r_32 u_33 H locs hw St => ?_)
    try dsimp only at hw
    have z_34 := hw
    subst r_32
    have St : cS G k [(h, .inr (10, [.ref (a 0), .ref (a 2), .ref (a 6), .ref (a 8), .ref (a 15), .ref (a 17), .ref (a 22), .ref (a 23), .int cl, .int sp])), ((a 1), .inl ((d 0), 400, .inl f2_30)), ((a 0), .inr (6, [.ref (a 1), .int n2_29]))] [((d 0), .byte)] A s H locs := St
    exact cs_iret F hr hlk hQ St (n2_29, f2_30) (r := n2_29) (Or.inr ⟨by omega, rfl, by omega⟩) [0, 2, 1] rfl (by decide) [] rfl (by decide) (by decide) dX10_feed_62
  ·
    subst r_1
    have St : cS G k [(h, .inr (10, [.ref (a 0), .ref (a 2), .ref (a 6), .ref (a 8), .ref (a 15), .ref (a 17), .ref (a 22), .ref (a 23), .int cl, .int sp])), ((a 1), .inl ((d 0), 400, .inl ft0)), ((a 0), .inr (6, [.ref (a 1), .int nn]))] [((d 0), .byte)] A s H locs := St
    refine lv_if_ne (tgt := 13) hx hb dX10_feed_7 (by decide) (fun c7 => ?_) (fun c7 => ?_)
    · exact absurd c7 (by decide)
    refine lv_bipush (v := (-3)) hx hb dX10_feed_10 (by decide) ?_
    exact cs_iret F hr hlk hQ St (nn, ft0) (r := (-3)) (Or.inl ⟨by omega, rfl, rfl⟩) [0, 2, 1] rfl (by decide) [] rfl (by decide) (by decide) dX10_feed_12
set_option maxHeartbeats 4000000 in
set_option maxRecDepth 100000 in
theorem x_end (l : Launch) (G : va_G) (k : Nat → Nat) (sz : Nat) (h : Nat) (a : Nat → Nat) (d : Nat → ClassId) (cl : Int32) (sp : Int32) (nn : Int32) (x1 : Int32) : Met l yX10_end (Cond.code yX10_end cX10_end 2 (some .int) :: tb) ({ frames := 1, cells := 0, slots := 0, locals := 21 } : Room) (va_Pc [.ref h, .int x1] (cP G k [(h, .inr (10, [.ref (a 0), .ref (a 2), .ref (a 6), .ref (a 8), .ref (a 15), .ref (a 17), .ref (a 22), .ref (a 23), .int cl, .int sp])), ((a 0), .inr (6, [.ref (a 1), .int nn]))] [] sz)) (va_Qi (fun (r : Int32) (n2 : Int32) => ((r = (-1) ∧ n2 = nn ∧ ¬ (0 ≤ x1.toInt ∧ x1.toInt ≤ nn.toInt)) ∨ (r = x1 ∧ n2 = x1 ∧ 0 ≤ x1.toInt ∧ x1.toInt ≤ nn.toInt))) (cB G (fun (n2 : Int32) => [(h, .inr (10, [.ref (a 0), .ref (a 2), .ref (a 6), .ref (a 8), .ref (a 15), .ref (a 17), .ref (a 22), .ref (a 23), .int cl, .int sp])), ((a 0), .inr (6, [.ref (a 1), .int n2]))]) (fun (n2 : Int32) => []) (va_A [(h, .inr (10, [.ref (a 0), .ref (a 2), .ref (a 6), .ref (a 8), .ref (a 15), .ref (a 17), .ref (a 22), .ref (a 23), .int cl, .int sp])), ((a 0), .inr (6, [.ref (a 1), .int nn]))] sz)) (va_A [(h, .inr (10, [.ref (a 0), .ref (a 2), .ref (a 6), .ref (a 8), .ref (a 15), .ref (a 17), .ref (a 22), .ref (a 23), .int cl, .int sp])), ((a 0), .inr (6, [.ref (a 1), .int nn]))] sz)) 0 0 (va_A [(h, .inr (10, [.ref (a 0), .ref (a 2), .ref (a 6), .ref (a 8), .ref (a 15), .ref (a 17), .ref (a 22), .ref (a 23), .int cl, .int sp])), ((a 0), .inr (6, [.ref (a 1), .int nn]))] sz) := by
  refine ofC_i (cc := cX10_end) (maxL := 2) (ret := (some .int)) (by decide) rfl (Nat.le_of_ble_eq_true rfl) ?_
  intro p e s m args below meth c A ls Q F hr hin hlk St hl hQ
  have hx := F.1
  have hb := F.2.1
  have hl : lv_has ls 2 [(0, .ref h), (1, .int x1)] := hl
  have St : cS G k [(h, .inr (10, [.ref (a 0), .ref (a 2), .ref (a 6), .ref (a 8), .ref (a 15), .ref (a 17), .ref (a 22), .ref (a 23), .int cl, .int sp])), ((a 0), .inr (6, [.ref (a 1), .int nn]))] [] A s s.heap [] := St
  have y0 : (0 : Int32).toInt = 0 := by decide
  skip
  refine lv_iload_n hx hb dX10_end_0 rfl (lv_at hl 1 rfl) ?_
  refine lv_if_lt (tgt := 15) hx hb dX10_end_1 (by decide) (fun c1 => ?_) (fun c1 => ?_)
  ·
    have i1 := ci_lt (x := x1) (y := 0) rfl (show (0 : Int32).toInt = 0 by decide) c1
    refine lv_iconst (v := (-1)) hx hb dX10_end_15 (by decide) ?_
    exact cs_iret F hr hlk hQ St nn (r := (-1)) (Or.inl ⟨rfl, rfl, by omega⟩) [0, 1] rfl (by decide) [] rfl (by decide) (by decide) dX10_end_16
  ·
    have i1 := ci_nlt (x := x1) (y := 0) rfl (show (0 : Int32).toInt = 0 by decide) c1
    refine lv_iload_n hx hb dX10_end_4 rfl (lv_at hl 1 rfl) ?_
    refine lv_aload_n hx hb dX10_end_5 rfl (lv_at hl 0 rfl) ?_
    refine cs_get F St 0 rfl rfl inX10 0 (by decide) kf_X10_10 rfl dX10_end_6 ?_
    refine cs_i St [1] [0] (wc := [((a 0), .inr (6, [.ref (a 1), .int nn]))]) (wr := [(h, .inr (10, [.ref (a 0), .ref (a 2), .ref (a 6), .ref (a 8), .ref (a 15), .ref (a 17), .ref (a 22), .ref (a 23), .int cl, .int sp]))]) rfl rfl (by decide) (by decide) (va_runV (As := []) (rest := [.int x1]) F (x6_length l G k _ (a 0) (a 1) nn) (cwVt F mf_X6_length km_X10_73 rfl rfl ⟨Nat.le_of_ble_eq_true rfl, Nat.le_of_ble_eq_true rfl⟩) (cs_preV St [1] rfl (by decide) [] rfl (ci := 6) (q0 := 1) rfl rfl) rfl rfl hl.1 rfl (lv_room (Nat.le_of_ble_eq_true rfl)) dX10_end_9 ⟨Nat.le_of_ble_eq_true rfl, Nat.le_of_ble_eq_true rfl⟩) (fun r_1 u_2 H locs hw St => ?_)
    try dsimp only at hw
    have z_3 := hw
    subst r_1
    have St : cS G k [(h, .inr (10, [.ref (a 0), .ref (a 2), .ref (a 6), .ref (a 8), .ref (a 15), .ref (a 17), .ref (a 22), .ref (a 23), .int cl, .int sp])), ((a 0), .inr (6, [.ref (a 1), .int nn]))] [] A s H locs := St
    refine lv_icmp_le (tgt := 17) hx hb dX10_end_12 (by decide) (fun c12 => ?_) (fun c12 => ?_)
    ·
      have i12 := ci_le (x := x1) (y := nn) rfl rfl c12
      refine lv_aload_n hx hb dX10_end_17 rfl (lv_at hl 0 rfl) ?_
      refine cs_get F St 0 rfl rfl inX10 0 (by decide) kf_X10_10 rfl dX10_end_18 ?_
      refine lv_iload_n hx hb dX10_end_21 rfl (lv_at hl 1 rfl) ?_
      refine cs_v St [1] [0] (wc := [((a 0), .inr (6, [.ref (a 1), .int nn]))]) (wr := [(h, .inr (10, [.ref (a 0), .ref (a 2), .ref (a 6), .ref (a 8), .ref (a 15), .ref (a 17), .ref (a 22), .ref (a 23), .int cl, .int sp]))]) rfl rfl (by decide) (by decide) (va_runV (As := [.int x1]) (rest := []) F (x6_cutTo l G k _ (a 0) (a 1) nn x1) (cwVt F mf_X6_cutTo km_X10_77 rfl rfl ⟨Nat.le_of_ble_eq_true rfl, Nat.le_of_ble_eq_true rfl⟩) (cs_preV St [1] rfl (by decide) [] rfl (ci := 6) (q0 := 1) rfl rfl) rfl rfl hl.1 rfl (lv_room (Nat.le_of_ble_eq_true rfl)) dX10_end_22 ⟨Nat.le_of_ble_eq_true rfl, Nat.le_of_ble_eq_true rfl⟩) (fun u_5 H locs hw St => ?_)
      try dsimp only at hw
      have St : cS G k [(h, .inr (10, [.ref (a 0), .ref (a 2), .ref (a 6), .ref (a 8), .ref (a 15), .ref (a 17), .ref (a 22), .ref (a 23), .int cl, .int sp])), ((a 0), .inr (6, [.ref (a 1), .int x1]))] [] A s H locs := St
      refine lv_iload_n hx hb dX10_end_25 rfl (lv_at hl 1 rfl) ?_
      exact cs_iret F hr hlk hQ St x1 (r := x1) (Or.inr ⟨rfl, rfl, by omega⟩) [0, 1] rfl (by decide) [] rfl (by decide) (by decide) dX10_end_26
    ·
      have i12 := ci_nle (x := x1) (y := nn) rfl rfl c12
      refine lv_iconst (v := (-1)) hx hb dX10_end_15 (by decide) ?_
      exact cs_iret F hr hlk hQ St nn (r := (-1)) (Or.inl ⟨rfl, rfl, by omega⟩) [0, 1] rfl (by decide) [] rfl (by decide) (by decide) dX10_end_16
set_option maxHeartbeats 4000000 in
set_option maxRecDepth 100000 in
theorem x_trust (l : Launch) (G : va_G) (k : Nat → Nat) (sz : Nat) (h : Nat) (a : Nat → Nat) (d : Nat → ClassId) (cl : Int32) (sp : Int32) (nn : Int32) (ft0 : Nat → Int32) (rh : Int32) (rt : Int32) (rs : Int32) (rv : Int32) (rk : Int32) (rp : Int32) (fd : Nat → Int32) (ft : Nat → Int32) (fr : Nat → Int32) : Met l yX10_trust (Cond.code yX10_trust cX10_trust 2 (some .int) :: tb) ({ frames := 8, cells := 0, slots := 0, locals := 174 } : Room) (va_Pc [.ref h] (cP G k [(h, .inr (10, [.ref (a 0), .ref (a 2), .ref (a 6), .ref (a 8), .ref (a 15), .ref (a 17), .ref (a 22), .ref (a 23), .int cl, .int sp])), ((a 0), .inr (6, [.ref (a 1), .int nn])), ((a 1), .inl ((d 0), 400, .inl ft0)), ((a 2), .inr (9, [.ref (a 3), .ref (a 5), .int rh, .int rt, .int rs, .int rv, .int rk, .int rp])), ((a 3), .inr (8, [.ref (a 4)])), ((a 4), .inl ((d 1), 9, .inl fd)), ((a 5), .inl ((d 2), 6, .inl ft)), ((a 6), .inr (8, [.ref (a 7)])), ((a 7), .inl ((d 3), 9, .inl fr))] [((d 0), .byte), ((d 1), .int), ((d 2), .boolean), ((d 3), .int)] sz)) (va_Qi (fun (r : Int32) (u : Int32 × Int32 × Int32 × Int32 × Int32 × Int32 × (Nat → Int32) × (Nat → Int32) × (Nat → Int32)) => match u with | (rh2, rt2, rs2, rv2, rk2, rp2, fd2, ft2, fr2) => True) (cB G (fun u => match u with | (rh2, rt2, rs2, rv2, rk2, rp2, fd2, ft2, fr2) => [(h, .inr (10, [.ref (a 0), .ref (a 2), .ref (a 6), .ref (a 8), .ref (a 15), .ref (a 17), .ref (a 22), .ref (a 23), .int cl, .int sp])), ((a 0), .inr (6, [.ref (a 1), .int 0])), ((a 1), .inl ((d 0), 400, .inl ft0)), ((a 2), .inr (9, [.ref (a 3), .ref (a 5), .int rh2, .int rt2, .int rs2, .int rv2, .int rk2, .int rp2])), ((a 3), .inr (8, [.ref (a 4)])), ((a 4), .inl ((d 1), 9, .inl fd2)), ((a 5), .inl ((d 2), 6, .inl ft2)), ((a 6), .inr (8, [.ref (a 7)])), ((a 7), .inl ((d 3), 9, .inl fr2))]) (fun u => match u with | (rh2, rt2, rs2, rv2, rk2, rp2, fd2, ft2, fr2) => []) (va_A [(h, .inr (10, [.ref (a 0), .ref (a 2), .ref (a 6), .ref (a 8), .ref (a 15), .ref (a 17), .ref (a 22), .ref (a 23), .int cl, .int sp])), ((a 0), .inr (6, [.ref (a 1), .int nn])), ((a 1), .inl ((d 0), 400, .inl ft0)), ((a 2), .inr (9, [.ref (a 3), .ref (a 5), .int rh, .int rt, .int rs, .int rv, .int rk, .int rp])), ((a 3), .inr (8, [.ref (a 4)])), ((a 4), .inl ((d 1), 9, .inl fd)), ((a 5), .inl ((d 2), 6, .inl ft)), ((a 6), .inr (8, [.ref (a 7)])), ((a 7), .inl ((d 3), 9, .inl fr))] sz)) (va_A [(h, .inr (10, [.ref (a 0), .ref (a 2), .ref (a 6), .ref (a 8), .ref (a 15), .ref (a 17), .ref (a 22), .ref (a 23), .int cl, .int sp])), ((a 0), .inr (6, [.ref (a 1), .int nn])), ((a 1), .inl ((d 0), 400, .inl ft0)), ((a 2), .inr (9, [.ref (a 3), .ref (a 5), .int rh, .int rt, .int rs, .int rv, .int rk, .int rp])), ((a 3), .inr (8, [.ref (a 4)])), ((a 4), .inl ((d 1), 9, .inl fd)), ((a 5), .inl ((d 2), 6, .inl ft)), ((a 6), .inr (8, [.ref (a 7)])), ((a 7), .inl ((d 3), 9, .inl fr))] sz)) 0 0 (va_A [(h, .inr (10, [.ref (a 0), .ref (a 2), .ref (a 6), .ref (a 8), .ref (a 15), .ref (a 17), .ref (a 22), .ref (a 23), .int cl, .int sp])), ((a 0), .inr (6, [.ref (a 1), .int nn])), ((a 1), .inl ((d 0), 400, .inl ft0)), ((a 2), .inr (9, [.ref (a 3), .ref (a 5), .int rh, .int rt, .int rs, .int rv, .int rk, .int rp])), ((a 3), .inr (8, [.ref (a 4)])), ((a 4), .inl ((d 1), 9, .inl fd)), ((a 5), .inl ((d 2), 6, .inl ft)), ((a 6), .inr (8, [.ref (a 7)])), ((a 7), .inl ((d 3), 9, .inl fr))] sz) := by
  refine ofC_i (cc := cX10_trust) (maxL := 2) (ret := (some .int)) (by decide) rfl (Nat.le_of_ble_eq_true rfl) ?_
  intro p e s m args below meth c A ls Q F hr hin hlk St hl hQ
  have hx := F.1
  have hb := F.2.1
  have hl : lv_has ls 2 [(0, .ref h)] := hl
  have St : cS G k [(h, .inr (10, [.ref (a 0), .ref (a 2), .ref (a 6), .ref (a 8), .ref (a 15), .ref (a 17), .ref (a 22), .ref (a 23), .int cl, .int sp])), ((a 0), .inr (6, [.ref (a 1), .int nn])), ((a 1), .inl ((d 0), 400, .inl ft0)), ((a 2), .inr (9, [.ref (a 3), .ref (a 5), .int rh, .int rt, .int rs, .int rv, .int rk, .int rp])), ((a 3), .inr (8, [.ref (a 4)])), ((a 4), .inl ((d 1), 9, .inl fd)), ((a 5), .inl ((d 2), 6, .inl ft)), ((a 6), .inr (8, [.ref (a 7)])), ((a 7), .inl ((d 3), 9, .inl fr))] [((d 0), .byte), ((d 1), .int), ((d 2), .boolean), ((d 3), .int)] A s s.heap [] := St
  have y0 : (0 : Int32).toInt = 0 := by decide
  skip
  refine lv_aload_n hx hb dX10_trust_0 rfl (lv_at hl 0 rfl) ?_
  refine cs_get F St 0 rfl rfl inX10 1 (by decide) kf_X10_19 rfl dX10_trust_1 ?_
  refine lv_aload_n hx hb dX10_trust_4 rfl (lv_at hl 0 rfl) ?_
  refine cs_get F St 0 rfl rfl inX10 0 (by decide) kf_X10_10 rfl dX10_trust_5 ?_
  refine cs_i St [3, 4, 5, 6, 1, 2] [0, 7, 8] (wc := [((a 2), .inr (9, [.ref (a 3), .ref (a 5), .int rh, .int rt, .int rs, .int rv, .int rk, .int rp])), ((a 3), .inr (8, [.ref (a 4)])), ((a 4), .inl ((d 1), 9, .inl fd)), ((a 5), .inl ((d 2), 6, .inl ft)), ((a 0), .inr (6, [.ref (a 1), .int nn])), ((a 1), .inl ((d 0), 400, .inl ft0))]) (wr := [(h, .inr (10, [.ref (a 0), .ref (a 2), .ref (a 6), .ref (a 8), .ref (a 15), .ref (a 17), .ref (a 22), .ref (a 23), .int cl, .int sp])), ((a 6), .inr (8, [.ref (a 7)])), ((a 7), .inl ((d 3), 9, .inl fr))]) rfl rfl (by decide) (by decide) (va_runV (As := [.ref (a 0)]) (rest := []) F (x9_read l G k _ (a 2) (a 3) (a 4) (a 5) (d 1) (d 2) rh rt rs rv rk rp fd ft (a 0) (a 1) (d 0) nn ft0) (cwVt F mf_X9_read km_X10_80 rfl rfl ⟨Nat.le_of_ble_eq_true rfl, Nat.le_of_ble_eq_true rfl⟩) (cs_preV St [3, 4, 5, 6, 1, 2] rfl (by decide) [1, 2, 0] rfl (ci := 9) (q0 := 3) rfl rfl) rfl rfl hl.1 rfl (lv_room (Nat.le_of_ble_eq_true rfl)) dX10_trust_8 ⟨Nat.le_of_ble_eq_true rfl, Nat.le_of_ble_eq_true rfl⟩) (fun r_1 u_2 H locs hw St => ?_)
  obtain ⟨rh2_3, rt2_4, rs2_5, rv2_6, rk2_7, rp2_8, fd2_9, ft2_10⟩ := u_2
  try dsimp only at hw
  have St : cS G k [(h, .inr (10, [.ref (a 0), .ref (a 2), .ref (a 6), .ref (a 8), .ref (a 15), .ref (a 17), .ref (a 22), .ref (a 23), .int cl, .int sp])), ((a 6), .inr (8, [.ref (a 7)])), ((a 7), .inl ((d 3), 9, .inl fr)), ((a 2), .inr (9, [.ref (a 3), .ref (a 5), .int rh2_3, .int rt2_4, .int rs2_5, .int rv2_6, .int rk2_7, .int rp2_8])), ((a 3), .inr (8, [.ref (a 4)])), ((a 4), .inl ((d 1), 9, .inl fd2_9)), ((a 5), .inl ((d 2), 6, .inl ft2_10)), ((a 0), .inr (6, [.ref (a 1), .int nn])), ((a 1), .inl ((d 0), 400, .inl ft0))] [((d 0), .byte), ((d 1), .int), ((d 2), .boolean), ((d 3), .int)] A s H locs := St
  refine lv_istore_n (lv' := [(1, .int r_1), (0, .ref h)]) hx hb dX10_trust_11 rfl hl (by decide) rfl (fun ls hl => ?_)
  refine lv_aload_n hx hb dX10_trust_12 rfl (lv_at hl 1 rfl) ?_
  refine cs_get F St 0 rfl rfl inX10 0 (by decide) kf_X10_10 rfl dX10_trust_13 ?_
  refine lv_iconst (v := 0) hx hb dX10_trust_16 (by decide) ?_
  refine cs_v St [7] [0, 1, 2, 3, 4, 5, 6, 8] (wc := [((a 0), .inr (6, [.ref (a 1), .int nn]))]) (wr := [(h, .inr (10, [.ref (a 0), .ref (a 2), .ref (a 6), .ref (a 8), .ref (a 15), .ref (a 17), .ref (a 22), .ref (a 23), .int cl, .int sp])), ((a 6), .inr (8, [.ref (a 7)])), ((a 7), .inl ((d 3), 9, .inl fr)), ((a 2), .inr (9, [.ref (a 3), .ref (a 5), .int rh2_3, .int rt2_4, .int rs2_5, .int rv2_6, .int rk2_7, .int rp2_8])), ((a 3), .inr (8, [.ref (a 4)])), ((a 4), .inl ((d 1), 9, .inl fd2_9)), ((a 5), .inl ((d 2), 6, .inl ft2_10)), ((a 1), .inl ((d 0), 400, .inl ft0))]) rfl rfl (by decide) (by decide) (va_runV (As := [.int 0]) (rest := []) F (x6_cutTo l G k _ (a 0) (a 1) nn 0) (cwVt F mf_X6_cutTo km_X10_77 rfl rfl ⟨Nat.le_of_ble_eq_true rfl, Nat.le_of_ble_eq_true rfl⟩) (cs_preV St [7] rfl (by decide) [] rfl (ci := 6) (q0 := 7) rfl rfl) rfl rfl hl.1 rfl (lv_room (Nat.le_of_ble_eq_true rfl)) dX10_trust_17 ⟨Nat.le_of_ble_eq_true rfl, Nat.le_of_ble_eq_true rfl⟩) (fun u_12 H locs hw St => ?_)
  try dsimp only at hw
  have St : cS G k [(h, .inr (10, [.ref (a 0), .ref (a 2), .ref (a 6), .ref (a 8), .ref (a 15), .ref (a 17), .ref (a 22), .ref (a 23), .int cl, .int sp])), ((a 6), .inr (8, [.ref (a 7)])), ((a 7), .inl ((d 3), 9, .inl fr)), ((a 2), .inr (9, [.ref (a 3), .ref (a 5), .int rh2_3, .int rt2_4, .int rs2_5, .int rv2_6, .int rk2_7, .int rp2_8])), ((a 3), .inr (8, [.ref (a 4)])), ((a 4), .inl ((d 1), 9, .inl fd2_9)), ((a 5), .inl ((d 2), 6, .inl ft2_10)), ((a 1), .inl ((d 0), 400, .inl ft0)), ((a 0), .inr (6, [.ref (a 1), .int 0]))] [((d 0), .byte), ((d 1), .int), ((d 2), .boolean), ((d 3), .int)] A s H locs := St
  refine lv_iload_n hx hb dX10_trust_20 rfl (lv_at hl 0 rfl) ?_
  refine lv_iconst (v := (-1)) hx hb dX10_trust_21 (by decide) ?_
  refine lv_icmp_eq (tgt := 39) hx hb dX10_trust_22 (by decide) (fun c22 => ?_) (fun c22 => ?_)
  ·
    have i22 := ci_eq (x := r_1) (y := (-1)) rfl (show ((-1) : Int32).toInt = -1 by decide) c22
    refine lv_iload_n hx hb dX10_trust_39 rfl (lv_at hl 0 rfl) ?_
    exact cs_iret F hr hlk hQ St (rh2_3, rt2_4, rs2_5, rv2_6, rk2_7, rp2_8, fd2_9, ft2_10, fr) (r := r_1) (by trivial) [0, 8, 7, 3, 4, 5, 6, 1, 2] rfl (by decide) [] rfl (by decide) (by decide) dX10_trust_40
  ·
    have i22 := ci_ne (x := r_1) (y := (-1)) rfl (show ((-1) : Int32).toInt = -1 by decide) c22
    refine lv_aload_n hx hb dX10_trust_25 rfl (lv_at hl 1 rfl) ?_
    refine cs_get F St 0 rfl rfl inX10 2 (by decide) kf_X10_26 rfl dX10_trust_26 ?_
    refine lv_aload_n hx hb dX10_trust_29 rfl (lv_at hl 1 rfl) ?_
    refine cs_get F St 0 rfl rfl inX10 1 (by decide) kf_X10_19 rfl dX10_trust_30 ?_
    refine cs_q St [3] [0, 1, 2, 4, 5, 6, 7, 8] (wc := [((a 2), .inr (9, [.ref (a 3), .ref (a 5), .int rh2_3, .int rt2_4, .int rs2_5, .int rv2_6, .int rk2_7, .int rp2_8]))]) (wr := [(h, .inr (10, [.ref (a 0), .ref (a 2), .ref (a 6), .ref (a 8), .ref (a 15), .ref (a 17), .ref (a 22), .ref (a 23), .int cl, .int sp])), ((a 6), .inr (8, [.ref (a 7)])), ((a 7), .inl ((d 3), 9, .inl fr)), ((a 3), .inr (8, [.ref (a 4)])), ((a 4), .inl ((d 1), 9, .inl fd2_9)), ((a 5), .inl ((d 2), 6, .inl ft2_10)), ((a 1), .inl ((d 0), 400, .inl ft0)), ((a 0), .inr (6, [.ref (a 1), .int 0]))]) rfl rfl (by decide) (by decide) (va_runV (As := []) (rest := [.ref (a 6)]) F (x9_draft l G k _ (a 2) (a 3) (a 5) rh2_3 rt2_4 rs2_5 rv2_6 rk2_7 rp2_8) (cwVt F mf_X9_draft km_X10_84 rfl rfl ⟨Nat.le_of_ble_eq_true rfl, Nat.le_of_ble_eq_true rfl⟩) (cs_preV St [3] rfl (by decide) [] rfl (ci := 9) (q0 := 3) rfl rfl) rfl rfl hl.1 rfl (lv_room (Nat.le_of_ble_eq_true rfl)) dX10_trust_33 ⟨Nat.le_of_ble_eq_true rfl, Nat.le_of_ble_eq_true rfl⟩) (fun r_13 u_14 H locs hw St => ?_)
    try dsimp only at hw
    have z_15 := hw
    subst r_13
    have St : cS G k [(h, .inr (10, [.ref (a 0), .ref (a 2), .ref (a 6), .ref (a 8), .ref (a 15), .ref (a 17), .ref (a 22), .ref (a 23), .int cl, .int sp])), ((a 6), .inr (8, [.ref (a 7)])), ((a 7), .inl ((d 3), 9, .inl fr)), ((a 3), .inr (8, [.ref (a 4)])), ((a 4), .inl ((d 1), 9, .inl fd2_9)), ((a 5), .inl ((d 2), 6, .inl ft2_10)), ((a 1), .inl ((d 0), 400, .inl ft0)), ((a 0), .inr (6, [.ref (a 1), .int 0])), ((a 2), .inr (9, [.ref (a 3), .ref (a 5), .int rh2_3, .int rt2_4, .int rs2_5, .int rv2_6, .int rk2_7, .int rp2_8]))] [((d 0), .byte), ((d 1), .int), ((d 2), .boolean), ((d 3), .int)] A s H locs := St
    show W _ _ _ _ _ _ _ _ _ _ _ _ _ _ _ (F0 m 36 ls [.ref (a 3), .ref (a 6)])
    refine cs_v St [1, 2, 3, 4] [0, 5, 6, 7, 8] (wc := [((a 6), .inr (8, [.ref (a 7)])), ((a 7), .inl ((d 3), 9, .inl fr)), ((a 3), .inr (8, [.ref (a 4)])), ((a 4), .inl ((d 1), 9, .inl fd2_9))]) (wr := [(h, .inr (10, [.ref (a 0), .ref (a 2), .ref (a 6), .ref (a 8), .ref (a 15), .ref (a 17), .ref (a 22), .ref (a 23), .int cl, .int sp])), ((a 5), .inl ((d 2), 6, .inl ft2_10)), ((a 1), .inl ((d 0), 400, .inl ft0)), ((a 0), .inr (6, [.ref (a 1), .int 0])), ((a 2), .inr (9, [.ref (a 3), .ref (a 5), .int rh2_3, .int rt2_4, .int rs2_5, .int rv2_6, .int rk2_7, .int rp2_8]))]) rfl rfl (by decide) (by decide) (va_runV (As := [.ref (a 3)]) (rest := []) F (x8_takeOver l G k _ (a 6) (a 7) (a 3) (a 4) (d 3) (d 1) fr fd2_9) (cwVt F mf_X8_takeOver km_X10_88 rfl rfl ⟨Nat.le_of_ble_eq_true rfl, Nat.le_of_ble_eq_true rfl⟩) (cs_preV St [1, 2, 3, 4] rfl (by decide) [3, 1] rfl (ci := 8) (q0 := 1) rfl rfl) rfl rfl hl.1 rfl (lv_room (Nat.le_of_ble_eq_true rfl)) dX10_trust_36 ⟨Nat.le_of_ble_eq_true rfl, Nat.le_of_ble_eq_true rfl⟩) (fun u_17 H locs hw St => ?_)
    obtain ⟨f2_18, rfl⟩ : ∃ z, z = u_17 := ⟨_, rfl⟩
    try dsimp only at hw
    have St : cS G k [(h, .inr (10, [.ref (a 0), .ref (a 2), .ref (a 6), .ref (a 8), .ref (a 15), .ref (a 17), .ref (a 22), .ref (a 23), .int cl, .int sp])), ((a 5), .inl ((d 2), 6, .inl ft2_10)), ((a 1), .inl ((d 0), 400, .inl ft0)), ((a 0), .inr (6, [.ref (a 1), .int 0])), ((a 2), .inr (9, [.ref (a 3), .ref (a 5), .int rh2_3, .int rt2_4, .int rs2_5, .int rv2_6, .int rk2_7, .int rp2_8])), ((a 6), .inr (8, [.ref (a 7)])), ((a 7), .inl ((d 3), 9, .inl f2_18)), ((a 3), .inr (8, [.ref (a 4)])), ((a 4), .inl ((d 1), 9, .inl fd2_9))] [((d 0), .byte), ((d 1), .int), ((d 2), .boolean), ((d 3), .int)] A s H locs := St
    refine lv_iload_n hx hb dX10_trust_39 rfl (lv_at hl 0 rfl) ?_
    exact cs_iret F hr hlk hQ St (rh2_3, rt2_4, rs2_5, rv2_6, rk2_7, rp2_8, fd2_9, ft2_10, f2_18) (r := r_1) (by trivial) [0, 3, 2, 4, 7, 8, 1, 5, 6] rfl (by decide) [] rfl (by decide) (by decide) dX10_trust_40
set_option maxHeartbeats 4000000 in
set_option maxRecDepth 100000 in
theorem x_fault (l : Launch) (G : va_G) (k : Nat → Nat) (sz : Nat) (h : Nat) (a : Nat → Nat) (d : Nat → ClassId) (cl : Int32) (sp : Int32) (rh : Int32) (rt : Int32) (rs : Int32) (rv : Int32) (rk : Int32) (rp : Int32) (x1 : Int32) : Met l yX10_fault (Cond.code yX10_fault cX10_fault 2 (some .int) :: tb) ({ frames := 1, cells := 0, slots := 0, locals := 20 } : Room) (va_Pc [.ref h, .int x1] (cP G k [(h, .inr (10, [.ref (a 0), .ref (a 2), .ref (a 6), .ref (a 8), .ref (a 15), .ref (a 17), .ref (a 22), .ref (a 23), .int cl, .int sp])), ((a 2), .inr (9, [.ref (a 3), .ref (a 5), .int rh, .int rt, .int rs, .int rv, .int rk, .int rp]))] [] sz)) (va_Qi (fun (r : Int32) (_ : Unit) => True) (cB G (fun (_ : Unit) => [(h, .inr (10, [.ref (a 0), .ref (a 2), .ref (a 6), .ref (a 8), .ref (a 15), .ref (a 17), .ref (a 22), .ref (a 23), .int cl, .int sp])), ((a 2), .inr (9, [.ref (a 3), .ref (a 5), .int rh, .int rt, .int rs, .int rv, .int rk, .int rp]))]) (fun (_ : Unit) => []) (va_A [(h, .inr (10, [.ref (a 0), .ref (a 2), .ref (a 6), .ref (a 8), .ref (a 15), .ref (a 17), .ref (a 22), .ref (a 23), .int cl, .int sp])), ((a 2), .inr (9, [.ref (a 3), .ref (a 5), .int rh, .int rt, .int rs, .int rv, .int rk, .int rp]))] sz)) (va_A [(h, .inr (10, [.ref (a 0), .ref (a 2), .ref (a 6), .ref (a 8), .ref (a 15), .ref (a 17), .ref (a 22), .ref (a 23), .int cl, .int sp])), ((a 2), .inr (9, [.ref (a 3), .ref (a 5), .int rh, .int rt, .int rs, .int rv, .int rk, .int rp]))] sz)) 0 0 (va_A [(h, .inr (10, [.ref (a 0), .ref (a 2), .ref (a 6), .ref (a 8), .ref (a 15), .ref (a 17), .ref (a 22), .ref (a 23), .int cl, .int sp])), ((a 2), .inr (9, [.ref (a 3), .ref (a 5), .int rh, .int rt, .int rs, .int rv, .int rk, .int rp]))] sz) := by
  refine ofC_i (cc := cX10_fault) (maxL := 2) (ret := (some .int)) (by decide) rfl (Nat.le_of_ble_eq_true rfl) ?_
  intro p e s m args below meth c A ls Q F hr hin hlk St hl hQ
  have hx := F.1
  have hb := F.2.1
  have hl : lv_has ls 2 [(0, .ref h), (1, .int x1)] := hl
  have St : cS G k [(h, .inr (10, [.ref (a 0), .ref (a 2), .ref (a 6), .ref (a 8), .ref (a 15), .ref (a 17), .ref (a 22), .ref (a 23), .int cl, .int sp])), ((a 2), .inr (9, [.ref (a 3), .ref (a 5), .int rh, .int rt, .int rs, .int rv, .int rk, .int rp]))] [] A s s.heap [] := St
  have y0 : (0 : Int32).toInt = 0 := by decide
  skip
  refine lv_iload_n hx hb dX10_fault_0 rfl (lv_at hl 1 rfl) ?_
  refine lv_if_ne (tgt := 12) hx hb dX10_fault_1 (by decide) (fun c1 => ?_) (fun c1 => ?_)
  ·
    have i1 := ci_ne (x := x1) (y := 0) rfl (show (0 : Int32).toInt = 0 by decide) c1
    refine lv_iload_n hx hb dX10_fault_12 rfl (lv_at hl 1 rfl) ?_
    refine lv_iconst (v := 1) hx hb dX10_fault_13 (by decide) ?_
    refine lv_icmp_ne (tgt := 27) hx hb dX10_fault_14 (by decide) (fun c14 => ?_) (fun c14 => ?_)
    ·
      have i14 := ci_ne (x := x1) (y := 1) rfl (show (1 : Int32).toInt = 1 by decide) c14
      refine lv_iconst (v := (-1)) hx hb dX10_fault_27 (by decide) ?_
      exact cs_iret F hr hlk hQ St () (r := (-1)) (by trivial) [0, 1] rfl (by decide) [] rfl (by decide) (by decide) dX10_fault_28
    ·
      have i14 := ci_eq (x := x1) (y := 1) rfl (show (1 : Int32).toInt = 1 by decide) c14
      refine lv_aload_n hx hb dX10_fault_17 rfl (lv_at hl 0 rfl) ?_
      refine cs_get F St 0 rfl rfl inX10 1 (by decide) kf_X10_19 rfl dX10_fault_18 ?_
      refine cs_i St [1] [0] (wc := [((a 2), .inr (9, [.ref (a 3), .ref (a 5), .int rh, .int rt, .int rs, .int rv, .int rk, .int rp]))]) (wr := [(h, .inr (10, [.ref (a 0), .ref (a 2), .ref (a 6), .ref (a 8), .ref (a 15), .ref (a 17), .ref (a 22), .ref (a 23), .int cl, .int sp]))]) rfl rfl (by decide) (by decide) (va_runV (As := []) (rest := []) F (x9_faultPlace l G k _ (a 2) (a 3) (a 5) rh rt rs rv rk rp) (cwVt F mf_X9_faultPlace km_X10_95 rfl rfl ⟨Nat.le_of_ble_eq_true rfl, Nat.le_of_ble_eq_true rfl⟩) (cs_preV St [1] rfl (by decide) [] rfl (ci := 9) (q0 := 1) rfl rfl) rfl rfl hl.1 rfl (lv_room (Nat.le_of_ble_eq_true rfl)) dX10_fault_21 ⟨Nat.le_of_ble_eq_true rfl, Nat.le_of_ble_eq_true rfl⟩) (fun r_1 u_2 H locs hw St => ?_)
      try dsimp only at hw
      have St : cS G k [(h, .inr (10, [.ref (a 0), .ref (a 2), .ref (a 6), .ref (a 8), .ref (a 15), .ref (a 17), .ref (a 22), .ref (a 23), .int cl, .int sp])), ((a 2), .inr (9, [.ref (a 3), .ref (a 5), .int rh, .int rt, .int rs, .int rv, .int rk, .int rp]))] [] A s H locs := St
      refine lv_goto (tgt := 28) hx hb dX10_fault_24 (by decide) ?_
      exact cs_iret F hr hlk hQ St () (r := r_1) (by trivial) [0, 1] rfl (by decide) [] rfl (by decide) (by decide) dX10_fault_28
  ·
    have i1 := ci_eq (x := x1) (y := 0) rfl (show (0 : Int32).toInt = 0 by decide) c1
    refine lv_aload_n hx hb dX10_fault_4 rfl (lv_at hl 0 rfl) ?_
    refine cs_get F St 0 rfl rfl inX10 1 (by decide) kf_X10_19 rfl dX10_fault_5 ?_
    refine cs_i St [1] [0] (wc := [((a 2), .inr (9, [.ref (a 3), .ref (a 5), .int rh, .int rt, .int rs, .int rv, .int rk, .int rp]))]) (wr := [(h, .inr (10, [.ref (a 0), .ref (a 2), .ref (a 6), .ref (a 8), .ref (a 15), .ref (a 17), .ref (a 22), .ref (a 23), .int cl, .int sp]))]) rfl rfl (by decide) (by decide) (va_runV (As := []) (rest := []) F (x9_faultKind l G k _ (a 2) (a 3) (a 5) rh rt rs rv rk rp) (cwVt F mf_X9_faultKind km_X10_92 rfl rfl ⟨Nat.le_of_ble_eq_true rfl, Nat.le_of_ble_eq_true rfl⟩) (cs_preV St [1] rfl (by decide) [] rfl (ci := 9) (q0 := 1) rfl rfl) rfl rfl hl.1 rfl (lv_room (Nat.le_of_ble_eq_true rfl)) dX10_fault_8 ⟨Nat.le_of_ble_eq_true rfl, Nat.le_of_ble_eq_true rfl⟩) (fun r_3 u_4 H locs hw St => ?_)
    try dsimp only at hw
    have St : cS G k [(h, .inr (10, [.ref (a 0), .ref (a 2), .ref (a 6), .ref (a 8), .ref (a 15), .ref (a 17), .ref (a 22), .ref (a 23), .int cl, .int sp])), ((a 2), .inr (9, [.ref (a 3), .ref (a 5), .int rh, .int rt, .int rs, .int rv, .int rk, .int rp]))] [] A s H locs := St
    exact cs_iret F hr hlk hQ St () (r := r_3) (by trivial) [0, 1] rfl (by decide) [] rfl (by decide) (by decide) dX10_fault_11
set_option maxHeartbeats 4000000 in
set_option maxRecDepth 100000 in
theorem x_rule (l : Launch) (G : va_G) (k : Nat → Nat) (sz : Nat) (h : Nat) (a : Nat → Nat) (d : Nat → ClassId) (cl : Int32) (sp : Int32) (fr : Nat → Int32) (x1 : Int32) : Met l yX10_rule (Cond.code yX10_rule cX10_rule 2 (some .int) :: tb) ({ frames := 1, cells := 0, slots := 0, locals := 21 } : Room) (va_Pc [.ref h, .int x1] (cP G k [(h, .inr (10, [.ref (a 0), .ref (a 2), .ref (a 6), .ref (a 8), .ref (a 15), .ref (a 17), .ref (a 22), .ref (a 23), .int cl, .int sp])), ((a 6), .inr (8, [.ref (a 7)])), ((a 7), .inl ((d 3), 9, .inl fr))] [((d 3), .int)] sz)) (va_Qi (fun (r : Int32) (_ : Unit) => True) (cB G (fun (_ : Unit) => [(h, .inr (10, [.ref (a 0), .ref (a 2), .ref (a 6), .ref (a 8), .ref (a 15), .ref (a 17), .ref (a 22), .ref (a 23), .int cl, .int sp])), ((a 6), .inr (8, [.ref (a 7)])), ((a 7), .inl ((d 3), 9, .inl fr))]) (fun (_ : Unit) => []) (va_A [(h, .inr (10, [.ref (a 0), .ref (a 2), .ref (a 6), .ref (a 8), .ref (a 15), .ref (a 17), .ref (a 22), .ref (a 23), .int cl, .int sp])), ((a 6), .inr (8, [.ref (a 7)])), ((a 7), .inl ((d 3), 9, .inl fr))] sz)) (va_A [(h, .inr (10, [.ref (a 0), .ref (a 2), .ref (a 6), .ref (a 8), .ref (a 15), .ref (a 17), .ref (a 22), .ref (a 23), .int cl, .int sp])), ((a 6), .inr (8, [.ref (a 7)])), ((a 7), .inl ((d 3), 9, .inl fr))] sz)) 0 0 (va_A [(h, .inr (10, [.ref (a 0), .ref (a 2), .ref (a 6), .ref (a 8), .ref (a 15), .ref (a 17), .ref (a 22), .ref (a 23), .int cl, .int sp])), ((a 6), .inr (8, [.ref (a 7)])), ((a 7), .inl ((d 3), 9, .inl fr))] sz) := by
  refine ofC_i (cc := cX10_rule) (maxL := 2) (ret := (some .int)) (by decide) rfl (Nat.le_of_ble_eq_true rfl) ?_
  intro p e s m args below meth c A ls Q F hr hin hlk St hl hQ
  have hx := F.1
  have hb := F.2.1
  have hl : lv_has ls 2 [(0, .ref h), (1, .int x1)] := hl
  have St : cS G k [(h, .inr (10, [.ref (a 0), .ref (a 2), .ref (a 6), .ref (a 8), .ref (a 15), .ref (a 17), .ref (a 22), .ref (a 23), .int cl, .int sp])), ((a 6), .inr (8, [.ref (a 7)])), ((a 7), .inl ((d 3), 9, .inl fr))] [((d 3), .int)] A s s.heap [] := St
  have y0 : (0 : Int32).toInt = 0 := by decide
  skip
  refine lv_iload_n hx hb dX10_rule_0 rfl (lv_at hl 1 rfl) ?_
  refine lv_if_lt (tgt := 21) hx hb dX10_rule_1 (by decide) (fun c1 => ?_) (fun c1 => ?_)
  ·
    have i1 := ci_lt (x := x1) (y := 0) rfl (show (0 : Int32).toInt = 0 by decide) c1
    refine lv_bipush (v := (-9)) hx hb dX10_rule_21 (by decide) ?_
    exact cs_iret F hr hlk hQ St () (r := (-9)) (by trivial) [0, 1, 2] rfl (by decide) [] rfl (by decide) (by decide) dX10_rule_23
  ·
    have i1 := ci_nlt (x := x1) (y := 0) rfl (show (0 : Int32).toInt = 0 by decide) c1
    refine lv_iload_n hx hb dX10_rule_4 rfl (lv_at hl 1 rfl) ?_
    refine lv_bipush (v := 9) hx hb dX10_rule_5 (by decide) ?_
    refine lv_icmp_ge (tgt := 21) hx hb dX10_rule_7 (by decide) (fun c7 => ?_) (fun c7 => ?_)
    ·
      have i7 := ci_le (x := 9) (y := x1) (show (9 : Int32).toInt = 9 by decide) rfl c7
      refine lv_bipush (v := (-9)) hx hb dX10_rule_21 (by decide) ?_
      exact cs_iret F hr hlk hQ St () (r := (-9)) (by trivial) [0, 1, 2] rfl (by decide) [] rfl (by decide) (by decide) dX10_rule_23
    ·
      have i7 := ci_nle (x := 9) (y := x1) (show (9 : Int32).toInt = 9 by decide) rfl c7
      refine lv_aload_n hx hb dX10_rule_10 rfl (lv_at hl 0 rfl) ?_
      refine cs_get F St 0 rfl rfl inX10 2 (by decide) kf_X10_26 rfl dX10_rule_11 ?_
      refine lv_iload_n hx hb dX10_rule_14 rfl (lv_at hl 1 rfl) ?_
      refine cs_i St [1, 2] [0] (wc := [((a 6), .inr (8, [.ref (a 7)])), ((a 7), .inl ((d 3), 9, .inl fr))]) (wr := [(h, .inr (10, [.ref (a 0), .ref (a 2), .ref (a 6), .ref (a 8), .ref (a 15), .ref (a 17), .ref (a 22), .ref (a 23), .int cl, .int sp]))]) rfl rfl (by decide) (by decide) (va_runV (As := [.int x1]) (rest := []) F (x8_at l G k _ (a 6) (a 7) (d 3) fr x1) (cwVt F mf_X8_at km_X10_98 rfl rfl ⟨Nat.le_of_ble_eq_true rfl, Nat.le_of_ble_eq_true rfl⟩) (cs_preV St [1, 2] rfl (by decide) [0] rfl (ci := 8) (q0 := 1) rfl rfl) rfl rfl hl.1 rfl (lv_room (Nat.le_of_ble_eq_true rfl)) dX10_rule_15 ⟨Nat.le_of_ble_eq_true rfl, Nat.le_of_ble_eq_true rfl⟩) (fun r_1 u_2 H locs hw St => ?_)
      try dsimp only at hw
      have St : cS G k [(h, .inr (10, [.ref (a 0), .ref (a 2), .ref (a 6), .ref (a 8), .ref (a 15), .ref (a 17), .ref (a 22), .ref (a 23), .int cl, .int sp])), ((a 6), .inr (8, [.ref (a 7)])), ((a 7), .inl ((d 3), 9, .inl fr))] [((d 3), .int)] A s H locs := St
      refine lv_goto (tgt := 23) hx hb dX10_rule_18 (by decide) ?_
      exact cs_iret F hr hlk hQ St () (r := r_1) (by trivial) [0, 1, 2] rfl (by decide) [] rfl (by decide) (by decide) dX10_rule_23
set_option maxHeartbeats 4000000 in
set_option maxRecDepth 100000 in
theorem x_declare (l : Launch) (G : va_G) (k : Nat → Nat) (sz : Nat) (h : Nat) (a : Nat → Nat) (d : Nat → ClassId) (cl : Int32) (sp : Int32) (g0 : Nat → Int32) (g1 : Nat → Int32) (x1 : Int32) (x2 : Int32) (x3 : Int32) : Met l yX10_declare (Cond.code yX10_declare cX10_declare 4 (some .int) :: tb) ({ frames := 2, cells := 0, slots := 0, locals := 43 } : Room) (va_Pc [.ref h, .int x1, .int x2, .int x3] (cP G k [(h, .inr (10, [.ref (a 0), .ref (a 2), .ref (a 6), .ref (a 8), .ref (a 15), .ref (a 17), .ref (a 22), .ref (a 23), .int cl, .int sp])), ((a 8), .inr (0, [.ref (a 9), .ref (a 10), .ref (a 11), .ref (a 12), .ref (a 13), .ref (a 14)])), ((a 9), .inl ((d 4), 30, .inl g0)), ((a 10), .inl ((d 5), 30, .inl g1))] [((d 4), .int), ((d 5), .int)] sz)) (va_Qi (fun (r : Int32) (u : (Nat → Int32) × (Nat → Int32)) => match u with | (z0, z1) => ((r = (-2) ∧ ¬ ((0 ≤ x1.toInt ∧ x1.toInt ≤ 29) ∧ 0 ≤ x2.toInt ∧ x2.toInt ≤ x3.toInt ∧ x3.toInt ≤ 119)) ∨ (r = (-4) ∧ ((0 ≤ x1.toInt ∧ x1.toInt ≤ 29) ∧ 0 ≤ x2.toInt ∧ x2.toInt ≤ x3.toInt ∧ x3.toInt ≤ 119) ∧ ¬ sp.toInt = 0) ∨ (r = 1 ∧ ((0 ≤ x1.toInt ∧ x1.toInt ≤ 29) ∧ 0 ≤ x2.toInt ∧ x2.toInt ≤ x3.toInt ∧ x3.toInt ≤ 119) ∧ sp.toInt = 0))) (cB G (fun u => match u with | (z0, z1) => [(h, .inr (10, [.ref (a 0), .ref (a 2), .ref (a 6), .ref (a 8), .ref (a 15), .ref (a 17), .ref (a 22), .ref (a 23), .int cl, .int sp])), ((a 8), .inr (0, [.ref (a 9), .ref (a 10), .ref (a 11), .ref (a 12), .ref (a 13), .ref (a 14)])), ((a 9), .inl ((d 4), 30, .inl z0)), ((a 10), .inl ((d 5), 30, .inl z1))]) (fun u => match u with | (z0, z1) => []) (va_A [(h, .inr (10, [.ref (a 0), .ref (a 2), .ref (a 6), .ref (a 8), .ref (a 15), .ref (a 17), .ref (a 22), .ref (a 23), .int cl, .int sp])), ((a 8), .inr (0, [.ref (a 9), .ref (a 10), .ref (a 11), .ref (a 12), .ref (a 13), .ref (a 14)])), ((a 9), .inl ((d 4), 30, .inl g0)), ((a 10), .inl ((d 5), 30, .inl g1))] sz)) (va_A [(h, .inr (10, [.ref (a 0), .ref (a 2), .ref (a 6), .ref (a 8), .ref (a 15), .ref (a 17), .ref (a 22), .ref (a 23), .int cl, .int sp])), ((a 8), .inr (0, [.ref (a 9), .ref (a 10), .ref (a 11), .ref (a 12), .ref (a 13), .ref (a 14)])), ((a 9), .inl ((d 4), 30, .inl g0)), ((a 10), .inl ((d 5), 30, .inl g1))] sz)) 0 0 (va_A [(h, .inr (10, [.ref (a 0), .ref (a 2), .ref (a 6), .ref (a 8), .ref (a 15), .ref (a 17), .ref (a 22), .ref (a 23), .int cl, .int sp])), ((a 8), .inr (0, [.ref (a 9), .ref (a 10), .ref (a 11), .ref (a 12), .ref (a 13), .ref (a 14)])), ((a 9), .inl ((d 4), 30, .inl g0)), ((a 10), .inl ((d 5), 30, .inl g1))] sz) := by
  refine ofC_i (cc := cX10_declare) (maxL := 4) (ret := (some .int)) (by decide) rfl (Nat.le_of_ble_eq_true rfl) ?_
  intro p e s m args below meth c A ls Q F hr hin hlk St hl hQ
  have hx := F.1
  have hb := F.2.1
  have hl : lv_has ls 4 [(0, .ref h), (1, .int x1), (2, .int x2), (3, .int x3)] := hl
  have St : cS G k [(h, .inr (10, [.ref (a 0), .ref (a 2), .ref (a 6), .ref (a 8), .ref (a 15), .ref (a 17), .ref (a 22), .ref (a 23), .int cl, .int sp])), ((a 8), .inr (0, [.ref (a 9), .ref (a 10), .ref (a 11), .ref (a 12), .ref (a 13), .ref (a 14)])), ((a 9), .inl ((d 4), 30, .inl g0)), ((a 10), .inl ((d 5), 30, .inl g1))] [((d 4), .int), ((d 5), .int)] A s s.heap [] := St
  have y0 : (0 : Int32).toInt = 0 := by decide
  skip
  refine lv_iload_n hx hb dX10_declare_0 rfl (lv_at hl 1 rfl) ?_
  refine cs_i St [] [0, 1, 2, 3] (wc := []) (wr := [(h, .inr (10, [.ref (a 0), .ref (a 2), .ref (a 6), .ref (a 8), .ref (a 15), .ref (a 17), .ref (a 22), .ref (a 23), .int cl, .int sp])), ((a 8), .inr (0, [.ref (a 9), .ref (a 10), .ref (a 11), .ref (a 12), .ref (a 13), .ref (a 14)])), ((a 9), .inl ((d 4), 30, .inl g0)), ((a 10), .inl ((d 5), 30, .inl g1))]) rfl rfl (by decide) (by decide) (va_runS (As := [.int x1]) (rest := []) F (x10_isGiver l G k _ x1) (cwSt F mf_X10_isGiver km_X10_102 rfl rfl ⟨Nat.le_of_ble_eq_true rfl, Nat.le_of_ble_eq_true rfl⟩) (cs_pre St [] rfl (by decide) [] rfl) rfl rfl hl.1 rfl (lv_room (Nat.le_of_ble_eq_true rfl)) dX10_declare_1 ⟨Nat.le_of_ble_eq_true rfl, Nat.le_of_ble_eq_true rfl⟩) (fun r_1 u_2 H locs hw St => ?_)
  try dsimp only at hw
  rcases hw with ⟨z_3, hf_4⟩ | ⟨z_5, hf_6⟩
  ·
    subst r_1
    have St : cS G k [(h, .inr (10, [.ref (a 0), .ref (a 2), .ref (a 6), .ref (a 8), .ref (a 15), .ref (a 17), .ref (a 22), .ref (a 23), .int cl, .int sp])), ((a 8), .inr (0, [.ref (a 9), .ref (a 10), .ref (a 11), .ref (a 12), .ref (a 13), .ref (a 14)])), ((a 9), .inl ((d 4), 30, .inl g0)), ((a 10), .inl ((d 5), 30, .inl g1))] [((d 4), .int), ((d 5), .int)] A s H locs := St
    refine lv_if_eq (tgt := 22) hx hb dX10_declare_4 (by decide) (fun c4 => ?_) (fun c4 => ?_)
    · exact absurd c4 (by decide)
    refine lv_iload_n hx hb dX10_declare_7 rfl (lv_at hl 2 rfl) ?_
    refine lv_if_lt (tgt := 22) hx hb dX10_declare_8 (by decide) (fun c8 => ?_) (fun c8 => ?_)
    ·
      have i8 := ci_lt (x := x2) (y := 0) rfl (show (0 : Int32).toInt = 0 by decide) c8
      refine lv_bipush (v := (-2)) hx hb dX10_declare_22 (by decide) ?_
      exact cs_iret F hr hlk hQ St (g0, g1) (r := (-2)) (Or.inl ⟨rfl, by omega⟩) [0, 1, 2, 3] rfl (by decide) [] rfl (by decide) (by decide) dX10_declare_24
    ·
      have i8 := ci_nlt (x := x2) (y := 0) rfl (show (0 : Int32).toInt = 0 by decide) c8
      refine lv_iload_n hx hb dX10_declare_11 rfl (lv_at hl 2 rfl) ?_
      refine lv_iload_n hx hb dX10_declare_12 rfl (lv_at hl 3 rfl) ?_
      refine lv_icmp_gt (tgt := 22) hx hb dX10_declare_13 (by decide) (fun c13 => ?_) (fun c13 => ?_)
      ·
        have i13 := ci_lt (x := x3) (y := x2) rfl rfl c13
        refine lv_bipush (v := (-2)) hx hb dX10_declare_22 (by decide) ?_
        exact cs_iret F hr hlk hQ St (g0, g1) (r := (-2)) (Or.inl ⟨rfl, by omega⟩) [0, 1, 2, 3] rfl (by decide) [] rfl (by decide) (by decide) dX10_declare_24
      ·
        have i13 := ci_nlt (x := x3) (y := x2) rfl rfl c13
        refine lv_iload_n hx hb dX10_declare_16 rfl (lv_at hl 3 rfl) ?_
        refine lv_bipush (v := 119) hx hb dX10_declare_17 (by decide) ?_
        refine lv_icmp_le (tgt := 25) hx hb dX10_declare_19 (by decide) (fun c19 => ?_) (fun c19 => ?_)
        ·
          have i19 := ci_le (x := x3) (y := 119) rfl (show (119 : Int32).toInt = 119 by decide) c19
          refine lv_aload_n hx hb dX10_declare_25 rfl (lv_at hl 0 rfl) ?_
          refine cs_get F St 0 rfl rfl inX10 9 (by decide) kf_X10_106 rfl dX10_declare_26 ?_
          refine lv_if_eq (tgt := 35) hx hb dX10_declare_29 (by decide) (fun c29 => ?_) (fun c29 => ?_)
          ·
            have i29 := ci_eq (x := sp) (y := 0) rfl (show (0 : Int32).toInt = 0 by decide) c29
            refine lv_aload_n hx hb dX10_declare_35 rfl (lv_at hl 0 rfl) ?_
            refine cs_get F St 0 rfl rfl inX10 3 (by decide) kf_X10_33 rfl dX10_declare_36 ?_
            refine lv_iload_n hx hb dX10_declare_39 rfl (lv_at hl 1 rfl) ?_
            refine lv_iload_n hx hb dX10_declare_40 rfl (lv_at hl 2 rfl) ?_
            refine lv_iload_n hx hb dX10_declare_41 rfl (lv_at hl 3 rfl) ?_
            refine cs_v St [1, 2, 3] [0] (wc := [((a 8), .inr (0, [.ref (a 9), .ref (a 10), .ref (a 11), .ref (a 12), .ref (a 13), .ref (a 14)])), ((a 9), .inl ((d 4), 30, .inl g0)), ((a 10), .inl ((d 5), 30, .inl g1))]) (wr := [(h, .inr (10, [.ref (a 0), .ref (a 2), .ref (a 6), .ref (a 8), .ref (a 15), .ref (a 17), .ref (a 22), .ref (a 23), .int cl, .int sp]))]) rfl rfl (by decide) (by decide) (va_runV (As := [.int x1, .int x2, .int x3]) (rest := []) F (x0_setDecl l G k _ (a 8) (a 9) (a 10) (a 11) (a 12) (a 13) (a 14) (d 4) (d 5) g0 g1 x1 x2 x3) (cwVt F mf_X0_setDeclaration km_X10_110 rfl rfl ⟨Nat.le_of_ble_eq_true rfl, Nat.le_of_ble_eq_true rfl⟩) (cs_preV St [1, 2, 3] rfl (by decide) [0, 1] rfl (ci := 0) (q0 := 1) rfl rfl) rfl rfl hl.1 rfl (lv_room (Nat.le_of_ble_eq_true rfl)) dX10_declare_42 ⟨Nat.le_of_ble_eq_true rfl, Nat.le_of_ble_eq_true rfl⟩) (fun u_8 H locs hw St => ?_)
            obtain ⟨z0_9, z1_10⟩ := u_8
            try dsimp only at hw
            have St : cS G k [(h, .inr (10, [.ref (a 0), .ref (a 2), .ref (a 6), .ref (a 8), .ref (a 15), .ref (a 17), .ref (a 22), .ref (a 23), .int cl, .int sp])), ((a 8), .inr (0, [.ref (a 9), .ref (a 10), .ref (a 11), .ref (a 12), .ref (a 13), .ref (a 14)])), ((a 9), .inl ((d 4), 30, .inl z0_9)), ((a 10), .inl ((d 5), 30, .inl z1_10))] [((d 4), .int), ((d 5), .int)] A s H locs := St
            refine lv_iconst (v := 1) hx hb dX10_declare_45 (by decide) ?_
            exact cs_iret F hr hlk hQ St (z0_9, z1_10) (r := 1) (Or.inr (Or.inr (⟨rfl, by omega⟩))) [0, 1, 2, 3] rfl (by decide) [] rfl (by decide) (by decide) dX10_declare_46
          ·
            have i29 := ci_ne (x := sp) (y := 0) rfl (show (0 : Int32).toInt = 0 by decide) c29
            refine lv_bipush (v := (-4)) hx hb dX10_declare_32 (by decide) ?_
            exact cs_iret F hr hlk hQ St (g0, g1) (r := (-4)) (Or.inr (Or.inl ⟨rfl, by omega⟩)) [0, 1, 2, 3] rfl (by decide) [] rfl (by decide) (by decide) dX10_declare_34
        ·
          have i19 := ci_nle (x := x3) (y := 119) rfl (show (119 : Int32).toInt = 119 by decide) c19
          refine lv_bipush (v := (-2)) hx hb dX10_declare_22 (by decide) ?_
          exact cs_iret F hr hlk hQ St (g0, g1) (r := (-2)) (Or.inl ⟨rfl, by omega⟩) [0, 1, 2, 3] rfl (by decide) [] rfl (by decide) (by decide) dX10_declare_24
  ·
    subst r_1
    have St : cS G k [(h, .inr (10, [.ref (a 0), .ref (a 2), .ref (a 6), .ref (a 8), .ref (a 15), .ref (a 17), .ref (a 22), .ref (a 23), .int cl, .int sp])), ((a 8), .inr (0, [.ref (a 9), .ref (a 10), .ref (a 11), .ref (a 12), .ref (a 13), .ref (a 14)])), ((a 9), .inl ((d 4), 30, .inl g0)), ((a 10), .inl ((d 5), 30, .inl g1))] [((d 4), .int), ((d 5), .int)] A s H locs := St
    refine lv_if_eq (tgt := 22) hx hb dX10_declare_4 (by decide) (fun c4 => ?_) (fun c4 => ?_)
    rotate_left
    · exact absurd (by decide) c4
    refine lv_bipush (v := (-2)) hx hb dX10_declare_22 (by decide) ?_
    exact cs_iret F hr hlk hQ St (g0, g1) (r := (-2)) (Or.inl ⟨rfl, by omega⟩) [0, 1, 2, 3] rfl (by decide) [] rfl (by decide) (by decide) dX10_declare_24
