set_option maxHeartbeats 4000000 in
set_option maxRecDepth 100000 in
/-- feed on a new object -/
theorem x_feed (l : Launch) (G : va_G) (k : Nat → Nat) (sz : Nat) (h : Nat) (a : Nat → Nat) (d : Nat → ClassId) (x1 : Int32) (x2 : Int32) (x3 : Int32) (x4 : Int32) (x5 : Int32) : Met l yX10_feed (Cond.code yX10_feed cX10_feed 6 (some .int) :: tb) ({ frames := 1, cells := 0, slots := 0, locals := 22 } : Room) (va_Pc [.ref h, .int x1, .int x2, .int x3, .int x4, .int x5] (cP G k [(h, .inr (10, [.ref (a 0), .ref (a 2), .ref (a 6), .ref (a 8), .ref (a 15), .ref (a 17), .ref (a 22), .ref (a 23), .int 0, .int 0])), ((a 0), .inr (6, [.ref (a 1), .int 0])), ((a 1), .inl ((d 0), 400, .inl (fun _ => 0)))] [((d 0), .byte)] sz)) (va_Qi (fun (r : Int32) (_ : Unit) => (r = 20)) (cB G (fun (_ : Unit) => []) (fun (_ : Unit) => []) (va_A [(h, .inr (10, [.ref (a 0), .ref (a 2), .ref (a 6), .ref (a 8), .ref (a 15), .ref (a 17), .ref (a 22), .ref (a 23), .int 0, .int 0])), ((a 0), .inr (6, [.ref (a 1), .int 0])), ((a 1), .inl ((d 0), 400, .inl (fun _ => 0)))] sz)) (va_A [(h, .inr (10, [.ref (a 0), .ref (a 2), .ref (a 6), .ref (a 8), .ref (a 15), .ref (a 17), .ref (a 22), .ref (a 23), .int 0, .int 0])), ((a 0), .inr (6, [.ref (a 1), .int 0])), ((a 1), .inl ((d 0), 400, .inl (fun _ => 0)))] sz)) 0 0 (va_A [(h, .inr (10, [.ref (a 0), .ref (a 2), .ref (a 6), .ref (a 8), .ref (a 15), .ref (a 17), .ref (a 22), .ref (a 23), .int 0, .int 0])), ((a 0), .inr (6, [.ref (a 1), .int 0])), ((a 1), .inl ((d 0), 400, .inl (fun _ => 0)))] sz) := by
  refine ofC_i (cc := cX10_feed) (maxL := 6) (ret := (some .int)) (by decide) rfl (Nat.le_of_ble_eq_true rfl) ?_
  intro p e s m args below meth c A ls Q F hr hin hlk St hl hQ
  have hx := F.1
  have hb := F.2.1
  have hl : lv_has ls 6 [(0, .ref h), (1, .int x1), (2, .int x2), (3, .int x3), (4, .int x4), (5, .int x5)] := hl
  have St : cS G k [(h, .inr (10, [.ref (a 0), .ref (a 2), .ref (a 6), .ref (a 8), .ref (a 15), .ref (a 17), .ref (a 22), .ref (a 23), .int 0, .int 0])), ((a 0), .inr (6, [.ref (a 1), .int 0])), ((a 1), .inl ((d 0), 400, .inl (fun _ => 0)))] [((d 0), .byte)] A s s.heap [] := St
  refine lv_aload_n hx hb dX10_feed_0 rfl (lv_at hl 0 rfl) ?_
  refine cs_get F St 0 rfl rfl inX10 0 (by decide) kf_X10_10 rfl dX10_feed_1 ?_
  refine cs_i St [1] [0, 2] (wc := [((a 0), .inr (6, [.ref (a 1), .int 0]))]) (wr := [(h, .inr (10, [.ref (a 0), .ref (a 2), .ref (a 6), .ref (a 8), .ref (a 15), .ref (a 17), .ref (a 22), .ref (a 23), .int 0, .int 0])), ((a 1), .inl ((d 0), 400, .inl (fun _ => 0)))]) rfl rfl (by decide) (by decide) (va_runV (As := []) (rest := []) F (c6_has l G k _ (a 0) (a 1) 0) (cwVt F mf_X6_hasRoomForTwenty km_X10_65 rfl rfl ⟨Nat.le_of_ble_eq_true rfl, Nat.le_of_ble_eq_true rfl⟩) (cs_preV St [1] rfl (by decide) [] rfl (ci := 6) (q0 := 1) rfl rfl) rfl rfl hl.1 rfl (lv_room (Nat.le_of_ble_eq_true rfl)) dX10_feed_4 ⟨Nat.le_of_ble_eq_true rfl, Nat.le_of_ble_eq_true rfl⟩) (fun r_1 u_2 H locs hw St => ?_)
  try dsimp only at hw
  rcases hw with ⟨z_3, hf_4⟩ | ⟨z_5, hf_6⟩
  ·
    subst r_1
    have St : cS G k [(h, .inr (10, [.ref (a 0), .ref (a 2), .ref (a 6), .ref (a 8), .ref (a 15), .ref (a 17), .ref (a 22), .ref (a 23), .int 0, .int 0])), ((a 1), .inl ((d 0), 400, .inl (fun _ => 0))), ((a 0), .inr (6, [.ref (a 1), .int 0]))] [((d 0), .byte)] A s H locs := St
    refine lv_if_ne (tgt := 13) hx hb dX10_feed_7 (by decide) (fun c7 => ?_) (fun c7 => ?_)
    rotate_left
    · exact absurd c7 (by decide)
    refine lv_aload_n hx hb dX10_feed_13 rfl (lv_at hl 0 rfl) ?_
    refine cs_get F St 0 rfl rfl inX10 0 (by decide) kf_X10_10 rfl dX10_feed_14 ?_
    refine lv_iload_n hx hb dX10_feed_17 rfl (lv_at hl 1 rfl) ?_
    refine cs_v St [2, 1] [0] (wc := [((a 0), .inr (6, [.ref (a 1), .int 0])), ((a 1), .inl ((d 0), 400, .inl (fun _ => 0)))]) (wr := [(h, .inr (10, [.ref (a 0), .ref (a 2), .ref (a 6), .ref (a 8), .ref (a 15), .ref (a 17), .ref (a 22), .ref (a 23), .int 0, .int 0]))]) rfl rfl (by decide) (by decide) (va_runV (As := [.int x1]) (rest := []) F (c6_putFour l G k _ (a 0) (a 1) (d 0) 0 x1 (fun _ => 0) (by decide) (by decide)) (cwVt F mf_X6_putFour km_X10_69 rfl rfl ⟨Nat.le_of_ble_eq_true rfl, Nat.le_of_ble_eq_true rfl⟩) (cs_preV St [2, 1] rfl (by decide) [0] rfl (ci := 6) (q0 := 2) rfl rfl) rfl rfl hl.1 rfl (lv_room (Nat.le_of_ble_eq_true rfl)) dX10_feed_18 ⟨Nat.le_of_ble_eq_true rfl, Nat.le_of_ble_eq_true rfl⟩) (fun u_8 H locs hw St => ?_)
    obtain ⟨n2_9, f2_10⟩ := u_8
    try dsimp only at hw
    have z_11 := hw
    obtain rfl : n2_9 = 4 := by rw [z_11] <;> decide
    have St : cS G k [(h, .inr (10, [.ref (a 0), .ref (a 2), .ref (a 6), .ref (a 8), .ref (a 15), .ref (a 17), .ref (a 22), .ref (a 23), .int 0, .int 0])), ((a 0), .inr (6, [.ref (a 1), .int 4])), ((a 1), .inl ((d 0), 400, .inl f2_10))] [((d 0), .byte)] A s H locs := St
    refine lv_aload_n hx hb dX10_feed_21 rfl (lv_at hl 0 rfl) ?_
    refine cs_get F St 0 rfl rfl inX10 0 (by decide) kf_X10_10 rfl dX10_feed_22 ?_
    refine lv_iload_n hx hb dX10_feed_25 rfl (lv_at hl 2 rfl) ?_
    refine cs_v St [1, 2] [0] (wc := [((a 0), .inr (6, [.ref (a 1), .int 4])), ((a 1), .inl ((d 0), 400, .inl f2_10))]) (wr := [(h, .inr (10, [.ref (a 0), .ref (a 2), .ref (a 6), .ref (a 8), .ref (a 15), .ref (a 17), .ref (a 22), .ref (a 23), .int 0, .int 0]))]) rfl rfl (by decide) (by decide) (va_runV (As := [.int x2]) (rest := []) F (c6_putFour l G k _ (a 0) (a 1) (d 0) 4 x2 f2_10 (by decide) (by decide)) (cwVt F mf_X6_putFour km_X10_69 rfl rfl ⟨Nat.le_of_ble_eq_true rfl, Nat.le_of_ble_eq_true rfl⟩) (cs_preV St [1, 2] rfl (by decide) [0] rfl (ci := 6) (q0 := 1) rfl rfl) rfl rfl hl.1 rfl (lv_room (Nat.le_of_ble_eq_true rfl)) dX10_feed_26 ⟨Nat.le_of_ble_eq_true rfl, Nat.le_of_ble_eq_true rfl⟩) (fun u_13 H locs hw St => ?_)
    obtain ⟨n2_14, f2_15⟩ := u_13
    try dsimp only at hw
    have z_16 := hw
    obtain rfl : n2_14 = 8 := by rw [z_16] <;> decide
    have St : cS G k [(h, .inr (10, [.ref (a 0), .ref (a 2), .ref (a 6), .ref (a 8), .ref (a 15), .ref (a 17), .ref (a 22), .ref (a 23), .int 0, .int 0])), ((a 0), .inr (6, [.ref (a 1), .int 8])), ((a 1), .inl ((d 0), 400, .inl f2_15))] [((d 0), .byte)] A s H locs := St
    refine lv_aload_n hx hb dX10_feed_29 rfl (lv_at hl 0 rfl) ?_
    refine cs_get F St 0 rfl rfl inX10 0 (by decide) kf_X10_10 rfl dX10_feed_30 ?_
    refine lv_iload_n hx hb dX10_feed_33 rfl (lv_at hl 3 rfl) ?_
    refine cs_v St [1, 2] [0] (wc := [((a 0), .inr (6, [.ref (a 1), .int 8])), ((a 1), .inl ((d 0), 400, .inl f2_15))]) (wr := [(h, .inr (10, [.ref (a 0), .ref (a 2), .ref (a 6), .ref (a 8), .ref (a 15), .ref (a 17), .ref (a 22), .ref (a 23), .int 0, .int 0]))]) rfl rfl (by decide) (by decide) (va_runV (As := [.int x3]) (rest := []) F (c6_putFour l G k _ (a 0) (a 1) (d 0) 8 x3 f2_15 (by decide) (by decide)) (cwVt F mf_X6_putFour km_X10_69 rfl rfl ⟨Nat.le_of_ble_eq_true rfl, Nat.le_of_ble_eq_true rfl⟩) (cs_preV St [1, 2] rfl (by decide) [0] rfl (ci := 6) (q0 := 1) rfl rfl) rfl rfl hl.1 rfl (lv_room (Nat.le_of_ble_eq_true rfl)) dX10_feed_34 ⟨Nat.le_of_ble_eq_true rfl, Nat.le_of_ble_eq_true rfl⟩) (fun u_18 H locs hw St => ?_)
    obtain ⟨n2_19, f2_20⟩ := u_18
    try dsimp only at hw
    have z_21 := hw
    obtain rfl : n2_19 = 12 := by rw [z_21] <;> decide
    have St : cS G k [(h, .inr (10, [.ref (a 0), .ref (a 2), .ref (a 6), .ref (a 8), .ref (a 15), .ref (a 17), .ref (a 22), .ref (a 23), .int 0, .int 0])), ((a 0), .inr (6, [.ref (a 1), .int 12])), ((a 1), .inl ((d 0), 400, .inl f2_20))] [((d 0), .byte)] A s H locs := St
    refine lv_aload_n hx hb dX10_feed_37 rfl (lv_at hl 0 rfl) ?_
    refine cs_get F St 0 rfl rfl inX10 0 (by decide) kf_X10_10 rfl dX10_feed_38 ?_
    refine lv_iload hx hb dX10_feed_41 (lv_at hl 4 rfl) ?_
    refine cs_v St [1, 2] [0] (wc := [((a 0), .inr (6, [.ref (a 1), .int 12])), ((a 1), .inl ((d 0), 400, .inl f2_20))]) (wr := [(h, .inr (10, [.ref (a 0), .ref (a 2), .ref (a 6), .ref (a 8), .ref (a 15), .ref (a 17), .ref (a 22), .ref (a 23), .int 0, .int 0]))]) rfl rfl (by decide) (by decide) (va_runV (As := [.int x4]) (rest := []) F (c6_putFour l G k _ (a 0) (a 1) (d 0) 12 x4 f2_20 (by decide) (by decide)) (cwVt F mf_X6_putFour km_X10_69 rfl rfl ⟨Nat.le_of_ble_eq_true rfl, Nat.le_of_ble_eq_true rfl⟩) (cs_preV St [1, 2] rfl (by decide) [0] rfl (ci := 6) (q0 := 1) rfl rfl) rfl rfl hl.1 rfl (lv_room (Nat.le_of_ble_eq_true rfl)) dX10_feed_43 ⟨Nat.le_of_ble_eq_true rfl, Nat.le_of_ble_eq_true rfl⟩) (fun u_23 H locs hw St => ?_)
    obtain ⟨n2_24, f2_25⟩ := u_23
    try dsimp only at hw
    have z_26 := hw
    obtain rfl : n2_24 = 16 := by rw [z_26] <;> decide
    have St : cS G k [(h, .inr (10, [.ref (a 0), .ref (a 2), .ref (a 6), .ref (a 8), .ref (a 15), .ref (a 17), .ref (a 22), .ref (a 23), .int 0, .int 0])), ((a 0), .inr (6, [.ref (a 1), .int 16])), ((a 1), .inl ((d 0), 400, .inl f2_25))] [((d 0), .byte)] A s H locs := St
    refine lv_aload_n hx hb dX10_feed_46 rfl (lv_at hl 0 rfl) ?_
    refine cs_get F St 0 rfl rfl inX10 0 (by decide) kf_X10_10 rfl dX10_feed_47 ?_
    refine lv_iload hx hb dX10_feed_50 (lv_at hl 5 rfl) ?_
    refine cs_v St [1, 2] [0] (wc := [((a 0), .inr (6, [.ref (a 1), .int 16])), ((a 1), .inl ((d 0), 400, .inl f2_25))]) (wr := [(h, .inr (10, [.ref (a 0), .ref (a 2), .ref (a 6), .ref (a 8), .ref (a 15), .ref (a 17), .ref (a 22), .ref (a 23), .int 0, .int 0]))]) rfl rfl (by decide) (by decide) (va_runV (As := [.int x5]) (rest := []) F (c6_putFour l G k _ (a 0) (a 1) (d 0) 16 x5 f2_25 (by decide) (by decide)) (cwVt F mf_X6_putFour km_X10_69 rfl rfl ⟨Nat.le_of_ble_eq_true rfl, Nat.le_of_ble_eq_true rfl⟩) (cs_preV St [1, 2] rfl (by decide) [0] rfl (ci := 6) (q0 := 1) rfl rfl) rfl rfl hl.1 rfl (lv_room (Nat.le_of_ble_eq_true rfl)) dX10_feed_52 ⟨Nat.le_of_ble_eq_true rfl, Nat.le_of_ble_eq_true rfl⟩) (fun u_28 H locs hw St => ?_)
    obtain ⟨n2_29, f2_30⟩ := u_28
    try dsimp only at hw
    have z_31 := hw
    obtain rfl : n2_29 = 20 := by rw [z_31] <;> decide
    have St : cS G k [(h, .inr (10, [.ref (a 0), .ref (a 2), .ref (a 6), .ref (a 8), .ref (a 15), .ref (a 17), .ref (a 22), .ref (a 23), .int 0, .int 0])), ((a 0), .inr (6, [.ref (a 1), .int 20])), ((a 1), .inl ((d 0), 400, .inl f2_30))] [((d 0), .byte)] A s H locs := St
    refine lv_aload_n hx hb dX10_feed_55 rfl (lv_at hl 0 rfl) ?_
    refine cs_get F St 0 rfl rfl inX10 0 (by decide) kf_X10_10 rfl dX10_feed_56 ?_
    refine cs_i St [1] [0, 2] (wc := [((a 0), .inr (6, [.ref (a 1), .int 20]))]) (wr := [(h, .inr (10, [.ref (a 0), .ref (a 2), .ref (a 6), .ref (a 8), .ref (a 15), .ref (a 17), .ref (a 22), .ref (a 23), .int 0, .int 0])), ((a 1), .inl ((d 0), 400, .inl f2_30))]) rfl rfl (by decide) (by decide) (va_runV (As := []) (rest := []) F (c6_length l G k _ (a 0) (a 1) 20) (cwVt F mf_X6_length km_X10_73 rfl rfl ⟨Nat.le_of_ble_eq_true rfl, Nat.le_of_ble_eq_true rfl⟩) (cs_preV St [1] rfl (by decide) [] rfl (ci := 6) (q0 := 1) rfl rfl) rfl rfl hl.1 rfl (lv_room (Nat.le_of_ble_eq_true rfl)) dX10_feed_59 ⟨Nat.le_of_ble_eq_true rfl, Nat.le_of_ble_eq_true rfl⟩) (fun r_32 u_33 H locs hw St => ?_)
    try dsimp only at hw
    have z_34 := hw
    subst r_32
    have St : cS G k [(h, .inr (10, [.ref (a 0), .ref (a 2), .ref (a 6), .ref (a 8), .ref (a 15), .ref (a 17), .ref (a 22), .ref (a 23), .int 0, .int 0])), ((a 1), .inl ((d 0), 400, .inl f2_30)), ((a 0), .inr (6, [.ref (a 1), .int 20]))] [((d 0), .byte)] A s H locs := St
    exact cs_iret F hr hlk hQ St () (r := 20) rfl [] rfl (by decide) [] rfl (by decide) (by decide) dX10_feed_62
  ·
    exact False.elim (by have y0 : (0 : Int32).toInt = 0 := (by decide); omega)
set_option maxHeartbeats 4000000 in
set_option maxRecDepth 100000 in
/-- end on a new object -/
theorem x_end (l : Launch) (G : va_G) (k : Nat → Nat) (sz : Nat) (h : Nat) (a : Nat → Nat) (d : Nat → ClassId) (x1 : Int32) : Met l yX10_end (Cond.code yX10_end cX10_end 2 (some .int) :: tb) ({ frames := 1, cells := 0, slots := 0, locals := 21 } : Room) (va_Pc [.ref h, .int x1] (cP G k [(h, .inr (10, [.ref (a 0), .ref (a 2), .ref (a 6), .ref (a 8), .ref (a 15), .ref (a 17), .ref (a 22), .ref (a 23), .int 0, .int 0])), ((a 0), .inr (6, [.ref (a 1), .int 0]))] [] sz)) (va_Qi (fun (r : Int32) (_ : Unit) => ((r = x1) ∧ (x1.toInt = 0)) ∨ ((r = (-1)) ∧ (¬ x1.toInt = 0))) (cB G (fun (_ : Unit) => []) (fun (_ : Unit) => []) (va_A [(h, .inr (10, [.ref (a 0), .ref (a 2), .ref (a 6), .ref (a 8), .ref (a 15), .ref (a 17), .ref (a 22), .ref (a 23), .int 0, .int 0])), ((a 0), .inr (6, [.ref (a 1), .int 0]))] sz)) (va_A [(h, .inr (10, [.ref (a 0), .ref (a 2), .ref (a 6), .ref (a 8), .ref (a 15), .ref (a 17), .ref (a 22), .ref (a 23), .int 0, .int 0])), ((a 0), .inr (6, [.ref (a 1), .int 0]))] sz)) 0 0 (va_A [(h, .inr (10, [.ref (a 0), .ref (a 2), .ref (a 6), .ref (a 8), .ref (a 15), .ref (a 17), .ref (a 22), .ref (a 23), .int 0, .int 0])), ((a 0), .inr (6, [.ref (a 1), .int 0]))] sz) := by
  refine ofC_i (cc := cX10_end) (maxL := 2) (ret := (some .int)) (by decide) rfl (Nat.le_of_ble_eq_true rfl) ?_
  intro p e s m args below meth c A ls Q F hr hin hlk St hl hQ
  have hx := F.1
  have hb := F.2.1
  have hl : lv_has ls 2 [(0, .ref h), (1, .int x1)] := hl
  have St : cS G k [(h, .inr (10, [.ref (a 0), .ref (a 2), .ref (a 6), .ref (a 8), .ref (a 15), .ref (a 17), .ref (a 22), .ref (a 23), .int 0, .int 0])), ((a 0), .inr (6, [.ref (a 1), .int 0]))] [] A s s.heap [] := St
  refine lv_iload_n hx hb dX10_end_0 rfl (lv_at hl 1 rfl) ?_
  refine lv_if_lt (tgt := 15) hx hb dX10_end_1 (by decide) (fun c1 => ?_) (fun c1 => ?_)
  ·
    have i1 := ci_lt (x := x1) (y := 0) rfl (show (0 : Int32).toInt = 0 by decide) c1
    refine lv_iconst (v := (-1)) hx hb dX10_end_15 (by decide) ?_
    exact cs_iret F hr hlk hQ St () (r := (-1)) (Or.inr ⟨rfl, by omega⟩) [] rfl (by decide) [] rfl (by decide) (by decide) dX10_end_16
  ·
    have i1 := ci_nlt (x := x1) (y := 0) rfl (show (0 : Int32).toInt = 0 by decide) c1
    refine lv_iload_n hx hb dX10_end_4 rfl (lv_at hl 1 rfl) ?_
    refine lv_aload_n hx hb dX10_end_5 rfl (lv_at hl 0 rfl) ?_
    refine cs_get F St 0 rfl rfl inX10 0 (by decide) kf_X10_10 rfl dX10_end_6 ?_
    refine cs_i St [1] [0] (wc := [((a 0), .inr (6, [.ref (a 1), .int 0]))]) (wr := [(h, .inr (10, [.ref (a 0), .ref (a 2), .ref (a 6), .ref (a 8), .ref (a 15), .ref (a 17), .ref (a 22), .ref (a 23), .int 0, .int 0]))]) rfl rfl (by decide) (by decide) (va_runV (As := []) (rest := [.int x1]) F (c6_length l G k _ (a 0) (a 1) 0) (cwVt F mf_X6_length km_X10_73 rfl rfl ⟨Nat.le_of_ble_eq_true rfl, Nat.le_of_ble_eq_true rfl⟩) (cs_preV St [1] rfl (by decide) [] rfl (ci := 6) (q0 := 1) rfl rfl) rfl rfl hl.1 rfl (lv_room (Nat.le_of_ble_eq_true rfl)) dX10_end_9 ⟨Nat.le_of_ble_eq_true rfl, Nat.le_of_ble_eq_true rfl⟩) (fun r_1 u_2 H locs hw St => ?_)
    try dsimp only at hw
    have z_3 := hw
    subst r_1
    have St : cS G k [(h, .inr (10, [.ref (a 0), .ref (a 2), .ref (a 6), .ref (a 8), .ref (a 15), .ref (a 17), .ref (a 22), .ref (a 23), .int 0, .int 0])), ((a 0), .inr (6, [.ref (a 1), .int 0]))] [] A s H locs := St
    refine lv_icmp_le (tgt := 17) hx hb dX10_end_12 (by decide) (fun c12 => ?_) (fun c12 => ?_)
    ·
      have i12 := ci_le (x := x1) (y := 0) rfl (show (0 : Int32).toInt = 0 by decide) c12
      refine lv_aload_n hx hb dX10_end_17 rfl (lv_at hl 0 rfl) ?_
      refine cs_get F St 0 rfl rfl inX10 0 (by decide) kf_X10_10 rfl dX10_end_18 ?_
      refine lv_iload_n hx hb dX10_end_21 rfl (lv_at hl 1 rfl) ?_
      refine cs_v St [1] [0] (wc := [((a 0), .inr (6, [.ref (a 1), .int 0]))]) (wr := [(h, .inr (10, [.ref (a 0), .ref (a 2), .ref (a 6), .ref (a 8), .ref (a 15), .ref (a 17), .ref (a 22), .ref (a 23), .int 0, .int 0]))]) rfl rfl (by decide) (by decide) (va_runV (As := [.int x1]) (rest := []) F (c6_cutTo l G k _ (a 0) (a 1) 0 x1) (cwVt F mf_X6_cutTo km_X10_77 rfl rfl ⟨Nat.le_of_ble_eq_true rfl, Nat.le_of_ble_eq_true rfl⟩) (cs_preV St [1] rfl (by decide) [] rfl (ci := 6) (q0 := 1) rfl rfl) rfl rfl hl.1 rfl (lv_room (Nat.le_of_ble_eq_true rfl)) dX10_end_22 ⟨Nat.le_of_ble_eq_true rfl, Nat.le_of_ble_eq_true rfl⟩) (fun u_5 H locs hw St => ?_)
      try dsimp only at hw
      have St : cS G k [(h, .inr (10, [.ref (a 0), .ref (a 2), .ref (a 6), .ref (a 8), .ref (a 15), .ref (a 17), .ref (a 22), .ref (a 23), .int 0, .int 0])), ((a 0), .inr (6, [.ref (a 1), .int x1]))] [] A s H locs := St
      refine lv_iload_n hx hb dX10_end_25 rfl (lv_at hl 1 rfl) ?_
      exact cs_iret F hr hlk hQ St () (r := x1) (Or.inl ⟨rfl, by omega⟩) [] rfl (by decide) [] rfl (by decide) (by decide) dX10_end_26
    ·
      have i12 := ci_nle (x := x1) (y := 0) rfl (show (0 : Int32).toInt = 0 by decide) c12
      refine lv_iconst (v := (-1)) hx hb dX10_end_15 (by decide) ?_
      exact cs_iret F hr hlk hQ St () (r := (-1)) (Or.inr ⟨rfl, by omega⟩) [] rfl (by decide) [] rfl (by decide) (by decide) dX10_end_16
set_option maxHeartbeats 4000000 in
set_option maxRecDepth 100000 in
/-- trust on a new object -/
theorem x_trust (l : Launch) (G : va_G) (k : Nat → Nat) (sz : Nat) (h : Nat) (a : Nat → Nat) (d : Nat → ClassId) : Met l yX10_trust (Cond.code yX10_trust cX10_trust 2 (some .int) :: tb) ({ frames := 4, cells := 0, slots := 0, locals := 124 } : Room) (va_Pc [.ref h] (cP G k [(h, .inr (10, [.ref (a 0), .ref (a 2), .ref (a 6), .ref (a 8), .ref (a 15), .ref (a 17), .ref (a 22), .ref (a 23), .int 0, .int 0])), ((a 0), .inr (6, [.ref (a 1), .int 0])), ((a 1), .inl ((d 0), 400, .inl (fun _ => 0))), ((a 2), .inr (9, [.ref (a 3), .ref (a 5), .int 0, .int 0, .int 0, .int 0, .int 0, .int (-1)])), ((a 3), .inr (8, [.ref (a 4)])), ((a 4), .inl ((d 1), 9, .inl untold)), ((a 5), .inl ((d 2), 6, .inl (fun _ => 0))), ((a 6), .inr (8, [.ref (a 7)])), ((a 7), .inl ((d 3), 9, .inl untold))] [((d 0), .byte), ((d 1), .int), ((d 2), .boolean), ((d 3), .int)] sz)) (va_Qi (fun (r : Int32) (_ : Unit) => (r = 0)) (cB G (fun (_ : Unit) => []) (fun (_ : Unit) => []) (va_A [(h, .inr (10, [.ref (a 0), .ref (a 2), .ref (a 6), .ref (a 8), .ref (a 15), .ref (a 17), .ref (a 22), .ref (a 23), .int 0, .int 0])), ((a 0), .inr (6, [.ref (a 1), .int 0])), ((a 1), .inl ((d 0), 400, .inl (fun _ => 0))), ((a 2), .inr (9, [.ref (a 3), .ref (a 5), .int 0, .int 0, .int 0, .int 0, .int 0, .int (-1)])), ((a 3), .inr (8, [.ref (a 4)])), ((a 4), .inl ((d 1), 9, .inl untold)), ((a 5), .inl ((d 2), 6, .inl (fun _ => 0))), ((a 6), .inr (8, [.ref (a 7)])), ((a 7), .inl ((d 3), 9, .inl untold))] sz)) (va_A [(h, .inr (10, [.ref (a 0), .ref (a 2), .ref (a 6), .ref (a 8), .ref (a 15), .ref (a 17), .ref (a 22), .ref (a 23), .int 0, .int 0])), ((a 0), .inr (6, [.ref (a 1), .int 0])), ((a 1), .inl ((d 0), 400, .inl (fun _ => 0))), ((a 2), .inr (9, [.ref (a 3), .ref (a 5), .int 0, .int 0, .int 0, .int 0, .int 0, .int (-1)])), ((a 3), .inr (8, [.ref (a 4)])), ((a 4), .inl ((d 1), 9, .inl untold)), ((a 5), .inl ((d 2), 6, .inl (fun _ => 0))), ((a 6), .inr (8, [.ref (a 7)])), ((a 7), .inl ((d 3), 9, .inl untold))] sz)) 0 0 (va_A [(h, .inr (10, [.ref (a 0), .ref (a 2), .ref (a 6), .ref (a 8), .ref (a 15), .ref (a 17), .ref (a 22), .ref (a 23), .int 0, .int 0])), ((a 0), .inr (6, [.ref (a 1), .int 0])), ((a 1), .inl ((d 0), 400, .inl (fun _ => 0))), ((a 2), .inr (9, [.ref (a 3), .ref (a 5), .int 0, .int 0, .int 0, .int 0, .int 0, .int (-1)])), ((a 3), .inr (8, [.ref (a 4)])), ((a 4), .inl ((d 1), 9, .inl untold)), ((a 5), .inl ((d 2), 6, .inl (fun _ => 0))), ((a 6), .inr (8, [.ref (a 7)])), ((a 7), .inl ((d 3), 9, .inl untold))] sz) := by
  refine ofC_i (cc := cX10_trust) (maxL := 2) (ret := (some .int)) (by decide) rfl (Nat.le_of_ble_eq_true rfl) ?_
  intro p e s m args below meth c A ls Q F hr hin hlk St hl hQ
  have hx := F.1
  have hb := F.2.1
  have hl : lv_has ls 2 [(0, .ref h)] := hl
  have St : cS G k [(h, .inr (10, [.ref (a 0), .ref (a 2), .ref (a 6), .ref (a 8), .ref (a 15), .ref (a 17), .ref (a 22), .ref (a 23), .int 0, .int 0])), ((a 0), .inr (6, [.ref (a 1), .int 0])), ((a 1), .inl ((d 0), 400, .inl (fun _ => 0))), ((a 2), .inr (9, [.ref (a 3), .ref (a 5), .int 0, .int 0, .int 0, .int 0, .int 0, .int (-1)])), ((a 3), .inr (8, [.ref (a 4)])), ((a 4), .inl ((d 1), 9, .inl untold)), ((a 5), .inl ((d 2), 6, .inl (fun _ => 0))), ((a 6), .inr (8, [.ref (a 7)])), ((a 7), .inl ((d 3), 9, .inl untold))] [((d 0), .byte), ((d 1), .int), ((d 2), .boolean), ((d 3), .int)] A s s.heap [] := St
  refine lv_aload_n hx hb dX10_trust_0 rfl (lv_at hl 0 rfl) ?_
  refine cs_get F St 0 rfl rfl inX10 1 (by decide) kf_X10_19 rfl dX10_trust_1 ?_
  refine lv_aload_n hx hb dX10_trust_4 rfl (lv_at hl 0 rfl) ?_
  refine cs_get F St 0 rfl rfl inX10 0 (by decide) kf_X10_10 rfl dX10_trust_5 ?_
  refine cs_i St [3, 4, 5, 6, 1] [0, 2, 7, 8] (wc := [((a 2), .inr (9, [.ref (a 3), .ref (a 5), .int 0, .int 0, .int 0, .int 0, .int 0, .int (-1)])), ((a 3), .inr (8, [.ref (a 4)])), ((a 4), .inl ((d 1), 9, .inl untold)), ((a 5), .inl ((d 2), 6, .inl (fun _ => 0))), ((a 0), .inr (6, [.ref (a 1), .int 0]))]) (wr := [(h, .inr (10, [.ref (a 0), .ref (a 2), .ref (a 6), .ref (a 8), .ref (a 15), .ref (a 17), .ref (a 22), .ref (a 23), .int 0, .int 0])), ((a 1), .inl ((d 0), 400, .inl (fun _ => 0))), ((a 6), .inr (8, [.ref (a 7)])), ((a 7), .inl ((d 3), 9, .inl untold))]) rfl rfl (by decide) (by decide) (va_runV (As := [.ref (a 0)]) (rest := []) F (c9_read0 l G k _ (a 2) (a 3) (a 4) (a 5) (d 1) (d 2) (fun _ => 0) (a 0) (a 1)) (cwVt F mf_X9_read km_X10_80 rfl rfl ⟨Nat.le_of_ble_eq_true rfl, Nat.le_of_ble_eq_true rfl⟩) (cs_preV St [3, 4, 5, 6, 1] rfl (by decide) [1, 2] rfl (ci := 9) (q0 := 3) rfl rfl) rfl rfl hl.1 rfl (lv_room (Nat.le_of_ble_eq_true rfl)) dX10_trust_8 ⟨Nat.le_of_ble_eq_true rfl, Nat.le_of_ble_eq_true rfl⟩) (fun r_1 u_2 H locs hw St => ?_)
  obtain ⟨f2_3, rfl⟩ : ∃ z, z = u_2 := ⟨_, rfl⟩
  try dsimp only at hw
  have z_4 := hw
  subst r_1
  have St : cS G k [(h, .inr (10, [.ref (a 0), .ref (a 2), .ref (a 6), .ref (a 8), .ref (a 15), .ref (a 17), .ref (a 22), .ref (a 23), .int 0, .int 0])), ((a 1), .inl ((d 0), 400, .inl (fun _ => 0))), ((a 6), .inr (8, [.ref (a 7)])), ((a 7), .inl ((d 3), 9, .inl untold)), ((a 2), .inr (9, [.ref (a 3), .ref (a 5), .int 0, .int 0, .int 0, .int 0, .int 0, .int (-1)])), ((a 3), .inr (8, [.ref (a 4)])), ((a 4), .inl ((d 1), 9, .inl untold)), ((a 5), .inl ((d 2), 6, .inl f2_3)), ((a 0), .inr (6, [.ref (a 1), .int 0]))] [((d 0), .byte), ((d 1), .int), ((d 2), .boolean), ((d 3), .int)] A s H locs := St
  refine lv_istore_n (lv' := [(1, .int 0), (0, .ref h)]) hx hb dX10_trust_11 rfl hl (by decide) rfl (fun ls hl => ?_)
  refine lv_aload_n hx hb dX10_trust_12 rfl (lv_at hl 1 rfl) ?_
  refine cs_get F St 0 rfl rfl inX10 0 (by decide) kf_X10_10 rfl dX10_trust_13 ?_
  refine lv_iconst (v := 0) hx hb dX10_trust_16 (by decide) ?_
  refine cs_v St [8] [0, 1, 2, 3, 4, 5, 6, 7] (wc := [((a 0), .inr (6, [.ref (a 1), .int 0]))]) (wr := [(h, .inr (10, [.ref (a 0), .ref (a 2), .ref (a 6), .ref (a 8), .ref (a 15), .ref (a 17), .ref (a 22), .ref (a 23), .int 0, .int 0])), ((a 1), .inl ((d 0), 400, .inl (fun _ => 0))), ((a 6), .inr (8, [.ref (a 7)])), ((a 7), .inl ((d 3), 9, .inl untold)), ((a 2), .inr (9, [.ref (a 3), .ref (a 5), .int 0, .int 0, .int 0, .int 0, .int 0, .int (-1)])), ((a 3), .inr (8, [.ref (a 4)])), ((a 4), .inl ((d 1), 9, .inl untold)), ((a 5), .inl ((d 2), 6, .inl f2_3))]) rfl rfl (by decide) (by decide) (va_runV (As := [.int 0]) (rest := []) F (c6_cutTo l G k _ (a 0) (a 1) 0 0) (cwVt F mf_X6_cutTo km_X10_77 rfl rfl ⟨Nat.le_of_ble_eq_true rfl, Nat.le_of_ble_eq_true rfl⟩) (cs_preV St [8] rfl (by decide) [] rfl (ci := 6) (q0 := 8) rfl rfl) rfl rfl hl.1 rfl (lv_room (Nat.le_of_ble_eq_true rfl)) dX10_trust_17 ⟨Nat.le_of_ble_eq_true rfl, Nat.le_of_ble_eq_true rfl⟩) (fun u_6 H locs hw St => ?_)
  try dsimp only at hw
  have St : cS G k [(h, .inr (10, [.ref (a 0), .ref (a 2), .ref (a 6), .ref (a 8), .ref (a 15), .ref (a 17), .ref (a 22), .ref (a 23), .int 0, .int 0])), ((a 1), .inl ((d 0), 400, .inl (fun _ => 0))), ((a 6), .inr (8, [.ref (a 7)])), ((a 7), .inl ((d 3), 9, .inl untold)), ((a 2), .inr (9, [.ref (a 3), .ref (a 5), .int 0, .int 0, .int 0, .int 0, .int 0, .int (-1)])), ((a 3), .inr (8, [.ref (a 4)])), ((a 4), .inl ((d 1), 9, .inl untold)), ((a 5), .inl ((d 2), 6, .inl f2_3)), ((a 0), .inr (6, [.ref (a 1), .int 0]))] [((d 0), .byte), ((d 1), .int), ((d 2), .boolean), ((d 3), .int)] A s H locs := St
  refine lv_iload_n hx hb dX10_trust_20 rfl (lv_at hl 0 rfl) ?_
  refine lv_iconst (v := (-1)) hx hb dX10_trust_21 (by decide) ?_
  refine lv_icmp_eq (tgt := 39) hx hb dX10_trust_22 (by decide) (fun c22 => ?_) (fun c22 => ?_)
  · exact absurd c22 (by decide)
  refine lv_aload_n hx hb dX10_trust_25 rfl (lv_at hl 1 rfl) ?_
  refine cs_get F St 0 rfl rfl inX10 2 (by decide) kf_X10_26 rfl dX10_trust_26 ?_
  refine lv_aload_n hx hb dX10_trust_29 rfl (lv_at hl 1 rfl) ?_
  refine cs_get F St 0 rfl rfl inX10 1 (by decide) kf_X10_19 rfl dX10_trust_30 ?_
  refine cs_q St [4] [0, 1, 2, 3, 5, 6, 7, 8] (wc := [((a 2), .inr (9, [.ref (a 3), .ref (a 5), .int 0, .int 0, .int 0, .int 0, .int 0, .int (-1)]))]) (wr := [(h, .inr (10, [.ref (a 0), .ref (a 2), .ref (a 6), .ref (a 8), .ref (a 15), .ref (a 17), .ref (a 22), .ref (a 23), .int 0, .int 0])), ((a 1), .inl ((d 0), 400, .inl (fun _ => 0))), ((a 6), .inr (8, [.ref (a 7)])), ((a 7), .inl ((d 3), 9, .inl untold)), ((a 3), .inr (8, [.ref (a 4)])), ((a 4), .inl ((d 1), 9, .inl untold)), ((a 5), .inl ((d 2), 6, .inl f2_3)), ((a 0), .inr (6, [.ref (a 1), .int 0]))]) rfl rfl (by decide) (by decide) (va_runV (As := []) (rest := [.ref (a 6)]) F (c9_draft l G k _ (a 2) (a 3) (a 5)) (cwVt F mf_X9_draft km_X10_84 rfl rfl ⟨Nat.le_of_ble_eq_true rfl, Nat.le_of_ble_eq_true rfl⟩) (cs_preV St [4] rfl (by decide) [] rfl (ci := 9) (q0 := 4) rfl rfl) rfl rfl hl.1 rfl (lv_room (Nat.le_of_ble_eq_true rfl)) dX10_trust_33 ⟨Nat.le_of_ble_eq_true rfl, Nat.le_of_ble_eq_true rfl⟩) (fun r_7 u_8 H locs hw St => ?_)
  try dsimp only at hw
  have z_9 := hw
  subst r_7
  have St : cS G k [(h, .inr (10, [.ref (a 0), .ref (a 2), .ref (a 6), .ref (a 8), .ref (a 15), .ref (a 17), .ref (a 22), .ref (a 23), .int 0, .int 0])), ((a 1), .inl ((d 0), 400, .inl (fun _ => 0))), ((a 6), .inr (8, [.ref (a 7)])), ((a 7), .inl ((d 3), 9, .inl untold)), ((a 3), .inr (8, [.ref (a 4)])), ((a 4), .inl ((d 1), 9, .inl untold)), ((a 5), .inl ((d 2), 6, .inl f2_3)), ((a 0), .inr (6, [.ref (a 1), .int 0])), ((a 2), .inr (9, [.ref (a 3), .ref (a 5), .int 0, .int 0, .int 0, .int 0, .int 0, .int (-1)]))] [((d 0), .byte), ((d 1), .int), ((d 2), .boolean), ((d 3), .int)] A s H locs := St
  show W _ _ _ _ _ _ _ _ _ _ _ _ _ _ _ (F0 m 36 ls [.ref (a 3), .ref (a 6)])
  refine cs_v St [2, 3, 4, 5] [0, 1, 6, 7, 8] (wc := [((a 6), .inr (8, [.ref (a 7)])), ((a 7), .inl ((d 3), 9, .inl untold)), ((a 3), .inr (8, [.ref (a 4)])), ((a 4), .inl ((d 1), 9, .inl untold))]) (wr := [(h, .inr (10, [.ref (a 0), .ref (a 2), .ref (a 6), .ref (a 8), .ref (a 15), .ref (a 17), .ref (a 22), .ref (a 23), .int 0, .int 0])), ((a 1), .inl ((d 0), 400, .inl (fun _ => 0))), ((a 5), .inl ((d 2), 6, .inl f2_3)), ((a 0), .inr (6, [.ref (a 1), .int 0])), ((a 2), .inr (9, [.ref (a 3), .ref (a 5), .int 0, .int 0, .int 0, .int 0, .int 0, .int (-1)]))]) rfl rfl (by decide) (by decide) (va_runV (As := [.ref (a 3)]) (rest := []) F (c8_takeOver l G k _ (a 6) (a 7) (a 3) (a 4) (d 3) (d 1)) (cwVt F mf_X8_takeOver km_X10_88 rfl rfl ⟨Nat.le_of_ble_eq_true rfl, Nat.le_of_ble_eq_true rfl⟩) (cs_preV St [2, 3, 4, 5] rfl (by decide) [3, 1] rfl (ci := 8) (q0 := 2) rfl rfl) rfl rfl hl.1 rfl (lv_room (Nat.le_of_ble_eq_true rfl)) dX10_trust_36 ⟨Nat.le_of_ble_eq_true rfl, Nat.le_of_ble_eq_true rfl⟩) (fun u_11 H locs hw St => ?_)
  try dsimp only at hw
  have St : cS G k [(h, .inr (10, [.ref (a 0), .ref (a 2), .ref (a 6), .ref (a 8), .ref (a 15), .ref (a 17), .ref (a 22), .ref (a 23), .int 0, .int 0])), ((a 1), .inl ((d 0), 400, .inl (fun _ => 0))), ((a 5), .inl ((d 2), 6, .inl f2_3)), ((a 0), .inr (6, [.ref (a 1), .int 0])), ((a 2), .inr (9, [.ref (a 3), .ref (a 5), .int 0, .int 0, .int 0, .int 0, .int 0, .int (-1)])), ((a 6), .inr (8, [.ref (a 7)])), ((a 7), .inl ((d 3), 9, .inl untold)), ((a 3), .inr (8, [.ref (a 4)])), ((a 4), .inl ((d 1), 9, .inl untold))] [((d 0), .byte), ((d 1), .int), ((d 2), .boolean), ((d 3), .int)] A s H locs := St
  refine lv_iload_n hx hb dX10_trust_39 rfl (lv_at hl 0 rfl) ?_
  exact cs_iret F hr hlk hQ St () (r := 0) rfl [] rfl (by decide) [] rfl (by decide) (by decide) dX10_trust_40
set_option maxHeartbeats 4000000 in
set_option maxRecDepth 100000 in
/-- fault on a new object -/
theorem x_fault (l : Launch) (G : va_G) (k : Nat → Nat) (sz : Nat) (h : Nat) (a : Nat → Nat) (d : Nat → ClassId) (x1 : Int32) : Met l yX10_fault (Cond.code yX10_fault cX10_fault 2 (some .int) :: tb) ({ frames := 1, cells := 0, slots := 0, locals := 20 } : Room) (va_Pc [.ref h, .int x1] (cP G k [(h, .inr (10, [.ref (a 0), .ref (a 2), .ref (a 6), .ref (a 8), .ref (a 15), .ref (a 17), .ref (a 22), .ref (a 23), .int 0, .int 0])), ((a 2), .inr (9, [.ref (a 3), .ref (a 5), .int 0, .int 0, .int 0, .int 0, .int 0, .int (-1)]))] [] sz)) (va_Qi (fun (r : Int32) (_ : Unit) => ((r = 0) ∧ (x1.toInt = 0)) ∨ ((r = (-1)) ∧ (¬ x1.toInt = 0))) (cB G (fun (_ : Unit) => []) (fun (_ : Unit) => []) (va_A [(h, .inr (10, [.ref (a 0), .ref (a 2), .ref (a 6), .ref (a 8), .ref (a 15), .ref (a 17), .ref (a 22), .ref (a 23), .int 0, .int 0])), ((a 2), .inr (9, [.ref (a 3), .ref (a 5), .int 0, .int 0, .int 0, .int 0, .int 0, .int (-1)]))] sz)) (va_A [(h, .inr (10, [.ref (a 0), .ref (a 2), .ref (a 6), .ref (a 8), .ref (a 15), .ref (a 17), .ref (a 22), .ref (a 23), .int 0, .int 0])), ((a 2), .inr (9, [.ref (a 3), .ref (a 5), .int 0, .int 0, .int 0, .int 0, .int 0, .int (-1)]))] sz)) 0 0 (va_A [(h, .inr (10, [.ref (a 0), .ref (a 2), .ref (a 6), .ref (a 8), .ref (a 15), .ref (a 17), .ref (a 22), .ref (a 23), .int 0, .int 0])), ((a 2), .inr (9, [.ref (a 3), .ref (a 5), .int 0, .int 0, .int 0, .int 0, .int 0, .int (-1)]))] sz) := by
  refine ofC_i (cc := cX10_fault) (maxL := 2) (ret := (some .int)) (by decide) rfl (Nat.le_of_ble_eq_true rfl) ?_
  intro p e s m args below meth c A ls Q F hr hin hlk St hl hQ
  have hx := F.1
  have hb := F.2.1
  have hl : lv_has ls 2 [(0, .ref h), (1, .int x1)] := hl
  have St : cS G k [(h, .inr (10, [.ref (a 0), .ref (a 2), .ref (a 6), .ref (a 8), .ref (a 15), .ref (a 17), .ref (a 22), .ref (a 23), .int 0, .int 0])), ((a 2), .inr (9, [.ref (a 3), .ref (a 5), .int 0, .int 0, .int 0, .int 0, .int 0, .int (-1)]))] [] A s s.heap [] := St
  refine lv_iload_n hx hb dX10_fault_0 rfl (lv_at hl 1 rfl) ?_
  refine lv_if_ne (tgt := 12) hx hb dX10_fault_1 (by decide) (fun c1 => ?_) (fun c1 => ?_)
  ·
    have i1 := ci_ne (x := x1) (y := 0) rfl (show (0 : Int32).toInt = 0 by decide) c1
    refine lv_iload_n hx hb dX10_fault_12 rfl (lv_at hl 1 rfl) ?_
    refine lv_iconst (v := 1) hx hb dX10_fault_13 (by decide) ?_
    refine lv_icmp_ne (tgt := 27) hx hb dX10_fault_14 (by decide) (fun c14 => ?_) (fun c14 => ?_)
    ·
      have i14 := ci_ne (x := x1) (y := 1) rfl (show (1 : Int32).toInt = 1 by decide) c14
      refine lv_iconst (v := (-1)) hx hb dX10_fault_27 (by decide) ?_
      exact cs_iret F hr hlk hQ St () (r := (-1)) (Or.inr ⟨rfl, by omega⟩) [] rfl (by decide) [] rfl (by decide) (by decide) dX10_fault_28
    ·
      have i14 := ci_eq (x := x1) (y := 1) rfl (show (1 : Int32).toInt = 1 by decide) c14
      refine lv_aload_n hx hb dX10_fault_17 rfl (lv_at hl 0 rfl) ?_
      refine cs_get F St 0 rfl rfl inX10 1 (by decide) kf_X10_19 rfl dX10_fault_18 ?_
      refine cs_i St [1] [0] (wc := [((a 2), .inr (9, [.ref (a 3), .ref (a 5), .int 0, .int 0, .int 0, .int 0, .int 0, .int (-1)]))]) (wr := [(h, .inr (10, [.ref (a 0), .ref (a 2), .ref (a 6), .ref (a 8), .ref (a 15), .ref (a 17), .ref (a 22), .ref (a 23), .int 0, .int 0]))]) rfl rfl (by decide) (by decide) (va_runV (As := []) (rest := []) F (c9_faultPlace l G k _ (a 2) (a 3) (a 5)) (cwVt F mf_X9_faultPlace km_X10_95 rfl rfl ⟨Nat.le_of_ble_eq_true rfl, Nat.le_of_ble_eq_true rfl⟩) (cs_preV St [1] rfl (by decide) [] rfl (ci := 9) (q0 := 1) rfl rfl) rfl rfl hl.1 rfl (lv_room (Nat.le_of_ble_eq_true rfl)) dX10_fault_21 ⟨Nat.le_of_ble_eq_true rfl, Nat.le_of_ble_eq_true rfl⟩) (fun r_1 u_2 H locs hw St => ?_)
      try dsimp only at hw
      have z_3 := hw
      subst r_1
      have St : cS G k [(h, .inr (10, [.ref (a 0), .ref (a 2), .ref (a 6), .ref (a 8), .ref (a 15), .ref (a 17), .ref (a 22), .ref (a 23), .int 0, .int 0])), ((a 2), .inr (9, [.ref (a 3), .ref (a 5), .int 0, .int 0, .int 0, .int 0, .int 0, .int (-1)]))] [] A s H locs := St
      refine lv_goto (tgt := 28) hx hb dX10_fault_24 (by decide) ?_
      exact cs_iret F hr hlk hQ St () (r := (-1)) (Or.inr ⟨rfl, by omega⟩) [] rfl (by decide) [] rfl (by decide) (by decide) dX10_fault_28
  ·
    have i1 := ci_eq (x := x1) (y := 0) rfl (show (0 : Int32).toInt = 0 by decide) c1
    refine lv_aload_n hx hb dX10_fault_4 rfl (lv_at hl 0 rfl) ?_
    refine cs_get F St 0 rfl rfl inX10 1 (by decide) kf_X10_19 rfl dX10_fault_5 ?_
    refine cs_i St [1] [0] (wc := [((a 2), .inr (9, [.ref (a 3), .ref (a 5), .int 0, .int 0, .int 0, .int 0, .int 0, .int (-1)]))]) (wr := [(h, .inr (10, [.ref (a 0), .ref (a 2), .ref (a 6), .ref (a 8), .ref (a 15), .ref (a 17), .ref (a 22), .ref (a 23), .int 0, .int 0]))]) rfl rfl (by decide) (by decide) (va_runV (As := []) (rest := []) F (c9_faultKind l G k _ (a 2) (a 3) (a 5)) (cwVt F mf_X9_faultKind km_X10_92 rfl rfl ⟨Nat.le_of_ble_eq_true rfl, Nat.le_of_ble_eq_true rfl⟩) (cs_preV St [1] rfl (by decide) [] rfl (ci := 9) (q0 := 1) rfl rfl) rfl rfl hl.1 rfl (lv_room (Nat.le_of_ble_eq_true rfl)) dX10_fault_8 ⟨Nat.le_of_ble_eq_true rfl, Nat.le_of_ble_eq_true rfl⟩) (fun r_4 u_5 H locs hw St => ?_)
    try dsimp only at hw
    have z_6 := hw
    subst r_4
    have St : cS G k [(h, .inr (10, [.ref (a 0), .ref (a 2), .ref (a 6), .ref (a 8), .ref (a 15), .ref (a 17), .ref (a 22), .ref (a 23), .int 0, .int 0])), ((a 2), .inr (9, [.ref (a 3), .ref (a 5), .int 0, .int 0, .int 0, .int 0, .int 0, .int (-1)]))] [] A s H locs := St
    exact cs_iret F hr hlk hQ St () (r := 0) (Or.inl ⟨rfl, by omega⟩) [] rfl (by decide) [] rfl (by decide) (by decide) dX10_fault_11
set_option maxHeartbeats 4000000 in
set_option maxRecDepth 100000 in
/-- rule on a new object -/
theorem x_rule (l : Launch) (G : va_G) (k : Nat → Nat) (sz : Nat) (h : Nat) (a : Nat → Nat) (d : Nat → ClassId) (x1 : Int32) : Met l yX10_rule (Cond.code yX10_rule cX10_rule 2 (some .int) :: tb) ({ frames := 1, cells := 0, slots := 0, locals := 21 } : Room) (va_Pc [.ref h, .int x1] (cP G k [(h, .inr (10, [.ref (a 0), .ref (a 2), .ref (a 6), .ref (a 8), .ref (a 15), .ref (a 17), .ref (a 22), .ref (a 23), .int 0, .int 0])), ((a 6), .inr (8, [.ref (a 7)])), ((a 7), .inl ((d 3), 9, .inl untold))] [((d 3), .int)] sz)) (va_Qi (fun (r : Int32) (_ : Unit) => ((r = untold (x1 : Int32).toNatClampNeg) ∧ (0 ≤ x1.toInt ∧ x1.toInt ≤ 8)) ∨ ((r = (-9)) ∧ (¬ (0 ≤ x1.toInt ∧ x1.toInt ≤ 8)))) (cB G (fun (_ : Unit) => []) (fun (_ : Unit) => []) (va_A [(h, .inr (10, [.ref (a 0), .ref (a 2), .ref (a 6), .ref (a 8), .ref (a 15), .ref (a 17), .ref (a 22), .ref (a 23), .int 0, .int 0])), ((a 6), .inr (8, [.ref (a 7)])), ((a 7), .inl ((d 3), 9, .inl untold))] sz)) (va_A [(h, .inr (10, [.ref (a 0), .ref (a 2), .ref (a 6), .ref (a 8), .ref (a 15), .ref (a 17), .ref (a 22), .ref (a 23), .int 0, .int 0])), ((a 6), .inr (8, [.ref (a 7)])), ((a 7), .inl ((d 3), 9, .inl untold))] sz)) 0 0 (va_A [(h, .inr (10, [.ref (a 0), .ref (a 2), .ref (a 6), .ref (a 8), .ref (a 15), .ref (a 17), .ref (a 22), .ref (a 23), .int 0, .int 0])), ((a 6), .inr (8, [.ref (a 7)])), ((a 7), .inl ((d 3), 9, .inl untold))] sz) := by
  refine ofC_i (cc := cX10_rule) (maxL := 2) (ret := (some .int)) (by decide) rfl (Nat.le_of_ble_eq_true rfl) ?_
  intro p e s m args below meth c A ls Q F hr hin hlk St hl hQ
  have hx := F.1
  have hb := F.2.1
  have hl : lv_has ls 2 [(0, .ref h), (1, .int x1)] := hl
  have St : cS G k [(h, .inr (10, [.ref (a 0), .ref (a 2), .ref (a 6), .ref (a 8), .ref (a 15), .ref (a 17), .ref (a 22), .ref (a 23), .int 0, .int 0])), ((a 6), .inr (8, [.ref (a 7)])), ((a 7), .inl ((d 3), 9, .inl untold))] [((d 3), .int)] A s s.heap [] := St
  refine lv_iload_n hx hb dX10_rule_0 rfl (lv_at hl 1 rfl) ?_
  refine lv_if_lt (tgt := 21) hx hb dX10_rule_1 (by decide) (fun c1 => ?_) (fun c1 => ?_)
  ·
    have i1 := ci_lt (x := x1) (y := 0) rfl (show (0 : Int32).toInt = 0 by decide) c1
    refine lv_bipush (v := (-9)) hx hb dX10_rule_21 (by decide) ?_
    exact cs_iret F hr hlk hQ St () (r := (-9)) (Or.inr ⟨rfl, by omega⟩) [] rfl (by decide) [] rfl (by decide) (by decide) dX10_rule_23
  ·
    have i1 := ci_nlt (x := x1) (y := 0) rfl (show (0 : Int32).toInt = 0 by decide) c1
    refine lv_iload_n hx hb dX10_rule_4 rfl (lv_at hl 1 rfl) ?_
    refine lv_bipush (v := 9) hx hb dX10_rule_5 (by decide) ?_
    refine lv_icmp_ge (tgt := 21) hx hb dX10_rule_7 (by decide) (fun c7 => ?_) (fun c7 => ?_)
    ·
      have i7 := ci_le (x := 9) (y := x1) (show (9 : Int32).toInt = 9 by decide) rfl c7
      refine lv_bipush (v := (-9)) hx hb dX10_rule_21 (by decide) ?_
      exact cs_iret F hr hlk hQ St () (r := (-9)) (Or.inr ⟨rfl, by omega⟩) [] rfl (by decide) [] rfl (by decide) (by decide) dX10_rule_23
    ·
      have i7 := ci_nle (x := 9) (y := x1) (show (9 : Int32).toInt = 9 by decide) rfl c7
      refine lv_aload_n hx hb dX10_rule_10 rfl (lv_at hl 0 rfl) ?_
      refine cs_get F St 0 rfl rfl inX10 2 (by decide) kf_X10_26 rfl dX10_rule_11 ?_
      refine lv_iload_n hx hb dX10_rule_14 rfl (lv_at hl 1 rfl) ?_
      refine cs_i St [1, 2] [0] (wc := [((a 6), .inr (8, [.ref (a 7)])), ((a 7), .inl ((d 3), 9, .inl untold))]) (wr := [(h, .inr (10, [.ref (a 0), .ref (a 2), .ref (a 6), .ref (a 8), .ref (a 15), .ref (a 17), .ref (a 22), .ref (a 23), .int 0, .int 0]))]) rfl rfl (by decide) (by decide) (va_runV (As := [.int x1]) (rest := []) F (c8_at l G k _ (a 6) (a 7) (d 3) x1 (by omega) (by omega)) (cwVt F mf_X8_at km_X10_98 rfl rfl ⟨Nat.le_of_ble_eq_true rfl, Nat.le_of_ble_eq_true rfl⟩) (cs_preV St [1, 2] rfl (by decide) [0] rfl (ci := 8) (q0 := 1) rfl rfl) rfl rfl hl.1 rfl (lv_room (Nat.le_of_ble_eq_true rfl)) dX10_rule_15 ⟨Nat.le_of_ble_eq_true rfl, Nat.le_of_ble_eq_true rfl⟩) (fun r_1 u_2 H locs hw St => ?_)
      try dsimp only at hw
      have z_3 := hw
      have St : cS G k [(h, .inr (10, [.ref (a 0), .ref (a 2), .ref (a 6), .ref (a 8), .ref (a 15), .ref (a 17), .ref (a 22), .ref (a 23), .int 0, .int 0])), ((a 6), .inr (8, [.ref (a 7)])), ((a 7), .inl ((d 3), 9, .inl untold))] [((d 3), .int)] A s H locs := St
      refine lv_goto (tgt := 23) hx hb dX10_rule_18 (by decide) ?_
      exact cs_iret F hr hlk hQ St () (r := r_1) (Or.inl ⟨z_3, by omega⟩) [] rfl (by decide) [] rfl (by decide) (by decide) dX10_rule_23
set_option maxHeartbeats 4000000 in
set_option maxRecDepth 100000 in
/-- declare on a new object -/
theorem x_declare (l : Launch) (G : va_G) (k : Nat → Nat) (sz : Nat) (h : Nat) (a : Nat → Nat) (d : Nat → ClassId) (x1 : Int32) (x2 : Int32) (x3 : Int32) : Met l yX10_declare (Cond.code yX10_declare cX10_declare 4 (some .int) :: tb) ({ frames := 2, cells := 0, slots := 0, locals := 43 } : Room) (va_Pc [.ref h, .int x1, .int x2, .int x3] (cP G k [(h, .inr (10, [.ref (a 0), .ref (a 2), .ref (a 6), .ref (a 8), .ref (a 15), .ref (a 17), .ref (a 22), .ref (a 23), .int 0, .int 0])), ((a 8), .inr (0, [.ref (a 9), .ref (a 10), .ref (a 11), .ref (a 12), .ref (a 13), .ref (a 14)])), ((a 9), .inl ((d 4), 30, .inl (minus 30))), ((a 10), .inl ((d 5), 30, .inl (minus 30)))] [((d 4), .int), ((d 5), .int)] sz)) (va_Qi (fun (r : Int32) (_ : Unit) => ((r = 1) ∧ ((0 ≤ x1.toInt ∧ x1.toInt ≤ 29) ∧ 0 ≤ x2.toInt ∧ x2.toInt ≤ x3.toInt ∧ x3.toInt ≤ 119)) ∨ ((r = (-2)) ∧ (¬ ((0 ≤ x1.toInt ∧ x1.toInt ≤ 29) ∧ 0 ≤ x2.toInt ∧ x2.toInt ≤ x3.toInt ∧ x3.toInt ≤ 119)))) (cB G (fun (_ : Unit) => []) (fun (_ : Unit) => []) (va_A [(h, .inr (10, [.ref (a 0), .ref (a 2), .ref (a 6), .ref (a 8), .ref (a 15), .ref (a 17), .ref (a 22), .ref (a 23), .int 0, .int 0])), ((a 8), .inr (0, [.ref (a 9), .ref (a 10), .ref (a 11), .ref (a 12), .ref (a 13), .ref (a 14)])), ((a 9), .inl ((d 4), 30, .inl (minus 30))), ((a 10), .inl ((d 5), 30, .inl (minus 30)))] sz)) (va_A [(h, .inr (10, [.ref (a 0), .ref (a 2), .ref (a 6), .ref (a 8), .ref (a 15), .ref (a 17), .ref (a 22), .ref (a 23), .int 0, .int 0])), ((a 8), .inr (0, [.ref (a 9), .ref (a 10), .ref (a 11), .ref (a 12), .ref (a 13), .ref (a 14)])), ((a 9), .inl ((d 4), 30, .inl (minus 30))), ((a 10), .inl ((d 5), 30, .inl (minus 30)))] sz)) 0 0 (va_A [(h, .inr (10, [.ref (a 0), .ref (a 2), .ref (a 6), .ref (a 8), .ref (a 15), .ref (a 17), .ref (a 22), .ref (a 23), .int 0, .int 0])), ((a 8), .inr (0, [.ref (a 9), .ref (a 10), .ref (a 11), .ref (a 12), .ref (a 13), .ref (a 14)])), ((a 9), .inl ((d 4), 30, .inl (minus 30))), ((a 10), .inl ((d 5), 30, .inl (minus 30)))] sz) := by
  refine ofC_i (cc := cX10_declare) (maxL := 4) (ret := (some .int)) (by decide) rfl (Nat.le_of_ble_eq_true rfl) ?_
  intro p e s m args below meth c A ls Q F hr hin hlk St hl hQ
  have hx := F.1
  have hb := F.2.1
  have hl : lv_has ls 4 [(0, .ref h), (1, .int x1), (2, .int x2), (3, .int x3)] := hl
  have St : cS G k [(h, .inr (10, [.ref (a 0), .ref (a 2), .ref (a 6), .ref (a 8), .ref (a 15), .ref (a 17), .ref (a 22), .ref (a 23), .int 0, .int 0])), ((a 8), .inr (0, [.ref (a 9), .ref (a 10), .ref (a 11), .ref (a 12), .ref (a 13), .ref (a 14)])), ((a 9), .inl ((d 4), 30, .inl (minus 30))), ((a 10), .inl ((d 5), 30, .inl (minus 30)))] [((d 4), .int), ((d 5), .int)] A s s.heap [] := St
  refine lv_iload_n hx hb dX10_declare_0 rfl (lv_at hl 1 rfl) ?_
  refine cs_i St [] [0, 1, 2, 3] (wc := []) (wr := [(h, .inr (10, [.ref (a 0), .ref (a 2), .ref (a 6), .ref (a 8), .ref (a 15), .ref (a 17), .ref (a 22), .ref (a 23), .int 0, .int 0])), ((a 8), .inr (0, [.ref (a 9), .ref (a 10), .ref (a 11), .ref (a 12), .ref (a 13), .ref (a 14)])), ((a 9), .inl ((d 4), 30, .inl (minus 30))), ((a 10), .inl ((d 5), 30, .inl (minus 30)))]) rfl rfl (by decide) (by decide) (va_runS (As := [.int x1]) (rest := []) F (c10_isGiver l G k _ x1) (cwSt F mf_X10_isGiver km_X10_102 rfl rfl ⟨Nat.le_of_ble_eq_true rfl, Nat.le_of_ble_eq_true rfl⟩) (cs_pre St [] rfl (by decide) [] rfl) rfl rfl hl.1 rfl (lv_room (Nat.le_of_ble_eq_true rfl)) dX10_declare_1 ⟨Nat.le_of_ble_eq_true rfl, Nat.le_of_ble_eq_true rfl⟩) (fun r_1 u_2 H locs hw St => ?_)
  try dsimp only at hw
  rcases hw with ⟨z_3, hf_4⟩ | ⟨z_5, hf_6⟩
  ·
    subst r_1
    have St : cS G k [(h, .inr (10, [.ref (a 0), .ref (a 2), .ref (a 6), .ref (a 8), .ref (a 15), .ref (a 17), .ref (a 22), .ref (a 23), .int 0, .int 0])), ((a 8), .inr (0, [.ref (a 9), .ref (a 10), .ref (a 11), .ref (a 12), .ref (a 13), .ref (a 14)])), ((a 9), .inl ((d 4), 30, .inl (minus 30))), ((a 10), .inl ((d 5), 30, .inl (minus 30)))] [((d 4), .int), ((d 5), .int)] A s H locs := St
    refine lv_if_eq (tgt := 22) hx hb dX10_declare_4 (by decide) (fun c4 => ?_) (fun c4 => ?_)
    · exact absurd c4 (by decide)
    refine lv_iload_n hx hb dX10_declare_7 rfl (lv_at hl 2 rfl) ?_
    refine lv_if_lt (tgt := 22) hx hb dX10_declare_8 (by decide) (fun c8 => ?_) (fun c8 => ?_)
    ·
      have i8 := ci_lt (x := x2) (y := 0) rfl (show (0 : Int32).toInt = 0 by decide) c8
      refine lv_bipush (v := (-2)) hx hb dX10_declare_22 (by decide) ?_
      exact cs_iret F hr hlk hQ St () (r := (-2)) (Or.inr ⟨rfl, by omega⟩) [] rfl (by decide) [] rfl (by decide) (by decide) dX10_declare_24
    ·
      have i8 := ci_nlt (x := x2) (y := 0) rfl (show (0 : Int32).toInt = 0 by decide) c8
      refine lv_iload_n hx hb dX10_declare_11 rfl (lv_at hl 2 rfl) ?_
      refine lv_iload_n hx hb dX10_declare_12 rfl (lv_at hl 3 rfl) ?_
      refine lv_icmp_gt (tgt := 22) hx hb dX10_declare_13 (by decide) (fun c13 => ?_) (fun c13 => ?_)
      ·
        have i13 := ci_lt (x := x3) (y := x2) rfl rfl c13
        refine lv_bipush (v := (-2)) hx hb dX10_declare_22 (by decide) ?_
        exact cs_iret F hr hlk hQ St () (r := (-2)) (Or.inr ⟨rfl, by omega⟩) [] rfl (by decide) [] rfl (by decide) (by decide) dX10_declare_24
      ·
        have i13 := ci_nlt (x := x3) (y := x2) rfl rfl c13
        refine lv_iload_n hx hb dX10_declare_16 rfl (lv_at hl 3 rfl) ?_
        refine lv_bipush (v := 119) hx hb dX10_declare_17 (by decide) ?_
        refine lv_icmp_le (tgt := 25) hx hb dX10_declare_19 (by decide) (fun c19 => ?_) (fun c19 => ?_)
        ·
          have i19 := ci_le (x := x3) (y := 119) rfl (show (119 : Int32).toInt = 119 by decide) c19
          refine lv_aload_n hx hb dX10_declare_25 rfl (lv_at hl 0 rfl) ?_
          refine cs_get F St 0 rfl rfl inX10 9 (by decide) kf_X10_106 rfl dX10_declare_26 ?_
          refine lv_if_eq (tgt := 35) hx hb dX10_declare_29 (by decide) (fun c29 => ?_) (fun c29 => ?_)
          rotate_left
          · exact absurd (by decide) c29
          refine lv_aload_n hx hb dX10_declare_35 rfl (lv_at hl 0 rfl) ?_
          refine cs_get F St 0 rfl rfl inX10 3 (by decide) kf_X10_33 rfl dX10_declare_36 ?_
          refine lv_iload_n hx hb dX10_declare_39 rfl (lv_at hl 1 rfl) ?_
          refine lv_iload_n hx hb dX10_declare_40 rfl (lv_at hl 2 rfl) ?_
          refine lv_iload_n hx hb dX10_declare_41 rfl (lv_at hl 3 rfl) ?_
          refine cs_v St [1, 2, 3] [0] (wc := [((a 8), .inr (0, [.ref (a 9), .ref (a 10), .ref (a 11), .ref (a 12), .ref (a 13), .ref (a 14)])), ((a 9), .inl ((d 4), 30, .inl (minus 30))), ((a 10), .inl ((d 5), 30, .inl (minus 30)))]) (wr := [(h, .inr (10, [.ref (a 0), .ref (a 2), .ref (a 6), .ref (a 8), .ref (a 15), .ref (a 17), .ref (a 22), .ref (a 23), .int 0, .int 0]))]) rfl rfl (by decide) (by decide) (va_runV (As := [.int x1, .int x2, .int x3]) (rest := []) F (c0_setDecl l G k _ (a 8) (a 9) (a 10) (a 11) (a 12) (a 13) (a 14) (d 4) (d 5) (minus 30) (minus 30) x1 x2 x3 (by omega)) (cwVt F mf_X0_setDeclaration km_X10_110 rfl rfl ⟨Nat.le_of_ble_eq_true rfl, Nat.le_of_ble_eq_true rfl⟩) (cs_preV St [1, 2, 3] rfl (by decide) [0, 1] rfl (ci := 0) (q0 := 1) rfl rfl) rfl rfl hl.1 rfl (lv_room (Nat.le_of_ble_eq_true rfl)) dX10_declare_42 ⟨Nat.le_of_ble_eq_true rfl, Nat.le_of_ble_eq_true rfl⟩) (fun u_8 H locs hw St => ?_)
          obtain ⟨z0_9, z1_10⟩ := u_8
          try dsimp only at hw
          have St : cS G k [(h, .inr (10, [.ref (a 0), .ref (a 2), .ref (a 6), .ref (a 8), .ref (a 15), .ref (a 17), .ref (a 22), .ref (a 23), .int 0, .int 0])), ((a 8), .inr (0, [.ref (a 9), .ref (a 10), .ref (a 11), .ref (a 12), .ref (a 13), .ref (a 14)])), ((a 9), .inl ((d 4), 30, .inl z0_9)), ((a 10), .inl ((d 5), 30, .inl z1_10))] [((d 4), .int), ((d 5), .int)] A s H locs := St
          refine lv_iconst (v := 1) hx hb dX10_declare_45 (by decide) ?_
          exact cs_iret F hr hlk hQ St () (r := 1) (Or.inl ⟨rfl, by omega⟩) [] rfl (by decide) [] rfl (by decide) (by decide) dX10_declare_46
        ·
          have i19 := ci_nle (x := x3) (y := 119) rfl (show (119 : Int32).toInt = 119 by decide) c19
          refine lv_bipush (v := (-2)) hx hb dX10_declare_22 (by decide) ?_
          exact cs_iret F hr hlk hQ St () (r := (-2)) (Or.inr ⟨rfl, by omega⟩) [] rfl (by decide) [] rfl (by decide) (by decide) dX10_declare_24
  ·
    subst r_1
    have St : cS G k [(h, .inr (10, [.ref (a 0), .ref (a 2), .ref (a 6), .ref (a 8), .ref (a 15), .ref (a 17), .ref (a 22), .ref (a 23), .int 0, .int 0])), ((a 8), .inr (0, [.ref (a 9), .ref (a 10), .ref (a 11), .ref (a 12), .ref (a 13), .ref (a 14)])), ((a 9), .inl ((d 4), 30, .inl (minus 30))), ((a 10), .inl ((d 5), 30, .inl (minus 30)))] [((d 4), .int), ((d 5), .int)] A s H locs := St
    refine lv_if_eq (tgt := 22) hx hb dX10_declare_4 (by decide) (fun c4 => ?_) (fun c4 => ?_)
    rotate_left
    · exact absurd (by decide) c4
    refine lv_bipush (v := (-2)) hx hb dX10_declare_22 (by decide) ?_
    exact cs_iret F hr hlk hQ St () (r := (-2)) (Or.inr ⟨rfl, by omega⟩) [] rfl (by decide) [] rfl (by decide) (by decide) dX10_declare_24
set_option maxHeartbeats 4000000 in
set_option maxRecDepth 100000 in
/-- nameless on a new object -/
theorem x_nameless (l : Launch) (G : va_G) (k : Nat → Nat) (sz : Nat) (h : Nat) (a : Nat → Nat) (d : Nat → ClassId) (x1 : Int32) (x2 : Int32) : Met l yX10_nameless (Cond.code yX10_nameless cX10_nameless 3 (some .int) :: tb) ({ frames := 2, cells := 0, slots := 0, locals := 42 } : Room) (va_Pc [.ref h, .int x1, .int x2] (cP G k [(h, .inr (10, [.ref (a 0), .ref (a 2), .ref (a 6), .ref (a 8), .ref (a 15), .ref (a 17), .ref (a 22), .ref (a 23), .int 0, .int 0])), ((a 8), .inr (0, [.ref (a 9), .ref (a 10), .ref (a 11), .ref (a 12), .ref (a 13), .ref (a 14)])), ((a 11), .inl ((d 6), 30, .inl (fun _ => 0)))] [((d 6), .boolean)] sz)) (va_Qi (fun (r : Int32) (_ : Unit) => ((r = 0) ∧ (0 ≤ x1.toInt ∧ x1.toInt ≤ 29) ∧ (x2 = 0)) ∨ ((r = 1) ∧ (0 ≤ x1.toInt ∧ x1.toInt ≤ 29) ∧ (¬ x2 = 0)) ∨ ((r = (-2)) ∧ (¬ (0 ≤ x1.toInt ∧ x1.toInt ≤ 29)))) (cB G (fun (_ : Unit) => []) (fun (_ : Unit) => []) (va_A [(h, .inr (10, [.ref (a 0), .ref (a 2), .ref (a 6), .ref (a 8), .ref (a 15), .ref (a 17), .ref (a 22), .ref (a 23), .int 0, .int 0])), ((a 8), .inr (0, [.ref (a 9), .ref (a 10), .ref (a 11), .ref (a 12), .ref (a 13), .ref (a 14)])), ((a 11), .inl ((d 6), 30, .inl (fun _ => 0)))] sz)) (va_A [(h, .inr (10, [.ref (a 0), .ref (a 2), .ref (a 6), .ref (a 8), .ref (a 15), .ref (a 17), .ref (a 22), .ref (a 23), .int 0, .int 0])), ((a 8), .inr (0, [.ref (a 9), .ref (a 10), .ref (a 11), .ref (a 12), .ref (a 13), .ref (a 14)])), ((a 11), .inl ((d 6), 30, .inl (fun _ => 0)))] sz)) 0 0 (va_A [(h, .inr (10, [.ref (a 0), .ref (a 2), .ref (a 6), .ref (a 8), .ref (a 15), .ref (a 17), .ref (a 22), .ref (a 23), .int 0, .int 0])), ((a 8), .inr (0, [.ref (a 9), .ref (a 10), .ref (a 11), .ref (a 12), .ref (a 13), .ref (a 14)])), ((a 11), .inl ((d 6), 30, .inl (fun _ => 0)))] sz) := by
  refine ofC_i (cc := cX10_nameless) (maxL := 3) (ret := (some .int)) (by decide) rfl (Nat.le_of_ble_eq_true rfl) ?_
  intro p e s m args below meth c A ls Q F hr hin hlk St hl hQ
  have hx := F.1
  have hb := F.2.1
  have hl : lv_has ls 3 [(0, .ref h), (1, .int x1), (2, .int x2)] := hl
  have St : cS G k [(h, .inr (10, [.ref (a 0), .ref (a 2), .ref (a 6), .ref (a 8), .ref (a 15), .ref (a 17), .ref (a 22), .ref (a 23), .int 0, .int 0])), ((a 8), .inr (0, [.ref (a 9), .ref (a 10), .ref (a 11), .ref (a 12), .ref (a 13), .ref (a 14)])), ((a 11), .inl ((d 6), 30, .inl (fun _ => 0)))] [((d 6), .boolean)] A s s.heap [] := St
  refine lv_iload_n hx hb dX10_nameless_0 rfl (lv_at hl 1 rfl) ?_
  refine cs_i St [] [0, 1, 2] (wc := []) (wr := [(h, .inr (10, [.ref (a 0), .ref (a 2), .ref (a 6), .ref (a 8), .ref (a 15), .ref (a 17), .ref (a 22), .ref (a 23), .int 0, .int 0])), ((a 8), .inr (0, [.ref (a 9), .ref (a 10), .ref (a 11), .ref (a 12), .ref (a 13), .ref (a 14)])), ((a 11), .inl ((d 6), 30, .inl (fun _ => 0)))]) rfl rfl (by decide) (by decide) (va_runS (As := [.int x1]) (rest := []) F (c10_isGiver l G k _ x1) (cwSt F mf_X10_isGiver km_X10_102 rfl rfl ⟨Nat.le_of_ble_eq_true rfl, Nat.le_of_ble_eq_true rfl⟩) (cs_pre St [] rfl (by decide) [] rfl) rfl rfl hl.1 rfl (lv_room (Nat.le_of_ble_eq_true rfl)) dX10_nameless_1 ⟨Nat.le_of_ble_eq_true rfl, Nat.le_of_ble_eq_true rfl⟩) (fun r_1 u_2 H locs hw St => ?_)
  try dsimp only at hw
  rcases hw with ⟨z_3, hf_4⟩ | ⟨z_5, hf_6⟩
  ·
    subst r_1
    have St : cS G k [(h, .inr (10, [.ref (a 0), .ref (a 2), .ref (a 6), .ref (a 8), .ref (a 15), .ref (a 17), .ref (a 22), .ref (a 23), .int 0, .int 0])), ((a 8), .inr (0, [.ref (a 9), .ref (a 10), .ref (a 11), .ref (a 12), .ref (a 13), .ref (a 14)])), ((a 11), .inl ((d 6), 30, .inl (fun _ => 0)))] [((d 6), .boolean)] A s H locs := St
    refine lv_if_ne (tgt := 10) hx hb dX10_nameless_4 (by decide) (fun c4 => ?_) (fun c4 => ?_)
    rotate_left
    · exact absurd c4 (by decide)
    refine lv_aload_n hx hb dX10_nameless_10 rfl (lv_at hl 0 rfl) ?_
    refine cs_get F St 0 rfl rfl inX10 9 (by decide) kf_X10_106 rfl dX10_nameless_11 ?_
    refine lv_if_eq (tgt := 20) hx hb dX10_nameless_14 (by decide) (fun c14 => ?_) (fun c14 => ?_)
    rotate_left
    · exact absurd (by decide) c14
    refine lv_aload_n hx hb dX10_nameless_20 rfl (lv_at hl 0 rfl) ?_
    refine cs_get F St 0 rfl rfl inX10 3 (by decide) kf_X10_33 rfl dX10_nameless_21 ?_
    refine lv_iload_n hx hb dX10_nameless_24 rfl (lv_at hl 1 rfl) ?_
    refine lv_iload_n hx hb dX10_nameless_25 rfl (lv_at hl 2 rfl) ?_
    refine cs_i St [1, 2] [0] (wc := [((a 8), .inr (0, [.ref (a 9), .ref (a 10), .ref (a 11), .ref (a 12), .ref (a 13), .ref (a 14)])), ((a 11), .inl ((d 6), 30, .inl (fun _ => 0)))]) (wr := [(h, .inr (10, [.ref (a 0), .ref (a 2), .ref (a 6), .ref (a 8), .ref (a 15), .ref (a 17), .ref (a 22), .ref (a 23), .int 0, .int 0]))]) rfl rfl (by decide) (by decide) (va_runV (As := [.int x1, .int x2]) (rest := []) F (c0_setWithoutName l G k _ (a 8) (a 9) (a 10) (a 11) (a 12) (a 13) (a 14) (d 6) x1 x2 (by omega)) (cwVt F mf_X0_setWithoutName km_X10_114 rfl rfl ⟨Nat.le_of_ble_eq_true rfl, Nat.le_of_ble_eq_true rfl⟩) (cs_preV St [1, 2] rfl (by decide) [0] rfl (ci := 0) (q0 := 1) rfl rfl) rfl rfl hl.1 rfl (lv_room (Nat.le_of_ble_eq_true rfl)) dX10_nameless_26 ⟨Nat.le_of_ble_eq_true rfl, Nat.le_of_ble_eq_true rfl⟩) (fun r_7 u_8 H locs hw St => ?_)
    obtain ⟨z2_9, rfl⟩ : ∃ z, z = u_8 := ⟨_, rfl⟩
    try dsimp only at hw
    rcases hw with ⟨z_10, hf_11⟩ | ⟨z_12, hf_13⟩
    ·
      subst r_7
      have St : cS G k [(h, .inr (10, [.ref (a 0), .ref (a 2), .ref (a 6), .ref (a 8), .ref (a 15), .ref (a 17), .ref (a 22), .ref (a 23), .int 0, .int 0])), ((a 8), .inr (0, [.ref (a 9), .ref (a 10), .ref (a 11), .ref (a 12), .ref (a 13), .ref (a 14)])), ((a 11), .inl ((d 6), 30, .inl z2_9))] [((d 6), .boolean)] A s H locs := St
      refine lv_if_eq (tgt := 36) hx hb dX10_nameless_29 (by decide) (fun c29 => ?_) (fun c29 => ?_)
      rotate_left
      · exact absurd (by decide) c29
      refine lv_iconst (v := 0) hx hb dX10_nameless_36 (by decide) ?_
      exact cs_iret F hr hlk hQ St () (r := 0) (Or.inl ⟨rfl, by omega, by assumption⟩) [] rfl (by decide) [] rfl (by decide) (by decide) dX10_nameless_37
    ·
      subst r_7
      have St : cS G k [(h, .inr (10, [.ref (a 0), .ref (a 2), .ref (a 6), .ref (a 8), .ref (a 15), .ref (a 17), .ref (a 22), .ref (a 23), .int 0, .int 0])), ((a 8), .inr (0, [.ref (a 9), .ref (a 10), .ref (a 11), .ref (a 12), .ref (a 13), .ref (a 14)])), ((a 11), .inl ((d 6), 30, .inl z2_9))] [((d 6), .boolean)] A s H locs := St
      refine lv_if_eq (tgt := 36) hx hb dX10_nameless_29 (by decide) (fun c29 => ?_) (fun c29 => ?_)
      · exact absurd c29 (by decide)
      refine lv_iconst (v := 1) hx hb dX10_nameless_32 (by decide) ?_
      refine lv_goto (tgt := 37) hx hb dX10_nameless_33 (by decide) ?_
      exact cs_iret F hr hlk hQ St () (r := 1) (Or.inr (Or.inl ⟨rfl, by omega, by assumption⟩)) [] rfl (by decide) [] rfl (by decide) (by decide) dX10_nameless_37
  ·
    subst r_1
    have St : cS G k [(h, .inr (10, [.ref (a 0), .ref (a 2), .ref (a 6), .ref (a 8), .ref (a 15), .ref (a 17), .ref (a 22), .ref (a 23), .int 0, .int 0])), ((a 8), .inr (0, [.ref (a 9), .ref (a 10), .ref (a 11), .ref (a 12), .ref (a 13), .ref (a 14)])), ((a 11), .inl ((d 6), 30, .inl (fun _ => 0)))] [((d 6), .boolean)] A s H locs := St
    refine lv_if_ne (tgt := 10) hx hb dX10_nameless_4 (by decide) (fun c4 => ?_) (fun c4 => ?_)
    · exact absurd c4 (by decide)
    refine lv_bipush (v := (-2)) hx hb dX10_nameless_7 (by decide) ?_
    exact cs_iret F hr hlk hQ St () (r := (-2)) (Or.inr (Or.inr ⟨rfl, by omega⟩)) [] rfl (by decide) [] rfl (by decide) (by decide) dX10_nameless_9
set_option maxHeartbeats 4000000 in
set_option maxRecDepth 100000 in
/-- pledge on a new object -/
theorem x_pledge (l : Launch) (G : va_G) (k : Nat → Nat) (sz : Nat) (h : Nat) (a : Nat → Nat) (d : Nat → ClassId) (x1 : Int32) (x2 : Int32) (x3 : Int32) (x4 : Int32) (x5 : Int32) : Met l yX10_pledge (Cond.code yX10_pledge cX10_pledge 6 (some .int) :: tb) ({ frames := 2, cells := 4, slots := 264, locals := 50 } : Room) (va_Pc [.ref h, .int x1, .int x2, .int x3, .int x4, .int x5] (cP G k [(h, .inr (10, [.ref (a 0), .ref (a 2), .ref (a 6), .ref (a 8), .ref (a 15), .ref (a 17), .ref (a 22), .ref (a 23), .int 0, .int 0])), ((a 15), .inr (2, [.ref (a 16), .int 0])), ((a 16), .inl ((d 10), 60, .inr (.inr (.inr (.inr (fun _ => none))))))] [((d 10), .object "TowerAppeal$Pledge")] sz)) (va_Qi (fun (r : Int32) (_ : Unit) => ((r = 0) ∧ ((0 ≤ x1.toInt ∧ x1.toInt ≤ 29) ∧ (1 ≤ x2.toInt ∧ x2.toInt ≤ 100000) ∧ (0 ≤ x3.toInt ∧ x3.toInt ≤ 119) ∧ (1 ≤ x4.toInt ∧ x4.toInt ≤ 12) ∧ 1 ≤ x5.toInt ∧ x5.toInt ≤ 84)) ∨ ((r = (-2)) ∧ (¬ ((0 ≤ x1.toInt ∧ x1.toInt ≤ 29) ∧ (1 ≤ x2.toInt ∧ x2.toInt ≤ 100000) ∧ (0 ≤ x3.toInt ∧ x3.toInt ≤ 119) ∧ (1 ≤ x4.toInt ∧ x4.toInt ≤ 12) ∧ 1 ≤ x5.toInt ∧ x5.toInt ≤ 84)))) (cB G (fun (_ : Unit) => []) (fun (_ : Unit) => []) (va_A [(h, .inr (10, [.ref (a 0), .ref (a 2), .ref (a 6), .ref (a 8), .ref (a 15), .ref (a 17), .ref (a 22), .ref (a 23), .int 0, .int 0])), ((a 15), .inr (2, [.ref (a 16), .int 0])), ((a 16), .inl ((d 10), 60, .inr (.inr (.inr (.inr (fun _ => none))))))] sz)) (va_A [(h, .inr (10, [.ref (a 0), .ref (a 2), .ref (a 6), .ref (a 8), .ref (a 15), .ref (a 17), .ref (a 22), .ref (a 23), .int 0, .int 0])), ((a 15), .inr (2, [.ref (a 16), .int 0])), ((a 16), .inl ((d 10), 60, .inr (.inr (.inr (.inr (fun _ => none))))))] sz)) 4 264 (va_A [(h, .inr (10, [.ref (a 0), .ref (a 2), .ref (a 6), .ref (a 8), .ref (a 15), .ref (a 17), .ref (a 22), .ref (a 23), .int 0, .int 0])), ((a 15), .inr (2, [.ref (a 16), .int 0])), ((a 16), .inl ((d 10), 60, .inr (.inr (.inr (.inr (fun _ => none))))))] sz) := by
  refine ofC_i (cc := cX10_pledge) (maxL := 6) (ret := (some .int)) (by decide) rfl (Nat.le_of_ble_eq_true rfl) ?_
  intro p e s m args below meth c A ls Q F hr hin hlk St hl hQ
  have hx := F.1
  have hb := F.2.1
  have hl : lv_has ls 6 [(0, .ref h), (1, .int x1), (2, .int x2), (3, .int x3), (4, .int x4), (5, .int x5)] := hl
  have St : cS G k [(h, .inr (10, [.ref (a 0), .ref (a 2), .ref (a 6), .ref (a 8), .ref (a 15), .ref (a 17), .ref (a 22), .ref (a 23), .int 0, .int 0])), ((a 15), .inr (2, [.ref (a 16), .int 0])), ((a 16), .inl ((d 10), 60, .inr (.inr (.inr (.inr (fun _ => none))))))] [((d 10), .object "TowerAppeal$Pledge")] A s s.heap [] := St
  refine lv_iload_n hx hb dX10_pledge_0 rfl (lv_at hl 1 rfl) ?_
  refine cs_i St [] [0, 1, 2] (wc := []) (wr := [(h, .inr (10, [.ref (a 0), .ref (a 2), .ref (a 6), .ref (a 8), .ref (a 15), .ref (a 17), .ref (a 22), .ref (a 23), .int 0, .int 0])), ((a 15), .inr (2, [.ref (a 16), .int 0])), ((a 16), .inl ((d 10), 60, .inr (.inr (.inr (.inr (fun _ => none))))))]) rfl rfl (by decide) (by decide) (va_runS (As := [.int x1]) (rest := []) F (c10_isGiver l G k _ x1) (cwSt F mf_X10_isGiver km_X10_102 rfl rfl ⟨Nat.le_of_ble_eq_true rfl, Nat.le_of_ble_eq_true rfl⟩) (cs_pre St [] rfl (by decide) [] rfl) rfl rfl hl.1 rfl (lv_room (Nat.le_of_ble_eq_true rfl)) dX10_pledge_1 ⟨Nat.le_of_ble_eq_true rfl, Nat.le_of_ble_eq_true rfl⟩) (fun r_1 u_2 H locs hw St => ?_)
  try dsimp only at hw
  rcases hw with ⟨z_3, hf_4⟩ | ⟨z_5, hf_6⟩
  ·
    subst r_1
    have St : cS G k [(h, .inr (10, [.ref (a 0), .ref (a 2), .ref (a 6), .ref (a 8), .ref (a 15), .ref (a 17), .ref (a 22), .ref (a 23), .int 0, .int 0])), ((a 15), .inr (2, [.ref (a 16), .int 0])), ((a 16), .inl ((d 10), 60, .inr (.inr (.inr (.inr (fun _ => none))))))] [((d 10), .object "TowerAppeal$Pledge")] A s H locs := St
    refine lv_if_eq (tgt := 52) hx hb dX10_pledge_4 (by decide) (fun c4 => ?_) (fun c4 => ?_)
    · exact absurd c4 (by decide)
    refine lv_iload_n hx hb dX10_pledge_7 rfl (lv_at hl 2 rfl) ?_
    refine lv_iconst (v := 1) hx hb dX10_pledge_8 (by decide) ?_
    refine lv_ldc (v := 100000) hx hb F.2.2.2.1 (F.2.2.2.2 _ kk_X10_118) dX10_pledge_9 ?_
    refine cs_i St [] [0, 1, 2] (wc := []) (wr := [(h, .inr (10, [.ref (a 0), .ref (a 2), .ref (a 6), .ref (a 8), .ref (a 15), .ref (a 17), .ref (a 22), .ref (a 23), .int 0, .int 0])), ((a 15), .inr (2, [.ref (a 16), .int 0])), ((a 16), .inl ((d 10), 60, .inr (.inr (.inr (.inr (fun _ => none))))))]) rfl rfl (by decide) (by decide) (va_runS (As := [.int x2, .int 1, .int 100000]) (rest := []) F (c10_isWithin l G k _ x2 1 100000 1 100000 (by decide) (by decide)) (cwSt F mf_X10_isWithin km_X10_119 rfl rfl ⟨Nat.le_of_ble_eq_true rfl, Nat.le_of_ble_eq_true rfl⟩) (cs_pre St [] rfl (by decide) [] rfl) rfl rfl hl.1 rfl (lv_room (Nat.le_of_ble_eq_true rfl)) dX10_pledge_11 ⟨Nat.le_of_ble_eq_true rfl, Nat.le_of_ble_eq_true rfl⟩) (fun r_7 u_8 H locs hw St => ?_)
    try dsimp only at hw
    rcases hw with ⟨z_9, hf_10⟩ | ⟨z_11, hf_12⟩
    ·
      subst r_7
      have St : cS G k [(h, .inr (10, [.ref (a 0), .ref (a 2), .ref (a 6), .ref (a 8), .ref (a 15), .ref (a 17), .ref (a 22), .ref (a 23), .int 0, .int 0])), ((a 15), .inr (2, [.ref (a 16), .int 0])), ((a 16), .inl ((d 10), 60, .inr (.inr (.inr (.inr (fun _ => none))))))] [((d 10), .object "TowerAppeal$Pledge")] A s H locs := St
      refine lv_if_eq (tgt := 52) hx hb dX10_pledge_14 (by decide) (fun c14 => ?_) (fun c14 => ?_)
      · exact absurd c14 (by decide)
      refine lv_iload_n hx hb dX10_pledge_17 rfl (lv_at hl 3 rfl) ?_
      refine lv_aload_n hx hb dX10_pledge_18 rfl (lv_at hl 0 rfl) ?_
      refine cs_get F St 0 rfl rfl inX10 8 (by decide) kf_X10_123 rfl dX10_pledge_19 ?_
      refine lv_bipush (v := 119) hx hb dX10_pledge_22 (by decide) ?_
      refine cs_i St [] [0, 1, 2] (wc := []) (wr := [(h, .inr (10, [.ref (a 0), .ref (a 2), .ref (a 6), .ref (a 8), .ref (a 15), .ref (a 17), .ref (a 22), .ref (a 23), .int 0, .int 0])), ((a 15), .inr (2, [.ref (a 16), .int 0])), ((a 16), .inl ((d 10), 60, .inr (.inr (.inr (.inr (fun _ => none))))))]) rfl rfl (by decide) (by decide) (va_runS (As := [.int x3, .int 0, .int 119]) (rest := []) F (c10_isWithin l G k _ x3 0 119 0 119 (by decide) (by decide)) (cwSt F mf_X10_isWithin km_X10_119 rfl rfl ⟨Nat.le_of_ble_eq_true rfl, Nat.le_of_ble_eq_true rfl⟩) (cs_pre St [] rfl (by decide) [] rfl) rfl rfl hl.1 rfl (lv_room (Nat.le_of_ble_eq_true rfl)) dX10_pledge_24 ⟨Nat.le_of_ble_eq_true rfl, Nat.le_of_ble_eq_true rfl⟩) (fun r_13 u_14 H locs hw St => ?_)
      try dsimp only at hw
      rcases hw with ⟨z_15, hf_16⟩ | ⟨z_17, hf_18⟩
      ·
        subst r_13
        have St : cS G k [(h, .inr (10, [.ref (a 0), .ref (a 2), .ref (a 6), .ref (a 8), .ref (a 15), .ref (a 17), .ref (a 22), .ref (a 23), .int 0, .int 0])), ((a 15), .inr (2, [.ref (a 16), .int 0])), ((a 16), .inl ((d 10), 60, .inr (.inr (.inr (.inr (fun _ => none))))))] [((d 10), .object "TowerAppeal$Pledge")] A s H locs := St
        refine lv_if_eq (tgt := 52) hx hb dX10_pledge_27 (by decide) (fun c27 => ?_) (fun c27 => ?_)
        · exact absurd c27 (by decide)
        refine lv_iload hx hb dX10_pledge_30 (lv_at hl 4 rfl) ?_
        refine lv_iconst (v := 1) hx hb dX10_pledge_32 (by decide) ?_
        refine lv_bipush (v := 12) hx hb dX10_pledge_33 (by decide) ?_
        refine cs_i St [] [0, 1, 2] (wc := []) (wr := [(h, .inr (10, [.ref (a 0), .ref (a 2), .ref (a 6), .ref (a 8), .ref (a 15), .ref (a 17), .ref (a 22), .ref (a 23), .int 0, .int 0])), ((a 15), .inr (2, [.ref (a 16), .int 0])), ((a 16), .inl ((d 10), 60, .inr (.inr (.inr (.inr (fun _ => none))))))]) rfl rfl (by decide) (by decide) (va_runS (As := [.int x4, .int 1, .int 12]) (rest := []) F (c10_isWithin l G k _ x4 1 12 1 12 (by decide) (by decide)) (cwSt F mf_X10_isWithin km_X10_119 rfl rfl ⟨Nat.le_of_ble_eq_true rfl, Nat.le_of_ble_eq_true rfl⟩) (cs_pre St [] rfl (by decide) [] rfl) rfl rfl hl.1 rfl (lv_room (Nat.le_of_ble_eq_true rfl)) dX10_pledge_35 ⟨Nat.le_of_ble_eq_true rfl, Nat.le_of_ble_eq_true rfl⟩) (fun r_19 u_20 H locs hw St => ?_)
        try dsimp only at hw
        rcases hw with ⟨z_21, hf_22⟩ | ⟨z_23, hf_24⟩
        ·
          subst r_19
          have St : cS G k [(h, .inr (10, [.ref (a 0), .ref (a 2), .ref (a 6), .ref (a 8), .ref (a 15), .ref (a 17), .ref (a 22), .ref (a 23), .int 0, .int 0])), ((a 15), .inr (2, [.ref (a 16), .int 0])), ((a 16), .inl ((d 10), 60, .inr (.inr (.inr (.inr (fun _ => none))))))] [((d 10), .object "TowerAppeal$Pledge")] A s H locs := St
          refine lv_if_eq (tgt := 52) hx hb dX10_pledge_38 (by decide) (fun c38 => ?_) (fun c38 => ?_)
          · exact absurd c38 (by decide)
          refine lv_iload hx hb dX10_pledge_41 (lv_at hl 5 rfl) ?_
          refine lv_iconst (v := 1) hx hb dX10_pledge_43 (by decide) ?_
          refine lv_bipush (v := 84) hx hb dX10_pledge_44 (by decide) ?_
          refine cs_i St [] [0, 1, 2] (wc := []) (wr := [(h, .inr (10, [.ref (a 0), .ref (a 2), .ref (a 6), .ref (a 8), .ref (a 15), .ref (a 17), .ref (a 22), .ref (a 23), .int 0, .int 0])), ((a 15), .inr (2, [.ref (a 16), .int 0])), ((a 16), .inl ((d 10), 60, .inr (.inr (.inr (.inr (fun _ => none))))))]) rfl rfl (by decide) (by decide) (va_runS (As := [.int x5, .int 1, .int 84]) (rest := []) F (c10_isWithin l G k _ x5 1 84 1 84 (by decide) (by decide)) (cwSt F mf_X10_isWithin km_X10_119 rfl rfl ⟨Nat.le_of_ble_eq_true rfl, Nat.le_of_ble_eq_true rfl⟩) (cs_pre St [] rfl (by decide) [] rfl) rfl rfl hl.1 rfl (lv_room (Nat.le_of_ble_eq_true rfl)) dX10_pledge_46 ⟨Nat.le_of_ble_eq_true rfl, Nat.le_of_ble_eq_true rfl⟩) (fun r_25 u_26 H locs hw St => ?_)
          try dsimp only at hw
          rcases hw with ⟨z_27, hf_28⟩ | ⟨z_29, hf_30⟩
          ·
            subst r_25
            have St : cS G k [(h, .inr (10, [.ref (a 0), .ref (a 2), .ref (a 6), .ref (a 8), .ref (a 15), .ref (a 17), .ref (a 22), .ref (a 23), .int 0, .int 0])), ((a 15), .inr (2, [.ref (a 16), .int 0])), ((a 16), .inl ((d 10), 60, .inr (.inr (.inr (.inr (fun _ => none))))))] [((d 10), .object "TowerAppeal$Pledge")] A s H locs := St
            refine lv_if_ne (tgt := 55) hx hb dX10_pledge_49 (by decide) (fun c49 => ?_) (fun c49 => ?_)
            rotate_left
            · exact absurd c49 (by decide)
            refine lv_aload_n hx hb dX10_pledge_55 rfl (lv_at hl 0 rfl) ?_
            refine cs_get F St 0 rfl rfl inX10 9 (by decide) kf_X10_106 rfl dX10_pledge_56 ?_
            refine lv_if_eq (tgt := 65) hx hb dX10_pledge_59 (by decide) (fun c59 => ?_) (fun c59 => ?_)
            rotate_left
            · exact absurd (by decide) c59
            refine lv_aload_n hx hb dX10_pledge_65 rfl (lv_at hl 0 rfl) ?_
            refine cs_get F St 0 rfl rfl inX10 4 (by decide) kf_X10_40 rfl dX10_pledge_66 ?_
            refine cs_i St [1] [0, 2] (wc := [((a 15), .inr (2, [.ref (a 16), .int 0]))]) (wr := [(h, .inr (10, [.ref (a 0), .ref (a 2), .ref (a 6), .ref (a 8), .ref (a 15), .ref (a 17), .ref (a 22), .ref (a 23), .int 0, .int 0])), ((a 16), .inl ((d 10), 60, .inr (.inr (.inr (.inr (fun _ => none))))))]) rfl rfl (by decide) (by decide) (va_runV (As := []) (rest := []) F (c2_isFull l G k _ (a 15) (a 16)) (cwVt F mf_X2_isFull km_X10_127 rfl rfl ⟨Nat.le_of_ble_eq_true rfl, Nat.le_of_ble_eq_true rfl⟩) (cs_preV St [1] rfl (by decide) [] rfl (ci := 2) (q0 := 1) rfl rfl) rfl rfl hl.1 rfl (lv_room (Nat.le_of_ble_eq_true rfl)) dX10_pledge_69 ⟨Nat.le_of_ble_eq_true rfl, Nat.le_of_ble_eq_true rfl⟩) (fun r_31 u_32 H locs hw St => ?_)
            try dsimp only at hw
            have z_33 := hw
            subst r_31
            have St : cS G k [(h, .inr (10, [.ref (a 0), .ref (a 2), .ref (a 6), .ref (a 8), .ref (a 15), .ref (a 17), .ref (a 22), .ref (a 23), .int 0, .int 0])), ((a 16), .inl ((d 10), 60, .inr (.inr (.inr (.inr (fun _ => none)))))), ((a 15), .inr (2, [.ref (a 16), .int 0]))] [((d 10), .object "TowerAppeal$Pledge")] A s H locs := St
            refine lv_if_eq (tgt := 78) hx hb dX10_pledge_72 (by decide) (fun c72 => ?_) (fun c72 => ?_)
            rotate_left
            · exact absurd (by decide) c72
            refine lv_aload_n hx hb dX10_pledge_78 rfl (lv_at hl 0 rfl) ?_
            refine cs_get F St 0 rfl rfl inX10 4 (by decide) kf_X10_40 rfl dX10_pledge_79 ?_
            refine cs_new F St (ci := 1) rfl inX1 tyX1_ok kc_X10_130 kn_X1 ki_X1 (fs := [.int 0, .int 0, .int 0, .int 0, .null, .null, .null, .int 0, .int 0, .int 0, .int 0, .int 0]) (by decide +kernel) (Nat.le_of_ble_eq_true rfl) (Nat.le_of_ble_eq_true rfl) dX10_pledge_82 (fun q_34 H St => ?_)
            refine W.widen (k := 1) (n := 12) (by decide) (by decide) ?_
            have St : cS G k [(h, .inr (10, [.ref (a 0), .ref (a 2), .ref (a 6), .ref (a 8), .ref (a 15), .ref (a 17), .ref (a 22), .ref (a 23), .int 0, .int 0])), ((a 16), .inl ((d 10), 60, .inr (.inr (.inr (.inr (fun _ => none)))))), ((a 15), .inr (2, [.ref (a 16), .int 0])), (q_34, .inr (1, [.int 0, .int 0, .int 0, .int 0, .null, .null, .null, .int 0, .int 0, .int 0, .int 0, .int 0]))] [((d 10), .object "TowerAppeal$Pledge")] A s H _ := St
            refine lv_dup hx hb dX10_pledge_85 rfl ?_
            refine lv_iload_n hx hb dX10_pledge_86 rfl (lv_at hl 1 rfl) ?_
            refine lv_iload_n hx hb dX10_pledge_87 rfl (lv_at hl 2 rfl) ?_
            refine lv_iload_n hx hb dX10_pledge_88 rfl (lv_at hl 3 rfl) ?_
            refine lv_iload hx hb dX10_pledge_89 (lv_at hl 4 rfl) ?_
            refine lv_iload hx hb dX10_pledge_91 (lv_at hl 5 rfl) ?_
            refine cs_v St [3] [0, 1, 2] (wc := [(q_34, .inr (1, [.int 0, .int 0, .int 0, .int 0, .null, .null, .null, .int 0, .int 0, .int 0, .int 0, .int 0]))]) (wr := [(h, .inr (10, [.ref (a 0), .ref (a 2), .ref (a 6), .ref (a 8), .ref (a 15), .ref (a 17), .ref (a 22), .ref (a 23), .int 0, .int 0])), ((a 16), .inl ((d 10), 60, .inr (.inr (.inr (.inr (fun _ => none)))))), ((a 15), .inr (2, [.ref (a 16), .int 0]))]) rfl rfl (by decide) (by decide) (va_runI (As := [.int x1, .int x2, .int x3, .int x4, .int x5]) (rest := [.ref q_34, .ref (a 15)]) F (c1_init l G k _ q_34 x1 x2 x3 x4 x5) (cwIt F mf_X1_init km_X10_132 rfl rfl ⟨Nat.le_of_ble_eq_true rfl, Nat.le_of_ble_eq_true rfl⟩) (cs_pre St [3] rfl (by decide) [] rfl) rfl rfl hl.1 rfl (lv_room (Nat.le_of_ble_eq_true rfl)) dX10_pledge_93 ⟨Nat.le_of_ble_eq_true rfl, Nat.le_of_ble_eq_true rfl⟩) (fun u_36 H locs hw St => ?_)
            obtain ⟨sz0_37, o_38, fi_39, sd_40⟩ := u_36
            try dsimp only at hw
            refine W.widen (k := 4) (n := 264) (by decide) (by decide) ?_
            have St : cS G k [(h, .inr (10, [.ref (a 0), .ref (a 2), .ref (a 6), .ref (a 8), .ref (a 15), .ref (a 17), .ref (a 22), .ref (a 23), .int 0, .int 0])), ((a 16), .inl ((d 10), 60, .inr (.inr (.inr (.inr (fun _ => none)))))), ((a 15), .inr (2, [.ref (a 16), .int 0])), (q_34, .inr (1, [.int x1, .int x3, .int x4, .int sz0_37, .ref o_38, .ref fi_39, .ref sd_40, .int x2, .int 0, .int 0, .int 0, .int (-1)]))] [((d 10), .object "TowerAppeal$Pledge")] A s H locs := St
            refine cs_i St [2, 1, 3] [0] (wc := [((a 15), .inr (2, [.ref (a 16), .int 0])), ((a 16), .inl ((d 10), 60, .inr (.inr (.inr (.inr (fun _ => none)))))), (q_34, .inr (1, [.int x1, .int x3, .int x4, .int sz0_37, .ref o_38, .ref fi_39, .ref sd_40, .int x2, .int 0, .int 0, .int 0, .int (-1)]))]) (wr := [(h, .inr (10, [.ref (a 0), .ref (a 2), .ref (a 6), .ref (a 8), .ref (a 15), .ref (a 17), .ref (a 22), .ref (a 23), .int 0, .int 0]))]) rfl rfl (by decide) (by decide) (va_runV (As := [.ref q_34]) (rest := []) F (c2_add l G k _ (a 15) (a 16) (d 10) q_34 o_38 fi_39 sd_40 x1 x3 x4 sz0_37 x2) (cwVt F mf_X2_add km_X10_135 rfl rfl ⟨Nat.le_of_ble_eq_true rfl, Nat.le_of_ble_eq_true rfl⟩) (cs_preV St [2, 1, 3] rfl (by decide) [0] rfl (ci := 2) (q0 := 2) rfl rfl) rfl rfl hl.1 rfl (lv_room (Nat.le_of_ble_eq_true rfl)) dX10_pledge_96 ⟨Nat.le_of_ble_eq_true rfl, Nat.le_of_ble_eq_true rfl⟩) (fun r_41 u_42 H locs hw St => ?_)
            try dsimp only at hw
            have z_43 := hw
            subst r_41
            have St : cS G k [(h, .inr (10, [.ref (a 0), .ref (a 2), .ref (a 6), .ref (a 8), .ref (a 15), .ref (a 17), .ref (a 22), .ref (a 23), .int 0, .int 0]))] [((d 10), .object "TowerAppeal$Pledge")] A s H locs := St
            exact cs_iret F hr hlk hQ St () (r := 0) (Or.inl ⟨rfl, by omega⟩) [] rfl (by decide) [] rfl (by decide) (by decide) dX10_pledge_99
          ·
            subst r_25
            have St : cS G k [(h, .inr (10, [.ref (a 0), .ref (a 2), .ref (a 6), .ref (a 8), .ref (a 15), .ref (a 17), .ref (a 22), .ref (a 23), .int 0, .int 0])), ((a 15), .inr (2, [.ref (a 16), .int 0])), ((a 16), .inl ((d 10), 60, .inr (.inr (.inr (.inr (fun _ => none))))))] [((d 10), .object "TowerAppeal$Pledge")] A s H locs := St
            refine lv_if_ne (tgt := 55) hx hb dX10_pledge_49 (by decide) (fun c49 => ?_) (fun c49 => ?_)
            · exact absurd c49 (by decide)
            refine lv_bipush (v := (-2)) hx hb dX10_pledge_52 (by decide) ?_
            exact cs_iret F hr hlk hQ St () (r := (-2)) (Or.inr ⟨rfl, by omega⟩) [] rfl (by decide) [] rfl (by decide) (by decide) dX10_pledge_54
        ·
          subst r_19
          have St : cS G k [(h, .inr (10, [.ref (a 0), .ref (a 2), .ref (a 6), .ref (a 8), .ref (a 15), .ref (a 17), .ref (a 22), .ref (a 23), .int 0, .int 0])), ((a 15), .inr (2, [.ref (a 16), .int 0])), ((a 16), .inl ((d 10), 60, .inr (.inr (.inr (.inr (fun _ => none))))))] [((d 10), .object "TowerAppeal$Pledge")] A s H locs := St
          refine lv_if_eq (tgt := 52) hx hb dX10_pledge_38 (by decide) (fun c38 => ?_) (fun c38 => ?_)
          rotate_left
          · exact absurd (by decide) c38
          refine lv_bipush (v := (-2)) hx hb dX10_pledge_52 (by decide) ?_
          exact cs_iret F hr hlk hQ St () (r := (-2)) (Or.inr ⟨rfl, by omega⟩) [] rfl (by decide) [] rfl (by decide) (by decide) dX10_pledge_54
      ·
        subst r_13
        have St : cS G k [(h, .inr (10, [.ref (a 0), .ref (a 2), .ref (a 6), .ref (a 8), .ref (a 15), .ref (a 17), .ref (a 22), .ref (a 23), .int 0, .int 0])), ((a 15), .inr (2, [.ref (a 16), .int 0])), ((a 16), .inl ((d 10), 60, .inr (.inr (.inr (.inr (fun _ => none))))))] [((d 10), .object "TowerAppeal$Pledge")] A s H locs := St
        refine lv_if_eq (tgt := 52) hx hb dX10_pledge_27 (by decide) (fun c27 => ?_) (fun c27 => ?_)
        rotate_left
        · exact absurd (by decide) c27
        refine lv_bipush (v := (-2)) hx hb dX10_pledge_52 (by decide) ?_
        exact cs_iret F hr hlk hQ St () (r := (-2)) (Or.inr ⟨rfl, by omega⟩) [] rfl (by decide) [] rfl (by decide) (by decide) dX10_pledge_54
    ·
      subst r_7
      have St : cS G k [(h, .inr (10, [.ref (a 0), .ref (a 2), .ref (a 6), .ref (a 8), .ref (a 15), .ref (a 17), .ref (a 22), .ref (a 23), .int 0, .int 0])), ((a 15), .inr (2, [.ref (a 16), .int 0])), ((a 16), .inl ((d 10), 60, .inr (.inr (.inr (.inr (fun _ => none))))))] [((d 10), .object "TowerAppeal$Pledge")] A s H locs := St
      refine lv_if_eq (tgt := 52) hx hb dX10_pledge_14 (by decide) (fun c14 => ?_) (fun c14 => ?_)
      rotate_left
      · exact absurd (by decide) c14
      refine lv_bipush (v := (-2)) hx hb dX10_pledge_52 (by decide) ?_
      exact cs_iret F hr hlk hQ St () (r := (-2)) (Or.inr ⟨rfl, by omega⟩) [] rfl (by decide) [] rfl (by decide) (by decide) dX10_pledge_54
  ·
    subst r_1
    have St : cS G k [(h, .inr (10, [.ref (a 0), .ref (a 2), .ref (a 6), .ref (a 8), .ref (a 15), .ref (a 17), .ref (a 22), .ref (a 23), .int 0, .int 0])), ((a 15), .inr (2, [.ref (a 16), .int 0])), ((a 16), .inl ((d 10), 60, .inr (.inr (.inr (.inr (fun _ => none))))))] [((d 10), .object "TowerAppeal$Pledge")] A s H locs := St
    refine lv_if_eq (tgt := 52) hx hb dX10_pledge_4 (by decide) (fun c4 => ?_) (fun c4 => ?_)
    rotate_left
    · exact absurd (by decide) c4
    refine lv_bipush (v := (-2)) hx hb dX10_pledge_52 (by decide) ?_
    exact cs_iret F hr hlk hQ St () (r := (-2)) (Or.inr ⟨rfl, by omega⟩) [] rfl (by decide) [] rfl (by decide) (by decide) dX10_pledge_54
set_option maxHeartbeats 4000000 in
set_option maxRecDepth 100000 in
/-- change on a new object -/
theorem x_change (l : Launch) (G : va_G) (k : Nat → Nat) (sz : Nat) (h : Nat) (a : Nat → Nat) (d : Nat → ClassId) (x1 : Int32) (x2 : Int32) : Met l yX10_change (Cond.code yX10_change cX10_change 4 (some .int) :: tb) ({ frames := 1, cells := 0, slots := 0, locals := 21 } : Room) (va_Pc [.ref h, .int x1, .int x2] (cP G k [(h, .inr (10, [.ref (a 0), .ref (a 2), .ref (a 6), .ref (a 8), .ref (a 15), .ref (a 17), .ref (a 22), .ref (a 23), .int 0, .int 0])), ((a 15), .inr (2, [.ref (a 16), .int 0]))] [] sz)) (va_Qi (fun (r : Int32) (_ : Unit) => (r = (-2))) (cB G (fun (_ : Unit) => []) (fun (_ : Unit) => []) (va_A [(h, .inr (10, [.ref (a 0), .ref (a 2), .ref (a 6), .ref (a 8), .ref (a 15), .ref (a 17), .ref (a 22), .ref (a 23), .int 0, .int 0])), ((a 15), .inr (2, [.ref (a 16), .int 0]))] sz)) (va_A [(h, .inr (10, [.ref (a 0), .ref (a 2), .ref (a 6), .ref (a 8), .ref (a 15), .ref (a 17), .ref (a 22), .ref (a 23), .int 0, .int 0])), ((a 15), .inr (2, [.ref (a 16), .int 0]))] sz)) 0 0 (va_A [(h, .inr (10, [.ref (a 0), .ref (a 2), .ref (a 6), .ref (a 8), .ref (a 15), .ref (a 17), .ref (a 22), .ref (a 23), .int 0, .int 0])), ((a 15), .inr (2, [.ref (a 16), .int 0]))] sz) := by
  refine ofC_i (cc := cX10_change) (maxL := 4) (ret := (some .int)) (by decide) rfl (Nat.le_of_ble_eq_true rfl) ?_
  intro p e s m args below meth c A ls Q F hr hin hlk St hl hQ
  have hx := F.1
  have hb := F.2.1
  have hl : lv_has ls 4 [(0, .ref h), (1, .int x1), (2, .int x2)] := hl
  have St : cS G k [(h, .inr (10, [.ref (a 0), .ref (a 2), .ref (a 6), .ref (a 8), .ref (a 15), .ref (a 17), .ref (a 22), .ref (a 23), .int 0, .int 0])), ((a 15), .inr (2, [.ref (a 16), .int 0]))] [] A s s.heap [] := St
  refine lv_aload_n hx hb dX10_change_0 rfl (lv_at hl 0 rfl) ?_
  refine cs_get F St 0 rfl rfl inX10 4 (by decide) kf_X10_40 rfl dX10_change_1 ?_
  refine lv_iload_n hx hb dX10_change_4 rfl (lv_at hl 1 rfl) ?_
  refine cs_q St [1] [0] (wc := [((a 15), .inr (2, [.ref (a 16), .int 0]))]) (wr := [(h, .inr (10, [.ref (a 0), .ref (a 2), .ref (a 6), .ref (a 8), .ref (a 15), .ref (a 17), .ref (a 22), .ref (a 23), .int 0, .int 0]))]) rfl rfl (by decide) (by decide) (va_runV (As := [.int x1]) (rest := []) F (c2_at l G k _ (a 15) (a 16) x1) (cwVt F mf_X2_at km_X10_139 rfl rfl ⟨Nat.le_of_ble_eq_true rfl, Nat.le_of_ble_eq_true rfl⟩) (cs_preV St [1] rfl (by decide) [] rfl (ci := 2) (q0 := 1) rfl rfl) rfl rfl hl.1 rfl (lv_room (Nat.le_of_ble_eq_true rfl)) dX10_change_5 ⟨Nat.le_of_ble_eq_true rfl, Nat.le_of_ble_eq_true rfl⟩) (fun r_1 u_2 H locs hw St => ?_)
  try dsimp only at hw
  have z_3 := hw
  subst r_1
  have St : cS G k [(h, .inr (10, [.ref (a 0), .ref (a 2), .ref (a 6), .ref (a 8), .ref (a 15), .ref (a 17), .ref (a 22), .ref (a 23), .int 0, .int 0])), ((a 15), .inr (2, [.ref (a 16), .int 0]))] [] A s H locs := St
  show W _ _ _ _ _ _ _ _ _ _ _ _ _ _ _ (F0 m 8 ls [.null])
  refine lv_astore_nN (lv' := [(3, .null), (0, .ref h), (1, .int x1), (2, .int x2)]) hx hb dX10_change_8 rfl hl (by decide) rfl (fun ls hl => ?_)
  refine lv_aload_nN hx hb dX10_change_9 rfl (lv_at hl 0 rfl) ?_
  refine lv_ifnullN (tgt := 23) hx hb dX10_change_10 (by decide) ?_
  refine lv_bipush (v := (-2)) hx hb dX10_change_23 (by decide) ?_
  exact cs_iret F hr hlk hQ St () (r := (-2)) rfl [] rfl (by decide) [] rfl (by decide) (by decide) dX10_change_25
set_option maxHeartbeats 4000000 in
set_option maxRecDepth 100000 in
/-- pay on a new object -/
theorem x_pay (l : Launch) (G : va_G) (k : Nat → Nat) (sz : Nat) (h : Nat) (a : Nat → Nat) (d : Nat → ClassId) (x1 : Int32) (x2 : Int32) : Met l yX10_pay (Cond.code yX10_pay cX10_pay 4 (some .int) :: tb) ({ frames := 1, cells := 0, slots := 0, locals := 21 } : Room) (va_Pc [.ref h, .int x1, .int x2] (cP G k [(h, .inr (10, [.ref (a 0), .ref (a 2), .ref (a 6), .ref (a 8), .ref (a 15), .ref (a 17), .ref (a 22), .ref (a 23), .int 0, .int 0])), ((a 15), .inr (2, [.ref (a 16), .int 0]))] [] sz)) (va_Qi (fun (r : Int32) (_ : Unit) => (r = (-2))) (cB G (fun (_ : Unit) => []) (fun (_ : Unit) => []) (va_A [(h, .inr (10, [.ref (a 0), .ref (a 2), .ref (a 6), .ref (a 8), .ref (a 15), .ref (a 17), .ref (a 22), .ref (a 23), .int 0, .int 0])), ((a 15), .inr (2, [.ref (a 16), .int 0]))] sz)) (va_A [(h, .inr (10, [.ref (a 0), .ref (a 2), .ref (a 6), .ref (a 8), .ref (a 15), .ref (a 17), .ref (a 22), .ref (a 23), .int 0, .int 0])), ((a 15), .inr (2, [.ref (a 16), .int 0]))] sz)) 0 0 (va_A [(h, .inr (10, [.ref (a 0), .ref (a 2), .ref (a 6), .ref (a 8), .ref (a 15), .ref (a 17), .ref (a 22), .ref (a 23), .int 0, .int 0])), ((a 15), .inr (2, [.ref (a 16), .int 0]))] sz) := by
  refine ofC_i (cc := cX10_pay) (maxL := 4) (ret := (some .int)) (by decide) rfl (Nat.le_of_ble_eq_true rfl) ?_
  intro p e s m args below meth c A ls Q F hr hin hlk St hl hQ
  have hx := F.1
  have hb := F.2.1
  have hl : lv_has ls 4 [(0, .ref h), (1, .int x1), (2, .int x2)] := hl
  have St : cS G k [(h, .inr (10, [.ref (a 0), .ref (a 2), .ref (a 6), .ref (a 8), .ref (a 15), .ref (a 17), .ref (a 22), .ref (a 23), .int 0, .int 0])), ((a 15), .inr (2, [.ref (a 16), .int 0]))] [] A s s.heap [] := St
  refine lv_aload_n hx hb dX10_pay_0 rfl (lv_at hl 0 rfl) ?_
  refine cs_get F St 0 rfl rfl inX10 4 (by decide) kf_X10_40 rfl dX10_pay_1 ?_
  refine lv_iload_n hx hb dX10_pay_4 rfl (lv_at hl 1 rfl) ?_
  refine cs_q St [1] [0] (wc := [((a 15), .inr (2, [.ref (a 16), .int 0]))]) (wr := [(h, .inr (10, [.ref (a 0), .ref (a 2), .ref (a 6), .ref (a 8), .ref (a 15), .ref (a 17), .ref (a 22), .ref (a 23), .int 0, .int 0]))]) rfl rfl (by decide) (by decide) (va_runV (As := [.int x1]) (rest := []) F (c2_at l G k _ (a 15) (a 16) x1) (cwVt F mf_X2_at km_X10_139 rfl rfl ⟨Nat.le_of_ble_eq_true rfl, Nat.le_of_ble_eq_true rfl⟩) (cs_preV St [1] rfl (by decide) [] rfl (ci := 2) (q0 := 1) rfl rfl) rfl rfl hl.1 rfl (lv_room (Nat.le_of_ble_eq_true rfl)) dX10_pay_5 ⟨Nat.le_of_ble_eq_true rfl, Nat.le_of_ble_eq_true rfl⟩) (fun r_1 u_2 H locs hw St => ?_)
  try dsimp only at hw
  have z_3 := hw
  subst r_1
  have St : cS G k [(h, .inr (10, [.ref (a 0), .ref (a 2), .ref (a 6), .ref (a 8), .ref (a 15), .ref (a 17), .ref (a 22), .ref (a 23), .int 0, .int 0])), ((a 15), .inr (2, [.ref (a 16), .int 0]))] [] A s H locs := St
  show W _ _ _ _ _ _ _ _ _ _ _ _ _ _ _ (F0 m 8 ls [.null])
  refine lv_astore_nN (lv' := [(3, .null), (0, .ref h), (1, .int x1), (2, .int x2)]) hx hb dX10_pay_8 rfl hl (by decide) rfl (fun ls hl => ?_)
  refine lv_aload_nN hx hb dX10_pay_9 rfl (lv_at hl 0 rfl) ?_
  refine lv_ifnullN (tgt := 20) hx hb dX10_pay_10 (by decide) ?_
  refine lv_bipush (v := (-2)) hx hb dX10_pay_20 (by decide) ?_
  exact cs_iret F hr hlk hQ St () (r := (-2)) rfl [] rfl (by decide) [] rfl (by decide) (by decide) dX10_pay_22
set_option maxHeartbeats 4000000 in
set_option maxRecDepth 100000 in
theorem x_receive (l : Launch) (G : va_G) (k : Nat → Nat) (sz : Nat) (h : Nat) (a : Nat → Nat) (d : Nat → ClassId) (x1 : Int32) (x2 : Int32) : Met l yX10_receive (Cond.code yX10_receive cX10_receive 3 (some .int) :: tb) ({ frames := 2, cells := 0, slots := 0, locals := 52 } : Room) (va_Pc [.ref h, .int x1, .int x2] (cP G k [(h, .inr (10, [.ref (a 0), .ref (a 2), .ref (a 6), .ref (a 8), .ref (a 15), .ref (a 17), .ref (a 22), .ref (a 23), .int 0, .int 0])), ((a 17), .inr (5, [.ref (a 18), .ref (a 19), .ref (a 20), .ref (a 21), .int 0, .long 0])), ((a 18), .inl ((d 11), 250, .inl (fun _ => 0))), ((a 19), .inl ((d 12), 250, .inl (fun _ => 0))), ((a 20), .inl ((d 13), 250, .inl (fun _ => 0))), ((a 22), .inr (3, [.long 0, .long 0, .long 0, .long 0, .long 0, .long 0])), ((a 6), .inr (8, [.ref (a 7)])), ((a 7), .inl ((d 3), 9, .inl untold))] [((d 11), .int), ((d 12), .int), ((d 13), .int), ((d 3), .int)] sz)) (va_Qi (fun (r : Int32) (_ : Unit) => (r = 0)) (cB G (fun (_ : Unit) => []) (fun (_ : Unit) => []) (va_A [(h, .inr (10, [.ref (a 0), .ref (a 2), .ref (a 6), .ref (a 8), .ref (a 15), .ref (a 17), .ref (a 22), .ref (a 23), .int 0, .int 0])), ((a 17), .inr (5, [.ref (a 18), .ref (a 19), .ref (a 20), .ref (a 21), .int 0, .long 0])), ((a 18), .inl ((d 11), 250, .inl (fun _ => 0))), ((a 19), .inl ((d 12), 250, .inl (fun _ => 0))), ((a 20), .inl ((d 13), 250, .inl (fun _ => 0))), ((a 22), .inr (3, [.long 0, .long 0, .long 0, .long 0, .long 0, .long 0])), ((a 6), .inr (8, [.ref (a 7)])), ((a 7), .inl ((d 3), 9, .inl untold))] sz)) (va_A [(h, .inr (10, [.ref (a 0), .ref (a 2), .ref (a 6), .ref (a 8), .ref (a 15), .ref (a 17), .ref (a 22), .ref (a 23), .int 0, .int 0])), ((a 17), .inr (5, [.ref (a 18), .ref (a 19), .ref (a 20), .ref (a 21), .int 0, .long 0])), ((a 18), .inl ((d 11), 250, .inl (fun _ => 0))), ((a 19), .inl ((d 12), 250, .inl (fun _ => 0))), ((a 20), .inl ((d 13), 250, .inl (fun _ => 0))), ((a 22), .inr (3, [.long 0, .long 0, .long 0, .long 0, .long 0, .long 0])), ((a 6), .inr (8, [.ref (a 7)])), ((a 7), .inl ((d 3), 9, .inl untold))] sz)) 0 0 (va_A [(h, .inr (10, [.ref (a 0), .ref (a 2), .ref (a 6), .ref (a 8), .ref (a 15), .ref (a 17), .ref (a 22), .ref (a 23), .int 0, .int 0])), ((a 17), .inr (5, [.ref (a 18), .ref (a 19), .ref (a 20), .ref (a 21), .int 0, .long 0])), ((a 18), .inl ((d 11), 250, .inl (fun _ => 0))), ((a 19), .inl ((d 12), 250, .inl (fun _ => 0))), ((a 20), .inl ((d 13), 250, .inl (fun _ => 0))), ((a 22), .inr (3, [.long 0, .long 0, .long 0, .long 0, .long 0, .long 0])), ((a 6), .inr (8, [.ref (a 7)])), ((a 7), .inl ((d 3), 9, .inl untold))] sz) := by
  refine ofC_i (cc := cX10_receive) (maxL := 3) (ret := (some .int)) (by decide) rfl (Nat.le_of_ble_eq_true rfl) ?_
  intro p e s m args below meth c A ls Q F hr hin hlk St hl hQ
  have hx := F.1
  have hb := F.2.1
  have hl : lv_has ls 3 [(0, .ref h), (1, .int x1), (2, .int x2)] := hl
  have St : cS G k [(h, .inr (10, [.ref (a 0), .ref (a 2), .ref (a 6), .ref (a 8), .ref (a 15), .ref (a 17), .ref (a 22), .ref (a 23), .int 0, .int 0])), ((a 17), .inr (5, [.ref (a 18), .ref (a 19), .ref (a 20), .ref (a 21), .int 0, .long 0])), ((a 18), .inl ((d 11), 250, .inl (fun _ => 0))), ((a 19), .inl ((d 12), 250, .inl (fun _ => 0))), ((a 20), .inl ((d 13), 250, .inl (fun _ => 0))), ((a 22), .inr (3, [.long 0, .long 0, .long 0, .long 0, .long 0, .long 0])), ((a 6), .inr (8, [.ref (a 7)])), ((a 7), .inl ((d 3), 9, .inl untold))] [((d 11), .int), ((d 12), .int), ((d 13), .int), ((d 3), .int)] A s s.heap [] := St
  refine lv_aload_n hx hb dX10_receive_0 rfl (lv_at hl 0 rfl) ?_
  refine cs_get F St 0 rfl rfl inX10 5 (by decide) kf_X10_47 rfl dX10_receive_1 ?_
  refine lv_iload_n hx hb dX10_receive_4 rfl (lv_at hl 1 rfl) ?_
  refine lv_iload_n hx hb dX10_receive_5 rfl (lv_at hl 2 rfl) ?_
  refine lv_aload_n hx hb dX10_receive_6 rfl (lv_at hl 0 rfl) ?_
  refine cs_get F St 0 rfl rfl inX10 8 (by decide) kf_X10_123 rfl dX10_receive_7 ?_
  refine cs_v St [1, 2, 3, 4] [0, 5, 6, 7] (wc := [((a 17), .inr (5, [.ref (a 18), .ref (a 19), .ref (a 20), .ref (a 21), .int 0, .long 0])), ((a 18), .inl ((d 11), 250, .inl (fun _ => 0))), ((a 19), .inl ((d 12), 250, .inl (fun _ => 0))), ((a 20), .inl ((d 13), 250, .inl (fun _ => 0)))]) (wr := [(h, .inr (10, [.ref (a 0), .ref (a 2), .ref (a 6), .ref (a 8), .ref (a 15), .ref (a 17), .ref (a 22), .ref (a 23), .int 0, .int 0])), ((a 22), .inr (3, [.long 0, .long 0, .long 0, .long 0, .long 0, .long 0])), ((a 6), .inr (8, [.ref (a 7)])), ((a 7), .inl ((d 3), 9, .inl untold))]) rfl rfl (by decide) (by decide) (va_runV (As := [.int x1, .int x2, .int 0]) (rest := []) F (c5_add l G k _ (a 17) (a 18) (a 19) (a 20) (a 21) (d 11) (d 12) (d 13) x1 x2 0) (cwVt F mf_X5_add km_X10_308 rfl rfl ⟨Nat.le_of_ble_eq_true rfl, Nat.le_of_ble_eq_true rfl⟩) (cs_preV St [1, 2, 3, 4] rfl (by decide) [0, 1, 2] rfl (ci := 5) (q0 := 1) rfl rfl) rfl rfl hl.1 rfl (lv_room (Nat.le_of_ble_eq_true rfl)) dX10_receive_10 ⟨Nat.le_of_ble_eq_true rfl, Nat.le_of_ble_eq_true rfl⟩) (fun u_2 H locs hw St => ?_)
  try dsimp only at hw
  have St : cS G k [(h, .inr (10, [.ref (a 0), .ref (a 2), .ref (a 6), .ref (a 8), .ref (a 15), .ref (a 17), .ref (a 22), .ref (a 23), .int 0, .int 0])), ((a 22), .inr (3, [.long 0, .long 0, .long 0, .long 0, .long 0, .long 0])), ((a 6), .inr (8, [.ref (a 7)])), ((a 7), .inl ((d 3), 9, .inl untold))] [((d 11), .int), ((d 12), .int), ((d 13), .int), ((d 3), .int)] A s H locs := St
  refine lv_aload_n hx hb dX10_receive_13 rfl (lv_at hl 0 rfl) ?_
  refine cs_get F St 0 rfl rfl inX10 6 (by decide) kf_X10_54 rfl dX10_receive_14 ?_
  refine lv_iload_n hx hb dX10_receive_17 rfl (lv_at hl 2 rfl) ?_
  refine lv_aload_n hx hb dX10_receive_18 rfl (lv_at hl 0 rfl) ?_
  refine cs_get F St 0 rfl rfl inX10 8 (by decide) kf_X10_123 rfl dX10_receive_19 ?_
  refine lv_aload_n hx hb dX10_receive_22 rfl (lv_at hl 0 rfl) ?_
  refine cs_get F St 0 rfl rfl inX10 2 (by decide) kf_X10_26 rfl dX10_receive_23 ?_
  refine cs_i St [1, 2, 3] [0] (wc := [((a 22), .inr (3, [.long 0, .long 0, .long 0, .long 0, .long 0, .long 0])), ((a 6), .inr (8, [.ref (a 7)])), ((a 7), .inl ((d 3), 9, .inl untold))]) (wr := [(h, .inr (10, [.ref (a 0), .ref (a 2), .ref (a 6), .ref (a 8), .ref (a 15), .ref (a 17), .ref (a 22), .ref (a 23), .int 0, .int 0]))]) rfl rfl (by decide) (by decide) (va_runV (As := [.int x2, .int 0, .ref (a 6)]) (rest := []) F (c3_takeSum l G k _ (a 22) (a 6) (a 7) (d 3) x2) (cwVt F mf_X3_takeSum km_X10_310 rfl rfl ⟨Nat.le_of_ble_eq_true rfl, Nat.le_of_ble_eq_true rfl⟩) (cs_preV St [1, 2, 3] rfl (by decide) [3] rfl (ci := 3) (q0 := 1) rfl rfl) rfl rfl hl.1 rfl (lv_room (Nat.le_of_ble_eq_true rfl)) dX10_receive_26 ⟨Nat.le_of_ble_eq_true rfl, Nat.le_of_ble_eq_true rfl⟩) (fun r_3 u_4 H locs hw St => ?_)
  try dsimp only at hw
  have z_5 := hw
  subst r_3
  have St : cS G k [(h, .inr (10, [.ref (a 0), .ref (a 2), .ref (a 6), .ref (a 8), .ref (a 15), .ref (a 17), .ref (a 22), .ref (a 23), .int 0, .int 0]))] [((d 11), .int), ((d 12), .int), ((d 13), .int), ((d 3), .int)] A s H locs := St
  exact cs_iret F hr hlk hQ St () (r := 0) rfl [] rfl (by decide) [] rfl (by decide) (by decide) dX10_receive_29
set_option maxHeartbeats 4000000 in
set_option maxRecDepth 100000 in
/-- gift on a new object -/
theorem x_gift (l : Launch) (G : va_G) (k : Nat → Nat) (sz : Nat) (h : Nat) (a : Nat → Nat) (d : Nat → ClassId) (x1 : Int32) (x2 : Int32) : Met l yX10_gift (Cond.code yX10_gift cX10_gift 3 (some .int) :: tb) ({ frames := 3, cells := 0, slots := 0, locals := 74 } : Room) (va_Pc [.ref h, .int x1, .int x2] (cP G k [(h, .inr (10, [.ref (a 0), .ref (a 2), .ref (a 6), .ref (a 8), .ref (a 15), .ref (a 17), .ref (a 22), .ref (a 23), .int 0, .int 0])), ((a 17), .inr (5, [.ref (a 18), .ref (a 19), .ref (a 20), .ref (a 21), .int 0, .long 0])), ((a 18), .inl ((d 11), 250, .inl (fun _ => 0))), ((a 19), .inl ((d 12), 250, .inl (fun _ => 0))), ((a 20), .inl ((d 13), 250, .inl (fun _ => 0))), ((a 22), .inr (3, [.long 0, .long 0, .long 0, .long 0, .long 0, .long 0])), ((a 6), .inr (8, [.ref (a 7)])), ((a 7), .inl ((d 3), 9, .inl untold))] [((d 11), .int), ((d 12), .int), ((d 13), .int), ((d 3), .int)] sz)) (va_Qi (fun (r : Int32) (_ : Unit) => ((r = 0) ∧ ((0 ≤ x1.toInt ∧ x1.toInt ≤ 29) ∧ 1 ≤ x2.toInt ∧ x2.toInt ≤ 5000000)) ∨ ((r = (-2)) ∧ (¬ ((0 ≤ x1.toInt ∧ x1.toInt ≤ 29) ∧ 1 ≤ x2.toInt ∧ x2.toInt ≤ 5000000)))) (cB G (fun (_ : Unit) => []) (fun (_ : Unit) => []) (va_A [(h, .inr (10, [.ref (a 0), .ref (a 2), .ref (a 6), .ref (a 8), .ref (a 15), .ref (a 17), .ref (a 22), .ref (a 23), .int 0, .int 0])), ((a 17), .inr (5, [.ref (a 18), .ref (a 19), .ref (a 20), .ref (a 21), .int 0, .long 0])), ((a 18), .inl ((d 11), 250, .inl (fun _ => 0))), ((a 19), .inl ((d 12), 250, .inl (fun _ => 0))), ((a 20), .inl ((d 13), 250, .inl (fun _ => 0))), ((a 22), .inr (3, [.long 0, .long 0, .long 0, .long 0, .long 0, .long 0])), ((a 6), .inr (8, [.ref (a 7)])), ((a 7), .inl ((d 3), 9, .inl untold))] sz)) (va_A [(h, .inr (10, [.ref (a 0), .ref (a 2), .ref (a 6), .ref (a 8), .ref (a 15), .ref (a 17), .ref (a 22), .ref (a 23), .int 0, .int 0])), ((a 17), .inr (5, [.ref (a 18), .ref (a 19), .ref (a 20), .ref (a 21), .int 0, .long 0])), ((a 18), .inl ((d 11), 250, .inl (fun _ => 0))), ((a 19), .inl ((d 12), 250, .inl (fun _ => 0))), ((a 20), .inl ((d 13), 250, .inl (fun _ => 0))), ((a 22), .inr (3, [.long 0, .long 0, .long 0, .long 0, .long 0, .long 0])), ((a 6), .inr (8, [.ref (a 7)])), ((a 7), .inl ((d 3), 9, .inl untold))] sz)) 0 0 (va_A [(h, .inr (10, [.ref (a 0), .ref (a 2), .ref (a 6), .ref (a 8), .ref (a 15), .ref (a 17), .ref (a 22), .ref (a 23), .int 0, .int 0])), ((a 17), .inr (5, [.ref (a 18), .ref (a 19), .ref (a 20), .ref (a 21), .int 0, .long 0])), ((a 18), .inl ((d 11), 250, .inl (fun _ => 0))), ((a 19), .inl ((d 12), 250, .inl (fun _ => 0))), ((a 20), .inl ((d 13), 250, .inl (fun _ => 0))), ((a 22), .inr (3, [.long 0, .long 0, .long 0, .long 0, .long 0, .long 0])), ((a 6), .inr (8, [.ref (a 7)])), ((a 7), .inl ((d 3), 9, .inl untold))] sz) := by
  refine ofC_i (cc := cX10_gift) (maxL := 3) (ret := (some .int)) (by decide) rfl (Nat.le_of_ble_eq_true rfl) ?_
  intro p e s m args below meth c A ls Q F hr hin hlk St hl hQ
  have hx := F.1
  have hb := F.2.1
  have hl : lv_has ls 3 [(0, .ref h), (1, .int x1), (2, .int x2)] := hl
  have St : cS G k [(h, .inr (10, [.ref (a 0), .ref (a 2), .ref (a 6), .ref (a 8), .ref (a 15), .ref (a 17), .ref (a 22), .ref (a 23), .int 0, .int 0])), ((a 17), .inr (5, [.ref (a 18), .ref (a 19), .ref (a 20), .ref (a 21), .int 0, .long 0])), ((a 18), .inl ((d 11), 250, .inl (fun _ => 0))), ((a 19), .inl ((d 12), 250, .inl (fun _ => 0))), ((a 20), .inl ((d 13), 250, .inl (fun _ => 0))), ((a 22), .inr (3, [.long 0, .long 0, .long 0, .long 0, .long 0, .long 0])), ((a 6), .inr (8, [.ref (a 7)])), ((a 7), .inl ((d 3), 9, .inl untold))] [((d 11), .int), ((d 12), .int), ((d 13), .int), ((d 3), .int)] A s s.heap [] := St
  refine lv_iload_n hx hb dX10_gift_0 rfl (lv_at hl 1 rfl) ?_
  refine cs_i St [] [0, 1, 2, 3, 4, 5, 6, 7] (wc := []) (wr := [(h, .inr (10, [.ref (a 0), .ref (a 2), .ref (a 6), .ref (a 8), .ref (a 15), .ref (a 17), .ref (a 22), .ref (a 23), .int 0, .int 0])), ((a 17), .inr (5, [.ref (a 18), .ref (a 19), .ref (a 20), .ref (a 21), .int 0, .long 0])), ((a 18), .inl ((d 11), 250, .inl (fun _ => 0))), ((a 19), .inl ((d 12), 250, .inl (fun _ => 0))), ((a 20), .inl ((d 13), 250, .inl (fun _ => 0))), ((a 22), .inr (3, [.long 0, .long 0, .long 0, .long 0, .long 0, .long 0])), ((a 6), .inr (8, [.ref (a 7)])), ((a 7), .inl ((d 3), 9, .inl untold))]) rfl rfl (by decide) (by decide) (va_runS (As := [.int x1]) (rest := []) F (c10_isGiver l G k _ x1) (cwSt F mf_X10_isGiver km_X10_102 rfl rfl ⟨Nat.le_of_ble_eq_true rfl, Nat.le_of_ble_eq_true rfl⟩) (cs_pre St [] rfl (by decide) [] rfl) rfl rfl hl.1 rfl (lv_room (Nat.le_of_ble_eq_true rfl)) dX10_gift_1 ⟨Nat.le_of_ble_eq_true rfl, Nat.le_of_ble_eq_true rfl⟩) (fun r_1 u_2 H locs hw St => ?_)
  try dsimp only at hw
  rcases hw with ⟨z_3, hf_4⟩ | ⟨z_5, hf_6⟩
  ·
    subst r_1
    have St : cS G k [(h, .inr (10, [.ref (a 0), .ref (a 2), .ref (a 6), .ref (a 8), .ref (a 15), .ref (a 17), .ref (a 22), .ref (a 23), .int 0, .int 0])), ((a 17), .inr (5, [.ref (a 18), .ref (a 19), .ref (a 20), .ref (a 21), .int 0, .long 0])), ((a 18), .inl ((d 11), 250, .inl (fun _ => 0))), ((a 19), .inl ((d 12), 250, .inl (fun _ => 0))), ((a 20), .inl ((d 13), 250, .inl (fun _ => 0))), ((a 22), .inr (3, [.long 0, .long 0, .long 0, .long 0, .long 0, .long 0])), ((a 6), .inr (8, [.ref (a 7)])), ((a 7), .inl ((d 3), 9, .inl untold))] [((d 11), .int), ((d 12), .int), ((d 13), .int), ((d 3), .int)] A s H locs := St
    refine lv_if_eq (tgt := 14) hx hb dX10_gift_4 (by decide) (fun c4 => ?_) (fun c4 => ?_)
    · exact absurd c4 (by decide)
    refine lv_iload_n hx hb dX10_gift_7 rfl (lv_at hl 2 rfl) ?_
    refine cs_i St [] [0, 1, 2, 3, 4, 5, 6, 7] (wc := []) (wr := [(h, .inr (10, [.ref (a 0), .ref (a 2), .ref (a 6), .ref (a 8), .ref (a 15), .ref (a 17), .ref (a 22), .ref (a 23), .int 0, .int 0])), ((a 17), .inr (5, [.ref (a 18), .ref (a 19), .ref (a 20), .ref (a 21), .int 0, .long 0])), ((a 18), .inl ((d 11), 250, .inl (fun _ => 0))), ((a 19), .inl ((d 12), 250, .inl (fun _ => 0))), ((a 20), .inl ((d 13), 250, .inl (fun _ => 0))), ((a 22), .inr (3, [.long 0, .long 0, .long 0, .long 0, .long 0, .long 0])), ((a 6), .inr (8, [.ref (a 7)])), ((a 7), .inl ((d 3), 9, .inl untold))]) rfl rfl (by decide) (by decide) (va_runS (As := [.int x2]) (rest := []) F (c10_isSum l G k _ x2) (cwSt F mf_X10_isSum km_X10_149 rfl rfl ⟨Nat.le_of_ble_eq_true rfl, Nat.le_of_ble_eq_true rfl⟩) (cs_pre St [] rfl (by decide) [] rfl) rfl rfl hl.1 rfl (lv_room (Nat.le_of_ble_eq_true rfl)) dX10_gift_8 ⟨Nat.le_of_ble_eq_true rfl, Nat.le_of_ble_eq_true rfl⟩) (fun r_7 u_8 H locs hw St => ?_)
    try dsimp only at hw
    rcases hw with ⟨z_9, hf_10⟩ | ⟨z_11, hf_12⟩
    ·
      subst r_7
      have St : cS G k [(h, .inr (10, [.ref (a 0), .ref (a 2), .ref (a 6), .ref (a 8), .ref (a 15), .ref (a 17), .ref (a 22), .ref (a 23), .int 0, .int 0])), ((a 17), .inr (5, [.ref (a 18), .ref (a 19), .ref (a 20), .ref (a 21), .int 0, .long 0])), ((a 18), .inl ((d 11), 250, .inl (fun _ => 0))), ((a 19), .inl ((d 12), 250, .inl (fun _ => 0))), ((a 20), .inl ((d 13), 250, .inl (fun _ => 0))), ((a 22), .inr (3, [.long 0, .long 0, .long 0, .long 0, .long 0, .long 0])), ((a 6), .inr (8, [.ref (a 7)])), ((a 7), .inl ((d 3), 9, .inl untold))] [((d 11), .int), ((d 12), .int), ((d 13), .int), ((d 3), .int)] A s H locs := St
      refine lv_if_ne (tgt := 17) hx hb dX10_gift_11 (by decide) (fun c11 => ?_) (fun c11 => ?_)
      rotate_left
      · exact absurd c11 (by decide)
      refine lv_aload_n hx hb dX10_gift_17 rfl (lv_at hl 0 rfl) ?_
      refine cs_get F St 0 rfl rfl inX10 9 (by decide) kf_X10_106 rfl dX10_gift_18 ?_
      refine lv_if_eq (tgt := 27) hx hb dX10_gift_21 (by decide) (fun c21 => ?_) (fun c21 => ?_)
      rotate_left
      · exact absurd (by decide) c21
      refine lv_aload_n hx hb dX10_gift_27 rfl (lv_at hl 0 rfl) ?_
      refine cs_get F St 0 rfl rfl inX10 5 (by decide) kf_X10_47 rfl dX10_gift_28 ?_
      refine cs_i St [1] [0, 2, 3, 4, 5, 6, 7] (wc := [((a 17), .inr (5, [.ref (a 18), .ref (a 19), .ref (a 20), .ref (a 21), .int 0, .long 0]))]) (wr := [(h, .inr (10, [.ref (a 0), .ref (a 2), .ref (a 6), .ref (a 8), .ref (a 15), .ref (a 17), .ref (a 22), .ref (a 23), .int 0, .int 0])), ((a 18), .inl ((d 11), 250, .inl (fun _ => 0))), ((a 19), .inl ((d 12), 250, .inl (fun _ => 0))), ((a 20), .inl ((d 13), 250, .inl (fun _ => 0))), ((a 22), .inr (3, [.long 0, .long 0, .long 0, .long 0, .long 0, .long 0])), ((a 6), .inr (8, [.ref (a 7)])), ((a 7), .inl ((d 3), 9, .inl untold))]) rfl rfl (by decide) (by decide) (va_runV (As := []) (rest := []) F (c5_isFull l G k _ (a 17) (a 18) (a 19) (a 20) (a 21)) (cwVt F mf_X5_isFull km_X10_155 rfl rfl ⟨Nat.le_of_ble_eq_true rfl, Nat.le_of_ble_eq_true rfl⟩) (cs_preV St [1] rfl (by decide) [] rfl (ci := 5) (q0 := 1) rfl rfl) rfl rfl hl.1 rfl (lv_room (Nat.le_of_ble_eq_true rfl)) dX10_gift_31 ⟨Nat.le_of_ble_eq_true rfl, Nat.le_of_ble_eq_true rfl⟩) (fun r_13 u_14 H locs hw St => ?_)
      try dsimp only at hw
      have z_15 := hw
      subst r_13
      have St : cS G k [(h, .inr (10, [.ref (a 0), .ref (a 2), .ref (a 6), .ref (a 8), .ref (a 15), .ref (a 17), .ref (a 22), .ref (a 23), .int 0, .int 0])), ((a 18), .inl ((d 11), 250, .inl (fun _ => 0))), ((a 19), .inl ((d 12), 250, .inl (fun _ => 0))), ((a 20), .inl ((d 13), 250, .inl (fun _ => 0))), ((a 22), .inr (3, [.long 0, .long 0, .long 0, .long 0, .long 0, .long 0])), ((a 6), .inr (8, [.ref (a 7)])), ((a 7), .inl ((d 3), 9, .inl untold)), ((a 17), .inr (5, [.ref (a 18), .ref (a 19), .ref (a 20), .ref (a 21), .int 0, .long 0]))] [((d 11), .int), ((d 12), .int), ((d 13), .int), ((d 3), .int)] A s H locs := St
      refine lv_if_eq (tgt := 42) hx hb dX10_gift_34 (by decide) (fun c34 => ?_) (fun c34 => ?_)
      rotate_left
      · exact absurd (by decide) c34
      refine lv_aload_n hx hb dX10_gift_42 rfl (lv_at hl 0 rfl) ?_
      refine lv_iload_n hx hb dX10_gift_43 rfl (lv_at hl 1 rfl) ?_
      refine lv_iload_n hx hb dX10_gift_44 rfl (lv_at hl 2 rfl) ?_
      refine cs_i St [0, 7, 1, 2, 3, 4, 5, 6] [] (wc := [(h, .inr (10, [.ref (a 0), .ref (a 2), .ref (a 6), .ref (a 8), .ref (a 15), .ref (a 17), .ref (a 22), .ref (a 23), .int 0, .int 0])), ((a 17), .inr (5, [.ref (a 18), .ref (a 19), .ref (a 20), .ref (a 21), .int 0, .long 0])), ((a 18), .inl ((d 11), 250, .inl (fun _ => 0))), ((a 19), .inl ((d 12), 250, .inl (fun _ => 0))), ((a 20), .inl ((d 13), 250, .inl (fun _ => 0))), ((a 22), .inr (3, [.long 0, .long 0, .long 0, .long 0, .long 0, .long 0])), ((a 6), .inr (8, [.ref (a 7)])), ((a 7), .inl ((d 3), 9, .inl untold))]) (wr := []) rfl rfl (by decide) (by decide) (va_runV (As := [.int x1, .int x2]) (rest := []) F (x_receive l G k _ h a d x1 x2) (cwVt F mf_X10_receive km_X10_162 rfl rfl ⟨Nat.le_of_ble_eq_true rfl, Nat.le_of_ble_eq_true rfl⟩) (cs_preV St [0, 7, 1, 2, 3, 4, 5, 6] rfl (by decide) [0, 1, 2, 3] rfl (ci := 10) (q0 := 0) rfl rfl) rfl rfl hl.1 rfl (lv_room (Nat.le_of_ble_eq_true rfl)) dX10_gift_45 ⟨Nat.le_of_ble_eq_true rfl, Nat.le_of_ble_eq_true rfl⟩) (fun r_16 u_17 H locs hw St => ?_)
      try dsimp only at hw
      have z_18 := hw
      subst r_16
      have St : cS G k [] [((d 11), .int), ((d 12), .int), ((d 13), .int), ((d 3), .int)] A s H locs := St
      exact cs_iret F hr hlk hQ St () (r := 0) (Or.inl ⟨rfl, by omega⟩) [] rfl (by decide) [] rfl (by decide) (by decide) dX10_gift_48
    ·
      subst r_7
      have St : cS G k [(h, .inr (10, [.ref (a 0), .ref (a 2), .ref (a 6), .ref (a 8), .ref (a 15), .ref (a 17), .ref (a 22), .ref (a 23), .int 0, .int 0])), ((a 17), .inr (5, [.ref (a 18), .ref (a 19), .ref (a 20), .ref (a 21), .int 0, .long 0])), ((a 18), .inl ((d 11), 250, .inl (fun _ => 0))), ((a 19), .inl ((d 12), 250, .inl (fun _ => 0))), ((a 20), .inl ((d 13), 250, .inl (fun _ => 0))), ((a 22), .inr (3, [.long 0, .long 0, .long 0, .long 0, .long 0, .long 0])), ((a 6), .inr (8, [.ref (a 7)])), ((a 7), .inl ((d 3), 9, .inl untold))] [((d 11), .int), ((d 12), .int), ((d 13), .int), ((d 3), .int)] A s H locs := St
      refine lv_if_ne (tgt := 17) hx hb dX10_gift_11 (by decide) (fun c11 => ?_) (fun c11 => ?_)
      · exact absurd c11 (by decide)
      refine lv_bipush (v := (-2)) hx hb dX10_gift_14 (by decide) ?_
      exact cs_iret F hr hlk hQ St () (r := (-2)) (Or.inr ⟨rfl, by omega⟩) [] rfl (by decide) [] rfl (by decide) (by decide) dX10_gift_16
  ·
    subst r_1
    have St : cS G k [(h, .inr (10, [.ref (a 0), .ref (a 2), .ref (a 6), .ref (a 8), .ref (a 15), .ref (a 17), .ref (a 22), .ref (a 23), .int 0, .int 0])), ((a 17), .inr (5, [.ref (a 18), .ref (a 19), .ref (a 20), .ref (a 21), .int 0, .long 0])), ((a 18), .inl ((d 11), 250, .inl (fun _ => 0))), ((a 19), .inl ((d 12), 250, .inl (fun _ => 0))), ((a 20), .inl ((d 13), 250, .inl (fun _ => 0))), ((a 22), .inr (3, [.long 0, .long 0, .long 0, .long 0, .long 0, .long 0])), ((a 6), .inr (8, [.ref (a 7)])), ((a 7), .inl ((d 3), 9, .inl untold))] [((d 11), .int), ((d 12), .int), ((d 13), .int), ((d 3), .int)] A s H locs := St
    refine lv_if_eq (tgt := 14) hx hb dX10_gift_4 (by decide) (fun c4 => ?_) (fun c4 => ?_)
    rotate_left
    · exact absurd (by decide) c4
    refine lv_bipush (v := (-2)) hx hb dX10_gift_14 (by decide) ?_
    exact cs_iret F hr hlk hQ St () (r := (-2)) (Or.inr ⟨rfl, by omega⟩) [] rfl (by decide) [] rfl (by decide) (by decide) dX10_gift_16
set_option maxHeartbeats 4000000 in
set_option maxRecDepth 100000 in
/-- takeUp on a new object -/
theorem x_takeUp (l : Launch) (G : va_G) (k : Nat → Nat) (sz : Nat) (h : Nat) (a : Nat → Nat) (d : Nat → ClassId) (x1 : Int32) : Met l yX10_takeUp (Cond.code yX10_takeUp cX10_takeUp 3 (some .int) :: tb) ({ frames := 1, cells := 0, slots := 0, locals := 21 } : Room) (va_Pc [.ref h, .int x1] (cP G k [(h, .inr (10, [.ref (a 0), .ref (a 2), .ref (a 6), .ref (a 8), .ref (a 15), .ref (a 17), .ref (a 22), .ref (a 23), .int 0, .int 0])), ((a 15), .inr (2, [.ref (a 16), .int 0]))] [] sz)) (va_Qi (fun (r : Int32) (_ : Unit) => (r = (-2))) (cB G (fun (_ : Unit) => []) (fun (_ : Unit) => []) (va_A [(h, .inr (10, [.ref (a 0), .ref (a 2), .ref (a 6), .ref (a 8), .ref (a 15), .ref (a 17), .ref (a 22), .ref (a 23), .int 0, .int 0])), ((a 15), .inr (2, [.ref (a 16), .int 0]))] sz)) (va_A [(h, .inr (10, [.ref (a 0), .ref (a 2), .ref (a 6), .ref (a 8), .ref (a 15), .ref (a 17), .ref (a 22), .ref (a 23), .int 0, .int 0])), ((a 15), .inr (2, [.ref (a 16), .int 0]))] sz)) 0 0 (va_A [(h, .inr (10, [.ref (a 0), .ref (a 2), .ref (a 6), .ref (a 8), .ref (a 15), .ref (a 17), .ref (a 22), .ref (a 23), .int 0, .int 0])), ((a 15), .inr (2, [.ref (a 16), .int 0]))] sz) := by
  refine ofC_i (cc := cX10_takeUp) (maxL := 3) (ret := (some .int)) (by decide) rfl (Nat.le_of_ble_eq_true rfl) ?_
  intro p e s m args below meth c A ls Q F hr hin hlk St hl hQ
  have hx := F.1
  have hb := F.2.1
  have hl : lv_has ls 3 [(0, .ref h), (1, .int x1)] := hl
  have St : cS G k [(h, .inr (10, [.ref (a 0), .ref (a 2), .ref (a 6), .ref (a 8), .ref (a 15), .ref (a 17), .ref (a 22), .ref (a 23), .int 0, .int 0])), ((a 15), .inr (2, [.ref (a 16), .int 0]))] [] A s s.heap [] := St
  refine lv_aload_n hx hb dX10_takeUp_0 rfl (lv_at hl 0 rfl) ?_
  refine cs_get F St 0 rfl rfl inX10 4 (by decide) kf_X10_40 rfl dX10_takeUp_1 ?_
  refine lv_iload_n hx hb dX10_takeUp_4 rfl (lv_at hl 1 rfl) ?_
  refine cs_q St [1] [0] (wc := [((a 15), .inr (2, [.ref (a 16), .int 0]))]) (wr := [(h, .inr (10, [.ref (a 0), .ref (a 2), .ref (a 6), .ref (a 8), .ref (a 15), .ref (a 17), .ref (a 22), .ref (a 23), .int 0, .int 0]))]) rfl rfl (by decide) (by decide) (va_runV (As := [.int x1]) (rest := []) F (c2_at l G k _ (a 15) (a 16) x1) (cwVt F mf_X2_at km_X10_139 rfl rfl ⟨Nat.le_of_ble_eq_true rfl, Nat.le_of_ble_eq_true rfl⟩) (cs_preV St [1] rfl (by decide) [] rfl (ci := 2) (q0 := 1) rfl rfl) rfl rfl hl.1 rfl (lv_room (Nat.le_of_ble_eq_true rfl)) dX10_takeUp_5 ⟨Nat.le_of_ble_eq_true rfl, Nat.le_of_ble_eq_true rfl⟩) (fun r_1 u_2 H locs hw St => ?_)
  try dsimp only at hw
  have z_3 := hw
  subst r_1
  have St : cS G k [(h, .inr (10, [.ref (a 0), .ref (a 2), .ref (a 6), .ref (a 8), .ref (a 15), .ref (a 17), .ref (a 22), .ref (a 23), .int 0, .int 0])), ((a 15), .inr (2, [.ref (a 16), .int 0]))] [] A s H locs := St
  show W _ _ _ _ _ _ _ _ _ _ _ _ _ _ _ (F0 m 8 ls [.null])
  refine lv_astore_nN (lv' := [(2, .null), (0, .ref h), (1, .int x1)]) hx hb dX10_takeUp_8 rfl hl (by decide) rfl (fun ls hl => ?_)
  refine lv_aload_nN hx hb dX10_takeUp_9 rfl (lv_at hl 0 rfl) ?_
  refine lv_ifnonnullN hx hb dX10_takeUp_10 ?_
  refine lv_bipush (v := (-2)) hx hb dX10_takeUp_13 (by decide) ?_
  exact cs_iret F hr hlk hQ St () (r := (-2)) rfl [] rfl (by decide) [] rfl (by decide) (by decide) dX10_takeUp_15
set_option maxHeartbeats 4000000 in
set_option maxRecDepth 100000 in
/-- claim on a new object -/
theorem x_claim (l : Launch) (G : va_G) (k : Nat → Nat) (sz : Nat) (h : Nat) (a : Nat → Nat) (d : Nat → ClassId) : Met l yX10_claim (Cond.code yX10_claim cX10_claim 2 (some .int) :: tb) ({ frames := 1, cells := 0, slots := 0, locals := 25 } : Room) (va_Pc [.ref h] (cP G k [(h, .inr (10, [.ref (a 0), .ref (a 2), .ref (a 6), .ref (a 8), .ref (a 15), .ref (a 17), .ref (a 22), .ref (a 23), .int 0, .int 0])), ((a 17), .inr (5, [.ref (a 18), .ref (a 19), .ref (a 20), .ref (a 21), .int 0, .long 0])), ((a 22), .inr (3, [.long 0, .long 0, .long 0, .long 0, .long 0, .long 0])), ((a 6), .inr (8, [.ref (a 7)])), ((a 7), .inl ((d 3), 9, .inl untold))] [((d 3), .int)] sz)) (va_Qi (fun (r : Int32) (_ : Unit) => (r = 0)) (cB G (fun (_ : Unit) => []) (fun (_ : Unit) => []) (va_A [(h, .inr (10, [.ref (a 0), .ref (a 2), .ref (a 6), .ref (a 8), .ref (a 15), .ref (a 17), .ref (a 22), .ref (a 23), .int 0, .int 0])), ((a 17), .inr (5, [.ref (a 18), .ref (a 19), .ref (a 20), .ref (a 21), .int 0, .long 0])), ((a 22), .inr (3, [.long 0, .long 0, .long 0, .long 0, .long 0, .long 0])), ((a 6), .inr (8, [.ref (a 7)])), ((a 7), .inl ((d 3), 9, .inl untold))] sz)) (va_A [(h, .inr (10, [.ref (a 0), .ref (a 2), .ref (a 6), .ref (a 8), .ref (a 15), .ref (a 17), .ref (a 22), .ref (a 23), .int 0, .int 0])), ((a 17), .inr (5, [.ref (a 18), .ref (a 19), .ref (a 20), .ref (a 21), .int 0, .long 0])), ((a 22), .inr (3, [.long 0, .long 0, .long 0, .long 0, .long 0, .long 0])), ((a 6), .inr (8, [.ref (a 7)])), ((a 7), .inl ((d 3), 9, .inl untold))] sz)) 0 0 (va_A [(h, .inr (10, [.ref (a 0), .ref (a 2), .ref (a 6), .ref (a 8), .ref (a 15), .ref (a 17), .ref (a 22), .ref (a 23), .int 0, .int 0])), ((a 17), .inr (5, [.ref (a 18), .ref (a 19), .ref (a 20), .ref (a 21), .int 0, .long 0])), ((a 22), .inr (3, [.long 0, .long 0, .long 0, .long 0, .long 0, .long 0])), ((a 6), .inr (8, [.ref (a 7)])), ((a 7), .inl ((d 3), 9, .inl untold))] sz) := by
  refine ofC_i (cc := cX10_claim) (maxL := 2) (ret := (some .int)) (by decide) rfl (Nat.le_of_ble_eq_true rfl) ?_
  intro p e s m args below meth c A ls Q F hr hin hlk St hl hQ
  have hx := F.1
  have hb := F.2.1
  have hl : lv_has ls 2 [(0, .ref h)] := hl
  have St : cS G k [(h, .inr (10, [.ref (a 0), .ref (a 2), .ref (a 6), .ref (a 8), .ref (a 15), .ref (a 17), .ref (a 22), .ref (a 23), .int 0, .int 0])), ((a 17), .inr (5, [.ref (a 18), .ref (a 19), .ref (a 20), .ref (a 21), .int 0, .long 0])), ((a 22), .inr (3, [.long 0, .long 0, .long 0, .long 0, .long 0, .long 0])), ((a 6), .inr (8, [.ref (a 7)])), ((a 7), .inl ((d 3), 9, .inl untold))] [((d 3), .int)] A s s.heap [] := St
  refine lv_aload_n hx hb dX10_claim_0 rfl (lv_at hl 0 rfl) ?_
  refine cs_get F St 0 rfl rfl inX10 9 (by decide) kf_X10_106 rfl dX10_claim_1 ?_
  refine lv_if_eq (tgt := 10) hx hb dX10_claim_4 (by decide) (fun c4 => ?_) (fun c4 => ?_)
  rotate_left
  · exact absurd (by decide) c4
  refine lv_aload_n hx hb dX10_claim_10 rfl (lv_at hl 0 rfl) ?_
  refine cs_get F St 0 rfl rfl inX10 5 (by decide) kf_X10_47 rfl dX10_claim_11 ?_
  refine lv_aload_n hx hb dX10_claim_14 rfl (lv_at hl 0 rfl) ?_
  refine cs_get F St 0 rfl rfl inX10 2 (by decide) kf_X10_26 rfl dX10_claim_15 ?_
  refine cs_i St [3, 4] [0, 1, 2] (wc := [((a 6), .inr (8, [.ref (a 7)])), ((a 7), .inl ((d 3), 9, .inl untold))]) (wr := [(h, .inr (10, [.ref (a 0), .ref (a 2), .ref (a 6), .ref (a 8), .ref (a 15), .ref (a 17), .ref (a 22), .ref (a 23), .int 0, .int 0])), ((a 17), .inr (5, [.ref (a 18), .ref (a 19), .ref (a 20), .ref (a 21), .int 0, .long 0])), ((a 22), .inr (3, [.long 0, .long 0, .long 0, .long 0, .long 0, .long 0]))]) rfl rfl (by decide) (by decide) (va_runV (As := []) (rest := [.ref (a 17)]) F (c8_taxHundredths l G k _ (a 6) (a 7) (d 3)) (cwVt F mf_X8_taxHundredths km_X10_175 rfl rfl ⟨Nat.le_of_ble_eq_true rfl, Nat.le_of_ble_eq_true rfl⟩) (cs_preV St [3, 4] rfl (by decide) [0] rfl (ci := 8) (q0 := 3) rfl rfl) rfl rfl hl.1 rfl (lv_room (Nat.le_of_ble_eq_true rfl)) dX10_claim_18 ⟨Nat.le_of_ble_eq_true rfl, Nat.le_of_ble_eq_true rfl⟩) (fun r_1 u_2 H locs hw St => ?_)
  try dsimp only at hw
  have z_3 := hw
  subst r_1
  have St : cS G k [(h, .inr (10, [.ref (a 0), .ref (a 2), .ref (a 6), .ref (a 8), .ref (a 15), .ref (a 17), .ref (a 22), .ref (a 23), .int 0, .int 0])), ((a 17), .inr (5, [.ref (a 18), .ref (a 19), .ref (a 20), .ref (a 21), .int 0, .long 0])), ((a 22), .inr (3, [.long 0, .long 0, .long 0, .long 0, .long 0, .long 0])), ((a 6), .inr (8, [.ref (a 7)])), ((a 7), .inl ((d 3), 9, .inl untold))] [((d 3), .int)] A s H locs := St
  refine lv_aload_n hx hb dX10_claim_21 rfl (lv_at hl 0 rfl) ?_
  refine cs_get F St 0 rfl rfl inX10 3 (by decide) kf_X10_33 rfl dX10_claim_22 ?_
  refine cs_i St [1] [0, 2, 3, 4] (wc := [((a 17), .inr (5, [.ref (a 18), .ref (a 19), .ref (a 20), .ref (a 21), .int 0, .long 0]))]) (wr := [(h, .inr (10, [.ref (a 0), .ref (a 2), .ref (a 6), .ref (a 8), .ref (a 15), .ref (a 17), .ref (a 22), .ref (a 23), .int 0, .int 0])), ((a 22), .inr (3, [.long 0, .long 0, .long 0, .long 0, .long 0, .long 0])), ((a 6), .inr (8, [.ref (a 7)])), ((a 7), .inl ((d 3), 9, .inl untold))]) rfl rfl (by decide) (by decide) (va_runV (As := [.int 0, .ref (a 8)]) (rest := []) F (c5_claimTax l G k _ (a 17) (a 18) (a 19) (a 20) (a 21) (a 8)) (cwVt F mf_X5_claimTax km_X10_178 rfl rfl ⟨Nat.le_of_ble_eq_true rfl, Nat.le_of_ble_eq_true rfl⟩) (cs_preV St [1] rfl (by decide) [] rfl (ci := 5) (q0 := 1) rfl rfl) rfl rfl hl.1 rfl (lv_room (Nat.le_of_ble_eq_true rfl)) dX10_claim_25 ⟨Nat.le_of_ble_eq_true rfl, Nat.le_of_ble_eq_true rfl⟩) (fun r_4 u_5 H locs hw St => ?_)
  try dsimp only at hw
  have z_6 := hw
  subst r_4
  have St : cS G k [(h, .inr (10, [.ref (a 0), .ref (a 2), .ref (a 6), .ref (a 8), .ref (a 15), .ref (a 17), .ref (a 22), .ref (a 23), .int 0, .int 0])), ((a 22), .inr (3, [.long 0, .long 0, .long 0, .long 0, .long 0, .long 0])), ((a 6), .inr (8, [.ref (a 7)])), ((a 7), .inl ((d 3), 9, .inl untold)), ((a 17), .inr (5, [.ref (a 18), .ref (a 19), .ref (a 20), .ref (a 21), .int 0, .long 0]))] [((d 3), .int)] A s H locs := St
  refine lv_istore_n (lv' := [(1, .int 0), (0, .ref h)]) hx hb dX10_claim_28 rfl hl (by decide) rfl (fun ls hl => ?_)
  refine lv_aload_n hx hb dX10_claim_29 rfl (lv_at hl 1 rfl) ?_
  refine cs_get F St 0 rfl rfl inX10 6 (by decide) kf_X10_54 rfl dX10_claim_30 ?_
  refine lv_iload_n hx hb dX10_claim_33 rfl (lv_at hl 0 rfl) ?_
  refine cs_v St [1] [0, 2, 3, 4] (wc := [((a 22), .inr (3, [.long 0, .long 0, .long 0, .long 0, .long 0, .long 0]))]) (wr := [(h, .inr (10, [.ref (a 0), .ref (a 2), .ref (a 6), .ref (a 8), .ref (a 15), .ref (a 17), .ref (a 22), .ref (a 23), .int 0, .int 0])), ((a 6), .inr (8, [.ref (a 7)])), ((a 7), .inl ((d 3), 9, .inl untold)), ((a 17), .inr (5, [.ref (a 18), .ref (a 19), .ref (a 20), .ref (a 21), .int 0, .long 0]))]) rfl rfl (by decide) (by decide) (va_runV (As := [.int 0]) (rest := []) F (c3_takeTax l G k _ (a 22)) (cwVt F mf_X3_takeTax km_X10_182 rfl rfl ⟨Nat.le_of_ble_eq_true rfl, Nat.le_of_ble_eq_true rfl⟩) (cs_preV St [1] rfl (by decide) [] rfl (ci := 3) (q0 := 1) rfl rfl) rfl rfl hl.1 rfl (lv_room (Nat.le_of_ble_eq_true rfl)) dX10_claim_34 ⟨Nat.le_of_ble_eq_true rfl, Nat.le_of_ble_eq_true rfl⟩) (fun u_8 H locs hw St => ?_)
  try dsimp only at hw
  have St : cS G k [(h, .inr (10, [.ref (a 0), .ref (a 2), .ref (a 6), .ref (a 8), .ref (a 15), .ref (a 17), .ref (a 22), .ref (a 23), .int 0, .int 0])), ((a 6), .inr (8, [.ref (a 7)])), ((a 7), .inl ((d 3), 9, .inl untold)), ((a 17), .inr (5, [.ref (a 18), .ref (a 19), .ref (a 20), .ref (a 21), .int 0, .long 0])), ((a 22), .inr (3, [.long 0, .long 0, .long 0, .long 0, .long 0, .long 0]))] [((d 3), .int)] A s H locs := St
  refine lv_iload_n hx hb dX10_claim_37 rfl (lv_at hl 0 rfl) ?_
  exact cs_iret F hr hlk hQ St () (r := 0) rfl [] rfl (by decide) [] rfl (by decide) (by decide) dX10_claim_38
set_option maxHeartbeats 4000000 in
set_option maxRecDepth 100000 in
/-- about on a new object -/
theorem x_about (l : Launch) (G : va_G) (k : Nat → Nat) (sz : Nat) (h : Nat) (a : Nat → Nat) (d : Nat → ClassId) (x1 : Int32) (x2 : Int32) : Met l yX10_about (Cond.code yX10_about cX10_about 4 (some .int) :: tb) ({ frames := 1, cells := 0, slots := 0, locals := 21 } : Room) (va_Pc [.ref h, .int x1, .int x2] (cP G k [(h, .inr (10, [.ref (a 0), .ref (a 2), .ref (a 6), .ref (a 8), .ref (a 15), .ref (a 17), .ref (a 22), .ref (a 23), .int 0, .int 0])), ((a 15), .inr (2, [.ref (a 16), .int 0]))] [] sz)) (va_Qi (fun (r : Int32) (_ : Unit) => (r = (-1))) (cB G (fun (_ : Unit) => []) (fun (_ : Unit) => []) (va_A [(h, .inr (10, [.ref (a 0), .ref (a 2), .ref (a 6), .ref (a 8), .ref (a 15), .ref (a 17), .ref (a 22), .ref (a 23), .int 0, .int 0])), ((a 15), .inr (2, [.ref (a 16), .int 0]))] sz)) (va_A [(h, .inr (10, [.ref (a 0), .ref (a 2), .ref (a 6), .ref (a 8), .ref (a 15), .ref (a 17), .ref (a 22), .ref (a 23), .int 0, .int 0])), ((a 15), .inr (2, [.ref (a 16), .int 0]))] sz)) 0 0 (va_A [(h, .inr (10, [.ref (a 0), .ref (a 2), .ref (a 6), .ref (a 8), .ref (a 15), .ref (a 17), .ref (a 22), .ref (a 23), .int 0, .int 0])), ((a 15), .inr (2, [.ref (a 16), .int 0]))] sz) := by
  refine ofC_i (cc := cX10_about) (maxL := 4) (ret := (some .int)) (by decide) rfl (Nat.le_of_ble_eq_true rfl) ?_
  intro p e s m args below meth c A ls Q F hr hin hlk St hl hQ
  have hx := F.1
  have hb := F.2.1
  have hl : lv_has ls 4 [(0, .ref h), (1, .int x1), (2, .int x2)] := hl
  have St : cS G k [(h, .inr (10, [.ref (a 0), .ref (a 2), .ref (a 6), .ref (a 8), .ref (a 15), .ref (a 17), .ref (a 22), .ref (a 23), .int 0, .int 0])), ((a 15), .inr (2, [.ref (a 16), .int 0]))] [] A s s.heap [] := St
  refine lv_aload_n hx hb dX10_about_0 rfl (lv_at hl 0 rfl) ?_
  refine cs_get F St 0 rfl rfl inX10 9 (by decide) kf_X10_106 rfl dX10_about_1 ?_
  refine lv_if_eq (tgt := 10) hx hb dX10_about_4 (by decide) (fun c4 => ?_) (fun c4 => ?_)
  rotate_left
  · exact absurd (by decide) c4
  refine lv_aload_n hx hb dX10_about_10 rfl (lv_at hl 0 rfl) ?_
  refine cs_get F St 0 rfl rfl inX10 4 (by decide) kf_X10_40 rfl dX10_about_11 ?_
  refine lv_iload_n hx hb dX10_about_14 rfl (lv_at hl 1 rfl) ?_
  refine cs_q St [1] [0] (wc := [((a 15), .inr (2, [.ref (a 16), .int 0]))]) (wr := [(h, .inr (10, [.ref (a 0), .ref (a 2), .ref (a 6), .ref (a 8), .ref (a 15), .ref (a 17), .ref (a 22), .ref (a 23), .int 0, .int 0]))]) rfl rfl (by decide) (by decide) (va_runV (As := [.int x1]) (rest := []) F (c2_at l G k _ (a 15) (a 16) x1) (cwVt F mf_X2_at km_X10_139 rfl rfl ⟨Nat.le_of_ble_eq_true rfl, Nat.le_of_ble_eq_true rfl⟩) (cs_preV St [1] rfl (by decide) [] rfl (ci := 2) (q0 := 1) rfl rfl) rfl rfl hl.1 rfl (lv_room (Nat.le_of_ble_eq_true rfl)) dX10_about_15 ⟨Nat.le_of_ble_eq_true rfl, Nat.le_of_ble_eq_true rfl⟩) (fun r_1 u_2 H locs hw St => ?_)
  try dsimp only at hw
  have z_3 := hw
  subst r_1
  have St : cS G k [(h, .inr (10, [.ref (a 0), .ref (a 2), .ref (a 6), .ref (a 8), .ref (a 15), .ref (a 17), .ref (a 22), .ref (a 23), .int 0, .int 0])), ((a 15), .inr (2, [.ref (a 16), .int 0]))] [] A s H locs := St
  show W _ _ _ _ _ _ _ _ _ _ _ _ _ _ _ (F0 m 18 ls [.null])
  refine lv_astore_nN (lv' := [(3, .null), (0, .ref h), (1, .int x1), (2, .int x2)]) hx hb dX10_about_18 rfl hl (by decide) rfl (fun ls hl => ?_)
  refine lv_aload_nN hx hb dX10_about_19 rfl (lv_at hl 0 rfl) ?_
  refine lv_ifnonnullN hx hb dX10_about_20 ?_
  refine lv_iconst (v := (-1)) hx hb dX10_about_23 (by decide) ?_
  exact cs_iret F hr hlk hQ St () (r := (-1)) rfl [] rfl (by decide) [] rfl (by decide) (by decide) dX10_about_24
set_option maxHeartbeats 4000000 in
set_option maxRecDepth 100000 in
/-- giver on a new object -/
theorem x_giver (l : Launch) (G : va_G) (k : Nat → Nat) (sz : Nat) (h : Nat) (a : Nat → Nat) (d : Nat → ClassId) (x1 : Int32) (x2 : Int32) : Met l yX10_giver (Cond.code yX10_giver cX10_giver 3 (some .int) :: tb) ({ frames := 2, cells := 0, slots := 0, locals := 41 } : Room) (va_Pc [.ref h, .int x1, .int x2] (cP G k [(h, .inr (10, [.ref (a 0), .ref (a 2), .ref (a 6), .ref (a 8), .ref (a 15), .ref (a 17), .ref (a 22), .ref (a 23), .int 0, .int 0])), ((a 8), .inr (0, [.ref (a 9), .ref (a 10), .ref (a 11), .ref (a 12), .ref (a 13), .ref (a 14)])), ((a 9), .inl ((d 4), 30, .inl (minus 30))), ((a 10), .inl ((d 5), 30, .inl (minus 30))), ((a 11), .inl ((d 6), 30, .inl (fun _ => 0))), ((a 17), .inr (5, [.ref (a 18), .ref (a 19), .ref (a 20), .ref (a 21), .int 0, .long 0]))] [((d 4), .int), ((d 5), .int), ((d 6), .boolean)] sz)) (va_Qi (fun (r : Int32) (_ : Unit) => ((r = 0) ∧ ((0 ≤ x1.toInt ∧ x1.toInt ≤ 29) ∧ (x2.toInt = 0 ∨ x2.toInt = 1 ∨ x2.toInt = 4))) ∨ ((r = (-1)) ∧ ((0 ≤ x1.toInt ∧ x1.toInt ≤ 29) ∧ (x2.toInt = 2 ∨ x2.toInt = 3))) ∨ ((r = (-2)) ∧ (¬ (0 ≤ x1.toInt ∧ x1.toInt ≤ 29) ∨ x2.toInt < 0 ∨ 4 < x2.toInt))) (cB G (fun (_ : Unit) => []) (fun (_ : Unit) => []) (va_A [(h, .inr (10, [.ref (a 0), .ref (a 2), .ref (a 6), .ref (a 8), .ref (a 15), .ref (a 17), .ref (a 22), .ref (a 23), .int 0, .int 0])), ((a 8), .inr (0, [.ref (a 9), .ref (a 10), .ref (a 11), .ref (a 12), .ref (a 13), .ref (a 14)])), ((a 9), .inl ((d 4), 30, .inl (minus 30))), ((a 10), .inl ((d 5), 30, .inl (minus 30))), ((a 11), .inl ((d 6), 30, .inl (fun _ => 0))), ((a 17), .inr (5, [.ref (a 18), .ref (a 19), .ref (a 20), .ref (a 21), .int 0, .long 0]))] sz)) (va_A [(h, .inr (10, [.ref (a 0), .ref (a 2), .ref (a 6), .ref (a 8), .ref (a 15), .ref (a 17), .ref (a 22), .ref (a 23), .int 0, .int 0])), ((a 8), .inr (0, [.ref (a 9), .ref (a 10), .ref (a 11), .ref (a 12), .ref (a 13), .ref (a 14)])), ((a 9), .inl ((d 4), 30, .inl (minus 30))), ((a 10), .inl ((d 5), 30, .inl (minus 30))), ((a 11), .inl ((d 6), 30, .inl (fun _ => 0))), ((a 17), .inr (5, [.ref (a 18), .ref (a 19), .ref (a 20), .ref (a 21), .int 0, .long 0]))] sz)) 0 0 (va_A [(h, .inr (10, [.ref (a 0), .ref (a 2), .ref (a 6), .ref (a 8), .ref (a 15), .ref (a 17), .ref (a 22), .ref (a 23), .int 0, .int 0])), ((a 8), .inr (0, [.ref (a 9), .ref (a 10), .ref (a 11), .ref (a 12), .ref (a 13), .ref (a 14)])), ((a 9), .inl ((d 4), 30, .inl (minus 30))), ((a 10), .inl ((d 5), 30, .inl (minus 30))), ((a 11), .inl ((d 6), 30, .inl (fun _ => 0))), ((a 17), .inr (5, [.ref (a 18), .ref (a 19), .ref (a 20), .ref (a 21), .int 0, .long 0]))] sz) := by
  refine ofC_i (cc := cX10_giver) (maxL := 3) (ret := (some .int)) (by decide) rfl (Nat.le_of_ble_eq_true rfl) ?_
  intro p e s m args below meth c A ls Q F hr hin hlk St hl hQ
  have hx := F.1
  have hb := F.2.1
  have hl : lv_has ls 3 [(0, .ref h), (1, .int x1), (2, .int x2)] := hl
  have St : cS G k [(h, .inr (10, [.ref (a 0), .ref (a 2), .ref (a 6), .ref (a 8), .ref (a 15), .ref (a 17), .ref (a 22), .ref (a 23), .int 0, .int 0])), ((a 8), .inr (0, [.ref (a 9), .ref (a 10), .ref (a 11), .ref (a 12), .ref (a 13), .ref (a 14)])), ((a 9), .inl ((d 4), 30, .inl (minus 30))), ((a 10), .inl ((d 5), 30, .inl (minus 30))), ((a 11), .inl ((d 6), 30, .inl (fun _ => 0))), ((a 17), .inr (5, [.ref (a 18), .ref (a 19), .ref (a 20), .ref (a 21), .int 0, .long 0]))] [((d 4), .int), ((d 5), .int), ((d 6), .boolean)] A s s.heap [] := St
  refine lv_iload_n hx hb dX10_giver_0 rfl (lv_at hl 1 rfl) ?_
  refine cs_i St [] [0, 1, 2, 3, 4, 5] (wc := []) (wr := [(h, .inr (10, [.ref (a 0), .ref (a 2), .ref (a 6), .ref (a 8), .ref (a 15), .ref (a 17), .ref (a 22), .ref (a 23), .int 0, .int 0])), ((a 8), .inr (0, [.ref (a 9), .ref (a 10), .ref (a 11), .ref (a 12), .ref (a 13), .ref (a 14)])), ((a 9), .inl ((d 4), 30, .inl (minus 30))), ((a 10), .inl ((d 5), 30, .inl (minus 30))), ((a 11), .inl ((d 6), 30, .inl (fun _ => 0))), ((a 17), .inr (5, [.ref (a 18), .ref (a 19), .ref (a 20), .ref (a 21), .int 0, .long 0]))]) rfl rfl (by decide) (by decide) (va_runS (As := [.int x1]) (rest := []) F (c10_isGiver l G k _ x1) (cwSt F mf_X10_isGiver km_X10_102 rfl rfl ⟨Nat.le_of_ble_eq_true rfl, Nat.le_of_ble_eq_true rfl⟩) (cs_pre St [] rfl (by decide) [] rfl) rfl rfl hl.1 rfl (lv_room (Nat.le_of_ble_eq_true rfl)) dX10_giver_1 ⟨Nat.le_of_ble_eq_true rfl, Nat.le_of_ble_eq_true rfl⟩) (fun r_1 u_2 H locs hw St => ?_)
  try dsimp only at hw
  rcases hw with ⟨z_3, hf_4⟩ | ⟨z_5, hf_6⟩
  ·
    subst r_1
    have St : cS G k [(h, .inr (10, [.ref (a 0), .ref (a 2), .ref (a 6), .ref (a 8), .ref (a 15), .ref (a 17), .ref (a 22), .ref (a 23), .int 0, .int 0])), ((a 8), .inr (0, [.ref (a 9), .ref (a 10), .ref (a 11), .ref (a 12), .ref (a 13), .ref (a 14)])), ((a 9), .inl ((d 4), 30, .inl (minus 30))), ((a 10), .inl ((d 5), 30, .inl (minus 30))), ((a 11), .inl ((d 6), 30, .inl (fun _ => 0))), ((a 17), .inr (5, [.ref (a 18), .ref (a 19), .ref (a 20), .ref (a 21), .int 0, .long 0]))] [((d 4), .int), ((d 5), .int), ((d 6), .boolean)] A s H locs := St
    refine lv_if_eq (tgt := 16) hx hb dX10_giver_4 (by decide) (fun c4 => ?_) (fun c4 => ?_)
    · exact absurd c4 (by decide)
    refine lv_iload_n hx hb dX10_giver_7 rfl (lv_at hl 2 rfl) ?_
    refine lv_iconst (v := 0) hx hb dX10_giver_8 (by decide) ?_
    refine lv_iconst (v := 4) hx hb dX10_giver_9 (by decide) ?_
    refine cs_i St [] [0, 1, 2, 3, 4, 5] (wc := []) (wr := [(h, .inr (10, [.ref (a 0), .ref (a 2), .ref (a 6), .ref (a 8), .ref (a 15), .ref (a 17), .ref (a 22), .ref (a 23), .int 0, .int 0])), ((a 8), .inr (0, [.ref (a 9), .ref (a 10), .ref (a 11), .ref (a 12), .ref (a 13), .ref (a 14)])), ((a 9), .inl ((d 4), 30, .inl (minus 30))), ((a 10), .inl ((d 5), 30, .inl (minus 30))), ((a 11), .inl ((d 6), 30, .inl (fun _ => 0))), ((a 17), .inr (5, [.ref (a 18), .ref (a 19), .ref (a 20), .ref (a 21), .int 0, .long 0]))]) rfl rfl (by decide) (by decide) (va_runS (As := [.int x2, .int 0, .int 4]) (rest := []) F (c10_isWithin l G k _ x2 0 4 0 4 (by decide) (by decide)) (cwSt F mf_X10_isWithin km_X10_119 rfl rfl ⟨Nat.le_of_ble_eq_true rfl, Nat.le_of_ble_eq_true rfl⟩) (cs_pre St [] rfl (by decide) [] rfl) rfl rfl hl.1 rfl (lv_room (Nat.le_of_ble_eq_true rfl)) dX10_giver_10 ⟨Nat.le_of_ble_eq_true rfl, Nat.le_of_ble_eq_true rfl⟩) (fun r_7 u_8 H locs hw St => ?_)
    try dsimp only at hw
    rcases hw with ⟨z_9, hf_10⟩ | ⟨z_11, hf_12⟩
    ·
      subst r_7
      have St : cS G k [(h, .inr (10, [.ref (a 0), .ref (a 2), .ref (a 6), .ref (a 8), .ref (a 15), .ref (a 17), .ref (a 22), .ref (a 23), .int 0, .int 0])), ((a 8), .inr (0, [.ref (a 9), .ref (a 10), .ref (a 11), .ref (a 12), .ref (a 13), .ref (a 14)])), ((a 9), .inl ((d 4), 30, .inl (minus 30))), ((a 10), .inl ((d 5), 30, .inl (minus 30))), ((a 11), .inl ((d 6), 30, .inl (fun _ => 0))), ((a 17), .inr (5, [.ref (a 18), .ref (a 19), .ref (a 20), .ref (a 21), .int 0, .long 0]))] [((d 4), .int), ((d 5), .int), ((d 6), .boolean)] A s H locs := St
      refine lv_if_ne (tgt := 19) hx hb dX10_giver_13 (by decide) (fun c13 => ?_) (fun c13 => ?_)
      rotate_left
      · exact absurd c13 (by decide)
      refine lv_aload_n hx hb dX10_giver_19 rfl (lv_at hl 0 rfl) ?_
      refine cs_get F St 0 rfl rfl inX10 9 (by decide) kf_X10_106 rfl dX10_giver_20 ?_
      refine lv_if_eq (tgt := 29) hx hb dX10_giver_23 (by decide) (fun c23 => ?_) (fun c23 => ?_)
      rotate_left
      · exact absurd (by decide) c23
      refine lv_iload_n hx hb dX10_giver_29 rfl (lv_at hl 2 rfl) ?_
      by_cases w30_0 : x2 = 0
      ·
        subst w30_0
        refine lv_tableIn (tgt := 60) (off := 30) hx hb dX10_giver_30 (by decide) (by decide) (by decide) (by decide) ?_
        refine lv_aload_n hx hb dX10_giver_60 rfl (lv_at hl 0 rfl) ?_
        refine cs_get F St 0 rfl rfl inX10 5 (by decide) kf_X10_47 rfl dX10_giver_61 ?_
        refine lv_iload_n hx hb dX10_giver_64 rfl (lv_at hl 1 rfl) ?_
        refine cs_i St [5] [0, 1, 2, 3, 4] (wc := [((a 17), .inr (5, [.ref (a 18), .ref (a 19), .ref (a 20), .ref (a 21), .int 0, .long 0]))]) (wr := [(h, .inr (10, [.ref (a 0), .ref (a 2), .ref (a 6), .ref (a 8), .ref (a 15), .ref (a 17), .ref (a 22), .ref (a 23), .int 0, .int 0])), ((a 8), .inr (0, [.ref (a 9), .ref (a 10), .ref (a 11), .ref (a 12), .ref (a 13), .ref (a 14)])), ((a 9), .inl ((d 4), 30, .inl (minus 30))), ((a 10), .inl ((d 5), 30, .inl (minus 30))), ((a 11), .inl ((d 6), 30, .inl (fun _ => 0)))]) rfl rfl (by decide) (by decide) (va_runV (As := [.int x1]) (rest := []) F (c5_givenBy l G k _ (a 17) (a 18) (a 19) (a 20) (a 21) x1) (cwVt F mf_X5_givenBy km_X10_200 rfl rfl ⟨Nat.le_of_ble_eq_true rfl, Nat.le_of_ble_eq_true rfl⟩) (cs_preV St [5] rfl (by decide) [] rfl (ci := 5) (q0 := 5) rfl rfl) rfl rfl hl.1 rfl (lv_room (Nat.le_of_ble_eq_true rfl)) dX10_giver_65 ⟨Nat.le_of_ble_eq_true rfl, Nat.le_of_ble_eq_true rfl⟩) (fun r_13 u_14 H locs hw St => ?_)
        try dsimp only at hw
        have z_15 := hw
        subst r_13
        have St : cS G k [(h, .inr (10, [.ref (a 0), .ref (a 2), .ref (a 6), .ref (a 8), .ref (a 15), .ref (a 17), .ref (a 22), .ref (a 23), .int 0, .int 0])), ((a 8), .inr (0, [.ref (a 9), .ref (a 10), .ref (a 11), .ref (a 12), .ref (a 13), .ref (a 14)])), ((a 9), .inl ((d 4), 30, .inl (minus 30))), ((a 10), .inl ((d 5), 30, .inl (minus 30))), ((a 11), .inl ((d 6), 30, .inl (fun _ => 0))), ((a 17), .inr (5, [.ref (a 18), .ref (a 19), .ref (a 20), .ref (a 21), .int 0, .long 0]))] [((d 4), .int), ((d 5), .int), ((d 6), .boolean)] A s H locs := St
        exact cs_iret F hr hlk hQ St () (r := 0) (Or.inl ⟨rfl, by rw [show (0 : Int32).toInt = 0 from by decide]; omega⟩) [] rfl (by decide) [] rfl (by decide) (by decide) dX10_giver_68
      by_cases w30_1 : x2 = 1
      ·
        subst w30_1
        refine lv_tableIn (tgt := 69) (off := 39) hx hb dX10_giver_30 (by decide) (by decide) (by decide) (by decide) ?_
        refine lv_aload_n hx hb dX10_giver_69 rfl (lv_at hl 0 rfl) ?_
        refine cs_get F St 0 rfl rfl inX10 5 (by decide) kf_X10_47 rfl dX10_giver_70 ?_
        refine lv_iload_n hx hb dX10_giver_73 rfl (lv_at hl 1 rfl) ?_
        refine cs_i St [5] [0, 1, 2, 3, 4] (wc := [((a 17), .inr (5, [.ref (a 18), .ref (a 19), .ref (a 20), .ref (a 21), .int 0, .long 0]))]) (wr := [(h, .inr (10, [.ref (a 0), .ref (a 2), .ref (a 6), .ref (a 8), .ref (a 15), .ref (a 17), .ref (a 22), .ref (a 23), .int 0, .int 0])), ((a 8), .inr (0, [.ref (a 9), .ref (a 10), .ref (a 11), .ref (a 12), .ref (a 13), .ref (a 14)])), ((a 9), .inl ((d 4), 30, .inl (minus 30))), ((a 10), .inl ((d 5), 30, .inl (minus 30))), ((a 11), .inl ((d 6), 30, .inl (fun _ => 0)))]) rfl rfl (by decide) (by decide) (va_runV (As := [.int x1]) (rest := []) F (c5_unclaimedOf l G k _ (a 17) (a 18) (a 19) (a 20) (a 21) x1) (cwVt F mf_X5_unclaimedOf km_X10_203 rfl rfl ⟨Nat.le_of_ble_eq_true rfl, Nat.le_of_ble_eq_true rfl⟩) (cs_preV St [5] rfl (by decide) [] rfl (ci := 5) (q0 := 5) rfl rfl) rfl rfl hl.1 rfl (lv_room (Nat.le_of_ble_eq_true rfl)) dX10_giver_74 ⟨Nat.le_of_ble_eq_true rfl, Nat.le_of_ble_eq_true rfl⟩) (fun r_16 u_17 H locs hw St => ?_)
        try dsimp only at hw
        have z_18 := hw
        subst r_16
        have St : cS G k [(h, .inr (10, [.ref (a 0), .ref (a 2), .ref (a 6), .ref (a 8), .ref (a 15), .ref (a 17), .ref (a 22), .ref (a 23), .int 0, .int 0])), ((a 8), .inr (0, [.ref (a 9), .ref (a 10), .ref (a 11), .ref (a 12), .ref (a 13), .ref (a 14)])), ((a 9), .inl ((d 4), 30, .inl (minus 30))), ((a 10), .inl ((d 5), 30, .inl (minus 30))), ((a 11), .inl ((d 6), 30, .inl (fun _ => 0))), ((a 17), .inr (5, [.ref (a 18), .ref (a 19), .ref (a 20), .ref (a 21), .int 0, .long 0]))] [((d 4), .int), ((d 5), .int), ((d 6), .boolean)] A s H locs := St
        exact cs_iret F hr hlk hQ St () (r := 0) (Or.inl ⟨rfl, by rw [show (1 : Int32).toInt = 1 from by decide]; omega⟩) [] rfl (by decide) [] rfl (by decide) (by decide) dX10_giver_77
      by_cases w30_2 : x2 = 2
      ·
        subst w30_2
        refine lv_tableIn (tgt := 78) (off := 48) hx hb dX10_giver_30 (by decide) (by decide) (by decide) (by decide) ?_
        refine lv_aload_n hx hb dX10_giver_78 rfl (lv_at hl 0 rfl) ?_
        refine cs_get F St 0 rfl rfl inX10 3 (by decide) kf_X10_33 rfl dX10_giver_79 ?_
        refine lv_iload_n hx hb dX10_giver_82 rfl (lv_at hl 1 rfl) ?_
        refine cs_i St [1, 2] [0, 3, 4, 5] (wc := [((a 8), .inr (0, [.ref (a 9), .ref (a 10), .ref (a 11), .ref (a 12), .ref (a 13), .ref (a 14)])), ((a 9), .inl ((d 4), 30, .inl (minus 30)))]) (wr := [(h, .inr (10, [.ref (a 0), .ref (a 2), .ref (a 6), .ref (a 8), .ref (a 15), .ref (a 17), .ref (a 22), .ref (a 23), .int 0, .int 0])), ((a 10), .inl ((d 5), 30, .inl (minus 30))), ((a 11), .inl ((d 6), 30, .inl (fun _ => 0))), ((a 17), .inr (5, [.ref (a 18), .ref (a 19), .ref (a 20), .ref (a 21), .int 0, .long 0]))]) rfl rfl (by decide) (by decide) (va_runV (As := [.int x1]) (rest := []) F (c0_declaredFrom l G k _ (a 8) (a 9) (a 10) (a 11) (a 12) (a 13) (a 14) (d 4) x1 (by omega)) (cwVt F mf_X0_declaredFrom km_X10_206 rfl rfl ⟨Nat.le_of_ble_eq_true rfl, Nat.le_of_ble_eq_true rfl⟩) (cs_preV St [1, 2] rfl (by decide) [0] rfl (ci := 0) (q0 := 1) rfl rfl) rfl rfl hl.1 rfl (lv_room (Nat.le_of_ble_eq_true rfl)) dX10_giver_83 ⟨Nat.le_of_ble_eq_true rfl, Nat.le_of_ble_eq_true rfl⟩) (fun r_19 u_20 H locs hw St => ?_)
        try dsimp only at hw
        have z_21 := hw
        subst r_19
        have St : cS G k [(h, .inr (10, [.ref (a 0), .ref (a 2), .ref (a 6), .ref (a 8), .ref (a 15), .ref (a 17), .ref (a 22), .ref (a 23), .int 0, .int 0])), ((a 10), .inl ((d 5), 30, .inl (minus 30))), ((a 11), .inl ((d 6), 30, .inl (fun _ => 0))), ((a 17), .inr (5, [.ref (a 18), .ref (a 19), .ref (a 20), .ref (a 21), .int 0, .long 0])), ((a 8), .inr (0, [.ref (a 9), .ref (a 10), .ref (a 11), .ref (a 12), .ref (a 13), .ref (a 14)])), ((a 9), .inl ((d 4), 30, .inl (minus 30)))] [((d 4), .int), ((d 5), .int), ((d 6), .boolean)] A s H locs := St
        exact cs_iret F hr hlk hQ St () (r := (-1)) (Or.inr (Or.inl ⟨rfl, by rw [show (2 : Int32).toInt = 2 from by decide]; omega⟩)) [] rfl (by decide) [] rfl (by decide) (by decide) dX10_giver_86
      by_cases w30_3 : x2 = 3
      ·
        subst w30_3
        refine lv_tableIn (tgt := 87) (off := 57) hx hb dX10_giver_30 (by decide) (by decide) (by decide) (by decide) ?_
        refine lv_aload_n hx hb dX10_giver_87 rfl (lv_at hl 0 rfl) ?_
        refine cs_get F St 0 rfl rfl inX10 3 (by decide) kf_X10_33 rfl dX10_giver_88 ?_
        refine lv_iload_n hx hb dX10_giver_91 rfl (lv_at hl 1 rfl) ?_
        refine cs_i St [1, 3] [0, 2, 4, 5] (wc := [((a 8), .inr (0, [.ref (a 9), .ref (a 10), .ref (a 11), .ref (a 12), .ref (a 13), .ref (a 14)])), ((a 10), .inl ((d 5), 30, .inl (minus 30)))]) (wr := [(h, .inr (10, [.ref (a 0), .ref (a 2), .ref (a 6), .ref (a 8), .ref (a 15), .ref (a 17), .ref (a 22), .ref (a 23), .int 0, .int 0])), ((a 9), .inl ((d 4), 30, .inl (minus 30))), ((a 11), .inl ((d 6), 30, .inl (fun _ => 0))), ((a 17), .inr (5, [.ref (a 18), .ref (a 19), .ref (a 20), .ref (a 21), .int 0, .long 0]))]) rfl rfl (by decide) (by decide) (va_runV (As := [.int x1]) (rest := []) F (c0_declaredTo l G k _ (a 8) (a 9) (a 10) (a 11) (a 12) (a 13) (a 14) (d 5) x1 (by omega)) (cwVt F mf_X0_declaredTo km_X10_209 rfl rfl ⟨Nat.le_of_ble_eq_true rfl, Nat.le_of_ble_eq_true rfl⟩) (cs_preV St [1, 3] rfl (by decide) [1] rfl (ci := 0) (q0 := 1) rfl rfl) rfl rfl hl.1 rfl (lv_room (Nat.le_of_ble_eq_true rfl)) dX10_giver_92 ⟨Nat.le_of_ble_eq_true rfl, Nat.le_of_ble_eq_true rfl⟩) (fun r_22 u_23 H locs hw St => ?_)
        try dsimp only at hw
        have z_24 := hw
        subst r_22
        have St : cS G k [(h, .inr (10, [.ref (a 0), .ref (a 2), .ref (a 6), .ref (a 8), .ref (a 15), .ref (a 17), .ref (a 22), .ref (a 23), .int 0, .int 0])), ((a 9), .inl ((d 4), 30, .inl (minus 30))), ((a 11), .inl ((d 6), 30, .inl (fun _ => 0))), ((a 17), .inr (5, [.ref (a 18), .ref (a 19), .ref (a 20), .ref (a 21), .int 0, .long 0])), ((a 8), .inr (0, [.ref (a 9), .ref (a 10), .ref (a 11), .ref (a 12), .ref (a 13), .ref (a 14)])), ((a 10), .inl ((d 5), 30, .inl (minus 30)))] [((d 4), .int), ((d 5), .int), ((d 6), .boolean)] A s H locs := St
        exact cs_iret F hr hlk hQ St () (r := (-1)) (Or.inr (Or.inl ⟨rfl, by rw [show (3 : Int32).toInt = 3 from by decide]; omega⟩)) [] rfl (by decide) [] rfl (by decide) (by decide) dX10_giver_95
      have iw30_0 := lv_neT w30_0 (show (0 : Int32).toInt = 0 by decide)
      have iw30_1 := lv_neT w30_1 (show (1 : Int32).toInt = 1 by decide)
      have iw30_2 := lv_neT w30_2 (show (2 : Int32).toInt = 2 by decide)
      have iw30_3 := lv_neT w30_3 (show (3 : Int32).toInt = 3 by decide)
      refine lv_tableOut (tgt := 96) hx hb dX10_giver_30 (by omega) (by decide) ?_
      refine lv_aload_n hx hb dX10_giver_96 rfl (lv_at hl 0 rfl) ?_
      refine cs_get F St 0 rfl rfl inX10 3 (by decide) kf_X10_33 rfl dX10_giver_97 ?_
      refine lv_iload_n hx hb dX10_giver_100 rfl (lv_at hl 1 rfl) ?_
      refine cs_i St [1, 4] [0, 2, 3, 5] (wc := [((a 8), .inr (0, [.ref (a 9), .ref (a 10), .ref (a 11), .ref (a 12), .ref (a 13), .ref (a 14)])), ((a 11), .inl ((d 6), 30, .inl (fun _ => 0)))]) (wr := [(h, .inr (10, [.ref (a 0), .ref (a 2), .ref (a 6), .ref (a 8), .ref (a 15), .ref (a 17), .ref (a 22), .ref (a 23), .int 0, .int 0])), ((a 9), .inl ((d 4), 30, .inl (minus 30))), ((a 10), .inl ((d 5), 30, .inl (minus 30))), ((a 17), .inr (5, [.ref (a 18), .ref (a 19), .ref (a 20), .ref (a 21), .int 0, .long 0]))]) rfl rfl (by decide) (by decide) (va_runV (As := [.int x1]) (rest := []) F (c0_isWithoutName l G k _ (a 8) (a 9) (a 10) (a 11) (a 12) (a 13) (a 14) (d 6) x1 (by omega)) (cwVt F mf_X0_isWithoutName km_X10_212 rfl rfl ⟨Nat.le_of_ble_eq_true rfl, Nat.le_of_ble_eq_true rfl⟩) (cs_preV St [1, 4] rfl (by decide) [2] rfl (ci := 0) (q0 := 1) rfl rfl) rfl rfl hl.1 rfl (lv_room (Nat.le_of_ble_eq_true rfl)) dX10_giver_101 ⟨Nat.le_of_ble_eq_true rfl, Nat.le_of_ble_eq_true rfl⟩) (fun r_25 u_26 H locs hw St => ?_)
      try dsimp only at hw
      have z_27 := hw
      subst r_25
      have St : cS G k [(h, .inr (10, [.ref (a 0), .ref (a 2), .ref (a 6), .ref (a 8), .ref (a 15), .ref (a 17), .ref (a 22), .ref (a 23), .int 0, .int 0])), ((a 9), .inl ((d 4), 30, .inl (minus 30))), ((a 10), .inl ((d 5), 30, .inl (minus 30))), ((a 17), .inr (5, [.ref (a 18), .ref (a 19), .ref (a 20), .ref (a 21), .int 0, .long 0])), ((a 8), .inr (0, [.ref (a 9), .ref (a 10), .ref (a 11), .ref (a 12), .ref (a 13), .ref (a 14)])), ((a 11), .inl ((d 6), 30, .inl (fun _ => 0)))] [((d 4), .int), ((d 5), .int), ((d 6), .boolean)] A s H locs := St
      refine lv_if_eq (tgt := 111) hx hb dX10_giver_104 (by decide) (fun c104 => ?_) (fun c104 => ?_)
      rotate_left
      · exact absurd (by decide) c104
      refine lv_iconst (v := 0) hx hb dX10_giver_111 (by decide) ?_
      exact cs_iret F hr hlk hQ St () (r := 0) (Or.inl ⟨rfl, by omega⟩) [] rfl (by decide) [] rfl (by decide) (by decide) dX10_giver_112
    ·
      subst r_7
      have St : cS G k [(h, .inr (10, [.ref (a 0), .ref (a 2), .ref (a 6), .ref (a 8), .ref (a 15), .ref (a 17), .ref (a 22), .ref (a 23), .int 0, .int 0])), ((a 8), .inr (0, [.ref (a 9), .ref (a 10), .ref (a 11), .ref (a 12), .ref (a 13), .ref (a 14)])), ((a 9), .inl ((d 4), 30, .inl (minus 30))), ((a 10), .inl ((d 5), 30, .inl (minus 30))), ((a 11), .inl ((d 6), 30, .inl (fun _ => 0))), ((a 17), .inr (5, [.ref (a 18), .ref (a 19), .ref (a 20), .ref (a 21), .int 0, .long 0]))] [((d 4), .int), ((d 5), .int), ((d 6), .boolean)] A s H locs := St
      refine lv_if_ne (tgt := 19) hx hb dX10_giver_13 (by decide) (fun c13 => ?_) (fun c13 => ?_)
      · exact absurd c13 (by decide)
      refine lv_bipush (v := (-2)) hx hb dX10_giver_16 (by decide) ?_
      exact cs_iret F hr hlk hQ St () (r := (-2)) (Or.inr (Or.inr ⟨rfl, by omega⟩)) [] rfl (by decide) [] rfl (by decide) (by decide) dX10_giver_18
  ·
    subst r_1
    have St : cS G k [(h, .inr (10, [.ref (a 0), .ref (a 2), .ref (a 6), .ref (a 8), .ref (a 15), .ref (a 17), .ref (a 22), .ref (a 23), .int 0, .int 0])), ((a 8), .inr (0, [.ref (a 9), .ref (a 10), .ref (a 11), .ref (a 12), .ref (a 13), .ref (a 14)])), ((a 9), .inl ((d 4), 30, .inl (minus 30))), ((a 10), .inl ((d 5), 30, .inl (minus 30))), ((a 11), .inl ((d 6), 30, .inl (fun _ => 0))), ((a 17), .inr (5, [.ref (a 18), .ref (a 19), .ref (a 20), .ref (a 21), .int 0, .long 0]))] [((d 4), .int), ((d 5), .int), ((d 6), .boolean)] A s H locs := St
    refine lv_if_eq (tgt := 16) hx hb dX10_giver_4 (by decide) (fun c4 => ?_) (fun c4 => ?_)
    rotate_left
    · exact absurd (by decide) c4
    refine lv_bipush (v := (-2)) hx hb dX10_giver_16 (by decide) ?_
    exact cs_iret F hr hlk hQ St () (r := (-2)) (Or.inr (Or.inr ⟨rfl, by omega⟩)) [] rfl (by decide) [] rfl (by decide) (by decide) dX10_giver_18
set_option maxHeartbeats 4000000 in
set_option maxRecDepth 100000 in
/-- stage on a new object -/
theorem x_stage (l : Launch) (G : va_G) (k : Nat → Nat) (sz : Nat) (h : Nat) (a : Nat → Nat) (d : Nat → ClassId) (x1 : Int32) (x2 : Int32) : Met l yX10_stage (Cond.code yX10_stage cX10_stage 3 (some .int) :: tb) ({ frames := 2, cells := 1, slots := 6, locals := 42 } : Room) (va_Pc [.ref h, .int x1, .int x2] (cP G k [(h, .inr (10, [.ref (a 0), .ref (a 2), .ref (a 6), .ref (a 8), .ref (a 15), .ref (a 17), .ref (a 22), .ref (a 23), .int 0, .int 0])), ((a 23), .inr (7, [.ref (a 24), .int 0, .int 0])), ((a 24), .inl ((d 15), 8, .inr (.inr (.inr (.inr (fun _ => none))))))] [((d 15), .object "TowerAppeal$Stage")] sz)) (va_Qi (fun (r : Int32) (_ : Unit) => ((r = 0) ∧ ((1 ≤ x1.toInt ∧ x1.toInt ≤ 100000000) ∧ 1 ≤ x2.toInt ∧ x2.toInt ≤ 24)) ∨ ((r = (-2)) ∧ (¬ ((1 ≤ x1.toInt ∧ x1.toInt ≤ 100000000) ∧ 1 ≤ x2.toInt ∧ x2.toInt ≤ 24)))) (cB G (fun (_ : Unit) => []) (fun (_ : Unit) => []) (va_A [(h, .inr (10, [.ref (a 0), .ref (a 2), .ref (a 6), .ref (a 8), .ref (a 15), .ref (a 17), .ref (a 22), .ref (a 23), .int 0, .int 0])), ((a 23), .inr (7, [.ref (a 24), .int 0, .int 0])), ((a 24), .inl ((d 15), 8, .inr (.inr (.inr (.inr (fun _ => none))))))] sz)) (va_A [(h, .inr (10, [.ref (a 0), .ref (a 2), .ref (a 6), .ref (a 8), .ref (a 15), .ref (a 17), .ref (a 22), .ref (a 23), .int 0, .int 0])), ((a 23), .inr (7, [.ref (a 24), .int 0, .int 0])), ((a 24), .inl ((d 15), 8, .inr (.inr (.inr (.inr (fun _ => none))))))] sz)) 1 6 (va_A [(h, .inr (10, [.ref (a 0), .ref (a 2), .ref (a 6), .ref (a 8), .ref (a 15), .ref (a 17), .ref (a 22), .ref (a 23), .int 0, .int 0])), ((a 23), .inr (7, [.ref (a 24), .int 0, .int 0])), ((a 24), .inl ((d 15), 8, .inr (.inr (.inr (.inr (fun _ => none))))))] sz) := by
  refine ofC_i (cc := cX10_stage) (maxL := 3) (ret := (some .int)) (by decide) rfl (Nat.le_of_ble_eq_true rfl) ?_
  intro p e s m args below meth c A ls Q F hr hin hlk St hl hQ
  have hx := F.1
  have hb := F.2.1
  have hl : lv_has ls 3 [(0, .ref h), (1, .int x1), (2, .int x2)] := hl
  have St : cS G k [(h, .inr (10, [.ref (a 0), .ref (a 2), .ref (a 6), .ref (a 8), .ref (a 15), .ref (a 17), .ref (a 22), .ref (a 23), .int 0, .int 0])), ((a 23), .inr (7, [.ref (a 24), .int 0, .int 0])), ((a 24), .inl ((d 15), 8, .inr (.inr (.inr (.inr (fun _ => none))))))] [((d 15), .object "TowerAppeal$Stage")] A s s.heap [] := St
  refine lv_iload_n hx hb dX10_stage_0 rfl (lv_at hl 1 rfl) ?_
  refine lv_iconst (v := 1) hx hb dX10_stage_1 (by decide) ?_
  refine lv_ldc (v := 100000000) hx hb F.2.2.2.1 (F.2.2.2.2 _ kk_X10_215) dX10_stage_2 ?_
  refine cs_i St [] [0, 1, 2] (wc := []) (wr := [(h, .inr (10, [.ref (a 0), .ref (a 2), .ref (a 6), .ref (a 8), .ref (a 15), .ref (a 17), .ref (a 22), .ref (a 23), .int 0, .int 0])), ((a 23), .inr (7, [.ref (a 24), .int 0, .int 0])), ((a 24), .inl ((d 15), 8, .inr (.inr (.inr (.inr (fun _ => none))))))]) rfl rfl (by decide) (by decide) (va_runS (As := [.int x1, .int 1, .int 100000000]) (rest := []) F (c10_isWithin l G k _ x1 1 100000000 1 100000000 (by decide) (by decide)) (cwSt F mf_X10_isWithin km_X10_119 rfl rfl ⟨Nat.le_of_ble_eq_true rfl, Nat.le_of_ble_eq_true rfl⟩) (cs_pre St [] rfl (by decide) [] rfl) rfl rfl hl.1 rfl (lv_room (Nat.le_of_ble_eq_true rfl)) dX10_stage_4 ⟨Nat.le_of_ble_eq_true rfl, Nat.le_of_ble_eq_true rfl⟩) (fun r_1 u_2 H locs hw St => ?_)
  try dsimp only at hw
  rcases hw with ⟨z_3, hf_4⟩ | ⟨z_5, hf_6⟩
  ·
    subst r_1
    have St : cS G k [(h, .inr (10, [.ref (a 0), .ref (a 2), .ref (a 6), .ref (a 8), .ref (a 15), .ref (a 17), .ref (a 22), .ref (a 23), .int 0, .int 0])), ((a 23), .inr (7, [.ref (a 24), .int 0, .int 0])), ((a 24), .inl ((d 15), 8, .inr (.inr (.inr (.inr (fun _ => none))))))] [((d 15), .object "TowerAppeal$Stage")] A s H locs := St
    refine lv_if_eq (tgt := 20) hx hb dX10_stage_7 (by decide) (fun c7 => ?_) (fun c7 => ?_)
    · exact absurd c7 (by decide)
    refine lv_iload_n hx hb dX10_stage_10 rfl (lv_at hl 2 rfl) ?_
    refine lv_iconst (v := 1) hx hb dX10_stage_11 (by decide) ?_
    refine lv_bipush (v := 24) hx hb dX10_stage_12 (by decide) ?_
    refine cs_i St [] [0, 1, 2] (wc := []) (wr := [(h, .inr (10, [.ref (a 0), .ref (a 2), .ref (a 6), .ref (a 8), .ref (a 15), .ref (a 17), .ref (a 22), .ref (a 23), .int 0, .int 0])), ((a 23), .inr (7, [.ref (a 24), .int 0, .int 0])), ((a 24), .inl ((d 15), 8, .inr (.inr (.inr (.inr (fun _ => none))))))]) rfl rfl (by decide) (by decide) (va_runS (As := [.int x2, .int 1, .int 24]) (rest := []) F (c10_isWithin l G k _ x2 1 24 1 24 (by decide) (by decide)) (cwSt F mf_X10_isWithin km_X10_119 rfl rfl ⟨Nat.le_of_ble_eq_true rfl, Nat.le_of_ble_eq_true rfl⟩) (cs_pre St [] rfl (by decide) [] rfl) rfl rfl hl.1 rfl (lv_room (Nat.le_of_ble_eq_true rfl)) dX10_stage_14 ⟨Nat.le_of_ble_eq_true rfl, Nat.le_of_ble_eq_true rfl⟩) (fun r_7 u_8 H locs hw St => ?_)
    try dsimp only at hw
    rcases hw with ⟨z_9, hf_10⟩ | ⟨z_11, hf_12⟩
    ·
      subst r_7
      have St : cS G k [(h, .inr (10, [.ref (a 0), .ref (a 2), .ref (a 6), .ref (a 8), .ref (a 15), .ref (a 17), .ref (a 22), .ref (a 23), .int 0, .int 0])), ((a 23), .inr (7, [.ref (a 24), .int 0, .int 0])), ((a 24), .inl ((d 15), 8, .inr (.inr (.inr (.inr (fun _ => none))))))] [((d 15), .object "TowerAppeal$Stage")] A s H locs := St
      refine lv_if_ne (tgt := 23) hx hb dX10_stage_17 (by decide) (fun c17 => ?_) (fun c17 => ?_)
      rotate_left
      · exact absurd c17 (by decide)
      refine lv_aload_n hx hb dX10_stage_23 rfl (lv_at hl 0 rfl) ?_
      refine cs_get F St 0 rfl rfl inX10 9 (by decide) kf_X10_106 rfl dX10_stage_24 ?_
      refine lv_if_eq (tgt := 33) hx hb dX10_stage_27 (by decide) (fun c27 => ?_) (fun c27 => ?_)
      rotate_left
      · exact absurd (by decide) c27
      refine lv_aload_n hx hb dX10_stage_33 rfl (lv_at hl 0 rfl) ?_
      refine cs_get F St 0 rfl rfl inX10 7 (by decide) kf_X10_61 rfl dX10_stage_34 ?_
      refine cs_i St [1] [0, 2] (wc := [((a 23), .inr (7, [.ref (a 24), .int 0, .int 0]))]) (wr := [(h, .inr (10, [.ref (a 0), .ref (a 2), .ref (a 6), .ref (a 8), .ref (a 15), .ref (a 17), .ref (a 22), .ref (a 23), .int 0, .int 0])), ((a 24), .inl ((d 15), 8, .inr (.inr (.inr (.inr (fun _ => none))))))]) rfl rfl (by decide) (by decide) (va_runV (As := []) (rest := []) F (c7_isFull l G k _ (a 23) (a 24)) (cwVt F mf_X7_isFull km_X10_216 rfl rfl ⟨Nat.le_of_ble_eq_true rfl, Nat.le_of_ble_eq_true rfl⟩) (cs_preV St [1] rfl (by decide) [] rfl (ci := 7) (q0 := 1) rfl rfl) rfl rfl hl.1 rfl (lv_room (Nat.le_of_ble_eq_true rfl)) dX10_stage_37 ⟨Nat.le_of_ble_eq_true rfl, Nat.le_of_ble_eq_true rfl⟩) (fun r_13 u_14 H locs hw St => ?_)
      try dsimp only at hw
      have z_15 := hw
      subst r_13
      have St : cS G k [(h, .inr (10, [.ref (a 0), .ref (a 2), .ref (a 6), .ref (a 8), .ref (a 15), .ref (a 17), .ref (a 22), .ref (a 23), .int 0, .int 0])), ((a 24), .inl ((d 15), 8, .inr (.inr (.inr (.inr (fun _ => none)))))), ((a 23), .inr (7, [.ref (a 24), .int 0, .int 0]))] [((d 15), .object "TowerAppeal$Stage")] A s H locs := St
      refine lv_if_eq (tgt := 48) hx hb dX10_stage_40 (by decide) (fun c40 => ?_) (fun c40 => ?_)
      rotate_left
      · exact absurd (by decide) c40
      refine lv_aload_n hx hb dX10_stage_48 rfl (lv_at hl 0 rfl) ?_
      refine cs_get F St 0 rfl rfl inX10 7 (by decide) kf_X10_61 rfl dX10_stage_49 ?_
      refine cs_new F St (ci := 4) rfl inX4 tyX4_ok kc_X10_217 kn_X4 ki_X4 (fs := [.int 0, .int 0, .int 0, .int 0, .int 0, .int 0]) (by decide +kernel) (Nat.le_of_ble_eq_true rfl) (Nat.le_of_ble_eq_true rfl) dX10_stage_52 (fun q_16 H St => ?_)
      refine W.widen (k := 1) (n := 6) (by decide) (by decide) ?_
      have St : cS G k [(h, .inr (10, [.ref (a 0), .ref (a 2), .ref (a 6), .ref (a 8), .ref (a 15), .ref (a 17), .ref (a 22), .ref (a 23), .int 0, .int 0])), ((a 24), .inl ((d 15), 8, .inr (.inr (.inr (.inr (fun _ => none)))))), ((a 23), .inr (7, [.ref (a 24), .int 0, .int 0])), (q_16, .inr (4, [.int 0, .int 0, .int 0, .int 0, .int 0, .int 0]))] [((d 15), .object "TowerAppeal$Stage")] A s H _ := St
      refine lv_dup hx hb dX10_stage_55 rfl ?_
      refine lv_iload_n hx hb dX10_stage_56 rfl (lv_at hl 1 rfl) ?_
      refine lv_iload_n hx hb dX10_stage_57 rfl (lv_at hl 2 rfl) ?_
      refine cs_v St [3] [0, 1, 2] (wc := [(q_16, .inr (4, [.int 0, .int 0, .int 0, .int 0, .int 0, .int 0]))]) (wr := [(h, .inr (10, [.ref (a 0), .ref (a 2), .ref (a 6), .ref (a 8), .ref (a 15), .ref (a 17), .ref (a 22), .ref (a 23), .int 0, .int 0])), ((a 24), .inl ((d 15), 8, .inr (.inr (.inr (.inr (fun _ => none)))))), ((a 23), .inr (7, [.ref (a 24), .int 0, .int 0]))]) rfl rfl (by decide) (by decide) (va_runI (As := [.int x1, .int x2]) (rest := [.ref q_16, .ref (a 23)]) F (c4_init l G k _ q_16 x1 x2) (cwIt F mf_X4_init km_X10_219 rfl rfl ⟨Nat.le_of_ble_eq_true rfl, Nat.le_of_ble_eq_true rfl⟩) (cs_pre St [3] rfl (by decide) [] rfl) rfl rfl hl.1 rfl (lv_room (Nat.le_of_ble_eq_true rfl)) dX10_stage_58 ⟨Nat.le_of_ble_eq_true rfl, Nat.le_of_ble_eq_true rfl⟩) (fun u_18 H locs hw St => ?_)
      try dsimp only at hw
      have St : cS G k [(h, .inr (10, [.ref (a 0), .ref (a 2), .ref (a 6), .ref (a 8), .ref (a 15), .ref (a 17), .ref (a 22), .ref (a 23), .int 0, .int 0])), ((a 24), .inl ((d 15), 8, .inr (.inr (.inr (.inr (fun _ => none)))))), ((a 23), .inr (7, [.ref (a 24), .int 0, .int 0])), (q_16, .inr (4, [.int x1, .int x2, .int 0, .int 0, .int 0, .int 0]))] [((d 15), .object "TowerAppeal$Stage")] A s H locs := St
      refine cs_i St [2, 1, 3] [0] (wc := [((a 23), .inr (7, [.ref (a 24), .int 0, .int 0])), ((a 24), .inl ((d 15), 8, .inr (.inr (.inr (.inr (fun _ => none)))))), (q_16, .inr (4, [.int x1, .int x2, .int 0, .int 0, .int 0, .int 0]))]) (wr := [(h, .inr (10, [.ref (a 0), .ref (a 2), .ref (a 6), .ref (a 8), .ref (a 15), .ref (a 17), .ref (a 22), .ref (a 23), .int 0, .int 0]))]) rfl rfl (by decide) (by decide) (va_runV (As := [.ref q_16]) (rest := []) F (c7_add l G k _ (a 23) (a 24) (d 15) q_16 x1 x2) (cwVt F mf_X7_add km_X10_221 rfl rfl ⟨Nat.le_of_ble_eq_true rfl, Nat.le_of_ble_eq_true rfl⟩) (cs_preV St [2, 1, 3] rfl (by decide) [0] rfl (ci := 7) (q0 := 2) rfl rfl) rfl rfl hl.1 rfl (lv_room (Nat.le_of_ble_eq_true rfl)) dX10_stage_61 ⟨Nat.le_of_ble_eq_true rfl, Nat.le_of_ble_eq_true rfl⟩) (fun r_19 u_20 H locs hw St => ?_)
      try dsimp only at hw
      have z_21 := hw
      subst r_19
      have St : cS G k [(h, .inr (10, [.ref (a 0), .ref (a 2), .ref (a 6), .ref (a 8), .ref (a 15), .ref (a 17), .ref (a 22), .ref (a 23), .int 0, .int 0]))] [((d 15), .object "TowerAppeal$Stage")] A s H locs := St
      exact cs_iret F hr hlk hQ St () (r := 0) (Or.inl ⟨rfl, by omega⟩) [] rfl (by decide) [] rfl (by decide) (by decide) dX10_stage_64
    ·
      subst r_7
      have St : cS G k [(h, .inr (10, [.ref (a 0), .ref (a 2), .ref (a 6), .ref (a 8), .ref (a 15), .ref (a 17), .ref (a 22), .ref (a 23), .int 0, .int 0])), ((a 23), .inr (7, [.ref (a 24), .int 0, .int 0])), ((a 24), .inl ((d 15), 8, .inr (.inr (.inr (.inr (fun _ => none))))))] [((d 15), .object "TowerAppeal$Stage")] A s H locs := St
      refine lv_if_ne (tgt := 23) hx hb dX10_stage_17 (by decide) (fun c17 => ?_) (fun c17 => ?_)
      · exact absurd c17 (by decide)
      refine lv_bipush (v := (-2)) hx hb dX10_stage_20 (by decide) ?_
      exact cs_iret F hr hlk hQ St () (r := (-2)) (Or.inr ⟨rfl, by omega⟩) [] rfl (by decide) [] rfl (by decide) (by decide) dX10_stage_22
  ·
    subst r_1
    have St : cS G k [(h, .inr (10, [.ref (a 0), .ref (a 2), .ref (a 6), .ref (a 8), .ref (a 15), .ref (a 17), .ref (a 22), .ref (a 23), .int 0, .int 0])), ((a 23), .inr (7, [.ref (a 24), .int 0, .int 0])), ((a 24), .inl ((d 15), 8, .inr (.inr (.inr (.inr (fun _ => none))))))] [((d 15), .object "TowerAppeal$Stage")] A s H locs := St
    refine lv_if_eq (tgt := 20) hx hb dX10_stage_7 (by decide) (fun c7 => ?_) (fun c7 => ?_)
    rotate_left
    · exact absurd (by decide) c7
    refine lv_bipush (v := (-2)) hx hb dX10_stage_20 (by decide) ?_
    exact cs_iret F hr hlk hQ St () (r := (-2)) (Or.inr ⟨rfl, by omega⟩) [] rfl (by decide) [] rfl (by decide) (by decide) dX10_stage_22
set_option maxHeartbeats 4000000 in
set_option maxRecDepth 100000 in
/-- begin on a new object -/
theorem x_begin (l : Launch) (G : va_G) (k : Nat → Nat) (sz : Nat) (h : Nat) (a : Nat → Nat) (d : Nat → ClassId) : Met l yX10_begin (Cond.code yX10_begin cX10_begin 1 (some .int) :: tb) ({ frames := 3, cells := 0, slots := 0, locals := 62 } : Room) (va_Pc [.ref h] (cP G k [(h, .inr (10, [.ref (a 0), .ref (a 2), .ref (a 6), .ref (a 8), .ref (a 15), .ref (a 17), .ref (a 22), .ref (a 23), .int 0, .int 0])), ((a 23), .inr (7, [.ref (a 24), .int 0, .int 0]))] [] sz)) (va_Qi (fun (r : Int32) (_ : Unit) => (r = (-4))) (cB G (fun (_ : Unit) => []) (fun (_ : Unit) => []) (va_A [(h, .inr (10, [.ref (a 0), .ref (a 2), .ref (a 6), .ref (a 8), .ref (a 15), .ref (a 17), .ref (a 22), .ref (a 23), .int 0, .int 0])), ((a 23), .inr (7, [.ref (a 24), .int 0, .int 0]))] sz)) (va_A [(h, .inr (10, [.ref (a 0), .ref (a 2), .ref (a 6), .ref (a 8), .ref (a 15), .ref (a 17), .ref (a 22), .ref (a 23), .int 0, .int 0])), ((a 23), .inr (7, [.ref (a 24), .int 0, .int 0]))] sz)) 0 0 (va_A [(h, .inr (10, [.ref (a 0), .ref (a 2), .ref (a 6), .ref (a 8), .ref (a 15), .ref (a 17), .ref (a 22), .ref (a 23), .int 0, .int 0])), ((a 23), .inr (7, [.ref (a 24), .int 0, .int 0]))] sz) := by
  refine ofC_i (cc := cX10_begin) (maxL := 1) (ret := (some .int)) (by decide) rfl (Nat.le_of_ble_eq_true rfl) ?_
  intro p e s m args below meth c A ls Q F hr hin hlk St hl hQ
  have hx := F.1
  have hb := F.2.1
  have hl : lv_has ls 1 [(0, .ref h)] := hl
  have St : cS G k [(h, .inr (10, [.ref (a 0), .ref (a 2), .ref (a 6), .ref (a 8), .ref (a 15), .ref (a 17), .ref (a 22), .ref (a 23), .int 0, .int 0])), ((a 23), .inr (7, [.ref (a 24), .int 0, .int 0]))] [] A s s.heap [] := St
  refine lv_aload_n hx hb dX10_begin_0 rfl (lv_at hl 0 rfl) ?_
  refine cs_get F St 0 rfl rfl inX10 9 (by decide) kf_X10_106 rfl dX10_begin_1 ?_
  refine lv_if_ne (tgt := 17) hx hb dX10_begin_4 (by decide) (fun c4 => ?_) (fun c4 => ?_)
  · exact absurd c4 (by decide)
  refine lv_aload_n hx hb dX10_begin_7 rfl (lv_at hl 0 rfl) ?_
  refine cs_get F St 0 rfl rfl inX10 7 (by decide) kf_X10_61 rfl dX10_begin_8 ?_
  refine cs_i St [1] [0] (wc := [((a 23), .inr (7, [.ref (a 24), .int 0, .int 0]))]) (wr := [(h, .inr (10, [.ref (a 0), .ref (a 2), .ref (a 6), .ref (a 8), .ref (a 15), .ref (a 17), .ref (a 22), .ref (a 23), .int 0, .int 0]))]) rfl rfl (by decide) (by decide) (va_runV (As := []) (rest := []) F (c7_mayStartNext l G k _ (a 23) (a 24)) (cwVt F mf_X7_mayStartNext km_X10_224 rfl rfl ⟨Nat.le_of_ble_eq_true rfl, Nat.le_of_ble_eq_true rfl⟩) (cs_preV St [1] rfl (by decide) [] rfl (ci := 7) (q0 := 1) rfl rfl) rfl rfl hl.1 rfl (lv_room (Nat.le_of_ble_eq_true rfl)) dX10_begin_11 ⟨Nat.le_of_ble_eq_true rfl, Nat.le_of_ble_eq_true rfl⟩) (fun r_1 u_2 H locs hw St => ?_)
  try dsimp only at hw
  have z_3 := hw
  subst r_1
  have St : cS G k [(h, .inr (10, [.ref (a 0), .ref (a 2), .ref (a 6), .ref (a 8), .ref (a 15), .ref (a 17), .ref (a 22), .ref (a 23), .int 0, .int 0])), ((a 23), .inr (7, [.ref (a 24), .int 0, .int 0]))] [] A s H locs := St
  refine lv_if_ne (tgt := 20) hx hb dX10_begin_14 (by decide) (fun c14 => ?_) (fun c14 => ?_)
  · exact absurd c14 (by decide)
  refine lv_bipush (v := (-4)) hx hb dX10_begin_17 (by decide) ?_
  exact cs_iret F hr hlk hQ St () (r := (-4)) rfl [] rfl (by decide) [] rfl (by decide) (by decide) dX10_begin_19
set_option maxHeartbeats 4000000 in
set_option maxRecDepth 100000 in
/-- built on a new object -/
theorem x_built (l : Launch) (G : va_G) (k : Nat → Nat) (sz : Nat) (h : Nat) (a : Nat → Nat) (d : Nat → ClassId) (x1 : Int32) (x2 : Int32) : Met l yX10_built (Cond.code yX10_built cX10_built 4 (some .int) :: tb) ({ frames := 1, cells := 0, slots := 0, locals := 21 } : Room) (va_Pc [.ref h, .int x1, .int x2] (cP G k [(h, .inr (10, [.ref (a 0), .ref (a 2), .ref (a 6), .ref (a 8), .ref (a 15), .ref (a 17), .ref (a 22), .ref (a 23), .int 0, .int 0])), ((a 23), .inr (7, [.ref (a 24), .int 0, .int 0]))] [] sz)) (va_Qi (fun (r : Int32) (_ : Unit) => (r = (-1))) (cB G (fun (_ : Unit) => []) (fun (_ : Unit) => []) (va_A [(h, .inr (10, [.ref (a 0), .ref (a 2), .ref (a 6), .ref (a 8), .ref (a 15), .ref (a 17), .ref (a 22), .ref (a 23), .int 0, .int 0])), ((a 23), .inr (7, [.ref (a 24), .int 0, .int 0]))] sz)) (va_A [(h, .inr (10, [.ref (a 0), .ref (a 2), .ref (a 6), .ref (a 8), .ref (a 15), .ref (a 17), .ref (a 22), .ref (a 23), .int 0, .int 0])), ((a 23), .inr (7, [.ref (a 24), .int 0, .int 0]))] sz)) 0 0 (va_A [(h, .inr (10, [.ref (a 0), .ref (a 2), .ref (a 6), .ref (a 8), .ref (a 15), .ref (a 17), .ref (a 22), .ref (a 23), .int 0, .int 0])), ((a 23), .inr (7, [.ref (a 24), .int 0, .int 0]))] sz) := by
  refine ofC_i (cc := cX10_built) (maxL := 4) (ret := (some .int)) (by decide) rfl (Nat.le_of_ble_eq_true rfl) ?_
  intro p e s m args below meth c A ls Q F hr hin hlk St hl hQ
  have hx := F.1
  have hb := F.2.1
  have hl : lv_has ls 4 [(0, .ref h), (1, .int x1), (2, .int x2)] := hl
  have St : cS G k [(h, .inr (10, [.ref (a 0), .ref (a 2), .ref (a 6), .ref (a 8), .ref (a 15), .ref (a 17), .ref (a 22), .ref (a 23), .int 0, .int 0])), ((a 23), .inr (7, [.ref (a 24), .int 0, .int 0]))] [] A s s.heap [] := St
  refine lv_aload_n hx hb dX10_built_0 rfl (lv_at hl 0 rfl) ?_
  refine cs_get F St 0 rfl rfl inX10 7 (by decide) kf_X10_61 rfl dX10_built_1 ?_
  refine lv_iload_n hx hb dX10_built_4 rfl (lv_at hl 1 rfl) ?_
  refine cs_q St [1] [0] (wc := [((a 23), .inr (7, [.ref (a 24), .int 0, .int 0]))]) (wr := [(h, .inr (10, [.ref (a 0), .ref (a 2), .ref (a 6), .ref (a 8), .ref (a 15), .ref (a 17), .ref (a 22), .ref (a 23), .int 0, .int 0]))]) rfl rfl (by decide) (by decide) (va_runV (As := [.int x1]) (rest := []) F (c7_at l G k _ (a 23) (a 24) x1) (cwVt F mf_X7_at km_X10_230 rfl rfl ⟨Nat.le_of_ble_eq_true rfl, Nat.le_of_ble_eq_true rfl⟩) (cs_preV St [1] rfl (by decide) [] rfl (ci := 7) (q0 := 1) rfl rfl) rfl rfl hl.1 rfl (lv_room (Nat.le_of_ble_eq_true rfl)) dX10_built_5 ⟨Nat.le_of_ble_eq_true rfl, Nat.le_of_ble_eq_true rfl⟩) (fun r_1 u_2 H locs hw St => ?_)
  try dsimp only at hw
  have z_3 := hw
  subst r_1
  have St : cS G k [(h, .inr (10, [.ref (a 0), .ref (a 2), .ref (a 6), .ref (a 8), .ref (a 15), .ref (a 17), .ref (a 22), .ref (a 23), .int 0, .int 0])), ((a 23), .inr (7, [.ref (a 24), .int 0, .int 0]))] [] A s H locs := St
  show W _ _ _ _ _ _ _ _ _ _ _ _ _ _ _ (F0 m 8 ls [.null])
  refine lv_astore_nN (lv' := [(3, .null), (0, .ref h), (1, .int x1), (2, .int x2)]) hx hb dX10_built_8 rfl hl (by decide) rfl (fun ls hl => ?_)
  refine lv_aload_nN hx hb dX10_built_9 rfl (lv_at hl 0 rfl) ?_
  refine lv_ifnonnullN hx hb dX10_built_10 ?_
  refine lv_iconst (v := (-1)) hx hb dX10_built_13 (by decide) ?_
  exact cs_iret F hr hlk hQ St () (r := (-1)) rfl [] rfl (by decide) [] rfl (by decide) (by decide) dX10_built_14
set_option maxHeartbeats 4000000 in
set_option maxRecDepth 100000 in
theorem x_endMonth (l : Launch) (G : va_G) (k : Nat → Nat) (sz : Nat) (h : Nat) (a : Nat → Nat) (d : Nat → ClassId) (x1 : Int32) : Met l yX10_endMonth (Cond.code yX10_endMonth cX10_endMonth 1 none :: tb) ({ frames := 3, cells := 0, slots := 0, locals := 66 } : Room) (va_Pc [.ref h] (cP G k [(h, .inr (10, [.ref (a 0), .ref (a 2), .ref (a 6), .ref (a 8), .ref (a 15), .ref (a 17), .ref (a 22), .ref (a 23), .int x1, .int 0])), ((a 15), .inr (2, [.ref (a 16), .int 0])), ((a 22), .inr (3, [.long 0, .long 0, .long 0, .long 0, .long 0, .long 0])), ((a 6), .inr (8, [.ref (a 7)])), ((a 7), .inl ((d 3), 9, .inl untold)), ((a 23), .inr (7, [.ref (a 24), .int 0, .int 0]))] [((d 3), .int)] sz)) (va_Qv (fun (cl : Int32) => (cl = x1 + 1)) (cB G (fun (cl : Int32) => [(h, .inr (10, [.ref (a 0), .ref (a 2), .ref (a 6), .ref (a 8), .ref (a 15), .ref (a 17), .ref (a 22), .ref (a 23), .int cl, .int 0])), ((a 15), .inr (2, [.ref (a 16), .int 0])), ((a 22), .inr (3, [.long 0, .long 0, .long 0, .long 0, .long 0, .long 0])), ((a 6), .inr (8, [.ref (a 7)])), ((a 7), .inl ((d 3), 9, .inl untold)), ((a 23), .inr (7, [.ref (a 24), .int 0, .int 0]))]) (fun (cl : Int32) => []) (va_A [(h, .inr (10, [.ref (a 0), .ref (a 2), .ref (a 6), .ref (a 8), .ref (a 15), .ref (a 17), .ref (a 22), .ref (a 23), .int x1, .int 0])), ((a 15), .inr (2, [.ref (a 16), .int 0])), ((a 22), .inr (3, [.long 0, .long 0, .long 0, .long 0, .long 0, .long 0])), ((a 6), .inr (8, [.ref (a 7)])), ((a 7), .inl ((d 3), 9, .inl untold)), ((a 23), .inr (7, [.ref (a 24), .int 0, .int 0]))] sz)) (va_A [(h, .inr (10, [.ref (a 0), .ref (a 2), .ref (a 6), .ref (a 8), .ref (a 15), .ref (a 17), .ref (a 22), .ref (a 23), .int x1, .int 0])), ((a 15), .inr (2, [.ref (a 16), .int 0])), ((a 22), .inr (3, [.long 0, .long 0, .long 0, .long 0, .long 0, .long 0])), ((a 6), .inr (8, [.ref (a 7)])), ((a 7), .inl ((d 3), 9, .inl untold)), ((a 23), .inr (7, [.ref (a 24), .int 0, .int 0]))] sz)) 0 0 (va_A [(h, .inr (10, [.ref (a 0), .ref (a 2), .ref (a 6), .ref (a 8), .ref (a 15), .ref (a 17), .ref (a 22), .ref (a 23), .int x1, .int 0])), ((a 15), .inr (2, [.ref (a 16), .int 0])), ((a 22), .inr (3, [.long 0, .long 0, .long 0, .long 0, .long 0, .long 0])), ((a 6), .inr (8, [.ref (a 7)])), ((a 7), .inl ((d 3), 9, .inl untold)), ((a 23), .inr (7, [.ref (a 24), .int 0, .int 0]))] sz) := by
  refine ofC_v (cc := cX10_endMonth) (maxL := 1) (ret := none) (by decide) rfl (Nat.le_of_ble_eq_true rfl) ?_
  intro p e s m args below meth c A ls Q F hr hin hlk St hl hQ
  have hx := F.1
  have hb := F.2.1
  have hl : lv_has ls 1 [(0, .ref h)] := hl
  have St : cS G k [(h, .inr (10, [.ref (a 0), .ref (a 2), .ref (a 6), .ref (a 8), .ref (a 15), .ref (a 17), .ref (a 22), .ref (a 23), .int x1, .int 0])), ((a 15), .inr (2, [.ref (a 16), .int 0])), ((a 22), .inr (3, [.long 0, .long 0, .long 0, .long 0, .long 0, .long 0])), ((a 6), .inr (8, [.ref (a 7)])), ((a 7), .inl ((d 3), 9, .inl untold)), ((a 23), .inr (7, [.ref (a 24), .int 0, .int 0]))] [((d 3), .int)] A s s.heap [] := St
  refine lv_aload_n hx hb dX10_endMonth_0 rfl (lv_at hl 0 rfl) ?_
  refine cs_get F St 0 rfl rfl inX10 4 (by decide) kf_X10_40 rfl dX10_endMonth_1 ?_
  refine lv_aload_n hx hb dX10_endMonth_4 rfl (lv_at hl 0 rfl) ?_
  refine cs_get F St 0 rfl rfl inX10 8 (by decide) kf_X10_123 rfl dX10_endMonth_5 ?_
  refine lv_aload_n hx hb dX10_endMonth_8 rfl (lv_at hl 0 rfl) ?_
  refine cs_get F St 0 rfl rfl inX10 2 (by decide) kf_X10_26 rfl dX10_endMonth_9 ?_
  refine cs_i St [3, 4] [0, 1, 2, 5] (wc := [((a 6), .inr (8, [.ref (a 7)])), ((a 7), .inl ((d 3), 9, .inl untold))]) (wr := [(h, .inr (10, [.ref (a 0), .ref (a 2), .ref (a 6), .ref (a 8), .ref (a 15), .ref (a 17), .ref (a 22), .ref (a 23), .int x1, .int 0])), ((a 15), .inr (2, [.ref (a 16), .int 0])), ((a 22), .inr (3, [.long 0, .long 0, .long 0, .long 0, .long 0, .long 0])), ((a 23), .inr (7, [.ref (a 24), .int 0, .int 0]))]) rfl rfl (by decide) (by decide) (va_runV (As := []) (rest := [.int x1, .ref (a 15)]) F (c8_lapseDues l G k _ (a 6) (a 7) (d 3)) (cwVt F mf_X8_lapseDues km_X10_314 rfl rfl ⟨Nat.le_of_ble_eq_true rfl, Nat.le_of_ble_eq_true rfl⟩) (cs_preV St [3, 4] rfl (by decide) [0] rfl (ci := 8) (q0 := 3) rfl rfl) rfl rfl hl.1 rfl (lv_room (Nat.le_of_ble_eq_true rfl)) dX10_endMonth_12 ⟨Nat.le_of_ble_eq_true rfl, Nat.le_of_ble_eq_true rfl⟩) (fun r_1 u_2 H locs hw St => ?_)
  try dsimp only at hw
  have z_3 := hw
  subst r_1
  have St : cS G k [(h, .inr (10, [.ref (a 0), .ref (a 2), .ref (a 6), .ref (a 8), .ref (a 15), .ref (a 17), .ref (a 22), .ref (a 23), .int x1, .int 0])), ((a 15), .inr (2, [.ref (a 16), .int 0])), ((a 22), .inr (3, [.long 0, .long 0, .long 0, .long 0, .long 0, .long 0])), ((a 23), .inr (7, [.ref (a 24), .int 0, .int 0])), ((a 6), .inr (8, [.ref (a 7)])), ((a 7), .inl ((d 3), 9, .inl untold))] [((d 3), .int)] A s H locs := St
  refine cs_v St [1] [0, 2, 3, 4, 5] (wc := [((a 15), .inr (2, [.ref (a 16), .int 0]))]) (wr := [(h, .inr (10, [.ref (a 0), .ref (a 2), .ref (a 6), .ref (a 8), .ref (a 15), .ref (a 17), .ref (a 22), .ref (a 23), .int x1, .int 0])), ((a 22), .inr (3, [.long 0, .long 0, .long 0, .long 0, .long 0, .long 0])), ((a 23), .inr (7, [.ref (a 24), .int 0, .int 0])), ((a 6), .inr (8, [.ref (a 7)])), ((a 7), .inl ((d 3), 9, .inl untold))]) rfl rfl (by decide) (by decide) (va_runV (As := [.int x1, .int 3]) (rest := []) F (c2_lapseAll l G k _ (a 15) (a 16) x1 3) (cwVt F mf_X2_lapseAll km_X10_317 rfl rfl ⟨Nat.le_of_ble_eq_true rfl, Nat.le_of_ble_eq_true rfl⟩) (cs_preV St [1] rfl (by decide) [] rfl (ci := 2) (q0 := 1) rfl rfl) rfl rfl hl.1 rfl (lv_room (Nat.le_of_ble_eq_true rfl)) dX10_endMonth_15 ⟨Nat.le_of_ble_eq_true rfl, Nat.le_of_ble_eq_true rfl⟩) (fun u_5 H locs hw St => ?_)
  try dsimp only at hw
  have St : cS G k [(h, .inr (10, [.ref (a 0), .ref (a 2), .ref (a 6), .ref (a 8), .ref (a 15), .ref (a 17), .ref (a 22), .ref (a 23), .int x1, .int 0])), ((a 22), .inr (3, [.long 0, .long 0, .long 0, .long 0, .long 0, .long 0])), ((a 23), .inr (7, [.ref (a 24), .int 0, .int 0])), ((a 6), .inr (8, [.ref (a 7)])), ((a 7), .inl ((d 3), 9, .inl untold)), ((a 15), .inr (2, [.ref (a 16), .int 0]))] [((d 3), .int)] A s H locs := St
  refine lv_aload_n hx hb dX10_endMonth_18 rfl (lv_at hl 0 rfl) ?_
  refine cs_get F St 0 rfl rfl inX10 6 (by decide) kf_X10_54 rfl dX10_endMonth_19 ?_
  refine lv_aload_n hx hb dX10_endMonth_22 rfl (lv_at hl 0 rfl) ?_
  refine cs_get F St 0 rfl rfl inX10 2 (by decide) kf_X10_26 rfl dX10_endMonth_23 ?_
  refine cs_i St [3, 4] [0, 1, 2, 5] (wc := [((a 6), .inr (8, [.ref (a 7)])), ((a 7), .inl ((d 3), 9, .inl untold))]) (wr := [(h, .inr (10, [.ref (a 0), .ref (a 2), .ref (a 6), .ref (a 8), .ref (a 15), .ref (a 17), .ref (a 22), .ref (a 23), .int x1, .int 0])), ((a 22), .inr (3, [.long 0, .long 0, .long 0, .long 0, .long 0, .long 0])), ((a 23), .inr (7, [.ref (a 24), .int 0, .int 0])), ((a 15), .inr (2, [.ref (a 16), .int 0]))]) rfl rfl (by decide) (by decide) (va_runV (As := []) (rest := [.ref (a 22)]) F (c8_loanThousandths l G k _ (a 6) (a 7) (d 3)) (cwVt F mf_X8_loanThousandths km_X10_320 rfl rfl ⟨Nat.le_of_ble_eq_true rfl, Nat.le_of_ble_eq_true rfl⟩) (cs_preV St [3, 4] rfl (by decide) [0] rfl (ci := 8) (q0 := 3) rfl rfl) rfl rfl hl.1 rfl (lv_room (Nat.le_of_ble_eq_true rfl)) dX10_endMonth_26 ⟨Nat.le_of_ble_eq_true rfl, Nat.le_of_ble_eq_true rfl⟩) (fun r_6 u_7 H locs hw St => ?_)
  try dsimp only at hw
  have z_8 := hw
  subst r_6
  have St : cS G k [(h, .inr (10, [.ref (a 0), .ref (a 2), .ref (a 6), .ref (a 8), .ref (a 15), .ref (a 17), .ref (a 22), .ref (a 23), .int x1, .int 0])), ((a 22), .inr (3, [.long 0, .long 0, .long 0, .long 0, .long 0, .long 0])), ((a 23), .inr (7, [.ref (a 24), .int 0, .int 0])), ((a 15), .inr (2, [.ref (a 16), .int 0])), ((a 6), .inr (8, [.ref (a 7)])), ((a 7), .inl ((d 3), 9, .inl untold))] [((d 3), .int)] A s H locs := St
  refine cs_v St [1] [0, 2, 3, 4, 5] (wc := [((a 22), .inr (3, [.long 0, .long 0, .long 0, .long 0, .long 0, .long 0]))]) (wr := [(h, .inr (10, [.ref (a 0), .ref (a 2), .ref (a 6), .ref (a 8), .ref (a 15), .ref (a 17), .ref (a 22), .ref (a 23), .int x1, .int 0])), ((a 23), .inr (7, [.ref (a 24), .int 0, .int 0])), ((a 15), .inr (2, [.ref (a 16), .int 0])), ((a 6), .inr (8, [.ref (a 7)])), ((a 7), .inl ((d 3), 9, .inl untold))]) rfl rfl (by decide) (by decide) (va_runV (As := [.int 0]) (rest := []) F (c3_growLoan l G k _ (a 22)) (cwVt F mf_X3_growLoan km_X10_323 rfl rfl ⟨Nat.le_of_ble_eq_true rfl, Nat.le_of_ble_eq_true rfl⟩) (cs_preV St [1] rfl (by decide) [] rfl (ci := 3) (q0 := 1) rfl rfl) rfl rfl hl.1 rfl (lv_room (Nat.le_of_ble_eq_true rfl)) dX10_endMonth_29 ⟨Nat.le_of_ble_eq_true rfl, Nat.le_of_ble_eq_true rfl⟩) (fun u_10 H locs hw St => ?_)
  try dsimp only at hw
  have St : cS G k [(h, .inr (10, [.ref (a 0), .ref (a 2), .ref (a 6), .ref (a 8), .ref (a 15), .ref (a 17), .ref (a 22), .ref (a 23), .int x1, .int 0])), ((a 23), .inr (7, [.ref (a 24), .int 0, .int 0])), ((a 15), .inr (2, [.ref (a 16), .int 0])), ((a 6), .inr (8, [.ref (a 7)])), ((a 7), .inl ((d 3), 9, .inl untold)), ((a 22), .inr (3, [.long 0, .long 0, .long 0, .long 0, .long 0, .long 0]))] [((d 3), .int)] A s H locs := St
  refine lv_aload_n hx hb dX10_endMonth_32 rfl (lv_at hl 0 rfl) ?_
  refine cs_get F St 0 rfl rfl inX10 7 (by decide) kf_X10_61 rfl dX10_endMonth_33 ?_
  refine lv_aload_n hx hb dX10_endMonth_36 rfl (lv_at hl 0 rfl) ?_
  refine cs_get F St 0 rfl rfl inX10 6 (by decide) kf_X10_54 rfl dX10_endMonth_37 ?_
  refine lv_aload_n hx hb dX10_endMonth_40 rfl (lv_at hl 0 rfl) ?_
  refine cs_get F St 0 rfl rfl inX10 2 (by decide) kf_X10_26 rfl dX10_endMonth_41 ?_
  refine cs_i St [3, 4] [0, 1, 2, 5] (wc := [((a 6), .inr (8, [.ref (a 7)])), ((a 7), .inl ((d 3), 9, .inl untold))]) (wr := [(h, .inr (10, [.ref (a 0), .ref (a 2), .ref (a 6), .ref (a 8), .ref (a 15), .ref (a 17), .ref (a 22), .ref (a 23), .int x1, .int 0])), ((a 23), .inr (7, [.ref (a 24), .int 0, .int 0])), ((a 15), .inr (2, [.ref (a 16), .int 0])), ((a 22), .inr (3, [.long 0, .long 0, .long 0, .long 0, .long 0, .long 0]))]) rfl rfl (by decide) (by decide) (va_runV (As := []) (rest := [.ref (a 22), .ref (a 23)]) F (c8_loanPence l G k _ (a 6) (a 7) (d 3)) (cwVt F mf_X8_loanPence km_X10_326 rfl rfl ⟨Nat.le_of_ble_eq_true rfl, Nat.le_of_ble_eq_true rfl⟩) (cs_preV St [3, 4] rfl (by decide) [0] rfl (ci := 8) (q0 := 3) rfl rfl) rfl rfl hl.1 rfl (lv_room (Nat.le_of_ble_eq_true rfl)) dX10_endMonth_44 ⟨Nat.le_of_ble_eq_true rfl, Nat.le_of_ble_eq_true rfl⟩) (fun r_11 u_12 H locs hw St => ?_)
  try dsimp only at hw
  have z_13 := hw
  subst r_11
  have St : cS G k [(h, .inr (10, [.ref (a 0), .ref (a 2), .ref (a 6), .ref (a 8), .ref (a 15), .ref (a 17), .ref (a 22), .ref (a 23), .int x1, .int 0])), ((a 23), .inr (7, [.ref (a 24), .int 0, .int 0])), ((a 15), .inr (2, [.ref (a 16), .int 0])), ((a 22), .inr (3, [.long 0, .long 0, .long 0, .long 0, .long 0, .long 0])), ((a 6), .inr (8, [.ref (a 7)])), ((a 7), .inl ((d 3), 9, .inl untold))] [((d 3), .int)] A s H locs := St
  refine cs_v St [1] [0, 2, 3, 4, 5] (wc := [((a 23), .inr (7, [.ref (a 24), .int 0, .int 0]))]) (wr := [(h, .inr (10, [.ref (a 0), .ref (a 2), .ref (a 6), .ref (a 8), .ref (a 15), .ref (a 17), .ref (a 22), .ref (a 23), .int x1, .int 0])), ((a 15), .inr (2, [.ref (a 16), .int 0])), ((a 22), .inr (3, [.long 0, .long 0, .long 0, .long 0, .long 0, .long 0])), ((a 6), .inr (8, [.ref (a 7)])), ((a 7), .inl ((d 3), 9, .inl untold))]) rfl rfl (by decide) (by decide) (va_runV (As := [.ref (a 22), .int 0]) (rest := []) F (c7_payPart l G k _ (a 23) (a 24) (a 22)) (cwVt F mf_X7_payPart km_X10_329 rfl rfl ⟨Nat.le_of_ble_eq_true rfl, Nat.le_of_ble_eq_true rfl⟩) (cs_preV St [1] rfl (by decide) [] rfl (ci := 7) (q0 := 1) rfl rfl) rfl rfl hl.1 rfl (lv_room (Nat.le_of_ble_eq_true rfl)) dX10_endMonth_47 ⟨Nat.le_of_ble_eq_true rfl, Nat.le_of_ble_eq_true rfl⟩) (fun u_15 H locs hw St => ?_)
  try dsimp only at hw
  have St : cS G k [(h, .inr (10, [.ref (a 0), .ref (a 2), .ref (a 6), .ref (a 8), .ref (a 15), .ref (a 17), .ref (a 22), .ref (a 23), .int x1, .int 0])), ((a 15), .inr (2, [.ref (a 16), .int 0])), ((a 22), .inr (3, [.long 0, .long 0, .long 0, .long 0, .long 0, .long 0])), ((a 6), .inr (8, [.ref (a 7)])), ((a 7), .inl ((d 3), 9, .inl untold)), ((a 23), .inr (7, [.ref (a 24), .int 0, .int 0]))] [((d 3), .int)] A s H locs := St
  refine lv_aload_n hx hb dX10_endMonth_50 rfl (lv_at hl 0 rfl) ?_
  refine cs_get F St 0 rfl rfl inX10 6 (by decide) kf_X10_54 rfl dX10_endMonth_51 ?_
  refine cs_v St [2] [0, 1, 3, 4, 5] (wc := [((a 22), .inr (3, [.long 0, .long 0, .long 0, .long 0, .long 0, .long 0]))]) (wr := [(h, .inr (10, [.ref (a 0), .ref (a 2), .ref (a 6), .ref (a 8), .ref (a 15), .ref (a 17), .ref (a 22), .ref (a 23), .int x1, .int 0])), ((a 15), .inr (2, [.ref (a 16), .int 0])), ((a 6), .inr (8, [.ref (a 7)])), ((a 7), .inl ((d 3), 9, .inl untold)), ((a 23), .inr (7, [.ref (a 24), .int 0, .int 0]))]) rfl rfl (by decide) (by decide) (va_runV (As := []) (rest := []) F (c3_payBackLoan l G k _ (a 22)) (cwVt F mf_X3_payBackLoan km_X10_333 rfl rfl ⟨Nat.le_of_ble_eq_true rfl, Nat.le_of_ble_eq_true rfl⟩) (cs_preV St [2] rfl (by decide) [] rfl (ci := 3) (q0 := 2) rfl rfl) rfl rfl hl.1 rfl (lv_room (Nat.le_of_ble_eq_true rfl)) dX10_endMonth_54 ⟨Nat.le_of_ble_eq_true rfl, Nat.le_of_ble_eq_true rfl⟩) (fun u_17 H locs hw St => ?_)
  try dsimp only at hw
  have St : cS G k [(h, .inr (10, [.ref (a 0), .ref (a 2), .ref (a 6), .ref (a 8), .ref (a 15), .ref (a 17), .ref (a 22), .ref (a 23), .int x1, .int 0])), ((a 15), .inr (2, [.ref (a 16), .int 0])), ((a 6), .inr (8, [.ref (a 7)])), ((a 7), .inl ((d 3), 9, .inl untold)), ((a 23), .inr (7, [.ref (a 24), .int 0, .int 0])), ((a 22), .inr (3, [.long 0, .long 0, .long 0, .long 0, .long 0, .long 0]))] [((d 3), .int)] A s H locs := St
  refine lv_aload_n hx hb dX10_endMonth_57 rfl (lv_at hl 0 rfl) ?_
  refine lv_dup hx hb dX10_endMonth_58 rfl ?_
  refine cs_get F St 0 rfl rfl inX10 8 (by decide) kf_X10_123 rfl dX10_endMonth_59 ?_
  refine lv_iconst (v := 1) hx hb dX10_endMonth_62 (by decide) ?_
  refine lv_iadd hx hb dX10_endMonth_63 ?_
  refine lv_topi (fun y_18 ey_18 => ?_)
  have jy_18 := ci_add (x := x1) (y := 1) rfl (show (1 : Int32).toInt = 1 by decide) ey_18
  refine cs_put F St 0 rfl rfl inX10 tyX10_ok nmX10 8 (by decide) kf_X10_123 rfl rfl rfl (Nat.le_of_ble_eq_true rfl) (w' := [(h, .inr (10, [.ref (a 0), .ref (a 2), .ref (a 6), .ref (a 8), .ref (a 15), .ref (a 17), .ref (a 22), .ref (a 23), .int y_18, .int 0])), ((a 15), .inr (2, [.ref (a 16), .int 0])), ((a 6), .inr (8, [.ref (a 7)])), ((a 7), .inl ((d 3), 9, .inl untold)), ((a 23), .inr (7, [.ref (a 24), .int 0, .int 0])), ((a 22), .inr (3, [.long 0, .long 0, .long 0, .long 0, .long 0, .long 0]))]) rfl dX10_endMonth_64 (fun H locs St => ?_)
  exact cs_vret F hr hlk hQ St y_18 ey_18 [0, 1, 5, 2, 3, 4] rfl (by decide) [] rfl (by decide) (by decide) dX10_endMonth_67
set_option maxHeartbeats 4000000 in
set_option maxRecDepth 100000 in
/-- months on a new object -/
theorem x_months (l : Launch) (G : va_G) (k : Nat → Nat) (sz : Nat) (h : Nat) (a : Nat → Nat) (d : Nat → ClassId) (x1 : Int32) : Met l yX10_months (Cond.code yX10_months cX10_months 3 (some .int) :: tb) ({ frames := 4, cells := 0, slots := 0, locals := 86 } : Room) (va_Pc [.ref h, .int x1] (cP G k [(h, .inr (10, [.ref (a 0), .ref (a 2), .ref (a 6), .ref (a 8), .ref (a 15), .ref (a 17), .ref (a 22), .ref (a 23), .int 0, .int 0])), ((a 15), .inr (2, [.ref (a 16), .int 0])), ((a 22), .inr (3, [.long 0, .long 0, .long 0, .long 0, .long 0, .long 0])), ((a 6), .inr (8, [.ref (a 7)])), ((a 7), .inl ((d 3), 9, .inl untold)), ((a 23), .inr (7, [.ref (a 24), .int 0, .int 0]))] [((d 3), .int)] sz)) (va_Qi (fun (r : Int32) (_ : Unit) => ((r = x1) ∧ (1 ≤ x1.toInt ∧ x1.toInt ≤ 24)) ∨ ((r = (-2)) ∧ (¬ (1 ≤ x1.toInt ∧ x1.toInt ≤ 24)))) (cB G (fun (_ : Unit) => []) (fun (_ : Unit) => []) (va_A [(h, .inr (10, [.ref (a 0), .ref (a 2), .ref (a 6), .ref (a 8), .ref (a 15), .ref (a 17), .ref (a 22), .ref (a 23), .int 0, .int 0])), ((a 15), .inr (2, [.ref (a 16), .int 0])), ((a 22), .inr (3, [.long 0, .long 0, .long 0, .long 0, .long 0, .long 0])), ((a 6), .inr (8, [.ref (a 7)])), ((a 7), .inl ((d 3), 9, .inl untold)), ((a 23), .inr (7, [.ref (a 24), .int 0, .int 0]))] sz)) (va_A [(h, .inr (10, [.ref (a 0), .ref (a 2), .ref (a 6), .ref (a 8), .ref (a 15), .ref (a 17), .ref (a 22), .ref (a 23), .int 0, .int 0])), ((a 15), .inr (2, [.ref (a 16), .int 0])), ((a 22), .inr (3, [.long 0, .long 0, .long 0, .long 0, .long 0, .long 0])), ((a 6), .inr (8, [.ref (a 7)])), ((a 7), .inl ((d 3), 9, .inl untold)), ((a 23), .inr (7, [.ref (a 24), .int 0, .int 0]))] sz)) 0 0 (va_A [(h, .inr (10, [.ref (a 0), .ref (a 2), .ref (a 6), .ref (a 8), .ref (a 15), .ref (a 17), .ref (a 22), .ref (a 23), .int 0, .int 0])), ((a 15), .inr (2, [.ref (a 16), .int 0])), ((a 22), .inr (3, [.long 0, .long 0, .long 0, .long 0, .long 0, .long 0])), ((a 6), .inr (8, [.ref (a 7)])), ((a 7), .inl ((d 3), 9, .inl untold)), ((a 23), .inr (7, [.ref (a 24), .int 0, .int 0]))] sz) := by
  refine ofC_i (cc := cX10_months) (maxL := 3) (ret := (some .int)) (by decide) rfl (Nat.le_of_ble_eq_true rfl) ?_
  intro p e s m args below meth c A ls Q F hr hin hlk St hl hQ
  have hx := F.1
  have hb := F.2.1
  have hl : lv_has ls 3 [(0, .ref h), (1, .int x1)] := hl
  have St : cS G k [(h, .inr (10, [.ref (a 0), .ref (a 2), .ref (a 6), .ref (a 8), .ref (a 15), .ref (a 17), .ref (a 22), .ref (a 23), .int 0, .int 0])), ((a 15), .inr (2, [.ref (a 16), .int 0])), ((a 22), .inr (3, [.long 0, .long 0, .long 0, .long 0, .long 0, .long 0])), ((a 6), .inr (8, [.ref (a 7)])), ((a 7), .inl ((d 3), 9, .inl untold)), ((a 23), .inr (7, [.ref (a 24), .int 0, .int 0]))] [((d 3), .int)] A s s.heap [] := St
  refine lv_iload_n hx hb dX10_months_0 rfl (lv_at hl 1 rfl) ?_
  refine lv_iconst (v := 1) hx hb dX10_months_1 (by decide) ?_
  refine lv_bipush (v := 24) hx hb dX10_months_2 (by decide) ?_
  refine cs_i St [] [0, 1, 2, 3, 4, 5] (wc := []) (wr := [(h, .inr (10, [.ref (a 0), .ref (a 2), .ref (a 6), .ref (a 8), .ref (a 15), .ref (a 17), .ref (a 22), .ref (a 23), .int 0, .int 0])), ((a 15), .inr (2, [.ref (a 16), .int 0])), ((a 22), .inr (3, [.long 0, .long 0, .long 0, .long 0, .long 0, .long 0])), ((a 6), .inr (8, [.ref (a 7)])), ((a 7), .inl ((d 3), 9, .inl untold)), ((a 23), .inr (7, [.ref (a 24), .int 0, .int 0]))]) rfl rfl (by decide) (by decide) (va_runS (As := [.int x1, .int 1, .int 24]) (rest := []) F (c10_isWithin l G k _ x1 1 24 1 24 (by decide) (by decide)) (cwSt F mf_X10_isWithin km_X10_119 rfl rfl ⟨Nat.le_of_ble_eq_true rfl, Nat.le_of_ble_eq_true rfl⟩) (cs_pre St [] rfl (by decide) [] rfl) rfl rfl hl.1 rfl (lv_room (Nat.le_of_ble_eq_true rfl)) dX10_months_4 ⟨Nat.le_of_ble_eq_true rfl, Nat.le_of_ble_eq_true rfl⟩) (fun r_1 u_2 H locs hw St => ?_)
  try dsimp only at hw
  rcases hw with ⟨z_3, hf_4⟩ | ⟨z_5, hf_6⟩
  ·
    subst r_1
    have St : cS G k [(h, .inr (10, [.ref (a 0), .ref (a 2), .ref (a 6), .ref (a 8), .ref (a 15), .ref (a 17), .ref (a 22), .ref (a 23), .int 0, .int 0])), ((a 15), .inr (2, [.ref (a 16), .int 0])), ((a 22), .inr (3, [.long 0, .long 0, .long 0, .long 0, .long 0, .long 0])), ((a 6), .inr (8, [.ref (a 7)])), ((a 7), .inl ((d 3), 9, .inl untold)), ((a 23), .inr (7, [.ref (a 24), .int 0, .int 0]))] [((d 3), .int)] A s H locs := St
    refine lv_if_eq (tgt := 21) hx hb dX10_months_7 (by decide) (fun c7 => ?_) (fun c7 => ?_)
    · exact absurd c7 (by decide)
    refine lv_aload_n hx hb dX10_months_10 rfl (lv_at hl 0 rfl) ?_
    refine cs_get F St 0 rfl rfl inX10 8 (by decide) kf_X10_123 rfl dX10_months_11 ?_
    refine lv_iload_n hx hb dX10_months_14 rfl (lv_at hl 1 rfl) ?_
    refine lv_iadd hx hb dX10_months_15 ?_
    refine lv_topi (fun y_7 ey_7 => ?_)
    have jy_7 := ci_add (x := 0) (y := x1) (show (0 : Int32).toInt = 0 by decide) rfl ey_7
    refine lv_bipush (v := 119) hx hb dX10_months_16 (by decide) ?_
    refine lv_icmp_le (tgt := 24) hx hb dX10_months_18 (by decide) (fun c18 => ?_) (fun c18 => ?_)
    rotate_left
    · have i18 := ci_nle (x := y_7) (y := 119) rfl (show (119 : Int32).toInt = 119 by decide) c18; exact False.elim (by omega)
    have i18 := ci_le (x := y_7) (y := 119) rfl (show (119 : Int32).toInt = 119 by decide) c18
    refine lv_aload_n hx hb dX10_months_24 rfl (lv_at hl 0 rfl) ?_
    refine cs_get F St 0 rfl rfl inX10 9 (by decide) kf_X10_106 rfl dX10_months_25 ?_
    refine lv_if_eq (tgt := 34) hx hb dX10_months_28 (by decide) (fun c28 => ?_) (fun c28 => ?_)
    rotate_left
    · exact absurd (by decide) c28
    refine lv_iconst (v := 0) hx hb dX10_months_34 (by decide) ?_
    refine lv_istore_n (lv' := [(2, .int 0), (0, .ref h), (1, .int x1)]) hx hb dX10_months_35 rfl hl (by decide) rfl (fun ls hl => ?_)
    have lp36 : ∀ (n : Nat) (i : Int32) (cl : Int32) (H : Heap) (locs : List Loc) (ls : Array Slot), (0 ≤ i.toInt ∧ i.toInt ≤ x1.toInt ∧ cl = i) → ((24 - i.toInt).toNat) < n → cS G k [(h, .inr (10, [.ref (a 0), .ref (a 2), .ref (a 6), .ref (a 8), .ref (a 15), .ref (a 17), .ref (a 22), .ref (a 23), .int cl, .int 0])), ((a 15), .inr (2, [.ref (a 16), .int 0])), ((a 22), .inr (3, [.long 0, .long 0, .long 0, .long 0, .long 0, .long 0])), ((a 6), .inr (8, [.ref (a 7)])), ((a 7), .inl ((d 3), 9, .inl untold)), ((a 23), .inr (7, [.ref (a 24), .int 0, .int 0]))] [((d 3), .int)] A s H locs → lv_has ls 3 [(2, .int i), (0, .ref h), (1, .int x1)] → W p l e ({ frames := 4, cells := 0, slots := 0, locals := 86 } : Room) s m args below meth c H locs 0 0 Q (F0 m 36 ls []) := by
      intro n
      induction n with
      | zero => intro i cl H locs ls hI hn; exact absurd hn (Nat.not_lt_zero _)
      | succ n ih =>
        intro i cl H locs ls hI hn St hl
        obtain ⟨hI0, hI1, hI2⟩ := hI
        refine lv_iload_n hx hb dX10_months_36 rfl (lv_at hl 0 rfl) ?_
        refine lv_iload_n hx hb dX10_months_37 rfl (lv_at hl 2 rfl) ?_
        refine lv_icmp_ge (tgt := 51) hx hb dX10_months_38 (by decide) (fun c38 => ?_) (fun c38 => ?_)
        ·
          have i38 := ci_le (x := x1) (y := i) rfl rfl c38
          refine lv_aload_n hx hb dX10_months_51 rfl (lv_at hl 1 rfl) ?_
          refine cs_get F St 0 rfl rfl inX10 8 (by decide) kf_X10_123 rfl dX10_months_52 ?_
          exact cs_iret F hr hlk hQ St () (r := cl) (Or.inl ⟨Int32.toInt_inj.mp (by rw [hI2]; omega), by omega⟩) [] rfl (by decide) [] rfl (by decide) (by decide) dX10_months_55
        ·
          have i38 := ci_nle (x := x1) (y := i) rfl rfl c38
          refine lv_aload_n hx hb dX10_months_41 rfl (lv_at hl 1 rfl) ?_
          refine cs_v St [0, 1, 2, 3, 4, 5] [] (wc := [(h, .inr (10, [.ref (a 0), .ref (a 2), .ref (a 6), .ref (a 8), .ref (a 15), .ref (a 17), .ref (a 22), .ref (a 23), .int cl, .int 0])), ((a 15), .inr (2, [.ref (a 16), .int 0])), ((a 22), .inr (3, [.long 0, .long 0, .long 0, .long 0, .long 0, .long 0])), ((a 6), .inr (8, [.ref (a 7)])), ((a 7), .inl ((d 3), 9, .inl untold)), ((a 23), .inr (7, [.ref (a 24), .int 0, .int 0]))]) (wr := []) rfl rfl (by decide) (by decide) (va_runV (As := []) (rest := []) F (x_endMonth l G k _ h a d cl) (cwVt F mf_X10_endMonth km_X10_248 rfl rfl ⟨Nat.le_of_ble_eq_true rfl, Nat.le_of_ble_eq_true rfl⟩) (cs_preV St [0, 1, 2, 3, 4, 5] rfl (by decide) [0] rfl (ci := 10) (q0 := 0) rfl rfl) rfl rfl hl.1 rfl (lv_room (Nat.le_of_ble_eq_true rfl)) dX10_months_42 ⟨Nat.le_of_ble_eq_true rfl, Nat.le_of_ble_eq_true rfl⟩) (fun u_9 H locs hw St => ?_)
          obtain ⟨cl_10, rfl⟩ : ∃ z, z = u_9 := ⟨_, rfl⟩
          try dsimp only at hw
          have z_11 := hw
          have St : cS G k [(h, .inr (10, [.ref (a 0), .ref (a 2), .ref (a 6), .ref (a 8), .ref (a 15), .ref (a 17), .ref (a 22), .ref (a 23), .int cl_10, .int 0])), ((a 15), .inr (2, [.ref (a 16), .int 0])), ((a 22), .inr (3, [.long 0, .long 0, .long 0, .long 0, .long 0, .long 0])), ((a 6), .inr (8, [.ref (a 7)])), ((a 7), .inl ((d 3), 9, .inl untold)), ((a 23), .inr (7, [.ref (a 24), .int 0, .int 0]))] [((d 3), .int)] A s H locs := St
          obtain ⟨y_12, ey_12⟩ : ∃ zz : Int32, zz = i + 1 := ⟨_, rfl⟩
          have jy_12 := ci_add (x := i) rfl (show (1 : Int32).toInt = 1 by decide) ey_12
          refine lv_iinc (v := y_12) (lv' := [(2, .int y_12), (0, .ref h), (1, .int x1)]) hx hb dX10_months_45 hl (k := 0) rfl (by rw [ey_12]; rfl) (by decide) rfl (fun ls hl => ?_)
          refine lv_goto (tgt := 36) hx hb dX10_months_48 (by decide) ?_
          exact ih y_12 cl_10 _ _ _ ⟨by omega, by omega, by rw [z_11, ey_12, hI2]⟩ (by omega) St (lv_sub hl [0, 1, 2] rfl)
    exact lp36 25 0 0 _ _ _ ⟨by decide, by rw [show (0 : Int32).toInt = 0 from by decide]; omega, rfl⟩ (by decide) St (lv_sub hl [0, 1, 2] rfl)
  ·
    subst r_1
    have St : cS G k [(h, .inr (10, [.ref (a 0), .ref (a 2), .ref (a 6), .ref (a 8), .ref (a 15), .ref (a 17), .ref (a 22), .ref (a 23), .int 0, .int 0])), ((a 15), .inr (2, [.ref (a 16), .int 0])), ((a 22), .inr (3, [.long 0, .long 0, .long 0, .long 0, .long 0, .long 0])), ((a 6), .inr (8, [.ref (a 7)])), ((a 7), .inl ((d 3), 9, .inl untold)), ((a 23), .inr (7, [.ref (a 24), .int 0, .int 0]))] [((d 3), .int)] A s H locs := St
    refine lv_if_eq (tgt := 21) hx hb dX10_months_7 (by decide) (fun c7 => ?_) (fun c7 => ?_)
    rotate_left
    · exact absurd (by decide) c7
    refine lv_bipush (v := (-2)) hx hb dX10_months_21 (by decide) ?_
    exact cs_iret F hr hlk hQ St () (r := (-2)) (Or.inr ⟨rfl, by omega⟩) [] rfl (by decide) [] rfl (by decide) (by decide) dX10_months_23
set_option maxHeartbeats 4000000 in
set_option maxRecDepth 100000 in
/-- sure on a new object -/
theorem x_sure (l : Launch) (G : va_G) (k : Nat → Nat) (sz : Nat) (h : Nat) (a : Nat → Nat) (d : Nat → ClassId) (x1 : Int32) : Met l yX10_sure (Cond.code yX10_sure cX10_sure 2 (some .int) :: tb) ({ frames := 1, cells := 0, slots := 0, locals := 30 } : Room) (va_Pc [.ref h, .int x1] (cP G k [(h, .inr (10, [.ref (a 0), .ref (a 2), .ref (a 6), .ref (a 8), .ref (a 15), .ref (a 17), .ref (a 22), .ref (a 23), .int 0, .int 0])), ((a 15), .inr (2, [.ref (a 16), .int 0]))] [] sz)) (va_Qi (fun (r : Int32) (_ : Unit) => ((r = 0) ∧ (1 ≤ x1.toInt ∧ x1.toInt ≤ 84)) ∨ ((r = (-2)) ∧ (¬ (1 ≤ x1.toInt ∧ x1.toInt ≤ 84)))) (cB G (fun (_ : Unit) => []) (fun (_ : Unit) => []) (va_A [(h, .inr (10, [.ref (a 0), .ref (a 2), .ref (a 6), .ref (a 8), .ref (a 15), .ref (a 17), .ref (a 22), .ref (a 23), .int 0, .int 0])), ((a 15), .inr (2, [.ref (a 16), .int 0]))] sz)) (va_A [(h, .inr (10, [.ref (a 0), .ref (a 2), .ref (a 6), .ref (a 8), .ref (a 15), .ref (a 17), .ref (a 22), .ref (a 23), .int 0, .int 0])), ((a 15), .inr (2, [.ref (a 16), .int 0]))] sz)) 0 0 (va_A [(h, .inr (10, [.ref (a 0), .ref (a 2), .ref (a 6), .ref (a 8), .ref (a 15), .ref (a 17), .ref (a 22), .ref (a 23), .int 0, .int 0])), ((a 15), .inr (2, [.ref (a 16), .int 0]))] sz) := by
  refine ofC_i (cc := cX10_sure) (maxL := 2) (ret := (some .int)) (by decide) rfl (Nat.le_of_ble_eq_true rfl) ?_
  intro p e s m args below meth c A ls Q F hr hin hlk St hl hQ
  have hx := F.1
  have hb := F.2.1
  have hl : lv_has ls 2 [(0, .ref h), (1, .int x1)] := hl
  have St : cS G k [(h, .inr (10, [.ref (a 0), .ref (a 2), .ref (a 6), .ref (a 8), .ref (a 15), .ref (a 17), .ref (a 22), .ref (a 23), .int 0, .int 0])), ((a 15), .inr (2, [.ref (a 16), .int 0]))] [] A s s.heap [] := St
  refine lv_iload_n hx hb dX10_sure_0 rfl (lv_at hl 1 rfl) ?_
  refine lv_iconst (v := 1) hx hb dX10_sure_1 (by decide) ?_
  refine lv_bipush (v := 84) hx hb dX10_sure_2 (by decide) ?_
  refine cs_i St [] [0, 1] (wc := []) (wr := [(h, .inr (10, [.ref (a 0), .ref (a 2), .ref (a 6), .ref (a 8), .ref (a 15), .ref (a 17), .ref (a 22), .ref (a 23), .int 0, .int 0])), ((a 15), .inr (2, [.ref (a 16), .int 0]))]) rfl rfl (by decide) (by decide) (va_runS (As := [.int x1, .int 1, .int 84]) (rest := []) F (c10_isWithin l G k _ x1 1 84 1 84 (by decide) (by decide)) (cwSt F mf_X10_isWithin km_X10_119 rfl rfl ⟨Nat.le_of_ble_eq_true rfl, Nat.le_of_ble_eq_true rfl⟩) (cs_pre St [] rfl (by decide) [] rfl) rfl rfl hl.1 rfl (lv_room (Nat.le_of_ble_eq_true rfl)) dX10_sure_4 ⟨Nat.le_of_ble_eq_true rfl, Nat.le_of_ble_eq_true rfl⟩) (fun r_1 u_2 H locs hw St => ?_)
  try dsimp only at hw
  rcases hw with ⟨z_3, hf_4⟩ | ⟨z_5, hf_6⟩
  ·
    subst r_1
    have St : cS G k [(h, .inr (10, [.ref (a 0), .ref (a 2), .ref (a 6), .ref (a 8), .ref (a 15), .ref (a 17), .ref (a 22), .ref (a 23), .int 0, .int 0])), ((a 15), .inr (2, [.ref (a 16), .int 0]))] [] A s H locs := St
    refine lv_if_eq (tgt := 25) hx hb dX10_sure_7 (by decide) (fun c7 => ?_) (fun c7 => ?_)
    · exact absurd c7 (by decide)
    refine lv_aload_n hx hb dX10_sure_10 rfl (lv_at hl 0 rfl) ?_
    refine cs_get F St 0 rfl rfl inX10 4 (by decide) kf_X10_40 rfl dX10_sure_11 ?_
    refine lv_iload_n hx hb dX10_sure_14 rfl (lv_at hl 1 rfl) ?_
    refine lv_aload_n hx hb dX10_sure_15 rfl (lv_at hl 0 rfl) ?_
    refine cs_get F St 0 rfl rfl inX10 8 (by decide) kf_X10_123 rfl dX10_sure_16 ?_
    refine cs_i St [1] [0] (wc := [((a 15), .inr (2, [.ref (a 16), .int 0]))]) (wr := [(h, .inr (10, [.ref (a 0), .ref (a 2), .ref (a 6), .ref (a 8), .ref (a 15), .ref (a 17), .ref (a 22), .ref (a 23), .int 0, .int 0]))]) rfl rfl (by decide) (by decide) (va_runV (As := [.int x1, .int 0]) (rest := []) F (c2_sureWithin l G k _ (a 15) (a 16) x1 0) (cwVt F mf_X2_sureWithin km_X10_251 rfl rfl ⟨Nat.le_of_ble_eq_true rfl, Nat.le_of_ble_eq_true rfl⟩) (cs_preV St [1] rfl (by decide) [] rfl (ci := 2) (q0 := 1) rfl rfl) rfl rfl hl.1 rfl (lv_room (Nat.le_of_ble_eq_true rfl)) dX10_sure_19 ⟨Nat.le_of_ble_eq_true rfl, Nat.le_of_ble_eq_true rfl⟩) (fun r_7 u_8 H locs hw St => ?_)
    try dsimp only at hw
    have z_9 := hw
    subst r_7
    have St : cS G k [(h, .inr (10, [.ref (a 0), .ref (a 2), .ref (a 6), .ref (a 8), .ref (a 15), .ref (a 17), .ref (a 22), .ref (a 23), .int 0, .int 0])), ((a 15), .inr (2, [.ref (a 16), .int 0]))] [] A s H locs := St
    refine lv_goto (tgt := 27) hx hb dX10_sure_22 (by decide) ?_
    exact cs_iret F hr hlk hQ St () (r := 0) (Or.inl ⟨rfl, by omega⟩) [] rfl (by decide) [] rfl (by decide) (by decide) dX10_sure_27
  ·
    subst r_1
    have St : cS G k [(h, .inr (10, [.ref (a 0), .ref (a 2), .ref (a 6), .ref (a 8), .ref (a 15), .ref (a 17), .ref (a 22), .ref (a 23), .int 0, .int 0])), ((a 15), .inr (2, [.ref (a 16), .int 0]))] [] A s H locs := St
    refine lv_if_eq (tgt := 25) hx hb dX10_sure_7 (by decide) (fun c7 => ?_) (fun c7 => ?_)
    rotate_left
    · exact absurd (by decide) c7
    refine lv_bipush (v := (-2)) hx hb dX10_sure_25 (by decide) ?_
    exact cs_iret F hr hlk hQ St () (r := (-2)) (Or.inr ⟨rfl, by omega⟩) [] rfl (by decide) [] rfl (by decide) (by decide) dX10_sure_27
set_option maxHeartbeats 4000000 in
set_option maxRecDepth 100000 in
/-- stone on a new object -/
theorem x_stone (l : Launch) (G : va_G) (k : Nat → Nat) (sz : Nat) (h : Nat) (a : Nat → Nat) (d : Nat → ClassId) (x1 : Int32) : Met l yX10_stone (Cond.code yX10_stone cX10_stone 3 (some .int) :: tb) ({ frames := 2, cells := 0, slots := 0, locals := 47 } : Room) (va_Pc [.ref h, .int x1] (cP G k [(h, .inr (10, [.ref (a 0), .ref (a 2), .ref (a 6), .ref (a 8), .ref (a 15), .ref (a 17), .ref (a 22), .ref (a 23), .int 0, .int 0])), ((a 8), .inr (0, [.ref (a 9), .ref (a 10), .ref (a 11), .ref (a 12), .ref (a 13), .ref (a 14)])), ((a 13), .inl ((d 8), 30, .inl (fun _ => 0))), ((a 17), .inr (5, [.ref (a 18), .ref (a 19), .ref (a 20), .ref (a 21), .int 0, .long 0])), ((a 6), .inr (8, [.ref (a 7)])), ((a 7), .inl ((d 3), 9, .inl untold))] [((d 8), .int), ((d 3), .int)] sz)) (va_Qi (fun (r : Int32) (_ : Unit) => (r = (-1))) (cB G (fun (_ : Unit) => []) (fun (_ : Unit) => []) (va_A [(h, .inr (10, [.ref (a 0), .ref (a 2), .ref (a 6), .ref (a 8), .ref (a 15), .ref (a 17), .ref (a 22), .ref (a 23), .int 0, .int 0])), ((a 8), .inr (0, [.ref (a 9), .ref (a 10), .ref (a 11), .ref (a 12), .ref (a 13), .ref (a 14)])), ((a 13), .inl ((d 8), 30, .inl (fun _ => 0))), ((a 17), .inr (5, [.ref (a 18), .ref (a 19), .ref (a 20), .ref (a 21), .int 0, .long 0])), ((a 6), .inr (8, [.ref (a 7)])), ((a 7), .inl ((d 3), 9, .inl untold))] sz)) (va_A [(h, .inr (10, [.ref (a 0), .ref (a 2), .ref (a 6), .ref (a 8), .ref (a 15), .ref (a 17), .ref (a 22), .ref (a 23), .int 0, .int 0])), ((a 8), .inr (0, [.ref (a 9), .ref (a 10), .ref (a 11), .ref (a 12), .ref (a 13), .ref (a 14)])), ((a 13), .inl ((d 8), 30, .inl (fun _ => 0))), ((a 17), .inr (5, [.ref (a 18), .ref (a 19), .ref (a 20), .ref (a 21), .int 0, .long 0])), ((a 6), .inr (8, [.ref (a 7)])), ((a 7), .inl ((d 3), 9, .inl untold))] sz)) 0 0 (va_A [(h, .inr (10, [.ref (a 0), .ref (a 2), .ref (a 6), .ref (a 8), .ref (a 15), .ref (a 17), .ref (a 22), .ref (a 23), .int 0, .int 0])), ((a 8), .inr (0, [.ref (a 9), .ref (a 10), .ref (a 11), .ref (a 12), .ref (a 13), .ref (a 14)])), ((a 13), .inl ((d 8), 30, .inl (fun _ => 0))), ((a 17), .inr (5, [.ref (a 18), .ref (a 19), .ref (a 20), .ref (a 21), .int 0, .long 0])), ((a 6), .inr (8, [.ref (a 7)])), ((a 7), .inl ((d 3), 9, .inl untold))] sz) := by
  refine ofC_i (cc := cX10_stone) (maxL := 3) (ret := (some .int)) (by decide) rfl (Nat.le_of_ble_eq_true rfl) ?_
  intro p e s m args below meth c A ls Q F hr hin hlk St hl hQ
  have hx := F.1
  have hb := F.2.1
  have hl : lv_has ls 3 [(0, .ref h), (1, .int x1)] := hl
  have St : cS G k [(h, .inr (10, [.ref (a 0), .ref (a 2), .ref (a 6), .ref (a 8), .ref (a 15), .ref (a 17), .ref (a 22), .ref (a 23), .int 0, .int 0])), ((a 8), .inr (0, [.ref (a 9), .ref (a 10), .ref (a 11), .ref (a 12), .ref (a 13), .ref (a 14)])), ((a 13), .inl ((d 8), 30, .inl (fun _ => 0))), ((a 17), .inr (5, [.ref (a 18), .ref (a 19), .ref (a 20), .ref (a 21), .int 0, .long 0])), ((a 6), .inr (8, [.ref (a 7)])), ((a 7), .inl ((d 3), 9, .inl untold))] [((d 8), .int), ((d 3), .int)] A s s.heap [] := St
  refine lv_aload_n hx hb dX10_stone_0 rfl (lv_at hl 0 rfl) ?_
  refine cs_get F St 0 rfl rfl inX10 3 (by decide) kf_X10_33 rfl dX10_stone_1 ?_
  refine lv_aload_n hx hb dX10_stone_4 rfl (lv_at hl 0 rfl) ?_
  refine cs_get F St 0 rfl rfl inX10 5 (by decide) kf_X10_47 rfl dX10_stone_5 ?_
  refine lv_aload_n hx hb dX10_stone_8 rfl (lv_at hl 0 rfl) ?_
  refine cs_get F St 0 rfl rfl inX10 2 (by decide) kf_X10_26 rfl dX10_stone_9 ?_
  refine cs_i St [4, 5] [0, 1, 2, 3] (wc := [((a 6), .inr (8, [.ref (a 7)])), ((a 7), .inl ((d 3), 9, .inl untold))]) (wr := [(h, .inr (10, [.ref (a 0), .ref (a 2), .ref (a 6), .ref (a 8), .ref (a 15), .ref (a 17), .ref (a 22), .ref (a 23), .int 0, .int 0])), ((a 8), .inr (0, [.ref (a 9), .ref (a 10), .ref (a 11), .ref (a 12), .ref (a 13), .ref (a 14)])), ((a 13), .inl ((d 8), 30, .inl (fun _ => 0))), ((a 17), .inr (5, [.ref (a 18), .ref (a 19), .ref (a 20), .ref (a 21), .int 0, .long 0]))]) rfl rfl (by decide) (by decide) (va_runV (As := []) (rest := [.ref (a 17), .ref (a 8)]) F (c8_stonePence l G k _ (a 6) (a 7) (d 3)) (cwVt F mf_X8_stonePence km_X10_254 rfl rfl ⟨Nat.le_of_ble_eq_true rfl, Nat.le_of_ble_eq_true rfl⟩) (cs_preV St [4, 5] rfl (by decide) [1] rfl (ci := 8) (q0 := 4) rfl rfl) rfl rfl hl.1 rfl (lv_room (Nat.le_of_ble_eq_true rfl)) dX10_stone_12 ⟨Nat.le_of_ble_eq_true rfl, Nat.le_of_ble_eq_true rfl⟩) (fun r_1 u_2 H locs hw St => ?_)
  try dsimp only at hw
  have z_3 := hw
  subst r_1
  have St : cS G k [(h, .inr (10, [.ref (a 0), .ref (a 2), .ref (a 6), .ref (a 8), .ref (a 15), .ref (a 17), .ref (a 22), .ref (a 23), .int 0, .int 0])), ((a 8), .inr (0, [.ref (a 9), .ref (a 10), .ref (a 11), .ref (a 12), .ref (a 13), .ref (a 14)])), ((a 13), .inl ((d 8), 30, .inl (fun _ => 0))), ((a 17), .inr (5, [.ref (a 18), .ref (a 19), .ref (a 20), .ref (a 21), .int 0, .long 0])), ((a 6), .inr (8, [.ref (a 7)])), ((a 7), .inl ((d 3), 9, .inl untold))] [((d 8), .int), ((d 3), .int)] A s H locs := St
  refine cs_i St [1, 2, 3] [0, 4, 5] (wc := [((a 8), .inr (0, [.ref (a 9), .ref (a 10), .ref (a 11), .ref (a 12), .ref (a 13), .ref (a 14)])), ((a 13), .inl ((d 8), 30, .inl (fun _ => 0))), ((a 17), .inr (5, [.ref (a 18), .ref (a 19), .ref (a 20), .ref (a 21), .int 0, .long 0]))]) (wr := [(h, .inr (10, [.ref (a 0), .ref (a 2), .ref (a 6), .ref (a 8), .ref (a 15), .ref (a 17), .ref (a 22), .ref (a 23), .int 0, .int 0])), ((a 6), .inr (8, [.ref (a 7)])), ((a 7), .inl ((d 3), 9, .inl untold))]) rfl rfl (by decide) (by decide) (va_runV (As := [.ref (a 17), .int 100000]) (rest := []) F (c0_orderStones l G k _ (a 8) (a 9) (a 10) (a 11) (a 12) (a 13) (a 14) (d 8) (fun _ => 0) (a 17) (a 18) (a 19) (a 20) (a 21) 100000) (cwVt F mf_X0_orderStones km_X10_257 rfl rfl ⟨Nat.le_of_ble_eq_true rfl, Nat.le_of_ble_eq_true rfl⟩) (cs_preV St [1, 2, 3] rfl (by decide) [0] rfl (ci := 0) (q0 := 1) rfl rfl) rfl rfl hl.1 rfl (lv_room (Nat.le_of_ble_eq_true rfl)) dX10_stone_15 ⟨Nat.le_of_ble_eq_true rfl, Nat.le_of_ble_eq_true rfl⟩) (fun r_4 u_5 H locs hw St => ?_)
  obtain ⟨z4_6, rfl⟩ : ∃ z, z = u_5 := ⟨_, rfl⟩
  try dsimp only at hw
  have z_7 := hw
  subst r_4
  have St : cS G k [(h, .inr (10, [.ref (a 0), .ref (a 2), .ref (a 6), .ref (a 8), .ref (a 15), .ref (a 17), .ref (a 22), .ref (a 23), .int 0, .int 0])), ((a 6), .inr (8, [.ref (a 7)])), ((a 7), .inl ((d 3), 9, .inl untold)), ((a 8), .inr (0, [.ref (a 9), .ref (a 10), .ref (a 11), .ref (a 12), .ref (a 13), .ref (a 14)])), ((a 13), .inl ((d 8), 30, .inl z4_6)), ((a 17), .inr (5, [.ref (a 18), .ref (a 19), .ref (a 20), .ref (a 21), .int 0, .long 0]))] [((d 8), .int), ((d 3), .int)] A s H locs := St
  refine lv_istore_n (lv' := [(2, .int 0), (0, .ref h), (1, .int x1)]) hx hb dX10_stone_18 rfl hl (by decide) rfl (fun ls hl => ?_)
  refine lv_iload_n hx hb dX10_stone_19 rfl (lv_at hl 2 rfl) ?_
  refine lv_if_lt (tgt := 39) hx hb dX10_stone_20 (by decide) (fun c20 => ?_) (fun c20 => ?_)
  ·
    have i20 := ci_lt (x := x1) (y := 0) rfl (show (0 : Int32).toInt = 0 by decide) c20
    refine lv_iconst (v := (-1)) hx hb dX10_stone_39 (by decide) ?_
    exact cs_iret F hr hlk hQ St () (r := (-1)) rfl [] rfl (by decide) [] rfl (by decide) (by decide) dX10_stone_40
  ·
    have i20 := ci_nlt (x := x1) (y := 0) rfl (show (0 : Int32).toInt = 0 by decide) c20
    refine lv_iload_n hx hb dX10_stone_23 rfl (lv_at hl 2 rfl) ?_
    refine lv_iload_n hx hb dX10_stone_24 rfl (lv_at hl 0 rfl) ?_
    refine lv_icmp_ge (tgt := 39) hx hb dX10_stone_25 (by decide) (fun c25 => ?_) (fun c25 => ?_)
    rotate_left
    · have i25 := ci_nle (x := 0) (y := x1) (show (0 : Int32).toInt = 0 by decide) rfl c25; exact False.elim (by omega)
    have i25 := ci_le (x := 0) (y := x1) (show (0 : Int32).toInt = 0 by decide) rfl c25
    refine lv_iconst (v := (-1)) hx hb dX10_stone_39 (by decide) ?_
    exact cs_iret F hr hlk hQ St () (r := (-1)) rfl [] rfl (by decide) [] rfl (by decide) (by decide) dX10_stone_40
set_option maxHeartbeats 4000000 in
set_option maxRecDepth 100000 in
/-- stop on a new object -/
theorem x_stop (l : Launch) (G : va_G) (k : Nat → Nat) (sz : Nat) (h : Nat) (a : Nat → Nat) (d : Nat → ClassId) : Met l yX10_stop (Cond.code yX10_stop cX10_stop 2 (some .int) :: tb) ({ frames := 2, cells := 0, slots := 0, locals := 53 } : Room) (va_Pc [.ref h] (cP G k [(h, .inr (10, [.ref (a 0), .ref (a 2), .ref (a 6), .ref (a 8), .ref (a 15), .ref (a 17), .ref (a 22), .ref (a 23), .int 0, .int 0])), ((a 8), .inr (0, [.ref (a 9), .ref (a 10), .ref (a 11), .ref (a 12), .ref (a 13), .ref (a 14)])), ((a 12), .inl ((d 7), 30, .inl (fun _ => 0))), ((a 17), .inr (5, [.ref (a 18), .ref (a 19), .ref (a 20), .ref (a 21), .int 0, .long 0])), ((a 22), .inr (3, [.long 0, .long 0, .long 0, .long 0, .long 0, .long 0])), ((a 6), .inr (8, [.ref (a 7)])), ((a 7), .inl ((d 3), 9, .inl untold))] [((d 7), .int), ((d 3), .int)] sz)) (va_Qi (fun (r : Int32) (_ : Unit) => (r = 0)) (cB G (fun (_ : Unit) => []) (fun (_ : Unit) => []) (va_A [(h, .inr (10, [.ref (a 0), .ref (a 2), .ref (a 6), .ref (a 8), .ref (a 15), .ref (a 17), .ref (a 22), .ref (a 23), .int 0, .int 0])), ((a 8), .inr (0, [.ref (a 9), .ref (a 10), .ref (a 11), .ref (a 12), .ref (a 13), .ref (a 14)])), ((a 12), .inl ((d 7), 30, .inl (fun _ => 0))), ((a 17), .inr (5, [.ref (a 18), .ref (a 19), .ref (a 20), .ref (a 21), .int 0, .long 0])), ((a 22), .inr (3, [.long 0, .long 0, .long 0, .long 0, .long 0, .long 0])), ((a 6), .inr (8, [.ref (a 7)])), ((a 7), .inl ((d 3), 9, .inl untold))] sz)) (va_A [(h, .inr (10, [.ref (a 0), .ref (a 2), .ref (a 6), .ref (a 8), .ref (a 15), .ref (a 17), .ref (a 22), .ref (a 23), .int 0, .int 0])), ((a 8), .inr (0, [.ref (a 9), .ref (a 10), .ref (a 11), .ref (a 12), .ref (a 13), .ref (a 14)])), ((a 12), .inl ((d 7), 30, .inl (fun _ => 0))), ((a 17), .inr (5, [.ref (a 18), .ref (a 19), .ref (a 20), .ref (a 21), .int 0, .long 0])), ((a 22), .inr (3, [.long 0, .long 0, .long 0, .long 0, .long 0, .long 0])), ((a 6), .inr (8, [.ref (a 7)])), ((a 7), .inl ((d 3), 9, .inl untold))] sz)) 0 0 (va_A [(h, .inr (10, [.ref (a 0), .ref (a 2), .ref (a 6), .ref (a 8), .ref (a 15), .ref (a 17), .ref (a 22), .ref (a 23), .int 0, .int 0])), ((a 8), .inr (0, [.ref (a 9), .ref (a 10), .ref (a 11), .ref (a 12), .ref (a 13), .ref (a 14)])), ((a 12), .inl ((d 7), 30, .inl (fun _ => 0))), ((a 17), .inr (5, [.ref (a 18), .ref (a 19), .ref (a 20), .ref (a 21), .int 0, .long 0])), ((a 22), .inr (3, [.long 0, .long 0, .long 0, .long 0, .long 0, .long 0])), ((a 6), .inr (8, [.ref (a 7)])), ((a 7), .inl ((d 3), 9, .inl untold))] sz) := by
  refine ofC_i (cc := cX10_stop) (maxL := 2) (ret := (some .int)) (by decide) rfl (Nat.le_of_ble_eq_true rfl) ?_
  intro p e s m args below meth c A ls Q F hr hin hlk St hl hQ
  have hx := F.1
  have hb := F.2.1
  have hl : lv_has ls 2 [(0, .ref h)] := hl
  have St : cS G k [(h, .inr (10, [.ref (a 0), .ref (a 2), .ref (a 6), .ref (a 8), .ref (a 15), .ref (a 17), .ref (a 22), .ref (a 23), .int 0, .int 0])), ((a 8), .inr (0, [.ref (a 9), .ref (a 10), .ref (a 11), .ref (a 12), .ref (a 13), .ref (a 14)])), ((a 12), .inl ((d 7), 30, .inl (fun _ => 0))), ((a 17), .inr (5, [.ref (a 18), .ref (a 19), .ref (a 20), .ref (a 21), .int 0, .long 0])), ((a 22), .inr (3, [.long 0, .long 0, .long 0, .long 0, .long 0, .long 0])), ((a 6), .inr (8, [.ref (a 7)])), ((a 7), .inl ((d 3), 9, .inl untold))] [((d 7), .int), ((d 3), .int)] A s s.heap [] := St
  refine lv_aload_n hx hb dX10_stop_0 rfl (lv_at hl 0 rfl) ?_
  refine cs_get F St 0 rfl rfl inX10 9 (by decide) kf_X10_106 rfl dX10_stop_1 ?_
  refine lv_if_eq (tgt := 10) hx hb dX10_stop_4 (by decide) (fun c4 => ?_) (fun c4 => ?_)
  rotate_left
  · exact absurd (by decide) c4
  refine lv_aload_n hx hb dX10_stop_10 rfl (lv_at hl 0 rfl) ?_
  refine lv_iconst (v := 1) hx hb dX10_stop_11 (by decide) ?_
  refine cs_put F St 0 rfl rfl inX10 tyX10_ok nmX10 9 (by decide) kf_X10_106 rfl rfl rfl (Nat.le_of_ble_eq_true rfl) (w' := [(h, .inr (10, [.ref (a 0), .ref (a 2), .ref (a 6), .ref (a 8), .ref (a 15), .ref (a 17), .ref (a 22), .ref (a 23), .int 0, .int 1])), ((a 8), .inr (0, [.ref (a 9), .ref (a 10), .ref (a 11), .ref (a 12), .ref (a 13), .ref (a 14)])), ((a 12), .inl ((d 7), 30, .inl (fun _ => 0))), ((a 17), .inr (5, [.ref (a 18), .ref (a 19), .ref (a 20), .ref (a 21), .int 0, .long 0])), ((a 22), .inr (3, [.long 0, .long 0, .long 0, .long 0, .long 0, .long 0])), ((a 6), .inr (8, [.ref (a 7)])), ((a 7), .inl ((d 3), 9, .inl untold))]) rfl dX10_stop_12 (fun H locs St => ?_)
  refine lv_aload_n hx hb dX10_stop_15 rfl (lv_at hl 0 rfl) ?_
  refine cs_get F St 0 rfl rfl inX10 3 (by decide) kf_X10_33 rfl dX10_stop_16 ?_
  refine lv_aload_n hx hb dX10_stop_19 rfl (lv_at hl 0 rfl) ?_
  refine cs_get F St 0 rfl rfl inX10 6 (by decide) kf_X10_54 rfl dX10_stop_20 ?_
  refine cs_l St [4] [0, 1, 2, 3, 5, 6] (wc := [((a 22), .inr (3, [.long 0, .long 0, .long 0, .long 0, .long 0, .long 0]))]) (wr := [(h, .inr (10, [.ref (a 0), .ref (a 2), .ref (a 6), .ref (a 8), .ref (a 15), .ref (a 17), .ref (a 22), .ref (a 23), .int 0, .int 1])), ((a 8), .inr (0, [.ref (a 9), .ref (a 10), .ref (a 11), .ref (a 12), .ref (a 13), .ref (a 14)])), ((a 12), .inl ((d 7), 30, .inl (fun _ => 0))), ((a 17), .inr (5, [.ref (a 18), .ref (a 19), .ref (a 20), .ref (a 21), .int 0, .long 0])), ((a 6), .inr (8, [.ref (a 7)])), ((a 7), .inl ((d 3), 9, .inl untold))]) rfl rfl (by decide) (by decide) (va_runV (As := []) (rest := [.ref (a 8)]) F (c3_coin l G k _ (a 22)) (cwVt F mf_X3_coin km_X10_264 rfl rfl ⟨Nat.le_of_ble_eq_true rfl, Nat.le_of_ble_eq_true rfl⟩) (cs_preV St [4] rfl (by decide) [] rfl (ci := 3) (q0 := 4) rfl rfl) rfl rfl hl.1 rfl (lv_room (Nat.le_of_ble_eq_true rfl)) dX10_stop_23 ⟨Nat.le_of_ble_eq_true rfl, Nat.le_of_ble_eq_true rfl⟩) (fun r_1 u_2 H locs hw St => ?_)
  try dsimp only at hw
  have z_3 := hw
  subst r_1
  have St : cS G k [(h, .inr (10, [.ref (a 0), .ref (a 2), .ref (a 6), .ref (a 8), .ref (a 15), .ref (a 17), .ref (a 22), .ref (a 23), .int 0, .int 1])), ((a 8), .inr (0, [.ref (a 9), .ref (a 10), .ref (a 11), .ref (a 12), .ref (a 13), .ref (a 14)])), ((a 12), .inl ((d 7), 30, .inl (fun _ => 0))), ((a 17), .inr (5, [.ref (a 18), .ref (a 19), .ref (a 20), .ref (a 21), .int 0, .long 0])), ((a 6), .inr (8, [.ref (a 7)])), ((a 7), .inl ((d 3), 9, .inl untold)), ((a 22), .inr (3, [.long 0, .long 0, .long 0, .long 0, .long 0, .long 0]))] [((d 7), .int), ((d 3), .int)] A s H locs := St
  refine lv_aload_n hx hb dX10_stop_26 rfl (lv_at hl 0 rfl) ?_
  refine cs_get F St 0 rfl rfl inX10 5 (by decide) kf_X10_47 rfl dX10_stop_27 ?_
  refine lv_aload_n hx hb dX10_stop_30 rfl (lv_at hl 0 rfl) ?_
  refine cs_get F St 0 rfl rfl inX10 2 (by decide) kf_X10_26 rfl dX10_stop_31 ?_
  refine cs_i St [4, 5] [0, 1, 2, 3, 6] (wc := [((a 6), .inr (8, [.ref (a 7)])), ((a 7), .inl ((d 3), 9, .inl untold))]) (wr := [(h, .inr (10, [.ref (a 0), .ref (a 2), .ref (a 6), .ref (a 8), .ref (a 15), .ref (a 17), .ref (a 22), .ref (a 23), .int 0, .int 1])), ((a 8), .inr (0, [.ref (a 9), .ref (a 10), .ref (a 11), .ref (a 12), .ref (a 13), .ref (a 14)])), ((a 12), .inl ((d 7), 30, .inl (fun _ => 0))), ((a 17), .inr (5, [.ref (a 18), .ref (a 19), .ref (a 20), .ref (a 21), .int 0, .long 0])), ((a 22), .inr (3, [.long 0, .long 0, .long 0, .long 0, .long 0, .long 0]))]) rfl rfl (by decide) (by decide) (va_runV (As := []) (rest := [.ref (a 17), .long 0, .ref (a 8)]) F (c8_givesAllBack l G k _ (a 6) (a 7) (d 3)) (cwVt F mf_X8_givesAllBack km_X10_268 rfl rfl ⟨Nat.le_of_ble_eq_true rfl, Nat.le_of_ble_eq_true rfl⟩) (cs_preV St [4, 5] rfl (by decide) [1] rfl (ci := 8) (q0 := 4) rfl rfl) rfl rfl hl.1 rfl (lv_room (Nat.le_of_ble_eq_true rfl)) dX10_stop_34 ⟨Nat.le_of_ble_eq_true rfl, Nat.le_of_ble_eq_true rfl⟩) (fun r_4 u_5 H locs hw St => ?_)
  try dsimp only at hw
  have z_6 := hw
  subst r_4
  have St : cS G k [(h, .inr (10, [.ref (a 0), .ref (a 2), .ref (a 6), .ref (a 8), .ref (a 15), .ref (a 17), .ref (a 22), .ref (a 23), .int 0, .int 1])), ((a 8), .inr (0, [.ref (a 9), .ref (a 10), .ref (a 11), .ref (a 12), .ref (a 13), .ref (a 14)])), ((a 12), .inl ((d 7), 30, .inl (fun _ => 0))), ((a 17), .inr (5, [.ref (a 18), .ref (a 19), .ref (a 20), .ref (a 21), .int 0, .long 0])), ((a 22), .inr (3, [.long 0, .long 0, .long 0, .long 0, .long 0, .long 0])), ((a 6), .inr (8, [.ref (a 7)])), ((a 7), .inl ((d 3), 9, .inl untold))] [((d 7), .int), ((d 3), .int)] A s H locs := St
  refine cs_i St [1, 2, 3] [0, 4, 5, 6] (wc := [((a 8), .inr (0, [.ref (a 9), .ref (a 10), .ref (a 11), .ref (a 12), .ref (a 13), .ref (a 14)])), ((a 12), .inl ((d 7), 30, .inl (fun _ => 0))), ((a 17), .inr (5, [.ref (a 18), .ref (a 19), .ref (a 20), .ref (a 21), .int 0, .long 0]))]) (wr := [(h, .inr (10, [.ref (a 0), .ref (a 2), .ref (a 6), .ref (a 8), .ref (a 15), .ref (a 17), .ref (a 22), .ref (a 23), .int 0, .int 1])), ((a 22), .inr (3, [.long 0, .long 0, .long 0, .long 0, .long 0, .long 0])), ((a 6), .inr (8, [.ref (a 7)])), ((a 7), .inl ((d 3), 9, .inl untold))]) rfl rfl (by decide) (by decide) (va_runV (As := [.long 0, .ref (a 17), .int 0]) (rest := []) F (c0_partCoin l G k _ (a 8) (a 9) (a 10) (a 11) (a 12) (a 13) (a 14) (d 7) (a 17) (a 18) (a 19) (a 20) (a 21)) (cwVt F mf_X0_partCoin km_X10_271 rfl rfl ⟨Nat.le_of_ble_eq_true rfl, Nat.le_of_ble_eq_true rfl⟩) (cs_preV St [1, 2, 3] rfl (by decide) [0] rfl (ci := 0) (q0 := 1) rfl rfl) rfl rfl hl.1 rfl (lv_room (Nat.le_of_ble_eq_true rfl)) dX10_stop_37 ⟨Nat.le_of_ble_eq_true rfl, Nat.le_of_ble_eq_true rfl⟩) (fun r_7 u_8 H locs hw St => ?_)
  try dsimp only at hw
  have z_9 := hw
  subst r_7
  have St : cS G k [(h, .inr (10, [.ref (a 0), .ref (a 2), .ref (a 6), .ref (a 8), .ref (a 15), .ref (a 17), .ref (a 22), .ref (a 23), .int 0, .int 1])), ((a 22), .inr (3, [.long 0, .long 0, .long 0, .long 0, .long 0, .long 0])), ((a 6), .inr (8, [.ref (a 7)])), ((a 7), .inl ((d 3), 9, .inl untold)), ((a 8), .inr (0, [.ref (a 9), .ref (a 10), .ref (a 11), .ref (a 12), .ref (a 13), .ref (a 14)])), ((a 12), .inl ((d 7), 30, .inl (fun _ => 0))), ((a 17), .inr (5, [.ref (a 18), .ref (a 19), .ref (a 20), .ref (a 21), .int 0, .long 0]))] [((d 7), .int), ((d 3), .int)] A s H locs := St
  refine lv_istore_n (lv' := [(1, .int 0), (0, .ref h)]) hx hb dX10_stop_40 rfl hl (by decide) rfl (fun ls hl => ?_)
  refine lv_aload_n hx hb dX10_stop_41 rfl (lv_at hl 1 rfl) ?_
  refine cs_get F St 0 rfl rfl inX10 6 (by decide) kf_X10_54 rfl dX10_stop_42 ?_
  refine lv_iload_n hx hb dX10_stop_45 rfl (lv_at hl 0 rfl) ?_
  refine cs_v St [1] [0, 2, 3, 4, 5, 6] (wc := [((a 22), .inr (3, [.long 0, .long 0, .long 0, .long 0, .long 0, .long 0]))]) (wr := [(h, .inr (10, [.ref (a 0), .ref (a 2), .ref (a 6), .ref (a 8), .ref (a 15), .ref (a 17), .ref (a 22), .ref (a 23), .int 0, .int 1])), ((a 6), .inr (8, [.ref (a 7)])), ((a 7), .inl ((d 3), 9, .inl untold)), ((a 8), .inr (0, [.ref (a 9), .ref (a 10), .ref (a 11), .ref (a 12), .ref (a 13), .ref (a 14)])), ((a 12), .inl ((d 7), 30, .inl (fun _ => 0))), ((a 17), .inr (5, [.ref (a 18), .ref (a 19), .ref (a 20), .ref (a 21), .int 0, .long 0]))]) rfl rfl (by decide) (by decide) (va_runV (As := [.int 0]) (rest := []) F (c3_giveBack l G k _ (a 22)) (cwVt F mf_X3_giveBack km_X10_275 rfl rfl ⟨Nat.le_of_ble_eq_true rfl, Nat.le_of_ble_eq_true rfl⟩) (cs_preV St [1] rfl (by decide) [] rfl (ci := 3) (q0 := 1) rfl rfl) rfl rfl hl.1 rfl (lv_room (Nat.le_of_ble_eq_true rfl)) dX10_stop_46 ⟨Nat.le_of_ble_eq_true rfl, Nat.le_of_ble_eq_true rfl⟩) (fun u_11 H locs hw St => ?_)
  try dsimp only at hw
  have St : cS G k [(h, .inr (10, [.ref (a 0), .ref (a 2), .ref (a 6), .ref (a 8), .ref (a 15), .ref (a 17), .ref (a 22), .ref (a 23), .int 0, .int 1])), ((a 6), .inr (8, [.ref (a 7)])), ((a 7), .inl ((d 3), 9, .inl untold)), ((a 8), .inr (0, [.ref (a 9), .ref (a 10), .ref (a 11), .ref (a 12), .ref (a 13), .ref (a 14)])), ((a 12), .inl ((d 7), 30, .inl (fun _ => 0))), ((a 17), .inr (5, [.ref (a 18), .ref (a 19), .ref (a 20), .ref (a 21), .int 0, .long 0])), ((a 22), .inr (3, [.long 0, .long 0, .long 0, .long 0, .long 0, .long 0]))] [((d 7), .int), ((d 3), .int)] A s H locs := St
  refine lv_iload_n hx hb dX10_stop_49 rfl (lv_at hl 0 rfl) ?_
  exact cs_iret F hr hlk hQ St () (r := 0) rfl [] rfl (by decide) [] rfl (by decide) (by decide) dX10_stop_50
set_option maxHeartbeats 4000000 in
set_option maxRecDepth 100000 in
/-- back on a new object -/
theorem x_back (l : Launch) (G : va_G) (k : Nat → Nat) (sz : Nat) (h : Nat) (a : Nat → Nat) (d : Nat → ClassId) (x1 : Int32) : Met l yX10_back (Cond.code yX10_back cX10_back 2 (some .int) :: tb) ({ frames := 2, cells := 0, slots := 0, locals := 41 } : Room) (va_Pc [.ref h, .int x1] (cP G k [(h, .inr (10, [.ref (a 0), .ref (a 2), .ref (a 6), .ref (a 8), .ref (a 15), .ref (a 17), .ref (a 22), .ref (a 23), .int 0, .int 0])), ((a 8), .inr (0, [.ref (a 9), .ref (a 10), .ref (a 11), .ref (a 12), .ref (a 13), .ref (a 14)])), ((a 12), .inl ((d 7), 30, .inl (fun _ => 0)))] [((d 7), .int)] sz)) (va_Qi (fun (r : Int32) (_ : Unit) => ((r = 0) ∧ (0 ≤ x1.toInt ∧ x1.toInt ≤ 29)) ∨ ((r = (-2)) ∧ (¬ (0 ≤ x1.toInt ∧ x1.toInt ≤ 29)))) (cB G (fun (_ : Unit) => []) (fun (_ : Unit) => []) (va_A [(h, .inr (10, [.ref (a 0), .ref (a 2), .ref (a 6), .ref (a 8), .ref (a 15), .ref (a 17), .ref (a 22), .ref (a 23), .int 0, .int 0])), ((a 8), .inr (0, [.ref (a 9), .ref (a 10), .ref (a 11), .ref (a 12), .ref (a 13), .ref (a 14)])), ((a 12), .inl ((d 7), 30, .inl (fun _ => 0)))] sz)) (va_A [(h, .inr (10, [.ref (a 0), .ref (a 2), .ref (a 6), .ref (a 8), .ref (a 15), .ref (a 17), .ref (a 22), .ref (a 23), .int 0, .int 0])), ((a 8), .inr (0, [.ref (a 9), .ref (a 10), .ref (a 11), .ref (a 12), .ref (a 13), .ref (a 14)])), ((a 12), .inl ((d 7), 30, .inl (fun _ => 0)))] sz)) 0 0 (va_A [(h, .inr (10, [.ref (a 0), .ref (a 2), .ref (a 6), .ref (a 8), .ref (a 15), .ref (a 17), .ref (a 22), .ref (a 23), .int 0, .int 0])), ((a 8), .inr (0, [.ref (a 9), .ref (a 10), .ref (a 11), .ref (a 12), .ref (a 13), .ref (a 14)])), ((a 12), .inl ((d 7), 30, .inl (fun _ => 0)))] sz) := by
  refine ofC_i (cc := cX10_back) (maxL := 2) (ret := (some .int)) (by decide) rfl (Nat.le_of_ble_eq_true rfl) ?_
  intro p e s m args below meth c A ls Q F hr hin hlk St hl hQ
  have hx := F.1
  have hb := F.2.1
  have hl : lv_has ls 2 [(0, .ref h), (1, .int x1)] := hl
  have St : cS G k [(h, .inr (10, [.ref (a 0), .ref (a 2), .ref (a 6), .ref (a 8), .ref (a 15), .ref (a 17), .ref (a 22), .ref (a 23), .int 0, .int 0])), ((a 8), .inr (0, [.ref (a 9), .ref (a 10), .ref (a 11), .ref (a 12), .ref (a 13), .ref (a 14)])), ((a 12), .inl ((d 7), 30, .inl (fun _ => 0)))] [((d 7), .int)] A s s.heap [] := St
  refine lv_iload_n hx hb dX10_back_0 rfl (lv_at hl 1 rfl) ?_
  refine cs_i St [] [0, 1, 2] (wc := []) (wr := [(h, .inr (10, [.ref (a 0), .ref (a 2), .ref (a 6), .ref (a 8), .ref (a 15), .ref (a 17), .ref (a 22), .ref (a 23), .int 0, .int 0])), ((a 8), .inr (0, [.ref (a 9), .ref (a 10), .ref (a 11), .ref (a 12), .ref (a 13), .ref (a 14)])), ((a 12), .inl ((d 7), 30, .inl (fun _ => 0)))]) rfl rfl (by decide) (by decide) (va_runS (As := [.int x1]) (rest := []) F (c10_isGiver l G k _ x1) (cwSt F mf_X10_isGiver km_X10_102 rfl rfl ⟨Nat.le_of_ble_eq_true rfl, Nat.le_of_ble_eq_true rfl⟩) (cs_pre St [] rfl (by decide) [] rfl) rfl rfl hl.1 rfl (lv_room (Nat.le_of_ble_eq_true rfl)) dX10_back_1 ⟨Nat.le_of_ble_eq_true rfl, Nat.le_of_ble_eq_true rfl⟩) (fun r_1 u_2 H locs hw St => ?_)
  try dsimp only at hw
  rcases hw with ⟨z_3, hf_4⟩ | ⟨z_5, hf_6⟩
  ·
    subst r_1
    have St : cS G k [(h, .inr (10, [.ref (a 0), .ref (a 2), .ref (a 6), .ref (a 8), .ref (a 15), .ref (a 17), .ref (a 22), .ref (a 23), .int 0, .int 0])), ((a 8), .inr (0, [.ref (a 9), .ref (a 10), .ref (a 11), .ref (a 12), .ref (a 13), .ref (a 14)])), ((a 12), .inl ((d 7), 30, .inl (fun _ => 0)))] [((d 7), .int)] A s H locs := St
    refine lv_if_eq (tgt := 18) hx hb dX10_back_4 (by decide) (fun c4 => ?_) (fun c4 => ?_)
    · exact absurd c4 (by decide)
    refine lv_aload_n hx hb dX10_back_7 rfl (lv_at hl 0 rfl) ?_
    refine cs_get F St 0 rfl rfl inX10 3 (by decide) kf_X10_33 rfl dX10_back_8 ?_
    refine lv_iload_n hx hb dX10_back_11 rfl (lv_at hl 1 rfl) ?_
    refine cs_i St [1, 2] [0] (wc := [((a 8), .inr (0, [.ref (a 9), .ref (a 10), .ref (a 11), .ref (a 12), .ref (a 13), .ref (a 14)])), ((a 12), .inl ((d 7), 30, .inl (fun _ => 0)))]) (wr := [(h, .inr (10, [.ref (a 0), .ref (a 2), .ref (a 6), .ref (a 8), .ref (a 15), .ref (a 17), .ref (a 22), .ref (a 23), .int 0, .int 0]))]) rfl rfl (by decide) (by decide) (va_runV (As := [.int x1]) (rest := []) F (c0_gotBack l G k _ (a 8) (a 9) (a 10) (a 11) (a 12) (a 13) (a 14) (d 7) x1 (by omega)) (cwVt F mf_X0_gotBack km_X10_278 rfl rfl ⟨Nat.le_of_ble_eq_true rfl, Nat.le_of_ble_eq_true rfl⟩) (cs_preV St [1, 2] rfl (by decide) [0] rfl (ci := 0) (q0 := 1) rfl rfl) rfl rfl hl.1 rfl (lv_room (Nat.le_of_ble_eq_true rfl)) dX10_back_12 ⟨Nat.le_of_ble_eq_true rfl, Nat.le_of_ble_eq_true rfl⟩) (fun r_7 u_8 H locs hw St => ?_)
    try dsimp only at hw
    have z_9 := hw
    subst r_7
    have St : cS G k [(h, .inr (10, [.ref (a 0), .ref (a 2), .ref (a 6), .ref (a 8), .ref (a 15), .ref (a 17), .ref (a 22), .ref (a 23), .int 0, .int 0])), ((a 8), .inr (0, [.ref (a 9), .ref (a 10), .ref (a 11), .ref (a 12), .ref (a 13), .ref (a 14)])), ((a 12), .inl ((d 7), 30, .inl (fun _ => 0)))] [((d 7), .int)] A s H locs := St
    refine lv_goto (tgt := 20) hx hb dX10_back_15 (by decide) ?_
    exact cs_iret F hr hlk hQ St () (r := 0) (Or.inl ⟨rfl, by omega⟩) [] rfl (by decide) [] rfl (by decide) (by decide) dX10_back_20
  ·
    subst r_1
    have St : cS G k [(h, .inr (10, [.ref (a 0), .ref (a 2), .ref (a 6), .ref (a 8), .ref (a 15), .ref (a 17), .ref (a 22), .ref (a 23), .int 0, .int 0])), ((a 8), .inr (0, [.ref (a 9), .ref (a 10), .ref (a 11), .ref (a 12), .ref (a 13), .ref (a 14)])), ((a 12), .inl ((d 7), 30, .inl (fun _ => 0)))] [((d 7), .int)] A s H locs := St
    refine lv_if_eq (tgt := 18) hx hb dX10_back_4 (by decide) (fun c4 => ?_) (fun c4 => ?_)
    rotate_left
    · exact absurd (by decide) c4
    refine lv_bipush (v := (-2)) hx hb dX10_back_18 (by decide) ?_
    exact cs_iret F hr hlk hQ St () (r := (-2)) (Or.inr ⟨rfl, by omega⟩) [] rfl (by decide) [] rfl (by decide) (by decide) dX10_back_20
set_option maxHeartbeats 4000000 in
set_option maxRecDepth 100000 in
/-- count on a new object -/
theorem x_count (l : Launch) (G : va_G) (k : Nat → Nat) (sz : Nat) (h : Nat) (a : Nat → Nat) (d : Nat → ClassId) (x1 : Int32) : Met l yX10_count (Cond.code yX10_count cX10_count 2 (some .int) :: tb) ({ frames := 2, cells := 0, slots := 0, locals := 47 } : Room) (va_Pc [.ref h, .int x1] (cP G k [(h, .inr (10, [.ref (a 0), .ref (a 2), .ref (a 6), .ref (a 8), .ref (a 15), .ref (a 17), .ref (a 22), .ref (a 23), .int 0, .int 0])), ((a 22), .inr (3, [.long 0, .long 0, .long 0, .long 0, .long 0, .long 0])), ((a 17), .inr (5, [.ref (a 18), .ref (a 19), .ref (a 20), .ref (a 21), .int 0, .long 0])), ((a 15), .inr (2, [.ref (a 16), .int 0])), ((a 23), .inr (7, [.ref (a 24), .int 0, .int 0])), ((a 0), .inr (6, [.ref (a 1), .int 0])), ((a 8), .inr (0, [.ref (a 9), .ref (a 10), .ref (a 11), .ref (a 12), .ref (a 13), .ref (a 14)])), ((a 13), .inl ((d 8), 30, .inl (fun _ => 0))), ((a 6), .inr (8, [.ref (a 7)])), ((a 7), .inl ((d 3), 9, .inl untold))] [((d 8), .int), ((d 3), .int)] sz)) (va_Qi (fun (r : Int32) (_ : Unit) => ((r = 0) ∧ (0 ≤ x1.toInt ∧ x1.toInt ≤ 14)) ∨ ((r = (-1)) ∧ (¬ (0 ≤ x1.toInt ∧ x1.toInt ≤ 14)))) (cB G (fun (_ : Unit) => []) (fun (_ : Unit) => []) (va_A [(h, .inr (10, [.ref (a 0), .ref (a 2), .ref (a 6), .ref (a 8), .ref (a 15), .ref (a 17), .ref (a 22), .ref (a 23), .int 0, .int 0])), ((a 22), .inr (3, [.long 0, .long 0, .long 0, .long 0, .long 0, .long 0])), ((a 17), .inr (5, [.ref (a 18), .ref (a 19), .ref (a 20), .ref (a 21), .int 0, .long 0])), ((a 15), .inr (2, [.ref (a 16), .int 0])), ((a 23), .inr (7, [.ref (a 24), .int 0, .int 0])), ((a 0), .inr (6, [.ref (a 1), .int 0])), ((a 8), .inr (0, [.ref (a 9), .ref (a 10), .ref (a 11), .ref (a 12), .ref (a 13), .ref (a 14)])), ((a 13), .inl ((d 8), 30, .inl (fun _ => 0))), ((a 6), .inr (8, [.ref (a 7)])), ((a 7), .inl ((d 3), 9, .inl untold))] sz)) (va_A [(h, .inr (10, [.ref (a 0), .ref (a 2), .ref (a 6), .ref (a 8), .ref (a 15), .ref (a 17), .ref (a 22), .ref (a 23), .int 0, .int 0])), ((a 22), .inr (3, [.long 0, .long 0, .long 0, .long 0, .long 0, .long 0])), ((a 17), .inr (5, [.ref (a 18), .ref (a 19), .ref (a 20), .ref (a 21), .int 0, .long 0])), ((a 15), .inr (2, [.ref (a 16), .int 0])), ((a 23), .inr (7, [.ref (a 24), .int 0, .int 0])), ((a 0), .inr (6, [.ref (a 1), .int 0])), ((a 8), .inr (0, [.ref (a 9), .ref (a 10), .ref (a 11), .ref (a 12), .ref (a 13), .ref (a 14)])), ((a 13), .inl ((d 8), 30, .inl (fun _ => 0))), ((a 6), .inr (8, [.ref (a 7)])), ((a 7), .inl ((d 3), 9, .inl untold))] sz)) 0 0 (va_A [(h, .inr (10, [.ref (a 0), .ref (a 2), .ref (a 6), .ref (a 8), .ref (a 15), .ref (a 17), .ref (a 22), .ref (a 23), .int 0, .int 0])), ((a 22), .inr (3, [.long 0, .long 0, .long 0, .long 0, .long 0, .long 0])), ((a 17), .inr (5, [.ref (a 18), .ref (a 19), .ref (a 20), .ref (a 21), .int 0, .long 0])), ((a 15), .inr (2, [.ref (a 16), .int 0])), ((a 23), .inr (7, [.ref (a 24), .int 0, .int 0])), ((a 0), .inr (6, [.ref (a 1), .int 0])), ((a 8), .inr (0, [.ref (a 9), .ref (a 10), .ref (a 11), .ref (a 12), .ref (a 13), .ref (a 14)])), ((a 13), .inl ((d 8), 30, .inl (fun _ => 0))), ((a 6), .inr (8, [.ref (a 7)])), ((a 7), .inl ((d 3), 9, .inl untold))] sz) := by
  refine ofC_i (cc := cX10_count) (maxL := 2) (ret := (some .int)) (by decide) rfl (Nat.le_of_ble_eq_true rfl) ?_
  intro p e s m args below meth c A ls Q F hr hin hlk St hl hQ
  have hx := F.1
  have hb := F.2.1
  have hl : lv_has ls 2 [(0, .ref h), (1, .int x1)] := hl
  have St : cS G k [(h, .inr (10, [.ref (a 0), .ref (a 2), .ref (a 6), .ref (a 8), .ref (a 15), .ref (a 17), .ref (a 22), .ref (a 23), .int 0, .int 0])), ((a 22), .inr (3, [.long 0, .long 0, .long 0, .long 0, .long 0, .long 0])), ((a 17), .inr (5, [.ref (a 18), .ref (a 19), .ref (a 20), .ref (a 21), .int 0, .long 0])), ((a 15), .inr (2, [.ref (a 16), .int 0])), ((a 23), .inr (7, [.ref (a 24), .int 0, .int 0])), ((a 0), .inr (6, [.ref (a 1), .int 0])), ((a 8), .inr (0, [.ref (a 9), .ref (a 10), .ref (a 11), .ref (a 12), .ref (a 13), .ref (a 14)])), ((a 13), .inl ((d 8), 30, .inl (fun _ => 0))), ((a 6), .inr (8, [.ref (a 7)])), ((a 7), .inl ((d 3), 9, .inl untold))] [((d 8), .int), ((d 3), .int)] A s s.heap [] := St
  refine lv_iload_n hx hb dX10_count_0 rfl (lv_at hl 1 rfl) ?_
  by_cases w1_0 : x1 = 0
  ·
    subst w1_0
    refine lv_tableIn (tgt := 76) (off := 75) hx hb dX10_count_1 (by decide) (by decide) (by decide) (by decide) ?_
    refine lv_aload_n hx hb dX10_count_76 rfl (lv_at hl 0 rfl) ?_
    refine cs_get F St 0 rfl rfl inX10 8 (by decide) kf_X10_123 rfl dX10_count_77 ?_
    exact cs_iret F hr hlk hQ St () (r := 0) (Or.inl ⟨rfl, by decide⟩) [] rfl (by decide) [] rfl (by decide) (by decide) dX10_count_80
  by_cases w1_1 : x1 = 1
  ·
    subst w1_1
    refine lv_tableIn (tgt := 81) (off := 80) hx hb dX10_count_1 (by decide) (by decide) (by decide) (by decide) ?_
    refine lv_aload_n hx hb dX10_count_81 rfl (lv_at hl 0 rfl) ?_
    refine cs_get F St 0 rfl rfl inX10 6 (by decide) kf_X10_54 rfl dX10_count_82 ?_
    refine cs_l St [1] [0, 2, 3, 4, 5, 6, 7, 8, 9] (wc := [((a 22), .inr (3, [.long 0, .long 0, .long 0, .long 0, .long 0, .long 0]))]) (wr := [(h, .inr (10, [.ref (a 0), .ref (a 2), .ref (a 6), .ref (a 8), .ref (a 15), .ref (a 17), .ref (a 22), .ref (a 23), .int 0, .int 0])), ((a 17), .inr (5, [.ref (a 18), .ref (a 19), .ref (a 20), .ref (a 21), .int 0, .long 0])), ((a 15), .inr (2, [.ref (a 16), .int 0])), ((a 23), .inr (7, [.ref (a 24), .int 0, .int 0])), ((a 0), .inr (6, [.ref (a 1), .int 0])), ((a 8), .inr (0, [.ref (a 9), .ref (a 10), .ref (a 11), .ref (a 12), .ref (a 13), .ref (a 14)])), ((a 13), .inl ((d 8), 30, .inl (fun _ => 0))), ((a 6), .inr (8, [.ref (a 7)])), ((a 7), .inl ((d 3), 9, .inl untold))]) rfl rfl (by decide) (by decide) (va_runV (As := []) (rest := []) F (c3_coin l G k _ (a 22)) (cwVt F mf_X3_coin km_X10_264 rfl rfl ⟨Nat.le_of_ble_eq_true rfl, Nat.le_of_ble_eq_true rfl⟩) (cs_preV St [1] rfl (by decide) [] rfl (ci := 3) (q0 := 1) rfl rfl) rfl rfl hl.1 rfl (lv_room (Nat.le_of_ble_eq_true rfl)) dX10_count_85 ⟨Nat.le_of_ble_eq_true rfl, Nat.le_of_ble_eq_true rfl⟩) (fun r_1 u_2 H locs hw St => ?_)
    try dsimp only at hw
    have z_3 := hw
    subst r_1
    have St : cS G k [(h, .inr (10, [.ref (a 0), .ref (a 2), .ref (a 6), .ref (a 8), .ref (a 15), .ref (a 17), .ref (a 22), .ref (a 23), .int 0, .int 0])), ((a 17), .inr (5, [.ref (a 18), .ref (a 19), .ref (a 20), .ref (a 21), .int 0, .long 0])), ((a 15), .inr (2, [.ref (a 16), .int 0])), ((a 23), .inr (7, [.ref (a 24), .int 0, .int 0])), ((a 0), .inr (6, [.ref (a 1), .int 0])), ((a 8), .inr (0, [.ref (a 9), .ref (a 10), .ref (a 11), .ref (a 12), .ref (a 13), .ref (a 14)])), ((a 13), .inl ((d 8), 30, .inl (fun _ => 0))), ((a 6), .inr (8, [.ref (a 7)])), ((a 7), .inl ((d 3), 9, .inl untold)), ((a 22), .inr (3, [.long 0, .long 0, .long 0, .long 0, .long 0, .long 0]))] [((d 8), .int), ((d 3), .int)] A s H locs := St
    refine lv_l2i (v := 0) hx hb dX10_count_88 (by decide) ?_
    exact cs_iret F hr hlk hQ St () (r := 0) (Or.inl ⟨rfl, by decide⟩) [] rfl (by decide) [] rfl (by decide) (by decide) dX10_count_89
  by_cases w1_2 : x1 = 2
  ·
    subst w1_2
    refine lv_tableIn (tgt := 90) (off := 89) hx hb dX10_count_1 (by decide) (by decide) (by decide) (by decide) ?_
    refine lv_aload_n hx hb dX10_count_90 rfl (lv_at hl 0 rfl) ?_
    refine cs_get F St 0 rfl rfl inX10 6 (by decide) kf_X10_54 rfl dX10_count_91 ?_
    refine cs_l St [1] [0, 2, 3, 4, 5, 6, 7, 8, 9] (wc := [((a 22), .inr (3, [.long 0, .long 0, .long 0, .long 0, .long 0, .long 0]))]) (wr := [(h, .inr (10, [.ref (a 0), .ref (a 2), .ref (a 6), .ref (a 8), .ref (a 15), .ref (a 17), .ref (a 22), .ref (a 23), .int 0, .int 0])), ((a 17), .inr (5, [.ref (a 18), .ref (a 19), .ref (a 20), .ref (a 21), .int 0, .long 0])), ((a 15), .inr (2, [.ref (a 16), .int 0])), ((a 23), .inr (7, [.ref (a 24), .int 0, .int 0])), ((a 0), .inr (6, [.ref (a 1), .int 0])), ((a 8), .inr (0, [.ref (a 9), .ref (a 10), .ref (a 11), .ref (a 12), .ref (a 13), .ref (a 14)])), ((a 13), .inl ((d 8), 30, .inl (fun _ => 0))), ((a 6), .inr (8, [.ref (a 7)])), ((a 7), .inl ((d 3), 9, .inl untold))]) rfl rfl (by decide) (by decide) (va_runV (As := []) (rest := []) F (c3_loan l G k _ (a 22)) (cwVt F mf_X3_loan km_X10_281 rfl rfl ⟨Nat.le_of_ble_eq_true rfl, Nat.le_of_ble_eq_true rfl⟩) (cs_preV St [1] rfl (by decide) [] rfl (ci := 3) (q0 := 1) rfl rfl) rfl rfl hl.1 rfl (lv_room (Nat.le_of_ble_eq_true rfl)) dX10_count_94 ⟨Nat.le_of_ble_eq_true rfl, Nat.le_of_ble_eq_true rfl⟩) (fun r_4 u_5 H locs hw St => ?_)
    try dsimp only at hw
    have z_6 := hw
    subst r_4
    have St : cS G k [(h, .inr (10, [.ref (a 0), .ref (a 2), .ref (a 6), .ref (a 8), .ref (a 15), .ref (a 17), .ref (a 22), .ref (a 23), .int 0, .int 0])), ((a 17), .inr (5, [.ref (a 18), .ref (a 19), .ref (a 20), .ref (a 21), .int 0, .long 0])), ((a 15), .inr (2, [.ref (a 16), .int 0])), ((a 23), .inr (7, [.ref (a 24), .int 0, .int 0])), ((a 0), .inr (6, [.ref (a 1), .int 0])), ((a 8), .inr (0, [.ref (a 9), .ref (a 10), .ref (a 11), .ref (a 12), .ref (a 13), .ref (a 14)])), ((a 13), .inl ((d 8), 30, .inl (fun _ => 0))), ((a 6), .inr (8, [.ref (a 7)])), ((a 7), .inl ((d 3), 9, .inl untold)), ((a 22), .inr (3, [.long 0, .long 0, .long 0, .long 0, .long 0, .long 0]))] [((d 8), .int), ((d 3), .int)] A s H locs := St
    refine lv_l2i (v := 0) hx hb dX10_count_97 (by decide) ?_
    exact cs_iret F hr hlk hQ St () (r := 0) (Or.inl ⟨rfl, by decide⟩) [] rfl (by decide) [] rfl (by decide) (by decide) dX10_count_98
  by_cases w1_3 : x1 = 3
  ·
    subst w1_3
    refine lv_tableIn (tgt := 99) (off := 98) hx hb dX10_count_1 (by decide) (by decide) (by decide) (by decide) ?_
    refine lv_aload_n hx hb dX10_count_99 rfl (lv_at hl 0 rfl) ?_
    refine cs_get F St 0 rfl rfl inX10 5 (by decide) kf_X10_47 rfl dX10_count_100 ?_
    refine cs_l St [2] [0, 1, 3, 4, 5, 6, 7, 8, 9] (wc := [((a 17), .inr (5, [.ref (a 18), .ref (a 19), .ref (a 20), .ref (a 21), .int 0, .long 0]))]) (wr := [(h, .inr (10, [.ref (a 0), .ref (a 2), .ref (a 6), .ref (a 8), .ref (a 15), .ref (a 17), .ref (a 22), .ref (a 23), .int 0, .int 0])), ((a 22), .inr (3, [.long 0, .long 0, .long 0, .long 0, .long 0, .long 0])), ((a 15), .inr (2, [.ref (a 16), .int 0])), ((a 23), .inr (7, [.ref (a 24), .int 0, .int 0])), ((a 0), .inr (6, [.ref (a 1), .int 0])), ((a 8), .inr (0, [.ref (a 9), .ref (a 10), .ref (a 11), .ref (a 12), .ref (a 13), .ref (a 14)])), ((a 13), .inl ((d 8), 30, .inl (fun _ => 0))), ((a 6), .inr (8, [.ref (a 7)])), ((a 7), .inl ((d 3), 9, .inl untold))]) rfl rfl (by decide) (by decide) (va_runV (As := []) (rest := []) F (c5_total l G k _ (a 17) (a 18) (a 19) (a 20) (a 21)) (cwVt F mf_X5_total km_X10_284 rfl rfl ⟨Nat.le_of_ble_eq_true rfl, Nat.le_of_ble_eq_true rfl⟩) (cs_preV St [2] rfl (by decide) [] rfl (ci := 5) (q0 := 2) rfl rfl) rfl rfl hl.1 rfl (lv_room (Nat.le_of_ble_eq_true rfl)) dX10_count_103 ⟨Nat.le_of_ble_eq_true rfl, Nat.le_of_ble_eq_true rfl⟩) (fun r_7 u_8 H locs hw St => ?_)
    try dsimp only at hw
    have z_9 := hw
    subst r_7
    have St : cS G k [(h, .inr (10, [.ref (a 0), .ref (a 2), .ref (a 6), .ref (a 8), .ref (a 15), .ref (a 17), .ref (a 22), .ref (a 23), .int 0, .int 0])), ((a 22), .inr (3, [.long 0, .long 0, .long 0, .long 0, .long 0, .long 0])), ((a 15), .inr (2, [.ref (a 16), .int 0])), ((a 23), .inr (7, [.ref (a 24), .int 0, .int 0])), ((a 0), .inr (6, [.ref (a 1), .int 0])), ((a 8), .inr (0, [.ref (a 9), .ref (a 10), .ref (a 11), .ref (a 12), .ref (a 13), .ref (a 14)])), ((a 13), .inl ((d 8), 30, .inl (fun _ => 0))), ((a 6), .inr (8, [.ref (a 7)])), ((a 7), .inl ((d 3), 9, .inl untold)), ((a 17), .inr (5, [.ref (a 18), .ref (a 19), .ref (a 20), .ref (a 21), .int 0, .long 0]))] [((d 8), .int), ((d 3), .int)] A s H locs := St
    refine lv_l2i (v := 0) hx hb dX10_count_106 (by decide) ?_
    exact cs_iret F hr hlk hQ St () (r := 0) (Or.inl ⟨rfl, by decide⟩) [] rfl (by decide) [] rfl (by decide) (by decide) dX10_count_107
  by_cases w1_4 : x1 = 4
  ·
    subst w1_4
    refine lv_tableIn (tgt := 108) (off := 107) hx hb dX10_count_1 (by decide) (by decide) (by decide) (by decide) ?_
    refine lv_aload_n hx hb dX10_count_108 rfl (lv_at hl 0 rfl) ?_
    refine cs_get F St 0 rfl rfl inX10 6 (by decide) kf_X10_54 rfl dX10_count_109 ?_
    refine cs_l St [1] [0, 2, 3, 4, 5, 6, 7, 8, 9] (wc := [((a 22), .inr (3, [.long 0, .long 0, .long 0, .long 0, .long 0, .long 0]))]) (wr := [(h, .inr (10, [.ref (a 0), .ref (a 2), .ref (a 6), .ref (a 8), .ref (a 15), .ref (a 17), .ref (a 22), .ref (a 23), .int 0, .int 0])), ((a 17), .inr (5, [.ref (a 18), .ref (a 19), .ref (a 20), .ref (a 21), .int 0, .long 0])), ((a 15), .inr (2, [.ref (a 16), .int 0])), ((a 23), .inr (7, [.ref (a 24), .int 0, .int 0])), ((a 0), .inr (6, [.ref (a 1), .int 0])), ((a 8), .inr (0, [.ref (a 9), .ref (a 10), .ref (a 11), .ref (a 12), .ref (a 13), .ref (a 14)])), ((a 13), .inl ((d 8), 30, .inl (fun _ => 0))), ((a 6), .inr (8, [.ref (a 7)])), ((a 7), .inl ((d 3), 9, .inl untold))]) rfl rfl (by decide) (by decide) (va_runV (As := []) (rest := []) F (c3_matched l G k _ (a 22)) (cwVt F mf_X3_matched km_X10_287 rfl rfl ⟨Nat.le_of_ble_eq_true rfl, Nat.le_of_ble_eq_true rfl⟩) (cs_preV St [1] rfl (by decide) [] rfl (ci := 3) (q0 := 1) rfl rfl) rfl rfl hl.1 rfl (lv_room (Nat.le_of_ble_eq_true rfl)) dX10_count_112 ⟨Nat.le_of_ble_eq_true rfl, Nat.le_of_ble_eq_true rfl⟩) (fun r_10 u_11 H locs hw St => ?_)
    try dsimp only at hw
    have z_12 := hw
    subst r_10
    have St : cS G k [(h, .inr (10, [.ref (a 0), .ref (a 2), .ref (a 6), .ref (a 8), .ref (a 15), .ref (a 17), .ref (a 22), .ref (a 23), .int 0, .int 0])), ((a 17), .inr (5, [.ref (a 18), .ref (a 19), .ref (a 20), .ref (a 21), .int 0, .long 0])), ((a 15), .inr (2, [.ref (a 16), .int 0])), ((a 23), .inr (7, [.ref (a 24), .int 0, .int 0])), ((a 0), .inr (6, [.ref (a 1), .int 0])), ((a 8), .inr (0, [.ref (a 9), .ref (a 10), .ref (a 11), .ref (a 12), .ref (a 13), .ref (a 14)])), ((a 13), .inl ((d 8), 30, .inl (fun _ => 0))), ((a 6), .inr (8, [.ref (a 7)])), ((a 7), .inl ((d 3), 9, .inl untold)), ((a 22), .inr (3, [.long 0, .long 0, .long 0, .long 0, .long 0, .long 0]))] [((d 8), .int), ((d 3), .int)] A s H locs := St
    refine lv_l2i (v := 0) hx hb dX10_count_115 (by decide) ?_
    exact cs_iret F hr hlk hQ St () (r := 0) (Or.inl ⟨rfl, by decide⟩) [] rfl (by decide) [] rfl (by decide) (by decide) dX10_count_116
  by_cases w1_5 : x1 = 5
  ·
    subst w1_5
    refine lv_tableIn (tgt := 117) (off := 116) hx hb dX10_count_1 (by decide) (by decide) (by decide) (by decide) ?_
    refine lv_aload_n hx hb dX10_count_117 rfl (lv_at hl 0 rfl) ?_
    refine cs_get F St 0 rfl rfl inX10 6 (by decide) kf_X10_54 rfl dX10_count_118 ?_
    refine cs_l St [1] [0, 2, 3, 4, 5, 6, 7, 8, 9] (wc := [((a 22), .inr (3, [.long 0, .long 0, .long 0, .long 0, .long 0, .long 0]))]) (wr := [(h, .inr (10, [.ref (a 0), .ref (a 2), .ref (a 6), .ref (a 8), .ref (a 15), .ref (a 17), .ref (a 22), .ref (a 23), .int 0, .int 0])), ((a 17), .inr (5, [.ref (a 18), .ref (a 19), .ref (a 20), .ref (a 21), .int 0, .long 0])), ((a 15), .inr (2, [.ref (a 16), .int 0])), ((a 23), .inr (7, [.ref (a 24), .int 0, .int 0])), ((a 0), .inr (6, [.ref (a 1), .int 0])), ((a 8), .inr (0, [.ref (a 9), .ref (a 10), .ref (a 11), .ref (a 12), .ref (a 13), .ref (a 14)])), ((a 13), .inl ((d 8), 30, .inl (fun _ => 0))), ((a 6), .inr (8, [.ref (a 7)])), ((a 7), .inl ((d 3), 9, .inl untold))]) rfl rfl (by decide) (by decide) (va_runV (As := []) (rest := []) F (c3_tax l G k _ (a 22)) (cwVt F mf_X3_tax km_X10_290 rfl rfl ⟨Nat.le_of_ble_eq_true rfl, Nat.le_of_ble_eq_true rfl⟩) (cs_preV St [1] rfl (by decide) [] rfl (ci := 3) (q0 := 1) rfl rfl) rfl rfl hl.1 rfl (lv_room (Nat.le_of_ble_eq_true rfl)) dX10_count_121 ⟨Nat.le_of_ble_eq_true rfl, Nat.le_of_ble_eq_true rfl⟩) (fun r_13 u_14 H locs hw St => ?_)
    try dsimp only at hw
    have z_15 := hw
    subst r_13
    have St : cS G k [(h, .inr (10, [.ref (a 0), .ref (a 2), .ref (a 6), .ref (a 8), .ref (a 15), .ref (a 17), .ref (a 22), .ref (a 23), .int 0, .int 0])), ((a 17), .inr (5, [.ref (a 18), .ref (a 19), .ref (a 20), .ref (a 21), .int 0, .long 0])), ((a 15), .inr (2, [.ref (a 16), .int 0])), ((a 23), .inr (7, [.ref (a 24), .int 0, .int 0])), ((a 0), .inr (6, [.ref (a 1), .int 0])), ((a 8), .inr (0, [.ref (a 9), .ref (a 10), .ref (a 11), .ref (a 12), .ref (a 13), .ref (a 14)])), ((a 13), .inl ((d 8), 30, .inl (fun _ => 0))), ((a 6), .inr (8, [.ref (a 7)])), ((a 7), .inl ((d 3), 9, .inl untold)), ((a 22), .inr (3, [.long 0, .long 0, .long 0, .long 0, .long 0, .long 0]))] [((d 8), .int), ((d 3), .int)] A s H locs := St
    refine lv_l2i (v := 0) hx hb dX10_count_124 (by decide) ?_
    exact cs_iret F hr hlk hQ St () (r := 0) (Or.inl ⟨rfl, by decide⟩) [] rfl (by decide) [] rfl (by decide) (by decide) dX10_count_125
  by_cases w1_6 : x1 = 6
  ·
    subst w1_6
    refine lv_tableIn (tgt := 126) (off := 125) hx hb dX10_count_1 (by decide) (by decide) (by decide) (by decide) ?_
    refine lv_aload_n hx hb dX10_count_126 rfl (lv_at hl 0 rfl) ?_
    refine cs_get F St 0 rfl rfl inX10 6 (by decide) kf_X10_54 rfl dX10_count_127 ?_
    refine cs_l St [1] [0, 2, 3, 4, 5, 6, 7, 8, 9] (wc := [((a 22), .inr (3, [.long 0, .long 0, .long 0, .long 0, .long 0, .long 0]))]) (wr := [(h, .inr (10, [.ref (a 0), .ref (a 2), .ref (a 6), .ref (a 8), .ref (a 15), .ref (a 17), .ref (a 22), .ref (a 23), .int 0, .int 0])), ((a 17), .inr (5, [.ref (a 18), .ref (a 19), .ref (a 20), .ref (a 21), .int 0, .long 0])), ((a 15), .inr (2, [.ref (a 16), .int 0])), ((a 23), .inr (7, [.ref (a 24), .int 0, .int 0])), ((a 0), .inr (6, [.ref (a 1), .int 0])), ((a 8), .inr (0, [.ref (a 9), .ref (a 10), .ref (a 11), .ref (a 12), .ref (a 13), .ref (a 14)])), ((a 13), .inl ((d 8), 30, .inl (fun _ => 0))), ((a 6), .inr (8, [.ref (a 7)])), ((a 7), .inl ((d 3), 9, .inl untold))]) rfl rfl (by decide) (by decide) (va_runV (As := []) (rest := []) F (c3_paidForStages l G k _ (a 22)) (cwVt F mf_X3_paidForStages km_X10_293 rfl rfl ⟨Nat.le_of_ble_eq_true rfl, Nat.le_of_ble_eq_true rfl⟩) (cs_preV St [1] rfl (by decide) [] rfl (ci := 3) (q0 := 1) rfl rfl) rfl rfl hl.1 rfl (lv_room (Nat.le_of_ble_eq_true rfl)) dX10_count_130 ⟨Nat.le_of_ble_eq_true rfl, Nat.le_of_ble_eq_true rfl⟩) (fun r_16 u_17 H locs hw St => ?_)
    try dsimp only at hw
    have z_18 := hw
    subst r_16
    have St : cS G k [(h, .inr (10, [.ref (a 0), .ref (a 2), .ref (a 6), .ref (a 8), .ref (a 15), .ref (a 17), .ref (a 22), .ref (a 23), .int 0, .int 0])), ((a 17), .inr (5, [.ref (a 18), .ref (a 19), .ref (a 20), .ref (a 21), .int 0, .long 0])), ((a 15), .inr (2, [.ref (a 16), .int 0])), ((a 23), .inr (7, [.ref (a 24), .int 0, .int 0])), ((a 0), .inr (6, [.ref (a 1), .int 0])), ((a 8), .inr (0, [.ref (a 9), .ref (a 10), .ref (a 11), .ref (a 12), .ref (a 13), .ref (a 14)])), ((a 13), .inl ((d 8), 30, .inl (fun _ => 0))), ((a 6), .inr (8, [.ref (a 7)])), ((a 7), .inl ((d 3), 9, .inl untold)), ((a 22), .inr (3, [.long 0, .long 0, .long 0, .long 0, .long 0, .long 0]))] [((d 8), .int), ((d 3), .int)] A s H locs := St
    refine lv_l2i (v := 0) hx hb dX10_count_133 (by decide) ?_
    exact cs_iret F hr hlk hQ St () (r := 0) (Or.inl ⟨rfl, by decide⟩) [] rfl (by decide) [] rfl (by decide) (by decide) dX10_count_134
  by_cases w1_7 : x1 = 7
  ·
    subst w1_7
    refine lv_tableIn (tgt := 135) (off := 134) hx hb dX10_count_1 (by decide) (by decide) (by decide) (by decide) ?_
    refine lv_aload_n hx hb dX10_count_135 rfl (lv_at hl 0 rfl) ?_
    refine cs_get F St 0 rfl rfl inX10 6 (by decide) kf_X10_54 rfl dX10_count_136 ?_
    refine cs_l St [1] [0, 2, 3, 4, 5, 6, 7, 8, 9] (wc := [((a 22), .inr (3, [.long 0, .long 0, .long 0, .long 0, .long 0, .long 0]))]) (wr := [(h, .inr (10, [.ref (a 0), .ref (a 2), .ref (a 6), .ref (a 8), .ref (a 15), .ref (a 17), .ref (a 22), .ref (a 23), .int 0, .int 0])), ((a 17), .inr (5, [.ref (a 18), .ref (a 19), .ref (a 20), .ref (a 21), .int 0, .long 0])), ((a 15), .inr (2, [.ref (a 16), .int 0])), ((a 23), .inr (7, [.ref (a 24), .int 0, .int 0])), ((a 0), .inr (6, [.ref (a 1), .int 0])), ((a 8), .inr (0, [.ref (a 9), .ref (a 10), .ref (a 11), .ref (a 12), .ref (a 13), .ref (a 14)])), ((a 13), .inl ((d 8), 30, .inl (fun _ => 0))), ((a 6), .inr (8, [.ref (a 7)])), ((a 7), .inl ((d 3), 9, .inl untold))]) rfl rfl (by decide) (by decide) (va_runV (As := []) (rest := []) F (c3_grown l G k _ (a 22)) (cwVt F mf_X3_grown km_X10_296 rfl rfl ⟨Nat.le_of_ble_eq_true rfl, Nat.le_of_ble_eq_true rfl⟩) (cs_preV St [1] rfl (by decide) [] rfl (ci := 3) (q0 := 1) rfl rfl) rfl rfl hl.1 rfl (lv_room (Nat.le_of_ble_eq_true rfl)) dX10_count_139 ⟨Nat.le_of_ble_eq_true rfl, Nat.le_of_ble_eq_true rfl⟩) (fun r_19 u_20 H locs hw St => ?_)
    try dsimp only at hw
    have z_21 := hw
    subst r_19
    have St : cS G k [(h, .inr (10, [.ref (a 0), .ref (a 2), .ref (a 6), .ref (a 8), .ref (a 15), .ref (a 17), .ref (a 22), .ref (a 23), .int 0, .int 0])), ((a 17), .inr (5, [.ref (a 18), .ref (a 19), .ref (a 20), .ref (a 21), .int 0, .long 0])), ((a 15), .inr (2, [.ref (a 16), .int 0])), ((a 23), .inr (7, [.ref (a 24), .int 0, .int 0])), ((a 0), .inr (6, [.ref (a 1), .int 0])), ((a 8), .inr (0, [.ref (a 9), .ref (a 10), .ref (a 11), .ref (a 12), .ref (a 13), .ref (a 14)])), ((a 13), .inl ((d 8), 30, .inl (fun _ => 0))), ((a 6), .inr (8, [.ref (a 7)])), ((a 7), .inl ((d 3), 9, .inl untold)), ((a 22), .inr (3, [.long 0, .long 0, .long 0, .long 0, .long 0, .long 0]))] [((d 8), .int), ((d 3), .int)] A s H locs := St
    refine lv_l2i (v := 0) hx hb dX10_count_142 (by decide) ?_
    exact cs_iret F hr hlk hQ St () (r := 0) (Or.inl ⟨rfl, by decide⟩) [] rfl (by decide) [] rfl (by decide) (by decide) dX10_count_143
  by_cases w1_8 : x1 = 8
  ·
    subst w1_8
    refine lv_tableIn (tgt := 144) (off := 143) hx hb dX10_count_1 (by decide) (by decide) (by decide) (by decide) ?_
    refine lv_aload_n hx hb dX10_count_144 rfl (lv_at hl 0 rfl) ?_
    refine cs_get F St 0 rfl rfl inX10 4 (by decide) kf_X10_40 rfl dX10_count_145 ?_
    refine cs_i St [3] [0, 1, 2, 4, 5, 6, 7, 8, 9] (wc := [((a 15), .inr (2, [.ref (a 16), .int 0]))]) (wr := [(h, .inr (10, [.ref (a 0), .ref (a 2), .ref (a 6), .ref (a 8), .ref (a 15), .ref (a 17), .ref (a 22), .ref (a 23), .int 0, .int 0])), ((a 22), .inr (3, [.long 0, .long 0, .long 0, .long 0, .long 0, .long 0])), ((a 17), .inr (5, [.ref (a 18), .ref (a 19), .ref (a 20), .ref (a 21), .int 0, .long 0])), ((a 23), .inr (7, [.ref (a 24), .int 0, .int 0])), ((a 0), .inr (6, [.ref (a 1), .int 0])), ((a 8), .inr (0, [.ref (a 9), .ref (a 10), .ref (a 11), .ref (a 12), .ref (a 13), .ref (a 14)])), ((a 13), .inl ((d 8), 30, .inl (fun _ => 0))), ((a 6), .inr (8, [.ref (a 7)])), ((a 7), .inl ((d 3), 9, .inl untold))]) rfl rfl (by decide) (by decide) (va_runV (As := []) (rest := []) F (c2_size l G k _ (a 15) (a 16)) (cwVt F mf_X2_size km_X10_299 rfl rfl ⟨Nat.le_of_ble_eq_true rfl, Nat.le_of_ble_eq_true rfl⟩) (cs_preV St [3] rfl (by decide) [] rfl (ci := 2) (q0 := 3) rfl rfl) rfl rfl hl.1 rfl (lv_room (Nat.le_of_ble_eq_true rfl)) dX10_count_148 ⟨Nat.le_of_ble_eq_true rfl, Nat.le_of_ble_eq_true rfl⟩) (fun r_22 u_23 H locs hw St => ?_)
    try dsimp only at hw
    have z_24 := hw
    subst r_22
    have St : cS G k [(h, .inr (10, [.ref (a 0), .ref (a 2), .ref (a 6), .ref (a 8), .ref (a 15), .ref (a 17), .ref (a 22), .ref (a 23), .int 0, .int 0])), ((a 22), .inr (3, [.long 0, .long 0, .long 0, .long 0, .long 0, .long 0])), ((a 17), .inr (5, [.ref (a 18), .ref (a 19), .ref (a 20), .ref (a 21), .int 0, .long 0])), ((a 23), .inr (7, [.ref (a 24), .int 0, .int 0])), ((a 0), .inr (6, [.ref (a 1), .int 0])), ((a 8), .inr (0, [.ref (a 9), .ref (a 10), .ref (a 11), .ref (a 12), .ref (a 13), .ref (a 14)])), ((a 13), .inl ((d 8), 30, .inl (fun _ => 0))), ((a 6), .inr (8, [.ref (a 7)])), ((a 7), .inl ((d 3), 9, .inl untold)), ((a 15), .inr (2, [.ref (a 16), .int 0]))] [((d 8), .int), ((d 3), .int)] A s H locs := St
    exact cs_iret F hr hlk hQ St () (r := 0) (Or.inl ⟨rfl, by decide⟩) [] rfl (by decide) [] rfl (by decide) (by decide) dX10_count_151
  by_cases w1_9 : x1 = 9
  ·
    subst w1_9
    refine lv_tableIn (tgt := 152) (off := 151) hx hb dX10_count_1 (by decide) (by decide) (by decide) (by decide) ?_
    refine lv_aload_n hx hb dX10_count_152 rfl (lv_at hl 0 rfl) ?_
    refine cs_get F St 0 rfl rfl inX10 4 (by decide) kf_X10_40 rfl dX10_count_153 ?_
    refine cs_i St [3] [0, 1, 2, 4, 5, 6, 7, 8, 9] (wc := [((a 15), .inr (2, [.ref (a 16), .int 0]))]) (wr := [(h, .inr (10, [.ref (a 0), .ref (a 2), .ref (a 6), .ref (a 8), .ref (a 15), .ref (a 17), .ref (a 22), .ref (a 23), .int 0, .int 0])), ((a 22), .inr (3, [.long 0, .long 0, .long 0, .long 0, .long 0, .long 0])), ((a 17), .inr (5, [.ref (a 18), .ref (a 19), .ref (a 20), .ref (a 21), .int 0, .long 0])), ((a 23), .inr (7, [.ref (a 24), .int 0, .int 0])), ((a 0), .inr (6, [.ref (a 1), .int 0])), ((a 8), .inr (0, [.ref (a 9), .ref (a 10), .ref (a 11), .ref (a 12), .ref (a 13), .ref (a 14)])), ((a 13), .inl ((d 8), 30, .inl (fun _ => 0))), ((a 6), .inr (8, [.ref (a 7)])), ((a 7), .inl ((d 3), 9, .inl untold))]) rfl rfl (by decide) (by decide) (va_runV (As := []) (rest := []) F (c2_lapsedNow l G k _ (a 15) (a 16)) (cwVt F mf_X2_lapsedNow km_X10_302 rfl rfl ⟨Nat.le_of_ble_eq_true rfl, Nat.le_of_ble_eq_true rfl⟩) (cs_preV St [3] rfl (by decide) [] rfl (ci := 2) (q0 := 3) rfl rfl) rfl rfl hl.1 rfl (lv_room (Nat.le_of_ble_eq_true rfl)) dX10_count_156 ⟨Nat.le_of_ble_eq_true rfl, Nat.le_of_ble_eq_true rfl⟩) (fun r_25 u_26 H locs hw St => ?_)
    try dsimp only at hw
    have z_27 := hw
    subst r_25
    have St : cS G k [(h, .inr (10, [.ref (a 0), .ref (a 2), .ref (a 6), .ref (a 8), .ref (a 15), .ref (a 17), .ref (a 22), .ref (a 23), .int 0, .int 0])), ((a 22), .inr (3, [.long 0, .long 0, .long 0, .long 0, .long 0, .long 0])), ((a 17), .inr (5, [.ref (a 18), .ref (a 19), .ref (a 20), .ref (a 21), .int 0, .long 0])), ((a 23), .inr (7, [.ref (a 24), .int 0, .int 0])), ((a 0), .inr (6, [.ref (a 1), .int 0])), ((a 8), .inr (0, [.ref (a 9), .ref (a 10), .ref (a 11), .ref (a 12), .ref (a 13), .ref (a 14)])), ((a 13), .inl ((d 8), 30, .inl (fun _ => 0))), ((a 6), .inr (8, [.ref (a 7)])), ((a 7), .inl ((d 3), 9, .inl untold)), ((a 15), .inr (2, [.ref (a 16), .int 0]))] [((d 8), .int), ((d 3), .int)] A s H locs := St
    exact cs_iret F hr hlk hQ St () (r := 0) (Or.inl ⟨rfl, by decide⟩) [] rfl (by decide) [] rfl (by decide) (by decide) dX10_count_159
  by_cases w1_10 : x1 = 10
  ·
    subst w1_10
    refine lv_tableIn (tgt := 160) (off := 159) hx hb dX10_count_1 (by decide) (by decide) (by decide) (by decide) ?_
    refine lv_aload_n hx hb dX10_count_160 rfl (lv_at hl 0 rfl) ?_
    refine cs_get F St 0 rfl rfl inX10 7 (by decide) kf_X10_61 rfl dX10_count_161 ?_
    refine cs_i St [4] [0, 1, 2, 3, 5, 6, 7, 8, 9] (wc := [((a 23), .inr (7, [.ref (a 24), .int 0, .int 0]))]) (wr := [(h, .inr (10, [.ref (a 0), .ref (a 2), .ref (a 6), .ref (a 8), .ref (a 15), .ref (a 17), .ref (a 22), .ref (a 23), .int 0, .int 0])), ((a 22), .inr (3, [.long 0, .long 0, .long 0, .long 0, .long 0, .long 0])), ((a 17), .inr (5, [.ref (a 18), .ref (a 19), .ref (a 20), .ref (a 21), .int 0, .long 0])), ((a 15), .inr (2, [.ref (a 16), .int 0])), ((a 0), .inr (6, [.ref (a 1), .int 0])), ((a 8), .inr (0, [.ref (a 9), .ref (a 10), .ref (a 11), .ref (a 12), .ref (a 13), .ref (a 14)])), ((a 13), .inl ((d 8), 30, .inl (fun _ => 0))), ((a 6), .inr (8, [.ref (a 7)])), ((a 7), .inl ((d 3), 9, .inl untold))]) rfl rfl (by decide) (by decide) (va_runV (As := []) (rest := []) F (c7_size l G k _ (a 23) (a 24)) (cwVt F mf_X7_size km_X10_305 rfl rfl ⟨Nat.le_of_ble_eq_true rfl, Nat.le_of_ble_eq_true rfl⟩) (cs_preV St [4] rfl (by decide) [] rfl (ci := 7) (q0 := 4) rfl rfl) rfl rfl hl.1 rfl (lv_room (Nat.le_of_ble_eq_true rfl)) dX10_count_164 ⟨Nat.le_of_ble_eq_true rfl, Nat.le_of_ble_eq_true rfl⟩) (fun r_28 u_29 H locs hw St => ?_)
    try dsimp only at hw
    have z_30 := hw
    subst r_28
    have St : cS G k [(h, .inr (10, [.ref (a 0), .ref (a 2), .ref (a 6), .ref (a 8), .ref (a 15), .ref (a 17), .ref (a 22), .ref (a 23), .int 0, .int 0])), ((a 22), .inr (3, [.long 0, .long 0, .long 0, .long 0, .long 0, .long 0])), ((a 17), .inr (5, [.ref (a 18), .ref (a 19), .ref (a 20), .ref (a 21), .int 0, .long 0])), ((a 15), .inr (2, [.ref (a 16), .int 0])), ((a 0), .inr (6, [.ref (a 1), .int 0])), ((a 8), .inr (0, [.ref (a 9), .ref (a 10), .ref (a 11), .ref (a 12), .ref (a 13), .ref (a 14)])), ((a 13), .inl ((d 8), 30, .inl (fun _ => 0))), ((a 6), .inr (8, [.ref (a 7)])), ((a 7), .inl ((d 3), 9, .inl untold)), ((a 23), .inr (7, [.ref (a 24), .int 0, .int 0]))] [((d 8), .int), ((d 3), .int)] A s H locs := St
    exact cs_iret F hr hlk hQ St () (r := 0) (Or.inl ⟨rfl, by decide⟩) [] rfl (by decide) [] rfl (by decide) (by decide) dX10_count_167
  by_cases w1_11 : x1 = 11
  ·
    subst w1_11
    refine lv_tableIn (tgt := 168) (off := 167) hx hb dX10_count_1 (by decide) (by decide) (by decide) (by decide) ?_
    refine lv_aload_n hx hb dX10_count_168 rfl (lv_at hl 0 rfl) ?_
    refine cs_get F St 0 rfl rfl inX10 5 (by decide) kf_X10_47 rfl dX10_count_169 ?_
    refine cs_i St [2] [0, 1, 3, 4, 5, 6, 7, 8, 9] (wc := [((a 17), .inr (5, [.ref (a 18), .ref (a 19), .ref (a 20), .ref (a 21), .int 0, .long 0]))]) (wr := [(h, .inr (10, [.ref (a 0), .ref (a 2), .ref (a 6), .ref (a 8), .ref (a 15), .ref (a 17), .ref (a 22), .ref (a 23), .int 0, .int 0])), ((a 22), .inr (3, [.long 0, .long 0, .long 0, .long 0, .long 0, .long 0])), ((a 15), .inr (2, [.ref (a 16), .int 0])), ((a 23), .inr (7, [.ref (a 24), .int 0, .int 0])), ((a 0), .inr (6, [.ref (a 1), .int 0])), ((a 8), .inr (0, [.ref (a 9), .ref (a 10), .ref (a 11), .ref (a 12), .ref (a 13), .ref (a 14)])), ((a 13), .inl ((d 8), 30, .inl (fun _ => 0))), ((a 6), .inr (8, [.ref (a 7)])), ((a 7), .inl ((d 3), 9, .inl untold))]) rfl rfl (by decide) (by decide) (va_runV (As := []) (rest := []) F (c5_size l G k _ (a 17) (a 18) (a 19) (a 20) (a 21)) (cwVt F mf_X5_size km_X10_306 rfl rfl ⟨Nat.le_of_ble_eq_true rfl, Nat.le_of_ble_eq_true rfl⟩) (cs_preV St [2] rfl (by decide) [] rfl (ci := 5) (q0 := 2) rfl rfl) rfl rfl hl.1 rfl (lv_room (Nat.le_of_ble_eq_true rfl)) dX10_count_172 ⟨Nat.le_of_ble_eq_true rfl, Nat.le_of_ble_eq_true rfl⟩) (fun r_31 u_32 H locs hw St => ?_)
    try dsimp only at hw
    have z_33 := hw
    subst r_31
    have St : cS G k [(h, .inr (10, [.ref (a 0), .ref (a 2), .ref (a 6), .ref (a 8), .ref (a 15), .ref (a 17), .ref (a 22), .ref (a 23), .int 0, .int 0])), ((a 22), .inr (3, [.long 0, .long 0, .long 0, .long 0, .long 0, .long 0])), ((a 15), .inr (2, [.ref (a 16), .int 0])), ((a 23), .inr (7, [.ref (a 24), .int 0, .int 0])), ((a 0), .inr (6, [.ref (a 1), .int 0])), ((a 8), .inr (0, [.ref (a 9), .ref (a 10), .ref (a 11), .ref (a 12), .ref (a 13), .ref (a 14)])), ((a 13), .inl ((d 8), 30, .inl (fun _ => 0))), ((a 6), .inr (8, [.ref (a 7)])), ((a 7), .inl ((d 3), 9, .inl untold)), ((a 17), .inr (5, [.ref (a 18), .ref (a 19), .ref (a 20), .ref (a 21), .int 0, .long 0]))] [((d 8), .int), ((d 3), .int)] A s H locs := St
    exact cs_iret F hr hlk hQ St () (r := 0) (Or.inl ⟨rfl, by decide⟩) [] rfl (by decide) [] rfl (by decide) (by decide) dX10_count_175
  by_cases w1_12 : x1 = 12
  ·
    subst w1_12
    refine lv_tableIn (tgt := 176) (off := 175) hx hb dX10_count_1 (by decide) (by decide) (by decide) (by decide) ?_
    refine lv_aload_n hx hb dX10_count_176 rfl (lv_at hl 0 rfl) ?_
    refine cs_get F St 0 rfl rfl inX10 9 (by decide) kf_X10_106 rfl dX10_count_177 ?_
    refine lv_if_eq (tgt := 187) hx hb dX10_count_180 (by decide) (fun c180 => ?_) (fun c180 => ?_)
    rotate_left
    · exact absurd (by decide) c180
    refine lv_iconst (v := 0) hx hb dX10_count_187 (by decide) ?_
    exact cs_iret F hr hlk hQ St () (r := 0) (Or.inl ⟨rfl, by decide⟩) [] rfl (by decide) [] rfl (by decide) (by decide) dX10_count_188
  by_cases w1_13 : x1 = 13
  ·
    subst w1_13
    refine lv_tableIn (tgt := 189) (off := 188) hx hb dX10_count_1 (by decide) (by decide) (by decide) (by decide) ?_
    refine lv_aload_n hx hb dX10_count_189 rfl (lv_at hl 0 rfl) ?_
    refine cs_get F St 0 rfl rfl inX10 0 (by decide) kf_X10_10 rfl dX10_count_190 ?_
    refine cs_i St [5] [0, 1, 2, 3, 4, 6, 7, 8, 9] (wc := [((a 0), .inr (6, [.ref (a 1), .int 0]))]) (wr := [(h, .inr (10, [.ref (a 0), .ref (a 2), .ref (a 6), .ref (a 8), .ref (a 15), .ref (a 17), .ref (a 22), .ref (a 23), .int 0, .int 0])), ((a 22), .inr (3, [.long 0, .long 0, .long 0, .long 0, .long 0, .long 0])), ((a 17), .inr (5, [.ref (a 18), .ref (a 19), .ref (a 20), .ref (a 21), .int 0, .long 0])), ((a 15), .inr (2, [.ref (a 16), .int 0])), ((a 23), .inr (7, [.ref (a 24), .int 0, .int 0])), ((a 8), .inr (0, [.ref (a 9), .ref (a 10), .ref (a 11), .ref (a 12), .ref (a 13), .ref (a 14)])), ((a 13), .inl ((d 8), 30, .inl (fun _ => 0))), ((a 6), .inr (8, [.ref (a 7)])), ((a 7), .inl ((d 3), 9, .inl untold))]) rfl rfl (by decide) (by decide) (va_runV (As := []) (rest := []) F (c6_length l G k _ (a 0) (a 1) 0) (cwVt F mf_X6_length km_X10_73 rfl rfl ⟨Nat.le_of_ble_eq_true rfl, Nat.le_of_ble_eq_true rfl⟩) (cs_preV St [5] rfl (by decide) [] rfl (ci := 6) (q0 := 5) rfl rfl) rfl rfl hl.1 rfl (lv_room (Nat.le_of_ble_eq_true rfl)) dX10_count_193 ⟨Nat.le_of_ble_eq_true rfl, Nat.le_of_ble_eq_true rfl⟩) (fun r_34 u_35 H locs hw St => ?_)
    try dsimp only at hw
    have z_36 := hw
    subst r_34
    have St : cS G k [(h, .inr (10, [.ref (a 0), .ref (a 2), .ref (a 6), .ref (a 8), .ref (a 15), .ref (a 17), .ref (a 22), .ref (a 23), .int 0, .int 0])), ((a 22), .inr (3, [.long 0, .long 0, .long 0, .long 0, .long 0, .long 0])), ((a 17), .inr (5, [.ref (a 18), .ref (a 19), .ref (a 20), .ref (a 21), .int 0, .long 0])), ((a 15), .inr (2, [.ref (a 16), .int 0])), ((a 23), .inr (7, [.ref (a 24), .int 0, .int 0])), ((a 8), .inr (0, [.ref (a 9), .ref (a 10), .ref (a 11), .ref (a 12), .ref (a 13), .ref (a 14)])), ((a 13), .inl ((d 8), 30, .inl (fun _ => 0))), ((a 6), .inr (8, [.ref (a 7)])), ((a 7), .inl ((d 3), 9, .inl untold)), ((a 0), .inr (6, [.ref (a 1), .int 0]))] [((d 8), .int), ((d 3), .int)] A s H locs := St
    exact cs_iret F hr hlk hQ St () (r := 0) (Or.inl ⟨rfl, by decide⟩) [] rfl (by decide) [] rfl (by decide) (by decide) dX10_count_196
  by_cases w1_14 : x1 = 14
  ·
    subst w1_14
    refine lv_tableIn (tgt := 197) (off := 196) hx hb dX10_count_1 (by decide) (by decide) (by decide) (by decide) ?_
    refine lv_aload_n hx hb dX10_count_197 rfl (lv_at hl 0 rfl) ?_
    refine cs_get F St 0 rfl rfl inX10 3 (by decide) kf_X10_33 rfl dX10_count_198 ?_
    refine lv_aload_n hx hb dX10_count_201 rfl (lv_at hl 0 rfl) ?_
    refine cs_get F St 0 rfl rfl inX10 5 (by decide) kf_X10_47 rfl dX10_count_202 ?_
    refine lv_aload_n hx hb dX10_count_205 rfl (lv_at hl 0 rfl) ?_
    refine cs_get F St 0 rfl rfl inX10 2 (by decide) kf_X10_26 rfl dX10_count_206 ?_
    refine cs_i St [8, 9] [0, 1, 2, 3, 4, 5, 6, 7] (wc := [((a 6), .inr (8, [.ref (a 7)])), ((a 7), .inl ((d 3), 9, .inl untold))]) (wr := [(h, .inr (10, [.ref (a 0), .ref (a 2), .ref (a 6), .ref (a 8), .ref (a 15), .ref (a 17), .ref (a 22), .ref (a 23), .int 0, .int 0])), ((a 22), .inr (3, [.long 0, .long 0, .long 0, .long 0, .long 0, .long 0])), ((a 17), .inr (5, [.ref (a 18), .ref (a 19), .ref (a 20), .ref (a 21), .int 0, .long 0])), ((a 15), .inr (2, [.ref (a 16), .int 0])), ((a 23), .inr (7, [.ref (a 24), .int 0, .int 0])), ((a 0), .inr (6, [.ref (a 1), .int 0])), ((a 8), .inr (0, [.ref (a 9), .ref (a 10), .ref (a 11), .ref (a 12), .ref (a 13), .ref (a 14)])), ((a 13), .inl ((d 8), 30, .inl (fun _ => 0)))]) rfl rfl (by decide) (by decide) (va_runV (As := []) (rest := [.ref (a 17), .ref (a 8)]) F (c8_stonePence l G k _ (a 6) (a 7) (d 3)) (cwVt F mf_X8_stonePence km_X10_254 rfl rfl ⟨Nat.le_of_ble_eq_true rfl, Nat.le_of_ble_eq_true rfl⟩) (cs_preV St [8, 9] rfl (by decide) [1] rfl (ci := 8) (q0 := 8) rfl rfl) rfl rfl hl.1 rfl (lv_room (Nat.le_of_ble_eq_true rfl)) dX10_count_209 ⟨Nat.le_of_ble_eq_true rfl, Nat.le_of_ble_eq_true rfl⟩) (fun r_37 u_38 H locs hw St => ?_)
    try dsimp only at hw
    have z_39 := hw
    subst r_37
    have St : cS G k [(h, .inr (10, [.ref (a 0), .ref (a 2), .ref (a 6), .ref (a 8), .ref (a 15), .ref (a 17), .ref (a 22), .ref (a 23), .int 0, .int 0])), ((a 22), .inr (3, [.long 0, .long 0, .long 0, .long 0, .long 0, .long 0])), ((a 17), .inr (5, [.ref (a 18), .ref (a 19), .ref (a 20), .ref (a 21), .int 0, .long 0])), ((a 15), .inr (2, [.ref (a 16), .int 0])), ((a 23), .inr (7, [.ref (a 24), .int 0, .int 0])), ((a 0), .inr (6, [.ref (a 1), .int 0])), ((a 8), .inr (0, [.ref (a 9), .ref (a 10), .ref (a 11), .ref (a 12), .ref (a 13), .ref (a 14)])), ((a 13), .inl ((d 8), 30, .inl (fun _ => 0))), ((a 6), .inr (8, [.ref (a 7)])), ((a 7), .inl ((d 3), 9, .inl untold))] [((d 8), .int), ((d 3), .int)] A s H locs := St
    refine cs_i St [6, 7, 2] [0, 1, 3, 4, 5, 8, 9] (wc := [((a 8), .inr (0, [.ref (a 9), .ref (a 10), .ref (a 11), .ref (a 12), .ref (a 13), .ref (a 14)])), ((a 13), .inl ((d 8), 30, .inl (fun _ => 0))), ((a 17), .inr (5, [.ref (a 18), .ref (a 19), .ref (a 20), .ref (a 21), .int 0, .long 0]))]) (wr := [(h, .inr (10, [.ref (a 0), .ref (a 2), .ref (a 6), .ref (a 8), .ref (a 15), .ref (a 17), .ref (a 22), .ref (a 23), .int 0, .int 0])), ((a 22), .inr (3, [.long 0, .long 0, .long 0, .long 0, .long 0, .long 0])), ((a 15), .inr (2, [.ref (a 16), .int 0])), ((a 23), .inr (7, [.ref (a 24), .int 0, .int 0])), ((a 0), .inr (6, [.ref (a 1), .int 0])), ((a 6), .inr (8, [.ref (a 7)])), ((a 7), .inl ((d 3), 9, .inl untold))]) rfl rfl (by decide) (by decide) (va_runV (As := [.ref (a 17), .int 100000]) (rest := []) F (c0_orderStones l G k _ (a 8) (a 9) (a 10) (a 11) (a 12) (a 13) (a 14) (d 8) (fun _ => 0) (a 17) (a 18) (a 19) (a 20) (a 21) 100000) (cwVt F mf_X0_orderStones km_X10_257 rfl rfl ⟨Nat.le_of_ble_eq_true rfl, Nat.le_of_ble_eq_true rfl⟩) (cs_preV St [6, 7, 2] rfl (by decide) [0] rfl (ci := 0) (q0 := 6) rfl rfl) rfl rfl hl.1 rfl (lv_room (Nat.le_of_ble_eq_true rfl)) dX10_count_212 ⟨Nat.le_of_ble_eq_true rfl, Nat.le_of_ble_eq_true rfl⟩) (fun r_40 u_41 H locs hw St => ?_)
    obtain ⟨z4_42, rfl⟩ : ∃ z, z = u_41 := ⟨_, rfl⟩
    try dsimp only at hw
    have z_43 := hw
    subst r_40
    have St : cS G k [(h, .inr (10, [.ref (a 0), .ref (a 2), .ref (a 6), .ref (a 8), .ref (a 15), .ref (a 17), .ref (a 22), .ref (a 23), .int 0, .int 0])), ((a 22), .inr (3, [.long 0, .long 0, .long 0, .long 0, .long 0, .long 0])), ((a 15), .inr (2, [.ref (a 16), .int 0])), ((a 23), .inr (7, [.ref (a 24), .int 0, .int 0])), ((a 0), .inr (6, [.ref (a 1), .int 0])), ((a 6), .inr (8, [.ref (a 7)])), ((a 7), .inl ((d 3), 9, .inl untold)), ((a 8), .inr (0, [.ref (a 9), .ref (a 10), .ref (a 11), .ref (a 12), .ref (a 13), .ref (a 14)])), ((a 13), .inl ((d 8), 30, .inl z4_42)), ((a 17), .inr (5, [.ref (a 18), .ref (a 19), .ref (a 20), .ref (a 21), .int 0, .long 0]))] [((d 8), .int), ((d 3), .int)] A s H locs := St
    exact cs_iret F hr hlk hQ St () (r := 0) (Or.inl ⟨rfl, by decide⟩) [] rfl (by decide) [] rfl (by decide) (by decide) dX10_count_215
  have iw1_0 := lv_neT w1_0 (show (0 : Int32).toInt = 0 by decide)
  have iw1_1 := lv_neT w1_1 (show (1 : Int32).toInt = 1 by decide)
  have iw1_2 := lv_neT w1_2 (show (2 : Int32).toInt = 2 by decide)
  have iw1_3 := lv_neT w1_3 (show (3 : Int32).toInt = 3 by decide)
  have iw1_4 := lv_neT w1_4 (show (4 : Int32).toInt = 4 by decide)
  have iw1_5 := lv_neT w1_5 (show (5 : Int32).toInt = 5 by decide)
  have iw1_6 := lv_neT w1_6 (show (6 : Int32).toInt = 6 by decide)
  have iw1_7 := lv_neT w1_7 (show (7 : Int32).toInt = 7 by decide)
  have iw1_8 := lv_neT w1_8 (show (8 : Int32).toInt = 8 by decide)
  have iw1_9 := lv_neT w1_9 (show (9 : Int32).toInt = 9 by decide)
  have iw1_10 := lv_neT w1_10 (show (10 : Int32).toInt = 10 by decide)
  have iw1_11 := lv_neT w1_11 (show (11 : Int32).toInt = 11 by decide)
  have iw1_12 := lv_neT w1_12 (show (12 : Int32).toInt = 12 by decide)
  have iw1_13 := lv_neT w1_13 (show (13 : Int32).toInt = 13 by decide)
  have iw1_14 := lv_neT w1_14 (show (14 : Int32).toInt = 14 by decide)
  refine lv_tableOut (tgt := 216) hx hb dX10_count_1 (by omega) (by decide) ?_
  refine lv_iconst (v := (-1)) hx hb dX10_count_216 (by decide) ?_
  exact cs_iret F hr hlk hQ St () (r := (-1)) (Or.inr ⟨rfl, by omega⟩) [] rfl (by decide) [] rfl (by decide) (by decide) dX10_count_217
