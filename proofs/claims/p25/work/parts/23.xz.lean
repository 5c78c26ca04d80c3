set_option maxHeartbeats 4000000 in
set_option maxRecDepth 100000 in
theorem x_end (l : Launch) (G : va_G) (k : Nat → Nat) (sz : Nat) (h : Nat) (a : Nat → Nat) (d : Nat → ClassId) (cl : Int32) (sp : Int32) (nn : Int32) (x1 : Int32) : Met l yX10_end (Cond.code yX10_end cX10_end 2 (some .int) :: tb) ({ frames := 1, cells := 0, slots := 0, locals := 21 } : Room) (va_Pc [.ref h, .int x1] (cP G k [(h, .inr (10, [.ref (a 0), .ref (a 2), .ref (a 6), .ref (a 8), .ref (a 15), .ref (a 17), .ref (a 22), .ref (a 23), .int cl, .int sp])), ((a 0), .inr (6, [.ref (a 1), .int nn]))] [] sz)) (va_Qi (fun (r : Int32) (n2 : Int32) => ((r = (-1) ∧ n2 = nn ∧ ¬ (0 ≤ x1.toInt ∧ x1.toInt ≤ nn.toInt)) ∨ (r = x1 ∧ n2 = x1 ∧ 0 ≤ x1.toInt ∧ x1.toInt ≤ nn.toInt))) (cB G (fun (n2 : Int32) => [(h, .inr (10, [.ref (a 0), .ref (a 2), .ref (a 6), .ref (a 8), .ref (a 15), .ref (a 17), .ref (a 22), .ref (a 23), .int cl, .int sp])), ((a 0), .inr (6, [.ref (a 1), .int n2]))]) (fun (n2 : Int32) => []) (va_A [(h, .inr (10, [.ref (a 0), .ref (a 2), .ref (a 6), .ref (a 8), .ref (a 15), .ref (a 17), .ref (a 22), .ref (a 23), .int cl, .int sp])), ((a 0), .inr (6, [.ref (a 1), .int nn]))] sz)) (va_A [(h, .inr (10, [.ref (a 0), .ref (a 2), .ref (a 6), .ref (a 8), .ref (a 15), .ref (a 17), .ref (a 22), .ref (a 23), .int cl, .int sp])), ((a 0), .inr (6, [.ref (a 1), .int nn]))] sz)) 0 0 (va_A [(h, .inr (10, [.ref (a 0), .ref (a 2), .ref (a 6), .ref (a 8), .ref (a 15), .ref (a 17), .ref (a 22), .ref (a 23), .int cl, .int sp])), ((a 0), .inr (6, [.ref (a 1), .int nn]))] sz) := by
  refine ofC_i (cc := cX10_end) (maxL := 2) (ret := (some .int)) (by decide) rfl (Nat.le_of_ble_eq_true rfl) ?_
  intro p e s m args below meth c A ls Q F hr hin hlk St hl hQ
  have hx := F.1
  have hb := F.2.1
  have hl : lv_has ls 2 [(0, .ref h), (1, .int x1)] := hl
  have St : cS G k [(h, .inr (10, [.ref (a 0), .ref (a 2), .ref (a 6), .ref (a 8), .ref (a 15), .ref (a 17), .ref (a 22), .ref (a 23), .int cl, .int sp])), ((a 0), .inr (6, [.ref (a 1), .int nn]))] [] A s s.heap [] := St
  have y0 : (0 : Int32).toInt = 0 := by decide
  skip
  refine lv_iload_n hx hb dX10_end_0 rfl (lv_at hl 1 rfl) ?_
  refine lv_if_lt (tgt := 15) hx hb dX10_end_1 (by decide) (fun c1 => ?_) (fun c1 => ?_)
  ·
    have i1 := ci_lt (x := x1) (y := 0) rfl (show (0 : Int32).toInt = 0 by decide) c1
    refine lv_iconst (v := (-1)) hx hb dX10_end_15 (by decide) ?_
    exact cs_iret F hr hlk hQ St nn (r := (-1)) (Or.inl ⟨rfl, rfl, by omega⟩) [0, 1] rfl (by decide) [] rfl (by decide) (by decide) dX10_end_16
  ·
    have i1 := ci_nlt (x := x1) (y := 0) rfl (show (0 : Int32).toInt = 0 by decide) c1
    refine lv_iload_n hx hb dX10_end_4 rfl (lv_at hl 1 rfl) ?_
    refine lv_aload_n hx hb dX10_end_5 rfl (lv_at hl 0 rfl) ?_
    refine cs_get F St 0 rfl rfl inX10 0 (by decide) kf_X10_10 rfl dX10_end_6 ?_
    refine cs_i St [1] [0] (wc := [((a 0), .inr (6, [.ref (a 1), .int nn]))]) (wr := [(h, .inr (10, [.ref (a 0), .ref (a 2), .ref (a 6), .ref (a 8), .ref (a 15), .ref (a 17), .ref (a 22), .ref (a 23), .int cl, .int sp]))]) rfl rfl (by decide) (by decide) (va_runV (As := []) (rest := [.int x1]) F (x6_length l G k _ (a 0) (a 1) nn) (cwVt F mf_X6_length km_X10_73 rfl rfl ⟨Nat.le_of_ble_eq_true rfl, Nat.le_of_ble_eq_true rfl⟩) (cs_preV St [1] rfl (by decide) [] rfl (ci := 6) (q0 := 1) rfl rfl) rfl rfl hl.1 rfl (lv_room (Nat.le_of_ble_eq_true rfl)) dX10_end_9 ⟨Nat.le_of_ble_eq_true rfl, Nat.le_of_ble_eq_true rfl⟩) (fun r_1 u_2 H locs hw St => ?_)
    try dsimp only at hw
    have z_3 := hw
    subst r_1
    have St : cS G k [(h, .inr (10, [.ref (a 0), .ref (a 2), .ref (a 6), .ref (a 8), .ref (a 15), .ref (a 17), .ref (a 22), .ref (a 23), .int cl, .int sp])), ((a 0), .inr (6, [.ref (a 1), .int nn]))] [] A s H locs := St
    refine lv_icmp_le (tgt := 17) hx hb dX10_end_12 (by decide) (fun c12 => ?_) (fun c12 => ?_)
    ·
      have i12 := ci_le (x := x1) (y := nn) rfl rfl c12
      refine lv_aload_n hx hb dX10_end_17 rfl (lv_at hl 0 rfl) ?_
      refine cs_get F St 0 rfl rfl inX10 0 (by decide) kf_X10_10 rfl dX10_end_18 ?_
      refine lv_iload_n hx hb dX10_end_21 rfl (lv_at hl 1 rfl) ?_
      refine cs_v St [1] [0] (wc := [((a 0), .inr (6, [.ref (a 1), .int nn]))]) (wr := [(h, .inr (10, [.ref (a 0), .ref (a 2), .ref (a 6), .ref (a 8), .ref (a 15), .ref (a 17), .ref (a 22), .ref (a 23), .int cl, .int sp]))]) rfl rfl (by decide) (by decide) (va_runV (As := [.int x1]) (rest := []) F (x6_cutTo l G k _ (a 0) (a 1) nn x1) (cwVt F mf_X6_cutTo km_X10_77 rfl rfl ⟨Nat.le_of_ble_eq_true rfl, Nat.le_of_ble_eq_true rfl⟩) (cs_preV St [1] rfl (by decide) [] rfl (ci := 6) (q0 := 1) rfl rfl) rfl rfl hl.1 rfl (lv_room (Nat.le_of_ble_eq_true rfl)) dX10_end_22 ⟨Nat.le_of_ble_eq_true rfl, Nat.le_of_ble_eq_true rfl⟩) (fun u_5 H locs hw St => ?_)
      try dsimp only at hw
      have St : cS G k [(h, .inr (10, [.ref (a 0), .ref (a 2), .ref (a 6), .ref (a 8), .ref (a 15), .ref (a 17), .ref (a 22), .ref (a 23), .int cl, .int sp])), ((a 0), .inr (6, [.ref (a 1), .int x1]))] [] A s H locs := St
      refine lv_iload_n hx hb dX10_end_25 rfl (lv_at hl 1 rfl) ?_
      exact cs_iret F hr hlk hQ St x1 (r := x1) (Or.inr ⟨rfl, rfl, by omega⟩) [0, 1] rfl (by decide) [] rfl (by decide) (by decide) dX10_end_26
    ·
      have i12 := ci_nle (x := x1) (y := nn) rfl rfl c12
      refine lv_iconst (v := (-1)) hx hb dX10_end_15 (by decide) ?_
      exact cs_iret F hr hlk hQ St nn (r := (-1)) (Or.inl ⟨rfl, rfl, by omega⟩) [0, 1] rfl (by decide) [] rfl (by decide) (by decide) dX10_end_16
