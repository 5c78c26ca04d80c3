set_option maxHeartbeats 4000000 in
set_option maxRecDepth 100000 in
theorem x10_isGiver (l : Launch) (G : va_G) (k : Nat → Nat) (sz : Nat) (g : Int32) : Met l yX10_isGiver (Cond.code yX10_isGiver cX10_isGiver 1 (some .boolean) :: tb) ({ frames := 0, cells := 0, slots := 0, locals := 0 } : Room) (va_Pc [.int g] (cP G k [] [] sz)) (va_Qi (fun (r : Int32) (_ : Unit) => ((r = 1) ∧ (0 ≤ g.toInt ∧ g.toInt < 30)) ∨ ((r = 0) ∧ (¬ (0 ≤ g.toInt ∧ g.toInt < 30)))) (cB G (fun (_ : Unit) => []) (fun (_ : Unit) => []) (va_A [] sz)) (va_A [] sz)) 0 0 (va_A [] sz) := by
  refine ofC_i (cc := cX10_isGiver) (maxL := 1) (ret := (some .boolean)) (by decide) rfl (Nat.le_of_ble_eq_true rfl) ?_
  intro p e s m args below meth c A ls Q F hr hin hlk St hl hQ
  have hx := F.1
  have hb := F.2.1
  have hl : lv_has ls 1 [(0, .int g)] := hl
  have St : cS G k [] [] A s s.heap [] := St
  refine lv_iload_n hx hb dX10_isGiver_0 rfl (lv_at hl 0 rfl) ?_
  refine lv_if_lt (tgt := 14) hx hb dX10_isGiver_1 (by decide) (fun c1 => ?_) (fun c1 => ?_)
  ·
    have i1 := ci_lt (x := g) (y := 0) rfl (show (0 : Int32).toInt = 0 by decide) c1
    refine lv_iconst (v := 0) hx hb dX10_isGiver_14 (by decide) ?_
    exact cs_zret F hr hlk hQ St () (r := 0) rfl (Or.inr ⟨rfl, by omega⟩) [] rfl (by decide) [] rfl (by decide) (by decide) dX10_isGiver_15
  ·
    have i1 := ci_nlt (x := g) (y := 0) rfl (show (0 : Int32).toInt = 0 by decide) c1
    refine lv_iload_n hx hb dX10_isGiver_4 rfl (lv_at hl 0 rfl) ?_
    refine lv_bipush (v := 30) hx hb dX10_isGiver_5 (by decide) ?_
    refine lv_icmp_ge (tgt := 14) hx hb dX10_isGiver_7 (by decide) (fun c7 => ?_) (fun c7 => ?_)
    ·
      have i7 := ci_le (x := 30) (y := g) (show (30 : Int32).toInt = 30 by decide) rfl c7
      refine lv_iconst (v := 0) hx hb dX10_isGiver_14 (by decide) ?_
      exact cs_zret F hr hlk hQ St () (r := 0) rfl (Or.inr ⟨rfl, by omega⟩) [] rfl (by decide) [] rfl (by decide) (by decide) dX10_isGiver_15
    ·
      have i7 := ci_nle (x := 30) (y := g) (show (30 : Int32).toInt = 30 by decide) rfl c7
      refine lv_iconst (v := 1) hx hb dX10_isGiver_10 (by decide) ?_
      refine lv_goto (tgt := 15) hx hb dX10_isGiver_11 (by decide) ?_
      exact cs_zret F hr hlk hQ St () (r := 1) rfl (Or.inl ⟨rfl, by omega⟩) [] rfl (by decide) [] rfl (by decide) (by decide) dX10_isGiver_15
set_option maxHeartbeats 4000000 in
set_option maxRecDepth 100000 in
theorem x10_isWithin (l : Launch) (G : va_G) (k : Nat → Nat) (sz : Nat) (x : Int32) (y : Int32) (z : Int32) (ia : Int) (ib : Int) (ea : y.toInt = ia) (eb : z.toInt = ib) : Met l yX10_isWithin (Cond.code yX10_isWithin cX10_isWithin 3 (some .boolean) :: tb) ({ frames := 0, cells := 0, slots := 0, locals := 0 } : Room) (va_Pc [.int x, .int y, .int z] (cP G k [] [] sz)) (va_Qi (fun (r : Int32) (_ : Unit) => ((r = 1) ∧ (ia ≤ x.toInt ∧ x.toInt ≤ ib)) ∨ ((r = 0) ∧ (¬ (ia ≤ x.toInt ∧ x.toInt ≤ ib)))) (cB G (fun (_ : Unit) => []) (fun (_ : Unit) => []) (va_A [] sz)) (va_A [] sz)) 0 0 (va_A [] sz) := by
  refine ofC_i (cc := cX10_isWithin) (maxL := 3) (ret := (some .boolean)) (by decide) rfl (Nat.le_of_ble_eq_true rfl) ?_
  intro p e s m args below meth c A ls Q F hr hin hlk St hl hQ
  have hx := F.1
  have hb := F.2.1
  have hl : lv_has ls 3 [(0, .int x), (1, .int y), (2, .int z)] := hl
  have St : cS G k [] [] A s s.heap [] := St
  refine lv_iload_n hx hb dX10_isWithin_0 rfl (lv_at hl 0 rfl) ?_
  refine lv_iload_n hx hb dX10_isWithin_1 rfl (lv_at hl 1 rfl) ?_
  refine lv_icmp_lt (tgt := 14) hx hb dX10_isWithin_2 (by decide) (fun c2 => ?_) (fun c2 => ?_)
  ·
    have i2 := ci_lt (x := x) (y := y) rfl rfl c2
    refine lv_iconst (v := 0) hx hb dX10_isWithin_14 (by decide) ?_
    exact cs_zret F hr hlk hQ St () (r := 0) rfl (Or.inr ⟨rfl, by omega⟩) [] rfl (by decide) [] rfl (by decide) (by decide) dX10_isWithin_15
  ·
    have i2 := ci_nlt (x := x) (y := y) rfl rfl c2
    refine lv_iload_n hx hb dX10_isWithin_5 rfl (lv_at hl 0 rfl) ?_
    refine lv_iload_n hx hb dX10_isWithin_6 rfl (lv_at hl 2 rfl) ?_
    refine lv_icmp_gt (tgt := 14) hx hb dX10_isWithin_7 (by decide) (fun c7 => ?_) (fun c7 => ?_)
    ·
      have i7 := ci_lt (x := z) (y := x) rfl rfl c7
      refine lv_iconst (v := 0) hx hb dX10_isWithin_14 (by decide) ?_
      exact cs_zret F hr hlk hQ St () (r := 0) rfl (Or.inr ⟨rfl, by omega⟩) [] rfl (by decide) [] rfl (by decide) (by decide) dX10_isWithin_15
    ·
      have i7 := ci_nlt (x := z) (y := x) rfl rfl c7
      refine lv_iconst (v := 1) hx hb dX10_isWithin_10 (by decide) ?_
      refine lv_goto (tgt := 15) hx hb dX10_isWithin_11 (by decide) ?_
      exact cs_zret F hr hlk hQ St () (r := 1) rfl (Or.inl ⟨rfl, by omega⟩) [] rfl (by decide) [] rfl (by decide) (by decide) dX10_isWithin_15
set_option maxHeartbeats 4000000 in
set_option maxRecDepth 100000 in
theorem x10_isSum (l : Launch) (G : va_G) (k : Nat → Nat) (sz : Nat) (x : Int32) : Met l yX10_isSum (Cond.code yX10_isSum cX10_isSum 1 (some .boolean) :: tb) ({ frames := 1, cells := 0, slots := 0, locals := 22 } : Room) (va_Pc [.int x] (cP G k [] [] sz)) (va_Qi (fun (r : Int32) (_ : Unit) => ((r = 1) ∧ (1 ≤ x.toInt ∧ x.toInt ≤ 5000000)) ∨ ((r = 0) ∧ (¬ (1 ≤ x.toInt ∧ x.toInt ≤ 5000000)))) (cB G (fun (_ : Unit) => []) (fun (_ : Unit) => []) (va_A [] sz)) (va_A [] sz)) 0 0 (va_A [] sz) := by
  refine ofC_i (cc := cX10_isSum) (maxL := 1) (ret := (some .boolean)) (by decide) rfl (Nat.le_of_ble_eq_true rfl) ?_
  intro p e s m args below meth c A ls Q F hr hin hlk St hl hQ
  have hx := F.1
  have hb := F.2.1
  have hl : lv_has ls 1 [(0, .int x)] := hl
  have St : cS G k [] [] A s s.heap [] := St
  refine lv_iload_n hx hb dX10_isSum_0 rfl (lv_at hl 0 rfl) ?_
  refine lv_iconst (v := 1) hx hb dX10_isSum_1 (by decide) ?_
  refine lv_ldcw (v := 5000000) hx hb F.2.2.2.1 (F.2.2.2.2 _ kk_X10_307) dX10_isSum_2 ?_
  refine cs_i St [] [] (wc := []) (wr := []) rfl rfl (by decide) (by decide) (va_runS (As := [.int x, .int 1, .int 5000000]) (rest := []) F (x10_isWithin l G k _ x 1 5000000 1 5000000 (by decide) (by decide)) (cwSt F mf_X10_isWithin km_X10_119 rfl rfl ⟨Nat.le_of_ble_eq_true rfl, Nat.le_of_ble_eq_true rfl⟩) (cs_pre St [] rfl (by decide) [] rfl) rfl rfl hl.1 rfl (lv_room (Nat.le_of_ble_eq_true rfl)) dX10_isSum_5 ⟨Nat.le_of_ble_eq_true rfl, Nat.le_of_ble_eq_true rfl⟩) (fun r_1 u_2 H locs hw St => ?_)
  try dsimp only at hw
  rcases hw with ⟨z_3, hf_4⟩ | ⟨z_5, hf_6⟩
  ·
    subst r_1
    have St : cS G k [] [] A s H locs := St
    exact cs_zret F hr hlk hQ St () (r := 1) rfl (Or.inl ⟨rfl, by omega⟩) [] rfl (by decide) [] rfl (by decide) (by decide) dX10_isSum_8
  ·
    subst r_1
    have St : cS G k [] [] A s H locs := St
    exact cs_zret F hr hlk hQ St () (r := 0) rfl (Or.inr ⟨rfl, by omega⟩) [] rfl (by decide) [] rfl (by decide) (by decide) dX10_isSum_8
set_option maxHeartbeats 4000000 in
set_option maxRecDepth 100000 in
theorem x0_declaredFrom (l : Launch) (G : va_G) (k : Nat → Nat) (sz : Nat) (h : Nat) (b0 : Nat) (b1 : Nat) (b2 : Nat) (b3 : Nat) (b4 : Nat) (b5 : Nat) (e0 : ClassId) (f0 : Nat → Int32) (x : Int32) : Met l yX0_declaredFrom (Cond.code yX0_declaredFrom cX0_declaredFrom 2 (some .int) :: tb) ({ frames := 1, cells := 0, slots := 0, locals := 20 } : Room) (va_Pc [.ref h, .int x] (cP G k [(h, .inr (0, [.ref b0, .ref b1, .ref b2, .ref b3, .ref b4, .ref b5])), (b0, .inl (e0, 30, .inl f0))] [(e0, .int)] sz)) (va_Qi (fun (r : Int32) (_ : Unit) => True) (cB G (fun (_ : Unit) => [(h, .inr (0, [.ref b0, .ref b1, .ref b2, .ref b3, .ref b4, .ref b5])), (b0, .inl (e0, 30, .inl f0))]) (fun (_ : Unit) => []) (va_A [(h, .inr (0, [.ref b0, .ref b1, .ref b2, .ref b3, .ref b4, .ref b5])), (b0, .inl (e0, 30, .inl f0))] sz)) (va_A [(h, .inr (0, [.ref b0, .ref b1, .ref b2, .ref b3, .ref b4, .ref b5])), (b0, .inl (e0, 30, .inl f0))] sz)) 0 0 (va_A [(h, .inr (0, [.ref b0, .ref b1, .ref b2, .ref b3, .ref b4, .ref b5])), (b0, .inl (e0, 30, .inl f0))] sz) := by
  refine ofC_i (cc := cX0_declaredFrom) (maxL := 2) (ret := (some .int)) (by decide) rfl (Nat.le_of_ble_eq_true rfl) ?_
  intro p e s m args below meth c A ls Q F hr hin hlk St hl hQ
  have hx := F.1
  have hb := F.2.1
  have hl : lv_has ls 2 [(0, .ref h), (1, .int x)] := hl
  have St : cS G k [(h, .inr (0, [.ref b0, .ref b1, .ref b2, .ref b3, .ref b4, .ref b5])), (b0, .inl (e0, 30, .inl f0))] [(e0, .int)] A s s.heap [] := St
  refine lv_iload_n hx hb dX0_declaredFrom_0 rfl (lv_at hl 1 rfl) ?_
  refine cs_i St [] [0, 1] (wc := []) (wr := [(h, .inr (0, [.ref b0, .ref b1, .ref b2, .ref b3, .ref b4, .ref b5])), (b0, .inl (e0, 30, .inl f0))]) rfl rfl (by decide) (by decide) (va_runSN (As := [.int x]) (rest := []) F (x10_isGiver l G k _ x) (cwSNt F mf_X10_isGiver St.2.2.2.2.2.1.2.2.2.2.2.2.1 rfl rfl ⟨Nat.le_of_ble_eq_true rfl, Nat.le_of_ble_eq_true rfl⟩) (cs_pre St [] rfl (by decide) [] rfl) rfl rfl hl.1 rfl (lv_room (Nat.le_of_ble_eq_true rfl)) dX0_declaredFrom_1 ⟨Nat.le_of_ble_eq_true rfl, Nat.le_of_ble_eq_true rfl⟩) (fun r_1 u_2 H locs hw St => ?_)
  try dsimp only at hw
  rcases hw with ⟨z_3, hf_4⟩ | ⟨z_5, hf_6⟩
  ·
    subst r_1
    have St : cS G k [(h, .inr (0, [.ref b0, .ref b1, .ref b2, .ref b3, .ref b4, .ref b5])), (b0, .inl (e0, 30, .inl f0))] [(e0, .int)] A s H locs := St
    refine lv_if_eq (tgt := 16) hx hb dX0_declaredFrom_4 (by decide) (fun c4 => ?_) (fun c4 => ?_)
    · exact absurd c4 (by decide)
    refine lv_aload_n hx hb dX0_declaredFrom_7 rfl (lv_at hl 0 rfl) ?_
    refine cs_get F St 0 rfl rfl inX0 0 (by decide) kf_X0_9 rfl dX0_declaredFrom_8 ?_
    refine lv_iload_n hx hb dX0_declaredFrom_11 rfl (lv_at hl 1 rfl) ?_
    refine cs_ild F St 1 0 rfl rfl (vp_in_iff.mpr ⟨by omega, by omega⟩) dX0_declaredFrom_12 ?_
    refine lv_topi (fun y_7 ey_7 => ?_)
    refine lv_goto (tgt := 17) hx hb dX0_declaredFrom_13 (by decide) ?_
    exact cs_iret F hr hlk hQ St () (r := y_7) (by trivial) [0, 1] rfl (by decide) [] rfl (by decide) (by decide) dX0_declaredFrom_17
  ·
    subst r_1
    have St : cS G k [(h, .inr (0, [.ref b0, .ref b1, .ref b2, .ref b3, .ref b4, .ref b5])), (b0, .inl (e0, 30, .inl f0))] [(e0, .int)] A s H locs := St
    refine lv_if_eq (tgt := 16) hx hb dX0_declaredFrom_4 (by decide) (fun c4 => ?_) (fun c4 => ?_)
    rotate_left
    · exact absurd (by decide) c4
    refine lv_iconst (v := (-1)) hx hb dX0_declaredFrom_16 (by decide) ?_
    exact cs_iret F hr hlk hQ St () (r := (-1)) (by trivial) [0, 1] rfl (by decide) [] rfl (by decide) (by decide) dX0_declaredFrom_17
set_option maxHeartbeats 4000000 in
set_option maxRecDepth 100000 in
theorem x0_declaredTo (l : Launch) (G : va_G) (k : Nat → Nat) (sz : Nat) (h : Nat) (b0 : Nat) (b1 : Nat) (b2 : Nat) (b3 : Nat) (b4 : Nat) (b5 : Nat) (e1 : ClassId) (f1 : Nat → Int32) (x : Int32) : Met l yX0_declaredTo (Cond.code yX0_declaredTo cX0_declaredTo 2 (some .int) :: tb) ({ frames := 1, cells := 0, slots := 0, locals := 20 } : Room) (va_Pc [.ref h, .int x] (cP G k [(h, .inr (0, [.ref b0, .ref b1, .ref b2, .ref b3, .ref b4, .ref b5])), (b1, .inl (e1, 30, .inl f1))] [(e1, .int)] sz)) (va_Qi (fun (r : Int32) (_ : Unit) => True) (cB G (fun (_ : Unit) => [(h, .inr (0, [.ref b0, .ref b1, .ref b2, .ref b3, .ref b4, .ref b5])), (b1, .inl (e1, 30, .inl f1))]) (fun (_ : Unit) => []) (va_A [(h, .inr (0, [.ref b0, .ref b1, .ref b2, .ref b3, .ref b4, .ref b5])), (b1, .inl (e1, 30, .inl f1))] sz)) (va_A [(h, .inr (0, [.ref b0, .ref b1, .ref b2, .ref b3, .ref b4, .ref b5])), (b1, .inl (e1, 30, .inl f1))] sz)) 0 0 (va_A [(h, .inr (0, [.ref b0, .ref b1, .ref b2, .ref b3, .ref b4, .ref b5])), (b1, .inl (e1, 30, .inl f1))] sz) := by
  refine ofC_i (cc := cX0_declaredTo) (maxL := 2) (ret := (some .int)) (by decide) rfl (Nat.le_of_ble_eq_true rfl) ?_
  intro p e s m args below meth c A ls Q F hr hin hlk St hl hQ
  have hx := F.1
  have hb := F.2.1
  have hl : lv_has ls 2 [(0, .ref h), (1, .int x)] := hl
  have St : cS G k [(h, .inr (0, [.ref b0, .ref b1, .ref b2, .ref b3, .ref b4, .ref b5])), (b1, .inl (e1, 30, .inl f1))] [(e1, .int)] A s s.heap [] := St
  refine lv_iload_n hx hb dX0_declaredTo_0 rfl (lv_at hl 1 rfl) ?_
  refine cs_i St [] [0, 1] (wc := []) (wr := [(h, .inr (0, [.ref b0, .ref b1, .ref b2, .ref b3, .ref b4, .ref b5])), (b1, .inl (e1, 30, .inl f1))]) rfl rfl (by decide) (by decide) (va_runSN (As := [.int x]) (rest := []) F (x10_isGiver l G k _ x) (cwSNt F mf_X10_isGiver St.2.2.2.2.2.1.2.2.2.2.2.2.1 rfl rfl ⟨Nat.le_of_ble_eq_true rfl, Nat.le_of_ble_eq_true rfl⟩) (cs_pre St [] rfl (by decide) [] rfl) rfl rfl hl.1 rfl (lv_room (Nat.le_of_ble_eq_true rfl)) dX0_declaredTo_1 ⟨Nat.le_of_ble_eq_true rfl, Nat.le_of_ble_eq_true rfl⟩) (fun r_1 u_2 H locs hw St => ?_)
  try dsimp only at hw
  rcases hw with ⟨z_3, hf_4⟩ | ⟨z_5, hf_6⟩
  ·
    subst r_1
    have St : cS G k [(h, .inr (0, [.ref b0, .ref b1, .ref b2, .ref b3, .ref b4, .ref b5])), (b1, .inl (e1, 30, .inl f1))] [(e1, .int)] A s H locs := St
    refine lv_if_eq (tgt := 16) hx hb dX0_declaredTo_4 (by decide) (fun c4 => ?_) (fun c4 => ?_)
    · exact absurd c4 (by decide)
    refine lv_aload_n hx hb dX0_declaredTo_7 rfl (lv_at hl 0 rfl) ?_
    refine cs_get F St 0 rfl rfl inX0 1 (by decide) kf_X0_15 rfl dX0_declaredTo_8 ?_
    refine lv_iload_n hx hb dX0_declaredTo_11 rfl (lv_at hl 1 rfl) ?_
    refine cs_ild F St 1 0 rfl rfl (vp_in_iff.mpr ⟨by omega, by omega⟩) dX0_declaredTo_12 ?_
    refine lv_topi (fun y_7 ey_7 => ?_)
    refine lv_goto (tgt := 17) hx hb dX0_declaredTo_13 (by decide) ?_
    exact cs_iret F hr hlk hQ St () (r := y_7) (by trivial) [0, 1] rfl (by decide) [] rfl (by decide) (by decide) dX0_declaredTo_17
  ·
    subst r_1
    have St : cS G k [(h, .inr (0, [.ref b0, .ref b1, .ref b2, .ref b3, .ref b4, .ref b5])), (b1, .inl (e1, 30, .inl f1))] [(e1, .int)] A s H locs := St
    refine lv_if_eq (tgt := 16) hx hb dX0_declaredTo_4 (by decide) (fun c4 => ?_) (fun c4 => ?_)
    rotate_left
    · exact absurd (by decide) c4
    refine lv_iconst (v := (-1)) hx hb dX0_declaredTo_16 (by decide) ?_
    exact cs_iret F hr hlk hQ St () (r := (-1)) (by trivial) [0, 1] rfl (by decide) [] rfl (by decide) (by decide) dX0_declaredTo_17
set_option maxHeartbeats 4000000 in
set_option maxRecDepth 100000 in
theorem x0_isWithoutName (l : Launch) (G : va_G) (k : Nat → Nat) (sz : Nat) (h : Nat) (b0 : Nat) (b1 : Nat) (b2 : Nat) (b3 : Nat) (b4 : Nat) (b5 : Nat) (e2 : ClassId) (f2 : Nat → Int32) (x : Int32) : Met l yX0_isWithoutName (Cond.code yX0_isWithoutName cX0_isWithoutName 2 (some .boolean) :: tb) ({ frames := 1, cells := 0, slots := 0, locals := 20 } : Room) (va_Pc [.ref h, .int x] (cP G k [(h, .inr (0, [.ref b0, .ref b1, .ref b2, .ref b3, .ref b4, .ref b5])), (b2, .inl (e2, 30, .inl f2))] [(e2, .boolean)] sz)) (va_Qi (fun (r : Int32) (_ : Unit) => ((r = 1)) ∨ ((r = 0))) (cB G (fun (_ : Unit) => [(h, .inr (0, [.ref b0, .ref b1, .ref b2, .ref b3, .ref b4, .ref b5])), (b2, .inl (e2, 30, .inl f2))]) (fun (_ : Unit) => []) (va_A [(h, .inr (0, [.ref b0, .ref b1, .ref b2, .ref b3, .ref b4, .ref b5])), (b2, .inl (e2, 30, .inl f2))] sz)) (va_A [(h, .inr (0, [.ref b0, .ref b1, .ref b2, .ref b3, .ref b4, .ref b5])), (b2, .inl (e2, 30, .inl f2))] sz)) 0 0 (va_A [(h, .inr (0, [.ref b0, .ref b1, .ref b2, .ref b3, .ref b4, .ref b5])), (b2, .inl (e2, 30, .inl f2))] sz) := by
  refine ofC_i (cc := cX0_isWithoutName) (maxL := 2) (ret := (some .boolean)) (by decide) rfl (Nat.le_of_ble_eq_true rfl) ?_
  intro p e s m args below meth c A ls Q F hr hin hlk St hl hQ
  have hx := F.1
  have hb := F.2.1
  have hl : lv_has ls 2 [(0, .ref h), (1, .int x)] := hl
  have St : cS G k [(h, .inr (0, [.ref b0, .ref b1, .ref b2, .ref b3, .ref b4, .ref b5])), (b2, .inl (e2, 30, .inl f2))] [(e2, .boolean)] A s s.heap [] := St
  refine lv_iload_n hx hb dX0_isWithoutName_0 rfl (lv_at hl 1 rfl) ?_
  refine cs_i St [] [0, 1] (wc := []) (wr := [(h, .inr (0, [.ref b0, .ref b1, .ref b2, .ref b3, .ref b4, .ref b5])), (b2, .inl (e2, 30, .inl f2))]) rfl rfl (by decide) (by decide) (va_runSN (As := [.int x]) (rest := []) F (x10_isGiver l G k _ x) (cwSNt F mf_X10_isGiver St.2.2.2.2.2.1.2.2.2.2.2.2.1 rfl rfl ⟨Nat.le_of_ble_eq_true rfl, Nat.le_of_ble_eq_true rfl⟩) (cs_pre St [] rfl (by decide) [] rfl) rfl rfl hl.1 rfl (lv_room (Nat.le_of_ble_eq_true rfl)) dX0_isWithoutName_1 ⟨Nat.le_of_ble_eq_true rfl, Nat.le_of_ble_eq_true rfl⟩) (fun r_1 u_2 H locs hw St => ?_)
  try dsimp only at hw
  rcases hw with ⟨z_3, hf_4⟩ | ⟨z_5, hf_6⟩
  ·
    subst r_1
    have St : cS G k [(h, .inr (0, [.ref b0, .ref b1, .ref b2, .ref b3, .ref b4, .ref b5])), (b2, .inl (e2, 30, .inl f2))] [(e2, .boolean)] A s H locs := St
    refine lv_if_eq (tgt := 20) hx hb dX0_isWithoutName_4 (by decide) (fun c4 => ?_) (fun c4 => ?_)
    · exact absurd c4 (by decide)
    refine lv_aload_n hx hb dX0_isWithoutName_7 rfl (lv_at hl 0 rfl) ?_
    refine cs_get F St 0 rfl rfl inX0 2 (by decide) kf_X0_18 rfl dX0_isWithoutName_8 ?_
    refine lv_iload_n hx hb dX0_isWithoutName_11 rfl (lv_at hl 1 rfl) ?_
    refine cs_zld F St 1 0 rfl rfl (vp_in_iff.mpr ⟨by omega, by omega⟩) dX0_isWithoutName_12 ?_
    refine lv_topi (fun y_7 ey_7 => ?_)
    refine lv_if_eq (tgt := 20) hx hb dX0_isWithoutName_13 (by decide) (fun c13 => ?_) (fun c13 => ?_)
    ·
      have i13 := ci_eq (x := y_7) (y := 0) rfl (show (0 : Int32).toInt = 0 by decide) c13
      refine lv_iconst (v := 0) hx hb dX0_isWithoutName_20 (by decide) ?_
      exact cs_zret F hr hlk hQ St () (r := 0) rfl (Or.inr rfl) [0, 1] rfl (by decide) [] rfl (by decide) (by decide) dX0_isWithoutName_21
    ·
      have i13 := ci_ne (x := y_7) (y := 0) rfl (show (0 : Int32).toInt = 0 by decide) c13
      refine lv_iconst (v := 1) hx hb dX0_isWithoutName_16 (by decide) ?_
      refine lv_goto (tgt := 21) hx hb dX0_isWithoutName_17 (by decide) ?_
      exact cs_zret F hr hlk hQ St () (r := 1) rfl (Or.inl rfl) [0, 1] rfl (by decide) [] rfl (by decide) (by decide) dX0_isWithoutName_21
  ·
    subst r_1
    have St : cS G k [(h, .inr (0, [.ref b0, .ref b1, .ref b2, .ref b3, .ref b4, .ref b5])), (b2, .inl (e2, 30, .inl f2))] [(e2, .boolean)] A s H locs := St
    refine lv_if_eq (tgt := 20) hx hb dX0_isWithoutName_4 (by decide) (fun c4 => ?_) (fun c4 => ?_)
    rotate_left
    · exact absurd (by decide) c4
    refine lv_iconst (v := 0) hx hb dX0_isWithoutName_20 (by decide) ?_
    exact cs_zret F hr hlk hQ St () (r := 0) rfl (Or.inr rfl) [0, 1] rfl (by decide) [] rfl (by decide) (by decide) dX0_isWithoutName_21
set_option maxHeartbeats 4000000 in
set_option maxRecDepth 100000 in
theorem x0_setWithoutName (l : Launch) (G : va_G) (k : Nat → Nat) (sz : Nat) (h : Nat) (b0 : Nat) (b1 : Nat) (b2 : Nat) (b3 : Nat) (b4 : Nat) (b5 : Nat) (e2 : ClassId) (f2 : Nat → Int32) (x : Int32) (y : Int32) : Met l yX0_setWithoutName (Cond.code yX0_setWithoutName cX0_setWithoutName 3 (some .boolean) :: tb) ({ frames := 1, cells := 0, slots := 0, locals := 20 } : Room) (va_Pc [.ref h, .int x, .int y] (cP G k [(h, .inr (0, [.ref b0, .ref b1, .ref b2, .ref b3, .ref b4, .ref b5])), (b2, .inl (e2, 30, .inl f2))] [(e2, .boolean)] sz)) (va_Qi (fun (r : Int32) (z2 : (Nat → Int32)) => ((r = 0) ∧ (¬ (0 ≤ x.toInt ∧ x.toInt < 30)) ∧ (z2 = f2)) ∨ ((r = 0) ∧ ((0 ≤ x.toInt ∧ x.toInt < 30)) ∧ (z2 = f2) ∧ (f2 x.toNatClampNeg = y)) ∨ ((r = 1) ∧ ((0 ≤ x.toInt ∧ x.toInt < 30)) ∧ (z2 = upd f2 x.toNatClampNeg (vp_nar .boolean y)) ∧ (¬ f2 x.toNatClampNeg = y))) (cB G (fun (z2 : (Nat → Int32)) => [(h, .inr (0, [.ref b0, .ref b1, .ref b2, .ref b3, .ref b4, .ref b5])), (b2, .inl (e2, 30, .inl z2))]) (fun (z2 : (Nat → Int32)) => []) (va_A [(h, .inr (0, [.ref b0, .ref b1, .ref b2, .ref b3, .ref b4, .ref b5])), (b2, .inl (e2, 30, .inl f2))] sz)) (va_A [(h, .inr (0, [.ref b0, .ref b1, .ref b2, .ref b3, .ref b4, .ref b5])), (b2, .inl (e2, 30, .inl f2))] sz)) 0 0 (va_A [(h, .inr (0, [.ref b0, .ref b1, .ref b2, .ref b3, .ref b4, .ref b5])), (b2, .inl (e2, 30, .inl f2))] sz) := by
  refine ofC_i (cc := cX0_setWithoutName) (maxL := 3) (ret := (some .boolean)) (by decide) rfl (Nat.le_of_ble_eq_true rfl) ?_
  intro p e s m args below meth c A ls Q F hr hin hlk St hl hQ
  have hx := F.1
  have hb := F.2.1
  have hl : lv_has ls 3 [(0, .ref h), (1, .int x), (2, .int y)] := hl
  have St : cS G k [(h, .inr (0, [.ref b0, .ref b1, .ref b2, .ref b3, .ref b4, .ref b5])), (b2, .inl (e2, 30, .inl f2))] [(e2, .boolean)] A s s.heap [] := St
  refine lv_iload_n hx hb dX0_setWithoutName_0 rfl (lv_at hl 1 rfl) ?_
  refine cs_i St [] [0, 1] (wc := []) (wr := [(h, .inr (0, [.ref b0, .ref b1, .ref b2, .ref b3, .ref b4, .ref b5])), (b2, .inl (e2, 30, .inl f2))]) rfl rfl (by decide) (by decide) (va_runSN (As := [.int x]) (rest := []) F (x10_isGiver l G k _ x) (cwSNt F mf_X10_isGiver St.2.2.2.2.2.1.2.2.2.2.2.2.1 rfl rfl ⟨Nat.le_of_ble_eq_true rfl, Nat.le_of_ble_eq_true rfl⟩) (cs_pre St [] rfl (by decide) [] rfl) rfl rfl hl.1 rfl (lv_room (Nat.le_of_ble_eq_true rfl)) dX0_setWithoutName_1 ⟨Nat.le_of_ble_eq_true rfl, Nat.le_of_ble_eq_true rfl⟩) (fun r_1 u_2 H locs hw St => ?_)
  try dsimp only at hw
  rcases hw with ⟨z_3, hf_4⟩ | ⟨z_5, hf_6⟩
  ·
    subst r_1
    have St : cS G k [(h, .inr (0, [.ref b0, .ref b1, .ref b2, .ref b3, .ref b4, .ref b5])), (b2, .inl (e2, 30, .inl f2))] [(e2, .boolean)] A s H locs := St
    refine lv_if_eq (tgt := 17) hx hb dX0_setWithoutName_4 (by decide) (fun c4 => ?_) (fun c4 => ?_)
    · exact absurd c4 (by decide)
    refine lv_aload_n hx hb dX0_setWithoutName_7 rfl (lv_at hl 0 rfl) ?_
    refine cs_get F St 0 rfl rfl inX0 2 (by decide) kf_X0_18 rfl dX0_setWithoutName_8 ?_
    refine lv_iload_n hx hb dX0_setWithoutName_11 rfl (lv_at hl 1 rfl) ?_
    refine cs_zld F St 1 0 rfl rfl (vp_in_iff.mpr ⟨by omega, by omega⟩) dX0_setWithoutName_12 ?_
    refine lv_topi (fun y_7 ey_7 => ?_)
    refine lv_iload_n hx hb dX0_setWithoutName_13 rfl (lv_at hl 2 rfl) ?_
    refine lv_icmp_ne (tgt := 19) hx hb dX0_setWithoutName_14 (by decide) (fun c14 => ?_) (fun c14 => ?_)
    ·
      have i14 := ci_ne (x := y_7) (y := y) rfl rfl c14
      refine lv_aload_n hx hb dX0_setWithoutName_19 rfl (lv_at hl 0 rfl) ?_
      refine cs_get F St 0 rfl rfl inX0 2 (by decide) kf_X0_18 rfl dX0_setWithoutName_20 ?_
      refine lv_iload_n hx hb dX0_setWithoutName_23 rfl (lv_at hl 1 rfl) ?_
      refine lv_iload_n hx hb dX0_setWithoutName_24 rfl (lv_at hl 2 rfl) ?_
      refine cs_zst F St 1 0 rfl rfl (vp_in_iff.mpr ⟨by omega, by omega⟩) (w' := [(h, .inr (0, [.ref b0, .ref b1, .ref b2, .ref b3, .ref b4, .ref b5])), (b2, .inl (e2, 30, .inl (upd f2 (x : Int32).toNatClampNeg (vp_nar .boolean y))))]) rfl dX0_setWithoutName_25 (fun H locs St => ?_)
      obtain ⟨f_8, ef_8⟩ : ∃ zz : Nat → Int32, zz = upd f2 (x : Int32).toNatClampNeg (vp_nar .boolean y) := ⟨_, rfl⟩
      rw [← ef_8] at St
      refine lv_iconst (v := 1) hx hb dX0_setWithoutName_26 (by decide) ?_
      exact cs_zret F hr hlk hQ St f_8 (r := 1) rfl (Or.inr (Or.inr ⟨rfl, by omega, ef_8, by rw [← ey_7]; exact c14⟩)) [0, 1] rfl (by decide) [] rfl (by decide) (by decide) dX0_setWithoutName_27
    ·
      have i14 := ci_eq (x := y_7) (y := y) rfl rfl c14
      refine lv_iconst (v := 0) hx hb dX0_setWithoutName_17 (by decide) ?_
      exact cs_zret F hr hlk hQ St f2 (r := 0) rfl (Or.inr (Or.inl ⟨rfl, by omega, rfl, by rw [← ey_7]; exact c14⟩)) [0, 1] rfl (by decide) [] rfl (by decide) (by decide) dX0_setWithoutName_18
  ·
    subst r_1
    have St : cS G k [(h, .inr (0, [.ref b0, .ref b1, .ref b2, .ref b3, .ref b4, .ref b5])), (b2, .inl (e2, 30, .inl f2))] [(e2, .boolean)] A s H locs := St
    refine lv_if_eq (tgt := 17) hx hb dX0_setWithoutName_4 (by decide) (fun c4 => ?_) (fun c4 => ?_)
    rotate_left
    · exact absurd (by decide) c4
    refine lv_iconst (v := 0) hx hb dX0_setWithoutName_17 (by decide) ?_
    exact cs_zret F hr hlk hQ St f2 (r := 0) rfl (Or.inl ⟨rfl, by omega, rfl⟩) [0, 1] rfl (by decide) [] rfl (by decide) (by decide) dX0_setWithoutName_18
set_option maxHeartbeats 4000000 in
set_option maxRecDepth 100000 in
theorem x5_size (l : Launch) (G : va_G) (k : Nat → Nat) (sz : Nat) (h : Nat) (b0 : Nat) (b1 : Nat) (b2 : Nat) (b3 : Nat) (sn : Int32) (st : Int64) : Met l yX5_size (Cond.code yX5_size cX5_size 1 (some .int) :: tb) ({ frames := 0, cells := 0, slots := 0, locals := 0 } : Room) (va_Pc [.ref h] (cP G k [(h, .inr (5, [.ref b0, .ref b1, .ref b2, .ref b3, .int sn, .long st]))] [] sz)) (va_Qi (fun (r : Int32) (_ : Unit) => (r = sn)) (cB G (fun (_ : Unit) => [(h, .inr (5, [.ref b0, .ref b1, .ref b2, .ref b3, .int sn, .long st]))]) (fun (_ : Unit) => []) (va_A [(h, .inr (5, [.ref b0, .ref b1, .ref b2, .ref b3, .int sn, .long st]))] sz)) (va_A [(h, .inr (5, [.ref b0, .ref b1, .ref b2, .ref b3, .int sn, .long st]))] sz)) 0 0 (va_A [(h, .inr (5, [.ref b0, .ref b1, .ref b2, .ref b3, .int sn, .long st]))] sz) := by
  refine ofC_i (cc := cX5_size) (maxL := 1) (ret := (some .int)) (by decide) rfl (Nat.le_of_ble_eq_true rfl) ?_
  intro p e s m args below meth c A ls Q F hr hin hlk St hl hQ
  have hx := F.1
  have hb := F.2.1
  have hl : lv_has ls 1 [(0, .ref h)] := hl
  have St : cS G k [(h, .inr (5, [.ref b0, .ref b1, .ref b2, .ref b3, .int sn, .long st]))] [] A s s.heap [] := St
  refine lv_aload_n hx hb dX5_size_0 rfl (lv_at hl 0 rfl) ?_
  refine cs_get F St 0 rfl rfl inX5 4 (by decide) kf_X5_25 rfl dX5_size_1 ?_
  exact cs_iret F hr hlk hQ St () (r := sn) rfl [0] rfl (by decide) [] rfl (by decide) (by decide) dX5_size_4
set_option maxHeartbeats 4000000 in
set_option maxRecDepth 100000 in
theorem x5_total (l : Launch) (G : va_G) (k : Nat → Nat) (sz : Nat) (h : Nat) (b0 : Nat) (b1 : Nat) (b2 : Nat) (b3 : Nat) (sn : Int32) (st : Int64) : Met l yX5_total (Cond.code yX5_total cX5_total 1 (some .long) :: tb) ({ frames := 0, cells := 0, slots := 0, locals := 0 } : Room) (va_Pc [.ref h] (cP G k [(h, .inr (5, [.ref b0, .ref b1, .ref b2, .ref b3, .int sn, .long st]))] [] sz)) (va_Ql (fun (r : Int64) (_ : Unit) => (r = st)) (cB G (fun (_ : Unit) => [(h, .inr (5, [.ref b0, .ref b1, .ref b2, .ref b3, .int sn, .long st]))]) (fun (_ : Unit) => []) (va_A [(h, .inr (5, [.ref b0, .ref b1, .ref b2, .ref b3, .int sn, .long st]))] sz)) (va_A [(h, .inr (5, [.ref b0, .ref b1, .ref b2, .ref b3, .int sn, .long st]))] sz)) 0 0 (va_A [(h, .inr (5, [.ref b0, .ref b1, .ref b2, .ref b3, .int sn, .long st]))] sz) := by
  refine ofC_l (cc := cX5_total) (maxL := 1) (ret := (some .long)) (by decide) rfl (Nat.le_of_ble_eq_true rfl) ?_
  intro p e s m args below meth c A ls Q F hr hin hlk St hl hQ
  have hx := F.1
  have hb := F.2.1
  have hl : lv_has ls 1 [(0, .ref h)] := hl
  have St : cS G k [(h, .inr (5, [.ref b0, .ref b1, .ref b2, .ref b3, .int sn, .long st]))] [] A s s.heap [] := St
  refine lv_aload_n hx hb dX5_total_0 rfl (lv_at hl 0 rfl) ?_
  refine cs_get F St 0 rfl rfl inX5 5 (by decide) kf_X5_29 rfl dX5_total_1 ?_
  exact cs_lret F hr hlk hQ St () (r := st) rfl [0] rfl (by decide) [] rfl (by decide) (by decide) dX5_total_4
set_option maxHeartbeats 4000000 in
set_option maxRecDepth 100000 in
theorem x5_givenBy (l : Launch) (G : va_G) (k : Nat → Nat) (sz : Nat) (h : Nat) (b0 : Nat) (b1 : Nat) (b2 : Nat) (b3 : Nat) (sn : Int32) (st : Int64) (e0 : ClassId) (e1 : ClassId) (f0 : Nat → Int32) (f1 : Nat → Int32) (x : Int32) : Met l yX5_givenBy (Cond.code yX5_givenBy cX5_givenBy 4 (some .int) :: tb) ({ frames := 0, cells := 0, slots := 0, locals := 0 } : Room) (va_Pc [.ref h, .int x] (cP G k [(h, .inr (5, [.ref b0, .ref b1, .ref b2, .ref b3, .int sn, .long st])), (b0, .inl (e0, 250, .inl f0)), (b1, .inl (e1, 250, .inl f1))] [(e0, .int), (e1, .int)] sz)) (va_Qi (fun (r : Int32) (_ : Unit) => True) (cB G (fun (_ : Unit) => [(h, .inr (5, [.ref b0, .ref b1, .ref b2, .ref b3, .int sn, .long st])), (b0, .inl (e0, 250, .inl f0)), (b1, .inl (e1, 250, .inl f1))]) (fun (_ : Unit) => []) (va_A [(h, .inr (5, [.ref b0, .ref b1, .ref b2, .ref b3, .int sn, .long st])), (b0, .inl (e0, 250, .inl f0)), (b1, .inl (e1, 250, .inl f1))] sz)) (va_A [(h, .inr (5, [.ref b0, .ref b1, .ref b2, .ref b3, .int sn, .long st])), (b0, .inl (e0, 250, .inl f0)), (b1, .inl (e1, 250, .inl f1))] sz)) 0 0 (va_A [(h, .inr (5, [.ref b0, .ref b1, .ref b2, .ref b3, .int sn, .long st])), (b0, .inl (e0, 250, .inl f0)), (b1, .inl (e1, 250, .inl f1))] sz) := by
  refine ofC_i (cc := cX5_givenBy) (maxL := 4) (ret := (some .int)) (by decide) rfl (Nat.le_of_ble_eq_true rfl) ?_
  intro p e s m args below meth c A ls Q F hr hin hlk St hl hQ
  have hx := F.1
  have hb := F.2.1
  have hl : lv_has ls 4 [(0, .ref h), (1, .int x)] := hl
  have St : cS G k [(h, .inr (5, [.ref b0, .ref b1, .ref b2, .ref b3, .int sn, .long st])), (b0, .inl (e0, 250, .inl f0)), (b1, .inl (e1, 250, .inl f1))] [(e0, .int), (e1, .int)] A s s.heap [] := St
  have y0 : (0 : Int32).toInt = 0 := by decide
  refine lv_iconst (v := 0) hx hb dX5_givenBy_0 (by decide) ?_
  refine lv_istore_n (lv' := [(2, .int 0), (0, .ref h), (1, .int x)]) hx hb dX5_givenBy_1 rfl hl (by decide) rfl (fun ls hl => ?_)
  refine lv_iconst (v := 0) hx hb dX5_givenBy_2 (by decide) ?_
  refine lv_istore_n (lv' := [(3, .int 0), (2, .int 0), (0, .ref h), (1, .int x)]) hx hb dX5_givenBy_3 rfl hl (by decide) rfl (fun ls hl => ?_)
  have lp4 : ∀ (n : Nat) (kk : Int32) (nn : Int32) (H : Heap) (locs : List Loc) (ls : Array Slot), (0 ≤ kk.toInt) → ((250 - kk.toInt).toNat) < n → cS G k [(h, .inr (5, [.ref b0, .ref b1, .ref b2, .ref b3, .int sn, .long st])), (b0, .inl (e0, 250, .inl f0)), (b1, .inl (e1, 250, .inl f1))] [(e0, .int), (e1, .int)] A s H locs → lv_has ls 4 [(3, .int kk), (2, .int nn), (0, .ref h), (1, .int x)] → W p l e ({ frames := 0, cells := 0, slots := 0, locals := 0 } : Room) s m args below meth c H locs 0 0 Q (F0 m 4 ls []) := by
    intro n
    induction n with
    | zero => intro kk nn H locs ls hI hn; exact absurd hn (Nat.not_lt_zero _)
    | succ n ih =>
      intro kk nn H locs ls hI hn St hl
      refine lv_iload_n hx hb dX5_givenBy_4 rfl (lv_at hl 0 rfl) ?_
      refine lv_aload_n hx hb dX5_givenBy_5 rfl (lv_at hl 2 rfl) ?_
      refine cs_get F St 0 rfl rfl inX5 4 (by decide) kf_X5_25 rfl dX5_givenBy_6 ?_
      refine lv_icmp_ge (tgt := 44) hx hb dX5_givenBy_9 (by decide) (fun c9 => ?_) (fun c9 => ?_)
      ·
        have i9 := ci_le (x := sn) (y := kk) rfl rfl c9
        refine lv_iload_n hx hb dX5_givenBy_44 rfl (lv_at hl 1 rfl) ?_
        exact cs_iret F hr hlk hQ St () (r := nn) (by trivial) [0, 1, 2] rfl (by decide) [] rfl (by decide) (by decide) dX5_givenBy_45
      ·
        have i9 := ci_nle (x := sn) (y := kk) rfl rfl c9
        refine lv_iload_n hx hb dX5_givenBy_12 rfl (lv_at hl 0 rfl) ?_
        refine lv_sipush (v := 250) hx hb dX5_givenBy_13 (by decide) ?_
        refine lv_icmp_ge (tgt := 44) hx hb dX5_givenBy_16 (by decide) (fun c16 => ?_) (fun c16 => ?_)
        ·
          have i16 := ci_le (x := 250) (y := kk) (show (250 : Int32).toInt = 250 by decide) rfl c16
          refine lv_iload_n hx hb dX5_givenBy_44 rfl (lv_at hl 1 rfl) ?_
          exact cs_iret F hr hlk hQ St () (r := nn) (by trivial) [0, 1, 2] rfl (by decide) [] rfl (by decide) (by decide) dX5_givenBy_45
        ·
          have i16 := ci_nle (x := 250) (y := kk) (show (250 : Int32).toInt = 250 by decide) rfl c16
          refine lv_aload_n hx hb dX5_givenBy_19 rfl (lv_at hl 2 rfl) ?_
          refine cs_get F St 0 rfl rfl inX5 0 (by decide) kf_X5_9 rfl dX5_givenBy_20 ?_
          refine lv_iload_n hx hb dX5_givenBy_23 rfl (lv_at hl 0 rfl) ?_
          refine cs_ild F St 1 0 rfl rfl (vp_in_iff.mpr ⟨by omega, by omega⟩) dX5_givenBy_24 ?_
          refine lv_topi (fun y_1 ey_1 => ?_)
          refine lv_iload_n hx hb dX5_givenBy_25 rfl (lv_at hl 3 rfl) ?_
          refine lv_icmp_ne (tgt := 38) hx hb dX5_givenBy_26 (by decide) (fun c26 => ?_) (fun c26 => ?_)
          ·
            have i26 := ci_ne (x := y_1) (y := x) rfl rfl c26
            obtain ⟨y_2, ey_2⟩ : ∃ zz : Int32, zz = kk + 1 := ⟨_, rfl⟩
            first | have jy_2 : y_2.toInt = kk.toInt + 1 := (by have q9 := ci_add (x := kk) rfl (show (1 : Int32).toInt = 1 by decide) ey_2; omega) | have jy_2 := ci_add (x := kk) rfl (show (1 : Int32).toInt = 1 by decide) ey_2
            refine lv_iinc (v := y_2) (lv' := [(3, .int y_2), (2, .int nn), (0, .ref h), (1, .int x)]) hx hb dX5_givenBy_38 hl (k := 0) rfl (by rw [ey_2]; rfl) (by decide) rfl (fun ls hl => ?_)
            refine lv_goto (tgt := 4) hx hb dX5_givenBy_41 (by decide) ?_
            exact ih y_2 nn _ _ _ (by omega) (by omega) St (lv_sub hl [0, 1, 2, 3] rfl)
          ·
            have i26 := ci_eq (x := y_1) (y := x) rfl rfl c26
            refine lv_iload_n hx hb dX5_givenBy_29 rfl (lv_at hl 1 rfl) ?_
            refine lv_aload_n hx hb dX5_givenBy_30 rfl (lv_at hl 2 rfl) ?_
            refine cs_get F St 0 rfl rfl inX5 1 (by decide) kf_X5_15 rfl dX5_givenBy_31 ?_
            refine lv_iload_n hx hb dX5_givenBy_34 rfl (lv_at hl 0 rfl) ?_
            refine cs_ild F St 2 1 rfl rfl (vp_in_iff.mpr ⟨by omega, by omega⟩) dX5_givenBy_35 ?_
            refine lv_topi (fun y_3 ey_3 => ?_)
            refine lv_iadd hx hb dX5_givenBy_36 ?_
            refine lv_topi (fun y_4 ey_4 => ?_)
            first | have jy_4 : y_4.toInt = nn.toInt + y_3.toInt := (by have q9 := ci_add (x := nn) (y := y_3) rfl rfl ey_4; omega) | have jy_4 := ci_add (x := nn) (y := y_3) rfl rfl ey_4
            refine lv_istore_n (lv' := [(2, .int y_4), (3, .int kk), (0, .ref h), (1, .int x)]) hx hb dX5_givenBy_37 rfl hl (by decide) rfl (fun ls hl => ?_)
            obtain ⟨y_5, ey_5⟩ : ∃ zz : Int32, zz = kk + 1 := ⟨_, rfl⟩
            first | have jy_5 : y_5.toInt = kk.toInt + 1 := (by have q9 := ci_add (x := kk) rfl (show (1 : Int32).toInt = 1 by decide) ey_5; omega) | have jy_5 := ci_add (x := kk) rfl (show (1 : Int32).toInt = 1 by decide) ey_5
            refine lv_iinc (v := y_5) (lv' := [(3, .int y_5), (2, .int y_4), (0, .ref h), (1, .int x)]) hx hb dX5_givenBy_38 hl (k := 1) rfl (by rw [ey_5]; rfl) (by decide) rfl (fun ls hl => ?_)
            refine lv_goto (tgt := 4) hx hb dX5_givenBy_41 (by decide) ?_
            exact ih y_5 y_4 _ _ _ (by omega) (by omega) St (lv_sub hl [0, 1, 2, 3] rfl)
  exact lp4 251 0 0 _ _ _ (by omega) (by omega) St (lv_sub hl [0, 1, 2, 3] rfl)
set_option maxHeartbeats 4000000 in
set_option maxRecDepth 100000 in
theorem x5_unclaimedOf (l : Launch) (G : va_G) (k : Nat → Nat) (sz : Nat) (h : Nat) (b0 : Nat) (b1 : Nat) (b2 : Nat) (b3 : Nat) (sn : Int32) (st : Int64) (e0 : ClassId) (e1 : ClassId) (e3 : ClassId) (f0 : Nat → Int32) (f1 : Nat → Int32) (f3 : Nat → Int32) (x : Int32) : Met l yX5_unclaimedOf (Cond.code yX5_unclaimedOf cX5_unclaimedOf 4 (some .int) :: tb) ({ frames := 0, cells := 0, slots := 0, locals := 0 } : Room) (va_Pc [.ref h, .int x] (cP G k [(h, .inr (5, [.ref b0, .ref b1, .ref b2, .ref b3, .int sn, .long st])), (b0, .inl (e0, 250, .inl f0)), (b1, .inl (e1, 250, .inl f1)), (b3, .inl (e3, 250, .inl f3))] [(e0, .int), (e1, .int), (e3, .boolean)] sz)) (va_Qi (fun (r : Int32) (_ : Unit) => True) (cB G (fun (_ : Unit) => [(h, .inr (5, [.ref b0, .ref b1, .ref b2, .ref b3, .int sn, .long st])), (b0, .inl (e0, 250, .inl f0)), (b1, .inl (e1, 250, .inl f1)), (b3, .inl (e3, 250, .inl f3))]) (fun (_ : Unit) => []) (va_A [(h, .inr (5, [.ref b0, .ref b1, .ref b2, .ref b3, .int sn, .long st])), (b0, .inl (e0, 250, .inl f0)), (b1, .inl (e1, 250, .inl f1)), (b3, .inl (e3, 250, .inl f3))] sz)) (va_A [(h, .inr (5, [.ref b0, .ref b1, .ref b2, .ref b3, .int sn, .long st])), (b0, .inl (e0, 250, .inl f0)), (b1, .inl (e1, 250, .inl f1)), (b3, .inl (e3, 250, .inl f3))] sz)) 0 0 (va_A [(h, .inr (5, [.ref b0, .ref b1, .ref b2, .ref b3, .int sn, .long st])), (b0, .inl (e0, 250, .inl f0)), (b1, .inl (e1, 250, .inl f1)), (b3, .inl (e3, 250, .inl f3))] sz) := by
  refine ofC_i (cc := cX5_unclaimedOf) (maxL := 4) (ret := (some .int)) (by decide) rfl (Nat.le_of_ble_eq_true rfl) ?_
  intro p e s m args below meth c A ls Q F hr hin hlk St hl hQ
  have hx := F.1
  have hb := F.2.1
  have hl : lv_has ls 4 [(0, .ref h), (1, .int x)] := hl
  have St : cS G k [(h, .inr (5, [.ref b0, .ref b1, .ref b2, .ref b3, .int sn, .long st])), (b0, .inl (e0, 250, .inl f0)), (b1, .inl (e1, 250, .inl f1)), (b3, .inl (e3, 250, .inl f3))] [(e0, .int), (e1, .int), (e3, .boolean)] A s s.heap [] := St
  have y0 : (0 : Int32).toInt = 0 := by decide
  refine lv_iconst (v := 0) hx hb dX5_unclaimedOf_0 (by decide) ?_
  refine lv_istore_n (lv' := [(2, .int 0), (0, .ref h), (1, .int x)]) hx hb dX5_unclaimedOf_1 rfl hl (by decide) rfl (fun ls hl => ?_)
  refine lv_iconst (v := 0) hx hb dX5_unclaimedOf_2 (by decide) ?_
  refine lv_istore_n (lv' := [(3, .int 0), (2, .int 0), (0, .ref h), (1, .int x)]) hx hb dX5_unclaimedOf_3 rfl hl (by decide) rfl (fun ls hl => ?_)
  have lp4 : ∀ (n : Nat) (kk : Int32) (nn : Int32) (H : Heap) (locs : List Loc) (ls : Array Slot), (0 ≤ kk.toInt) → ((250 - kk.toInt).toNat) < n → cS G k [(h, .inr (5, [.ref b0, .ref b1, .ref b2, .ref b3, .int sn, .long st])), (b0, .inl (e0, 250, .inl f0)), (b1, .inl (e1, 250, .inl f1)), (b3, .inl (e3, 250, .inl f3))] [(e0, .int), (e1, .int), (e3, .boolean)] A s H locs → lv_has ls 4 [(3, .int kk), (2, .int nn), (0, .ref h), (1, .int x)] → W p l e ({ frames := 0, cells := 0, slots := 0, locals := 0 } : Room) s m args below meth c H locs 0 0 Q (F0 m 4 ls []) := by
    intro n
    induction n with
    | zero => intro kk nn H locs ls hI hn; exact absurd hn (Nat.not_lt_zero _)
    | succ n ih =>
      intro kk nn H locs ls hI hn St hl
      refine lv_iload_n hx hb dX5_unclaimedOf_4 rfl (lv_at hl 0 rfl) ?_
      refine lv_aload_n hx hb dX5_unclaimedOf_5 rfl (lv_at hl 2 rfl) ?_
      refine cs_get F St 0 rfl rfl inX5 4 (by decide) kf_X5_25 rfl dX5_unclaimedOf_6 ?_
      refine lv_icmp_ge (tgt := 53) hx hb dX5_unclaimedOf_9 (by decide) (fun c9 => ?_) (fun c9 => ?_)
      ·
        have i9 := ci_le (x := sn) (y := kk) rfl rfl c9
        refine lv_iload_n hx hb dX5_unclaimedOf_53 rfl (lv_at hl 1 rfl) ?_
        exact cs_iret F hr hlk hQ St () (r := nn) (by trivial) [0, 1, 2, 3] rfl (by decide) [] rfl (by decide) (by decide) dX5_unclaimedOf_54
      ·
        have i9 := ci_nle (x := sn) (y := kk) rfl rfl c9
        refine lv_iload_n hx hb dX5_unclaimedOf_12 rfl (lv_at hl 0 rfl) ?_
        refine lv_sipush (v := 250) hx hb dX5_unclaimedOf_13 (by decide) ?_
        refine lv_icmp_ge (tgt := 53) hx hb dX5_unclaimedOf_16 (by decide) (fun c16 => ?_) (fun c16 => ?_)
        ·
          have i16 := ci_le (x := 250) (y := kk) (show (250 : Int32).toInt = 250 by decide) rfl c16
          refine lv_iload_n hx hb dX5_unclaimedOf_53 rfl (lv_at hl 1 rfl) ?_
          exact cs_iret F hr hlk hQ St () (r := nn) (by trivial) [0, 1, 2, 3] rfl (by decide) [] rfl (by decide) (by decide) dX5_unclaimedOf_54
        ·
          have i16 := ci_nle (x := 250) (y := kk) (show (250 : Int32).toInt = 250 by decide) rfl c16
          refine lv_aload_n hx hb dX5_unclaimedOf_19 rfl (lv_at hl 2 rfl) ?_
          refine cs_get F St 0 rfl rfl inX5 0 (by decide) kf_X5_9 rfl dX5_unclaimedOf_20 ?_
          refine lv_iload_n hx hb dX5_unclaimedOf_23 rfl (lv_at hl 0 rfl) ?_
          refine cs_ild F St 1 0 rfl rfl (vp_in_iff.mpr ⟨by omega, by omega⟩) dX5_unclaimedOf_24 ?_
          refine lv_topi (fun y_1 ey_1 => ?_)
          refine lv_iload_n hx hb dX5_unclaimedOf_25 rfl (lv_at hl 3 rfl) ?_
          refine lv_icmp_ne (tgt := 47) hx hb dX5_unclaimedOf_26 (by decide) (fun c26 => ?_) (fun c26 => ?_)
          ·
            have i26 := ci_ne (x := y_1) (y := x) rfl rfl c26
            obtain ⟨y_2, ey_2⟩ : ∃ zz : Int32, zz = kk + 1 := ⟨_, rfl⟩
            first | have jy_2 : y_2.toInt = kk.toInt + 1 := (by have q9 := ci_add (x := kk) rfl (show (1 : Int32).toInt = 1 by decide) ey_2; omega) | have jy_2 := ci_add (x := kk) rfl (show (1 : Int32).toInt = 1 by decide) ey_2
            refine lv_iinc (v := y_2) (lv' := [(3, .int y_2), (2, .int nn), (0, .ref h), (1, .int x)]) hx hb dX5_unclaimedOf_47 hl (k := 0) rfl (by rw [ey_2]; rfl) (by decide) rfl (fun ls hl => ?_)
            refine lv_goto (tgt := 4) hx hb dX5_unclaimedOf_50 (by decide) ?_
            exact ih y_2 nn _ _ _ (by omega) (by omega) St (lv_sub hl [0, 1, 2, 3] rfl)
          ·
            have i26 := ci_eq (x := y_1) (y := x) rfl rfl c26
            refine lv_aload_n hx hb dX5_unclaimedOf_29 rfl (lv_at hl 2 rfl) ?_
            refine cs_get F St 0 rfl rfl inX5 3 (by decide) kf_X5_21 rfl dX5_unclaimedOf_30 ?_
            refine lv_iload_n hx hb dX5_unclaimedOf_33 rfl (lv_at hl 0 rfl) ?_
            refine cs_zld F St 3 2 rfl rfl (vp_in_iff.mpr ⟨by omega, by omega⟩) dX5_unclaimedOf_34 ?_
            refine lv_topi (fun y_3 ey_3 => ?_)
            refine lv_if_ne (tgt := 47) hx hb dX5_unclaimedOf_35 (by decide) (fun c35 => ?_) (fun c35 => ?_)
            ·
              have i35 := ci_ne (x := y_3) (y := 0) rfl (show (0 : Int32).toInt = 0 by decide) c35
              obtain ⟨y_4, ey_4⟩ : ∃ zz : Int32, zz = kk + 1 := ⟨_, rfl⟩
              first | have jy_4 : y_4.toInt = kk.toInt + 1 := (by have q9 := ci_add (x := kk) rfl (show (1 : Int32).toInt = 1 by decide) ey_4; omega) | have jy_4 := ci_add (x := kk) rfl (show (1 : Int32).toInt = 1 by decide) ey_4
              refine lv_iinc (v := y_4) (lv' := [(3, .int y_4), (2, .int nn), (0, .ref h), (1, .int x)]) hx hb dX5_unclaimedOf_47 hl (k := 0) rfl (by rw [ey_4]; rfl) (by decide) rfl (fun ls hl => ?_)
              refine lv_goto (tgt := 4) hx hb dX5_unclaimedOf_50 (by decide) ?_
              exact ih y_4 nn _ _ _ (by omega) (by omega) St (lv_sub hl [0, 1, 2, 3] rfl)
            ·
              have i35 := ci_eq (x := y_3) (y := 0) rfl (show (0 : Int32).toInt = 0 by decide) c35
              refine lv_iload_n hx hb dX5_unclaimedOf_38 rfl (lv_at hl 1 rfl) ?_
              refine lv_aload_n hx hb dX5_unclaimedOf_39 rfl (lv_at hl 2 rfl) ?_
              refine cs_get F St 0 rfl rfl inX5 1 (by decide) kf_X5_15 rfl dX5_unclaimedOf_40 ?_
              refine lv_iload_n hx hb dX5_unclaimedOf_43 rfl (lv_at hl 0 rfl) ?_
              refine cs_ild F St 2 1 rfl rfl (vp_in_iff.mpr ⟨by omega, by omega⟩) dX5_unclaimedOf_44 ?_
              refine lv_topi (fun y_5 ey_5 => ?_)
              refine lv_iadd hx hb dX5_unclaimedOf_45 ?_
              refine lv_topi (fun y_6 ey_6 => ?_)
              first | have jy_6 : y_6.toInt = nn.toInt + y_5.toInt := (by have q9 := ci_add (x := nn) (y := y_5) rfl rfl ey_6; omega) | have jy_6 := ci_add (x := nn) (y := y_5) rfl rfl ey_6
              refine lv_istore_n (lv' := [(2, .int y_6), (3, .int kk), (0, .ref h), (1, .int x)]) hx hb dX5_unclaimedOf_46 rfl hl (by decide) rfl (fun ls hl => ?_)
              obtain ⟨y_7, ey_7⟩ : ∃ zz : Int32, zz = kk + 1 := ⟨_, rfl⟩
              first | have jy_7 : y_7.toInt = kk.toInt + 1 := (by have q9 := ci_add (x := kk) rfl (show (1 : Int32).toInt = 1 by decide) ey_7; omega) | have jy_7 := ci_add (x := kk) rfl (show (1 : Int32).toInt = 1 by decide) ey_7
              refine lv_iinc (v := y_7) (lv' := [(3, .int y_7), (2, .int y_6), (0, .ref h), (1, .int x)]) hx hb dX5_unclaimedOf_47 hl (k := 1) rfl (by rw [ey_7]; rfl) (by decide) rfl (fun ls hl => ?_)
              refine lv_goto (tgt := 4) hx hb dX5_unclaimedOf_50 (by decide) ?_
              exact ih y_7 y_6 _ _ _ (by omega) (by omega) St (lv_sub hl [0, 1, 2, 3] rfl)
  exact lp4 251 0 0 _ _ _ (by omega) (by omega) St (lv_sub hl [0, 1, 2, 3] rfl)
set_option maxHeartbeats 4000000 in
set_option maxRecDepth 100000 in
theorem x3_coin (l : Launch) (G : va_G) (k : Nat → Nat) (sz : Nat) (h : Nat) (p0 : Int64) (p1 : Int64) (p2 : Int64) (p3 : Int64) (p4 : Int64) (p5 : Int64) : Met l yX3_coin (Cond.code yX3_coin cX3_coin 1 (some .long) :: tb) ({ frames := 0, cells := 0, slots := 0, locals := 0 } : Room) (va_Pc [.ref h] (cP G k [(h, .inr (3, [.long p0, .long p1, .long p2, .long p3, .long p4, .long p5]))] [] sz)) (va_Ql (fun (r : Int64) (_ : Unit) => (r = p0)) (cB G (fun (_ : Unit) => [(h, .inr (3, [.long p0, .long p1, .long p2, .long p3, .long p4, .long p5]))]) (fun (_ : Unit) => []) (va_A [(h, .inr (3, [.long p0, .long p1, .long p2, .long p3, .long p4, .long p5]))] sz)) (va_A [(h, .inr (3, [.long p0, .long p1, .long p2, .long p3, .long p4, .long p5]))] sz)) 0 0 (va_A [(h, .inr (3, [.long p0, .long p1, .long p2, .long p3, .long p4, .long p5]))] sz) := by
  refine ofC_l (cc := cX3_coin) (maxL := 1) (ret := (some .long)) (by decide) rfl (Nat.le_of_ble_eq_true rfl) ?_
  intro p e s m args below meth c A ls Q F hr hin hlk St hl hQ
  have hx := F.1
  have hb := F.2.1
  have hl : lv_has ls 1 [(0, .ref h)] := hl
  have St : cS G k [(h, .inr (3, [.long p0, .long p1, .long p2, .long p3, .long p4, .long p5]))] [] A s s.heap [] := St
  refine lv_aload_n hx hb dX3_coin_0 rfl (lv_at hl 0 rfl) ?_
  refine cs_get F St 0 rfl rfl inX3 0 (by decide) kf_X3_7 rfl dX3_coin_1 ?_
  exact cs_lret F hr hlk hQ St () (r := p0) rfl [0] rfl (by decide) [] rfl (by decide) (by decide) dX3_coin_4
set_option maxHeartbeats 4000000 in
set_option maxRecDepth 100000 in
theorem x3_loan (l : Launch) (G : va_G) (k : Nat → Nat) (sz : Nat) (h : Nat) (p0 : Int64) (p1 : Int64) (p2 : Int64) (p3 : Int64) (p4 : Int64) (p5 : Int64) : Met l yX3_loan (Cond.code yX3_loan cX3_loan 1 (some .long) :: tb) ({ frames := 0, cells := 0, slots := 0, locals := 0 } : Room) (va_Pc [.ref h] (cP G k [(h, .inr (3, [.long p0, .long p1, .long p2, .long p3, .long p4, .long p5]))] [] sz)) (va_Ql (fun (r : Int64) (_ : Unit) => (r = p1)) (cB G (fun (_ : Unit) => [(h, .inr (3, [.long p0, .long p1, .long p2, .long p3, .long p4, .long p5]))]) (fun (_ : Unit) => []) (va_A [(h, .inr (3, [.long p0, .long p1, .long p2, .long p3, .long p4, .long p5]))] sz)) (va_A [(h, .inr (3, [.long p0, .long p1, .long p2, .long p3, .long p4, .long p5]))] sz)) 0 0 (va_A [(h, .inr (3, [.long p0, .long p1, .long p2, .long p3, .long p4, .long p5]))] sz) := by
  refine ofC_l (cc := cX3_loan) (maxL := 1) (ret := (some .long)) (by decide) rfl (Nat.le_of_ble_eq_true rfl) ?_
  intro p e s m args below meth c A ls Q F hr hin hlk St hl hQ
  have hx := F.1
  have hb := F.2.1
  have hl : lv_has ls 1 [(0, .ref h)] := hl
  have St : cS G k [(h, .inr (3, [.long p0, .long p1, .long p2, .long p3, .long p4, .long p5]))] [] A s s.heap [] := St
  refine lv_aload_n hx hb dX3_loan_0 rfl (lv_at hl 0 rfl) ?_
  refine cs_get F St 0 rfl rfl inX3 1 (by decide) kf_X3_13 rfl dX3_loan_1 ?_
  exact cs_lret F hr hlk hQ St () (r := p1) rfl [0] rfl (by decide) [] rfl (by decide) (by decide) dX3_loan_4
set_option maxHeartbeats 4000000 in
set_option maxRecDepth 100000 in
theorem x3_matched (l : Launch) (G : va_G) (k : Nat → Nat) (sz : Nat) (h : Nat) (p0 : Int64) (p1 : Int64) (p2 : Int64) (p3 : Int64) (p4 : Int64) (p5 : Int64) : Met l yX3_matched (Cond.code yX3_matched cX3_matched 1 (some .long) :: tb) ({ frames := 0, cells := 0, slots := 0, locals := 0 } : Room) (va_Pc [.ref h] (cP G k [(h, .inr (3, [.long p0, .long p1, .long p2, .long p3, .long p4, .long p5]))] [] sz)) (va_Ql (fun (r : Int64) (_ : Unit) => (r = p2)) (cB G (fun (_ : Unit) => [(h, .inr (3, [.long p0, .long p1, .long p2, .long p3, .long p4, .long p5]))]) (fun (_ : Unit) => []) (va_A [(h, .inr (3, [.long p0, .long p1, .long p2, .long p3, .long p4, .long p5]))] sz)) (va_A [(h, .inr (3, [.long p0, .long p1, .long p2, .long p3, .long p4, .long p5]))] sz)) 0 0 (va_A [(h, .inr (3, [.long p0, .long p1, .long p2, .long p3, .long p4, .long p5]))] sz) := by
  refine ofC_l (cc := cX3_matched) (maxL := 1) (ret := (some .long)) (by decide) rfl (Nat.le_of_ble_eq_true rfl) ?_
  intro p e s m args below meth c A ls Q F hr hin hlk St hl hQ
  have hx := F.1
  have hb := F.2.1
  have hl : lv_has ls 1 [(0, .ref h)] := hl
  have St : cS G k [(h, .inr (3, [.long p0, .long p1, .long p2, .long p3, .long p4, .long p5]))] [] A s s.heap [] := St
  refine lv_aload_n hx hb dX3_matched_0 rfl (lv_at hl 0 rfl) ?_
  refine cs_get F St 0 rfl rfl inX3 2 (by decide) kf_X3_16 rfl dX3_matched_1 ?_
  exact cs_lret F hr hlk hQ St () (r := p2) rfl [0] rfl (by decide) [] rfl (by decide) (by decide) dX3_matched_4
set_option maxHeartbeats 4000000 in
set_option maxRecDepth 100000 in
theorem x3_tax (l : Launch) (G : va_G) (k : Nat → Nat) (sz : Nat) (h : Nat) (p0 : Int64) (p1 : Int64) (p2 : Int64) (p3 : Int64) (p4 : Int64) (p5 : Int64) : Met l yX3_tax (Cond.code yX3_tax cX3_tax 1 (some .long) :: tb) ({ frames := 0, cells := 0, slots := 0, locals := 0 } : Room) (va_Pc [.ref h] (cP G k [(h, .inr (3, [.long p0, .long p1, .long p2, .long p3, .long p4, .long p5]))] [] sz)) (va_Ql (fun (r : Int64) (_ : Unit) => (r = p3)) (cB G (fun (_ : Unit) => [(h, .inr (3, [.long p0, .long p1, .long p2, .long p3, .long p4, .long p5]))]) (fun (_ : Unit) => []) (va_A [(h, .inr (3, [.long p0, .long p1, .long p2, .long p3, .long p4, .long p5]))] sz)) (va_A [(h, .inr (3, [.long p0, .long p1, .long p2, .long p3, .long p4, .long p5]))] sz)) 0 0 (va_A [(h, .inr (3, [.long p0, .long p1, .long p2, .long p3, .long p4, .long p5]))] sz) := by
  refine ofC_l (cc := cX3_tax) (maxL := 1) (ret := (some .long)) (by decide) rfl (Nat.le_of_ble_eq_true rfl) ?_
  intro p e s m args below meth c A ls Q F hr hin hlk St hl hQ
  have hx := F.1
  have hb := F.2.1
  have hl : lv_has ls 1 [(0, .ref h)] := hl
  have St : cS G k [(h, .inr (3, [.long p0, .long p1, .long p2, .long p3, .long p4, .long p5]))] [] A s s.heap [] := St
  refine lv_aload_n hx hb dX3_tax_0 rfl (lv_at hl 0 rfl) ?_
  refine cs_get F St 0 rfl rfl inX3 3 (by decide) kf_X3_19 rfl dX3_tax_1 ?_
  exact cs_lret F hr hlk hQ St () (r := p3) rfl [0] rfl (by decide) [] rfl (by decide) (by decide) dX3_tax_4
set_option maxHeartbeats 4000000 in
set_option maxRecDepth 100000 in
theorem x3_paidForStages (l : Launch) (G : va_G) (k : Nat → Nat) (sz : Nat) (h : Nat) (p0 : Int64) (p1 : Int64) (p2 : Int64) (p3 : Int64) (p4 : Int64) (p5 : Int64) : Met l yX3_paidForStages (Cond.code yX3_paidForStages cX3_paidForStages 1 (some .long) :: tb) ({ frames := 0, cells := 0, slots := 0, locals := 0 } : Room) (va_Pc [.ref h] (cP G k [(h, .inr (3, [.long p0, .long p1, .long p2, .long p3, .long p4, .long p5]))] [] sz)) (va_Ql (fun (r : Int64) (_ : Unit) => (r = p4)) (cB G (fun (_ : Unit) => [(h, .inr (3, [.long p0, .long p1, .long p2, .long p3, .long p4, .long p5]))]) (fun (_ : Unit) => []) (va_A [(h, .inr (3, [.long p0, .long p1, .long p2, .long p3, .long p4, .long p5]))] sz)) (va_A [(h, .inr (3, [.long p0, .long p1, .long p2, .long p3, .long p4, .long p5]))] sz)) 0 0 (va_A [(h, .inr (3, [.long p0, .long p1, .long p2, .long p3, .long p4, .long p5]))] sz) := by
  refine ofC_l (cc := cX3_paidForStages) (maxL := 1) (ret := (some .long)) (by decide) rfl (Nat.le_of_ble_eq_true rfl) ?_
  intro p e s m args below meth c A ls Q F hr hin hlk St hl hQ
  have hx := F.1
  have hb := F.2.1
  have hl : lv_has ls 1 [(0, .ref h)] := hl
  have St : cS G k [(h, .inr (3, [.long p0, .long p1, .long p2, .long p3, .long p4, .long p5]))] [] A s s.heap [] := St
  refine lv_aload_n hx hb dX3_paidForStages_0 rfl (lv_at hl 0 rfl) ?_
  refine cs_get F St 0 rfl rfl inX3 4 (by decide) kf_X3_22 rfl dX3_paidForStages_1 ?_
  exact cs_lret F hr hlk hQ St () (r := p4) rfl [0] rfl (by decide) [] rfl (by decide) (by decide) dX3_paidForStages_4
set_option maxHeartbeats 4000000 in
set_option maxRecDepth 100000 in
theorem x3_grown (l : Launch) (G : va_G) (k : Nat → Nat) (sz : Nat) (h : Nat) (p0 : Int64) (p1 : Int64) (p2 : Int64) (p3 : Int64) (p4 : Int64) (p5 : Int64) : Met l yX3_grown (Cond.code yX3_grown cX3_grown 1 (some .long) :: tb) ({ frames := 0, cells := 0, slots := 0, locals := 0 } : Room) (va_Pc [.ref h] (cP G k [(h, .inr (3, [.long p0, .long p1, .long p2, .long p3, .long p4, .long p5]))] [] sz)) (va_Ql (fun (r : Int64) (_ : Unit) => (r = p5)) (cB G (fun (_ : Unit) => [(h, .inr (3, [.long p0, .long p1, .long p2, .long p3, .long p4, .long p5]))]) (fun (_ : Unit) => []) (va_A [(h, .inr (3, [.long p0, .long p1, .long p2, .long p3, .long p4, .long p5]))] sz)) (va_A [(h, .inr (3, [.long p0, .long p1, .long p2, .long p3, .long p4, .long p5]))] sz)) 0 0 (va_A [(h, .inr (3, [.long p0, .long p1, .long p2, .long p3, .long p4, .long p5]))] sz) := by
  refine ofC_l (cc := cX3_grown) (maxL := 1) (ret := (some .long)) (by decide) rfl (Nat.le_of_ble_eq_true rfl) ?_
  intro p e s m args below meth c A ls Q F hr hin hlk St hl hQ
  have hx := F.1
  have hb := F.2.1
  have hl : lv_has ls 1 [(0, .ref h)] := hl
  have St : cS G k [(h, .inr (3, [.long p0, .long p1, .long p2, .long p3, .long p4, .long p5]))] [] A s s.heap [] := St
  refine lv_aload_n hx hb dX3_grown_0 rfl (lv_at hl 0 rfl) ?_
  refine cs_get F St 0 rfl rfl inX3 5 (by decide) kf_X3_25 rfl dX3_grown_1 ?_
  exact cs_lret F hr hlk hQ St () (r := p5) rfl [0] rfl (by decide) [] rfl (by decide) (by decide) dX3_grown_4
