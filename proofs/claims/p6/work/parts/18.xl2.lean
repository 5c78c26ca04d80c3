set_option maxHeartbeats 4000000 in
set_option maxRecDepth 100000 in
theorem x10_isGiver (l : Launch) (G : va_G) (k : Nat → Nat) (sz : Nat) (g : Int32) : Met l yX10_isGiver (Cond.code yX10_isGiver cX10_isGiver 1 (some .boolean) :: tb) ({ frames := 0, cells := 0, slots := 0, locals := 0 } : Room) (va_Pc [.int g] (cP G k [] [] sz)) (va_Qi (fun (r : Int32) (_ : Unit) => ((r = 1) ∧ (0 ≤ g.toInt ∧ g.toInt < 30)) ∨ ((r = 0) ∧ (¬ (0 ≤ g.toInt ∧ g.toInt < 30)))) (cB G (fun (_ : Unit) => []) (fun (_ : Unit) => []) (va_A [] sz)) (va_A [] sz)) 0 0 (va_A [] sz) := by
  refine ofC_i (cc := cX10_isGiver) (maxL := 1) (ret := (some .boolean)) (by decide) rfl (Nat.le_of_ble_eq_true rfl) ?_
  intro p e s m args below meth c A ls Q F hr hin hlk St hl hQ
  have hx := F.1
  have hb := F.2.1
  have hl : lv_has ls 1 [(0, .int g)] := hl
  have St : cS G k [] [] A s s.heap [] := St
  refine lv_iload_n hx hb dX10_isGiver_0 rfl (lv_at hl 0 rfl) ?_
  refine lv_if_lt (tgt := 14) hx hb dX10_isGiver_1 (by decide) (fun c1 => ?_) (fun c1 => ?_)
  ·
    have i1 := ci_lt (x := g) (y := 0) rfl (show (0 : Int32).toInt = 0 by decide) c1
    refine lv_iconst (v := 0) hx hb dX10_isGiver_14 (by decide) ?_
    exact cs_zret F hr hlk hQ St () (r := 0) rfl (Or.inr ⟨rfl, by omega⟩) [] rfl (by decide) [] rfl (by decide) (by decide) dX10_isGiver_15
  ·
    have i1 := ci_nlt (x := g) (y := 0) rfl (show (0 : Int32).toInt = 0 by decide) c1
    refine lv_iload_n hx hb dX10_isGiver_4 rfl (lv_at hl 0 rfl) ?_
    refine lv_bipush (v := 30) hx hb dX10_isGiver_5 (by decide) ?_
    refine lv_icmp_ge (tgt := 14) hx hb dX10_isGiver_7 (by decide) (fun c7 => ?_) (fun c7 => ?_)
    ·
      have i7 := ci_le (x := 30) (y := g) (show (30 : Int32).toInt = 30 by decide) rfl c7
      refine lv_iconst (v := 0) hx hb dX10_isGiver_14 (by decide) ?_
      exact cs_zret F hr hlk hQ St () (r := 0) rfl (Or.inr ⟨rfl, by omega⟩) [] rfl (by decide) [] rfl (by decide) (by decide) dX10_isGiver_15
    ·
      have i7 := ci_nle (x := 30) (y := g) (show (30 : Int32).toInt = 30 by decide) rfl c7
      refine lv_iconst (v := 1) hx hb dX10_isGiver_10 (by decide) ?_
      refine lv_goto (tgt := 15) hx hb dX10_isGiver_11 (by decide) ?_
      exact cs_zret F hr hlk hQ St () (r := 1) rfl (Or.inl ⟨rfl, by omega⟩) [] rfl (by decide) [] rfl (by decide) (by decide) dX10_isGiver_15
set_option maxHeartbeats 4000000 in
set_option maxRecDepth 100000 in
theorem x10_isWithin (l : Launch) (G : va_G) (k : Nat → Nat) (sz : Nat) (x : Int32) (y : Int32) (z : Int32) (ia : Int) (ib : Int) (ea : y.toInt = ia) (eb : z.toInt = ib) : Met l yX10_isWithin (Cond.code yX10_isWithin cX10_isWithin 3 (some .boolean) :: tb) ({ frames := 0, cells := 0, slots := 0, locals := 0 } : Room) (va_Pc [.int x, .int y, .int z] (cP G k [] [] sz)) (va_Qi (fun (r : Int32) (_ : Unit) => ((r = 1) ∧ (ia ≤ x.toInt ∧ x.toInt ≤ ib)) ∨ ((r = 0) ∧ (¬ (ia ≤ x.toInt ∧ x.toInt ≤ ib)))) (cB G (fun (_ : Unit) => []) (fun (_ : Unit) => []) (va_A [] sz)) (va_A [] sz)) 0 0 (va_A [] sz) := by
  refine ofC_i (cc := cX10_isWithin) (maxL := 3) (ret := (some .boolean)) (by decide) rfl (Nat.le_of_ble_eq_true rfl) ?_
  intro p e s m args below meth c A ls Q F hr hin hlk St hl hQ
  have hx := F.1
  have hb := F.2.1
  have hl : lv_has ls 3 [(0, .int x), (1, .int y), (2, .int z)] := hl
  have St : cS G k [] [] A s s.heap [] := St
  refine lv_iload_n hx hb dX10_isWithin_0 rfl (lv_at hl 0 rfl) ?_
  refine lv_iload_n hx hb dX10_isWithin_1 rfl (lv_at hl 1 rfl) ?_
  refine lv_icmp_lt (tgt := 14) hx hb dX10_isWithin_2 (by decide) (fun c2 => ?_) (fun c2 => ?_)
  ·
    have i2 := ci_lt (x := x) (y := y) rfl rfl c2
    refine lv_iconst (v := 0) hx hb dX10_isWithin_14 (by decide) ?_
    exact cs_zret F hr hlk hQ St () (r := 0) rfl (Or.inr ⟨rfl, by omega⟩) [] rfl (by decide) [] rfl (by decide) (by decide) dX10_isWithin_15
  ·
    have i2 := ci_nlt (x := x) (y := y) rfl rfl c2
    refine lv_iload_n hx hb dX10_isWithin_5 rfl (lv_at hl 0 rfl) ?_
    refine lv_iload_n hx hb dX10_isWithin_6 rfl (lv_at hl 2 rfl) ?_
    refine lv_icmp_gt (tgt := 14) hx hb dX10_isWithin_7 (by decide) (fun c7 => ?_) (fun c7 => ?_)
    ·
      have i7 := ci_lt (x := z) (y := x) rfl rfl c7
      refine lv_iconst (v := 0) hx hb dX10_isWithin_14 (by decide) ?_
      exact cs_zret F hr hlk hQ St () (r := 0) rfl (Or.inr ⟨rfl, by omega⟩) [] rfl (by decide) [] rfl (by decide) (by decide) dX10_isWithin_15
    ·
      have i7 := ci_nlt (x := z) (y := x) rfl rfl c7
      refine lv_iconst (v := 1) hx hb dX10_isWithin_10 (by decide) ?_
      refine lv_goto (tgt := 15) hx hb dX10_isWithin_11 (by decide) ?_
      exact cs_zret F hr hlk hQ St () (r := 1) rfl (Or.inl ⟨rfl, by omega⟩) [] rfl (by decide) [] rfl (by decide) (by decide) dX10_isWithin_15
set_option maxHeartbeats 4000000 in
set_option maxRecDepth 100000 in
theorem x10_isSum (l : Launch) (G : va_G) (k : Nat → Nat) (sz : Nat) (x : Int32) : Met l yX10_isSum (Cond.code yX10_isSum cX10_isSum 1 (some .boolean) :: tb) ({ frames := 1, cells := 0, slots := 0, locals := 22 } : Room) (va_Pc [.int x] (cP G k [] [] sz)) (va_Qi (fun (r : Int32) (_ : Unit) => ((r = 1) ∧ (1 ≤ x.toInt ∧ x.toInt ≤ 5000000)) ∨ ((r = 0) ∧ (¬ (1 ≤ x.toInt ∧ x.toInt ≤ 5000000)))) (cB G (fun (_ : Unit) => []) (fun (_ : Unit) => []) (va_A [] sz)) (va_A [] sz)) 0 0 (va_A [] sz) := by
  refine ofC_i (cc := cX10_isSum) (maxL := 1) (ret := (some .boolean)) (by decide) rfl (Nat.le_of_ble_eq_true rfl) ?_
  intro p e s m args below meth c A ls Q F hr hin hlk St hl hQ
  have hx := F.1
  have hb := F.2.1
  have hl : lv_has ls 1 [(0, .int x)] := hl
  have St : cS G k [] [] A s s.heap [] := St
  refine lv_iload_n hx hb dX10_isSum_0 rfl (lv_at hl 0 rfl) ?_
  refine lv_iconst (v := 1) hx hb dX10_isSum_1 (by decide) ?_
  refine lv_ldcw (v := 5000000) hx hb F.2.2.2.1 (F.2.2.2.2 _ kk_X10_307) dX10_isSum_2 ?_
  refine cs_i St [] [] (wc := []) (wr := []) rfl rfl (by decide) (by decide) (va_runS (As := [.int x, .int 1, .int 5000000]) (rest := []) F (x10_isWithin l G k _ x 1 5000000 1 5000000 (by decide) (by decide)) (cwSt F mf_X10_isWithin km_X10_119 rfl rfl ⟨Nat.le_of_ble_eq_true rfl, Nat.le_of_ble_eq_true rfl⟩) (cs_pre St [] rfl (by decide) [] rfl) rfl rfl hl.1 rfl (lv_room (Nat.le_of_ble_eq_true rfl)) dX10_isSum_5 ⟨Nat.le_of_ble_eq_true rfl, Nat.le_of_ble_eq_true rfl⟩) (fun r_1 u_2 H locs hw St => ?_)
  try dsimp only at hw
  rcases hw with ⟨z_3, hf_4⟩ | ⟨z_5, hf_6⟩
  ·
    subst r_1
    have St : cS G k [] [] A s H locs := St
    exact cs_zret F hr hlk hQ St () (r := 1) rfl (Or.inl ⟨rfl, by omega⟩) [] rfl (by decide) [] rfl (by decide) (by decide) dX10_isSum_8
  ·
    subst r_1
    have St : cS G k [] [] A s H locs := St
    exact cs_zret F hr hlk hQ St () (r := 0) rfl (Or.inr ⟨rfl, by omega⟩) [] rfl (by decide) [] rfl (by decide) (by decide) dX10_isSum_8
set_option maxHeartbeats 4000000 in
set_option maxRecDepth 100000 in
theorem x0_setDecl (l : Launch) (G : va_G) (k : Nat → Nat) (sz : Nat) (h : Nat) (b0 : Nat) (b1 : Nat) (b2 : Nat) (b3 : Nat) (b4 : Nat) (b5 : Nat) (e0 : ClassId) (e1 : ClassId) (f0 : Nat → Int32) (f1 : Nat → Int32) (x : Int32) (y : Int32) (z : Int32) : Met l yX0_setDeclaration (Cond.code yX0_setDeclaration cX0_setDeclaration 4 none :: tb) ({ frames := 1, cells := 0, slots := 0, locals := 20 } : Room) (va_Pc [.ref h, .int x, .int y, .int z] (cP G k [(h, .inr (0, [.ref b0, .ref b1, .ref b2, .ref b3, .ref b4, .ref b5])), (b0, .inl (e0, 30, .inl f0)), (b1, .inl (e1, 30, .inl f1))] [(e0, .int), (e1, .int)] sz)) (va_Qv (fun (u : (Nat → Int32) × (Nat → Int32)) => match u with | (z0, z1) => True) (cB G (fun u => match u with | (z0, z1) => [(h, .inr (0, [.ref b0, .ref b1, .ref b2, .ref b3, .ref b4, .ref b5])), (b0, .inl (e0, 30, .inl z0)), (b1, .inl (e1, 30, .inl z1))]) (fun u => match u with | (z0, z1) => []) (va_A [(h, .inr (0, [.ref b0, .ref b1, .ref b2, .ref b3, .ref b4, .ref b5])), (b0, .inl (e0, 30, .inl f0)), (b1, .inl (e1, 30, .inl f1))] sz)) (va_A [(h, .inr (0, [.ref b0, .ref b1, .ref b2, .ref b3, .ref b4, .ref b5])), (b0, .inl (e0, 30, .inl f0)), (b1, .inl (e1, 30, .inl f1))] sz)) 0 0 (va_A [(h, .inr (0, [.ref b0, .ref b1, .ref b2, .ref b3, .ref b4, .ref b5])), (b0, .inl (e0, 30, .inl f0)), (b1, .inl (e1, 30, .inl f1))] sz) := by
  refine ofC_v (cc := cX0_setDeclaration) (maxL := 4) (ret := none) (by decide) rfl (Nat.le_of_ble_eq_true rfl) ?_
  intro p e s m args below meth c A ls Q F hr hin hlk St hl hQ
  have hx := F.1
  have hb := F.2.1
  have hl : lv_has ls 4 [(0, .ref h), (1, .int x), (2, .int y), (3, .int z)] := hl
  have St : cS G k [(h, .inr (0, [.ref b0, .ref b1, .ref b2, .ref b3, .ref b4, .ref b5])), (b0, .inl (e0, 30, .inl f0)), (b1, .inl (e1, 30, .inl f1))] [(e0, .int), (e1, .int)] A s s.heap [] := St
  refine lv_iload_n hx hb dX0_setDeclaration_0 rfl (lv_at hl 1 rfl) ?_
  refine cs_i St [] [0, 1, 2] (wc := []) (wr := [(h, .inr (0, [.ref b0, .ref b1, .ref b2, .ref b3, .ref b4, .ref b5])), (b0, .inl (e0, 30, .inl f0)), (b1, .inl (e1, 30, .inl f1))]) rfl rfl (by decide) (by decide) (va_runSN (As := [.int x]) (rest := []) F (x10_isGiver l G k _ x) (cwSNt F mf_X10_isGiver St.2.2.2.2.2.1.2.2.2.2.2.2.1 rfl rfl ⟨Nat.le_of_ble_eq_true rfl, Nat.le_of_ble_eq_true rfl⟩) (cs_pre St [] rfl (by decide) [] rfl) rfl rfl hl.1 rfl (lv_room (Nat.le_of_ble_eq_true rfl)) dX0_setDeclaration_1 ⟨Nat.le_of_ble_eq_true rfl, Nat.le_of_ble_eq_true rfl⟩) (fun r_1 u_2 H locs hw St => ?_)
  try dsimp only at hw
  rcases hw with ⟨z_3, hf_4⟩ | ⟨z_5, hf_6⟩
  ·
    subst r_1
    have St : cS G k [(h, .inr (0, [.ref b0, .ref b1, .ref b2, .ref b3, .ref b4, .ref b5])), (b0, .inl (e0, 30, .inl f0)), (b1, .inl (e1, 30, .inl f1))] [(e0, .int), (e1, .int)] A s H locs := St
    refine lv_if_eq (tgt := 21) hx hb dX0_setDeclaration_4 (by decide) (fun c4 => ?_) (fun c4 => ?_)
    · exact absurd c4 (by decide)
    refine lv_aload_n hx hb dX0_setDeclaration_7 rfl (lv_at hl 0 rfl) ?_
    refine cs_get F St 0 rfl rfl inX0 0 (by decide) kf_X0_9 rfl dX0_setDeclaration_8 ?_
    refine lv_iload_n hx hb dX0_setDeclaration_11 rfl (lv_at hl 1 rfl) ?_
    refine lv_iload_n hx hb dX0_setDeclaration_12 rfl (lv_at hl 2 rfl) ?_
    refine cs_ist F St 1 0 rfl rfl (vp_in_iff.mpr ⟨by omega, by omega⟩) (w' := [(h, .inr (0, [.ref b0, .ref b1, .ref b2, .ref b3, .ref b4, .ref b5])), (b0, .inl (e0, 30, .inl (upd f0 (x : Int32).toNatClampNeg y))), (b1, .inl (e1, 30, .inl f1))]) rfl dX0_setDeclaration_13 (fun H locs St => ?_)
    obtain ⟨f_7, ef_7⟩ : ∃ zz : Nat → Int32, zz = upd f0 (x : Int32).toNatClampNeg y := ⟨_, rfl⟩
    rw [← ef_7] at St
    refine lv_aload_n hx hb dX0_setDeclaration_14 rfl (lv_at hl 0 rfl) ?_
    refine cs_get F St 0 rfl rfl inX0 1 (by decide) kf_X0_15 rfl dX0_setDeclaration_15 ?_
    refine lv_iload_n hx hb dX0_setDeclaration_18 rfl (lv_at hl 1 rfl) ?_
    refine lv_iload_n hx hb dX0_setDeclaration_19 rfl (lv_at hl 3 rfl) ?_
    refine cs_ist F St 2 1 rfl rfl (vp_in_iff.mpr ⟨by omega, by omega⟩) (w' := [(h, .inr (0, [.ref b0, .ref b1, .ref b2, .ref b3, .ref b4, .ref b5])), (b0, .inl (e0, 30, .inl f_7)), (b1, .inl (e1, 30, .inl (upd f1 (x : Int32).toNatClampNeg z)))]) rfl dX0_setDeclaration_20 (fun H locs St => ?_)
    obtain ⟨f_8, ef_8⟩ : ∃ zz : Nat → Int32, zz = upd f1 (x : Int32).toNatClampNeg z := ⟨_, rfl⟩
    rw [← ef_8] at St
    exact cs_vret F hr hlk hQ St (f_7, f_8) (by trivial) [0, 1, 2] rfl (by decide) [] rfl (by decide) (by decide) dX0_setDeclaration_21
  ·
    subst r_1
    have St : cS G k [(h, .inr (0, [.ref b0, .ref b1, .ref b2, .ref b3, .ref b4, .ref b5])), (b0, .inl (e0, 30, .inl f0)), (b1, .inl (e1, 30, .inl f1))] [(e0, .int), (e1, .int)] A s H locs := St
    refine lv_if_eq (tgt := 21) hx hb dX0_setDeclaration_4 (by decide) (fun c4 => ?_) (fun c4 => ?_)
    rotate_left
    · exact absurd (by decide) c4
    exact cs_vret F hr hlk hQ St (f0, f1) (by trivial) [0, 1, 2] rfl (by decide) [] rfl (by decide) (by decide) dX0_setDeclaration_21
set_option maxHeartbeats 4000000 in
set_option maxRecDepth 100000 in
theorem x0_declaredFrom (l : Launch) (G : va_G) (k : Nat → Nat) (sz : Nat) (h : Nat) (b0 : Nat) (b1 : Nat) (b2 : Nat) (b3 : Nat) (b4 : Nat) (b5 : Nat) (e0 : ClassId) (f0 : Nat → Int32) (x : Int32) : Met l yX0_declaredFrom (Cond.code yX0_declaredFrom cX0_declaredFrom 2 (some .int) :: tb) ({ frames := 1, cells := 0, slots := 0, locals := 20 } : Room) (va_Pc [.ref h, .int x] (cP G k [(h, .inr (0, [.ref b0, .ref b1, .ref b2, .ref b3, .ref b4, .ref b5])), (b0, .inl (e0, 30, .inl f0))] [(e0, .int)] sz)) (va_Qi (fun (r : Int32) (_ : Unit) => True) (cB G (fun (_ : Unit) => [(h, .inr (0, [.ref b0, .ref b1, .ref b2, .ref b3, .ref b4, .ref b5])), (b0, .inl (e0, 30, .inl f0))]) (fun (_ : Unit) => []) (va_A [(h, .inr (0, [.ref b0, .ref b1, .ref b2, .ref b3, .ref b4, .ref b5])), (b0, .inl (e0, 30, .inl f0))] sz)) (va_A [(h, .inr (0, [.ref b0, .ref b1, .ref b2, .ref b3, .ref b4, .ref b5])), (b0, .inl (e0, 30, .inl f0))] sz)) 0 0 (va_A [(h, .inr (0, [.ref b0, .ref b1, .ref b2, .ref b3, .ref b4, .ref b5])), (b0, .inl (e0, 30, .inl f0))] sz) := by
  refine ofC_i (cc := cX0_declaredFrom) (maxL := 2) (ret := (some .int)) (by decide) rfl (Nat.le_of_ble_eq_true rfl) ?_
  intro p e s m args below meth c A ls Q F hr hin hlk St hl hQ
  have hx := F.1
  have hb := F.2.1
  have hl : lv_has ls 2 [(0, .ref h), (1, .int x)] := hl
  have St : cS G k [(h, .inr (0, [.ref b0, .ref b1, .ref b2, .ref b3, .ref b4, .ref b5])), (b0, .inl (e0, 30, .inl f0))] [(e0, .int)] A s s.heap [] := St
  refine lv_iload_n hx hb dX0_declaredFrom_0 rfl (lv_at hl 1 rfl) ?_
  refine cs_i St [] [0, 1] (wc := []) (wr := [(h, .inr (0, [.ref b0, .ref b1, .ref b2, .ref b3, .ref b4, .ref b5])), (b0, .inl (e0, 30, .inl f0))]) rfl rfl (by decide) (by decide) (va_runSN (As := [.int x]) (rest := []) F (x10_isGiver l G k _ x) (cwSNt F mf_X10_isGiver St.2.2.2.2.2.1.2.2.2.2.2.2.1 rfl rfl ⟨Nat.le_of_ble_eq_true rfl, Nat.le_of_ble_eq_true rfl⟩) (cs_pre St [] rfl (by decide) [] rfl) rfl rfl hl.1 rfl (lv_room (Nat.le_of_ble_eq_true rfl)) dX0_declaredFrom_1 ⟨Nat.le_of_ble_eq_true rfl, Nat.le_of_ble_eq_true rfl⟩) (fun r_1 u_2 H locs hw St => ?_)
  try dsimp only at hw
  rcases hw with ⟨z_3, hf_4⟩ | ⟨z_5, hf_6⟩
  ·
    subst r_1
    have St : cS G k [(h, .inr (0, [.ref b0, .ref b1, .ref b2, .ref b3, .ref b4, .ref b5])), (b0, .inl (e0, 30, .inl f0))] [(e0, .int)] A s H locs := St
    refine lv_if_eq (tgt := 16) hx hb dX0_declaredFrom_4 (by decide) (fun c4 => ?_) (fun c4 => ?_)
    · exact absurd c4 (by decide)
    refine lv_aload_n hx hb dX0_declaredFrom_7 rfl (lv_at hl 0 rfl) ?_
    refine cs_get F St 0 rfl rfl inX0 0 (by decide) kf_X0_9 rfl dX0_declaredFrom_8 ?_
    refine lv_iload_n hx hb dX0_declaredFrom_11 rfl (lv_at hl 1 rfl) ?_
    refine cs_ild F St 1 0 rfl rfl (vp_in_iff.mpr ⟨by omega, by omega⟩) dX0_declaredFrom_12 ?_
    refine lv_topi (fun y_7 ey_7 => ?_)
    refine lv_goto (tgt := 17) hx hb dX0_declaredFrom_13 (by decide) ?_
    exact cs_iret F hr hlk hQ St () (r := y_7) (by trivial) [0, 1] rfl (by decide) [] rfl (by decide) (by decide) dX0_declaredFrom_17
  ·
    subst r_1
    have St : cS G k [(h, .inr (0, [.ref b0, .ref b1, .ref b2, .ref b3, .ref b4, .ref b5])), (b0, .inl (e0, 30, .inl f0))] [(e0, .int)] A s H locs := St
    refine lv_if_eq (tgt := 16) hx hb dX0_declaredFrom_4 (by decide) (fun c4 => ?_) (fun c4 => ?_)
    rotate_left
    · exact absurd (by decide) c4
    refine lv_iconst (v := (-1)) hx hb dX0_declaredFrom_16 (by decide) ?_
    exact cs_iret F hr hlk hQ St () (r := (-1)) (by trivial) [0, 1] rfl (by decide) [] rfl (by decide) (by decide) dX0_declaredFrom_17
set_option maxHeartbeats 4000000 in
set_option maxRecDepth 100000 in
theorem x0_declaredTo (l : Launch) (G : va_G) (k : Nat → Nat) (sz : Nat) (h : Nat) (b0 : Nat) (b1 : Nat) (b2 : Nat) (b3 : Nat) (b4 : Nat) (b5 : Nat) (e1 : ClassId) (f1 : Nat → Int32) (x : Int32) : Met l yX0_declaredTo (Cond.code yX0_declaredTo cX0_declaredTo 2 (some .int) :: tb) ({ frames := 1, cells := 0, slots := 0, locals := 20 } : Room) (va_Pc [.ref h, .int x] (cP G k [(h, .inr (0, [.ref b0, .ref b1, .ref b2, .ref b3, .ref b4, .ref b5])), (b1, .inl (e1, 30, .inl f1))] [(e1, .int)] sz)) (va_Qi (fun (r : Int32) (_ : Unit) => True) (cB G (fun (_ : Unit) => [(h, .inr (0, [.ref b0, .ref b1, .ref b2, .ref b3, .ref b4, .ref b5])), (b1, .inl (e1, 30, .inl f1))]) (fun (_ : Unit) => []) (va_A [(h, .inr (0, [.ref b0, .ref b1, .ref b2, .ref b3, .ref b4, .ref b5])), (b1, .inl (e1, 30, .inl f1))] sz)) (va_A [(h, .inr (0, [.ref b0, .ref b1, .ref b2, .ref b3, .ref b4, .ref b5])), (b1, .inl (e1, 30, .inl f1))] sz)) 0 0 (va_A [(h, .inr (0, [.ref b0, .ref b1, .ref b2, .ref b3, .ref b4, .ref b5])), (b1, .inl (e1, 30, .inl f1))] sz) := by
  refine ofC_i (cc := cX0_declaredTo) (maxL := 2) (ret := (some .int)) (by decide) rfl (Nat.le_of_ble_eq_true rfl) ?_
  intro p e s m args below meth c A ls Q F hr hin hlk St hl hQ
  have hx := F.1
  have hb := F.2.1
  have hl : lv_has ls 2 [(0, .ref h), (1, .int x)] := hl
  have St : cS G k [(h, .inr (0, [.ref b0, .ref b1, .ref b2, .ref b3, .ref b4, .ref b5])), (b1, .inl (e1, 30, .inl f1))] [(e1, .int)] A s s.heap [] := St
  refine lv_iload_n hx hb dX0_declaredTo_0 rfl (lv_at hl 1 rfl) ?_
  refine cs_i St [] [0, 1] (wc := []) (wr := [(h, .inr (0, [.ref b0, .ref b1, .ref b2, .ref b3, .ref b4, .ref b5])), (b1, .inl (e1, 30, .inl f1))]) rfl rfl (by decide) (by decide) (va_runSN (As := [.int x]) (rest := []) F (x10_isGiver l G k _ x) (cwSNt F mf_X10_isGiver St.2.2.2.2.2.1.2.2.2.2.2.2.1 rfl rfl ⟨Nat.le_of_ble_eq_true rfl, Nat.le_of_ble_eq_true rfl⟩) (cs_pre St [] rfl (by decide) [] rfl) rfl rfl hl.1 rfl (lv_room (Nat.le_of_ble_eq_true rfl)) dX0_declaredTo_1 ⟨Nat.le_of_ble_eq_true rfl, Nat.le_of_ble_eq_true rfl⟩) (fun r_1 u_2 H locs hw St => ?_)
  try dsimp only at hw
  rcases hw with ⟨z_3, hf_4⟩ | ⟨z_5, hf_6⟩
  ·
    subst r_1
    have St : cS G k [(h, .inr (0, [.ref b0, .ref b1, .ref b2, .ref b3, .ref b4, .ref b5])), (b1, .inl (e1, 30, .inl f1))] [(e1, .int)] A s H locs := St
    refine lv_if_eq (tgt := 16) hx hb dX0_declaredTo_4 (by decide) (fun c4 => ?_) (fun c4 => ?_)
    · exact absurd c4 (by decide)
    refine lv_aload_n hx hb dX0_declaredTo_7 rfl (lv_at hl 0 rfl) ?_
    refine cs_get F St 0 rfl rfl inX0 1 (by decide) kf_X0_15 rfl dX0_declaredTo_8 ?_
    refine lv_iload_n hx hb dX0_declaredTo_11 rfl (lv_at hl 1 rfl) ?_
    refine cs_ild F St 1 0 rfl rfl (vp_in_iff.mpr ⟨by omega, by omega⟩) dX0_declaredTo_12 ?_
    refine lv_topi (fun y_7 ey_7 => ?_)
    refine lv_goto (tgt := 17) hx hb dX0_declaredTo_13 (by decide) ?_
    exact cs_iret F hr hlk hQ St () (r := y_7) (by trivial) [0, 1] rfl (by decide) [] rfl (by decide) (by decide) dX0_declaredTo_17
  ·
    subst r_1
    have St : cS G k [(h, .inr (0, [.ref b0, .ref b1, .ref b2, .ref b3, .ref b4, .ref b5])), (b1, .inl (e1, 30, .inl f1))] [(e1, .int)] A s H locs := St
    refine lv_if_eq (tgt := 16) hx hb dX0_declaredTo_4 (by decide) (fun c4 => ?_) (fun c4 => ?_)
    rotate_left
    · exact absurd (by decide) c4
    refine lv_iconst (v := (-1)) hx hb dX0_declaredTo_16 (by decide) ?_
    exact cs_iret F hr hlk hQ St () (r := (-1)) (by trivial) [0, 1] rfl (by decide) [] rfl (by decide) (by decide) dX0_declaredTo_17
set_option maxHeartbeats 4000000 in
set_option maxRecDepth 100000 in
theorem x0_gotBack (l : Launch) (G : va_G) (k : Nat → Nat) (sz : Nat) (h : Nat) (b0 : Nat) (b1 : Nat) (b2 : Nat) (b3 : Nat) (b4 : Nat) (b5 : Nat) (e3 : ClassId) (f3 : Nat → Int32) (x : Int32) : Met l yX0_gotBack (Cond.code yX0_gotBack cX0_gotBack 2 (some .int) :: tb) ({ frames := 1, cells := 0, slots := 0, locals := 20 } : Room) (va_Pc [.ref h, .int x] (cP G k [(h, .inr (0, [.ref b0, .ref b1, .ref b2, .ref b3, .ref b4, .ref b5])), (b3, .inl (e3, 30, .inl f3))] [(e3, .int)] sz)) (va_Qi (fun (r : Int32) (_ : Unit) => True) (cB G (fun (_ : Unit) => [(h, .inr (0, [.ref b0, .ref b1, .ref b2, .ref b3, .ref b4, .ref b5])), (b3, .inl (e3, 30, .inl f3))]) (fun (_ : Unit) => []) (va_A [(h, .inr (0, [.ref b0, .ref b1, .ref b2, .ref b3, .ref b4, .ref b5])), (b3, .inl (e3, 30, .inl f3))] sz)) (va_A [(h, .inr (0, [.ref b0, .ref b1, .ref b2, .ref b3, .ref b4, .ref b5])), (b3, .inl (e3, 30, .inl f3))] sz)) 0 0 (va_A [(h, .inr (0, [.ref b0, .ref b1, .ref b2, .ref b3, .ref b4, .ref b5])), (b3, .inl (e3, 30, .inl f3))] sz) := by
  refine ofC_i (cc := cX0_gotBack) (maxL := 2) (ret := (some .int)) (by decide) rfl (Nat.le_of_ble_eq_true rfl) ?_
  intro p e s m args below meth c A ls Q F hr hin hlk St hl hQ
  have hx := F.1
  have hb := F.2.1
  have hl : lv_has ls 2 [(0, .ref h), (1, .int x)] := hl
  have St : cS G k [(h, .inr (0, [.ref b0, .ref b1, .ref b2, .ref b3, .ref b4, .ref b5])), (b3, .inl (e3, 30, .inl f3))] [(e3, .int)] A s s.heap [] := St
  refine lv_iload_n hx hb dX0_gotBack_0 rfl (lv_at hl 1 rfl) ?_
  refine cs_i St [] [0, 1] (wc := []) (wr := [(h, .inr (0, [.ref b0, .ref b1, .ref b2, .ref b3, .ref b4, .ref b5])), (b3, .inl (e3, 30, .inl f3))]) rfl rfl (by decide) (by decide) (va_runSN (As := [.int x]) (rest := []) F (x10_isGiver l G k _ x) (cwSNt F mf_X10_isGiver St.2.2.2.2.2.1.2.2.2.2.2.2.1 rfl rfl ⟨Nat.le_of_ble_eq_true rfl, Nat.le_of_ble_eq_true rfl⟩) (cs_pre St [] rfl (by decide) [] rfl) rfl rfl hl.1 rfl (lv_room (Nat.le_of_ble_eq_true rfl)) dX0_gotBack_1 ⟨Nat.le_of_ble_eq_true rfl, Nat.le_of_ble_eq_true rfl⟩) (fun r_1 u_2 H locs hw St => ?_)
  try dsimp only at hw
  rcases hw with ⟨z_3, hf_4⟩ | ⟨z_5, hf_6⟩
  ·
    subst r_1
    have St : cS G k [(h, .inr (0, [.ref b0, .ref b1, .ref b2, .ref b3, .ref b4, .ref b5])), (b3, .inl (e3, 30, .inl f3))] [(e3, .int)] A s H locs := St
    refine lv_if_eq (tgt := 16) hx hb dX0_gotBack_4 (by decide) (fun c4 => ?_) (fun c4 => ?_)
    · exact absurd c4 (by decide)
    refine lv_aload_n hx hb dX0_gotBack_7 rfl (lv_at hl 0 rfl) ?_
    refine cs_get F St 0 rfl rfl inX0 3 (by decide) kf_X0_22 rfl dX0_gotBack_8 ?_
    refine lv_iload_n hx hb dX0_gotBack_11 rfl (lv_at hl 1 rfl) ?_
    refine cs_ild F St 1 0 rfl rfl (vp_in_iff.mpr ⟨by omega, by omega⟩) dX0_gotBack_12 ?_
    refine lv_topi (fun y_7 ey_7 => ?_)
    refine lv_goto (tgt := 17) hx hb dX0_gotBack_13 (by decide) ?_
    exact cs_iret F hr hlk hQ St () (r := y_7) (by trivial) [0, 1] rfl (by decide) [] rfl (by decide) (by decide) dX0_gotBack_17
  ·
    subst r_1
    have St : cS G k [(h, .inr (0, [.ref b0, .ref b1, .ref b2, .ref b3, .ref b4, .ref b5])), (b3, .inl (e3, 30, .inl f3))] [(e3, .int)] A s H locs := St
    refine lv_if_eq (tgt := 16) hx hb dX0_gotBack_4 (by decide) (fun c4 => ?_) (fun c4 => ?_)
    rotate_left
    · exact absurd (by decide) c4
    refine lv_iconst (v := 0) hx hb dX0_gotBack_16 (by decide) ?_
    exact cs_iret F hr hlk hQ St () (r := 0) (by trivial) [0, 1] rfl (by decide) [] rfl (by decide) (by decide) dX0_gotBack_17
set_option maxHeartbeats 4000000 in
set_option maxRecDepth 100000 in
theorem x0_ofStone (l : Launch) (G : va_G) (k : Nat → Nat) (sz : Nat) (h : Nat) (b0 : Nat) (b1 : Nat) (b2 : Nat) (b3 : Nat) (b4 : Nat) (b5 : Nat) (e5 : ClassId) (f5 : Nat → Int32) (x : Int32) : Met l yX0_ofStone (Cond.code yX0_ofStone cX0_ofStone 2 (some .int) :: tb) ({ frames := 0, cells := 0, slots := 0, locals := 0 } : Room) (va_Pc [.ref h, .int x] (cP G k [(h, .inr (0, [.ref b0, .ref b1, .ref b2, .ref b3, .ref b4, .ref b5])), (b5, .inl (e5, 30, .inl f5))] [(e5, .int)] sz)) (va_Qi (fun (r : Int32) (_ : Unit) => True) (cB G (fun (_ : Unit) => [(h, .inr (0, [.ref b0, .ref b1, .ref b2, .ref b3, .ref b4, .ref b5])), (b5, .inl (e5, 30, .inl f5))]) (fun (_ : Unit) => []) (va_A [(h, .inr (0, [.ref b0, .ref b1, .ref b2, .ref b3, .ref b4, .ref b5])), (b5, .inl (e5, 30, .inl f5))] sz)) (va_A [(h, .inr (0, [.ref b0, .ref b1, .ref b2, .ref b3, .ref b4, .ref b5])), (b5, .inl (e5, 30, .inl f5))] sz)) 0 0 (va_A [(h, .inr (0, [.ref b0, .ref b1, .ref b2, .ref b3, .ref b4, .ref b5])), (b5, .inl (e5, 30, .inl f5))] sz) := by
  refine ofC_i (cc := cX0_ofStone) (maxL := 2) (ret := (some .int)) (by decide) rfl (Nat.le_of_ble_eq_true rfl) ?_
  intro p e s m args below meth c A ls Q F hr hin hlk St hl hQ
  have hx := F.1
  have hb := F.2.1
  have hl : lv_has ls 2 [(0, .ref h), (1, .int x)] := hl
  have St : cS G k [(h, .inr (0, [.ref b0, .ref b1, .ref b2, .ref b3, .ref b4, .ref b5])), (b5, .inl (e5, 30, .inl f5))] [(e5, .int)] A s s.heap [] := St
  refine lv_iload_n hx hb dX0_ofStone_0 rfl (lv_at hl 1 rfl) ?_
  refine lv_if_lt (tgt := 19) hx hb dX0_ofStone_1 (by decide) (fun c1 => ?_) (fun c1 => ?_)
  ·
    have i1 := ci_lt (x := x) (y := 0) rfl (show (0 : Int32).toInt = 0 by decide) c1
    refine lv_iconst (v := (-1)) hx hb dX0_ofStone_19 (by decide) ?_
    exact cs_iret F hr hlk hQ St () (r := (-1)) (by trivial) [0, 1] rfl (by decide) [] rfl (by decide) (by decide) dX0_ofStone_20
  ·
    have i1 := ci_nlt (x := x) (y := 0) rfl (show (0 : Int32).toInt = 0 by decide) c1
    refine lv_iload_n hx hb dX0_ofStone_4 rfl (lv_at hl 1 rfl) ?_
    refine lv_bipush (v := 30) hx hb dX0_ofStone_5 (by decide) ?_
    refine lv_icmp_ge (tgt := 19) hx hb dX0_ofStone_7 (by decide) (fun c7 => ?_) (fun c7 => ?_)
    ·
      have i7 := ci_le (x := 30) (y := x) (show (30 : Int32).toInt = 30 by decide) rfl c7
      refine lv_iconst (v := (-1)) hx hb dX0_ofStone_19 (by decide) ?_
      exact cs_iret F hr hlk hQ St () (r := (-1)) (by trivial) [0, 1] rfl (by decide) [] rfl (by decide) (by decide) dX0_ofStone_20
    ·
      have i7 := ci_nle (x := 30) (y := x) (show (30 : Int32).toInt = 30 by decide) rfl c7
      refine lv_aload_n hx hb dX0_ofStone_10 rfl (lv_at hl 0 rfl) ?_
      refine cs_get F St 0 rfl rfl inX0 5 (by decide) kf_X0_28 rfl dX0_ofStone_11 ?_
      refine lv_iload_n hx hb dX0_ofStone_14 rfl (lv_at hl 1 rfl) ?_
      refine cs_ild F St 1 0 rfl rfl (vp_in_iff.mpr ⟨by omega, by omega⟩) dX0_ofStone_15 ?_
      refine lv_topi (fun y_1 ey_1 => ?_)
      refine lv_goto (tgt := 20) hx hb dX0_ofStone_16 (by decide) ?_
      exact cs_iret F hr hlk hQ St () (r := y_1) (by trivial) [0, 1] rfl (by decide) [] rfl (by decide) (by decide) dX0_ofStone_20
set_option maxHeartbeats 4000000 in
set_option maxRecDepth 100000 in
theorem x0_hasDeclared (l : Launch) (G : va_G) (k : Nat → Nat) (sz : Nat) (h : Nat) (b0 : Nat) (b1 : Nat) (b2 : Nat) (b3 : Nat) (b4 : Nat) (b5 : Nat) (e0 : ClassId) (e1 : ClassId) (f0 : Nat → Int32) (f1 : Nat → Int32) (x : Int32) (y : Int32) : Met l yX0_hasDeclared (Cond.code yX0_hasDeclared cX0_hasDeclared 3 (some .boolean) :: tb) ({ frames := 1, cells := 0, slots := 0, locals := 20 } : Room) (va_Pc [.ref h, .int x, .int y] (cP G k [(h, .inr (0, [.ref b0, .ref b1, .ref b2, .ref b3, .ref b4, .ref b5])), (b0, .inl (e0, 30, .inl f0)), (b1, .inl (e1, 30, .inl f1))] [(e0, .int), (e1, .int)] sz)) (va_Qi (fun (r : Int32) (_ : Unit) => ((r = 1)) ∨ ((r = 0))) (cB G (fun (_ : Unit) => [(h, .inr (0, [.ref b0, .ref b1, .ref b2, .ref b3, .ref b4, .ref b5])), (b0, .inl (e0, 30, .inl f0)), (b1, .inl (e1, 30, .inl f1))]) (fun (_ : Unit) => []) (va_A [(h, .inr (0, [.ref b0, .ref b1, .ref b2, .ref b3, .ref b4, .ref b5])), (b0, .inl (e0, 30, .inl f0)), (b1, .inl (e1, 30, .inl f1))] sz)) (va_A [(h, .inr (0, [.ref b0, .ref b1, .ref b2, .ref b3, .ref b4, .ref b5])), (b0, .inl (e0, 30, .inl f0)), (b1, .inl (e1, 30, .inl f1))] sz)) 0 0 (va_A [(h, .inr (0, [.ref b0, .ref b1, .ref b2, .ref b3, .ref b4, .ref b5])), (b0, .inl (e0, 30, .inl f0)), (b1, .inl (e1, 30, .inl f1))] sz) := by
  refine ofC_i (cc := cX0_hasDeclared) (maxL := 3) (ret := (some .boolean)) (by decide) rfl (Nat.le_of_ble_eq_true rfl) ?_
  intro p e s m args below meth c A ls Q F hr hin hlk St hl hQ
  have hx := F.1
  have hb := F.2.1
  have hl : lv_has ls 3 [(0, .ref h), (1, .int x), (2, .int y)] := hl
  have St : cS G k [(h, .inr (0, [.ref b0, .ref b1, .ref b2, .ref b3, .ref b4, .ref b5])), (b0, .inl (e0, 30, .inl f0)), (b1, .inl (e1, 30, .inl f1))] [(e0, .int), (e1, .int)] A s s.heap [] := St
  refine lv_iload_n hx hb dX0_hasDeclared_0 rfl (lv_at hl 1 rfl) ?_
  refine cs_i St [] [0, 1, 2] (wc := []) (wr := [(h, .inr (0, [.ref b0, .ref b1, .ref b2, .ref b3, .ref b4, .ref b5])), (b0, .inl (e0, 30, .inl f0)), (b1, .inl (e1, 30, .inl f1))]) rfl rfl (by decide) (by decide) (va_runSN (As := [.int x]) (rest := []) F (x10_isGiver l G k _ x) (cwSNt F mf_X10_isGiver St.2.2.2.2.2.1.2.2.2.2.2.2.1 rfl rfl ⟨Nat.le_of_ble_eq_true rfl, Nat.le_of_ble_eq_true rfl⟩) (cs_pre St [] rfl (by decide) [] rfl) rfl rfl hl.1 rfl (lv_room (Nat.le_of_ble_eq_true rfl)) dX0_hasDeclared_1 ⟨Nat.le_of_ble_eq_true rfl, Nat.le_of_ble_eq_true rfl⟩) (fun r_1 u_2 H locs hw St => ?_)
  try dsimp only at hw
  rcases hw with ⟨z_3, hf_4⟩ | ⟨z_5, hf_6⟩
  ·
    subst r_1
    have St : cS G k [(h, .inr (0, [.ref b0, .ref b1, .ref b2, .ref b3, .ref b4, .ref b5])), (b0, .inl (e0, 30, .inl f0)), (b1, .inl (e1, 30, .inl f1))] [(e0, .int), (e1, .int)] A s H locs := St
    refine lv_if_eq (tgt := 41) hx hb dX0_hasDeclared_4 (by decide) (fun c4 => ?_) (fun c4 => ?_)
    · exact absurd c4 (by decide)
    refine lv_aload_n hx hb dX0_hasDeclared_7 rfl (lv_at hl 0 rfl) ?_
    refine cs_get F St 0 rfl rfl inX0 0 (by decide) kf_X0_9 rfl dX0_hasDeclared_8 ?_
    refine lv_iload_n hx hb dX0_hasDeclared_11 rfl (lv_at hl 1 rfl) ?_
    refine cs_ild F St 1 0 rfl rfl (vp_in_iff.mpr ⟨by omega, by omega⟩) dX0_hasDeclared_12 ?_
    refine lv_topi (fun y_7 ey_7 => ?_)
    refine lv_iconst (v := (-1)) hx hb dX0_hasDeclared_13 (by decide) ?_
    refine lv_icmp_eq (tgt := 41) hx hb dX0_hasDeclared_14 (by decide) (fun c14 => ?_) (fun c14 => ?_)
    ·
      have i14 := ci_eq (x := y_7) (y := (-1)) rfl (show ((-1) : Int32).toInt = -1 by decide) c14
      refine lv_iconst (v := 0) hx hb dX0_hasDeclared_41 (by decide) ?_
      exact cs_zret F hr hlk hQ St () (r := 0) rfl (Or.inr rfl) [0, 1, 2] rfl (by decide) [] rfl (by decide) (by decide) dX0_hasDeclared_42
    ·
      have i14 := ci_ne (x := y_7) (y := (-1)) rfl (show ((-1) : Int32).toInt = -1 by decide) c14
      refine lv_iload_n hx hb dX0_hasDeclared_17 rfl (lv_at hl 2 rfl) ?_
      refine lv_aload_n hx hb dX0_hasDeclared_18 rfl (lv_at hl 0 rfl) ?_
      refine cs_get F St 0 rfl rfl inX0 0 (by decide) kf_X0_9 rfl dX0_hasDeclared_19 ?_
      refine lv_iload_n hx hb dX0_hasDeclared_22 rfl (lv_at hl 1 rfl) ?_
      refine cs_ild F St 1 0 rfl rfl (vp_in_iff.mpr ⟨by omega, by omega⟩) dX0_hasDeclared_23 ?_
      refine lv_topi (fun y_8 ey_8 => ?_)
      refine lv_icmp_lt (tgt := 41) hx hb dX0_hasDeclared_24 (by decide) (fun c24 => ?_) (fun c24 => ?_)
      ·
        have i24 := ci_lt (x := y) (y := y_8) rfl rfl c24
        refine lv_iconst (v := 0) hx hb dX0_hasDeclared_41 (by decide) ?_
        exact cs_zret F hr hlk hQ St () (r := 0) rfl (Or.inr rfl) [0, 1, 2] rfl (by decide) [] rfl (by decide) (by decide) dX0_hasDeclared_42
      ·
        have i24 := ci_nlt (x := y) (y := y_8) rfl rfl c24
        refine lv_iload_n hx hb dX0_hasDeclared_27 rfl (lv_at hl 2 rfl) ?_
        refine lv_aload_n hx hb dX0_hasDeclared_28 rfl (lv_at hl 0 rfl) ?_
        refine cs_get F St 0 rfl rfl inX0 1 (by decide) kf_X0_15 rfl dX0_hasDeclared_29 ?_
        refine lv_iload_n hx hb dX0_hasDeclared_32 rfl (lv_at hl 1 rfl) ?_
        refine cs_ild F St 2 1 rfl rfl (vp_in_iff.mpr ⟨by omega, by omega⟩) dX0_hasDeclared_33 ?_
        refine lv_topi (fun y_9 ey_9 => ?_)
        refine lv_icmp_gt (tgt := 41) hx hb dX0_hasDeclared_34 (by decide) (fun c34 => ?_) (fun c34 => ?_)
        ·
          have i34 := ci_lt (x := y_9) (y := y) rfl rfl c34
          refine lv_iconst (v := 0) hx hb dX0_hasDeclared_41 (by decide) ?_
          exact cs_zret F hr hlk hQ St () (r := 0) rfl (Or.inr rfl) [0, 1, 2] rfl (by decide) [] rfl (by decide) (by decide) dX0_hasDeclared_42
        ·
          have i34 := ci_nlt (x := y_9) (y := y) rfl rfl c34
          refine lv_iconst (v := 1) hx hb dX0_hasDeclared_37 (by decide) ?_
          refine lv_goto (tgt := 42) hx hb dX0_hasDeclared_38 (by decide) ?_
          exact cs_zret F hr hlk hQ St () (r := 1) rfl (Or.inl rfl) [0, 1, 2] rfl (by decide) [] rfl (by decide) (by decide) dX0_hasDeclared_42
  ·
    subst r_1
    have St : cS G k [(h, .inr (0, [.ref b0, .ref b1, .ref b2, .ref b3, .ref b4, .ref b5])), (b0, .inl (e0, 30, .inl f0)), (b1, .inl (e1, 30, .inl f1))] [(e0, .int), (e1, .int)] A s H locs := St
    refine lv_if_eq (tgt := 41) hx hb dX0_hasDeclared_4 (by decide) (fun c4 => ?_) (fun c4 => ?_)
    rotate_left
    · exact absurd (by decide) c4
    refine lv_iconst (v := 0) hx hb dX0_hasDeclared_41 (by decide) ?_
    exact cs_zret F hr hlk hQ St () (r := 0) rfl (Or.inr rfl) [0, 1, 2] rfl (by decide) [] rfl (by decide) (by decide) dX0_hasDeclared_42
set_option maxHeartbeats 4000000 in
set_option maxRecDepth 100000 in
theorem x0_isWithoutName (l : Launch) (G : va_G) (k : Nat → Nat) (sz : Nat) (h : Nat) (b0 : Nat) (b1 : Nat) (b2 : Nat) (b3 : Nat) (b4 : Nat) (b5 : Nat) (e2 : ClassId) (f2 : Nat → Int32) (x : Int32) : Met l yX0_isWithoutName (Cond.code yX0_isWithoutName cX0_isWithoutName 2 (some .boolean) :: tb) ({ frames := 1, cells := 0, slots := 0, locals := 20 } : Room) (va_Pc [.ref h, .int x] (cP G k [(h, .inr (0, [.ref b0, .ref b1, .ref b2, .ref b3, .ref b4, .ref b5])), (b2, .inl (e2, 30, .inl f2))] [(e2, .boolean)] sz)) (va_Qi (fun (r : Int32) (_ : Unit) => ((r = 1)) ∨ ((r = 0))) (cB G (fun (_ : Unit) => [(h, .inr (0, [.ref b0, .ref b1, .ref b2, .ref b3, .ref b4, .ref b5])), (b2, .inl (e2, 30, .inl f2))]) (fun (_ : Unit) => []) (va_A [(h, .inr (0, [.ref b0, .ref b1, .ref b2, .ref b3, .ref b4, .ref b5])), (b2, .inl (e2, 30, .inl f2))] sz)) (va_A [(h, .inr (0, [.ref b0, .ref b1, .ref b2, .ref b3, .ref b4, .ref b5])), (b2, .inl (e2, 30, .inl f2))] sz)) 0 0 (va_A [(h, .inr (0, [.ref b0, .ref b1, .ref b2, .ref b3, .ref b4, .ref b5])), (b2, .inl (e2, 30, .inl f2))] sz) := by
  refine ofC_i (cc := cX0_isWithoutName) (maxL := 2) (ret := (some .boolean)) (by decide) rfl (Nat.le_of_ble_eq_true rfl) ?_
  intro p e s m args below meth c A ls Q F hr hin hlk St hl hQ
  have hx := F.1
  have hb := F.2.1
  have hl : lv_has ls 2 [(0, .ref h), (1, .int x)] := hl
  have St : cS G k [(h, .inr (0, [.ref b0, .ref b1, .ref b2, .ref b3, .ref b4, .ref b5])), (b2, .inl (e2, 30, .inl f2))] [(e2, .boolean)] A s s.heap [] := St
  refine lv_iload_n hx hb dX0_isWithoutName_0 rfl (lv_at hl 1 rfl) ?_
  refine cs_i St [] [0, 1] (wc := []) (wr := [(h, .inr (0, [.ref b0, .ref b1, .ref b2, .ref b3, .ref b4, .ref b5])), (b2, .inl (e2, 30, .inl f2))]) rfl rfl (by decide) (by decide) (va_runSN (As := [.int x]) (rest := []) F (x10_isGiver l G k _ x) (cwSNt F mf_X10_isGiver St.2.2.2.2.2.1.2.2.2.2.2.2.1 rfl rfl ⟨Nat.le_of_ble_eq_true rfl, Nat.le_of_ble_eq_true rfl⟩) (cs_pre St [] rfl (by decide) [] rfl) rfl rfl hl.1 rfl (lv_room (Nat.le_of_ble_eq_true rfl)) dX0_isWithoutName_1 ⟨Nat.le_of_ble_eq_true rfl, Nat.le_of_ble_eq_true rfl⟩) (fun r_1 u_2 H locs hw St => ?_)
  try dsimp only at hw
  rcases hw with ⟨z_3, hf_4⟩ | ⟨z_5, hf_6⟩
  ·
    subst r_1
    have St : cS G k [(h, .inr (0, [.ref b0, .ref b1, .ref b2, .ref b3, .ref b4, .ref b5])), (b2, .inl (e2, 30, .inl f2))] [(e2, .boolean)] A s H locs := St
    refine lv_if_eq (tgt := 20) hx hb dX0_isWithoutName_4 (by decide) (fun c4 => ?_) (fun c4 => ?_)
    · exact absurd c4 (by decide)
    refine lv_aload_n hx hb dX0_isWithoutName_7 rfl (lv_at hl 0 rfl) ?_
    refine cs_get F St 0 rfl rfl inX0 2 (by decide) kf_X0_18 rfl dX0_isWithoutName_8 ?_
    refine lv_iload_n hx hb dX0_isWithoutName_11 rfl (lv_at hl 1 rfl) ?_
    refine cs_zld F St 1 0 rfl rfl (vp_in_iff.mpr ⟨by omega, by omega⟩) dX0_isWithoutName_12 ?_
    refine lv_topi (fun y_7 ey_7 => ?_)
    refine lv_if_eq (tgt := 20) hx hb dX0_isWithoutName_13 (by decide) (fun c13 => ?_) (fun c13 => ?_)
    ·
      have i13 := ci_eq (x := y_7) (y := 0) rfl (show (0 : Int32).toInt = 0 by decide) c13
      refine lv_iconst (v := 0) hx hb dX0_isWithoutName_20 (by decide) ?_
      exact cs_zret F hr hlk hQ St () (r := 0) rfl (Or.inr rfl) [0, 1] rfl (by decide) [] rfl (by decide) (by decide) dX0_isWithoutName_21
    ·
      have i13 := ci_ne (x := y_7) (y := 0) rfl (show (0 : Int32).toInt = 0 by decide) c13
      refine lv_iconst (v := 1) hx hb dX0_isWithoutName_16 (by decide) ?_
      refine lv_goto (tgt := 21) hx hb dX0_isWithoutName_17 (by decide) ?_
      exact cs_zret F hr hlk hQ St () (r := 1) rfl (Or.inl rfl) [0, 1] rfl (by decide) [] rfl (by decide) (by decide) dX0_isWithoutName_21
  ·
    subst r_1
    have St : cS G k [(h, .inr (0, [.ref b0, .ref b1, .ref b2, .ref b3, .ref b4, .ref b5])), (b2, .inl (e2, 30, .inl f2))] [(e2, .boolean)] A s H locs := St
    refine lv_if_eq (tgt := 20) hx hb dX0_isWithoutName_4 (by decide) (fun c4 => ?_) (fun c4 => ?_)
    rotate_left
    · exact absurd (by decide) c4
    refine lv_iconst (v := 0) hx hb dX0_isWithoutName_20 (by decide) ?_
    exact cs_zret F hr hlk hQ St () (r := 0) rfl (Or.inr rfl) [0, 1] rfl (by decide) [] rfl (by decide) (by decide) dX0_isWithoutName_21
set_option maxHeartbeats 4000000 in
set_option maxRecDepth 100000 in
theorem x0_setWithoutName (l : Launch) (G : va_G) (k : Nat → Nat) (sz : Nat) (h : Nat) (b0 : Nat) (b1 : Nat) (b2 : Nat) (b3 : Nat) (b4 : Nat) (b5 : Nat) (e2 : ClassId) (f2 : Nat → Int32) (x : Int32) (y : Int32) : Met l yX0_setWithoutName (Cond.code yX0_setWithoutName cX0_setWithoutName 3 (some .boolean) :: tb) ({ frames := 1, cells := 0, slots := 0, locals := 20 } : Room) (va_Pc [.ref h, .int x, .int y] (cP G k [(h, .inr (0, [.ref b0, .ref b1, .ref b2, .ref b3, .ref b4, .ref b5])), (b2, .inl (e2, 30, .inl f2))] [(e2, .boolean)] sz)) (va_Qi (fun (r : Int32) (z2 : (Nat → Int32)) => ((r = 0) ∧ (¬ (0 ≤ x.toInt ∧ x.toInt < 30)) ∧ (z2 = f2)) ∨ ((r = 0) ∧ ((0 ≤ x.toInt ∧ x.toInt < 30)) ∧ (z2 = f2) ∧ (f2 x.toNatClampNeg = y)) ∨ ((r = 1) ∧ ((0 ≤ x.toInt ∧ x.toInt < 30)) ∧ (z2 = upd f2 x.toNatClampNeg (vp_nar .boolean y)) ∧ (¬ f2 x.toNatClampNeg = y))) (cB G (fun (z2 : (Nat → Int32)) => [(h, .inr (0, [.ref b0, .ref b1, .ref b2, .ref b3, .ref b4, .ref b5])), (b2, .inl (e2, 30, .inl z2))]) (fun (z2 : (Nat → Int32)) => []) (va_A [(h, .inr (0, [.ref b0, .ref b1, .ref b2, .ref b3, .ref b4, .ref b5])), (b2, .inl (e2, 30, .inl f2))] sz)) (va_A [(h, .inr (0, [.ref b0, .ref b1, .ref b2, .ref b3, .ref b4, .ref b5])), (b2, .inl (e2, 30, .inl f2))] sz)) 0 0 (va_A [(h, .inr (0, [.ref b0, .ref b1, .ref b2, .ref b3, .ref b4, .ref b5])), (b2, .inl (e2, 30, .inl f2))] sz) := by
  refine ofC_i (cc := cX0_setWithoutName) (maxL := 3) (ret := (some .boolean)) (by decide) rfl (Nat.le_of_ble_eq_true rfl) ?_
  intro p e s m args below meth c A ls Q F hr hin hlk St hl hQ
  have hx := F.1
  have hb := F.2.1
  have hl : lv_has ls 3 [(0, .ref h), (1, .int x), (2, .int y)] := hl
  have St : cS G k [(h, .inr (0, [.ref b0, .ref b1, .ref b2, .ref b3, .ref b4, .ref b5])), (b2, .inl (e2, 30, .inl f2))] [(e2, .boolean)] A s s.heap [] := St
  refine lv_iload_n hx hb dX0_setWithoutName_0 rfl (lv_at hl 1 rfl) ?_
  refine cs_i St [] [0, 1] (wc := []) (wr := [(h, .inr (0, [.ref b0, .ref b1, .ref b2, .ref b3, .ref b4, .ref b5])), (b2, .inl (e2, 30, .inl f2))]) rfl rfl (by decide) (by decide) (va_runSN (As := [.int x]) (rest := []) F (x10_isGiver l G k _ x) (cwSNt F mf_X10_isGiver St.2.2.2.2.2.1.2.2.2.2.2.2.1 rfl rfl ⟨Nat.le_of_ble_eq_true rfl, Nat.le_of_ble_eq_true rfl⟩) (cs_pre St [] rfl (by decide) [] rfl) rfl rfl hl.1 rfl (lv_room (Nat.le_of_ble_eq_true rfl)) dX0_setWithoutName_1 ⟨Nat.le_of_ble_eq_true rfl, Nat.le_of_ble_eq_true rfl⟩) (fun r_1 u_2 H locs hw St => ?_)
  try dsimp only at hw
  rcases hw with ⟨z_3, hf_4⟩ | ⟨z_5, hf_6⟩
  ·
    subst r_1
    have St : cS G k [(h, .inr (0, [.ref b0, .ref b1, .ref b2, .ref b3, .ref b4, .ref b5])), (b2, .inl (e2, 30, .inl f2))] [(e2, .boolean)] A s H locs := St
    refine lv_if_eq (tgt := 17) hx hb dX0_setWithoutName_4 (by decide) (fun c4 => ?_) (fun c4 => ?_)
    · exact absurd c4 (by decide)
    refine lv_aload_n hx hb dX0_setWithoutName_7 rfl (lv_at hl 0 rfl) ?_
    refine cs_get F St 0 rfl rfl inX0 2 (by decide) kf_X0_18 rfl dX0_setWithoutName_8 ?_
    refine lv_iload_n hx hb dX0_setWithoutName_11 rfl (lv_at hl 1 rfl) ?_
    refine cs_zld F St 1 0 rfl rfl (vp_in_iff.mpr ⟨by omega, by omega⟩) dX0_setWithoutName_12 ?_
    refine lv_topi (fun y_7 ey_7 => ?_)
    refine lv_iload_n hx hb dX0_setWithoutName_13 rfl (lv_at hl 2 rfl) ?_
    refine lv_icmp_ne (tgt := 19) hx hb dX0_setWithoutName_14 (by decide) (fun c14 => ?_) (fun c14 => ?_)
    ·
      have i14 := ci_ne (x := y_7) (y := y) rfl rfl c14
      refine lv_aload_n hx hb dX0_setWithoutName_19 rfl (lv_at hl 0 rfl) ?_
      refine cs_get F St 0 rfl rfl inX0 2 (by decide) kf_X0_18 rfl dX0_setWithoutName_20 ?_
      refine lv_iload_n hx hb dX0_setWithoutName_23 rfl (lv_at hl 1 rfl) ?_
      refine lv_iload_n hx hb dX0_setWithoutName_24 rfl (lv_at hl 2 rfl) ?_
      refine cs_zst F St 1 0 rfl rfl (vp_in_iff.mpr ⟨by omega, by omega⟩) (w' := [(h, .inr (0, [.ref b0, .ref b1, .ref b2, .ref b3, .ref b4, .ref b5])), (b2, .inl (e2, 30, .inl (upd f2 (x : Int32).toNatClampNeg (vp_nar .boolean y))))]) rfl dX0_setWithoutName_25 (fun H locs St => ?_)
      obtain ⟨f_8, ef_8⟩ : ∃ zz : Nat → Int32, zz = upd f2 (x : Int32).toNatClampNeg (vp_nar .boolean y) := ⟨_, rfl⟩
      rw [← ef_8] at St
      refine lv_iconst (v := 1) hx hb dX0_setWithoutName_26 (by decide) ?_
      exact cs_zret F hr hlk hQ St f_8 (r := 1) rfl (Or.inr (Or.inr ⟨rfl, by omega, ef_8, by rw [← ey_7]; exact c14⟩)) [0, 1] rfl (by decide) [] rfl (by decide) (by decide) dX0_setWithoutName_27
    ·
      have i14 := ci_eq (x := y_7) (y := y) rfl rfl c14
      refine lv_iconst (v := 0) hx hb dX0_setWithoutName_17 (by decide) ?_
      exact cs_zret F hr hlk hQ St f2 (r := 0) rfl (Or.inr (Or.inl ⟨rfl, by omega, rfl, by rw [← ey_7]; exact c14⟩)) [0, 1] rfl (by decide) [] rfl (by decide) (by decide) dX0_setWithoutName_18
  ·
    subst r_1
    have St : cS G k [(h, .inr (0, [.ref b0, .ref b1, .ref b2, .ref b3, .ref b4, .ref b5])), (b2, .inl (e2, 30, .inl f2))] [(e2, .boolean)] A s H locs := St
    refine lv_if_eq (tgt := 17) hx hb dX0_setWithoutName_4 (by decide) (fun c4 => ?_) (fun c4 => ?_)
    rotate_left
    · exact absurd (by decide) c4
    refine lv_iconst (v := 0) hx hb dX0_setWithoutName_17 (by decide) ?_
    exact cs_zret F hr hlk hQ St f2 (r := 0) rfl (Or.inl ⟨rfl, by omega, rfl⟩) [0, 1] rfl (by decide) [] rfl (by decide) (by decide) dX0_setWithoutName_18
set_option maxHeartbeats 4000000 in
set_option maxRecDepth 100000 in
theorem x5_size (l : Launch) (G : va_G) (k : Nat → Nat) (sz : Nat) (h : Nat) (b0 : Nat) (b1 : Nat) (b2 : Nat) (b3 : Nat) (sn : Int32) (st : Int64) : Met l yX5_size (Cond.code yX5_size cX5_size 1 (some .int) :: tb) ({ frames := 0, cells := 0, slots := 0, locals := 0 } : Room) (va_Pc [.ref h] (cP G k [(h, .inr (5, [.ref b0, .ref b1, .ref b2, .ref b3, .int sn, .long st]))] [] sz)) (va_Qi (fun (r : Int32) (_ : Unit) => (r = sn)) (cB G (fun (_ : Unit) => [(h, .inr (5, [.ref b0, .ref b1, .ref b2, .ref b3, .int sn, .long st]))]) (fun (_ : Unit) => []) (va_A [(h, .inr (5, [.ref b0, .ref b1, .ref b2, .ref b3, .int sn, .long st]))] sz)) (va_A [(h, .inr (5, [.ref b0, .ref b1, .ref b2, .ref b3, .int sn, .long st]))] sz)) 0 0 (va_A [(h, .inr (5, [.ref b0, .ref b1, .ref b2, .ref b3, .int sn, .long st]))] sz) := by
  refine ofC_i (cc := cX5_size) (maxL := 1) (ret := (some .int)) (by decide) rfl (Nat.le_of_ble_eq_true rfl) ?_
  intro p e s m args below meth c A ls Q F hr hin hlk St hl hQ
  have hx := F.1
  have hb := F.2.1
  have hl : lv_has ls 1 [(0, .ref h)] := hl
  have St : cS G k [(h, .inr (5, [.ref b0, .ref b1, .ref b2, .ref b3, .int sn, .long st]))] [] A s s.heap [] := St
  refine lv_aload_n hx hb dX5_size_0 rfl (lv_at hl 0 rfl) ?_
  refine cs_get F St 0 rfl rfl inX5 4 (by decide) kf_X5_25 rfl dX5_size_1 ?_
  exact cs_iret F hr hlk hQ St () (r := sn) rfl [0] rfl (by decide) [] rfl (by decide) (by decide) dX5_size_4
set_option maxHeartbeats 4000000 in
set_option maxRecDepth 100000 in
theorem x5_total (l : Launch) (G : va_G) (k : Nat → Nat) (sz : Nat) (h : Nat) (b0 : Nat) (b1 : Nat) (b2 : Nat) (b3 : Nat) (sn : Int32) (st : Int64) : Met l yX5_total (Cond.code yX5_total cX5_total 1 (some .long) :: tb) ({ frames := 0, cells := 0, slots := 0, locals := 0 } : Room) (va_Pc [.ref h] (cP G k [(h, .inr (5, [.ref b0, .ref b1, .ref b2, .ref b3, .int sn, .long st]))] [] sz)) (va_Ql (fun (r : Int64) (_ : Unit) => (r = st)) (cB G (fun (_ : Unit) => [(h, .inr (5, [.ref b0, .ref b1, .ref b2, .ref b3, .int sn, .long st]))]) (fun (_ : Unit) => []) (va_A [(h, .inr (5, [.ref b0, .ref b1, .ref b2, .ref b3, .int sn, .long st]))] sz)) (va_A [(h, .inr (5, [.ref b0, .ref b1, .ref b2, .ref b3, .int sn, .long st]))] sz)) 0 0 (va_A [(h, .inr (5, [.ref b0, .ref b1, .ref b2, .ref b3, .int sn, .long st]))] sz) := by
  refine ofC_l (cc := cX5_total) (maxL := 1) (ret := (some .long)) (by decide) rfl (Nat.le_of_ble_eq_true rfl) ?_
  intro p e s m args below meth c A ls Q F hr hin hlk St hl hQ
  have hx := F.1
  have hb := F.2.1
  have hl : lv_has ls 1 [(0, .ref h)] := hl
  have St : cS G k [(h, .inr (5, [.ref b0, .ref b1, .ref b2, .ref b3, .int sn, .long st]))] [] A s s.heap [] := St
  refine lv_aload_n hx hb dX5_total_0 rfl (lv_at hl 0 rfl) ?_
  refine cs_get F St 0 rfl rfl inX5 5 (by decide) kf_X5_29 rfl dX5_total_1 ?_
  exact cs_lret F hr hlk hQ St () (r := st) rfl [0] rfl (by decide) [] rfl (by decide) (by decide) dX5_total_4
set_option maxHeartbeats 4000000 in
set_option maxRecDepth 100000 in
theorem x5_isFull (l : Launch) (G : va_G) (k : Nat → Nat) (sz : Nat) (h : Nat) (b0 : Nat) (b1 : Nat) (b2 : Nat) (b3 : Nat) (sn : Int32) (st : Int64) : Met l yX5_isFull (Cond.code yX5_isFull cX5_isFull 1 (some .boolean) :: tb) ({ frames := 0, cells := 0, slots := 0, locals := 0 } : Room) (va_Pc [.ref h] (cP G k [(h, .inr (5, [.ref b0, .ref b1, .ref b2, .ref b3, .int sn, .long st]))] [] sz)) (va_Qi (fun (r : Int32) (_ : Unit) => ((r = 1)) ∨ ((r = 0))) (cB G (fun (_ : Unit) => [(h, .inr (5, [.ref b0, .ref b1, .ref b2, .ref b3, .int sn, .long st]))]) (fun (_ : Unit) => []) (va_A [(h, .inr (5, [.ref b0, .ref b1, .ref b2, .ref b3, .int sn, .long st]))] sz)) (va_A [(h, .inr (5, [.ref b0, .ref b1, .ref b2, .ref b3, .int sn, .long st]))] sz)) 0 0 (va_A [(h, .inr (5, [.ref b0, .ref b1, .ref b2, .ref b3, .int sn, .long st]))] sz) := by
  refine ofC_i (cc := cX5_isFull) (maxL := 1) (ret := (some .boolean)) (by decide) rfl (Nat.le_of_ble_eq_true rfl) ?_
  intro p e s m args below meth c A ls Q F hr hin hlk St hl hQ
  have hx := F.1
  have hb := F.2.1
  have hl : lv_has ls 1 [(0, .ref h)] := hl
  have St : cS G k [(h, .inr (5, [.ref b0, .ref b1, .ref b2, .ref b3, .int sn, .long st]))] [] A s s.heap [] := St
  refine lv_aload_n hx hb dX5_isFull_0 rfl (lv_at hl 0 rfl) ?_
  refine cs_get F St 0 rfl rfl inX5 4 (by decide) kf_X5_25 rfl dX5_isFull_1 ?_
  refine lv_sipush (v := 250) hx hb dX5_isFull_4 (by decide) ?_
  refine lv_icmp_lt (tgt := 14) hx hb dX5_isFull_7 (by decide) (fun c7 => ?_) (fun c7 => ?_)
  ·
    have i7 := ci_lt (x := sn) (y := 250) rfl (show (250 : Int32).toInt = 250 by decide) c7
    refine lv_iconst (v := 0) hx hb dX5_isFull_14 (by decide) ?_
    exact cs_zret F hr hlk hQ St () (r := 0) rfl (Or.inr rfl) [0] rfl (by decide) [] rfl (by decide) (by decide) dX5_isFull_15
  ·
    have i7 := ci_nlt (x := sn) (y := 250) rfl (show (250 : Int32).toInt = 250 by decide) c7
    refine lv_iconst (v := 1) hx hb dX5_isFull_10 (by decide) ?_
    refine lv_goto (tgt := 15) hx hb dX5_isFull_11 (by decide) ?_
    exact cs_zret F hr hlk hQ St () (r := 1) rfl (Or.inl rfl) [0] rfl (by decide) [] rfl (by decide) (by decide) dX5_isFull_15
set_option maxHeartbeats 4000000 in
set_option maxRecDepth 100000 in
theorem x5_add (l : Launch) (G : va_G) (k : Nat → Nat) (sz : Nat) (h : Nat) (b0 : Nat) (b1 : Nat) (b2 : Nat) (b3 : Nat) (sn : Int32) (st : Int64) (e0 : ClassId) (e1 : ClassId) (e2 : ClassId) (f0 : Nat → Int32) (f1 : Nat → Int32) (f2 : Nat → Int32) (x : Int32) (y : Int32) (z : Int32) : Met l yX5_add (Cond.code yX5_add cX5_add 4 none :: tb) ({ frames := 0, cells := 0, slots := 0, locals := 0 } : Room) (va_Pc [.ref h, .int x, .int y, .int z] (cP G k [(h, .inr (5, [.ref b0, .ref b1, .ref b2, .ref b3, .int sn, .long st])), (b0, .inl (e0, 250, .inl f0)), (b1, .inl (e1, 250, .inl f1)), (b2, .inl (e2, 250, .inl f2))] [(e0, .int), (e1, .int), (e2, .int)] sz)) (va_Qv (fun (u : Int32 × Int64 × (Nat → Int32) × (Nat → Int32) × (Nat → Int32)) => match u with | (sn2, st2, z0, z1, z2) => True) (cB G (fun u => match u with | (sn2, st2, z0, z1, z2) => [(h, .inr (5, [.ref b0, .ref b1, .ref b2, .ref b3, .int sn2, .long st2])), (b0, .inl (e0, 250, .inl z0)), (b1, .inl (e1, 250, .inl z1)), (b2, .inl (e2, 250, .inl z2))]) (fun u => match u with | (sn2, st2, z0, z1, z2) => []) (va_A [(h, .inr (5, [.ref b0, .ref b1, .ref b2, .ref b3, .int sn, .long st])), (b0, .inl (e0, 250, .inl f0)), (b1, .inl (e1, 250, .inl f1)), (b2, .inl (e2, 250, .inl f2))] sz)) (va_A [(h, .inr (5, [.ref b0, .ref b1, .ref b2, .ref b3, .int sn, .long st])), (b0, .inl (e0, 250, .inl f0)), (b1, .inl (e1, 250, .inl f1)), (b2, .inl (e2, 250, .inl f2))] sz)) 0 0 (va_A [(h, .inr (5, [.ref b0, .ref b1, .ref b2, .ref b3, .int sn, .long st])), (b0, .inl (e0, 250, .inl f0)), (b1, .inl (e1, 250, .inl f1)), (b2, .inl (e2, 250, .inl f2))] sz) := by
  refine ofC_v (cc := cX5_add) (maxL := 4) (ret := none) (by decide) rfl (Nat.le_of_ble_eq_true rfl) ?_
  intro p e s m args below meth c A ls Q F hr hin hlk St hl hQ
  have hx := F.1
  have hb := F.2.1
  have hl : lv_has ls 4 [(0, .ref h), (1, .int x), (2, .int y), (3, .int z)] := hl
  have St : cS G k [(h, .inr (5, [.ref b0, .ref b1, .ref b2, .ref b3, .int sn, .long st])), (b0, .inl (e0, 250, .inl f0)), (b1, .inl (e1, 250, .inl f1)), (b2, .inl (e2, 250, .inl f2))] [(e0, .int), (e1, .int), (e2, .int)] A s s.heap [] := St
  refine lv_aload_n hx hb dX5_add_0 rfl (lv_at hl 0 rfl) ?_
  refine cs_get F St 0 rfl rfl inX5 4 (by decide) kf_X5_25 rfl dX5_add_1 ?_
  refine lv_if_lt (tgt := 68) hx hb dX5_add_4 (by decide) (fun c4 => ?_) (fun c4 => ?_)
  ·
    have i4 := ci_lt (x := sn) (y := 0) rfl (show (0 : Int32).toInt = 0 by decide) c4
    exact cs_vret F hr hlk hQ St (sn, st, f0, f1, f2) (by trivial) [0, 1, 2, 3] rfl (by decide) [] rfl (by decide) (by decide) dX5_add_68
  ·
    have i4 := ci_nlt (x := sn) (y := 0) rfl (show (0 : Int32).toInt = 0 by decide) c4
    refine lv_aload_n hx hb dX5_add_7 rfl (lv_at hl 0 rfl) ?_
    refine cs_get F St 0 rfl rfl inX5 4 (by decide) kf_X5_25 rfl dX5_add_8 ?_
    refine lv_sipush (v := 250) hx hb dX5_add_11 (by decide) ?_
    refine lv_icmp_ge (tgt := 68) hx hb dX5_add_14 (by decide) (fun c14 => ?_) (fun c14 => ?_)
    ·
      have i14 := ci_le (x := 250) (y := sn) (show (250 : Int32).toInt = 250 by decide) rfl c14
      exact cs_vret F hr hlk hQ St (sn, st, f0, f1, f2) (by trivial) [0, 1, 2, 3] rfl (by decide) [] rfl (by decide) (by decide) dX5_add_68
    ·
      have i14 := ci_nle (x := 250) (y := sn) (show (250 : Int32).toInt = 250 by decide) rfl c14
      refine lv_aload_n hx hb dX5_add_17 rfl (lv_at hl 0 rfl) ?_
      refine cs_get F St 0 rfl rfl inX5 0 (by decide) kf_X5_9 rfl dX5_add_18 ?_
      refine lv_aload_n hx hb dX5_add_21 rfl (lv_at hl 0 rfl) ?_
      refine cs_get F St 0 rfl rfl inX5 4 (by decide) kf_X5_25 rfl dX5_add_22 ?_
      refine lv_iload_n hx hb dX5_add_25 rfl (lv_at hl 1 rfl) ?_
      refine cs_ist F St 1 0 rfl rfl (vp_in_iff.mpr ⟨by omega, by omega⟩) (w' := [(h, .inr (5, [.ref b0, .ref b1, .ref b2, .ref b3, .int sn, .long st])), (b0, .inl (e0, 250, .inl (upd f0 (sn : Int32).toNatClampNeg x))), (b1, .inl (e1, 250, .inl f1)), (b2, .inl (e2, 250, .inl f2))]) rfl dX5_add_26 (fun H locs St => ?_)
      obtain ⟨f_1, ef_1⟩ : ∃ zz : Nat → Int32, zz = upd f0 (sn : Int32).toNatClampNeg x := ⟨_, rfl⟩
      rw [← ef_1] at St
      refine lv_aload_n hx hb dX5_add_27 rfl (lv_at hl 0 rfl) ?_
      refine cs_get F St 0 rfl rfl inX5 1 (by decide) kf_X5_15 rfl dX5_add_28 ?_
      refine lv_aload_n hx hb dX5_add_31 rfl (lv_at hl 0 rfl) ?_
      refine cs_get F St 0 rfl rfl inX5 4 (by decide) kf_X5_25 rfl dX5_add_32 ?_
      refine lv_iload_n hx hb dX5_add_35 rfl (lv_at hl 2 rfl) ?_
      refine cs_ist F St 2 1 rfl rfl (vp_in_iff.mpr ⟨by omega, by omega⟩) (w' := [(h, .inr (5, [.ref b0, .ref b1, .ref b2, .ref b3, .int sn, .long st])), (b0, .inl (e0, 250, .inl f_1)), (b1, .inl (e1, 250, .inl (upd f1 (sn : Int32).toNatClampNeg y))), (b2, .inl (e2, 250, .inl f2))]) rfl dX5_add_36 (fun H locs St => ?_)
      obtain ⟨f_2, ef_2⟩ : ∃ zz : Nat → Int32, zz = upd f1 (sn : Int32).toNatClampNeg y := ⟨_, rfl⟩
      rw [← ef_2] at St
      refine lv_aload_n hx hb dX5_add_37 rfl (lv_at hl 0 rfl) ?_
      refine cs_get F St 0 rfl rfl inX5 2 (by decide) kf_X5_18 rfl dX5_add_38 ?_
      refine lv_aload_n hx hb dX5_add_41 rfl (lv_at hl 0 rfl) ?_
      refine cs_get F St 0 rfl rfl inX5 4 (by decide) kf_X5_25 rfl dX5_add_42 ?_
      refine lv_iload_n hx hb dX5_add_45 rfl (lv_at hl 3 rfl) ?_
      refine cs_ist F St 3 2 rfl rfl (vp_in_iff.mpr ⟨by omega, by omega⟩) (w' := [(h, .inr (5, [.ref b0, .ref b1, .ref b2, .ref b3, .int sn, .long st])), (b0, .inl (e0, 250, .inl f_1)), (b1, .inl (e1, 250, .inl f_2)), (b2, .inl (e2, 250, .inl (upd f2 (sn : Int32).toNatClampNeg z)))]) rfl dX5_add_46 (fun H locs St => ?_)
      obtain ⟨f_3, ef_3⟩ : ∃ zz : Nat → Int32, zz = upd f2 (sn : Int32).toNatClampNeg z := ⟨_, rfl⟩
      rw [← ef_3] at St
      refine lv_aload_n hx hb dX5_add_47 rfl (lv_at hl 0 rfl) ?_
      refine lv_dup hx hb dX5_add_48 rfl ?_
      refine cs_get F St 0 rfl rfl inX5 4 (by decide) kf_X5_25 rfl dX5_add_49 ?_
      refine lv_iconst (v := 1) hx hb dX5_add_52 (by decide) ?_
      refine lv_iadd hx hb dX5_add_53 ?_
      refine lv_topi (fun y_4 ey_4 => ?_)
      first | have jy_4 : y_4.toInt = sn.toInt + 1 := (by have q9 := ci_add (x := sn) (y := 1) rfl (show (1 : Int32).toInt = 1 by decide) ey_4; omega) | have jy_4 := ci_add (x := sn) (y := 1) rfl (show (1 : Int32).toInt = 1 by decide) ey_4
      refine cs_put F St 0 rfl rfl inX5 tyX5_ok nmX5 4 (by decide) kf_X5_25 rfl rfl rfl (Nat.le_of_ble_eq_true rfl) (w' := [(h, .inr (5, [.ref b0, .ref b1, .ref b2, .ref b3, .int y_4, .long st])), (b0, .inl (e0, 250, .inl f_1)), (b1, .inl (e1, 250, .inl f_2)), (b2, .inl (e2, 250, .inl f_3))]) rfl dX5_add_54 (fun H locs St => ?_)
      refine lv_aload_n hx hb dX5_add_57 rfl (lv_at hl 0 rfl) ?_
      refine lv_dup hx hb dX5_add_58 rfl ?_
      refine cs_get F St 0 rfl rfl inX5 5 (by decide) kf_X5_29 rfl dX5_add_59 ?_
      refine lv_iload_n hx hb dX5_add_62 rfl (lv_at hl 2 rfl) ?_
      refine lv_i2l (v := y.toInt64) hx hb dX5_add_63 rfl ?_
      refine lv_ladd hx hb dX5_add_64 ?_
      refine lv_topl (fun y_5 ey_5 => ?_)
      first | have jy_5 : y_5.toInt = st.toInt + y.toInt := (by have q8 := ci_rng y; have q9 := cl_add (x := st) (y := y.toInt64) (u := st.toInt) (v := y.toInt) rfl (Int32.toInt_toInt64 y) ey_5; omega) | have jy_5 := cl_add (x := st) (y := y.toInt64) (u := st.toInt) (v := y.toInt) rfl (Int32.toInt_toInt64 y) ey_5
      refine cs_put F St 0 rfl rfl inX5 tyX5_ok nmX5 5 (by decide) kf_X5_29 rfl rfl rfl (Nat.le_of_ble_eq_true rfl) (w' := [(h, .inr (5, [.ref b0, .ref b1, .ref b2, .ref b3, .int y_4, .long y_5])), (b0, .inl (e0, 250, .inl f_1)), (b1, .inl (e1, 250, .inl f_2)), (b2, .inl (e2, 250, .inl f_3))]) rfl dX5_add_65 (fun H locs St => ?_)
      exact cs_vret F hr hlk hQ St (y_4, y_5, f_1, f_2, f_3) (by trivial) [0, 1, 2, 3] rfl (by decide) [] rfl (by decide) (by decide) dX5_add_68
set_option maxHeartbeats 4000000 in
set_option maxRecDepth 100000 in
theorem x5_giverOf (l : Launch) (G : va_G) (k : Nat → Nat) (sz : Nat) (h : Nat) (b0 : Nat) (b1 : Nat) (b2 : Nat) (b3 : Nat) (sn : Int32) (st : Int64) (e0 : ClassId) (f0 : Nat → Int32) (x : Int32) : Met l yX5_giverOf (Cond.code yX5_giverOf cX5_giverOf 2 (some .int) :: tb) ({ frames := 0, cells := 0, slots := 0, locals := 0 } : Room) (va_Pc [.ref h, .int x] (cP G k [(h, .inr (5, [.ref b0, .ref b1, .ref b2, .ref b3, .int sn, .long st])), (b0, .inl (e0, 250, .inl f0))] [(e0, .int)] sz)) (va_Qi (fun (r : Int32) (_ : Unit) => True) (cB G (fun (_ : Unit) => [(h, .inr (5, [.ref b0, .ref b1, .ref b2, .ref b3, .int sn, .long st])), (b0, .inl (e0, 250, .inl f0))]) (fun (_ : Unit) => []) (va_A [(h, .inr (5, [.ref b0, .ref b1, .ref b2, .ref b3, .int sn, .long st])), (b0, .inl (e0, 250, .inl f0))] sz)) (va_A [(h, .inr (5, [.ref b0, .ref b1, .ref b2, .ref b3, .int sn, .long st])), (b0, .inl (e0, 250, .inl f0))] sz)) 0 0 (va_A [(h, .inr (5, [.ref b0, .ref b1, .ref b2, .ref b3, .int sn, .long st])), (b0, .inl (e0, 250, .inl f0))] sz) := by
  refine ofC_i (cc := cX5_giverOf) (maxL := 2) (ret := (some .int)) (by decide) rfl (Nat.le_of_ble_eq_true rfl) ?_
  intro p e s m args below meth c A ls Q F hr hin hlk St hl hQ
  have hx := F.1
  have hb := F.2.1
  have hl : lv_has ls 2 [(0, .ref h), (1, .int x)] := hl
  have St : cS G k [(h, .inr (5, [.ref b0, .ref b1, .ref b2, .ref b3, .int sn, .long st])), (b0, .inl (e0, 250, .inl f0))] [(e0, .int)] A s s.heap [] := St
  refine lv_iload_n hx hb dX5_giverOf_0 rfl (lv_at hl 1 rfl) ?_
  refine lv_if_lt (tgt := 28) hx hb dX5_giverOf_1 (by decide) (fun c1 => ?_) (fun c1 => ?_)
  ·
    have i1 := ci_lt (x := x) (y := 0) rfl (show (0 : Int32).toInt = 0 by decide) c1
    refine lv_iconst (v := (-1)) hx hb dX5_giverOf_28 (by decide) ?_
    exact cs_iret F hr hlk hQ St () (r := (-1)) (by trivial) [0, 1] rfl (by decide) [] rfl (by decide) (by decide) dX5_giverOf_29
  ·
    have i1 := ci_nlt (x := x) (y := 0) rfl (show (0 : Int32).toInt = 0 by decide) c1
    refine lv_iload_n hx hb dX5_giverOf_4 rfl (lv_at hl 1 rfl) ?_
    refine lv_aload_n hx hb dX5_giverOf_5 rfl (lv_at hl 0 rfl) ?_
    refine cs_get F St 0 rfl rfl inX5 4 (by decide) kf_X5_25 rfl dX5_giverOf_6 ?_
    refine lv_icmp_ge (tgt := 28) hx hb dX5_giverOf_9 (by decide) (fun c9 => ?_) (fun c9 => ?_)
    ·
      have i9 := ci_le (x := sn) (y := x) rfl rfl c9
      refine lv_iconst (v := (-1)) hx hb dX5_giverOf_28 (by decide) ?_
      exact cs_iret F hr hlk hQ St () (r := (-1)) (by trivial) [0, 1] rfl (by decide) [] rfl (by decide) (by decide) dX5_giverOf_29
    ·
      have i9 := ci_nle (x := sn) (y := x) rfl rfl c9
      refine lv_iload_n hx hb dX5_giverOf_12 rfl (lv_at hl 1 rfl) ?_
      refine lv_sipush (v := 250) hx hb dX5_giverOf_13 (by decide) ?_
      refine lv_icmp_ge (tgt := 28) hx hb dX5_giverOf_16 (by decide) (fun c16 => ?_) (fun c16 => ?_)
      ·
        have i16 := ci_le (x := 250) (y := x) (show (250 : Int32).toInt = 250 by decide) rfl c16
        refine lv_iconst (v := (-1)) hx hb dX5_giverOf_28 (by decide) ?_
        exact cs_iret F hr hlk hQ St () (r := (-1)) (by trivial) [0, 1] rfl (by decide) [] rfl (by decide) (by decide) dX5_giverOf_29
      ·
        have i16 := ci_nle (x := 250) (y := x) (show (250 : Int32).toInt = 250 by decide) rfl c16
        refine lv_aload_n hx hb dX5_giverOf_19 rfl (lv_at hl 0 rfl) ?_
        refine cs_get F St 0 rfl rfl inX5 0 (by decide) kf_X5_9 rfl dX5_giverOf_20 ?_
        refine lv_iload_n hx hb dX5_giverOf_23 rfl (lv_at hl 1 rfl) ?_
        refine cs_ild F St 1 0 rfl rfl (vp_in_iff.mpr ⟨by omega, by omega⟩) dX5_giverOf_24 ?_
        refine lv_topi (fun y_1 ey_1 => ?_)
        refine lv_goto (tgt := 29) hx hb dX5_giverOf_25 (by decide) ?_
        exact cs_iret F hr hlk hQ St () (r := y_1) (by trivial) [0, 1] rfl (by decide) [] rfl (by decide) (by decide) dX5_giverOf_29
set_option maxHeartbeats 4000000 in
set_option maxRecDepth 100000 in
theorem x5_penceOf (l : Launch) (G : va_G) (k : Nat → Nat) (sz : Nat) (h : Nat) (b0 : Nat) (b1 : Nat) (b2 : Nat) (b3 : Nat) (sn : Int32) (st : Int64) (e1 : ClassId) (f1 : Nat → Int32) (x : Int32) : Met l yX5_penceOf (Cond.code yX5_penceOf cX5_penceOf 2 (some .int) :: tb) ({ frames := 0, cells := 0, slots := 0, locals := 0 } : Room) (va_Pc [.ref h, .int x] (cP G k [(h, .inr (5, [.ref b0, .ref b1, .ref b2, .ref b3, .int sn, .long st])), (b1, .inl (e1, 250, .inl f1))] [(e1, .int)] sz)) (va_Qi (fun (r : Int32) (_ : Unit) => True) (cB G (fun (_ : Unit) => [(h, .inr (5, [.ref b0, .ref b1, .ref b2, .ref b3, .int sn, .long st])), (b1, .inl (e1, 250, .inl f1))]) (fun (_ : Unit) => []) (va_A [(h, .inr (5, [.ref b0, .ref b1, .ref b2, .ref b3, .int sn, .long st])), (b1, .inl (e1, 250, .inl f1))] sz)) (va_A [(h, .inr (5, [.ref b0, .ref b1, .ref b2, .ref b3, .int sn, .long st])), (b1, .inl (e1, 250, .inl f1))] sz)) 0 0 (va_A [(h, .inr (5, [.ref b0, .ref b1, .ref b2, .ref b3, .int sn, .long st])), (b1, .inl (e1, 250, .inl f1))] sz) := by
  refine ofC_i (cc := cX5_penceOf) (maxL := 2) (ret := (some .int)) (by decide) rfl (Nat.le_of_ble_eq_true rfl) ?_
  intro p e s m args below meth c A ls Q F hr hin hlk St hl hQ
  have hx := F.1
  have hb := F.2.1
  have hl : lv_has ls 2 [(0, .ref h), (1, .int x)] := hl
  have St : cS G k [(h, .inr (5, [.ref b0, .ref b1, .ref b2, .ref b3, .int sn, .long st])), (b1, .inl (e1, 250, .inl f1))] [(e1, .int)] A s s.heap [] := St
  refine lv_iload_n hx hb dX5_penceOf_0 rfl (lv_at hl 1 rfl) ?_
  refine lv_if_lt (tgt := 28) hx hb dX5_penceOf_1 (by decide) (fun c1 => ?_) (fun c1 => ?_)
  ·
    have i1 := ci_lt (x := x) (y := 0) rfl (show (0 : Int32).toInt = 0 by decide) c1
    refine lv_iconst (v := 0) hx hb dX5_penceOf_28 (by decide) ?_
    exact cs_iret F hr hlk hQ St () (r := 0) (by trivial) [0, 1] rfl (by decide) [] rfl (by decide) (by decide) dX5_penceOf_29
  ·
    have i1 := ci_nlt (x := x) (y := 0) rfl (show (0 : Int32).toInt = 0 by decide) c1
    refine lv_iload_n hx hb dX5_penceOf_4 rfl (lv_at hl 1 rfl) ?_
    refine lv_aload_n hx hb dX5_penceOf_5 rfl (lv_at hl 0 rfl) ?_
    refine cs_get F St 0 rfl rfl inX5 4 (by decide) kf_X5_25 rfl dX5_penceOf_6 ?_
    refine lv_icmp_ge (tgt := 28) hx hb dX5_penceOf_9 (by decide) (fun c9 => ?_) (fun c9 => ?_)
    ·
      have i9 := ci_le (x := sn) (y := x) rfl rfl c9
      refine lv_iconst (v := 0) hx hb dX5_penceOf_28 (by decide) ?_
      exact cs_iret F hr hlk hQ St () (r := 0) (by trivial) [0, 1] rfl (by decide) [] rfl (by decide) (by decide) dX5_penceOf_29
    ·
      have i9 := ci_nle (x := sn) (y := x) rfl rfl c9
      refine lv_iload_n hx hb dX5_penceOf_12 rfl (lv_at hl 1 rfl) ?_
      refine lv_sipush (v := 250) hx hb dX5_penceOf_13 (by decide) ?_
      refine lv_icmp_ge (tgt := 28) hx hb dX5_penceOf_16 (by decide) (fun c16 => ?_) (fun c16 => ?_)
      ·
        have i16 := ci_le (x := 250) (y := x) (show (250 : Int32).toInt = 250 by decide) rfl c16
        refine lv_iconst (v := 0) hx hb dX5_penceOf_28 (by decide) ?_
        exact cs_iret F hr hlk hQ St () (r := 0) (by trivial) [0, 1] rfl (by decide) [] rfl (by decide) (by decide) dX5_penceOf_29
      ·
        have i16 := ci_nle (x := 250) (y := x) (show (250 : Int32).toInt = 250 by decide) rfl c16
        refine lv_aload_n hx hb dX5_penceOf_19 rfl (lv_at hl 0 rfl) ?_
        refine cs_get F St 0 rfl rfl inX5 1 (by decide) kf_X5_15 rfl dX5_penceOf_20 ?_
        refine lv_iload_n hx hb dX5_penceOf_23 rfl (lv_at hl 1 rfl) ?_
        refine cs_ild F St 1 0 rfl rfl (vp_in_iff.mpr ⟨by omega, by omega⟩) dX5_penceOf_24 ?_
        refine lv_topi (fun y_1 ey_1 => ?_)
        refine lv_goto (tgt := 29) hx hb dX5_penceOf_25 (by decide) ?_
        exact cs_iret F hr hlk hQ St () (r := y_1) (by trivial) [0, 1] rfl (by decide) [] rfl (by decide) (by decide) dX5_penceOf_29
set_option maxHeartbeats 4000000 in
set_option maxRecDepth 100000 in
theorem x5_givenBy (l : Launch) (G : va_G) (k : Nat → Nat) (sz : Nat) (h : Nat) (b0 : Nat) (b1 : Nat) (b2 : Nat) (b3 : Nat) (sn : Int32) (st : Int64) (e0 : ClassId) (e1 : ClassId) (f0 : Nat → Int32) (f1 : Nat → Int32) (x : Int32) : Met l yX5_givenBy (Cond.code yX5_givenBy cX5_givenBy 4 (some .int) :: tb) ({ frames := 0, cells := 0, slots := 0, locals := 0 } : Room) (va_Pc [.ref h, .int x] (cP G k [(h, .inr (5, [.ref b0, .ref b1, .ref b2, .ref b3, .int sn, .long st])), (b0, .inl (e0, 250, .inl f0)), (b1, .inl (e1, 250, .inl f1))] [(e0, .int), (e1, .int)] sz)) (va_Qi (fun (r : Int32) (_ : Unit) => True) (cB G (fun (_ : Unit) => [(h, .inr (5, [.ref b0, .ref b1, .ref b2, .ref b3, .int sn, .long st])), (b0, .inl (e0, 250, .inl f0)), (b1, .inl (e1, 250, .inl f1))]) (fun (_ : Unit) => []) (va_A [(h, .inr (5, [.ref b0, .ref b1, .ref b2, .ref b3, .int sn, .long st])), (b0, .inl (e0, 250, .inl f0)), (b1, .inl (e1, 250, .inl f1))] sz)) (va_A [(h, .inr (5, [.ref b0, .ref b1, .ref b2, .ref b3, .int sn, .long st])), (b0, .inl (e0, 250, .inl f0)), (b1, .inl (e1, 250, .inl f1))] sz)) 0 0 (va_A [(h, .inr (5, [.ref b0, .ref b1, .ref b2, .ref b3, .int sn, .long st])), (b0, .inl (e0, 250, .inl f0)), (b1, .inl (e1, 250, .inl f1))] sz) := by
  refine ofC_i (cc := cX5_givenBy) (maxL := 4) (ret := (some .int)) (by decide) rfl (Nat.le_of_ble_eq_true rfl) ?_
  intro p e s m args below meth c A ls Q F hr hin hlk St hl hQ
  have hx := F.1
  have hb := F.2.1
  have hl : lv_has ls 4 [(0, .ref h), (1, .int x)] := hl
  have St : cS G k [(h, .inr (5, [.ref b0, .ref b1, .ref b2, .ref b3, .int sn, .long st])), (b0, .inl (e0, 250, .inl f0)), (b1, .inl (e1, 250, .inl f1))] [(e0, .int), (e1, .int)] A s s.heap [] := St
  have y0 : (0 : Int32).toInt = 0 := by decide
  refine lv_iconst (v := 0) hx hb dX5_givenBy_0 (by decide) ?_
  refine lv_istore_n (lv' := [(2, .int 0), (0, .ref h), (1, .int x)]) hx hb dX5_givenBy_1 rfl hl (by decide) rfl (fun ls hl => ?_)
  refine lv_iconst (v := 0) hx hb dX5_givenBy_2 (by decide) ?_
  refine lv_istore_n (lv' := [(3, .int 0), (2, .int 0), (0, .ref h), (1, .int x)]) hx hb dX5_givenBy_3 rfl hl (by decide) rfl (fun ls hl => ?_)
  have lp4 : ∀ (n : Nat) (kk : Int32) (nn : Int32) (H : Heap) (locs : List Loc) (ls : Array Slot), (0 ≤ kk.toInt) → ((250 - kk.toInt).toNat) < n → cS G k [(h, .inr (5, [.ref b0, .ref b1, .ref b2, .ref b3, .int sn, .long st])), (b0, .inl (e0, 250, .inl f0)), (b1, .inl (e1, 250, .inl f1))] [(e0, .int), (e1, .int)] A s H locs → lv_has ls 4 [(3, .int kk), (2, .int nn), (0, .ref h), (1, .int x)] → W p l e ({ frames := 0, cells := 0, slots := 0, locals := 0 } : Room) s m args below meth c H locs 0 0 Q (F0 m 4 ls []) := by
    intro n
    induction n with
    | zero => intro kk nn H locs ls hI hn; exact absurd hn (Nat.not_lt_zero _)
    | succ n ih =>
      intro kk nn H locs ls hI hn St hl
      refine lv_iload_n hx hb dX5_givenBy_4 rfl (lv_at hl 0 rfl) ?_
      refine lv_aload_n hx hb dX5_givenBy_5 rfl (lv_at hl 2 rfl) ?_
      refine cs_get F St 0 rfl rfl inX5 4 (by decide) kf_X5_25 rfl dX5_givenBy_6 ?_
      refine lv_icmp_ge (tgt := 44) hx hb dX5_givenBy_9 (by decide) (fun c9 => ?_) (fun c9 => ?_)
      ·
        have i9 := ci_le (x := sn) (y := kk) rfl rfl c9
        refine lv_iload_n hx hb dX5_givenBy_44 rfl (lv_at hl 1 rfl) ?_
        exact cs_iret F hr hlk hQ St () (r := nn) (by trivial) [0, 1, 2] rfl (by decide) [] rfl (by decide) (by decide) dX5_givenBy_45
      ·
        have i9 := ci_nle (x := sn) (y := kk) rfl rfl c9
        refine lv_iload_n hx hb dX5_givenBy_12 rfl (lv_at hl 0 rfl) ?_
        refine lv_sipush (v := 250) hx hb dX5_givenBy_13 (by decide) ?_
        refine lv_icmp_ge (tgt := 44) hx hb dX5_givenBy_16 (by decide) (fun c16 => ?_) (fun c16 => ?_)
        ·
          have i16 := ci_le (x := 250) (y := kk) (show (250 : Int32).toInt = 250 by decide) rfl c16
          refine lv_iload_n hx hb dX5_givenBy_44 rfl (lv_at hl 1 rfl) ?_
          exact cs_iret F hr hlk hQ St () (r := nn) (by trivial) [0, 1, 2] rfl (by decide) [] rfl (by decide) (by decide) dX5_givenBy_45
        ·
          have i16 := ci_nle (x := 250) (y := kk) (show (250 : Int32).toInt = 250 by decide) rfl c16
          refine lv_aload_n hx hb dX5_givenBy_19 rfl (lv_at hl 2 rfl) ?_
          refine cs_get F St 0 rfl rfl inX5 0 (by decide) kf_X5_9 rfl dX5_givenBy_20 ?_
          refine lv_iload_n hx hb dX5_givenBy_23 rfl (lv_at hl 0 rfl) ?_
          refine cs_ild F St 1 0 rfl rfl (vp_in_iff.mpr ⟨by omega, by omega⟩) dX5_givenBy_24 ?_
          refine lv_topi (fun y_1 ey_1 => ?_)
          refine lv_iload_n hx hb dX5_givenBy_25 rfl (lv_at hl 3 rfl) ?_
          refine lv_icmp_ne (tgt := 38) hx hb dX5_givenBy_26 (by decide) (fun c26 => ?_) (fun c26 => ?_)
          ·
            have i26 := ci_ne (x := y_1) (y := x) rfl rfl c26
            obtain ⟨y_2, ey_2⟩ : ∃ zz : Int32, zz = kk + 1 := ⟨_, rfl⟩
            first | have jy_2 : y_2.toInt = kk.toInt + 1 := (by have q9 := ci_add (x := kk) rfl (show (1 : Int32).toInt = 1 by decide) ey_2; omega) | have jy_2 := ci_add (x := kk) rfl (show (1 : Int32).toInt = 1 by decide) ey_2
            refine lv_iinc (v := y_2) (lv' := [(3, .int y_2), (2, .int nn), (0, .ref h), (1, .int x)]) hx hb dX5_givenBy_38 hl (k := 0) rfl (by rw [ey_2]; rfl) (by decide) rfl (fun ls hl => ?_)
            refine lv_goto (tgt := 4) hx hb dX5_givenBy_41 (by decide) ?_
            exact ih y_2 nn _ _ _ (by omega) (by omega) St (lv_sub hl [0, 1, 2, 3] rfl)
          ·
            have i26 := ci_eq (x := y_1) (y := x) rfl rfl c26
            refine lv_iload_n hx hb dX5_givenBy_29 rfl (lv_at hl 1 rfl) ?_
            refine lv_aload_n hx hb dX5_givenBy_30 rfl (lv_at hl 2 rfl) ?_
            refine cs_get F St 0 rfl rfl inX5 1 (by decide) kf_X5_15 rfl dX5_givenBy_31 ?_
            refine lv_iload_n hx hb dX5_givenBy_34 rfl (lv_at hl 0 rfl) ?_
            refine cs_ild F St 2 1 rfl rfl (vp_in_iff.mpr ⟨by omega, by omega⟩) dX5_givenBy_35 ?_
            refine lv_topi (fun y_3 ey_3 => ?_)
            refine lv_iadd hx hb dX5_givenBy_36 ?_
            refine lv_topi (fun y_4 ey_4 => ?_)
            first | have jy_4 : y_4.toInt = nn.toInt + y_3.toInt := (by have q9 := ci_add (x := nn) (y := y_3) rfl rfl ey_4; omega) | have jy_4 := ci_add (x := nn) (y := y_3) rfl rfl ey_4
            refine lv_istore_n (lv' := [(2, .int y_4), (3, .int kk), (0, .ref h), (1, .int x)]) hx hb dX5_givenBy_37 rfl hl (by decide) rfl (fun ls hl => ?_)
            obtain ⟨y_5, ey_5⟩ : ∃ zz : Int32, zz = kk + 1 := ⟨_, rfl⟩
            first | have jy_5 : y_5.toInt = kk.toInt + 1 := (by have q9 := ci_add (x := kk) rfl (show (1 : Int32).toInt = 1 by decide) ey_5; omega) | have jy_5 := ci_add (x := kk) rfl (show (1 : Int32).toInt = 1 by decide) ey_5
            refine lv_iinc (v := y_5) (lv' := [(3, .int y_5), (2, .int y_4), (0, .ref h), (1, .int x)]) hx hb dX5_givenBy_38 hl (k := 1) rfl (by rw [ey_5]; rfl) (by decide) rfl (fun ls hl => ?_)
            refine lv_goto (tgt := 4) hx hb dX5_givenBy_41 (by decide) ?_
            exact ih y_5 y_4 _ _ _ (by omega) (by omega) St (lv_sub hl [0, 1, 2, 3] rfl)
  exact lp4 251 0 0 _ _ _ (by omega) (by omega) St (lv_sub hl [0, 1, 2, 3] rfl)
set_option maxHeartbeats 4000000 in
set_option maxRecDepth 100000 in
theorem x5_unclaimedOf (l : Launch) (G : va_G) (k : Nat → Nat) (sz : Nat) (h : Nat) (b0 : Nat) (b1 : Nat) (b2 : Nat) (b3 : Nat) (sn : Int32) (st : Int64) (e0 : ClassId) (e1 : ClassId) (e3 : ClassId) (f0 : Nat → Int32) (f1 : Nat → Int32) (f3 : Nat → Int32) (x : Int32) : Met l yX5_unclaimedOf (Cond.code yX5_unclaimedOf cX5_unclaimedOf 4 (some .int) :: tb) ({ frames := 0, cells := 0, slots := 0, locals := 0 } : Room) (va_Pc [.ref h, .int x] (cP G k [(h, .inr (5, [.ref b0, .ref b1, .ref b2, .ref b3, .int sn, .long st])), (b0, .inl (e0, 250, .inl f0)), (b1, .inl (e1, 250, .inl f1)), (b3, .inl (e3, 250, .inl f3))] [(e0, .int), (e1, .int), (e3, .boolean)] sz)) (va_Qi (fun (r : Int32) (_ : Unit) => True) (cB G (fun (_ : Unit) => [(h, .inr (5, [.ref b0, .ref b1, .ref b2, .ref b3, .int sn, .long st])), (b0, .inl (e0, 250, .inl f0)), (b1, .inl (e1, 250, .inl f1)), (b3, .inl (e3, 250, .inl f3))]) (fun (_ : Unit) => []) (va_A [(h, .inr (5, [.ref b0, .ref b1, .ref b2, .ref b3, .int sn, .long st])), (b0, .inl (e0, 250, .inl f0)), (b1, .inl (e1, 250, .inl f1)), (b3, .inl (e3, 250, .inl f3))] sz)) (va_A [(h, .inr (5, [.ref b0, .ref b1, .ref b2, .ref b3, .int sn, .long st])), (b0, .inl (e0, 250, .inl f0)), (b1, .inl (e1, 250, .inl f1)), (b3, .inl (e3, 250, .inl f3))] sz)) 0 0 (va_A [(h, .inr (5, [.ref b0, .ref b1, .ref b2, .ref b3, .int sn, .long st])), (b0, .inl (e0, 250, .inl f0)), (b1, .inl (e1, 250, .inl f1)), (b3, .inl (e3, 250, .inl f3))] sz) := by
  refine ofC_i (cc := cX5_unclaimedOf) (maxL := 4) (ret := (some .int)) (by decide) rfl (Nat.le_of_ble_eq_true rfl) ?_
  intro p e s m args below meth c A ls Q F hr hin hlk St hl hQ
  have hx := F.1
  have hb := F.2.1
  have hl : lv_has ls 4 [(0, .ref h), (1, .int x)] := hl
  have St : cS G k [(h, .inr (5, [.ref b0, .ref b1, .ref b2, .ref b3, .int sn, .long st])), (b0, .inl (e0, 250, .inl f0)), (b1, .inl (e1, 250, .inl f1)), (b3, .inl (e3, 250, .inl f3))] [(e0, .int), (e1, .int), (e3, .boolean)] A s s.heap [] := St
  have y0 : (0 : Int32).toInt = 0 := by decide
  refine lv_iconst (v := 0) hx hb dX5_unclaimedOf_0 (by decide) ?_
  refine lv_istore_n (lv' := [(2, .int 0), (0, .ref h), (1, .int x)]) hx hb dX5_unclaimedOf_1 rfl hl (by decide) rfl (fun ls hl => ?_)
  refine lv_iconst (v := 0) hx hb dX5_unclaimedOf_2 (by decide) ?_
  refine lv_istore_n (lv' := [(3, .int 0), (2, .int 0), (0, .ref h), (1, .int x)]) hx hb dX5_unclaimedOf_3 rfl hl (by decide) rfl (fun ls hl => ?_)
  have lp4 : ∀ (n : Nat) (kk : Int32) (nn : Int32) (H : Heap) (locs : List Loc) (ls : Array Slot), (0 ≤ kk.toInt) → ((250 - kk.toInt).toNat) < n → cS G k [(h, .inr (5, [.ref b0, .ref b1, .ref b2, .ref b3, .int sn, .long st])), (b0, .inl (e0, 250, .inl f0)), (b1, .inl (e1, 250, .inl f1)), (b3, .inl (e3, 250, .inl f3))] [(e0, .int), (e1, .int), (e3, .boolean)] A s H locs → lv_has ls 4 [(3, .int kk), (2, .int nn), (0, .ref h), (1, .int x)] → W p l e ({ frames := 0, cells := 0, slots := 0, locals := 0 } : Room) s m args below meth c H locs 0 0 Q (F0 m 4 ls []) := by
    intro n
    induction n with
    | zero => intro kk nn H locs ls hI hn; exact absurd hn (Nat.not_lt_zero _)
    | succ n ih =>
      intro kk nn H locs ls hI hn St hl
      refine lv_iload_n hx hb dX5_unclaimedOf_4 rfl (lv_at hl 0 rfl) ?_
      refine lv_aload_n hx hb dX5_unclaimedOf_5 rfl (lv_at hl 2 rfl) ?_
      refine cs_get F St 0 rfl rfl inX5 4 (by decide) kf_X5_25 rfl dX5_unclaimedOf_6 ?_
      refine lv_icmp_ge (tgt := 53) hx hb dX5_unclaimedOf_9 (by decide) (fun c9 => ?_) (fun c9 => ?_)
      ·
        have i9 := ci_le (x := sn) (y := kk) rfl rfl c9
        refine lv_iload_n hx hb dX5_unclaimedOf_53 rfl (lv_at hl 1 rfl) ?_
        exact cs_iret F hr hlk hQ St () (r := nn) (by trivial) [0, 1, 2, 3] rfl (by decide) [] rfl (by decide) (by decide) dX5_unclaimedOf_54
      ·
        have i9 := ci_nle (x := sn) (y := kk) rfl rfl c9
        refine lv_iload_n hx hb dX5_unclaimedOf_12 rfl (lv_at hl 0 rfl) ?_
        refine lv_sipush (v := 250) hx hb dX5_unclaimedOf_13 (by decide) ?_
        refine lv_icmp_ge (tgt := 53) hx hb dX5_unclaimedOf_16 (by decide) (fun c16 => ?_) (fun c16 => ?_)
        ·
          have i16 := ci_le (x := 250) (y := kk) (show (250 : Int32).toInt = 250 by decide) rfl c16
          refine lv_iload_n hx hb dX5_unclaimedOf_53 rfl (lv_at hl 1 rfl) ?_
          exact cs_iret F hr hlk hQ St () (r := nn) (by trivial) [0, 1, 2, 3] rfl (by decide) [] rfl (by decide) (by decide) dX5_unclaimedOf_54
        ·
          have i16 := ci_nle (x := 250) (y := kk) (show (250 : Int32).toInt = 250 by decide) rfl c16
          refine lv_aload_n hx hb dX5_unclaimedOf_19 rfl (lv_at hl 2 rfl) ?_
          refine cs_get F St 0 rfl rfl inX5 0 (by decide) kf_X5_9 rfl dX5_unclaimedOf_20 ?_
          refine lv_iload_n hx hb dX5_unclaimedOf_23 rfl (lv_at hl 0 rfl) ?_
          refine cs_ild F St 1 0 rfl rfl (vp_in_iff.mpr ⟨by omega, by omega⟩) dX5_unclaimedOf_24 ?_
          refine lv_topi (fun y_1 ey_1 => ?_)
          refine lv_iload_n hx hb dX5_unclaimedOf_25 rfl (lv_at hl 3 rfl) ?_
          refine lv_icmp_ne (tgt := 47) hx hb dX5_unclaimedOf_26 (by decide) (fun c26 => ?_) (fun c26 => ?_)
          ·
            have i26 := ci_ne (x := y_1) (y := x) rfl rfl c26
            obtain ⟨y_2, ey_2⟩ : ∃ zz : Int32, zz = kk + 1 := ⟨_, rfl⟩
            first | have jy_2 : y_2.toInt = kk.toInt + 1 := (by have q9 := ci_add (x := kk) rfl (show (1 : Int32).toInt = 1 by decide) ey_2; omega) | have jy_2 := ci_add (x := kk) rfl (show (1 : Int32).toInt = 1 by decide) ey_2
            refine lv_iinc (v := y_2) (lv' := [(3, .int y_2), (2, .int nn), (0, .ref h), (1, .int x)]) hx hb dX5_unclaimedOf_47 hl (k := 0) rfl (by rw [ey_2]; rfl) (by decide) rfl (fun ls hl => ?_)
            refine lv_goto (tgt := 4) hx hb dX5_unclaimedOf_50 (by decide) ?_
            exact ih y_2 nn _ _ _ (by omega) (by omega) St (lv_sub hl [0, 1, 2, 3] rfl)
          ·
            have i26 := ci_eq (x := y_1) (y := x) rfl rfl c26
            refine lv_aload_n hx hb dX5_unclaimedOf_29 rfl (lv_at hl 2 rfl) ?_
            refine cs_get F St 0 rfl rfl inX5 3 (by decide) kf_X5_21 rfl dX5_unclaimedOf_30 ?_
            refine lv_iload_n hx hb dX5_unclaimedOf_33 rfl (lv_at hl 0 rfl) ?_
            refine cs_zld F St 3 2 rfl rfl (vp_in_iff.mpr ⟨by omega, by omega⟩) dX5_unclaimedOf_34 ?_
            refine lv_topi (fun y_3 ey_3 => ?_)
            refine lv_if_ne (tgt := 47) hx hb dX5_unclaimedOf_35 (by decide) (fun c35 => ?_) (fun c35 => ?_)
            ·
              have i35 := ci_ne (x := y_3) (y := 0) rfl (show (0 : Int32).toInt = 0 by decide) c35
              obtain ⟨y_4, ey_4⟩ : ∃ zz : Int32, zz = kk + 1 := ⟨_, rfl⟩
              first | have jy_4 : y_4.toInt = kk.toInt + 1 := (by have q9 := ci_add (x := kk) rfl (show (1 : Int32).toInt = 1 by decide) ey_4; omega) | have jy_4 := ci_add (x := kk) rfl (show (1 : Int32).toInt = 1 by decide) ey_4
              refine lv_iinc (v := y_4) (lv' := [(3, .int y_4), (2, .int nn), (0, .ref h), (1, .int x)]) hx hb dX5_unclaimedOf_47 hl (k := 0) rfl (by rw [ey_4]; rfl) (by decide) rfl (fun ls hl => ?_)
              refine lv_goto (tgt := 4) hx hb dX5_unclaimedOf_50 (by decide) ?_
              exact ih y_4 nn _ _ _ (by omega) (by omega) St (lv_sub hl [0, 1, 2, 3] rfl)
            ·
              have i35 := ci_eq (x := y_3) (y := 0) rfl (show (0 : Int32).toInt = 0 by decide) c35
              refine lv_iload_n hx hb dX5_unclaimedOf_38 rfl (lv_at hl 1 rfl) ?_
              refine lv_aload_n hx hb dX5_unclaimedOf_39 rfl (lv_at hl 2 rfl) ?_
              refine cs_get F St 0 rfl rfl inX5 1 (by decide) kf_X5_15 rfl dX5_unclaimedOf_40 ?_
              refine lv_iload_n hx hb dX5_unclaimedOf_43 rfl (lv_at hl 0 rfl) ?_
              refine cs_ild F St 2 1 rfl rfl (vp_in_iff.mpr ⟨by omega, by omega⟩) dX5_unclaimedOf_44 ?_
              refine lv_topi (fun y_5 ey_5 => ?_)
              refine lv_iadd hx hb dX5_unclaimedOf_45 ?_
              refine lv_topi (fun y_6 ey_6 => ?_)
              first | have jy_6 : y_6.toInt = nn.toInt + y_5.toInt := (by have q9 := ci_add (x := nn) (y := y_5) rfl rfl ey_6; omega) | have jy_6 := ci_add (x := nn) (y := y_5) rfl rfl ey_6
              refine lv_istore_n (lv' := [(2, .int y_6), (3, .int kk), (0, .ref h), (1, .int x)]) hx hb dX5_unclaimedOf_46 rfl hl (by decide) rfl (fun ls hl => ?_)
              obtain ⟨y_7, ey_7⟩ : ∃ zz : Int32, zz = kk + 1 := ⟨_, rfl⟩
              first | have jy_7 : y_7.toInt = kk.toInt + 1 := (by have q9 := ci_add (x := kk) rfl (show (1 : Int32).toInt = 1 by decide) ey_7; omega) | have jy_7 := ci_add (x := kk) rfl (show (1 : Int32).toInt = 1 by decide) ey_7
              refine lv_iinc (v := y_7) (lv' := [(3, .int y_7), (2, .int y_6), (0, .ref h), (1, .int x)]) hx hb dX5_unclaimedOf_47 hl (k := 1) rfl (by rw [ey_7]; rfl) (by decide) rfl (fun ls hl => ?_)
              refine lv_goto (tgt := 4) hx hb dX5_unclaimedOf_50 (by decide) ?_
              exact ih y_7 y_6 _ _ _ (by omega) (by omega) St (lv_sub hl [0, 1, 2, 3] rfl)
  exact lp4 251 0 0 _ _ _ (by omega) (by omega) St (lv_sub hl [0, 1, 2, 3] rfl)
set_option maxHeartbeats 4000000 in
set_option maxRecDepth 100000 in
theorem x5_claimTax (l : Launch) (G : va_G) (k : Nat → Nat) (sz : Nat) (h : Nat) (b0 : Nat) (b1 : Nat) (b2 : Nat) (b3 : Nat) (b4 : Nat) (b5 : Nat) (e0 : ClassId) (e1 : ClassId) (f0 : Nat → Int32) (f1 : Nat → Int32) (zs : Nat) (s0 : Nat) (s1 : Nat) (s2 : Nat) (s3 : Nat) (sn : Int32) (st : Int64) (sc0 : ClassId) (sc1 : ClassId) (sc2 : ClassId) (sc3 : ClassId) (l0 : Nat → Int32) (l1 : Nat → Int32) (l2 : Nat → Int32) (l3 : Nat → Int32) (x : Int32) : Met l yX5_claimTax (Cond.code yX5_claimTax cX5_claimTax 6 (some .int) :: tb) ({ frames := 2, cells := 0, slots := 0, locals := 42 } : Room) (va_Pc [.ref zs, .int x, .ref h] (cP G k [(zs, .inr (5, [.ref s0, .ref s1, .ref s2, .ref s3, .int sn, .long st])), (s0, .inl (sc0, 250, .inl l0)), (s1, .inl (sc1, 250, .inl l1)), (s2, .inl (sc2, 250, .inl l2)), (s3, .inl (sc3, 250, .inl l3)), (h, .inr (0, [.ref b0, .ref b1, .ref b2, .ref b3, .ref b4, .ref b5])), (b0, .inl (e0, 30, .inl f0)), (b1, .inl (e1, 30, .inl f1))] [(sc0, .int), (sc1, .int), (sc2, .int), (sc3, .boolean), (e0, .int), (e1, .int)] sz)) (va_Qi (fun (r : Int32) (z3 : (Nat → Int32)) => True) (cB G (fun (z3 : (Nat → Int32)) => [(zs, .inr (5, [.ref s0, .ref s1, .ref s2, .ref s3, .int sn, .long st])), (s0, .inl (sc0, 250, .inl l0)), (s1, .inl (sc1, 250, .inl l1)), (s2, .inl (sc2, 250, .inl l2)), (s3, .inl (sc3, 250, .inl z3)), (h, .inr (0, [.ref b0, .ref b1, .ref b2, .ref b3, .ref b4, .ref b5])), (b0, .inl (e0, 30, .inl f0)), (b1, .inl (e1, 30, .inl f1))]) (fun (z3 : (Nat → Int32)) => []) (va_A [(zs, .inr (5, [.ref s0, .ref s1, .ref s2, .ref s3, .int sn, .long st])), (s0, .inl (sc0, 250, .inl l0)), (s1, .inl (sc1, 250, .inl l1)), (s2, .inl (sc2, 250, .inl l2)), (s3, .inl (sc3, 250, .inl l3)), (h, .inr (0, [.ref b0, .ref b1, .ref b2, .ref b3, .ref b4, .ref b5])), (b0, .inl (e0, 30, .inl f0)), (b1, .inl (e1, 30, .inl f1))] sz)) (va_A [(zs, .inr (5, [.ref s0, .ref s1, .ref s2, .ref s3, .int sn, .long st])), (s0, .inl (sc0, 250, .inl l0)), (s1, .inl (sc1, 250, .inl l1)), (s2, .inl (sc2, 250, .inl l2)), (s3, .inl (sc3, 250, .inl l3)), (h, .inr (0, [.ref b0, .ref b1, .ref b2, .ref b3, .ref b4, .ref b5])), (b0, .inl (e0, 30, .inl f0)), (b1, .inl (e1, 30, .inl f1))] sz)) 0 0 (va_A [(zs, .inr (5, [.ref s0, .ref s1, .ref s2, .ref s3, .int sn, .long st])), (s0, .inl (sc0, 250, .inl l0)), (s1, .inl (sc1, 250, .inl l1)), (s2, .inl (sc2, 250, .inl l2)), (s3, .inl (sc3, 250, .inl l3)), (h, .inr (0, [.ref b0, .ref b1, .ref b2, .ref b3, .ref b4, .ref b5])), (b0, .inl (e0, 30, .inl f0)), (b1, .inl (e1, 30, .inl f1))] sz) := by
  refine ofC_i (cc := cX5_claimTax) (maxL := 6) (ret := (some .int)) (by decide) rfl (Nat.le_of_ble_eq_true rfl) ?_
  intro p e s m args below meth c A ls Q F hr hin hlk St hl hQ
  have hx := F.1
  have hb := F.2.1
  have hl : lv_has ls 6 [(0, .ref zs), (1, .int x), (2, .ref h)] := hl
  have St : cS G k [(zs, .inr (5, [.ref s0, .ref s1, .ref s2, .ref s3, .int sn, .long st])), (s0, .inl (sc0, 250, .inl l0)), (s1, .inl (sc1, 250, .inl l1)), (s2, .inl (sc2, 250, .inl l2)), (s3, .inl (sc3, 250, .inl l3)), (h, .inr (0, [.ref b0, .ref b1, .ref b2, .ref b3, .ref b4, .ref b5])), (b0, .inl (e0, 30, .inl f0)), (b1, .inl (e1, 30, .inl f1))] [(sc0, .int), (sc1, .int), (sc2, .int), (sc3, .boolean), (e0, .int), (e1, .int)] A s s.heap [] := St
  have y0 : (0 : Int32).toInt = 0 := by decide
  refine lv_iload_n hx hb dX5_claimTax_0 rfl (lv_at hl 1 rfl) ?_
  refine lv_if_ne (tgt := 6) hx hb dX5_claimTax_1 (by decide) (fun c1 => ?_) (fun c1 => ?_)
  ·
    have i1 := ci_ne (x := x) (y := 0) rfl (show (0 : Int32).toInt = 0 by decide) c1
    refine lv_lconst (v := 0) hx hb dX5_claimTax_6 (by decide) ?_
    refine lv_lstore_n (lv' := [(3, .long 0), (0, .ref zs), (1, .int x), (2, .ref h)]) hx hb dX5_claimTax_7 rfl hl (by decide) rfl (fun ls hl => ?_)
    refine lv_iconst (v := 0) hx hb dX5_claimTax_8 (by decide) ?_
    refine lv_istore (lv' := [(5, .int 0), (3, .long 0), (0, .ref zs), (1, .int x), (2, .ref h)]) hx hb dX5_claimTax_9 hl (by decide) rfl (fun ls hl => ?_)
    have lp11 : ∀ (n : Nat) (kk : Int32) (tx : Int64) (fq : Nat → Int32) (H : Heap) (locs : List Loc) (ls : Array Slot), (0 ≤ kk.toInt) → ((250 - kk.toInt).toNat) < n → cS G k [(zs, .inr (5, [.ref s0, .ref s1, .ref s2, .ref s3, .int sn, .long st])), (s0, .inl (sc0, 250, .inl l0)), (s1, .inl (sc1, 250, .inl l1)), (s2, .inl (sc2, 250, .inl l2)), (s3, .inl (sc3, 250, .inl fq)), (h, .inr (0, [.ref b0, .ref b1, .ref b2, .ref b3, .ref b4, .ref b5])), (b0, .inl (e0, 30, .inl f0)), (b1, .inl (e1, 30, .inl f1))] [(sc0, .int), (sc1, .int), (sc2, .int), (sc3, .boolean), (e0, .int), (e1, .int)] A s H locs → lv_has ls 6 [(5, .int kk), (3, .long tx), (0, .ref zs), (1, .int x), (2, .ref h)] → W p l e ({ frames := 2, cells := 0, slots := 0, locals := 42 } : Room) s m args below meth c H locs 0 0 Q (F0 m 11 ls []) := by
      intro n
      induction n with
      | zero => intro kk tx fq H locs ls hI hn; exact absurd hn (Nat.not_lt_zero _)
      | succ n ih =>
        intro kk tx fq H locs ls hI hn St hl
        refine lv_iload hx hb dX5_claimTax_11 (lv_at hl 0 rfl) ?_
        refine lv_aload_n hx hb dX5_claimTax_13 rfl (lv_at hl 2 rfl) ?_
        refine cs_get F St 0 rfl rfl inX5 4 (by decide) kf_X5_25 rfl dX5_claimTax_14 ?_
        refine lv_icmp_ge (tgt := 91) hx hb dX5_claimTax_17 (by decide) (fun c17 => ?_) (fun c17 => ?_)
        ·
          have i17 := ci_le (x := sn) (y := kk) rfl rfl c17
          refine lv_lload_n hx hb dX5_claimTax_91 rfl (lv_at hl 1 rfl) ?_
          refine lv_l2i (v := tx.toInt32) hx hb dX5_claimTax_92 rfl ?_
          exact cs_iret F hr hlk hQ St fq (r := tx.toInt32) (by trivial) [0, 1, 2, 3, 4, 5, 6, 7] rfl (by decide) [] rfl (by decide) (by decide) dX5_claimTax_93
        ·
          have i17 := ci_nle (x := sn) (y := kk) rfl rfl c17
          refine lv_iload hx hb dX5_claimTax_20 (lv_at hl 0 rfl) ?_
          refine lv_sipush (v := 250) hx hb dX5_claimTax_22 (by decide) ?_
          refine lv_icmp_ge (tgt := 91) hx hb dX5_claimTax_25 (by decide) (fun c25 => ?_) (fun c25 => ?_)
          ·
            have i25 := ci_le (x := 250) (y := kk) (show (250 : Int32).toInt = 250 by decide) rfl c25
            refine lv_lload_n hx hb dX5_claimTax_91 rfl (lv_at hl 1 rfl) ?_
            refine lv_l2i (v := tx.toInt32) hx hb dX5_claimTax_92 rfl ?_
            exact cs_iret F hr hlk hQ St fq (r := tx.toInt32) (by trivial) [0, 1, 2, 3, 4, 5, 6, 7] rfl (by decide) [] rfl (by decide) (by decide) dX5_claimTax_93
          ·
            have i25 := ci_nle (x := 250) (y := kk) (show (250 : Int32).toInt = 250 by decide) rfl c25
            refine lv_aload_n hx hb dX5_claimTax_28 rfl (lv_at hl 2 rfl) ?_
            refine cs_get F St 0 rfl rfl inX5 3 (by decide) kf_X5_21 rfl dX5_claimTax_29 ?_
            refine lv_iload hx hb dX5_claimTax_32 (lv_at hl 0 rfl) ?_
            refine cs_zld F St 4 3 rfl rfl (vp_in_iff.mpr ⟨by omega, by omega⟩) dX5_claimTax_34 ?_
            refine lv_topi (fun y_1 ey_1 => ?_)
            refine lv_if_ne (tgt := 85) hx hb dX5_claimTax_35 (by decide) (fun c35 => ?_) (fun c35 => ?_)
            ·
              have i35 := ci_ne (x := y_1) (y := 0) rfl (show (0 : Int32).toInt = 0 by decide) c35
              obtain ⟨y_2, ey_2⟩ : ∃ zz : Int32, zz = kk + 1 := ⟨_, rfl⟩
              first | have jy_2 : y_2.toInt = kk.toInt + 1 := (by have q9 := ci_add (x := kk) rfl (show (1 : Int32).toInt = 1 by decide) ey_2; omega) | have jy_2 := ci_add (x := kk) rfl (show (1 : Int32).toInt = 1 by decide) ey_2
              refine lv_iinc (v := y_2) (lv' := [(5, .int y_2), (3, .long tx), (0, .ref zs), (1, .int x), (2, .ref h)]) hx hb dX5_claimTax_85 hl (k := 0) rfl (by rw [ey_2]; rfl) (by decide) rfl (fun ls hl => ?_)
              refine lv_goto (tgt := 11) hx hb dX5_claimTax_88 (by decide) ?_
              exact ih y_2 tx fq _ _ _ (by omega) (by omega) St (lv_sub hl [0, 1, 2, 3, 4] rfl)
            ·
              have i35 := ci_eq (x := y_1) (y := 0) rfl (show (0 : Int32).toInt = 0 by decide) c35
              refine lv_aload_n hx hb dX5_claimTax_38 rfl (lv_at hl 4 rfl) ?_
              refine lv_aload_n hx hb dX5_claimTax_39 rfl (lv_at hl 2 rfl) ?_
              refine cs_get F St 0 rfl rfl inX5 0 (by decide) kf_X5_9 rfl dX5_claimTax_40 ?_
              refine lv_iload hx hb dX5_claimTax_43 (lv_at hl 0 rfl) ?_
              refine cs_ild F St 1 0 rfl rfl (vp_in_iff.mpr ⟨by omega, by omega⟩) dX5_claimTax_45 ?_
              refine lv_topi (fun y_3 ey_3 => ?_)
              refine lv_aload_n hx hb dX5_claimTax_46 rfl (lv_at hl 2 rfl) ?_
              refine cs_get F St 0 rfl rfl inX5 2 (by decide) kf_X5_18 rfl dX5_claimTax_47 ?_
              refine lv_iload hx hb dX5_claimTax_50 (lv_at hl 0 rfl) ?_
              refine cs_ild F St 3 2 rfl rfl (vp_in_iff.mpr ⟨by omega, by omega⟩) dX5_claimTax_52 ?_
              refine lv_topi (fun y_4 ey_4 => ?_)
              refine cs_i St [5, 6, 7] [0, 1, 2, 3, 4] (wc := [(h, .inr (0, [.ref b0, .ref b1, .ref b2, .ref b3, .ref b4, .ref b5])), (b0, .inl (e0, 30, .inl f0)), (b1, .inl (e1, 30, .inl f1))]) (wr := [(zs, .inr (5, [.ref s0, .ref s1, .ref s2, .ref s3, .int sn, .long st])), (s0, .inl (sc0, 250, .inl l0)), (s1, .inl (sc1, 250, .inl l1)), (s2, .inl (sc2, 250, .inl l2)), (s3, .inl (sc3, 250, .inl fq))]) rfl rfl (by decide) (by decide) (va_runV (As := [.int y_3, .int y_4]) (rest := []) F (x0_hasDeclared l G k _ h b0 b1 b2 b3 b4 b5 e0 e1 f0 f1 y_3 y_4) (cwVt F mf_X0_hasDeclared km_X5_33 rfl rfl ⟨Nat.le_of_ble_eq_true rfl, Nat.le_of_ble_eq_true rfl⟩) (cs_preV St [5, 6, 7] rfl (by decide) [4, 5] rfl (ci := 0) (q0 := 5) rfl rfl) rfl rfl hl.1 rfl (lv_room (Nat.le_of_ble_eq_true rfl)) dX5_claimTax_53 ⟨Nat.le_of_ble_eq_true rfl, Nat.le_of_ble_eq_true rfl⟩) (fun r_5 u_6 H locs hw St => ?_)
              try dsimp only at hw
              rcases hw with z_7 | z_8
              ·
                subst r_5
                have St : cS G k [(zs, .inr (5, [.ref s0, .ref s1, .ref s2, .ref s3, .int sn, .long st])), (s0, .inl (sc0, 250, .inl l0)), (s1, .inl (sc1, 250, .inl l1)), (s2, .inl (sc2, 250, .inl l2)), (s3, .inl (sc3, 250, .inl fq)), (h, .inr (0, [.ref b0, .ref b1, .ref b2, .ref b3, .ref b4, .ref b5])), (b0, .inl (e0, 30, .inl f0)), (b1, .inl (e1, 30, .inl f1))] [(sc0, .int), (sc1, .int), (sc2, .int), (sc3, .boolean), (e0, .int), (e1, .int)] A s H locs := St
                refine lv_if_eq (tgt := 85) hx hb dX5_claimTax_56 (by decide) (fun c56 => ?_) (fun c56 => ?_)
                · exact absurd c56 (by decide)
                refine lv_aload_n hx hb dX5_claimTax_59 rfl (lv_at hl 2 rfl) ?_
                refine cs_get F St 0 rfl rfl inX5 3 (by decide) kf_X5_21 rfl dX5_claimTax_60 ?_
                refine lv_iload hx hb dX5_claimTax_63 (lv_at hl 0 rfl) ?_
                refine lv_iconst (v := 1) hx hb dX5_claimTax_65 (by decide) ?_
                refine cs_zst F St 4 3 rfl rfl (vp_in_iff.mpr ⟨by omega, by omega⟩) (w' := [(zs, .inr (5, [.ref s0, .ref s1, .ref s2, .ref s3, .int sn, .long st])), (s0, .inl (sc0, 250, .inl l0)), (s1, .inl (sc1, 250, .inl l1)), (s2, .inl (sc2, 250, .inl l2)), (s3, .inl (sc3, 250, .inl (upd fq (kk : Int32).toNatClampNeg (vp_nar .boolean 1)))), (h, .inr (0, [.ref b0, .ref b1, .ref b2, .ref b3, .ref b4, .ref b5])), (b0, .inl (e0, 30, .inl f0)), (b1, .inl (e1, 30, .inl f1))]) rfl dX5_claimTax_66 (fun H locs St => ?_)
                obtain ⟨f_9, ef_9⟩ : ∃ zz : Nat → Int32, zz = upd fq (kk : Int32).toNatClampNeg (vp_nar .boolean 1) := ⟨_, rfl⟩
                rw [← ef_9] at St
                refine lv_lload_n hx hb dX5_claimTax_67 rfl (lv_at hl 1 rfl) ?_
                refine lv_aload_n hx hb dX5_claimTax_68 rfl (lv_at hl 2 rfl) ?_
                refine cs_get F St 0 rfl rfl inX5 1 (by decide) kf_X5_15 rfl dX5_claimTax_69 ?_
                refine lv_iload hx hb dX5_claimTax_72 (lv_at hl 0 rfl) ?_
                refine cs_ild F St 2 1 rfl rfl (vp_in_iff.mpr ⟨by omega, by omega⟩) dX5_claimTax_74 ?_
                refine lv_topi (fun y_10 ey_10 => ?_)
                refine lv_i2l (v := y_10.toInt64) hx hb dX5_claimTax_75 rfl ?_
                refine lv_iload_n hx hb dX5_claimTax_76 rfl (lv_at hl 3 rfl) ?_
                refine lv_i2l (v := x.toInt64) hx hb dX5_claimTax_77 rfl ?_
                refine lv_lmul hx hb dX5_claimTax_78 ?_
                refine lv_topl (fun y_11 ey_11 => ?_)
                refine lv_ldc2 (v := 100) hx hb F.2.2.2.1 (F.2.2.2.2 _ kk_X5_39) dX5_claimTax_79 ?_
                refine lv_ldiv hx hb dX5_claimTax_82 (by decide) ?_
                refine lv_topl (fun y_12 ey_12 => ?_)
                refine lv_ladd hx hb dX5_claimTax_83 ?_
                refine lv_topl (fun y_13 ey_13 => ?_)
                first | have jy_13 : y_13.toInt = tx.toInt + y_12.toInt := (by have q9 := cl_add (x := tx) (y := y_12) (u := tx.toInt) (v := y_12.toInt) rfl rfl ey_13; omega) | have jy_13 := cl_add (x := tx) (y := y_12) (u := tx.toInt) (v := y_12.toInt) rfl rfl ey_13
                refine lv_lstore_n (lv' := [(3, .long y_13), (5, .int kk), (0, .ref zs), (1, .int x), (2, .ref h)]) hx hb dX5_claimTax_84 rfl hl (by decide) rfl (fun ls hl => ?_)
                obtain ⟨y_14, ey_14⟩ : ∃ zz : Int32, zz = kk + 1 := ⟨_, rfl⟩
                first | have jy_14 : y_14.toInt = kk.toInt + 1 := (by have q9 := ci_add (x := kk) rfl (show (1 : Int32).toInt = 1 by decide) ey_14; omega) | have jy_14 := ci_add (x := kk) rfl (show (1 : Int32).toInt = 1 by decide) ey_14
                refine lv_iinc (v := y_14) (lv' := [(5, .int y_14), (3, .long y_13), (0, .ref zs), (1, .int x), (2, .ref h)]) hx hb dX5_claimTax_85 hl (k := 1) rfl (by rw [ey_14]; rfl) (by decide) rfl (fun ls hl => ?_)
                refine lv_goto (tgt := 11) hx hb dX5_claimTax_88 (by decide) ?_
                exact ih y_14 y_13 f_9 _ _ _ (by omega) (by omega) St (lv_sub hl [0, 1, 2, 3, 4] rfl)
              ·
                subst r_5
                have St : cS G k [(zs, .inr (5, [.ref s0, .ref s1, .ref s2, .ref s3, .int sn, .long st])), (s0, .inl (sc0, 250, .inl l0)), (s1, .inl (sc1, 250, .inl l1)), (s2, .inl (sc2, 250, .inl l2)), (s3, .inl (sc3, 250, .inl fq)), (h, .inr (0, [.ref b0, .ref b1, .ref b2, .ref b3, .ref b4, .ref b5])), (b0, .inl (e0, 30, .inl f0)), (b1, .inl (e1, 30, .inl f1))] [(sc0, .int), (sc1, .int), (sc2, .int), (sc3, .boolean), (e0, .int), (e1, .int)] A s H locs := St
                refine lv_if_eq (tgt := 85) hx hb dX5_claimTax_56 (by decide) (fun c56 => ?_) (fun c56 => ?_)
                rotate_left
                · exact absurd (by decide) c56
                obtain ⟨y_15, ey_15⟩ : ∃ zz : Int32, zz = kk + 1 := ⟨_, rfl⟩
                first | have jy_15 : y_15.toInt = kk.toInt + 1 := (by have q9 := ci_add (x := kk) rfl (show (1 : Int32).toInt = 1 by decide) ey_15; omega) | have jy_15 := ci_add (x := kk) rfl (show (1 : Int32).toInt = 1 by decide) ey_15
                refine lv_iinc (v := y_15) (lv' := [(5, .int y_15), (3, .long tx), (0, .ref zs), (1, .int x), (2, .ref h)]) hx hb dX5_claimTax_85 hl (k := 0) rfl (by rw [ey_15]; rfl) (by decide) rfl (fun ls hl => ?_)
                refine lv_goto (tgt := 11) hx hb dX5_claimTax_88 (by decide) ?_
                exact ih y_15 tx fq _ _ _ (by omega) (by omega) St (lv_sub hl [0, 1, 2, 3, 4] rfl)
    exact lp11 251 0 0 l3 _ _ _ (by omega) (by omega) St (lv_sub hl [0, 1, 2, 3, 4] rfl)
  ·
    have i1 := ci_eq (x := x) (y := 0) rfl (show (0 : Int32).toInt = 0 by decide) c1
    refine lv_iconst (v := 0) hx hb dX5_claimTax_4 (by decide) ?_
    exact cs_iret F hr hlk hQ St l3 (r := 0) (by trivial) [0, 1, 2, 3, 4, 5, 6, 7] rfl (by decide) [] rfl (by decide) (by decide) dX5_claimTax_5
set_option maxHeartbeats 4000000 in
set_option maxRecDepth 100000 in
theorem x0_orderStones (l : Launch) (G : va_G) (k : Nat → Nat) (sz : Nat) (h : Nat) (b0 : Nat) (b1 : Nat) (b2 : Nat) (b3 : Nat) (b4 : Nat) (b5 : Nat) (e2 : ClassId) (e4 : ClassId) (e5 : ClassId) (f2 : Nat → Int32) (f4 : Nat → Int32) (f5 : Nat → Int32) (zs : Nat) (s0 : Nat) (s1 : Nat) (s2 : Nat) (s3 : Nat) (sn : Int32) (st : Int64) (sc0 : ClassId) (sc1 : ClassId) (l0 : Nat → Int32) (l1 : Nat → Int32) (x : Int32) : Met l yX0_orderStones (Cond.code yX0_orderStones cX0_orderStones 8 (some .int) :: tb) ({ frames := 1, cells := 0, slots := 0, locals := 21 } : Room) (va_Pc [.ref h, .ref zs, .int x] (cP G k [(h, .inr (0, [.ref b0, .ref b1, .ref b2, .ref b3, .ref b4, .ref b5])), (b2, .inl (e2, 30, .inl f2)), (b4, .inl (e4, 30, .inl f4)), (b5, .inl (e5, 30, .inl f5)), (zs, .inr (5, [.ref s0, .ref s1, .ref s2, .ref s3, .int sn, .long st])), (s0, .inl (sc0, 250, .inl l0)), (s1, .inl (sc1, 250, .inl l1))] [(e2, .boolean), (e4, .int), (e5, .int), (sc0, .int), (sc1, .int)] sz)) (va_Qi (fun (r : Int32) (u : (Nat → Int32) × (Nat → Int32)) => match u with | (z4, z5) => (0 ≤ r.toInt ∧ r.toInt ≤ 30)) (cB G (fun u => match u with | (z4, z5) => [(h, .inr (0, [.ref b0, .ref b1, .ref b2, .ref b3, .ref b4, .ref b5])), (b2, .inl (e2, 30, .inl f2)), (b4, .inl (e4, 30, .inl z4)), (b5, .inl (e5, 30, .inl z5)), (zs, .inr (5, [.ref s0, .ref s1, .ref s2, .ref s3, .int sn, .long st])), (s0, .inl (sc0, 250, .inl l0)), (s1, .inl (sc1, 250, .inl l1))]) (fun u => match u with | (z4, z5) => []) (va_A [(h, .inr (0, [.ref b0, .ref b1, .ref b2, .ref b3, .ref b4, .ref b5])), (b2, .inl (e2, 30, .inl f2)), (b4, .inl (e4, 30, .inl f4)), (b5, .inl (e5, 30, .inl f5)), (zs, .inr (5, [.ref s0, .ref s1, .ref s2, .ref s3, .int sn, .long st])), (s0, .inl (sc0, 250, .inl l0)), (s1, .inl (sc1, 250, .inl l1))] sz)) (va_A [(h, .inr (0, [.ref b0, .ref b1, .ref b2, .ref b3, .ref b4, .ref b5])), (b2, .inl (e2, 30, .inl f2)), (b4, .inl (e4, 30, .inl f4)), (b5, .inl (e5, 30, .inl f5)), (zs, .inr (5, [.ref s0, .ref s1, .ref s2, .ref s3, .int sn, .long st])), (s0, .inl (sc0, 250, .inl l0)), (s1, .inl (sc1, 250, .inl l1))] sz)) 0 0 (va_A [(h, .inr (0, [.ref b0, .ref b1, .ref b2, .ref b3, .ref b4, .ref b5])), (b2, .inl (e2, 30, .inl f2)), (b4, .inl (e4, 30, .inl f4)), (b5, .inl (e5, 30, .inl f5)), (zs, .inr (5, [.ref s0, .ref s1, .ref s2, .ref s3, .int sn, .long st])), (s0, .inl (sc0, 250, .inl l0)), (s1, .inl (sc1, 250, .inl l1))] sz) := by
  refine ofC_i (cc := cX0_orderStones) (maxL := 8) (ret := (some .int)) (by decide) rfl (Nat.le_of_ble_eq_true rfl) ?_
  intro p e s m args below meth c A ls Q F hr hin hlk St hl hQ
  have hx := F.1
  have hb := F.2.1
  have hl : lv_has ls 8 [(0, .ref h), (1, .ref zs), (2, .int x)] := hl
  have St : cS G k [(h, .inr (0, [.ref b0, .ref b1, .ref b2, .ref b3, .ref b4, .ref b5])), (b2, .inl (e2, 30, .inl f2)), (b4, .inl (e4, 30, .inl f4)), (b5, .inl (e5, 30, .inl f5)), (zs, .inr (5, [.ref s0, .ref s1, .ref s2, .ref s3, .int sn, .long st])), (s0, .inl (sc0, 250, .inl l0)), (s1, .inl (sc1, 250, .inl l1))] [(e2, .boolean), (e4, .int), (e5, .int), (sc0, .int), (sc1, .int)] A s s.heap [] := St
  have y0 : (0 : Int32).toInt = 0 := by decide
  refine lv_iconst (v := 0) hx hb dX0_orderStones_0 (by decide) ?_
  refine lv_istore_n (lv' := [(3, .int 0), (0, .ref h), (1, .ref zs), (2, .int x)]) hx hb dX0_orderStones_1 rfl hl (by decide) rfl (fun ls hl => ?_)
  have lp2 : ∀ (n : Nat) (i : Int32) (fa : Nat → Int32) (H : Heap) (locs : List Loc) (ls : Array Slot), (0 ≤ i.toInt ∧ i.toInt ≤ 30) → ((30 - i.toInt).toNat) < n → cS G k [(h, .inr (0, [.ref b0, .ref b1, .ref b2, .ref b3, .ref b4, .ref b5])), (b2, .inl (e2, 30, .inl f2)), (b4, .inl (e4, 30, .inl fa)), (b5, .inl (e5, 30, .inl f5)), (zs, .inr (5, [.ref s0, .ref s1, .ref s2, .ref s3, .int sn, .long st])), (s0, .inl (sc0, 250, .inl l0)), (s1, .inl (sc1, 250, .inl l1))] [(e2, .boolean), (e4, .int), (e5, .int), (sc0, .int), (sc1, .int)] A s H locs → lv_has ls 8 [(3, .int i), (0, .ref h), (1, .ref zs), (2, .int x)] → W p l e ({ frames := 1, cells := 0, slots := 0, locals := 21 } : Room) s m args below meth c H locs 0 0 Q (F0 m 2 ls []) := by
    intro n
    induction n with
    | zero => intro i fa H locs ls hI hn; exact absurd hn (Nat.not_lt_zero _)
    | succ n ih =>
      intro i fa H locs ls hI hn St hl
      obtain ⟨hI0, hI1⟩ := hI
      refine lv_iload_n hx hb dX0_orderStones_2 rfl (lv_at hl 0 rfl) ?_
      refine lv_bipush (v := 30) hx hb dX0_orderStones_3 (by decide) ?_
      refine lv_icmp_ge (tgt := 21) hx hb dX0_orderStones_5 (by decide) (fun c5 => ?_) (fun c5 => ?_)
      ·
        have i5 := ci_le (x := 30) (y := i) (show (30 : Int32).toInt = 30 by decide) rfl c5
        refine lv_iconst (v := 0) hx hb dX0_orderStones_21 (by decide) ?_
        refine lv_istore_n (lv' := [(3, .int 0), (0, .ref h), (1, .ref zs), (2, .int x)]) hx hb dX0_orderStones_22 rfl hl (by decide) rfl (fun ls hl => ?_)
        refine lv_iconst (v := 0) hx hb dX0_orderStones_23 (by decide) ?_
        refine lv_istore (lv' := [(4, .int 0), (3, .int 0), (0, .ref h), (1, .ref zs), (2, .int x)]) hx hb dX0_orderStones_24 hl (by decide) rfl (fun ls hl => ?_)
        have lp26 : ∀ (n : Nat) (kk : Int32) (nn : Int32) (fa2 : Nat → Int32) (fb2 : Nat → Int32) (H : Heap) (locs : List Loc) (ls : Array Slot), (0 ≤ nn.toInt ∧ nn.toInt ≤ 30) → ((sn.toInt - kk.toInt).toNat) < n → cS G k [(h, .inr (0, [.ref b0, .ref b1, .ref b2, .ref b3, .ref b4, .ref b5])), (b2, .inl (e2, 30, .inl f2)), (b4, .inl (e4, 30, .inl fa2)), (b5, .inl (e5, 30, .inl fb2)), (zs, .inr (5, [.ref s0, .ref s1, .ref s2, .ref s3, .int sn, .long st])), (s0, .inl (sc0, 250, .inl l0)), (s1, .inl (sc1, 250, .inl l1))] [(e2, .boolean), (e4, .int), (e5, .int), (sc0, .int), (sc1, .int)] A s H locs → lv_has ls 8 [(4, .int kk), (3, .int nn), (0, .ref h), (1, .ref zs), (2, .int x)] → W p l e ({ frames := 1, cells := 0, slots := 0, locals := 21 } : Room) s m args below meth c H locs 0 0 Q (F0 m 26 ls []) := by
          intro n
          induction n with
          | zero => intro kk nn fa2 fb2 H locs ls hI hn; exact absurd hn (Nat.not_lt_zero _)
          | succ n ih26 =>
            intro kk nn fa2 fb2 H locs ls hI hn St hl
            have hI2 := hI
            have rgn := ci_rng sn
            refine lv_iload hx hb dX0_orderStones_26 (lv_at hl 0 rfl) ?_
            refine lv_aload_n hx hb dX0_orderStones_28 rfl (lv_at hl 3 rfl) ?_
            refine cs_i St [4] [0, 1, 2, 3, 5, 6] (wc := [(zs, .inr (5, [.ref s0, .ref s1, .ref s2, .ref s3, .int sn, .long st]))]) (wr := [(h, .inr (0, [.ref b0, .ref b1, .ref b2, .ref b3, .ref b4, .ref b5])), (b2, .inl (e2, 30, .inl f2)), (b4, .inl (e4, 30, .inl fa2)), (b5, .inl (e5, 30, .inl fb2)), (s0, .inl (sc0, 250, .inl l0)), (s1, .inl (sc1, 250, .inl l1))]) rfl rfl (by decide) (by decide) (va_runV (As := []) (rest := [.int kk]) F (x5_size l G k _ zs s0 s1 s2 s3 sn st) (cwVt F mf_X5_size km_X0_35 rfl rfl ⟨Nat.le_of_ble_eq_true rfl, Nat.le_of_ble_eq_true rfl⟩) (cs_preV St [4] rfl (by decide) [] rfl (ci := 5) (q0 := 4) rfl rfl) rfl rfl hl.1 rfl (lv_room (Nat.le_of_ble_eq_true rfl)) dX0_orderStones_29 ⟨Nat.le_of_ble_eq_true rfl, Nat.le_of_ble_eq_true rfl⟩) (fun r_1 u_2 H locs hw St => ?_)
            try dsimp only at hw
            have z_3 := hw
            subst r_1
            have St : cS G k [(h, .inr (0, [.ref b0, .ref b1, .ref b2, .ref b3, .ref b4, .ref b5])), (b2, .inl (e2, 30, .inl f2)), (b4, .inl (e4, 30, .inl fa2)), (b5, .inl (e5, 30, .inl fb2)), (s0, .inl (sc0, 250, .inl l0)), (s1, .inl (sc1, 250, .inl l1)), (zs, .inr (5, [.ref s0, .ref s1, .ref s2, .ref s3, .int sn, .long st]))] [(e2, .boolean), (e4, .int), (e5, .int), (sc0, .int), (sc1, .int)] A s H locs := St
            refine lv_icmp_ge (tgt := 146) hx hb dX0_orderStones_32 (by decide) (fun c32 => ?_) (fun c32 => ?_)
            ·
              have i32 := ci_le (x := sn) (y := kk) rfl rfl c32
              refine lv_iload_n hx hb dX0_orderStones_146 rfl (lv_at hl 1 rfl) ?_
              exact cs_iret F hr hlk hQ St (fa2, fb2) (r := nn) hI2 [0, 1, 2, 3, 6, 4, 5] rfl (by decide) [] rfl (by decide) (by decide) dX0_orderStones_147
            ·
              have i32 := ci_nle (x := sn) (y := kk) rfl rfl c32
              refine lv_aload_n hx hb dX0_orderStones_35 rfl (lv_at hl 3 rfl) ?_
              refine lv_iload hx hb dX0_orderStones_36 (lv_at hl 0 rfl) ?_
              refine cs_i St [6, 4] [0, 1, 2, 3, 5] (wc := [(zs, .inr (5, [.ref s0, .ref s1, .ref s2, .ref s3, .int sn, .long st])), (s0, .inl (sc0, 250, .inl l0))]) (wr := [(h, .inr (0, [.ref b0, .ref b1, .ref b2, .ref b3, .ref b4, .ref b5])), (b2, .inl (e2, 30, .inl f2)), (b4, .inl (e4, 30, .inl fa2)), (b5, .inl (e5, 30, .inl fb2)), (s1, .inl (sc1, 250, .inl l1))]) rfl rfl (by decide) (by decide) (va_runV (As := [.int kk]) (rest := []) F (x5_giverOf l G k _ zs s0 s1 s2 s3 sn st sc0 l0 kk) (cwVt F mf_X5_giverOf km_X0_41 rfl rfl ⟨Nat.le_of_ble_eq_true rfl, Nat.le_of_ble_eq_true rfl⟩) (cs_preV St [6, 4] rfl (by decide) [3] rfl (ci := 5) (q0 := 6) rfl rfl) rfl rfl hl.1 rfl (lv_room (Nat.le_of_ble_eq_true rfl)) dX0_orderStones_38 ⟨Nat.le_of_ble_eq_true rfl, Nat.le_of_ble_eq_true rfl⟩) (fun r_4 u_5 H locs hw St => ?_)
              try dsimp only at hw
              have St : cS G k [(h, .inr (0, [.ref b0, .ref b1, .ref b2, .ref b3, .ref b4, .ref b5])), (b2, .inl (e2, 30, .inl f2)), (b4, .inl (e4, 30, .inl fa2)), (b5, .inl (e5, 30, .inl fb2)), (s1, .inl (sc1, 250, .inl l1)), (zs, .inr (5, [.ref s0, .ref s1, .ref s2, .ref s3, .int sn, .long st])), (s0, .inl (sc0, 250, .inl l0))] [(e2, .boolean), (e4, .int), (e5, .int), (sc0, .int), (sc1, .int)] A s H locs := St
              refine lv_istore (lv' := [(5, .int r_4), (4, .int kk), (3, .int nn), (0, .ref h), (1, .ref zs), (2, .int x)]) hx hb dX0_orderStones_41 hl (by decide) rfl (fun ls hl => ?_)
              refine lv_iload hx hb dX0_orderStones_43 (lv_at hl 0 rfl) ?_
              refine cs_i St [] [0, 1, 2, 3, 4, 5, 6] (wc := []) (wr := [(h, .inr (0, [.ref b0, .ref b1, .ref b2, .ref b3, .ref b4, .ref b5])), (b2, .inl (e2, 30, .inl f2)), (b4, .inl (e4, 30, .inl fa2)), (b5, .inl (e5, 30, .inl fb2)), (s1, .inl (sc1, 250, .inl l1)), (zs, .inr (5, [.ref s0, .ref s1, .ref s2, .ref s3, .int sn, .long st])), (s0, .inl (sc0, 250, .inl l0))]) rfl rfl (by decide) (by decide) (va_runSN (As := [.int r_4]) (rest := []) F (x10_isGiver l G k _ r_4) (cwSNt F mf_X10_isGiver St.2.2.2.2.2.1.2.2.2.2.2.2.1 rfl rfl ⟨Nat.le_of_ble_eq_true rfl, Nat.le_of_ble_eq_true rfl⟩) (cs_pre St [] rfl (by decide) [] rfl) rfl rfl hl.1 rfl (lv_room (Nat.le_of_ble_eq_true rfl)) dX0_orderStones_45 ⟨Nat.le_of_ble_eq_true rfl, Nat.le_of_ble_eq_true rfl⟩) (fun r_6 u_7 H locs hw St => ?_)
              try dsimp only at hw
              rcases hw with ⟨z_8, hf_9⟩ | ⟨z_10, hf_11⟩
              ·
                subst r_6
                have St : cS G k [(h, .inr (0, [.ref b0, .ref b1, .ref b2, .ref b3, .ref b4, .ref b5])), (b2, .inl (e2, 30, .inl f2)), (b4, .inl (e4, 30, .inl fa2)), (b5, .inl (e5, 30, .inl fb2)), (s1, .inl (sc1, 250, .inl l1)), (zs, .inr (5, [.ref s0, .ref s1, .ref s2, .ref s3, .int sn, .long st])), (s0, .inl (sc0, 250, .inl l0))] [(e2, .boolean), (e4, .int), (e5, .int), (sc0, .int), (sc1, .int)] A s H locs := St
                refine lv_if_eq (tgt := 140) hx hb dX0_orderStones_48 (by decide) (fun c48 => ?_) (fun c48 => ?_)
                · exact absurd c48 (by decide)
                refine lv_aload_n hx hb dX0_orderStones_51 rfl (lv_at hl 3 rfl) ?_
                refine cs_get F St 0 rfl rfl inX0 4 (by decide) kf_X0_25 rfl dX0_orderStones_52 ?_
                refine lv_iload hx hb dX0_orderStones_55 (lv_at hl 0 rfl) ?_
                refine cs_ild F St 2 1 rfl rfl (vp_in_iff.mpr ⟨by omega, by omega⟩) dX0_orderStones_57 ?_
                refine lv_topi (fun y_12 ey_12 => ?_)
                refine lv_iload_n hx hb dX0_orderStones_58 rfl (lv_at hl 5 rfl) ?_
                refine lv_icmp_lt (tgt := 66) hx hb dX0_orderStones_59 (by decide) (fun c59 => ?_) (fun c59 => ?_)
                ·
                  have i59 := ci_lt (x := y_12) (y := x) rfl rfl c59
                  refine lv_iconst (v := 0) hx hb dX0_orderStones_66 (by decide) ?_
                  refine lv_istore (lv' := [(6, .int 0), (5, .int r_4), (4, .int kk), (3, .int nn), (0, .ref h), (1, .ref zs), (2, .int x)]) hx hb dX0_orderStones_67 hl (by decide) rfl (fun ls hl => ?_)
                  refine lv_aload_n hx hb dX0_orderStones_69 rfl (lv_at hl 4 rfl) ?_
                  refine cs_get F St 0 rfl rfl inX0 4 (by decide) kf_X0_25 rfl dX0_orderStones_70 ?_
                  refine lv_iload hx hb dX0_orderStones_73 (lv_at hl 1 rfl) ?_
                  refine lv_dup2_11 hx hb dX0_orderStones_75 rfl rfl ?_
                  refine cs_ild F St 2 1 rfl rfl (vp_in_iff.mpr ⟨by omega, by omega⟩) dX0_orderStones_76 ?_
                  refine lv_topi (fun y_13 ey_13 => ?_)
                  refine lv_aload_n hx hb dX0_orderStones_77 rfl (lv_at hl 5 rfl) ?_
                  refine lv_iload hx hb dX0_orderStones_78 (lv_at hl 2 rfl) ?_
                  refine cs_i St [5, 4] [0, 1, 2, 3, 6] (wc := [(zs, .inr (5, [.ref s0, .ref s1, .ref s2, .ref s3, .int sn, .long st])), (s1, .inl (sc1, 250, .inl l1))]) (wr := [(h, .inr (0, [.ref b0, .ref b1, .ref b2, .ref b3, .ref b4, .ref b5])), (b2, .inl (e2, 30, .inl f2)), (b4, .inl (e4, 30, .inl fa2)), (b5, .inl (e5, 30, .inl fb2)), (s0, .inl (sc0, 250, .inl l0))]) rfl rfl (by decide) (by decide) (va_runV (As := [.int kk]) (rest := [.int y_13, .int r_4, .ref b4]) F (x5_penceOf l G k _ zs s0 s1 s2 s3 sn st sc1 l1 kk) (cwVt F mf_X5_penceOf km_X0_45 rfl rfl ⟨Nat.le_of_ble_eq_true rfl, Nat.le_of_ble_eq_true rfl⟩) (cs_preV St [5, 4] rfl (by decide) [4] rfl (ci := 5) (q0 := 5) rfl rfl) rfl rfl hl.1 rfl (lv_room (Nat.le_of_ble_eq_true rfl)) dX0_orderStones_80 ⟨Nat.le_of_ble_eq_true rfl, Nat.le_of_ble_eq_true rfl⟩) (fun r_14 u_15 H locs hw St => ?_)
                  try dsimp only at hw
                  have St : cS G k [(h, .inr (0, [.ref b0, .ref b1, .ref b2, .ref b3, .ref b4, .ref b5])), (b2, .inl (e2, 30, .inl f2)), (b4, .inl (e4, 30, .inl fa2)), (b5, .inl (e5, 30, .inl fb2)), (s0, .inl (sc0, 250, .inl l0)), (zs, .inr (5, [.ref s0, .ref s1, .ref s2, .ref s3, .int sn, .long st])), (s1, .inl (sc1, 250, .inl l1))] [(e2, .boolean), (e4, .int), (e5, .int), (sc0, .int), (sc1, .int)] A s H locs := St
                  refine lv_iadd hx hb dX0_orderStones_83 ?_
                  refine lv_topi (fun y_16 ey_16 => ?_)
                  first | have jy_16 : y_16.toInt = y_13.toInt + r_14.toInt := (by have q9 := ci_add (x := y_13) (y := r_14) rfl rfl ey_16; omega) | have jy_16 := ci_add (x := y_13) (y := r_14) rfl rfl ey_16
                  refine cs_ist F St 2 1 rfl rfl (vp_in_iff.mpr ⟨by omega, by omega⟩) (w' := [(h, .inr (0, [.ref b0, .ref b1, .ref b2, .ref b3, .ref b4, .ref b5])), (b2, .inl (e2, 30, .inl f2)), (b4, .inl (e4, 30, .inl (upd fa2 (r_4 : Int32).toNatClampNeg y_16))), (b5, .inl (e5, 30, .inl fb2)), (s0, .inl (sc0, 250, .inl l0)), (zs, .inr (5, [.ref s0, .ref s1, .ref s2, .ref s3, .int sn, .long st])), (s1, .inl (sc1, 250, .inl l1))]) rfl dX0_orderStones_84 (fun H locs St => ?_)
                  obtain ⟨f_17, ef_17⟩ : ∃ zz : Nat → Int32, zz = upd fa2 (r_4 : Int32).toNatClampNeg y_16 := ⟨_, rfl⟩
                  rw [← ef_17] at St
                  refine lv_iload hx hb dX0_orderStones_85 (lv_at hl 0 rfl) ?_
                  refine lv_if_ne (tgt := 105) hx hb dX0_orderStones_87 (by decide) (fun c87 => ?_) (fun c87 => ?_)
                  · exact absurd c87 (by decide)
                  refine lv_aload_n hx hb dX0_orderStones_90 rfl (lv_at hl 4 rfl) ?_
                  refine cs_get F St 0 rfl rfl inX0 4 (by decide) kf_X0_25 rfl dX0_orderStones_91 ?_
                  refine lv_iload hx hb dX0_orderStones_94 (lv_at hl 1 rfl) ?_
                  refine cs_ild F St 2 1 rfl rfl (vp_in_iff.mpr ⟨by omega, by omega⟩) dX0_orderStones_96 ?_
                  refine lv_topi (fun y_18 ey_18 => ?_)
                  refine lv_iload_n hx hb dX0_orderStones_97 rfl (lv_at hl 6 rfl) ?_
                  refine lv_icmp_lt (tgt := 105) hx hb dX0_orderStones_98 (by decide) (fun c98 => ?_) (fun c98 => ?_)
                  ·
                    have i98 := ci_lt (x := y_18) (y := x) rfl rfl c98
                    refine lv_iconst (v := 0) hx hb dX0_orderStones_105 (by decide) ?_
                    refine lv_istore (lv' := [(7, .int 0), (6, .int 0), (5, .int r_4), (4, .int kk), (3, .int nn), (0, .ref h), (1, .ref zs), (2, .int x)]) hx hb dX0_orderStones_106 hl (by decide) rfl (fun ls hl => ?_)
                    refine lv_iload hx hb dX0_orderStones_108 (lv_at hl 0 rfl) ?_
                    refine lv_if_eq (tgt := 140) hx hb dX0_orderStones_110 (by decide) (fun c110 => ?_) (fun c110 => ?_)
                    rotate_left
                    · exact absurd (by decide) c110
                    obtain ⟨y_19, ey_19⟩ : ∃ zz : Int32, zz = kk + 1 := ⟨_, rfl⟩
                    first | have jy_19 : y_19.toInt = kk.toInt + 1 := (by have q9 := ci_add (x := kk) rfl (show (1 : Int32).toInt = 1 by decide) ey_19; omega) | have jy_19 := ci_add (x := kk) rfl (show (1 : Int32).toInt = 1 by decide) ey_19
                    refine lv_iinc (v := y_19) (lv' := [(4, .int y_19), (7, .int 0), (6, .int 0), (5, .int r_4), (3, .int nn), (0, .ref h), (1, .ref zs), (2, .int x)]) hx hb dX0_orderStones_140 hl (k := 3) rfl (by rw [ey_19]; rfl) (by decide) rfl (fun ls hl => ?_)
                    refine lv_goto (tgt := 26) hx hb dX0_orderStones_143 (by decide) ?_
                    exact ih26 y_19 nn f_17 fb2 _ _ _ ⟨by omega, by omega⟩ (by omega) (cs_pick St [0, 1, 2, 3, 5, 4, 6] rfl (by decide) [0, 1, 2, 3, 4] rfl) (lv_sub hl [0, 4, 5, 6, 7] rfl)
                  ·
                    have i98 := ci_nlt (x := y_18) (y := x) rfl rfl c98
                    refine lv_iconst (v := 1) hx hb dX0_orderStones_101 (by decide) ?_
                    refine lv_goto (tgt := 106) hx hb dX0_orderStones_102 (by decide) ?_
                    refine lv_istore (lv' := [(7, .int 1), (6, .int 0), (5, .int r_4), (4, .int kk), (3, .int nn), (0, .ref h), (1, .ref zs), (2, .int x)]) hx hb dX0_orderStones_106 hl (by decide) rfl (fun ls hl => ?_)
                    refine lv_iload hx hb dX0_orderStones_108 (lv_at hl 0 rfl) ?_
                    refine lv_if_eq (tgt := 140) hx hb dX0_orderStones_110 (by decide) (fun c110 => ?_) (fun c110 => ?_)
                    · exact absurd c110 (by decide)
                    refine lv_aload_n hx hb dX0_orderStones_113 rfl (lv_at hl 5 rfl) ?_
                    refine cs_get F St 0 rfl rfl inX0 2 (by decide) kf_X0_18 rfl dX0_orderStones_114 ?_
                    refine lv_iload hx hb dX0_orderStones_117 (lv_at hl 2 rfl) ?_
                    refine cs_zld F St 1 0 rfl rfl (vp_in_iff.mpr ⟨by omega, by omega⟩) dX0_orderStones_119 ?_
                    refine lv_topi (fun y_20 ey_20 => ?_)
                    refine lv_if_ne (tgt := 140) hx hb dX0_orderStones_120 (by decide) (fun c120 => ?_) (fun c120 => ?_)
                    ·
                      have i120 := ci_ne (x := y_20) (y := 0) rfl (show (0 : Int32).toInt = 0 by decide) c120
                      obtain ⟨y_21, ey_21⟩ : ∃ zz : Int32, zz = kk + 1 := ⟨_, rfl⟩
                      first | have jy_21 : y_21.toInt = kk.toInt + 1 := (by have q9 := ci_add (x := kk) rfl (show (1 : Int32).toInt = 1 by decide) ey_21; omega) | have jy_21 := ci_add (x := kk) rfl (show (1 : Int32).toInt = 1 by decide) ey_21
                      refine lv_iinc (v := y_21) (lv' := [(4, .int y_21), (7, .int 1), (6, .int 0), (5, .int r_4), (3, .int nn), (0, .ref h), (1, .ref zs), (2, .int x)]) hx hb dX0_orderStones_140 hl (k := 3) rfl (by rw [ey_21]; rfl) (by decide) rfl (fun ls hl => ?_)
                      refine lv_goto (tgt := 26) hx hb dX0_orderStones_143 (by decide) ?_
                      exact ih26 y_21 nn f_17 fb2 _ _ _ ⟨by omega, by omega⟩ (by omega) (cs_pick St [0, 1, 2, 3, 5, 4, 6] rfl (by decide) [0, 1, 2, 3, 4] rfl) (lv_sub hl [0, 4, 5, 6, 7] rfl)
                    ·
                      have i120 := ci_eq (x := y_20) (y := 0) rfl (show (0 : Int32).toInt = 0 by decide) c120
                      refine lv_iload_n hx hb dX0_orderStones_123 rfl (lv_at hl 4 rfl) ?_
                      refine lv_bipush (v := 30) hx hb dX0_orderStones_124 (by decide) ?_
                      refine lv_icmp_ge (tgt := 140) hx hb dX0_orderStones_126 (by decide) (fun c126 => ?_) (fun c126 => ?_)
                      ·
                        have i126 := ci_le (x := 30) (y := nn) (show (30 : Int32).toInt = 30 by decide) rfl c126
                        obtain ⟨y_22, ey_22⟩ : ∃ zz : Int32, zz = kk + 1 := ⟨_, rfl⟩
                        first | have jy_22 : y_22.toInt = kk.toInt + 1 := (by have q9 := ci_add (x := kk) rfl (show (1 : Int32).toInt = 1 by decide) ey_22; omega) | have jy_22 := ci_add (x := kk) rfl (show (1 : Int32).toInt = 1 by decide) ey_22
                        refine lv_iinc (v := y_22) (lv' := [(4, .int y_22), (7, .int 1), (6, .int 0), (5, .int r_4), (3, .int nn), (0, .ref h), (1, .ref zs), (2, .int x)]) hx hb dX0_orderStones_140 hl (k := 3) rfl (by rw [ey_22]; rfl) (by decide) rfl (fun ls hl => ?_)
                        refine lv_goto (tgt := 26) hx hb dX0_orderStones_143 (by decide) ?_
                        exact ih26 y_22 nn f_17 fb2 _ _ _ ⟨by omega, by omega⟩ (by omega) (cs_pick St [0, 1, 2, 3, 5, 4, 6] rfl (by decide) [0, 1, 2, 3, 4] rfl) (lv_sub hl [0, 4, 5, 6, 7] rfl)
                      ·
                        have i126 := ci_nle (x := 30) (y := nn) (show (30 : Int32).toInt = 30 by decide) rfl c126
                        refine lv_aload_n hx hb dX0_orderStones_129 rfl (lv_at hl 5 rfl) ?_
                        refine cs_get F St 0 rfl rfl inX0 5 (by decide) kf_X0_28 rfl dX0_orderStones_130 ?_
                        refine lv_iload_n hx hb dX0_orderStones_133 rfl (lv_at hl 4 rfl) ?_
                        refine lv_iload hx hb dX0_orderStones_134 (lv_at hl 2 rfl) ?_
                        refine cs_ist F St 3 2 rfl rfl (vp_in_iff.mpr ⟨by omega, by omega⟩) (w' := [(h, .inr (0, [.ref b0, .ref b1, .ref b2, .ref b3, .ref b4, .ref b5])), (b2, .inl (e2, 30, .inl f2)), (b4, .inl (e4, 30, .inl f_17)), (b5, .inl (e5, 30, .inl (upd fb2 (nn : Int32).toNatClampNeg r_4))), (s0, .inl (sc0, 250, .inl l0)), (zs, .inr (5, [.ref s0, .ref s1, .ref s2, .ref s3, .int sn, .long st])), (s1, .inl (sc1, 250, .inl l1))]) rfl dX0_orderStones_136 (fun H locs St => ?_)
                        obtain ⟨f_23, ef_23⟩ : ∃ zz : Nat → Int32, zz = upd fb2 (nn : Int32).toNatClampNeg r_4 := ⟨_, rfl⟩
                        rw [← ef_23] at St
                        obtain ⟨y_24, ey_24⟩ : ∃ zz : Int32, zz = nn + 1 := ⟨_, rfl⟩
                        first | have jy_24 : y_24.toInt = nn.toInt + 1 := (by have q9 := ci_add (x := nn) rfl (show (1 : Int32).toInt = 1 by decide) ey_24; omega) | have jy_24 := ci_add (x := nn) rfl (show (1 : Int32).toInt = 1 by decide) ey_24
                        refine lv_iinc (v := y_24) (lv' := [(3, .int y_24), (7, .int 1), (6, .int 0), (5, .int r_4), (4, .int kk), (0, .ref h), (1, .ref zs), (2, .int x)]) hx hb dX0_orderStones_137 hl (k := 4) rfl (by rw [ey_24]; rfl) (by decide) rfl (fun ls hl => ?_)
                        obtain ⟨y_25, ey_25⟩ : ∃ zz : Int32, zz = kk + 1 := ⟨_, rfl⟩
                        first | have jy_25 : y_25.toInt = kk.toInt + 1 := (by have q9 := ci_add (x := kk) rfl (show (1 : Int32).toInt = 1 by decide) ey_25; omega) | have jy_25 := ci_add (x := kk) rfl (show (1 : Int32).toInt = 1 by decide) ey_25
                        refine lv_iinc (v := y_25) (lv' := [(4, .int y_25), (3, .int y_24), (7, .int 1), (6, .int 0), (5, .int r_4), (0, .ref h), (1, .ref zs), (2, .int x)]) hx hb dX0_orderStones_140 hl (k := 4) rfl (by rw [ey_25]; rfl) (by decide) rfl (fun ls hl => ?_)
                        refine lv_goto (tgt := 26) hx hb dX0_orderStones_143 (by decide) ?_
                        exact ih26 y_25 y_24 f_17 f_23 _ _ _ ⟨by omega, by omega⟩ (by omega) (cs_pick St [0, 1, 2, 3, 5, 4, 6] rfl (by decide) [0, 1, 2, 3, 4] rfl) (lv_sub hl [0, 1, 5, 6, 7] rfl)
                ·
                  have i59 := ci_nlt (x := y_12) (y := x) rfl rfl c59
                  refine lv_iconst (v := 1) hx hb dX0_orderStones_62 (by decide) ?_
                  refine lv_goto (tgt := 67) hx hb dX0_orderStones_63 (by decide) ?_
                  refine lv_istore (lv' := [(6, .int 1), (5, .int r_4), (4, .int kk), (3, .int nn), (0, .ref h), (1, .ref zs), (2, .int x)]) hx hb dX0_orderStones_67 hl (by decide) rfl (fun ls hl => ?_)
                  refine lv_aload_n hx hb dX0_orderStones_69 rfl (lv_at hl 4 rfl) ?_
                  refine cs_get F St 0 rfl rfl inX0 4 (by decide) kf_X0_25 rfl dX0_orderStones_70 ?_
                  refine lv_iload hx hb dX0_orderStones_73 (lv_at hl 1 rfl) ?_
                  refine lv_dup2_11 hx hb dX0_orderStones_75 rfl rfl ?_
                  refine cs_ild F St 2 1 rfl rfl (vp_in_iff.mpr ⟨by omega, by omega⟩) dX0_orderStones_76 ?_
                  refine lv_topi (fun y_26 ey_26 => ?_)
                  refine lv_aload_n hx hb dX0_orderStones_77 rfl (lv_at hl 5 rfl) ?_
                  refine lv_iload hx hb dX0_orderStones_78 (lv_at hl 2 rfl) ?_
                  refine cs_i St [5, 4] [0, 1, 2, 3, 6] (wc := [(zs, .inr (5, [.ref s0, .ref s1, .ref s2, .ref s3, .int sn, .long st])), (s1, .inl (sc1, 250, .inl l1))]) (wr := [(h, .inr (0, [.ref b0, .ref b1, .ref b2, .ref b3, .ref b4, .ref b5])), (b2, .inl (e2, 30, .inl f2)), (b4, .inl (e4, 30, .inl fa2)), (b5, .inl (e5, 30, .inl fb2)), (s0, .inl (sc0, 250, .inl l0))]) rfl rfl (by decide) (by decide) (va_runV (As := [.int kk]) (rest := [.int y_26, .int r_4, .ref b4]) F (x5_penceOf l G k _ zs s0 s1 s2 s3 sn st sc1 l1 kk) (cwVt F mf_X5_penceOf km_X0_45 rfl rfl ⟨Nat.le_of_ble_eq_true rfl, Nat.le_of_ble_eq_true rfl⟩) (cs_preV St [5, 4] rfl (by decide) [4] rfl (ci := 5) (q0 := 5) rfl rfl) rfl rfl hl.1 rfl (lv_room (Nat.le_of_ble_eq_true rfl)) dX0_orderStones_80 ⟨Nat.le_of_ble_eq_true rfl, Nat.le_of_ble_eq_true rfl⟩) (fun r_27 u_28 H locs hw St => ?_)
                  try dsimp only at hw
                  have St : cS G k [(h, .inr (0, [.ref b0, .ref b1, .ref b2, .ref b3, .ref b4, .ref b5])), (b2, .inl (e2, 30, .inl f2)), (b4, .inl (e4, 30, .inl fa2)), (b5, .inl (e5, 30, .inl fb2)), (s0, .inl (sc0, 250, .inl l0)), (zs, .inr (5, [.ref s0, .ref s1, .ref s2, .ref s3, .int sn, .long st])), (s1, .inl (sc1, 250, .inl l1))] [(e2, .boolean), (e4, .int), (e5, .int), (sc0, .int), (sc1, .int)] A s H locs := St
                  refine lv_iadd hx hb dX0_orderStones_83 ?_
                  refine lv_topi (fun y_29 ey_29 => ?_)
                  first | have jy_29 : y_29.toInt = y_26.toInt + r_27.toInt := (by have q9 := ci_add (x := y_26) (y := r_27) rfl rfl ey_29; omega) | have jy_29 := ci_add (x := y_26) (y := r_27) rfl rfl ey_29
                  refine cs_ist F St 2 1 rfl rfl (vp_in_iff.mpr ⟨by omega, by omega⟩) (w' := [(h, .inr (0, [.ref b0, .ref b1, .ref b2, .ref b3, .ref b4, .ref b5])), (b2, .inl (e2, 30, .inl f2)), (b4, .inl (e4, 30, .inl (upd fa2 (r_4 : Int32).toNatClampNeg y_29))), (b5, .inl (e5, 30, .inl fb2)), (s0, .inl (sc0, 250, .inl l0)), (zs, .inr (5, [.ref s0, .ref s1, .ref s2, .ref s3, .int sn, .long st])), (s1, .inl (sc1, 250, .inl l1))]) rfl dX0_orderStones_84 (fun H locs St => ?_)
                  obtain ⟨f_30, ef_30⟩ : ∃ zz : Nat → Int32, zz = upd fa2 (r_4 : Int32).toNatClampNeg y_29 := ⟨_, rfl⟩
                  rw [← ef_30] at St
                  refine lv_iload hx hb dX0_orderStones_85 (lv_at hl 0 rfl) ?_
                  refine lv_if_ne (tgt := 105) hx hb dX0_orderStones_87 (by decide) (fun c87 => ?_) (fun c87 => ?_)
                  rotate_left
                  · exact absurd c87 (by decide)
                  refine lv_iconst (v := 0) hx hb dX0_orderStones_105 (by decide) ?_
                  refine lv_istore (lv' := [(7, .int 0), (6, .int 1), (5, .int r_4), (4, .int kk), (3, .int nn), (0, .ref h), (1, .ref zs), (2, .int x)]) hx hb dX0_orderStones_106 hl (by decide) rfl (fun ls hl => ?_)
                  refine lv_iload hx hb dX0_orderStones_108 (lv_at hl 0 rfl) ?_
                  refine lv_if_eq (tgt := 140) hx hb dX0_orderStones_110 (by decide) (fun c110 => ?_) (fun c110 => ?_)
                  rotate_left
                  · exact absurd (by decide) c110
                  obtain ⟨y_31, ey_31⟩ : ∃ zz : Int32, zz = kk + 1 := ⟨_, rfl⟩
                  first | have jy_31 : y_31.toInt = kk.toInt + 1 := (by have q9 := ci_add (x := kk) rfl (show (1 : Int32).toInt = 1 by decide) ey_31; omega) | have jy_31 := ci_add (x := kk) rfl (show (1 : Int32).toInt = 1 by decide) ey_31
                  refine lv_iinc (v := y_31) (lv' := [(4, .int y_31), (7, .int 0), (6, .int 1), (5, .int r_4), (3, .int nn), (0, .ref h), (1, .ref zs), (2, .int x)]) hx hb dX0_orderStones_140 hl (k := 3) rfl (by rw [ey_31]; rfl) (by decide) rfl (fun ls hl => ?_)
                  refine lv_goto (tgt := 26) hx hb dX0_orderStones_143 (by decide) ?_
                  exact ih26 y_31 nn f_30 fb2 _ _ _ ⟨by omega, by omega⟩ (by omega) (cs_pick St [0, 1, 2, 3, 5, 4, 6] rfl (by decide) [0, 1, 2, 3, 4] rfl) (lv_sub hl [0, 4, 5, 6, 7] rfl)
              ·
                subst r_6
                have St : cS G k [(h, .inr (0, [.ref b0, .ref b1, .ref b2, .ref b3, .ref b4, .ref b5])), (b2, .inl (e2, 30, .inl f2)), (b4, .inl (e4, 30, .inl fa2)), (b5, .inl (e5, 30, .inl fb2)), (s1, .inl (sc1, 250, .inl l1)), (zs, .inr (5, [.ref s0, .ref s1, .ref s2, .ref s3, .int sn, .long st])), (s0, .inl (sc0, 250, .inl l0))] [(e2, .boolean), (e4, .int), (e5, .int), (sc0, .int), (sc1, .int)] A s H locs := St
                refine lv_if_eq (tgt := 140) hx hb dX0_orderStones_48 (by decide) (fun c48 => ?_) (fun c48 => ?_)
                rotate_left
                · exact absurd (by decide) c48
                obtain ⟨y_32, ey_32⟩ : ∃ zz : Int32, zz = kk + 1 := ⟨_, rfl⟩
                first | have jy_32 : y_32.toInt = kk.toInt + 1 := (by have q9 := ci_add (x := kk) rfl (show (1 : Int32).toInt = 1 by decide) ey_32; omega) | have jy_32 := ci_add (x := kk) rfl (show (1 : Int32).toInt = 1 by decide) ey_32
                refine lv_iinc (v := y_32) (lv' := [(4, .int y_32), (5, .int r_4), (3, .int nn), (0, .ref h), (1, .ref zs), (2, .int x)]) hx hb dX0_orderStones_140 hl (k := 1) rfl (by rw [ey_32]; rfl) (by decide) rfl (fun ls hl => ?_)
                refine lv_goto (tgt := 26) hx hb dX0_orderStones_143 (by decide) ?_
                exact ih26 y_32 nn fa2 fb2 _ _ _ ⟨by omega, by omega⟩ (by omega) (cs_pick St [0, 1, 2, 3, 5, 6, 4] rfl (by decide) [0, 1, 2, 3, 4] rfl) (lv_sub hl [0, 2, 3, 4, 5] rfl)
        exact lp26 ((sn.toInt - (0 : Int32).toInt).toNat + 1) 0 0 fa f5 _ _ _ ⟨by omega, by omega⟩ (by omega) St (lv_sub hl [0, 1, 2, 3, 4] rfl)
      ·
        have i5 := ci_nle (x := 30) (y := i) (show (30 : Int32).toInt = 30 by decide) rfl c5
        refine lv_aload_n hx hb dX0_orderStones_8 rfl (lv_at hl 1 rfl) ?_
        refine cs_get F St 0 rfl rfl inX0 4 (by decide) kf_X0_25 rfl dX0_orderStones_9 ?_
        refine lv_iload_n hx hb dX0_orderStones_12 rfl (lv_at hl 0 rfl) ?_
        refine lv_iconst (v := 0) hx hb dX0_orderStones_13 (by decide) ?_
        refine cs_ist F St 2 1 rfl rfl (vp_in_iff.mpr ⟨by omega, by omega⟩) (w' := [(h, .inr (0, [.ref b0, .ref b1, .ref b2, .ref b3, .ref b4, .ref b5])), (b2, .inl (e2, 30, .inl f2)), (b4, .inl (e4, 30, .inl (upd fa (i : Int32).toNatClampNeg 0))), (b5, .inl (e5, 30, .inl f5)), (zs, .inr (5, [.ref s0, .ref s1, .ref s2, .ref s3, .int sn, .long st])), (s0, .inl (sc0, 250, .inl l0)), (s1, .inl (sc1, 250, .inl l1))]) rfl dX0_orderStones_14 (fun H locs St => ?_)
        obtain ⟨f_33, ef_33⟩ : ∃ zz : Nat → Int32, zz = upd fa (i : Int32).toNatClampNeg 0 := ⟨_, rfl⟩
        rw [← ef_33] at St
        obtain ⟨y_34, ey_34⟩ : ∃ zz : Int32, zz = i + 1 := ⟨_, rfl⟩
        first | have jy_34 : y_34.toInt = i.toInt + 1 := (by have q9 := ci_add (x := i) rfl (show (1 : Int32).toInt = 1 by decide) ey_34; omega) | have jy_34 := ci_add (x := i) rfl (show (1 : Int32).toInt = 1 by decide) ey_34
        refine lv_iinc (v := y_34) (lv' := [(3, .int y_34), (0, .ref h), (1, .ref zs), (2, .int x)]) hx hb dX0_orderStones_15 hl (k := 0) rfl (by rw [ey_34]; rfl) (by decide) rfl (fun ls hl => ?_)
        refine lv_goto (tgt := 2) hx hb dX0_orderStones_18 (by decide) ?_
        exact ih y_34 f_33 _ _ _ ⟨by omega, by omega⟩ (by omega) St (lv_sub hl [0, 1, 2, 3] rfl)
  exact lp2 31 0 f4 _ _ _ ⟨by decide, by decide⟩ (by decide) St (lv_sub hl [0, 1, 2, 3] rfl)
set_option maxHeartbeats 4000000 in
set_option maxRecDepth 100000 in
theorem x0_partCoin (l : Launch) (G : va_G) (k : Nat → Nat) (sz : Nat) (h : Nat) (b0 : Nat) (b1 : Nat) (b2 : Nat) (b3 : Nat) (b4 : Nat) (b5 : Nat) (e3 : ClassId) (f3 : Nat → Int32) (zs : Nat) (s0 : Nat) (s1 : Nat) (s2 : Nat) (s3 : Nat) (sn : Int32) (st : Int64) (sc0 : ClassId) (sc1 : ClassId) (l0 : Nat → Int32) (l1 : Nat → Int32) (cj : Int64) (x : Int32) : Met l yX0_partCoin (Cond.code yX0_partCoin cX0_partCoin 11 (some .int) :: tb) ({ frames := 1, cells := 0, slots := 0, locals := 23 } : Room) (va_Pc [.ref h, .long cj, .ref zs, .int x] (cP G k [(h, .inr (0, [.ref b0, .ref b1, .ref b2, .ref b3, .ref b4, .ref b5])), (b3, .inl (e3, 30, .inl f3)), (zs, .inr (5, [.ref s0, .ref s1, .ref s2, .ref s3, .int sn, .long st])), (s0, .inl (sc0, 250, .inl l0)), (s1, .inl (sc1, 250, .inl l1))] [(e3, .int), (sc0, .int), (sc1, .int)] sz)) (va_Qi (fun (r : Int32) (z3 : (Nat → Int32)) => True) (cB G (fun (z3 : (Nat → Int32)) => [(h, .inr (0, [.ref b0, .ref b1, .ref b2, .ref b3, .ref b4, .ref b5])), (b3, .inl (e3, 30, .inl z3)), (zs, .inr (5, [.ref s0, .ref s1, .ref s2, .ref s3, .int sn, .long st])), (s0, .inl (sc0, 250, .inl l0)), (s1, .inl (sc1, 250, .inl l1))]) (fun (z3 : (Nat → Int32)) => []) (va_A [(h, .inr (0, [.ref b0, .ref b1, .ref b2, .ref b3, .ref b4, .ref b5])), (b3, .inl (e3, 30, .inl f3)), (zs, .inr (5, [.ref s0, .ref s1, .ref s2, .ref s3, .int sn, .long st])), (s0, .inl (sc0, 250, .inl l0)), (s1, .inl (sc1, 250, .inl l1))] sz)) (va_A [(h, .inr (0, [.ref b0, .ref b1, .ref b2, .ref b3, .ref b4, .ref b5])), (b3, .inl (e3, 30, .inl f3)), (zs, .inr (5, [.ref s0, .ref s1, .ref s2, .ref s3, .int sn, .long st])), (s0, .inl (sc0, 250, .inl l0)), (s1, .inl (sc1, 250, .inl l1))] sz)) 0 0 (va_A [(h, .inr (0, [.ref b0, .ref b1, .ref b2, .ref b3, .ref b4, .ref b5])), (b3, .inl (e3, 30, .inl f3)), (zs, .inr (5, [.ref s0, .ref s1, .ref s2, .ref s3, .int sn, .long st])), (s0, .inl (sc0, 250, .inl l0)), (s1, .inl (sc1, 250, .inl l1))] sz) := by
  refine ofC_i (cc := cX0_partCoin) (maxL := 11) (ret := (some .int)) (by decide) rfl (Nat.le_of_ble_eq_true rfl) ?_
  intro p e s m args below meth c A ls Q F hr hin hlk St hl hQ
  have hx := F.1
  have hb := F.2.1
  have hl : lv_has ls 11 [(0, .ref h), (1, .long cj), (3, .ref zs), (4, .int x)] := hl
  have St : cS G k [(h, .inr (0, [.ref b0, .ref b1, .ref b2, .ref b3, .ref b4, .ref b5])), (b3, .inl (e3, 30, .inl f3)), (zs, .inr (5, [.ref s0, .ref s1, .ref s2, .ref s3, .int sn, .long st])), (s0, .inl (sc0, 250, .inl l0)), (s1, .inl (sc1, 250, .inl l1))] [(e3, .int), (sc0, .int), (sc1, .int)] A s s.heap [] := St
  have y0 : (0 : Int32).toInt = 0 := by decide
  refine lv_aload_n hx hb dX0_partCoin_0 rfl (lv_at hl 2 rfl) ?_
  refine cs_l St [2] [0, 1, 3, 4] (wc := [(zs, .inr (5, [.ref s0, .ref s1, .ref s2, .ref s3, .int sn, .long st]))]) (wr := [(h, .inr (0, [.ref b0, .ref b1, .ref b2, .ref b3, .ref b4, .ref b5])), (b3, .inl (e3, 30, .inl f3)), (s0, .inl (sc0, 250, .inl l0)), (s1, .inl (sc1, 250, .inl l1))]) rfl rfl (by decide) (by decide) (va_runV (As := []) (rest := []) F (x5_total l G k _ zs s0 s1 s2 s3 sn st) (cwVt F mf_X5_total km_X0_48 rfl rfl ⟨Nat.le_of_ble_eq_true rfl, Nat.le_of_ble_eq_true rfl⟩) (cs_preV St [2] rfl (by decide) [] rfl (ci := 5) (q0 := 2) rfl rfl) rfl rfl hl.1 rfl (lv_room (Nat.le_of_ble_eq_true rfl)) dX0_partCoin_1 ⟨Nat.le_of_ble_eq_true rfl, Nat.le_of_ble_eq_true rfl⟩) (fun r_1 u_2 H locs hw St => ?_)
  try dsimp only at hw
  have z_3 := hw
  subst r_1
  have St : cS G k [(h, .inr (0, [.ref b0, .ref b1, .ref b2, .ref b3, .ref b4, .ref b5])), (b3, .inl (e3, 30, .inl f3)), (s0, .inl (sc0, 250, .inl l0)), (s1, .inl (sc1, 250, .inl l1)), (zs, .inr (5, [.ref s0, .ref s1, .ref s2, .ref s3, .int sn, .long st]))] [(e3, .int), (sc0, .int), (sc1, .int)] A s H locs := St
  refine lv_lstore (lv' := [(5, .long st), (0, .ref h), (1, .long cj), (3, .ref zs), (4, .int x)]) hx hb dX0_partCoin_4 hl (by decide) rfl (fun ls hl => ?_)
  refine lv_iload hx hb dX0_partCoin_6 (lv_at hl 4 rfl) ?_
  refine lv_if_eq (tgt := 22) hx hb dX0_partCoin_8 (by decide) (fun c8 => ?_) (fun c8 => ?_)
  ·
    have i8 := ci_eq (x := x) (y := 0) rfl (show (0 : Int32).toInt = 0 by decide) c8
    refine lv_iconst (v := 0) hx hb dX0_partCoin_22 (by decide) ?_
    refine lv_istore (lv' := [(7, .int 0), (5, .long st), (0, .ref h), (1, .long cj), (3, .ref zs), (4, .int x)]) hx hb dX0_partCoin_23 hl (by decide) rfl (fun ls hl => ?_)
    refine lv_iconst (v := 0) hx hb dX0_partCoin_25 (by decide) ?_
    refine lv_istore (lv' := [(8, .int 0), (7, .int 0), (5, .long st), (0, .ref h), (1, .long cj), (3, .ref zs), (4, .int x)]) hx hb dX0_partCoin_26 hl (by decide) rfl (fun ls hl => ?_)
    refine lv_iconst (v := 0) hx hb dX0_partCoin_28 (by decide) ?_
    refine lv_istore (lv' := [(9, .int 0), (8, .int 0), (7, .int 0), (5, .long st), (0, .ref h), (1, .long cj), (3, .ref zs), (4, .int x)]) hx hb dX0_partCoin_29 hl (by decide) rfl (fun ls hl => ?_)
    have lp31 : ∀ (n : Nat) (i : Int32) (gg : Int32) (fa : Nat → Int32) (H : Heap) (locs : List Loc) (ls : Array Slot), (0 ≤ i.toInt ∧ i.toInt ≤ 30) → ((30 - i.toInt).toNat) < n → cS G k [(h, .inr (0, [.ref b0, .ref b1, .ref b2, .ref b3, .ref b4, .ref b5])), (b3, .inl (e3, 30, .inl fa)), (s0, .inl (sc0, 250, .inl l0)), (s1, .inl (sc1, 250, .inl l1)), (zs, .inr (5, [.ref s0, .ref s1, .ref s2, .ref s3, .int sn, .long st]))] [(e3, .int), (sc0, .int), (sc1, .int)] A s H locs → lv_has ls 11 [(9, .int i), (8, .int gg), (7, .int 0), (5, .long st), (0, .ref h), (1, .long cj), (3, .ref zs), (4, .int x)] → W p l e ({ frames := 1, cells := 0, slots := 0, locals := 23 } : Room) s m args below meth c H locs 0 0 Q (F0 m 31 ls []) := by
      intro n
      induction n with
      | zero => intro i gg fa H locs ls hI hn; exact absurd hn (Nat.not_lt_zero _)
      | succ n ih =>
        intro i gg fa H locs ls hI hn St hl
        obtain ⟨hI0, hI1⟩ := hI
        refine lv_iload hx hb dX0_partCoin_31 (lv_at hl 0 rfl) ?_
        refine lv_bipush (v := 30) hx hb dX0_partCoin_33 (by decide) ?_
        refine lv_icmp_ge (tgt := 104) hx hb dX0_partCoin_35 (by decide) (fun c35 => ?_) (fun c35 => ?_)
        ·
          have i35 := ci_le (x := 30) (y := i) (show (30 : Int32).toInt = 30 by decide) rfl c35
          refine lv_iload hx hb dX0_partCoin_104 (lv_at hl 1 rfl) ?_
          exact cs_iret F hr hlk hQ St fa (r := gg) (by trivial) [0, 1, 4, 2, 3] rfl (by decide) [] rfl (by decide) (by decide) dX0_partCoin_106
        ·
          have i35 := ci_nle (x := 30) (y := i) (show (30 : Int32).toInt = 30 by decide) rfl c35
          refine lv_aload_n hx hb dX0_partCoin_38 rfl (lv_at hl 6 rfl) ?_
          refine lv_iload hx hb dX0_partCoin_39 (lv_at hl 0 rfl) ?_
          refine cs_i St [4, 2, 3] [0, 1] (wc := [(zs, .inr (5, [.ref s0, .ref s1, .ref s2, .ref s3, .int sn, .long st])), (s0, .inl (sc0, 250, .inl l0)), (s1, .inl (sc1, 250, .inl l1))]) (wr := [(h, .inr (0, [.ref b0, .ref b1, .ref b2, .ref b3, .ref b4, .ref b5])), (b3, .inl (e3, 30, .inl fa))]) rfl rfl (by decide) (by decide) (va_runV (As := [.int i]) (rest := []) F (x5_givenBy l G k _ zs s0 s1 s2 s3 sn st sc0 sc1 l0 l1 i) (cwVt F mf_X5_givenBy km_X0_52 rfl rfl ⟨Nat.le_of_ble_eq_true rfl, Nat.le_of_ble_eq_true rfl⟩) (cs_preV St [4, 2, 3] rfl (by decide) [1, 2] rfl (ci := 5) (q0 := 4) rfl rfl) rfl rfl hl.1 rfl (lv_room (Nat.le_of_ble_eq_true rfl)) dX0_partCoin_41 ⟨Nat.le_of_ble_eq_true rfl, Nat.le_of_ble_eq_true rfl⟩) (fun r_4 u_5 H locs hw St => ?_)
          try dsimp only at hw
          have St : cS G k [(h, .inr (0, [.ref b0, .ref b1, .ref b2, .ref b3, .ref b4, .ref b5])), (b3, .inl (e3, 30, .inl fa)), (zs, .inr (5, [.ref s0, .ref s1, .ref s2, .ref s3, .int sn, .long st])), (s0, .inl (sc0, 250, .inl l0)), (s1, .inl (sc1, 250, .inl l1))] [(e3, .int), (sc0, .int), (sc1, .int)] A s H locs := St
          refine lv_istore (lv' := [(10, .int r_4), (9, .int i), (8, .int gg), (7, .int 0), (5, .long st), (0, .ref h), (1, .long cj), (3, .ref zs), (4, .int x)]) hx hb dX0_partCoin_44 hl (by decide) rfl (fun ls hl => ?_)
          refine lv_iload hx hb dX0_partCoin_46 (lv_at hl 3 rfl) ?_
          refine lv_if_eq (tgt := 63) hx hb dX0_partCoin_48 (by decide) (fun c48 => ?_) (fun c48 => ?_)
          rotate_left
          · exact absurd (by decide) c48
          refine lv_lload hx hb dX0_partCoin_63 (lv_at hl 4 rfl) ?_
          refine lv_lconst (v := 0) hx hb dX0_partCoin_65 (by decide) ?_
          refine W.lcmp hx hb dX0_partCoin_66 ?_
          refine lv_if_le (tgt := 86) hx hb dX0_partCoin_67 (by decide) (fun c67 => ?_) (fun c67 => ?_)
          ·
            have i67 := cl_le (x := st) (y := 0) (u := st.toInt) (v := 0) rfl (by decide) ((lg_cmp_le _ _).mp c67)
            refine lv_iload hx hb dX0_partCoin_86 (lv_at hl 2 rfl) ?_
            refine lv_aload_n hx hb dX0_partCoin_88 rfl (lv_at hl 5 rfl) ?_
            refine cs_get F St 0 rfl rfl inX0 3 (by decide) kf_X0_22 rfl dX0_partCoin_89 ?_
            refine lv_iload hx hb dX0_partCoin_92 (lv_at hl 1 rfl) ?_
            refine cs_ild F St 1 0 rfl rfl (vp_in_iff.mpr ⟨by omega, by omega⟩) dX0_partCoin_94 ?_
            refine lv_topi (fun y_6 ey_6 => ?_)
            refine lv_iadd hx hb dX0_partCoin_95 ?_
            refine lv_topi (fun y_7 ey_7 => ?_)
            first | have jy_7 : y_7.toInt = gg.toInt + y_6.toInt := (by have q9 := ci_add (x := gg) (y := y_6) rfl rfl ey_7; omega) | have jy_7 := ci_add (x := gg) (y := y_6) rfl rfl ey_7
            refine lv_istore (lv' := [(8, .int y_7), (10, .int r_4), (9, .int i), (7, .int 0), (5, .long st), (0, .ref h), (1, .long cj), (3, .ref zs), (4, .int x)]) hx hb dX0_partCoin_96 hl (by decide) rfl (fun ls hl => ?_)
            obtain ⟨y_8, ey_8⟩ : ∃ zz : Int32, zz = i + 1 := ⟨_, rfl⟩
            first | have jy_8 : y_8.toInt = i.toInt + 1 := (by have q9 := ci_add (x := i) rfl (show (1 : Int32).toInt = 1 by decide) ey_8; omega) | have jy_8 := ci_add (x := i) rfl (show (1 : Int32).toInt = 1 by decide) ey_8
            refine lv_iinc (v := y_8) (lv' := [(9, .int y_8), (8, .int y_7), (10, .int r_4), (7, .int 0), (5, .long st), (0, .ref h), (1, .long cj), (3, .ref zs), (4, .int x)]) hx hb dX0_partCoin_98 hl (k := 2) rfl (by rw [ey_8]; rfl) (by decide) rfl (fun ls hl => ?_)
            refine lv_goto (tgt := 31) hx hb dX0_partCoin_101 (by decide) ?_
            exact ih y_8 y_7 fa _ _ _ ⟨by omega, by omega⟩ (by omega) (cs_pick St [0, 1, 3, 4, 2] rfl (by decide) [0, 1, 2] rfl) (lv_sub hl [0, 1, 3, 4, 5, 6, 7, 8] rfl)
          ·
            have i67 := cl_nle (x := st) (y := 0) (u := st.toInt) (v := 0) rfl (by decide) (fun q => c67 ((lg_cmp_le _ _).mpr q))
            refine lv_aload_n hx hb dX0_partCoin_70 rfl (lv_at hl 5 rfl) ?_
            refine cs_get F St 0 rfl rfl inX0 3 (by decide) kf_X0_22 rfl dX0_partCoin_71 ?_
            refine lv_iload hx hb dX0_partCoin_74 (lv_at hl 1 rfl) ?_
            refine lv_lload_n hx hb dX0_partCoin_76 rfl (lv_at hl 6 rfl) ?_
            refine lv_iload hx hb dX0_partCoin_77 (lv_at hl 0 rfl) ?_
            refine lv_i2l (v := r_4.toInt64) hx hb dX0_partCoin_79 rfl ?_
            refine lv_lmul hx hb dX0_partCoin_80 ?_
            refine lv_topl (fun y_9 ey_9 => ?_)
            refine lv_lload hx hb dX0_partCoin_81 (lv_at hl 4 rfl) ?_
            refine lv_ldiv hx hb dX0_partCoin_83 (ne0_l (by omega)) ?_
            refine lv_topl (fun y_10 ey_10 => ?_)
            refine lv_l2i (v := y_10.toInt32) hx hb dX0_partCoin_84 rfl ?_
            refine cs_ist F St 1 0 rfl rfl (vp_in_iff.mpr ⟨by omega, by omega⟩) (w' := [(h, .inr (0, [.ref b0, .ref b1, .ref b2, .ref b3, .ref b4, .ref b5])), (b3, .inl (e3, 30, .inl (upd fa (i : Int32).toNatClampNeg y_10.toInt32))), (zs, .inr (5, [.ref s0, .ref s1, .ref s2, .ref s3, .int sn, .long st])), (s0, .inl (sc0, 250, .inl l0)), (s1, .inl (sc1, 250, .inl l1))]) rfl dX0_partCoin_85 (fun H locs St => ?_)
            obtain ⟨f_11, ef_11⟩ : ∃ zz : Nat → Int32, zz = upd fa (i : Int32).toNatClampNeg y_10.toInt32 := ⟨_, rfl⟩
            rw [← ef_11] at St
            refine lv_iload hx hb dX0_partCoin_86 (lv_at hl 2 rfl) ?_
            refine lv_aload_n hx hb dX0_partCoin_88 rfl (lv_at hl 5 rfl) ?_
            refine cs_get F St 0 rfl rfl inX0 3 (by decide) kf_X0_22 rfl dX0_partCoin_89 ?_
            refine lv_iload hx hb dX0_partCoin_92 (lv_at hl 1 rfl) ?_
            refine cs_ild F St 1 0 rfl rfl (vp_in_iff.mpr ⟨by omega, by omega⟩) dX0_partCoin_94 ?_
            refine lv_topi (fun y_12 ey_12 => ?_)
            refine lv_iadd hx hb dX0_partCoin_95 ?_
            refine lv_topi (fun y_13 ey_13 => ?_)
            first | have jy_13 : y_13.toInt = gg.toInt + y_12.toInt := (by have q9 := ci_add (x := gg) (y := y_12) rfl rfl ey_13; omega) | have jy_13 := ci_add (x := gg) (y := y_12) rfl rfl ey_13
            refine lv_istore (lv' := [(8, .int y_13), (10, .int r_4), (9, .int i), (7, .int 0), (5, .long st), (0, .ref h), (1, .long cj), (3, .ref zs), (4, .int x)]) hx hb dX0_partCoin_96 hl (by decide) rfl (fun ls hl => ?_)
            obtain ⟨y_14, ey_14⟩ : ∃ zz : Int32, zz = i + 1 := ⟨_, rfl⟩
            first | have jy_14 : y_14.toInt = i.toInt + 1 := (by have q9 := ci_add (x := i) rfl (show (1 : Int32).toInt = 1 by decide) ey_14; omega) | have jy_14 := ci_add (x := i) rfl (show (1 : Int32).toInt = 1 by decide) ey_14
            refine lv_iinc (v := y_14) (lv' := [(9, .int y_14), (8, .int y_13), (10, .int r_4), (7, .int 0), (5, .long st), (0, .ref h), (1, .long cj), (3, .ref zs), (4, .int x)]) hx hb dX0_partCoin_98 hl (k := 2) rfl (by rw [ey_14]; rfl) (by decide) rfl (fun ls hl => ?_)
            refine lv_goto (tgt := 31) hx hb dX0_partCoin_101 (by decide) ?_
            exact ih y_14 y_13 f_11 _ _ _ ⟨by omega, by omega⟩ (by omega) (cs_pick St [0, 1, 3, 4, 2] rfl (by decide) [0, 1, 2] rfl) (lv_sub hl [0, 1, 3, 4, 5, 6, 7, 8] rfl)
    exact lp31 31 0 0 f3 _ _ _ ⟨by decide, by decide⟩ (by decide) St (lv_sub hl [0, 1, 2, 3, 4, 5, 6, 7] rfl)
  ·
    have i8 := ci_ne (x := x) (y := 0) rfl (show (0 : Int32).toInt = 0 by decide) c8
    refine lv_lload_n hx hb dX0_partCoin_11 rfl (lv_at hl 2 rfl) ?_
    refine lv_lload hx hb dX0_partCoin_12 (lv_at hl 0 rfl) ?_
    refine W.lcmp hx hb dX0_partCoin_14 ?_
    refine lv_if_lt (tgt := 22) hx hb dX0_partCoin_15 (by decide) (fun c15 => ?_) (fun c15 => ?_)
    ·
      have i15 := cl_lt (x := cj) (y := st) (u := cj.toInt) (v := st.toInt) rfl rfl ((lg_cmp_lt _ _).mp c15)
      refine lv_iconst (v := 0) hx hb dX0_partCoin_22 (by decide) ?_
      refine lv_istore (lv' := [(7, .int 0), (5, .long st), (0, .ref h), (1, .long cj), (3, .ref zs), (4, .int x)]) hx hb dX0_partCoin_23 hl (by decide) rfl (fun ls hl => ?_)
      refine lv_iconst (v := 0) hx hb dX0_partCoin_25 (by decide) ?_
      refine lv_istore (lv' := [(8, .int 0), (7, .int 0), (5, .long st), (0, .ref h), (1, .long cj), (3, .ref zs), (4, .int x)]) hx hb dX0_partCoin_26 hl (by decide) rfl (fun ls hl => ?_)
      refine lv_iconst (v := 0) hx hb dX0_partCoin_28 (by decide) ?_
      refine lv_istore (lv' := [(9, .int 0), (8, .int 0), (7, .int 0), (5, .long st), (0, .ref h), (1, .long cj), (3, .ref zs), (4, .int x)]) hx hb dX0_partCoin_29 hl (by decide) rfl (fun ls hl => ?_)
      have lp31 : ∀ (n : Nat) (i : Int32) (gg : Int32) (fa : Nat → Int32) (H : Heap) (locs : List Loc) (ls : Array Slot), (0 ≤ i.toInt ∧ i.toInt ≤ 30) → ((30 - i.toInt).toNat) < n → cS G k [(h, .inr (0, [.ref b0, .ref b1, .ref b2, .ref b3, .ref b4, .ref b5])), (b3, .inl (e3, 30, .inl fa)), (s0, .inl (sc0, 250, .inl l0)), (s1, .inl (sc1, 250, .inl l1)), (zs, .inr (5, [.ref s0, .ref s1, .ref s2, .ref s3, .int sn, .long st]))] [(e3, .int), (sc0, .int), (sc1, .int)] A s H locs → lv_has ls 11 [(9, .int i), (8, .int gg), (7, .int 0), (5, .long st), (0, .ref h), (1, .long cj), (3, .ref zs), (4, .int x)] → W p l e ({ frames := 1, cells := 0, slots := 0, locals := 23 } : Room) s m args below meth c H locs 0 0 Q (F0 m 31 ls []) := by
        intro n
        induction n with
        | zero => intro i gg fa H locs ls hI hn; exact absurd hn (Nat.not_lt_zero _)
        | succ n ih =>
          intro i gg fa H locs ls hI hn St hl
          obtain ⟨hI0, hI1⟩ := hI
          refine lv_iload hx hb dX0_partCoin_31 (lv_at hl 0 rfl) ?_
          refine lv_bipush (v := 30) hx hb dX0_partCoin_33 (by decide) ?_
          refine lv_icmp_ge (tgt := 104) hx hb dX0_partCoin_35 (by decide) (fun c35 => ?_) (fun c35 => ?_)
          ·
            have i35 := ci_le (x := 30) (y := i) (show (30 : Int32).toInt = 30 by decide) rfl c35
            refine lv_iload hx hb dX0_partCoin_104 (lv_at hl 1 rfl) ?_
            exact cs_iret F hr hlk hQ St fa (r := gg) (by trivial) [0, 1, 4, 2, 3] rfl (by decide) [] rfl (by decide) (by decide) dX0_partCoin_106
          ·
            have i35 := ci_nle (x := 30) (y := i) (show (30 : Int32).toInt = 30 by decide) rfl c35
            refine lv_aload_n hx hb dX0_partCoin_38 rfl (lv_at hl 6 rfl) ?_
            refine lv_iload hx hb dX0_partCoin_39 (lv_at hl 0 rfl) ?_
            refine cs_i St [4, 2, 3] [0, 1] (wc := [(zs, .inr (5, [.ref s0, .ref s1, .ref s2, .ref s3, .int sn, .long st])), (s0, .inl (sc0, 250, .inl l0)), (s1, .inl (sc1, 250, .inl l1))]) (wr := [(h, .inr (0, [.ref b0, .ref b1, .ref b2, .ref b3, .ref b4, .ref b5])), (b3, .inl (e3, 30, .inl fa))]) rfl rfl (by decide) (by decide) (va_runV (As := [.int i]) (rest := []) F (x5_givenBy l G k _ zs s0 s1 s2 s3 sn st sc0 sc1 l0 l1 i) (cwVt F mf_X5_givenBy km_X0_52 rfl rfl ⟨Nat.le_of_ble_eq_true rfl, Nat.le_of_ble_eq_true rfl⟩) (cs_preV St [4, 2, 3] rfl (by decide) [1, 2] rfl (ci := 5) (q0 := 4) rfl rfl) rfl rfl hl.1 rfl (lv_room (Nat.le_of_ble_eq_true rfl)) dX0_partCoin_41 ⟨Nat.le_of_ble_eq_true rfl, Nat.le_of_ble_eq_true rfl⟩) (fun r_15 u_16 H locs hw St => ?_)
            try dsimp only at hw
            have St : cS G k [(h, .inr (0, [.ref b0, .ref b1, .ref b2, .ref b3, .ref b4, .ref b5])), (b3, .inl (e3, 30, .inl fa)), (zs, .inr (5, [.ref s0, .ref s1, .ref s2, .ref s3, .int sn, .long st])), (s0, .inl (sc0, 250, .inl l0)), (s1, .inl (sc1, 250, .inl l1))] [(e3, .int), (sc0, .int), (sc1, .int)] A s H locs := St
            refine lv_istore (lv' := [(10, .int r_15), (9, .int i), (8, .int gg), (7, .int 0), (5, .long st), (0, .ref h), (1, .long cj), (3, .ref zs), (4, .int x)]) hx hb dX0_partCoin_44 hl (by decide) rfl (fun ls hl => ?_)
            refine lv_iload hx hb dX0_partCoin_46 (lv_at hl 3 rfl) ?_
            refine lv_if_eq (tgt := 63) hx hb dX0_partCoin_48 (by decide) (fun c48 => ?_) (fun c48 => ?_)
            rotate_left
            · exact absurd (by decide) c48
            refine lv_lload hx hb dX0_partCoin_63 (lv_at hl 4 rfl) ?_
            refine lv_lconst (v := 0) hx hb dX0_partCoin_65 (by decide) ?_
            refine W.lcmp hx hb dX0_partCoin_66 ?_
            refine lv_if_le (tgt := 86) hx hb dX0_partCoin_67 (by decide) (fun c67 => ?_) (fun c67 => ?_)
            ·
              have i67 := cl_le (x := st) (y := 0) (u := st.toInt) (v := 0) rfl (by decide) ((lg_cmp_le _ _).mp c67)
              refine lv_iload hx hb dX0_partCoin_86 (lv_at hl 2 rfl) ?_
              refine lv_aload_n hx hb dX0_partCoin_88 rfl (lv_at hl 5 rfl) ?_
              refine cs_get F St 0 rfl rfl inX0 3 (by decide) kf_X0_22 rfl dX0_partCoin_89 ?_
              refine lv_iload hx hb dX0_partCoin_92 (lv_at hl 1 rfl) ?_
              refine cs_ild F St 1 0 rfl rfl (vp_in_iff.mpr ⟨by omega, by omega⟩) dX0_partCoin_94 ?_
              refine lv_topi (fun y_17 ey_17 => ?_)
              refine lv_iadd hx hb dX0_partCoin_95 ?_
              refine lv_topi (fun y_18 ey_18 => ?_)
              first | have jy_18 : y_18.toInt = gg.toInt + y_17.toInt := (by have q9 := ci_add (x := gg) (y := y_17) rfl rfl ey_18; omega) | have jy_18 := ci_add (x := gg) (y := y_17) rfl rfl ey_18
              refine lv_istore (lv' := [(8, .int y_18), (10, .int r_15), (9, .int i), (7, .int 0), (5, .long st), (0, .ref h), (1, .long cj), (3, .ref zs), (4, .int x)]) hx hb dX0_partCoin_96 hl (by decide) rfl (fun ls hl => ?_)
              obtain ⟨y_19, ey_19⟩ : ∃ zz : Int32, zz = i + 1 := ⟨_, rfl⟩
              first | have jy_19 : y_19.toInt = i.toInt + 1 := (by have q9 := ci_add (x := i) rfl (show (1 : Int32).toInt = 1 by decide) ey_19; omega) | have jy_19 := ci_add (x := i) rfl (show (1 : Int32).toInt = 1 by decide) ey_19
              refine lv_iinc (v := y_19) (lv' := [(9, .int y_19), (8, .int y_18), (10, .int r_15), (7, .int 0), (5, .long st), (0, .ref h), (1, .long cj), (3, .ref zs), (4, .int x)]) hx hb dX0_partCoin_98 hl (k := 2) rfl (by rw [ey_19]; rfl) (by decide) rfl (fun ls hl => ?_)
              refine lv_goto (tgt := 31) hx hb dX0_partCoin_101 (by decide) ?_
              exact ih y_19 y_18 fa _ _ _ ⟨by omega, by omega⟩ (by omega) (cs_pick St [0, 1, 3, 4, 2] rfl (by decide) [0, 1, 2] rfl) (lv_sub hl [0, 1, 3, 4, 5, 6, 7, 8] rfl)
            ·
              have i67 := cl_nle (x := st) (y := 0) (u := st.toInt) (v := 0) rfl (by decide) (fun q => c67 ((lg_cmp_le _ _).mpr q))
              refine lv_aload_n hx hb dX0_partCoin_70 rfl (lv_at hl 5 rfl) ?_
              refine cs_get F St 0 rfl rfl inX0 3 (by decide) kf_X0_22 rfl dX0_partCoin_71 ?_
              refine lv_iload hx hb dX0_partCoin_74 (lv_at hl 1 rfl) ?_
              refine lv_lload_n hx hb dX0_partCoin_76 rfl (lv_at hl 6 rfl) ?_
              refine lv_iload hx hb dX0_partCoin_77 (lv_at hl 0 rfl) ?_
              refine lv_i2l (v := r_15.toInt64) hx hb dX0_partCoin_79 rfl ?_
              refine lv_lmul hx hb dX0_partCoin_80 ?_
              refine lv_topl (fun y_20 ey_20 => ?_)
              refine lv_lload hx hb dX0_partCoin_81 (lv_at hl 4 rfl) ?_
              refine lv_ldiv hx hb dX0_partCoin_83 (ne0_l (by omega)) ?_
              refine lv_topl (fun y_21 ey_21 => ?_)
              refine lv_l2i (v := y_21.toInt32) hx hb dX0_partCoin_84 rfl ?_
              refine cs_ist F St 1 0 rfl rfl (vp_in_iff.mpr ⟨by omega, by omega⟩) (w' := [(h, .inr (0, [.ref b0, .ref b1, .ref b2, .ref b3, .ref b4, .ref b5])), (b3, .inl (e3, 30, .inl (upd fa (i : Int32).toNatClampNeg y_21.toInt32))), (zs, .inr (5, [.ref s0, .ref s1, .ref s2, .ref s3, .int sn, .long st])), (s0, .inl (sc0, 250, .inl l0)), (s1, .inl (sc1, 250, .inl l1))]) rfl dX0_partCoin_85 (fun H locs St => ?_)
              obtain ⟨f_22, ef_22⟩ : ∃ zz : Nat → Int32, zz = upd fa (i : Int32).toNatClampNeg y_21.toInt32 := ⟨_, rfl⟩
              rw [← ef_22] at St
              refine lv_iload hx hb dX0_partCoin_86 (lv_at hl 2 rfl) ?_
              refine lv_aload_n hx hb dX0_partCoin_88 rfl (lv_at hl 5 rfl) ?_
              refine cs_get F St 0 rfl rfl inX0 3 (by decide) kf_X0_22 rfl dX0_partCoin_89 ?_
              refine lv_iload hx hb dX0_partCoin_92 (lv_at hl 1 rfl) ?_
              refine cs_ild F St 1 0 rfl rfl (vp_in_iff.mpr ⟨by omega, by omega⟩) dX0_partCoin_94 ?_
              refine lv_topi (fun y_23 ey_23 => ?_)
              refine lv_iadd hx hb dX0_partCoin_95 ?_
              refine lv_topi (fun y_24 ey_24 => ?_)
              first | have jy_24 : y_24.toInt = gg.toInt + y_23.toInt := (by have q9 := ci_add (x := gg) (y := y_23) rfl rfl ey_24; omega) | have jy_24 := ci_add (x := gg) (y := y_23) rfl rfl ey_24
              refine lv_istore (lv' := [(8, .int y_24), (10, .int r_15), (9, .int i), (7, .int 0), (5, .long st), (0, .ref h), (1, .long cj), (3, .ref zs), (4, .int x)]) hx hb dX0_partCoin_96 hl (by decide) rfl (fun ls hl => ?_)
              obtain ⟨y_25, ey_25⟩ : ∃ zz : Int32, zz = i + 1 := ⟨_, rfl⟩
              first | have jy_25 : y_25.toInt = i.toInt + 1 := (by have q9 := ci_add (x := i) rfl (show (1 : Int32).toInt = 1 by decide) ey_25; omega) | have jy_25 := ci_add (x := i) rfl (show (1 : Int32).toInt = 1 by decide) ey_25
              refine lv_iinc (v := y_25) (lv' := [(9, .int y_25), (8, .int y_24), (10, .int r_15), (7, .int 0), (5, .long st), (0, .ref h), (1, .long cj), (3, .ref zs), (4, .int x)]) hx hb dX0_partCoin_98 hl (k := 2) rfl (by rw [ey_25]; rfl) (by decide) rfl (fun ls hl => ?_)
              refine lv_goto (tgt := 31) hx hb dX0_partCoin_101 (by decide) ?_
              exact ih y_25 y_24 f_22 _ _ _ ⟨by omega, by omega⟩ (by omega) (cs_pick St [0, 1, 3, 4, 2] rfl (by decide) [0, 1, 2] rfl) (lv_sub hl [0, 1, 3, 4, 5, 6, 7, 8] rfl)
      exact lp31 31 0 0 f3 _ _ _ ⟨by decide, by decide⟩ (by decide) St (lv_sub hl [0, 1, 2, 3, 4, 5, 6, 7] rfl)
    ·
      have i15 := cl_nlt (x := cj) (y := st) (u := cj.toInt) (v := st.toInt) rfl rfl (fun q => c15 ((lg_cmp_lt _ _).mpr q))
      refine lv_iconst (v := 1) hx hb dX0_partCoin_18 (by decide) ?_
      refine lv_goto (tgt := 23) hx hb dX0_partCoin_19 (by decide) ?_
      refine lv_istore (lv' := [(7, .int 1), (5, .long st), (0, .ref h), (1, .long cj), (3, .ref zs), (4, .int x)]) hx hb dX0_partCoin_23 hl (by decide) rfl (fun ls hl => ?_)
      refine lv_iconst (v := 0) hx hb dX0_partCoin_25 (by decide) ?_
      refine lv_istore (lv' := [(8, .int 0), (7, .int 1), (5, .long st), (0, .ref h), (1, .long cj), (3, .ref zs), (4, .int x)]) hx hb dX0_partCoin_26 hl (by decide) rfl (fun ls hl => ?_)
      refine lv_iconst (v := 0) hx hb dX0_partCoin_28 (by decide) ?_
      refine lv_istore (lv' := [(9, .int 0), (8, .int 0), (7, .int 1), (5, .long st), (0, .ref h), (1, .long cj), (3, .ref zs), (4, .int x)]) hx hb dX0_partCoin_29 hl (by decide) rfl (fun ls hl => ?_)
      have lp31 : ∀ (n : Nat) (i : Int32) (gg : Int32) (fa : Nat → Int32) (H : Heap) (locs : List Loc) (ls : Array Slot), (0 ≤ i.toInt ∧ i.toInt ≤ 30) → ((30 - i.toInt).toNat) < n → cS G k [(h, .inr (0, [.ref b0, .ref b1, .ref b2, .ref b3, .ref b4, .ref b5])), (b3, .inl (e3, 30, .inl fa)), (s0, .inl (sc0, 250, .inl l0)), (s1, .inl (sc1, 250, .inl l1)), (zs, .inr (5, [.ref s0, .ref s1, .ref s2, .ref s3, .int sn, .long st]))] [(e3, .int), (sc0, .int), (sc1, .int)] A s H locs → lv_has ls 11 [(9, .int i), (8, .int gg), (7, .int 1), (5, .long st), (0, .ref h), (1, .long cj), (3, .ref zs), (4, .int x)] → W p l e ({ frames := 1, cells := 0, slots := 0, locals := 23 } : Room) s m args below meth c H locs 0 0 Q (F0 m 31 ls []) := by
        intro n
        induction n with
        | zero => intro i gg fa H locs ls hI hn; exact absurd hn (Nat.not_lt_zero _)
        | succ n ih =>
          intro i gg fa H locs ls hI hn St hl
          obtain ⟨hI0, hI1⟩ := hI
          refine lv_iload hx hb dX0_partCoin_31 (lv_at hl 0 rfl) ?_
          refine lv_bipush (v := 30) hx hb dX0_partCoin_33 (by decide) ?_
          refine lv_icmp_ge (tgt := 104) hx hb dX0_partCoin_35 (by decide) (fun c35 => ?_) (fun c35 => ?_)
          ·
            have i35 := ci_le (x := 30) (y := i) (show (30 : Int32).toInt = 30 by decide) rfl c35
            refine lv_iload hx hb dX0_partCoin_104 (lv_at hl 1 rfl) ?_
            exact cs_iret F hr hlk hQ St fa (r := gg) (by trivial) [0, 1, 4, 2, 3] rfl (by decide) [] rfl (by decide) (by decide) dX0_partCoin_106
          ·
            have i35 := ci_nle (x := 30) (y := i) (show (30 : Int32).toInt = 30 by decide) rfl c35
            refine lv_aload_n hx hb dX0_partCoin_38 rfl (lv_at hl 6 rfl) ?_
            refine lv_iload hx hb dX0_partCoin_39 (lv_at hl 0 rfl) ?_
            refine cs_i St [4, 2, 3] [0, 1] (wc := [(zs, .inr (5, [.ref s0, .ref s1, .ref s2, .ref s3, .int sn, .long st])), (s0, .inl (sc0, 250, .inl l0)), (s1, .inl (sc1, 250, .inl l1))]) (wr := [(h, .inr (0, [.ref b0, .ref b1, .ref b2, .ref b3, .ref b4, .ref b5])), (b3, .inl (e3, 30, .inl fa))]) rfl rfl (by decide) (by decide) (va_runV (As := [.int i]) (rest := []) F (x5_givenBy l G k _ zs s0 s1 s2 s3 sn st sc0 sc1 l0 l1 i) (cwVt F mf_X5_givenBy km_X0_52 rfl rfl ⟨Nat.le_of_ble_eq_true rfl, Nat.le_of_ble_eq_true rfl⟩) (cs_preV St [4, 2, 3] rfl (by decide) [1, 2] rfl (ci := 5) (q0 := 4) rfl rfl) rfl rfl hl.1 rfl (lv_room (Nat.le_of_ble_eq_true rfl)) dX0_partCoin_41 ⟨Nat.le_of_ble_eq_true rfl, Nat.le_of_ble_eq_true rfl⟩) (fun r_26 u_27 H locs hw St => ?_)
            try dsimp only at hw
            have St : cS G k [(h, .inr (0, [.ref b0, .ref b1, .ref b2, .ref b3, .ref b4, .ref b5])), (b3, .inl (e3, 30, .inl fa)), (zs, .inr (5, [.ref s0, .ref s1, .ref s2, .ref s3, .int sn, .long st])), (s0, .inl (sc0, 250, .inl l0)), (s1, .inl (sc1, 250, .inl l1))] [(e3, .int), (sc0, .int), (sc1, .int)] A s H locs := St
            refine lv_istore (lv' := [(10, .int r_26), (9, .int i), (8, .int gg), (7, .int 1), (5, .long st), (0, .ref h), (1, .long cj), (3, .ref zs), (4, .int x)]) hx hb dX0_partCoin_44 hl (by decide) rfl (fun ls hl => ?_)
            refine lv_iload hx hb dX0_partCoin_46 (lv_at hl 3 rfl) ?_
            refine lv_if_eq (tgt := 63) hx hb dX0_partCoin_48 (by decide) (fun c48 => ?_) (fun c48 => ?_)
            · exact absurd c48 (by decide)
            refine lv_aload_n hx hb dX0_partCoin_51 rfl (lv_at hl 5 rfl) ?_
            refine cs_get F St 0 rfl rfl inX0 3 (by decide) kf_X0_22 rfl dX0_partCoin_52 ?_
            refine lv_iload hx hb dX0_partCoin_55 (lv_at hl 1 rfl) ?_
            refine lv_iload hx hb dX0_partCoin_57 (lv_at hl 0 rfl) ?_
            refine cs_ist F St 1 0 rfl rfl (vp_in_iff.mpr ⟨by omega, by omega⟩) (w' := [(h, .inr (0, [.ref b0, .ref b1, .ref b2, .ref b3, .ref b4, .ref b5])), (b3, .inl (e3, 30, .inl (upd fa (i : Int32).toNatClampNeg r_26))), (zs, .inr (5, [.ref s0, .ref s1, .ref s2, .ref s3, .int sn, .long st])), (s0, .inl (sc0, 250, .inl l0)), (s1, .inl (sc1, 250, .inl l1))]) rfl dX0_partCoin_59 (fun H locs St => ?_)
            obtain ⟨f_28, ef_28⟩ : ∃ zz : Nat → Int32, zz = upd fa (i : Int32).toNatClampNeg r_26 := ⟨_, rfl⟩
            rw [← ef_28] at St
            refine lv_goto (tgt := 86) hx hb dX0_partCoin_60 (by decide) ?_
            refine lv_iload hx hb dX0_partCoin_86 (lv_at hl 2 rfl) ?_
            refine lv_aload_n hx hb dX0_partCoin_88 rfl (lv_at hl 5 rfl) ?_
            refine cs_get F St 0 rfl rfl inX0 3 (by decide) kf_X0_22 rfl dX0_partCoin_89 ?_
            refine lv_iload hx hb dX0_partCoin_92 (lv_at hl 1 rfl) ?_
            refine cs_ild F St 1 0 rfl rfl (vp_in_iff.mpr ⟨by omega, by omega⟩) dX0_partCoin_94 ?_
            refine lv_topi (fun y_29 ey_29 => ?_)
            refine lv_iadd hx hb dX0_partCoin_95 ?_
            refine lv_topi (fun y_30 ey_30 => ?_)
            first | have jy_30 : y_30.toInt = gg.toInt + y_29.toInt := (by have q9 := ci_add (x := gg) (y := y_29) rfl rfl ey_30; omega) | have jy_30 := ci_add (x := gg) (y := y_29) rfl rfl ey_30
            refine lv_istore (lv' := [(8, .int y_30), (10, .int r_26), (9, .int i), (7, .int 1), (5, .long st), (0, .ref h), (1, .long cj), (3, .ref zs), (4, .int x)]) hx hb dX0_partCoin_96 hl (by decide) rfl (fun ls hl => ?_)
            obtain ⟨y_31, ey_31⟩ : ∃ zz : Int32, zz = i + 1 := ⟨_, rfl⟩
            first | have jy_31 : y_31.toInt = i.toInt + 1 := (by have q9 := ci_add (x := i) rfl (show (1 : Int32).toInt = 1 by decide) ey_31; omega) | have jy_31 := ci_add (x := i) rfl (show (1 : Int32).toInt = 1 by decide) ey_31
            refine lv_iinc (v := y_31) (lv' := [(9, .int y_31), (8, .int y_30), (10, .int r_26), (7, .int 1), (5, .long st), (0, .ref h), (1, .long cj), (3, .ref zs), (4, .int x)]) hx hb dX0_partCoin_98 hl (k := 2) rfl (by rw [ey_31]; rfl) (by decide) rfl (fun ls hl => ?_)
            refine lv_goto (tgt := 31) hx hb dX0_partCoin_101 (by decide) ?_
            exact ih y_31 y_30 f_28 _ _ _ ⟨by omega, by omega⟩ (by omega) (cs_pick St [0, 1, 3, 4, 2] rfl (by decide) [0, 1, 2] rfl) (lv_sub hl [0, 1, 3, 4, 5, 6, 7, 8] rfl)
      exact lp31 31 0 0 f3 _ _ _ ⟨by decide, by decide⟩ (by decide) St (lv_sub hl [0, 1, 2, 3, 4, 5, 6, 7] rfl)
set_option maxHeartbeats 4000000 in
set_option maxRecDepth 100000 in
theorem x3_coin (l : Launch) (G : va_G) (k : Nat → Nat) (sz : Nat) (h : Nat) (p0 : Int64) (p1 : Int64) (p2 : Int64) (p3 : Int64) (p4 : Int64) (p5 : Int64) : Met l yX3_coin (Cond.code yX3_coin cX3_coin 1 (some .long) :: tb) ({ frames := 0, cells := 0, slots := 0, locals := 0 } : Room) (va_Pc [.ref h] (cP G k [(h, .inr (3, [.long p0, .long p1, .long p2, .long p3, .long p4, .long p5]))] [] sz)) (va_Ql (fun (r : Int64) (_ : Unit) => (r = p0)) (cB G (fun (_ : Unit) => [(h, .inr (3, [.long p0, .long p1, .long p2, .long p3, .long p4, .long p5]))]) (fun (_ : Unit) => []) (va_A [(h, .inr (3, [.long p0, .long p1, .long p2, .long p3, .long p4, .long p5]))] sz)) (va_A [(h, .inr (3, [.long p0, .long p1, .long p2, .long p3, .long p4, .long p5]))] sz)) 0 0 (va_A [(h, .inr (3, [.long p0, .long p1, .long p2, .long p3, .long p4, .long p5]))] sz) := by
  refine ofC_l (cc := cX3_coin) (maxL := 1) (ret := (some .long)) (by decide) rfl (Nat.le_of_ble_eq_true rfl) ?_
  intro p e s m args below meth c A ls Q F hr hin hlk St hl hQ
  have hx := F.1
  have hb := F.2.1
  have hl : lv_has ls 1 [(0, .ref h)] := hl
  have St : cS G k [(h, .inr (3, [.long p0, .long p1, .long p2, .long p3, .long p4, .long p5]))] [] A s s.heap [] := St
  refine lv_aload_n hx hb dX3_coin_0 rfl (lv_at hl 0 rfl) ?_
  refine cs_get F St 0 rfl rfl inX3 0 (by decide) kf_X3_7 rfl dX3_coin_1 ?_
  exact cs_lret F hr hlk hQ St () (r := p0) rfl [0] rfl (by decide) [] rfl (by decide) (by decide) dX3_coin_4
set_option maxHeartbeats 4000000 in
set_option maxRecDepth 100000 in
theorem x3_loan (l : Launch) (G : va_G) (k : Nat → Nat) (sz : Nat) (h : Nat) (p0 : Int64) (p1 : Int64) (p2 : Int64) (p3 : Int64) (p4 : Int64) (p5 : Int64) : Met l yX3_loan (Cond.code yX3_loan cX3_loan 1 (some .long) :: tb) ({ frames := 0, cells := 0, slots := 0, locals := 0 } : Room) (va_Pc [.ref h] (cP G k [(h, .inr (3, [.long p0, .long p1, .long p2, .long p3, .long p4, .long p5]))] [] sz)) (va_Ql (fun (r : Int64) (_ : Unit) => (r = p1)) (cB G (fun (_ : Unit) => [(h, .inr (3, [.long p0, .long p1, .long p2, .long p3, .long p4, .long p5]))]) (fun (_ : Unit) => []) (va_A [(h, .inr (3, [.long p0, .long p1, .long p2, .long p3, .long p4, .long p5]))] sz)) (va_A [(h, .inr (3, [.long p0, .long p1, .long p2, .long p3, .long p4, .long p5]))] sz)) 0 0 (va_A [(h, .inr (3, [.long p0, .long p1, .long p2, .long p3, .long p4, .long p5]))] sz) := by
  refine ofC_l (cc := cX3_loan) (maxL := 1) (ret := (some .long)) (by decide) rfl (Nat.le_of_ble_eq_true rfl) ?_
  intro p e s m args below meth c A ls Q F hr hin hlk St hl hQ
  have hx := F.1
  have hb := F.2.1
  have hl : lv_has ls 1 [(0, .ref h)] := hl
  have St : cS G k [(h, .inr (3, [.long p0, .long p1, .long p2, .long p3, .long p4, .long p5]))] [] A s s.heap [] := St
  refine lv_aload_n hx hb dX3_loan_0 rfl (lv_at hl 0 rfl) ?_
  refine cs_get F St 0 rfl rfl inX3 1 (by decide) kf_X3_13 rfl dX3_loan_1 ?_
  exact cs_lret F hr hlk hQ St () (r := p1) rfl [0] rfl (by decide) [] rfl (by decide) (by decide) dX3_loan_4
set_option maxHeartbeats 4000000 in
set_option maxRecDepth 100000 in
theorem x3_matched (l : Launch) (G : va_G) (k : Nat → Nat) (sz : Nat) (h : Nat) (p0 : Int64) (p1 : Int64) (p2 : Int64) (p3 : Int64) (p4 : Int64) (p5 : Int64) : Met l yX3_matched (Cond.code yX3_matched cX3_matched 1 (some .long) :: tb) ({ frames := 0, cells := 0, slots := 0, locals := 0 } : Room) (va_Pc [.ref h] (cP G k [(h, .inr (3, [.long p0, .long p1, .long p2, .long p3, .long p4, .long p5]))] [] sz)) (va_Ql (fun (r : Int64) (_ : Unit) => (r = p2)) (cB G (fun (_ : Unit) => [(h, .inr (3, [.long p0, .long p1, .long p2, .long p3, .long p4, .long p5]))]) (fun (_ : Unit) => []) (va_A [(h, .inr (3, [.long p0, .long p1, .long p2, .long p3, .long p4, .long p5]))] sz)) (va_A [(h, .inr (3, [.long p0, .long p1, .long p2, .long p3, .long p4, .long p5]))] sz)) 0 0 (va_A [(h, .inr (3, [.long p0, .long p1, .long p2, .long p3, .long p4, .long p5]))] sz) := by
  refine ofC_l (cc := cX3_matched) (maxL := 1) (ret := (some .long)) (by decide) rfl (Nat.le_of_ble_eq_true rfl) ?_
  intro p e s m args below meth c A ls Q F hr hin hlk St hl hQ
  have hx := F.1
  have hb := F.2.1
  have hl : lv_has ls 1 [(0, .ref h)] := hl
  have St : cS G k [(h, .inr (3, [.long p0, .long p1, .long p2, .long p3, .long p4, .long p5]))] [] A s s.heap [] := St
  refine lv_aload_n hx hb dX3_matched_0 rfl (lv_at hl 0 rfl) ?_
  refine cs_get F St 0 rfl rfl inX3 2 (by decide) kf_X3_16 rfl dX3_matched_1 ?_
  exact cs_lret F hr hlk hQ St () (r := p2) rfl [0] rfl (by decide) [] rfl (by decide) (by decide) dX3_matched_4
set_option maxHeartbeats 4000000 in
set_option maxRecDepth 100000 in
theorem x3_tax (l : Launch) (G : va_G) (k : Nat → Nat) (sz : Nat) (h : Nat) (p0 : Int64) (p1 : Int64) (p2 : Int64) (p3 : Int64) (p4 : Int64) (p5 : Int64) : Met l yX3_tax (Cond.code yX3_tax cX3_tax 1 (some .long) :: tb) ({ frames := 0, cells := 0, slots := 0, locals := 0 } : Room) (va_Pc [.ref h] (cP G k [(h, .inr (3, [.long p0, .long p1, .long p2, .long p3, .long p4, .long p5]))] [] sz)) (va_Ql (fun (r : Int64) (_ : Unit) => (r = p3)) (cB G (fun (_ : Unit) => [(h, .inr (3, [.long p0, .long p1, .long p2, .long p3, .long p4, .long p5]))]) (fun (_ : Unit) => []) (va_A [(h, .inr (3, [.long p0, .long p1, .long p2, .long p3, .long p4, .long p5]))] sz)) (va_A [(h, .inr (3, [.long p0, .long p1, .long p2, .long p3, .long p4, .long p5]))] sz)) 0 0 (va_A [(h, .inr (3, [.long p0, .long p1, .long p2, .long p3, .long p4, .long p5]))] sz) := by
  refine ofC_l (cc := cX3_tax) (maxL := 1) (ret := (some .long)) (by decide) rfl (Nat.le_of_ble_eq_true rfl) ?_
  intro p e s m args below meth c A ls Q F hr hin hlk St hl hQ
  have hx := F.1
  have hb := F.2.1
  have hl : lv_has ls 1 [(0, .ref h)] := hl
  have St : cS G k [(h, .inr (3, [.long p0, .long p1, .long p2, .long p3, .long p4, .long p5]))] [] A s s.heap [] := St
  refine lv_aload_n hx hb dX3_tax_0 rfl (lv_at hl 0 rfl) ?_
  refine cs_get F St 0 rfl rfl inX3 3 (by decide) kf_X3_19 rfl dX3_tax_1 ?_
  exact cs_lret F hr hlk hQ St () (r := p3) rfl [0] rfl (by decide) [] rfl (by decide) (by decide) dX3_tax_4
set_option maxHeartbeats 4000000 in
set_option maxRecDepth 100000 in
theorem x3_paidForStages (l : Launch) (G : va_G) (k : Nat → Nat) (sz : Nat) (h : Nat) (p0 : Int64) (p1 : Int64) (p2 : Int64) (p3 : Int64) (p4 : Int64) (p5 : Int64) : Met l yX3_paidForStages (Cond.code yX3_paidForStages cX3_paidForStages 1 (some .long) :: tb) ({ frames := 0, cells := 0, slots := 0, locals := 0 } : Room) (va_Pc [.ref h] (cP G k [(h, .inr (3, [.long p0, .long p1, .long p2, .long p3, .long p4, .long p5]))] [] sz)) (va_Ql (fun (r : Int64) (_ : Unit) => (r = p4)) (cB G (fun (_ : Unit) => [(h, .inr (3, [.long p0, .long p1, .long p2, .long p3, .long p4, .long p5]))]) (fun (_ : Unit) => []) (va_A [(h, .inr (3, [.long p0, .long p1, .long p2, .long p3, .long p4, .long p5]))] sz)) (va_A [(h, .inr (3, [.long p0, .long p1, .long p2, .long p3, .long p4, .long p5]))] sz)) 0 0 (va_A [(h, .inr (3, [.long p0, .long p1, .long p2, .long p3, .long p4, .long p5]))] sz) := by
  refine ofC_l (cc := cX3_paidForStages) (maxL := 1) (ret := (some .long)) (by decide) rfl (Nat.le_of_ble_eq_true rfl) ?_
  intro p e s m args below meth c A ls Q F hr hin hlk St hl hQ
  have hx := F.1
  have hb := F.2.1
  have hl : lv_has ls 1 [(0, .ref h)] := hl
  have St : cS G k [(h, .inr (3, [.long p0, .long p1, .long p2, .long p3, .long p4, .long p5]))] [] A s s.heap [] := St
  refine lv_aload_n hx hb dX3_paidForStages_0 rfl (lv_at hl 0 rfl) ?_
  refine cs_get F St 0 rfl rfl inX3 4 (by decide) kf_X3_22 rfl dX3_paidForStages_1 ?_
  exact cs_lret F hr hlk hQ St () (r := p4) rfl [0] rfl (by decide) [] rfl (by decide) (by decide) dX3_paidForStages_4
set_option maxHeartbeats 4000000 in
set_option maxRecDepth 100000 in
theorem x3_grown (l : Launch) (G : va_G) (k : Nat → Nat) (sz : Nat) (h : Nat) (p0 : Int64) (p1 : Int64) (p2 : Int64) (p3 : Int64) (p4 : Int64) (p5 : Int64) : Met l yX3_grown (Cond.code yX3_grown cX3_grown 1 (some .long) :: tb) ({ frames := 0, cells := 0, slots := 0, locals := 0 } : Room) (va_Pc [.ref h] (cP G k [(h, .inr (3, [.long p0, .long p1, .long p2, .long p3, .long p4, .long p5]))] [] sz)) (va_Ql (fun (r : Int64) (_ : Unit) => (r = p5)) (cB G (fun (_ : Unit) => [(h, .inr (3, [.long p0, .long p1, .long p2, .long p3, .long p4, .long p5]))]) (fun (_ : Unit) => []) (va_A [(h, .inr (3, [.long p0, .long p1, .long p2, .long p3, .long p4, .long p5]))] sz)) (va_A [(h, .inr (3, [.long p0, .long p1, .long p2, .long p3, .long p4, .long p5]))] sz)) 0 0 (va_A [(h, .inr (3, [.long p0, .long p1, .long p2, .long p3, .long p4, .long p5]))] sz) := by
  refine ofC_l (cc := cX3_grown) (maxL := 1) (ret := (some .long)) (by decide) rfl (Nat.le_of_ble_eq_true rfl) ?_
  intro p e s m args below meth c A ls Q F hr hin hlk St hl hQ
  have hx := F.1
  have hb := F.2.1
  have hl : lv_has ls 1 [(0, .ref h)] := hl
  have St : cS G k [(h, .inr (3, [.long p0, .long p1, .long p2, .long p3, .long p4, .long p5]))] [] A s s.heap [] := St
  refine lv_aload_n hx hb dX3_grown_0 rfl (lv_at hl 0 rfl) ?_
  refine cs_get F St 0 rfl rfl inX3 5 (by decide) kf_X3_25 rfl dX3_grown_1 ?_
  exact cs_lret F hr hlk hQ St () (r := p5) rfl [0] rfl (by decide) [] rfl (by decide) (by decide) dX3_grown_4
set_option maxHeartbeats 4000000 in
set_option maxRecDepth 100000 in
theorem x3_takeSum (l : Launch) (G : va_G) (k : Nat → Nat) (sz : Nat) (h : Nat) (p0 : Int64) (p1 : Int64) (p2 : Int64) (p3 : Int64) (p4 : Int64) (p5 : Int64) (t : Nat) (tb0 : Nat) (te : ClassId) (ft : Nat → Int32) (x : Int32) (y : Int32) : Met l yX3_takeSum (Cond.code yX3_takeSum cX3_takeSum 10 (some .int) :: tb) ({ frames := 1, cells := 0, slots := 0, locals := 23 } : Room) (va_Pc [.ref h, .int x, .int y, .ref t] (cP G k [(h, .inr (3, [.long p0, .long p1, .long p2, .long p3, .long p4, .long p5])), (t, .inr (8, [.ref tb0])), (tb0, .inl (te, 9, .inl ft))] [(te, .int)] sz)) (va_Qi (fun (r : Int32) (u : Int64 × Int64 × Int64 × Int64 × Int64 × Int64) => match u with | (q0, q1, q2, q3, q4, q5) => True) (cB G (fun u => match u with | (q0, q1, q2, q3, q4, q5) => [(h, .inr (3, [.long q0, .long q1, .long q2, .long q3, .long q4, .long q5])), (t, .inr (8, [.ref tb0])), (tb0, .inl (te, 9, .inl ft))]) (fun u => match u with | (q0, q1, q2, q3, q4, q5) => []) (va_A [(h, .inr (3, [.long p0, .long p1, .long p2, .long p3, .long p4, .long p5])), (t, .inr (8, [.ref tb0])), (tb0, .inl (te, 9, .inl ft))] sz)) (va_A [(h, .inr (3, [.long p0, .long p1, .long p2, .long p3, .long p4, .long p5])), (t, .inr (8, [.ref tb0])), (tb0, .inl (te, 9, .inl ft))] sz)) 0 0 (va_A [(h, .inr (3, [.long p0, .long p1, .long p2, .long p3, .long p4, .long p5])), (t, .inr (8, [.ref tb0])), (tb0, .inl (te, 9, .inl ft))] sz) := by
  refine ofC_i (cc := cX3_takeSum) (maxL := 10) (ret := (some .int)) (by decide) rfl (Nat.le_of_ble_eq_true rfl) ?_
  intro p e s m args below meth c A ls Q F hr hin hlk St hl hQ
  have hx := F.1
  have hb := F.2.1
  have hl : lv_has ls 10 [(0, .ref h), (1, .int x), (2, .int y), (3, .ref t)] := hl
  have St : cS G k [(h, .inr (3, [.long p0, .long p1, .long p2, .long p3, .long p4, .long p5])), (t, .inr (8, [.ref tb0])), (tb0, .inl (te, 9, .inl ft))] [(te, .int)] A s s.heap [] := St
  refine lv_lconst (v := 0) hx hb dX3_takeSum_0 (by decide) ?_
  refine lv_lstore (lv' := [(4, .long 0), (0, .ref h), (1, .int x), (2, .int y), (3, .ref t)]) hx hb dX3_takeSum_1 hl (by decide) rfl (fun ls hl => ?_)
  refine lv_iload_n hx hb dX3_takeSum_3 rfl (lv_at hl 3 rfl) ?_
  refine lv_aload_n hx hb dX3_takeSum_4 rfl (lv_at hl 4 rfl) ?_
  refine cs_i St [1, 2] [0] (wc := [(t, .inr (8, [.ref tb0])), (tb0, .inl (te, 9, .inl ft))]) (wr := [(h, .inr (3, [.long p0, .long p1, .long p2, .long p3, .long p4, .long p5]))]) rfl rfl (by decide) (by decide) (va_runV (As := []) (rest := [.int y]) F (x8_matchTill l G k _ t tb0 te ft) (cwVt F mf_X8_matchTill km_X3_28 rfl rfl ⟨Nat.le_of_ble_eq_true rfl, Nat.le_of_ble_eq_true rfl⟩) (cs_preV St [1, 2] rfl (by decide) [0] rfl (ci := 8) (q0 := 1) rfl rfl) rfl rfl hl.1 rfl (lv_room (Nat.le_of_ble_eq_true rfl)) dX3_takeSum_5 ⟨Nat.le_of_ble_eq_true rfl, Nat.le_of_ble_eq_true rfl⟩) (fun r_1 u_2 H locs hw St => ?_)
  try dsimp only at hw
  have St : cS G k [(h, .inr (3, [.long p0, .long p1, .long p2, .long p3, .long p4, .long p5])), (t, .inr (8, [.ref tb0])), (tb0, .inl (te, 9, .inl ft))] [(te, .int)] A s H locs := St
  refine lv_icmp_gt (tgt := 50) hx hb dX3_takeSum_8 (by decide) (fun c8 => ?_) (fun c8 => ?_)
  ·
    have i8 := ci_lt (x := r_1) (y := y) rfl rfl c8
    refine lv_aload_n hx hb dX3_takeSum_50 rfl (lv_at hl 1 rfl) ?_
    refine lv_dup hx hb dX3_takeSum_51 rfl ?_
    refine cs_get F St 0 rfl rfl inX3 2 (by decide) kf_X3_16 rfl dX3_takeSum_52 ?_
    refine lv_lload hx hb dX3_takeSum_55 (lv_at hl 0 rfl) ?_
    refine lv_ladd hx hb dX3_takeSum_57 ?_
    refine lv_topl (fun y_3 ey_3 => ?_)
    first | have jy_3 : y_3.toInt = p2.toInt + 0 := (by have q9 := cl_add (x := p2) (y := 0) (u := p2.toInt) (v := 0) rfl (by decide) ey_3; omega) | have jy_3 := cl_add (x := p2) (y := 0) (u := p2.toInt) (v := 0) rfl (by decide) ey_3
    refine cs_put F St 0 rfl rfl inX3 tyX3_ok nmX3 2 (by decide) kf_X3_16 rfl rfl rfl (Nat.le_of_ble_eq_true rfl) (w' := [(h, .inr (3, [.long p0, .long p1, .long y_3, .long p3, .long p4, .long p5])), (t, .inr (8, [.ref tb0])), (tb0, .inl (te, 9, .inl ft))]) rfl dX3_takeSum_58 (fun H locs St => ?_)
    refine lv_aload_n hx hb dX3_takeSum_61 rfl (lv_at hl 1 rfl) ?_
    refine lv_dup hx hb dX3_takeSum_62 rfl ?_
    refine cs_get F St 0 rfl rfl inX3 0 (by decide) kf_X3_7 rfl dX3_takeSum_63 ?_
    refine lv_iload_n hx hb dX3_takeSum_66 rfl (lv_at hl 2 rfl) ?_
    refine lv_i2l (v := x.toInt64) hx hb dX3_takeSum_67 rfl ?_
    refine lv_lload hx hb dX3_takeSum_68 (lv_at hl 0 rfl) ?_
    refine lv_ladd hx hb dX3_takeSum_70 ?_
    refine lv_topl (fun y_4 ey_4 => ?_)
    first | have jy_4 : y_4.toInt = x.toInt + 0 := (by have q7 := ci_rng x; have q9 := cl_add (x := x.toInt64) (y := 0) (u := x.toInt) (v := 0) (Int32.toInt_toInt64 x) (by decide) ey_4; omega) | have jy_4 := cl_add (x := x.toInt64) (y := 0) (u := x.toInt) (v := 0) (Int32.toInt_toInt64 x) (by decide) ey_4
    refine lv_ladd hx hb dX3_takeSum_71 ?_
    refine lv_topl (fun y_5 ey_5 => ?_)
    first | have jy_5 : y_5.toInt = p0.toInt + y_4.toInt := (by have q9 := cl_add (x := p0) (y := y_4) (u := p0.toInt) (v := y_4.toInt) rfl rfl ey_5; omega) | have jy_5 := cl_add (x := p0) (y := y_4) (u := p0.toInt) (v := y_4.toInt) rfl rfl ey_5
    refine cs_put F St 0 rfl rfl inX3 tyX3_ok nmX3 0 (by decide) kf_X3_7 rfl rfl rfl (Nat.le_of_ble_eq_true rfl) (w' := [(h, .inr (3, [.long y_5, .long p1, .long y_3, .long p3, .long p4, .long p5])), (t, .inr (8, [.ref tb0])), (tb0, .inl (te, 9, .inl ft))]) rfl dX3_takeSum_72 (fun H locs St => ?_)
    refine lv_lload hx hb dX3_takeSum_75 (lv_at hl 0 rfl) ?_
    refine lv_l2i (v := 0) hx hb dX3_takeSum_77 (by decide) ?_
    exact cs_iret F hr hlk hQ St (y_5, p1, y_3, p3, p4, p5) (r := 0) (by trivial) [0, 1, 2] rfl (by decide) [] rfl (by decide) (by decide) dX3_takeSum_78
  ·
    have i8 := ci_nlt (x := r_1) (y := y) rfl rfl c8
    refine lv_iload_n hx hb dX3_takeSum_11 rfl (lv_at hl 2 rfl) ?_
    refine lv_i2l (v := x.toInt64) hx hb dX3_takeSum_12 rfl ?_
    refine lv_aload_n hx hb dX3_takeSum_13 rfl (lv_at hl 4 rfl) ?_
    refine cs_i St [1, 2] [0] (wc := [(t, .inr (8, [.ref tb0])), (tb0, .inl (te, 9, .inl ft))]) (wr := [(h, .inr (3, [.long p0, .long p1, .long p2, .long p3, .long p4, .long p5]))]) rfl rfl (by decide) (by decide) (va_runV (As := []) (rest := [.long x.toInt64]) F (x8_matchHundredths l G k _ t tb0 te ft) (cwVt F mf_X8_matchHundredths km_X3_34 rfl rfl ⟨Nat.le_of_ble_eq_true rfl, Nat.le_of_ble_eq_true rfl⟩) (cs_preV St [1, 2] rfl (by decide) [0] rfl (ci := 8) (q0 := 1) rfl rfl) rfl rfl hl.1 rfl (lv_room (Nat.le_of_ble_eq_true rfl)) dX3_takeSum_14 ⟨Nat.le_of_ble_eq_true rfl, Nat.le_of_ble_eq_true rfl⟩) (fun r_6 u_7 H locs hw St => ?_)
    try dsimp only at hw
    have St : cS G k [(h, .inr (3, [.long p0, .long p1, .long p2, .long p3, .long p4, .long p5])), (t, .inr (8, [.ref tb0])), (tb0, .inl (te, 9, .inl ft))] [(te, .int)] A s H locs := St
    refine lv_i2l (v := r_6.toInt64) hx hb dX3_takeSum_17 rfl ?_
    refine lv_lmul hx hb dX3_takeSum_18 ?_
    refine lv_topl (fun y_8 ey_8 => ?_)
    refine lv_ldc2 (v := 100) hx hb F.2.2.2.1 (F.2.2.2.2 _ kk_X3_37) dX3_takeSum_19 ?_
    refine lv_ldiv hx hb dX3_takeSum_22 (by decide) ?_
    refine lv_topl (fun y_9 ey_9 => ?_)
    refine lv_lstore (lv' := [(6, .long y_9), (4, .long 0), (0, .ref h), (1, .int x), (2, .int y), (3, .ref t)]) hx hb dX3_takeSum_23 hl (by decide) rfl (fun ls hl => ?_)
    refine lv_lconst (v := 0) hx hb dX3_takeSum_25 (by decide) ?_
    refine lv_aload_n hx hb dX3_takeSum_26 rfl (lv_at hl 5 rfl) ?_
    refine cs_i St [1, 2] [0] (wc := [(t, .inr (8, [.ref tb0])), (tb0, .inl (te, 9, .inl ft))]) (wr := [(h, .inr (3, [.long p0, .long p1, .long p2, .long p3, .long p4, .long p5]))]) rfl rfl (by decide) (by decide) (va_runV (As := []) (rest := [.long 0]) F (x8_matchCapPence l G k _ t tb0 te ft) (cwVt F mf_X8_matchCapPence km_X3_39 rfl rfl ⟨Nat.le_of_ble_eq_true rfl, Nat.le_of_ble_eq_true rfl⟩) (cs_preV St [1, 2] rfl (by decide) [0] rfl (ci := 8) (q0 := 1) rfl rfl) rfl rfl hl.1 rfl (lv_room (Nat.le_of_ble_eq_true rfl)) dX3_takeSum_27 ⟨Nat.le_of_ble_eq_true rfl, Nat.le_of_ble_eq_true rfl⟩) (fun r_10 u_11 H locs hw St => ?_)
    try dsimp only at hw
    have St : cS G k [(h, .inr (3, [.long p0, .long p1, .long p2, .long p3, .long p4, .long p5])), (t, .inr (8, [.ref tb0])), (tb0, .inl (te, 9, .inl ft))] [(te, .int)] A s H locs := St
    refine lv_i2l (v := r_10.toInt64) hx hb dX3_takeSum_30 rfl ?_
    refine lv_aload_n hx hb dX3_takeSum_31 rfl (lv_at hl 2 rfl) ?_
    refine cs_get F St 0 rfl rfl inX3 2 (by decide) kf_X3_16 rfl dX3_takeSum_32 ?_
    refine lv_lsub hx hb dX3_takeSum_35 ?_
    refine lv_topl (fun y_12 ey_12 => ?_)
    first | have jy_12 : y_12.toInt = r_10.toInt - p2.toInt := (by have q7 := ci_rng r_10; have q9 := cl_sub (x := r_10.toInt64) (y := p2) (u := r_10.toInt) (v := p2.toInt) (Int32.toInt_toInt64 r_10) rfl ey_12; omega) | have jy_12 := cl_sub (x := r_10.toInt64) (y := p2) (u := r_10.toInt) (v := p2.toInt) (Int32.toInt_toInt64 r_10) rfl ey_12
    refine va_mmax_long hx hb (F.2.2.1.trans hl.1.symm) F.2.2.2.1 (F.2.2.2.2 _ km_X3_42) (F.2.2.2.2 _ ks_J9_max_f86c9) (F.2.2.2.2 _ ki_J9) (F.2.2.2.2 _ kd_J9_max_f86c9) (Nat.le_of_ble_eq_true rfl) (Nat.le_of_ble_eq_true rfl) (Nat.le_of_ble_eq_true rfl) (Nat.le_of_ble_eq_true rfl) dX3_takeSum_36 ?_
    refine lv_topl (fun y_13 ey_13 => ?_)
    refine lv_lstore (lv' := [(8, .long y_13), (6, .long y_9), (4, .long 0), (0, .ref h), (1, .int x), (2, .int y), (3, .ref t)]) hx hb dX3_takeSum_39 hl (by decide) rfl (fun ls hl => ?_)
    refine lv_lload hx hb dX3_takeSum_41 (lv_at hl 1 rfl) ?_
    refine lv_lload hx hb dX3_takeSum_43 (lv_at hl 0 rfl) ?_
    refine va_mmin_long hx hb (F.2.2.1.trans hl.1.symm) F.2.2.2.1 (F.2.2.2.2 _ km_X3_48) (F.2.2.2.2 _ ks_J9_min_f86c9) (F.2.2.2.2 _ ki_J9) (F.2.2.2.2 _ kd_J9_min_f86c9) (Nat.le_of_ble_eq_true rfl) (Nat.le_of_ble_eq_true rfl) (Nat.le_of_ble_eq_true rfl) (Nat.le_of_ble_eq_true rfl) dX3_takeSum_45 ?_
    refine lv_topl (fun y_14 ey_14 => ?_)
    refine lv_lstore (lv' := [(4, .long y_14), (8, .long y_13), (6, .long y_9), (0, .ref h), (1, .int x), (2, .int y), (3, .ref t)]) hx hb dX3_takeSum_48 hl (by decide) rfl (fun ls hl => ?_)
    refine lv_aload_n hx hb dX3_takeSum_50 rfl (lv_at hl 3 rfl) ?_
    refine lv_dup hx hb dX3_takeSum_51 rfl ?_
    refine cs_get F St 0 rfl rfl inX3 2 (by decide) kf_X3_16 rfl dX3_takeSum_52 ?_
    refine lv_lload hx hb dX3_takeSum_55 (lv_at hl 0 rfl) ?_
    refine lv_ladd hx hb dX3_takeSum_57 ?_
    refine lv_topl (fun y_15 ey_15 => ?_)
    first | have jy_15 : y_15.toInt = p2.toInt + y_14.toInt := (by have q9 := cl_add (x := p2) (y := y_14) (u := p2.toInt) (v := y_14.toInt) rfl rfl ey_15; omega) | have jy_15 := cl_add (x := p2) (y := y_14) (u := p2.toInt) (v := y_14.toInt) rfl rfl ey_15
    refine cs_put F St 0 rfl rfl inX3 tyX3_ok nmX3 2 (by decide) kf_X3_16 rfl rfl rfl (Nat.le_of_ble_eq_true rfl) (w' := [(h, .inr (3, [.long p0, .long p1, .long y_15, .long p3, .long p4, .long p5])), (t, .inr (8, [.ref tb0])), (tb0, .inl (te, 9, .inl ft))]) rfl dX3_takeSum_58 (fun H locs St => ?_)
    refine lv_aload_n hx hb dX3_takeSum_61 rfl (lv_at hl 3 rfl) ?_
    refine lv_dup hx hb dX3_takeSum_62 rfl ?_
    refine cs_get F St 0 rfl rfl inX3 0 (by decide) kf_X3_7 rfl dX3_takeSum_63 ?_
    refine lv_iload_n hx hb dX3_takeSum_66 rfl (lv_at hl 4 rfl) ?_
    refine lv_i2l (v := x.toInt64) hx hb dX3_takeSum_67 rfl ?_
    refine lv_lload hx hb dX3_takeSum_68 (lv_at hl 0 rfl) ?_
    refine lv_ladd hx hb dX3_takeSum_70 ?_
    refine lv_topl (fun y_16 ey_16 => ?_)
    first | have jy_16 : y_16.toInt = x.toInt + y_14.toInt := (by have q7 := ci_rng x; have q9 := cl_add (x := x.toInt64) (y := y_14) (u := x.toInt) (v := y_14.toInt) (Int32.toInt_toInt64 x) rfl ey_16; omega) | have jy_16 := cl_add (x := x.toInt64) (y := y_14) (u := x.toInt) (v := y_14.toInt) (Int32.toInt_toInt64 x) rfl ey_16
    refine lv_ladd hx hb dX3_takeSum_71 ?_
    refine lv_topl (fun y_17 ey_17 => ?_)
    first | have jy_17 : y_17.toInt = p0.toInt + y_16.toInt := (by have q9 := cl_add (x := p0) (y := y_16) (u := p0.toInt) (v := y_16.toInt) rfl rfl ey_17; omega) | have jy_17 := cl_add (x := p0) (y := y_16) (u := p0.toInt) (v := y_16.toInt) rfl rfl ey_17
    refine cs_put F St 0 rfl rfl inX3 tyX3_ok nmX3 0 (by decide) kf_X3_7 rfl rfl rfl (Nat.le_of_ble_eq_true rfl) (w' := [(h, .inr (3, [.long y_17, .long p1, .long y_15, .long p3, .long p4, .long p5])), (t, .inr (8, [.ref tb0])), (tb0, .inl (te, 9, .inl ft))]) rfl dX3_takeSum_72 (fun H locs St => ?_)
    refine lv_lload hx hb dX3_takeSum_75 (lv_at hl 0 rfl) ?_
    refine lv_l2i (v := y_14.toInt32) hx hb dX3_takeSum_77 rfl ?_
    exact cs_iret F hr hlk hQ St (y_17, p1, y_15, p3, p4, p5) (r := y_14.toInt32) (by trivial) [0, 1, 2] rfl (by decide) [] rfl (by decide) (by decide) dX3_takeSum_78
set_option maxHeartbeats 4000000 in
set_option maxRecDepth 100000 in
theorem x3_takeTax (l : Launch) (G : va_G) (k : Nat → Nat) (sz : Nat) (h : Nat) (p0 : Int64) (p1 : Int64) (p2 : Int64) (p3 : Int64) (p4 : Int64) (p5 : Int64) (x : Int32) : Met l yX3_takeTax (Cond.code yX3_takeTax cX3_takeTax 2 none :: tb) ({ frames := 0, cells := 0, slots := 0, locals := 0 } : Room) (va_Pc [.ref h, .int x] (cP G k [(h, .inr (3, [.long p0, .long p1, .long p2, .long p3, .long p4, .long p5]))] [] sz)) (va_Qv (fun (u : Int64 × Int64 × Int64 × Int64 × Int64 × Int64) => match u with | (q0, q1, q2, q3, q4, q5) => True) (cB G (fun u => match u with | (q0, q1, q2, q3, q4, q5) => [(h, .inr (3, [.long q0, .long q1, .long q2, .long q3, .long q4, .long q5]))]) (fun u => match u with | (q0, q1, q2, q3, q4, q5) => []) (va_A [(h, .inr (3, [.long p0, .long p1, .long p2, .long p3, .long p4, .long p5]))] sz)) (va_A [(h, .inr (3, [.long p0, .long p1, .long p2, .long p3, .long p4, .long p5]))] sz)) 0 0 (va_A [(h, .inr (3, [.long p0, .long p1, .long p2, .long p3, .long p4, .long p5]))] sz) := by
  refine ofC_v (cc := cX3_takeTax) (maxL := 2) (ret := none) (by decide) rfl (Nat.le_of_ble_eq_true rfl) ?_
  intro p e s m args below meth c A ls Q F hr hin hlk St hl hQ
  have hx := F.1
  have hb := F.2.1
  have hl : lv_has ls 2 [(0, .ref h), (1, .int x)] := hl
  have St : cS G k [(h, .inr (3, [.long p0, .long p1, .long p2, .long p3, .long p4, .long p5]))] [] A s s.heap [] := St
  refine lv_aload_n hx hb dX3_takeTax_0 rfl (lv_at hl 0 rfl) ?_
  refine lv_dup hx hb dX3_takeTax_1 rfl ?_
  refine cs_get F St 0 rfl rfl inX3 3 (by decide) kf_X3_19 rfl dX3_takeTax_2 ?_
  refine lv_iload_n hx hb dX3_takeTax_5 rfl (lv_at hl 1 rfl) ?_
  refine lv_i2l (v := x.toInt64) hx hb dX3_takeTax_6 rfl ?_
  refine lv_ladd hx hb dX3_takeTax_7 ?_
  refine lv_topl (fun y_1 ey_1 => ?_)
  first | have jy_1 : y_1.toInt = p3.toInt + x.toInt := (by have q8 := ci_rng x; have q9 := cl_add (x := p3) (y := x.toInt64) (u := p3.toInt) (v := x.toInt) rfl (Int32.toInt_toInt64 x) ey_1; omega) | have jy_1 := cl_add (x := p3) (y := x.toInt64) (u := p3.toInt) (v := x.toInt) rfl (Int32.toInt_toInt64 x) ey_1
  refine cs_put F St 0 rfl rfl inX3 tyX3_ok nmX3 3 (by decide) kf_X3_19 rfl rfl rfl (Nat.le_of_ble_eq_true rfl) (w' := [(h, .inr (3, [.long p0, .long p1, .long p2, .long y_1, .long p4, .long p5]))]) rfl dX3_takeTax_8 (fun H locs St => ?_)
  refine lv_aload_n hx hb dX3_takeTax_11 rfl (lv_at hl 0 rfl) ?_
  refine lv_dup hx hb dX3_takeTax_12 rfl ?_
  refine cs_get F St 0 rfl rfl inX3 0 (by decide) kf_X3_7 rfl dX3_takeTax_13 ?_
  refine lv_iload_n hx hb dX3_takeTax_16 rfl (lv_at hl 1 rfl) ?_
  refine lv_i2l (v := x.toInt64) hx hb dX3_takeTax_17 rfl ?_
  refine lv_ladd hx hb dX3_takeTax_18 ?_
  refine lv_topl (fun y_2 ey_2 => ?_)
  first | have jy_2 : y_2.toInt = p0.toInt + x.toInt := (by have q8 := ci_rng x; have q9 := cl_add (x := p0) (y := x.toInt64) (u := p0.toInt) (v := x.toInt) rfl (Int32.toInt_toInt64 x) ey_2; omega) | have jy_2 := cl_add (x := p0) (y := x.toInt64) (u := p0.toInt) (v := x.toInt) rfl (Int32.toInt_toInt64 x) ey_2
  refine cs_put F St 0 rfl rfl inX3 tyX3_ok nmX3 0 (by decide) kf_X3_7 rfl rfl rfl (Nat.le_of_ble_eq_true rfl) (w' := [(h, .inr (3, [.long y_2, .long p1, .long p2, .long y_1, .long p4, .long p5]))]) rfl dX3_takeTax_19 (fun H locs St => ?_)
  exact cs_vret F hr hlk hQ St (y_2, p1, p2, y_1, p4, p5) (by trivial) [0] rfl (by decide) [] rfl (by decide) (by decide) dX3_takeTax_22
set_option maxHeartbeats 4000000 in
set_option maxRecDepth 100000 in
theorem x3_growLoan (l : Launch) (G : va_G) (k : Nat → Nat) (sz : Nat) (h : Nat) (p0 : Int64) (p1 : Int64) (p2 : Int64) (p3 : Int64) (p4 : Int64) (p5 : Int64) (x : Int32) : Met l yX3_growLoan (Cond.code yX3_growLoan cX3_growLoan 4 none :: tb) ({ frames := 0, cells := 0, slots := 0, locals := 0 } : Room) (va_Pc [.ref h, .int x] (cP G k [(h, .inr (3, [.long p0, .long p1, .long p2, .long p3, .long p4, .long p5]))] [] sz)) (va_Qv (fun (u : Int64 × Int64 × Int64 × Int64 × Int64 × Int64) => match u with | (q0, q1, q2, q3, q4, q5) => True) (cB G (fun u => match u with | (q0, q1, q2, q3, q4, q5) => [(h, .inr (3, [.long q0, .long q1, .long q2, .long q3, .long q4, .long q5]))]) (fun u => match u with | (q0, q1, q2, q3, q4, q5) => []) (va_A [(h, .inr (3, [.long p0, .long p1, .long p2, .long p3, .long p4, .long p5]))] sz)) (va_A [(h, .inr (3, [.long p0, .long p1, .long p2, .long p3, .long p4, .long p5]))] sz)) 0 0 (va_A [(h, .inr (3, [.long p0, .long p1, .long p2, .long p3, .long p4, .long p5]))] sz) := by
  refine ofC_v (cc := cX3_growLoan) (maxL := 4) (ret := none) (by decide) rfl (Nat.le_of_ble_eq_true rfl) ?_
  intro p e s m args below meth c A ls Q F hr hin hlk St hl hQ
  have hx := F.1
  have hb := F.2.1
  have hl : lv_has ls 4 [(0, .ref h), (1, .int x)] := hl
  have St : cS G k [(h, .inr (3, [.long p0, .long p1, .long p2, .long p3, .long p4, .long p5]))] [] A s s.heap [] := St
  refine lv_aload_n hx hb dX3_growLoan_0 rfl (lv_at hl 0 rfl) ?_
  refine cs_get F St 0 rfl rfl inX3 1 (by decide) kf_X3_13 rfl dX3_growLoan_1 ?_
  refine lv_iload_n hx hb dX3_growLoan_4 rfl (lv_at hl 1 rfl) ?_
  refine lv_i2l (v := x.toInt64) hx hb dX3_growLoan_5 rfl ?_
  refine lv_lmul hx hb dX3_growLoan_6 ?_
  refine lv_topl (fun y_1 ey_1 => ?_)
  refine lv_ldc2 (v := 1000) hx hb F.2.2.2.1 (F.2.2.2.2 _ kk_X3_51) dX3_growLoan_7 ?_
  refine lv_ldiv hx hb dX3_growLoan_10 (by decide) ?_
  refine lv_topl (fun y_2 ey_2 => ?_)
  refine lv_lstore_n (lv' := [(2, .long y_2), (0, .ref h), (1, .int x)]) hx hb dX3_growLoan_11 rfl hl (by decide) rfl (fun ls hl => ?_)
  refine lv_aload_n hx hb dX3_growLoan_12 rfl (lv_at hl 1 rfl) ?_
  refine lv_dup hx hb dX3_growLoan_13 rfl ?_
  refine cs_get F St 0 rfl rfl inX3 1 (by decide) kf_X3_13 rfl dX3_growLoan_14 ?_
  refine lv_lload_n hx hb dX3_growLoan_17 rfl (lv_at hl 0 rfl) ?_
  refine lv_ladd hx hb dX3_growLoan_18 ?_
  refine lv_topl (fun y_3 ey_3 => ?_)
  first | have jy_3 : y_3.toInt = p1.toInt + y_2.toInt := (by have q9 := cl_add (x := p1) (y := y_2) (u := p1.toInt) (v := y_2.toInt) rfl rfl ey_3; omega) | have jy_3 := cl_add (x := p1) (y := y_2) (u := p1.toInt) (v := y_2.toInt) rfl rfl ey_3
  refine cs_put F St 0 rfl rfl inX3 tyX3_ok nmX3 1 (by decide) kf_X3_13 rfl rfl rfl (Nat.le_of_ble_eq_true rfl) (w' := [(h, .inr (3, [.long p0, .long y_3, .long p2, .long p3, .long p4, .long p5]))]) rfl dX3_growLoan_19 (fun H locs St => ?_)
  refine lv_aload_n hx hb dX3_growLoan_22 rfl (lv_at hl 1 rfl) ?_
  refine lv_dup hx hb dX3_growLoan_23 rfl ?_
  refine cs_get F St 0 rfl rfl inX3 5 (by decide) kf_X3_25 rfl dX3_growLoan_24 ?_
  refine lv_lload_n hx hb dX3_growLoan_27 rfl (lv_at hl 0 rfl) ?_
  refine lv_ladd hx hb dX3_growLoan_28 ?_
  refine lv_topl (fun y_4 ey_4 => ?_)
  first | have jy_4 : y_4.toInt = p5.toInt + y_2.toInt := (by have q9 := cl_add (x := p5) (y := y_2) (u := p5.toInt) (v := y_2.toInt) rfl rfl ey_4; omega) | have jy_4 := cl_add (x := p5) (y := y_2) (u := p5.toInt) (v := y_2.toInt) rfl rfl ey_4
  refine cs_put F St 0 rfl rfl inX3 tyX3_ok nmX3 5 (by decide) kf_X3_25 rfl rfl rfl (Nat.le_of_ble_eq_true rfl) (w' := [(h, .inr (3, [.long p0, .long y_3, .long p2, .long p3, .long p4, .long y_4]))]) rfl dX3_growLoan_29 (fun H locs St => ?_)
  exact cs_vret F hr hlk hQ St (p0, y_3, p2, p3, p4, y_4) (by trivial) [0] rfl (by decide) [] rfl (by decide) (by decide) dX3_growLoan_32
set_option maxHeartbeats 4000000 in
set_option maxRecDepth 100000 in
theorem x3_giveBack (l : Launch) (G : va_G) (k : Nat → Nat) (sz : Nat) (h : Nat) (p0 : Int64) (p1 : Int64) (p2 : Int64) (p3 : Int64) (p4 : Int64) (p5 : Int64) (x : Int32) : Met l yX3_giveBack (Cond.code yX3_giveBack cX3_giveBack 2 none :: tb) ({ frames := 0, cells := 0, slots := 0, locals := 0 } : Room) (va_Pc [.ref h, .int x] (cP G k [(h, .inr (3, [.long p0, .long p1, .long p2, .long p3, .long p4, .long p5]))] [] sz)) (va_Qv (fun (u : Int64 × Int64 × Int64 × Int64 × Int64 × Int64) => match u with | (q0, q1, q2, q3, q4, q5) => True) (cB G (fun u => match u with | (q0, q1, q2, q3, q4, q5) => [(h, .inr (3, [.long q0, .long q1, .long q2, .long q3, .long q4, .long q5]))]) (fun u => match u with | (q0, q1, q2, q3, q4, q5) => []) (va_A [(h, .inr (3, [.long p0, .long p1, .long p2, .long p3, .long p4, .long p5]))] sz)) (va_A [(h, .inr (3, [.long p0, .long p1, .long p2, .long p3, .long p4, .long p5]))] sz)) 0 0 (va_A [(h, .inr (3, [.long p0, .long p1, .long p2, .long p3, .long p4, .long p5]))] sz) := by
  refine ofC_v (cc := cX3_giveBack) (maxL := 2) (ret := none) (by decide) rfl (Nat.le_of_ble_eq_true rfl) ?_
  intro p e s m args below meth c A ls Q F hr hin hlk St hl hQ
  have hx := F.1
  have hb := F.2.1
  have hl : lv_has ls 2 [(0, .ref h), (1, .int x)] := hl
  have St : cS G k [(h, .inr (3, [.long p0, .long p1, .long p2, .long p3, .long p4, .long p5]))] [] A s s.heap [] := St
  refine lv_aload_n hx hb dX3_giveBack_0 rfl (lv_at hl 0 rfl) ?_
  refine lv_dup hx hb dX3_giveBack_1 rfl ?_
  refine cs_get F St 0 rfl rfl inX3 0 (by decide) kf_X3_7 rfl dX3_giveBack_2 ?_
  refine lv_iload_n hx hb dX3_giveBack_5 rfl (lv_at hl 1 rfl) ?_
  refine lv_i2l (v := x.toInt64) hx hb dX3_giveBack_6 rfl ?_
  refine lv_lsub hx hb dX3_giveBack_7 ?_
  refine lv_topl (fun y_1 ey_1 => ?_)
  first | have jy_1 : y_1.toInt = p0.toInt - x.toInt := (by have q8 := ci_rng x; have q9 := cl_sub (x := p0) (y := x.toInt64) (u := p0.toInt) (v := x.toInt) rfl (Int32.toInt_toInt64 x) ey_1; omega) | have jy_1 := cl_sub (x := p0) (y := x.toInt64) (u := p0.toInt) (v := x.toInt) rfl (Int32.toInt_toInt64 x) ey_1
  refine cs_put F St 0 rfl rfl inX3 tyX3_ok nmX3 0 (by decide) kf_X3_7 rfl rfl rfl (Nat.le_of_ble_eq_true rfl) (w' := [(h, .inr (3, [.long y_1, .long p1, .long p2, .long p3, .long p4, .long p5]))]) rfl dX3_giveBack_8 (fun H locs St => ?_)
  exact cs_vret F hr hlk hQ St (y_1, p1, p2, p3, p4, p5) (by trivial) [0] rfl (by decide) [] rfl (by decide) (by decide) dX3_giveBack_11
set_option maxHeartbeats 4000000 in
set_option maxRecDepth 100000 in
theorem x3_payBackLoan (l : Launch) (G : va_G) (k : Nat → Nat) (sz : Nat) (h : Nat) (p0 : Int64) (p1 : Int64) (p2 : Int64) (p3 : Int64) (p4 : Int64) (p5 : Int64) : Met l yX3_payBackLoan (Cond.code yX3_payBackLoan cX3_payBackLoan 3 none :: tb) ({ frames := 1, cells := 0, slots := 0, locals := 23 } : Room) (va_Pc [.ref h] (cP G k [(h, .inr (3, [.long p0, .long p1, .long p2, .long p3, .long p4, .long p5]))] [] sz)) (va_Qv (fun (u : Int64 × Int64 × Int64 × Int64 × Int64 × Int64) => match u with | (q0, q1, q2, q3, q4, q5) => True) (cB G (fun u => match u with | (q0, q1, q2, q3, q4, q5) => [(h, .inr (3, [.long q0, .long q1, .long q2, .long q3, .long q4, .long q5]))]) (fun u => match u with | (q0, q1, q2, q3, q4, q5) => []) (va_A [(h, .inr (3, [.long p0, .long p1, .long p2, .long p3, .long p4, .long p5]))] sz)) (va_A [(h, .inr (3, [.long p0, .long p1, .long p2, .long p3, .long p4, .long p5]))] sz)) 0 0 (va_A [(h, .inr (3, [.long p0, .long p1, .long p2, .long p3, .long p4, .long p5]))] sz) := by
  refine ofC_v (cc := cX3_payBackLoan) (maxL := 3) (ret := none) (by decide) rfl (Nat.le_of_ble_eq_true rfl) ?_
  intro p e s m args below meth c A ls Q F hr hin hlk St hl hQ
  have hx := F.1
  have hb := F.2.1
  have hl : lv_has ls 3 [(0, .ref h)] := hl
  have St : cS G k [(h, .inr (3, [.long p0, .long p1, .long p2, .long p3, .long p4, .long p5]))] [] A s s.heap [] := St
  refine lv_aload_n hx hb dX3_payBackLoan_0 rfl (lv_at hl 0 rfl) ?_
  refine cs_get F St 0 rfl rfl inX3 0 (by decide) kf_X3_7 rfl dX3_payBackLoan_1 ?_
  refine lv_aload_n hx hb dX3_payBackLoan_4 rfl (lv_at hl 0 rfl) ?_
  refine cs_get F St 0 rfl rfl inX3 1 (by decide) kf_X3_13 rfl dX3_payBackLoan_5 ?_
  refine va_mmin_long hx hb (F.2.2.1.trans hl.1.symm) F.2.2.2.1 (F.2.2.2.2 _ km_X3_48) (F.2.2.2.2 _ ks_J9_min_f86c9) (F.2.2.2.2 _ ki_J9) (F.2.2.2.2 _ kd_J9_min_f86c9) (Nat.le_of_ble_eq_true rfl) (Nat.le_of_ble_eq_true rfl) (Nat.le_of_ble_eq_true rfl) (Nat.le_of_ble_eq_true rfl) dX3_payBackLoan_8 ?_
  refine lv_topl (fun y_1 ey_1 => ?_)
  refine lv_lstore_n (lv' := [(1, .long y_1), (0, .ref h)]) hx hb dX3_payBackLoan_11 rfl hl (by decide) rfl (fun ls hl => ?_)
  refine lv_aload_n hx hb dX3_payBackLoan_12 rfl (lv_at hl 1 rfl) ?_
  refine lv_dup hx hb dX3_payBackLoan_13 rfl ?_
  refine cs_get F St 0 rfl rfl inX3 0 (by decide) kf_X3_7 rfl dX3_payBackLoan_14 ?_
  refine lv_lload_n hx hb dX3_payBackLoan_17 rfl (lv_at hl 0 rfl) ?_
  refine lv_lsub hx hb dX3_payBackLoan_18 ?_
  refine lv_topl (fun y_2 ey_2 => ?_)
  first | have jy_2 : y_2.toInt = p0.toInt - y_1.toInt := (by have q9 := cl_sub (x := p0) (y := y_1) (u := p0.toInt) (v := y_1.toInt) rfl rfl ey_2; omega) | have jy_2 := cl_sub (x := p0) (y := y_1) (u := p0.toInt) (v := y_1.toInt) rfl rfl ey_2
  refine cs_put F St 0 rfl rfl inX3 tyX3_ok nmX3 0 (by decide) kf_X3_7 rfl rfl rfl (Nat.le_of_ble_eq_true rfl) (w' := [(h, .inr (3, [.long y_2, .long p1, .long p2, .long p3, .long p4, .long p5]))]) rfl dX3_payBackLoan_19 (fun H locs St => ?_)
  refine lv_aload_n hx hb dX3_payBackLoan_22 rfl (lv_at hl 1 rfl) ?_
  refine lv_dup hx hb dX3_payBackLoan_23 rfl ?_
  refine cs_get F St 0 rfl rfl inX3 1 (by decide) kf_X3_13 rfl dX3_payBackLoan_24 ?_
  refine lv_lload_n hx hb dX3_payBackLoan_27 rfl (lv_at hl 0 rfl) ?_
  refine lv_lsub hx hb dX3_payBackLoan_28 ?_
  refine lv_topl (fun y_3 ey_3 => ?_)
  first | have jy_3 : y_3.toInt = p1.toInt - y_1.toInt := (by have q9 := cl_sub (x := p1) (y := y_1) (u := p1.toInt) (v := y_1.toInt) rfl rfl ey_3; omega) | have jy_3 := cl_sub (x := p1) (y := y_1) (u := p1.toInt) (v := y_1.toInt) rfl rfl ey_3
  refine cs_put F St 0 rfl rfl inX3 tyX3_ok nmX3 1 (by decide) kf_X3_13 rfl rfl rfl (Nat.le_of_ble_eq_true rfl) (w' := [(h, .inr (3, [.long y_2, .long y_3, .long p2, .long p3, .long p4, .long p5]))]) rfl dX3_payBackLoan_29 (fun H locs St => ?_)
  exact cs_vret F hr hlk hQ St (y_2, y_3, p2, p3, p4, p5) (by trivial) [0] rfl (by decide) [] rfl (by decide) (by decide) dX3_payBackLoan_32
set_option maxHeartbeats 4000000 in
set_option maxRecDepth 100000 in
theorem x3_paysPart (l : Launch) (G : va_G) (k : Nat → Nat) (sz : Nat) (h : Nat) (p0 : Int64) (p1 : Int64) (p2 : Int64) (p3 : Int64) (p4 : Int64) (p5 : Int64) (x : Int32) (y : Int32) : Met l yX3_paysPart (Cond.code yX3_paysPart cX3_paysPart 7 (some .boolean) :: tb) ({ frames := 1, cells := 0, slots := 0, locals := 23 } : Room) (va_Pc [.ref h, .int x, .int y] (cP G k [(h, .inr (3, [.long p0, .long p1, .long p2, .long p3, .long p4, .long p5]))] [] sz)) (va_Qi (fun (r : Int32) (u : Int64 × Int64 × Int64 × Int64 × Int64 × Int64) => match u with | (q0, q1, q2, q3, q4, q5) => ((r = 1)) ∨ ((r = 0))) (cB G (fun u => match u with | (q0, q1, q2, q3, q4, q5) => [(h, .inr (3, [.long q0, .long q1, .long q2, .long q3, .long q4, .long q5]))]) (fun u => match u with | (q0, q1, q2, q3, q4, q5) => []) (va_A [(h, .inr (3, [.long p0, .long p1, .long p2, .long p3, .long p4, .long p5]))] sz)) (va_A [(h, .inr (3, [.long p0, .long p1, .long p2, .long p3, .long p4, .long p5]))] sz)) 0 0 (va_A [(h, .inr (3, [.long p0, .long p1, .long p2, .long p3, .long p4, .long p5]))] sz) := by
  refine ofC_i (cc := cX3_paysPart) (maxL := 7) (ret := (some .boolean)) (by decide) rfl (Nat.le_of_ble_eq_true rfl) ?_
  intro p e s m args below meth c A ls Q F hr hin hlk St hl hQ
  have hx := F.1
  have hb := F.2.1
  have hl : lv_has ls 7 [(0, .ref h), (1, .int x), (2, .int y)] := hl
  have St : cS G k [(h, .inr (3, [.long p0, .long p1, .long p2, .long p3, .long p4, .long p5]))] [] A s s.heap [] := St
  refine lv_lconst (v := 0) hx hb dX3_paysPart_0 (by decide) ?_
  refine lv_iload_n hx hb dX3_paysPart_1 rfl (lv_at hl 2 rfl) ?_
  refine lv_i2l (v := y.toInt64) hx hb dX3_paysPart_2 rfl ?_
  refine lv_aload_n hx hb dX3_paysPart_3 rfl (lv_at hl 0 rfl) ?_
  refine cs_get F St 0 rfl rfl inX3 1 (by decide) kf_X3_13 rfl dX3_paysPart_4 ?_
  refine lv_lsub hx hb dX3_paysPart_7 ?_
  refine lv_topl (fun y_1 ey_1 => ?_)
  first | have jy_1 : y_1.toInt = y.toInt - p1.toInt := (by have q7 := ci_rng y; have q9 := cl_sub (x := y.toInt64) (y := p1) (u := y.toInt) (v := p1.toInt) (Int32.toInt_toInt64 y) rfl ey_1; omega) | have jy_1 := cl_sub (x := y.toInt64) (y := p1) (u := y.toInt) (v := p1.toInt) (Int32.toInt_toInt64 y) rfl ey_1
  refine va_mmax_long hx hb (F.2.2.1.trans hl.1.symm) F.2.2.2.1 (F.2.2.2.2 _ km_X3_42) (F.2.2.2.2 _ ks_J9_max_f86c9) (F.2.2.2.2 _ ki_J9) (F.2.2.2.2 _ kd_J9_max_f86c9) (Nat.le_of_ble_eq_true rfl) (Nat.le_of_ble_eq_true rfl) (Nat.le_of_ble_eq_true rfl) (Nat.le_of_ble_eq_true rfl) dX3_paysPart_8 ?_
  refine lv_topl (fun y_2 ey_2 => ?_)
  refine lv_lstore_n (lv' := [(3, .long y_2), (0, .ref h), (1, .int x), (2, .int y)]) hx hb dX3_paysPart_11 rfl hl (by decide) rfl (fun ls hl => ?_)
  refine lv_aload_n hx hb dX3_paysPart_12 rfl (lv_at hl 1 rfl) ?_
  refine cs_get F St 0 rfl rfl inX3 0 (by decide) kf_X3_7 rfl dX3_paysPart_13 ?_
  refine lv_lload_n hx hb dX3_paysPart_16 rfl (lv_at hl 0 rfl) ?_
  refine lv_ladd hx hb dX3_paysPart_17 ?_
  refine lv_topl (fun y_3 ey_3 => ?_)
  first | have jy_3 : y_3.toInt = p0.toInt + y_2.toInt := (by have q9 := cl_add (x := p0) (y := y_2) (u := p0.toInt) (v := y_2.toInt) rfl rfl ey_3; omega) | have jy_3 := cl_add (x := p0) (y := y_2) (u := p0.toInt) (v := y_2.toInt) rfl rfl ey_3
  refine lv_iload_n hx hb dX3_paysPart_18 rfl (lv_at hl 2 rfl) ?_
  refine lv_i2l (v := x.toInt64) hx hb dX3_paysPart_19 rfl ?_
  refine W.lcmp hx hb dX3_paysPart_20 ?_
  refine lv_if_ge (tgt := 26) hx hb dX3_paysPart_21 (by decide) (fun c21 => ?_) (fun c21 => ?_)
  ·
    have i21 := cl_le (x := x.toInt64) (y := y_3) (u := x.toInt) (v := y_3.toInt) (Int32.toInt_toInt64 x) rfl ((lg_cmp_ge _ _).mp c21)
    refine lv_lconst (v := 0) hx hb dX3_paysPart_26 (by decide) ?_
    refine lv_iload_n hx hb dX3_paysPart_27 rfl (lv_at hl 2 rfl) ?_
    refine lv_i2l (v := x.toInt64) hx hb dX3_paysPart_28 rfl ?_
    refine lv_aload_n hx hb dX3_paysPart_29 rfl (lv_at hl 1 rfl) ?_
    refine cs_get F St 0 rfl rfl inX3 0 (by decide) kf_X3_7 rfl dX3_paysPart_30 ?_
    refine lv_lsub hx hb dX3_paysPart_33 ?_
    refine lv_topl (fun y_4 ey_4 => ?_)
    first | have jy_4 : y_4.toInt = x.toInt - p0.toInt := (by have q7 := ci_rng x; have q9 := cl_sub (x := x.toInt64) (y := p0) (u := x.toInt) (v := p0.toInt) (Int32.toInt_toInt64 x) rfl ey_4; omega) | have jy_4 := cl_sub (x := x.toInt64) (y := p0) (u := x.toInt) (v := p0.toInt) (Int32.toInt_toInt64 x) rfl ey_4
    refine va_mmax_long hx hb (F.2.2.1.trans hl.1.symm) F.2.2.2.1 (F.2.2.2.2 _ km_X3_42) (F.2.2.2.2 _ ks_J9_max_f86c9) (F.2.2.2.2 _ ki_J9) (F.2.2.2.2 _ kd_J9_max_f86c9) (Nat.le_of_ble_eq_true rfl) (Nat.le_of_ble_eq_true rfl) (Nat.le_of_ble_eq_true rfl) (Nat.le_of_ble_eq_true rfl) dX3_paysPart_34 ?_
    refine lv_topl (fun y_5 ey_5 => ?_)
    refine lv_lstore (lv' := [(5, .long y_5), (3, .long y_2), (0, .ref h), (1, .int x), (2, .int y)]) hx hb dX3_paysPart_37 hl (by decide) rfl (fun ls hl => ?_)
    refine lv_aload_n hx hb dX3_paysPart_39 rfl (lv_at hl 2 rfl) ?_
    refine lv_dup hx hb dX3_paysPart_40 rfl ?_
    refine cs_get F St 0 rfl rfl inX3 1 (by decide) kf_X3_13 rfl dX3_paysPart_41 ?_
    refine lv_lload hx hb dX3_paysPart_44 (lv_at hl 0 rfl) ?_
    refine lv_ladd hx hb dX3_paysPart_46 ?_
    refine lv_topl (fun y_6 ey_6 => ?_)
    first | have jy_6 : y_6.toInt = p1.toInt + y_5.toInt := (by have q9 := cl_add (x := p1) (y := y_5) (u := p1.toInt) (v := y_5.toInt) rfl rfl ey_6; omega) | have jy_6 := cl_add (x := p1) (y := y_5) (u := p1.toInt) (v := y_5.toInt) rfl rfl ey_6
    refine cs_put F St 0 rfl rfl inX3 tyX3_ok nmX3 1 (by decide) kf_X3_13 rfl rfl rfl (Nat.le_of_ble_eq_true rfl) (w' := [(h, .inr (3, [.long p0, .long y_6, .long p2, .long p3, .long p4, .long p5]))]) rfl dX3_paysPart_47 (fun H locs St => ?_)
    refine lv_aload_n hx hb dX3_paysPart_50 rfl (lv_at hl 2 rfl) ?_
    refine lv_dup hx hb dX3_paysPart_51 rfl ?_
    refine cs_get F St 0 rfl rfl inX3 0 (by decide) kf_X3_7 rfl dX3_paysPart_52 ?_
    refine lv_lload hx hb dX3_paysPart_55 (lv_at hl 0 rfl) ?_
    refine lv_iload_n hx hb dX3_paysPart_57 rfl (lv_at hl 3 rfl) ?_
    refine lv_i2l (v := x.toInt64) hx hb dX3_paysPart_58 rfl ?_
    refine lv_lsub hx hb dX3_paysPart_59 ?_
    refine lv_topl (fun y_7 ey_7 => ?_)
    first | have jy_7 : y_7.toInt = y_5.toInt - x.toInt := (by have q8 := ci_rng x; have q9 := cl_sub (x := y_5) (y := x.toInt64) (u := y_5.toInt) (v := x.toInt) rfl (Int32.toInt_toInt64 x) ey_7; omega) | have jy_7 := cl_sub (x := y_5) (y := x.toInt64) (u := y_5.toInt) (v := x.toInt) rfl (Int32.toInt_toInt64 x) ey_7
    refine lv_ladd hx hb dX3_paysPart_60 ?_
    refine lv_topl (fun y_8 ey_8 => ?_)
    first | have jy_8 : y_8.toInt = p0.toInt + y_7.toInt := (by have q9 := cl_add (x := p0) (y := y_7) (u := p0.toInt) (v := y_7.toInt) rfl rfl ey_8; omega) | have jy_8 := cl_add (x := p0) (y := y_7) (u := p0.toInt) (v := y_7.toInt) rfl rfl ey_8
    refine cs_put F St 0 rfl rfl inX3 tyX3_ok nmX3 0 (by decide) kf_X3_7 rfl rfl rfl (Nat.le_of_ble_eq_true rfl) (w' := [(h, .inr (3, [.long y_8, .long y_6, .long p2, .long p3, .long p4, .long p5]))]) rfl dX3_paysPart_61 (fun H locs St => ?_)
    refine lv_aload_n hx hb dX3_paysPart_64 rfl (lv_at hl 2 rfl) ?_
    refine lv_dup hx hb dX3_paysPart_65 rfl ?_
    refine cs_get F St 0 rfl rfl inX3 4 (by decide) kf_X3_22 rfl dX3_paysPart_66 ?_
    refine lv_iload_n hx hb dX3_paysPart_69 rfl (lv_at hl 3 rfl) ?_
    refine lv_i2l (v := x.toInt64) hx hb dX3_paysPart_70 rfl ?_
    refine lv_ladd hx hb dX3_paysPart_71 ?_
    refine lv_topl (fun y_9 ey_9 => ?_)
    first | have jy_9 : y_9.toInt = p4.toInt + x.toInt := (by have q8 := ci_rng x; have q9 := cl_add (x := p4) (y := x.toInt64) (u := p4.toInt) (v := x.toInt) rfl (Int32.toInt_toInt64 x) ey_9; omega) | have jy_9 := cl_add (x := p4) (y := x.toInt64) (u := p4.toInt) (v := x.toInt) rfl (Int32.toInt_toInt64 x) ey_9
    refine cs_put F St 0 rfl rfl inX3 tyX3_ok nmX3 4 (by decide) kf_X3_22 rfl rfl rfl (Nat.le_of_ble_eq_true rfl) (w' := [(h, .inr (3, [.long y_8, .long y_6, .long p2, .long p3, .long y_9, .long p5]))]) rfl dX3_paysPart_72 (fun H locs St => ?_)
    refine lv_iconst (v := 1) hx hb dX3_paysPart_75 (by decide) ?_
    exact cs_zret F hr hlk hQ St (y_8, y_6, p2, p3, y_9, p5) (r := 1) rfl (Or.inl rfl) [0] rfl (by decide) [] rfl (by decide) (by decide) dX3_paysPart_76
  ·
    have i21 := cl_nle (x := x.toInt64) (y := y_3) (u := x.toInt) (v := y_3.toInt) (Int32.toInt_toInt64 x) rfl (fun q => c21 ((lg_cmp_ge _ _).mpr q))
    refine lv_iconst (v := 0) hx hb dX3_paysPart_24 (by decide) ?_
    exact cs_zret F hr hlk hQ St (p0, p1, p2, p3, p4, p5) (r := 0) rfl (Or.inr rfl) [0] rfl (by decide) [] rfl (by decide) (by decide) dX3_paysPart_25

