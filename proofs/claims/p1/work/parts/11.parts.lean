set_option maxHeartbeats 4000000 in
set_option maxRecDepth 100000 in
theorem c10_isGiver (l : Launch) (G : va_G) (k : Nat → Nat) (sz : Nat) (g : Int32) : Met l yX10_isGiver (Cond.code yX10_isGiver cX10_isGiver 1 (some .boolean) :: tb) ({ frames := 0, cells := 0, slots := 0, locals := 0 } : Room) (va_Pc [.int g] (cP G k [] [] sz)) (va_Qi (fun (r : Int32) (_ : Unit) => ((r = 1) ∧ (0 ≤ g.toInt ∧ g.toInt < 30)) ∨ ((r = 0) ∧ (¬ (0 ≤ g.toInt ∧ g.toInt < 30)))) (cB G (fun (_ : Unit) => []) (fun (_ : Unit) => []) (va_A [] sz)) (va_A [] sz)) 0 0 (va_A [] sz) := by
  refine ofC_i (cc := cX10_isGiver) (maxL := 1) (ret := (some .boolean)) (by decide) rfl (Nat.le_of_ble_eq_true rfl) ?_
  intro p e s m args below meth c A ls Q F hr hin hlk St hl hQ
  have hx := F.1
  have hb := F.2.1
  have hl : lv_has ls 1 [(0, .int g)] := hl
  have St : cS G k [] [] A s s.heap [] := St
  refine lv_iload_n hx hb dX10_isGiver_0 rfl (lv_at hl 0 rfl) ?_
  refine lv_if_lt (tgt := 14) hx hb dX10_isGiver_1 (by decide) (fun c1 => ?_) (fun c1 => ?_)
  ·
    have i1 := ci_lt (x := g) (y := 0) rfl (show (0 : Int32).toInt = 0 by decide) c1
    refine lv_iconst (v := 0) hx hb dX10_isGiver_14 (by decide) ?_
    exact cs_zret F hr hlk hQ St () (r := 0) rfl (Or.inr ⟨rfl, by omega⟩) [] rfl (by decide) [] rfl (by decide) (by decide) dX10_isGiver_15
  ·
    have i1 := ci_nlt (x := g) (y := 0) rfl (show (0 : Int32).toInt = 0 by decide) c1
    refine lv_iload_n hx hb dX10_isGiver_4 rfl (lv_at hl 0 rfl) ?_
    refine lv_bipush (v := 30) hx hb dX10_isGiver_5 (by decide) ?_
    refine lv_icmp_ge (tgt := 14) hx hb dX10_isGiver_7 (by decide) (fun c7 => ?_) (fun c7 => ?_)
    ·
      have i7 := ci_le (x := 30) (y := g) (show (30 : Int32).toInt = 30 by decide) rfl c7
      refine lv_iconst (v := 0) hx hb dX10_isGiver_14 (by decide) ?_
      exact cs_zret F hr hlk hQ St () (r := 0) rfl (Or.inr ⟨rfl, by omega⟩) [] rfl (by decide) [] rfl (by decide) (by decide) dX10_isGiver_15
    ·
      have i7 := ci_nle (x := 30) (y := g) (show (30 : Int32).toInt = 30 by decide) rfl c7
      refine lv_iconst (v := 1) hx hb dX10_isGiver_10 (by decide) ?_
      refine lv_goto (tgt := 15) hx hb dX10_isGiver_11 (by decide) ?_
      exact cs_zret F hr hlk hQ St () (r := 1) rfl (Or.inl ⟨rfl, by omega⟩) [] rfl (by decide) [] rfl (by decide) (by decide) dX10_isGiver_15
set_option maxHeartbeats 4000000 in
set_option maxRecDepth 100000 in
theorem c10_isWithin (l : Launch) (G : va_G) (k : Nat → Nat) (sz : Nat) (n : Int32) (a : Int32) (b : Int32) (ia : Int) (ib : Int) (ea : a.toInt = ia) (eb : b.toInt = ib) : Met l yX10_isWithin (Cond.code yX10_isWithin cX10_isWithin 3 (some .boolean) :: tb) ({ frames := 0, cells := 0, slots := 0, locals := 0 } : Room) (va_Pc [.int n, .int a, .int b] (cP G k [] [] sz)) (va_Qi (fun (r : Int32) (_ : Unit) => ((r = 1) ∧ (ia ≤ n.toInt ∧ n.toInt ≤ ib)) ∨ ((r = 0) ∧ (¬ (ia ≤ n.toInt ∧ n.toInt ≤ ib)))) (cB G (fun (_ : Unit) => []) (fun (_ : Unit) => []) (va_A [] sz)) (va_A [] sz)) 0 0 (va_A [] sz) := by
  refine ofC_i (cc := cX10_isWithin) (maxL := 3) (ret := (some .boolean)) (by decide) rfl (Nat.le_of_ble_eq_true rfl) ?_
  intro p e s m args below meth c A ls Q F hr hin hlk St hl hQ
  have hx := F.1
  have hb := F.2.1
  have hl : lv_has ls 3 [(0, .int n), (1, .int a), (2, .int b)] := hl
  have St : cS G k [] [] A s s.heap [] := St
  refine lv_iload_n hx hb dX10_isWithin_0 rfl (lv_at hl 0 rfl) ?_
  refine lv_iload_n hx hb dX10_isWithin_1 rfl (lv_at hl 1 rfl) ?_
  refine lv_icmp_lt (tgt := 14) hx hb dX10_isWithin_2 (by decide) (fun c2 => ?_) (fun c2 => ?_)
  ·
    have i2 := ci_lt (x := n) (y := a) rfl rfl c2
    refine lv_iconst (v := 0) hx hb dX10_isWithin_14 (by decide) ?_
    exact cs_zret F hr hlk hQ St () (r := 0) rfl (Or.inr ⟨rfl, by omega⟩) [] rfl (by decide) [] rfl (by decide) (by decide) dX10_isWithin_15
  ·
    have i2 := ci_nlt (x := n) (y := a) rfl rfl c2
    refine lv_iload_n hx hb dX10_isWithin_5 rfl (lv_at hl 0 rfl) ?_
    refine lv_iload_n hx hb dX10_isWithin_6 rfl (lv_at hl 2 rfl) ?_
    refine lv_icmp_gt (tgt := 14) hx hb dX10_isWithin_7 (by decide) (fun c7 => ?_) (fun c7 => ?_)
    ·
      have i7 := ci_lt (x := b) (y := n) rfl rfl c7
      refine lv_iconst (v := 0) hx hb dX10_isWithin_14 (by decide) ?_
      exact cs_zret F hr hlk hQ St () (r := 0) rfl (Or.inr ⟨rfl, by omega⟩) [] rfl (by decide) [] rfl (by decide) (by decide) dX10_isWithin_15
    ·
      have i7 := ci_nlt (x := b) (y := n) rfl rfl c7
      refine lv_iconst (v := 1) hx hb dX10_isWithin_10 (by decide) ?_
      refine lv_goto (tgt := 15) hx hb dX10_isWithin_11 (by decide) ?_
      exact cs_zret F hr hlk hQ St () (r := 1) rfl (Or.inl ⟨rfl, by omega⟩) [] rfl (by decide) [] rfl (by decide) (by decide) dX10_isWithin_15
set_option maxHeartbeats 4000000 in
set_option maxRecDepth 100000 in
theorem c10_isSum (l : Launch) (G : va_G) (k : Nat → Nat) (sz : Nat) (n : Int32) : Met l yX10_isSum (Cond.code yX10_isSum cX10_isSum 1 (some .boolean) :: tb) ({ frames := 1, cells := 0, slots := 0, locals := 22 } : Room) (va_Pc [.int n] (cP G k [] [] sz)) (va_Qi (fun (r : Int32) (_ : Unit) => ((r = 1) ∧ (1 ≤ n.toInt ∧ n.toInt ≤ 5000000)) ∨ ((r = 0) ∧ (¬ (1 ≤ n.toInt ∧ n.toInt ≤ 5000000)))) (cB G (fun (_ : Unit) => []) (fun (_ : Unit) => []) (va_A [] sz)) (va_A [] sz)) 0 0 (va_A [] sz) := by
  refine ofC_i (cc := cX10_isSum) (maxL := 1) (ret := (some .boolean)) (by decide) rfl (Nat.le_of_ble_eq_true rfl) ?_
  intro p e s m args below meth c A ls Q F hr hin hlk St hl hQ
  have hx := F.1
  have hb := F.2.1
  have hl : lv_has ls 1 [(0, .int n)] := hl
  have St : cS G k [] [] A s s.heap [] := St
  refine lv_iload_n hx hb dX10_isSum_0 rfl (lv_at hl 0 rfl) ?_
  refine lv_iconst (v := 1) hx hb dX10_isSum_1 (by decide) ?_
  refine lv_ldcw (v := 5000000) hx hb F.2.2.2.1 (F.2.2.2.2 _ kk_X10_307) dX10_isSum_2 ?_
  refine cs_i St [] [] (wc := []) (wr := []) rfl rfl (by decide) (by decide) (va_runS (As := [.int n, .int 1, .int 5000000]) (rest := []) F (c10_isWithin l G k _ n 1 5000000 1 5000000 (by decide) (by decide)) (cwSt F mf_X10_isWithin km_X10_119 rfl rfl ⟨Nat.le_of_ble_eq_true rfl, Nat.le_of_ble_eq_true rfl⟩) (cs_pre St [] rfl (by decide) [] rfl) rfl rfl hl.1 rfl (lv_room (Nat.le_of_ble_eq_true rfl)) dX10_isSum_5 ⟨Nat.le_of_ble_eq_true rfl, Nat.le_of_ble_eq_true rfl⟩) (fun r_1 u_2 H locs hw St => ?_)
  try dsimp only at hw
  rcases hw with ⟨z_3, hf_4⟩ | ⟨z_5, hf_6⟩
  ·
    subst r_1
    have St : cS G k [] [] A s H locs := St
    exact cs_zret F hr hlk hQ St () (r := 1) rfl (Or.inl ⟨rfl, by omega⟩) [] rfl (by decide) [] rfl (by decide) (by decide) dX10_isSum_8
  ·
    subst r_1
    have St : cS G k [] [] A s H locs := St
    exact cs_zret F hr hlk hQ St () (r := 0) rfl (Or.inr ⟨rfl, by omega⟩) [] rfl (by decide) [] rfl (by decide) (by decide) dX10_isSum_8
set_option maxHeartbeats 4000000 in
set_option maxRecDepth 100000 in
/-- Givers() -/
theorem c0_init (l : Launch) (G : va_G) (k : Nat → Nat) (sz : Nat) (h : Nat) : Met l yX0_init (Cond.code yX0_init cX0_init 2 none :: tb) ({ frames := 1, cells := 6, slots := 180, locals := 20 } : Room) (va_Pc [.ref h] (cP G k [(h, .inr (0, [.null, .null, .null, .null, .null, .null]))] [] sz)) (va_Qv (fun (u : Nat × Nat × Nat × Nat × Nat × Nat × ClassId × ClassId × ClassId × ClassId × ClassId × ClassId) => match u with | (b0, b1, b2, b3, b4, b5, e0, e1, e2, e3, e4, e5) => True) (cB G (fun u => match u with | (b0, b1, b2, b3, b4, b5, e0, e1, e2, e3, e4, e5) => [(h, .inr (0, [.ref b0, .ref b1, .ref b2, .ref b3, .ref b4, .ref b5])), (b0, .inl (e0, 30, .inl (minus 30))), (b1, .inl (e1, 30, .inl (minus 30))), (b2, .inl (e2, 30, .inl (fun _ => 0))), (b3, .inl (e3, 30, .inl (fun _ => 0))), (b4, .inl (e4, 30, .inl (fun _ => 0))), (b5, .inl (e5, 30, .inl (fun _ => 0)))]) (fun u => match u with | (b0, b1, b2, b3, b4, b5, e0, e1, e2, e3, e4, e5) => [(e0, .int), (e1, .int), (e2, .boolean), (e3, .int), (e4, .int), (e5, .int)]) (va_A [(h, .inr (0, [.null, .null, .null, .null, .null, .null]))] sz)) (va_A [(h, .inr (0, [.null, .null, .null, .null, .null, .null]))] sz)) 6 180 (va_A [(h, .inr (0, [.null, .null, .null, .null, .null, .null]))] sz) := by
  refine ofC_v (cc := cX0_init) (maxL := 2) (ret := none) (by decide) rfl (Nat.le_of_ble_eq_true rfl) ?_
  intro p e s m args below meth c A ls Q F hr hin hlk St hl hQ
  have hx := F.1
  have hb := F.2.1
  have hl : lv_has ls 2 [(0, .ref h)] := hl
  have St : cS G k [(h, .inr (0, [.null, .null, .null, .null, .null, .null]))] [] A s s.heap [] := St
  refine lv_aload_n hx hb dX0_init_0 rfl (lv_at hl 0 rfl) ?_
  refine W.objInit hx hb F.2.2.2.1 (F.2.2.2.2 _ km_X0_3) (F.2.2.2.2 _ kj_objectInit) (F.2.2.2.2 _ kd_objectInit) rfl (by rw [F.2.2.1]; exact hl.1) rfl dX0_init_1 (Nat.le_of_ble_eq_true rfl) (Nat.le_of_ble_eq_true rfl) ?_
  refine W.eq (g2 := F0 m 4 ls []) rfl ?_
  refine lv_aload_n hx hb dX0_init_4 rfl (lv_at hl 0 rfl) ?_
  refine lv_bipush (v := 30) hx hb dX0_init_5 (by decide) ?_
  refine cs_newa F St (atype := .int) ka_int rfl (N' := 30) (a0 := (30, .inl (fun _ => 0))) (fun _ => rfl) (by decide) (by decide) (by decide) (Nat.le_of_ble_eq_true rfl) (Nat.le_of_ble_eq_true rfl) dX0_init_7 (fun q_1 d_2 H St => ?_)
  refine W.widen (k := 1) (n := 30) (by decide) (by decide) ?_
  have St : cS G k [(h, .inr (0, [.null, .null, .null, .null, .null, .null])), (q_1, .inl (d_2, 30, .inl (fun _ => 0)))] [(d_2, .int)] A s H _ := St
  refine cs_putF F hin St 0 rfl rfl inX0 tyX0_ok nmX0 0 (by decide) kf_X0_9 rfl rfl rfl rfl (Nat.le_of_ble_eq_true rfl) (w' := [(h, .inr (0, [.ref q_1, .null, .null, .null, .null, .null])), (q_1, .inl (d_2, 30, .inl (fun _ => 0)))]) rfl dX0_init_9 (fun H locs St => ?_)
  refine lv_aload_n hx hb dX0_init_12 rfl (lv_at hl 0 rfl) ?_
  refine lv_bipush (v := 30) hx hb dX0_init_13 (by decide) ?_
  refine cs_newa F St (atype := .int) ka_int rfl (N' := 30) (a0 := (30, .inl (fun _ => 0))) (fun _ => rfl) (by decide) (by decide) (by decide) (Nat.le_of_ble_eq_true rfl) (Nat.le_of_ble_eq_true rfl) dX0_init_15 (fun q_3 d_4 H St => ?_)
  refine W.widen (k := 2) (n := 60) (by decide) (by decide) ?_
  have St : cS G k [(h, .inr (0, [.ref q_1, .null, .null, .null, .null, .null])), (q_1, .inl (d_2, 30, .inl (fun _ => 0))), (q_3, .inl (d_4, 30, .inl (fun _ => 0)))] [(d_2, .int), (d_4, .int)] A s H _ := St
  refine cs_putF F hin St 0 rfl rfl inX0 tyX0_ok nmX0 1 (by decide) kf_X0_15 rfl rfl rfl rfl (Nat.le_of_ble_eq_true rfl) (w' := [(h, .inr (0, [.ref q_1, .ref q_3, .null, .null, .null, .null])), (q_1, .inl (d_2, 30, .inl (fun _ => 0))), (q_3, .inl (d_4, 30, .inl (fun _ => 0)))]) rfl dX0_init_17 (fun H locs St => ?_)
  refine lv_aload_n hx hb dX0_init_20 rfl (lv_at hl 0 rfl) ?_
  refine lv_bipush (v := 30) hx hb dX0_init_21 (by decide) ?_
  refine cs_newa F St (atype := .boolean) ka_boolean rfl (N' := 30) (a0 := (30, .inl (fun _ => 0))) (fun _ => rfl) (by decide) (by decide) (by decide) (Nat.le_of_ble_eq_true rfl) (Nat.le_of_ble_eq_true rfl) dX0_init_23 (fun q_5 d_6 H St => ?_)
  refine W.widen (k := 3) (n := 90) (by decide) (by decide) ?_
  have St : cS G k [(h, .inr (0, [.ref q_1, .ref q_3, .null, .null, .null, .null])), (q_1, .inl (d_2, 30, .inl (fun _ => 0))), (q_3, .inl (d_4, 30, .inl (fun _ => 0))), (q_5, .inl (d_6, 30, .inl (fun _ => 0)))] [(d_2, .int), (d_4, .int), (d_6, .boolean)] A s H _ := St
  refine cs_putF F hin St 0 rfl rfl inX0 tyX0_ok nmX0 2 (by decide) kf_X0_18 rfl rfl rfl rfl (Nat.le_of_ble_eq_true rfl) (w' := [(h, .inr (0, [.ref q_1, .ref q_3, .ref q_5, .null, .null, .null])), (q_1, .inl (d_2, 30, .inl (fun _ => 0))), (q_3, .inl (d_4, 30, .inl (fun _ => 0))), (q_5, .inl (d_6, 30, .inl (fun _ => 0)))]) rfl dX0_init_25 (fun H locs St => ?_)
  refine lv_aload_n hx hb dX0_init_28 rfl (lv_at hl 0 rfl) ?_
  refine lv_bipush (v := 30) hx hb dX0_init_29 (by decide) ?_
  refine cs_newa F St (atype := .int) ka_int rfl (N' := 30) (a0 := (30, .inl (fun _ => 0))) (fun _ => rfl) (by decide) (by decide) (by decide) (Nat.le_of_ble_eq_true rfl) (Nat.le_of_ble_eq_true rfl) dX0_init_31 (fun q_7 d_8 H St => ?_)
  refine W.widen (k := 4) (n := 120) (by decide) (by decide) ?_
  have St : cS G k [(h, .inr (0, [.ref q_1, .ref q_3, .ref q_5, .null, .null, .null])), (q_1, .inl (d_2, 30, .inl (fun _ => 0))), (q_3, .inl (d_4, 30, .inl (fun _ => 0))), (q_5, .inl (d_6, 30, .inl (fun _ => 0))), (q_7, .inl (d_8, 30, .inl (fun _ => 0)))] [(d_2, .int), (d_4, .int), (d_6, .boolean), (d_8, .int)] A s H _ := St
  refine cs_putF F hin St 0 rfl rfl inX0 tyX0_ok nmX0 3 (by decide) kf_X0_22 rfl rfl rfl rfl (Nat.le_of_ble_eq_true rfl) (w' := [(h, .inr (0, [.ref q_1, .ref q_3, .ref q_5, .ref q_7, .null, .null])), (q_1, .inl (d_2, 30, .inl (fun _ => 0))), (q_3, .inl (d_4, 30, .inl (fun _ => 0))), (q_5, .inl (d_6, 30, .inl (fun _ => 0))), (q_7, .inl (d_8, 30, .inl (fun _ => 0)))]) rfl dX0_init_33 (fun H locs St => ?_)
  refine lv_aload_n hx hb dX0_init_36 rfl (lv_at hl 0 rfl) ?_
  refine lv_bipush (v := 30) hx hb dX0_init_37 (by decide) ?_
  refine cs_newa F St (atype := .int) ka_int rfl (N' := 30) (a0 := (30, .inl (fun _ => 0))) (fun _ => rfl) (by decide) (by decide) (by decide) (Nat.le_of_ble_eq_true rfl) (Nat.le_of_ble_eq_true rfl) dX0_init_39 (fun q_9 d_10 H St => ?_)
  refine W.widen (k := 5) (n := 150) (by decide) (by decide) ?_
  have St : cS G k [(h, .inr (0, [.ref q_1, .ref q_3, .ref q_5, .ref q_7, .null, .null])), (q_1, .inl (d_2, 30, .inl (fun _ => 0))), (q_3, .inl (d_4, 30, .inl (fun _ => 0))), (q_5, .inl (d_6, 30, .inl (fun _ => 0))), (q_7, .inl (d_8, 30, .inl (fun _ => 0))), (q_9, .inl (d_10, 30, .inl (fun _ => 0)))] [(d_2, .int), (d_4, .int), (d_6, .boolean), (d_8, .int), (d_10, .int)] A s H _ := St
  refine cs_putF F hin St 0 rfl rfl inX0 tyX0_ok nmX0 4 (by decide) kf_X0_25 rfl rfl rfl rfl (Nat.le_of_ble_eq_true rfl) (w' := [(h, .inr (0, [.ref q_1, .ref q_3, .ref q_5, .ref q_7, .ref q_9, .null])), (q_1, .inl (d_2, 30, .inl (fun _ => 0))), (q_3, .inl (d_4, 30, .inl (fun _ => 0))), (q_5, .inl (d_6, 30, .inl (fun _ => 0))), (q_7, .inl (d_8, 30, .inl (fun _ => 0))), (q_9, .inl (d_10, 30, .inl (fun _ => 0)))]) rfl dX0_init_41 (fun H locs St => ?_)
  refine lv_aload_n hx hb dX0_init_44 rfl (lv_at hl 0 rfl) ?_
  refine lv_bipush (v := 30) hx hb dX0_init_45 (by decide) ?_
  refine cs_newa F St (atype := .int) ka_int rfl (N' := 30) (a0 := (30, .inl (fun _ => 0))) (fun _ => rfl) (by decide) (by decide) (by decide) (Nat.le_of_ble_eq_true rfl) (Nat.le_of_ble_eq_true rfl) dX0_init_47 (fun q_11 d_12 H St => ?_)
  refine W.widen (k := 6) (n := 180) (by decide) (by decide) ?_
  have St : cS G k [(h, .inr (0, [.ref q_1, .ref q_3, .ref q_5, .ref q_7, .ref q_9, .null])), (q_1, .inl (d_2, 30, .inl (fun _ => 0))), (q_3, .inl (d_4, 30, .inl (fun _ => 0))), (q_5, .inl (d_6, 30, .inl (fun _ => 0))), (q_7, .inl (d_8, 30, .inl (fun _ => 0))), (q_9, .inl (d_10, 30, .inl (fun _ => 0))), (q_11, .inl (d_12, 30, .inl (fun _ => 0)))] [(d_2, .int), (d_4, .int), (d_6, .boolean), (d_8, .int), (d_10, .int), (d_12, .int)] A s H _ := St
  refine cs_putF F hin St 0 rfl rfl inX0 tyX0_ok nmX0 5 (by decide) kf_X0_28 rfl rfl rfl rfl (Nat.le_of_ble_eq_true rfl) (w' := [(h, .inr (0, [.ref q_1, .ref q_3, .ref q_5, .ref q_7, .ref q_9, .ref q_11])), (q_1, .inl (d_2, 30, .inl (fun _ => 0))), (q_3, .inl (d_4, 30, .inl (fun _ => 0))), (q_5, .inl (d_6, 30, .inl (fun _ => 0))), (q_7, .inl (d_8, 30, .inl (fun _ => 0))), (q_9, .inl (d_10, 30, .inl (fun _ => 0))), (q_11, .inl (d_12, 30, .inl (fun _ => 0)))]) rfl dX0_init_49 (fun H locs St => ?_)
  refine lv_iconst (v := 0) hx hb dX0_init_52 (by decide) ?_
  refine lv_istore_n (lv' := [(1, .int 0), (0, .ref h)]) hx hb dX0_init_53 rfl hl (by decide) rfl (fun ls hl => ?_)
  have lp54 : ∀ (n : Nat) (i : Int32) (fa : Nat → Int32) (fb : Nat → Int32) (H : Heap) (locs : List Loc) (ls : Array Slot), (0 ≤ i.toInt ∧ i.toInt ≤ 30 ∧ fa = minus i.toInt ∧ fb = minus i.toInt) → ((30 - i.toInt).toNat) < n → cS G k [(h, .inr (0, [.ref q_1, .ref q_3, .ref q_5, .ref q_7, .ref q_9, .ref q_11])), (q_1, .inl (d_2, 30, .inl fa)), (q_3, .inl (d_4, 30, .inl fb)), (q_5, .inl (d_6, 30, .inl (fun _ => 0))), (q_7, .inl (d_8, 30, .inl (fun _ => 0))), (q_9, .inl (d_10, 30, .inl (fun _ => 0))), (q_11, .inl (d_12, 30, .inl (fun _ => 0)))] [(d_2, .int), (d_4, .int), (d_6, .boolean), (d_8, .int), (d_10, .int), (d_12, .int)] A s H locs → lv_has ls 2 [(1, .int i), (0, .ref h)] → W p l e ({ frames := 1, cells := 6, slots := 180, locals := 20 } : Room) s m args below meth c H locs 6 180 Q (F0 m 54 ls []) := by
    intro n
    induction n with
    | zero => intro i fa fb H locs ls hI hn; exact absurd hn (Nat.not_lt_zero _)
    | succ n ih =>
      intro i fa fb H locs ls hI hn St hl
      obtain ⟨hI0, hI1, hI2, hI3⟩ := hI
      refine lv_iload_n hx hb dX0_init_54 rfl (lv_at hl 0 rfl) ?_
      refine lv_bipush (v := 30) hx hb dX0_init_55 (by decide) ?_
      refine lv_icmp_ge (tgt := 80) hx hb dX0_init_57 (by decide) (fun c57 => ?_) (fun c57 => ?_)
      ·
        have i57 := ci_le (x := 30) (y := i) (show (30 : Int32).toInt = 30 by decide) rfl c57
        have hi30 : i.toInt = 30 := by omega
        rw [hI2, hI3, hi30] at St
        exact cs_vret F hr hlk hQ St (q_1, q_3, q_5, q_7, q_9, q_11, d_2, d_4, d_6, d_8, d_10, d_12) (by trivial) [0, 1, 2, 3, 4, 5, 6] rfl (by decide) [0, 1, 2, 3, 4, 5] rfl (by decide) (by decide) dX0_init_80
      ·
        have i57 := ci_nle (x := 30) (y := i) (show (30 : Int32).toInt = 30 by decide) rfl c57
        refine lv_aload_n hx hb dX0_init_60 rfl (lv_at hl 1 rfl) ?_
        refine cs_get F St 0 rfl rfl inX0 0 (by decide) kf_X0_9 rfl dX0_init_61 ?_
        refine lv_iload_n hx hb dX0_init_64 rfl (lv_at hl 0 rfl) ?_
        refine lv_iconst (v := (-1)) hx hb dX0_init_65 (by decide) ?_
        refine cs_ist F St 1 0 rfl rfl (vp_in_iff.mpr ⟨by omega, by omega⟩) (w' := [(h, .inr (0, [.ref q_1, .ref q_3, .ref q_5, .ref q_7, .ref q_9, .ref q_11])), (q_1, .inl (d_2, 30, .inl (upd fa (i : Int32).toNatClampNeg (-1)))), (q_3, .inl (d_4, 30, .inl fb)), (q_5, .inl (d_6, 30, .inl (fun _ => 0))), (q_7, .inl (d_8, 30, .inl (fun _ => 0))), (q_9, .inl (d_10, 30, .inl (fun _ => 0))), (q_11, .inl (d_12, 30, .inl (fun _ => 0)))]) rfl dX0_init_66 (fun H locs St => ?_)
        obtain ⟨f_13, ef_13⟩ : ∃ zz : Nat → Int32, zz = upd fa (i : Int32).toNatClampNeg (-1) := ⟨_, rfl⟩
        rw [← ef_13] at St
        refine lv_aload_n hx hb dX0_init_67 rfl (lv_at hl 1 rfl) ?_
        refine cs_get F St 0 rfl rfl inX0 1 (by decide) kf_X0_15 rfl dX0_init_68 ?_
        refine lv_iload_n hx hb dX0_init_71 rfl (lv_at hl 0 rfl) ?_
        refine lv_iconst (v := (-1)) hx hb dX0_init_72 (by decide) ?_
        refine cs_ist F St 2 1 rfl rfl (vp_in_iff.mpr ⟨by omega, by omega⟩) (w' := [(h, .inr (0, [.ref q_1, .ref q_3, .ref q_5, .ref q_7, .ref q_9, .ref q_11])), (q_1, .inl (d_2, 30, .inl f_13)), (q_3, .inl (d_4, 30, .inl (upd fb (i : Int32).toNatClampNeg (-1)))), (q_5, .inl (d_6, 30, .inl (fun _ => 0))), (q_7, .inl (d_8, 30, .inl (fun _ => 0))), (q_9, .inl (d_10, 30, .inl (fun _ => 0))), (q_11, .inl (d_12, 30, .inl (fun _ => 0)))]) rfl dX0_init_73 (fun H locs St => ?_)
        obtain ⟨f_14, ef_14⟩ : ∃ zz : Nat → Int32, zz = upd fb (i : Int32).toNatClampNeg (-1) := ⟨_, rfl⟩
        rw [← ef_14] at St
        obtain ⟨y_15, ey_15⟩ : ∃ zz : Int32, zz = i + 1 := ⟨_, rfl⟩
        have jy_15 := ci_add (x := i) rfl (show (1 : Int32).toInt = 1 by decide) ey_15
        refine lv_iinc (v := y_15) (lv' := [(1, .int y_15), (0, .ref h)]) hx hb dX0_init_74 hl (k := 0) rfl (by rw [ey_15]; rfl) (by decide) rfl (fun ls hl => ?_)
        refine lv_goto (tgt := 54) hx hb dX0_init_77 (by decide) ?_
        exact ih y_15 f_13 f_14 _ _ _ ⟨by omega, by omega, by rw [ef_13, hI2]; exact minus_up hI0 (by omega), by rw [ef_14, hI3]; exact minus_up hI0 (by omega)⟩ (by omega) St (lv_sub hl [0, 1] rfl)
  exact lp54 31 0 (fun _ => 0) (fun _ => 0) _ _ _ ⟨by decide, by decide, minus_0, minus_0⟩ (by decide) St (lv_sub hl [0, 1] rfl)
set_option maxHeartbeats 4000000 in
set_option maxRecDepth 100000 in
theorem c0_setDecl (l : Launch) (G : va_G) (k : Nat → Nat) (sz : Nat) (h : Nat) (b0 : Nat) (b1 : Nat) (b2 : Nat) (b3 : Nat) (b4 : Nat) (b5 : Nat) (e0 : ClassId) (e1 : ClassId) (f0 : Nat → Int32) (f1 : Nat → Int32) (g : Int32) (x : Int32) (y : Int32) (hg : 0 ≤ g.toInt ∧ g.toInt < 30) : Met l yX0_setDeclaration (Cond.code yX0_setDeclaration cX0_setDeclaration 4 none :: tb) ({ frames := 1, cells := 0, slots := 0, locals := 20 } : Room) (va_Pc [.ref h, .int g, .int x, .int y] (cP G k [(h, .inr (0, [.ref b0, .ref b1, .ref b2, .ref b3, .ref b4, .ref b5])), (b0, .inl (e0, 30, .inl f0)), (b1, .inl (e1, 30, .inl f1))] [(e0, .int), (e1, .int)] sz)) (va_Qv (fun (u : (Nat → Int32) × (Nat → Int32)) => match u with | (z0, z1) => True) (cB G (fun u => match u with | (z0, z1) => [(h, .inr (0, [.ref b0, .ref b1, .ref b2, .ref b3, .ref b4, .ref b5])), (b0, .inl (e0, 30, .inl z0)), (b1, .inl (e1, 30, .inl z1))]) (fun u => match u with | (z0, z1) => []) (va_A [(h, .inr (0, [.ref b0, .ref b1, .ref b2, .ref b3, .ref b4, .ref b5])), (b0, .inl (e0, 30, .inl f0)), (b1, .inl (e1, 30, .inl f1))] sz)) (va_A [(h, .inr (0, [.ref b0, .ref b1, .ref b2, .ref b3, .ref b4, .ref b5])), (b0, .inl (e0, 30, .inl f0)), (b1, .inl (e1, 30, .inl f1))] sz)) 0 0 (va_A [(h, .inr (0, [.ref b0, .ref b1, .ref b2, .ref b3, .ref b4, .ref b5])), (b0, .inl (e0, 30, .inl f0)), (b1, .inl (e1, 30, .inl f1))] sz) := by
  refine ofC_v (cc := cX0_setDeclaration) (maxL := 4) (ret := none) (by decide) rfl (Nat.le_of_ble_eq_true rfl) ?_
  intro p e s m args below meth c A ls Q F hr hin hlk St hl hQ
  have hx := F.1
  have hb := F.2.1
  have hl : lv_has ls 4 [(0, .ref h), (1, .int g), (2, .int x), (3, .int y)] := hl
  have St : cS G k [(h, .inr (0, [.ref b0, .ref b1, .ref b2, .ref b3, .ref b4, .ref b5])), (b0, .inl (e0, 30, .inl f0)), (b1, .inl (e1, 30, .inl f1))] [(e0, .int), (e1, .int)] A s s.heap [] := St
  refine lv_iload_n hx hb dX0_setDeclaration_0 rfl (lv_at hl 1 rfl) ?_
  refine cs_i St [] [0, 1, 2] (wc := []) (wr := [(h, .inr (0, [.ref b0, .ref b1, .ref b2, .ref b3, .ref b4, .ref b5])), (b0, .inl (e0, 30, .inl f0)), (b1, .inl (e1, 30, .inl f1))]) rfl rfl (by decide) (by decide) (va_runSN (As := [.int g]) (rest := []) F (c10_isGiver l G k _ g) (cwSNt F mf_X10_isGiver St.2.2.2.2.2.1.2.2.2.2.2.2.1 rfl rfl ⟨Nat.le_of_ble_eq_true rfl, Nat.le_of_ble_eq_true rfl⟩) (cs_pre St [] rfl (by decide) [] rfl) rfl rfl hl.1 rfl (lv_room (Nat.le_of_ble_eq_true rfl)) dX0_setDeclaration_1 ⟨Nat.le_of_ble_eq_true rfl, Nat.le_of_ble_eq_true rfl⟩) (fun r_1 u_2 H locs hw St => ?_)
  try dsimp only at hw
  rcases hw with ⟨z_3, hf_4⟩ | ⟨z_5, hf_6⟩
  ·
    subst r_1
    have St : cS G k [(h, .inr (0, [.ref b0, .ref b1, .ref b2, .ref b3, .ref b4, .ref b5])), (b0, .inl (e0, 30, .inl f0)), (b1, .inl (e1, 30, .inl f1))] [(e0, .int), (e1, .int)] A s H locs := St
    refine lv_if_eq (tgt := 21) hx hb dX0_setDeclaration_4 (by decide) (fun c4 => ?_) (fun c4 => ?_)
    · exact absurd c4 (by decide)
    refine lv_aload_n hx hb dX0_setDeclaration_7 rfl (lv_at hl 0 rfl) ?_
    refine cs_get F St 0 rfl rfl inX0 0 (by decide) kf_X0_9 rfl dX0_setDeclaration_8 ?_
    refine lv_iload_n hx hb dX0_setDeclaration_11 rfl (lv_at hl 1 rfl) ?_
    refine lv_iload_n hx hb dX0_setDeclaration_12 rfl (lv_at hl 2 rfl) ?_
    refine cs_ist F St 1 0 rfl rfl (vp_in_iff.mpr ⟨by omega, by omega⟩) (w' := [(h, .inr (0, [.ref b0, .ref b1, .ref b2, .ref b3, .ref b4, .ref b5])), (b0, .inl (e0, 30, .inl (upd f0 (g : Int32).toNatClampNeg x))), (b1, .inl (e1, 30, .inl f1))]) rfl dX0_setDeclaration_13 (fun H locs St => ?_)
    obtain ⟨f_7, ef_7⟩ : ∃ zz : Nat → Int32, zz = upd f0 (g : Int32).toNatClampNeg x := ⟨_, rfl⟩
    rw [← ef_7] at St
    refine lv_aload_n hx hb dX0_setDeclaration_14 rfl (lv_at hl 0 rfl) ?_
    refine cs_get F St 0 rfl rfl inX0 1 (by decide) kf_X0_15 rfl dX0_setDeclaration_15 ?_
    refine lv_iload_n hx hb dX0_setDeclaration_18 rfl (lv_at hl 1 rfl) ?_
    refine lv_iload_n hx hb dX0_setDeclaration_19 rfl (lv_at hl 3 rfl) ?_
    refine cs_ist F St 2 1 rfl rfl (vp_in_iff.mpr ⟨by omega, by omega⟩) (w' := [(h, .inr (0, [.ref b0, .ref b1, .ref b2, .ref b3, .ref b4, .ref b5])), (b0, .inl (e0, 30, .inl f_7)), (b1, .inl (e1, 30, .inl (upd f1 (g : Int32).toNatClampNeg y)))]) rfl dX0_setDeclaration_20 (fun H locs St => ?_)
    obtain ⟨f_8, ef_8⟩ : ∃ zz : Nat → Int32, zz = upd f1 (g : Int32).toNatClampNeg y := ⟨_, rfl⟩
    rw [← ef_8] at St
    exact cs_vret F hr hlk hQ St (f_7, f_8) (by trivial) [0, 1, 2] rfl (by decide) [] rfl (by decide) (by decide) dX0_setDeclaration_21
  ·
    exact False.elim (by omega)
set_option maxHeartbeats 4000000 in
set_option maxRecDepth 100000 in
theorem c0_declaredFrom (l : Launch) (G : va_G) (k : Nat → Nat) (sz : Nat) (h : Nat) (b0 : Nat) (b1 : Nat) (b2 : Nat) (b3 : Nat) (b4 : Nat) (b5 : Nat) (e0 : ClassId) (g : Int32) (hg : 0 ≤ g.toInt ∧ g.toInt < 30) : Met l yX0_declaredFrom (Cond.code yX0_declaredFrom cX0_declaredFrom 2 (some .int) :: tb) ({ frames := 1, cells := 0, slots := 0, locals := 20 } : Room) (va_Pc [.ref h, .int g] (cP G k [(h, .inr (0, [.ref b0, .ref b1, .ref b2, .ref b3, .ref b4, .ref b5])), (b0, .inl (e0, 30, .inl (minus 30)))] [(e0, .int)] sz)) (va_Qi (fun (r : Int32) (_ : Unit) => (r = (-1))) (cB G (fun (_ : Unit) => [(h, .inr (0, [.ref b0, .ref b1, .ref b2, .ref b3, .ref b4, .ref b5])), (b0, .inl (e0, 30, .inl (minus 30)))]) (fun (_ : Unit) => []) (va_A [(h, .inr (0, [.ref b0, .ref b1, .ref b2, .ref b3, .ref b4, .ref b5])), (b0, .inl (e0, 30, .inl (minus 30)))] sz)) (va_A [(h, .inr (0, [.ref b0, .ref b1, .ref b2, .ref b3, .ref b4, .ref b5])), (b0, .inl (e0, 30, .inl (minus 30)))] sz)) 0 0 (va_A [(h, .inr (0, [.ref b0, .ref b1, .ref b2, .ref b3, .ref b4, .ref b5])), (b0, .inl (e0, 30, .inl (minus 30)))] sz) := by
  refine ofC_i (cc := cX0_declaredFrom) (maxL := 2) (ret := (some .int)) (by decide) rfl (Nat.le_of_ble_eq_true rfl) ?_
  intro p e s m args below meth c A ls Q F hr hin hlk St hl hQ
  have hx := F.1
  have hb := F.2.1
  have hl : lv_has ls 2 [(0, .ref h), (1, .int g)] := hl
  have St : cS G k [(h, .inr (0, [.ref b0, .ref b1, .ref b2, .ref b3, .ref b4, .ref b5])), (b0, .inl (e0, 30, .inl (minus 30)))] [(e0, .int)] A s s.heap [] := St
  refine lv_iload_n hx hb dX0_declaredFrom_0 rfl (lv_at hl 1 rfl) ?_
  refine cs_i St [] [0, 1] (wc := []) (wr := [(h, .inr (0, [.ref b0, .ref b1, .ref b2, .ref b3, .ref b4, .ref b5])), (b0, .inl (e0, 30, .inl (minus 30)))]) rfl rfl (by decide) (by decide) (va_runSN (As := [.int g]) (rest := []) F (c10_isGiver l G k _ g) (cwSNt F mf_X10_isGiver St.2.2.2.2.2.1.2.2.2.2.2.2.1 rfl rfl ⟨Nat.le_of_ble_eq_true rfl, Nat.le_of_ble_eq_true rfl⟩) (cs_pre St [] rfl (by decide) [] rfl) rfl rfl hl.1 rfl (lv_room (Nat.le_of_ble_eq_true rfl)) dX0_declaredFrom_1 ⟨Nat.le_of_ble_eq_true rfl, Nat.le_of_ble_eq_true rfl⟩) (fun r_1 u_2 H locs hw St => ?_)
  try dsimp only at hw
  rcases hw with ⟨z_3, hf_4⟩ | ⟨z_5, hf_6⟩
  ·
    subst r_1
    have St : cS G k [(h, .inr (0, [.ref b0, .ref b1, .ref b2, .ref b3, .ref b4, .ref b5])), (b0, .inl (e0, 30, .inl (minus 30)))] [(e0, .int)] A s H locs := St
    refine lv_if_eq (tgt := 16) hx hb dX0_declaredFrom_4 (by decide) (fun c4 => ?_) (fun c4 => ?_)
    · exact absurd c4 (by decide)
    refine lv_aload_n hx hb dX0_declaredFrom_7 rfl (lv_at hl 0 rfl) ?_
    refine cs_get F St 0 rfl rfl inX0 0 (by decide) kf_X0_9 rfl dX0_declaredFrom_8 ?_
    refine lv_iload_n hx hb dX0_declaredFrom_11 rfl (lv_at hl 1 rfl) ?_
    refine cs_ild F St 1 0 rfl rfl (vp_in_iff.mpr ⟨by omega, by omega⟩) dX0_declaredFrom_12 ?_
    refine top_i (y := (-1)) (minus_at (by omega) (by omega)) ?_
    refine lv_goto (tgt := 17) hx hb dX0_declaredFrom_13 (by decide) ?_
    exact cs_iret F hr hlk hQ St () (r := (-1)) rfl [0, 1] rfl (by decide) [] rfl (by decide) (by decide) dX0_declaredFrom_17
  ·
    exact False.elim (by omega)
set_option maxHeartbeats 4000000 in
set_option maxRecDepth 100000 in
theorem c0_declaredTo (l : Launch) (G : va_G) (k : Nat → Nat) (sz : Nat) (h : Nat) (b0 : Nat) (b1 : Nat) (b2 : Nat) (b3 : Nat) (b4 : Nat) (b5 : Nat) (e1 : ClassId) (g : Int32) (hg : 0 ≤ g.toInt ∧ g.toInt < 30) : Met l yX0_declaredTo (Cond.code yX0_declaredTo cX0_declaredTo 2 (some .int) :: tb) ({ frames := 1, cells := 0, slots := 0, locals := 20 } : Room) (va_Pc [.ref h, .int g] (cP G k [(h, .inr (0, [.ref b0, .ref b1, .ref b2, .ref b3, .ref b4, .ref b5])), (b1, .inl (e1, 30, .inl (minus 30)))] [(e1, .int)] sz)) (va_Qi (fun (r : Int32) (_ : Unit) => (r = (-1))) (cB G (fun (_ : Unit) => [(h, .inr (0, [.ref b0, .ref b1, .ref b2, .ref b3, .ref b4, .ref b5])), (b1, .inl (e1, 30, .inl (minus 30)))]) (fun (_ : Unit) => []) (va_A [(h, .inr (0, [.ref b0, .ref b1, .ref b2, .ref b3, .ref b4, .ref b5])), (b1, .inl (e1, 30, .inl (minus 30)))] sz)) (va_A [(h, .inr (0, [.ref b0, .ref b1, .ref b2, .ref b3, .ref b4, .ref b5])), (b1, .inl (e1, 30, .inl (minus 30)))] sz)) 0 0 (va_A [(h, .inr (0, [.ref b0, .ref b1, .ref b2, .ref b3, .ref b4, .ref b5])), (b1, .inl (e1, 30, .inl (minus 30)))] sz) := by
  refine ofC_i (cc := cX0_declaredTo) (maxL := 2) (ret := (some .int)) (by decide) rfl (Nat.le_of_ble_eq_true rfl) ?_
  intro p e s m args below meth c A ls Q F hr hin hlk St hl hQ
  have hx := F.1
  have hb := F.2.1
  have hl : lv_has ls 2 [(0, .ref h), (1, .int g)] := hl
  have St : cS G k [(h, .inr (0, [.ref b0, .ref b1, .ref b2, .ref b3, .ref b4, .ref b5])), (b1, .inl (e1, 30, .inl (minus 30)))] [(e1, .int)] A s s.heap [] := St
  refine lv_iload_n hx hb dX0_declaredTo_0 rfl (lv_at hl 1 rfl) ?_
  refine cs_i St [] [0, 1] (wc := []) (wr := [(h, .inr (0, [.ref b0, .ref b1, .ref b2, .ref b3, .ref b4, .ref b5])), (b1, .inl (e1, 30, .inl (minus 30)))]) rfl rfl (by decide) (by decide) (va_runSN (As := [.int g]) (rest := []) F (c10_isGiver l G k _ g) (cwSNt F mf_X10_isGiver St.2.2.2.2.2.1.2.2.2.2.2.2.1 rfl rfl ⟨Nat.le_of_ble_eq_true rfl, Nat.le_of_ble_eq_true rfl⟩) (cs_pre St [] rfl (by decide) [] rfl) rfl rfl hl.1 rfl (lv_room (Nat.le_of_ble_eq_true rfl)) dX0_declaredTo_1 ⟨Nat.le_of_ble_eq_true rfl, Nat.le_of_ble_eq_true rfl⟩) (fun r_1 u_2 H locs hw St => ?_)
  try dsimp only at hw
  rcases hw with ⟨z_3, hf_4⟩ | ⟨z_5, hf_6⟩
  ·
    subst r_1
    have St : cS G k [(h, .inr (0, [.ref b0, .ref b1, .ref b2, .ref b3, .ref b4, .ref b5])), (b1, .inl (e1, 30, .inl (minus 30)))] [(e1, .int)] A s H locs := St
    refine lv_if_eq (tgt := 16) hx hb dX0_declaredTo_4 (by decide) (fun c4 => ?_) (fun c4 => ?_)
    · exact absurd c4 (by decide)
    refine lv_aload_n hx hb dX0_declaredTo_7 rfl (lv_at hl 0 rfl) ?_
    refine cs_get F St 0 rfl rfl inX0 1 (by decide) kf_X0_15 rfl dX0_declaredTo_8 ?_
    refine lv_iload_n hx hb dX0_declaredTo_11 rfl (lv_at hl 1 rfl) ?_
    refine cs_ild F St 1 0 rfl rfl (vp_in_iff.mpr ⟨by omega, by omega⟩) dX0_declaredTo_12 ?_
    refine top_i (y := (-1)) (minus_at (by omega) (by omega)) ?_
    refine lv_goto (tgt := 17) hx hb dX0_declaredTo_13 (by decide) ?_
    exact cs_iret F hr hlk hQ St () (r := (-1)) rfl [0, 1] rfl (by decide) [] rfl (by decide) (by decide) dX0_declaredTo_17
  ·
    exact False.elim (by omega)
set_option maxHeartbeats 4000000 in
set_option maxRecDepth 100000 in
theorem c0_gotBack (l : Launch) (G : va_G) (k : Nat → Nat) (sz : Nat) (h : Nat) (b0 : Nat) (b1 : Nat) (b2 : Nat) (b3 : Nat) (b4 : Nat) (b5 : Nat) (e3 : ClassId) (g : Int32) (hg : 0 ≤ g.toInt ∧ g.toInt < 30) : Met l yX0_gotBack (Cond.code yX0_gotBack cX0_gotBack 2 (some .int) :: tb) ({ frames := 1, cells := 0, slots := 0, locals := 20 } : Room) (va_Pc [.ref h, .int g] (cP G k [(h, .inr (0, [.ref b0, .ref b1, .ref b2, .ref b3, .ref b4, .ref b5])), (b3, .inl (e3, 30, .inl (fun _ => 0)))] [(e3, .int)] sz)) (va_Qi (fun (r : Int32) (_ : Unit) => (r = 0)) (cB G (fun (_ : Unit) => [(h, .inr (0, [.ref b0, .ref b1, .ref b2, .ref b3, .ref b4, .ref b5])), (b3, .inl (e3, 30, .inl (fun _ => 0)))]) (fun (_ : Unit) => []) (va_A [(h, .inr (0, [.ref b0, .ref b1, .ref b2, .ref b3, .ref b4, .ref b5])), (b3, .inl (e3, 30, .inl (fun _ => 0)))] sz)) (va_A [(h, .inr (0, [.ref b0, .ref b1, .ref b2, .ref b3, .ref b4, .ref b5])), (b3, .inl (e3, 30, .inl (fun _ => 0)))] sz)) 0 0 (va_A [(h, .inr (0, [.ref b0, .ref b1, .ref b2, .ref b3, .ref b4, .ref b5])), (b3, .inl (e3, 30, .inl (fun _ => 0)))] sz) := by
  refine ofC_i (cc := cX0_gotBack) (maxL := 2) (ret := (some .int)) (by decide) rfl (Nat.le_of_ble_eq_true rfl) ?_
  intro p e s m args below meth c A ls Q F hr hin hlk St hl hQ
  have hx := F.1
  have hb := F.2.1
  have hl : lv_has ls 2 [(0, .ref h), (1, .int g)] := hl
  have St : cS G k [(h, .inr (0, [.ref b0, .ref b1, .ref b2, .ref b3, .ref b4, .ref b5])), (b3, .inl (e3, 30, .inl (fun _ => 0)))] [(e3, .int)] A s s.heap [] := St
  refine lv_iload_n hx hb dX0_gotBack_0 rfl (lv_at hl 1 rfl) ?_
  refine cs_i St [] [0, 1] (wc := []) (wr := [(h, .inr (0, [.ref b0, .ref b1, .ref b2, .ref b3, .ref b4, .ref b5])), (b3, .inl (e3, 30, .inl (fun _ => 0)))]) rfl rfl (by decide) (by decide) (va_runSN (As := [.int g]) (rest := []) F (c10_isGiver l G k _ g) (cwSNt F mf_X10_isGiver St.2.2.2.2.2.1.2.2.2.2.2.2.1 rfl rfl ⟨Nat.le_of_ble_eq_true rfl, Nat.le_of_ble_eq_true rfl⟩) (cs_pre St [] rfl (by decide) [] rfl) rfl rfl hl.1 rfl (lv_room (Nat.le_of_ble_eq_true rfl)) dX0_gotBack_1 ⟨Nat.le_of_ble_eq_true rfl, Nat.le_of_ble_eq_true rfl⟩) (fun r_1 u_2 H locs hw St => ?_)
  try dsimp only at hw
  rcases hw with ⟨z_3, hf_4⟩ | ⟨z_5, hf_6⟩
  ·
    subst r_1
    have St : cS G k [(h, .inr (0, [.ref b0, .ref b1, .ref b2, .ref b3, .ref b4, .ref b5])), (b3, .inl (e3, 30, .inl (fun _ => 0)))] [(e3, .int)] A s H locs := St
    refine lv_if_eq (tgt := 16) hx hb dX0_gotBack_4 (by decide) (fun c4 => ?_) (fun c4 => ?_)
    · exact absurd c4 (by decide)
    refine lv_aload_n hx hb dX0_gotBack_7 rfl (lv_at hl 0 rfl) ?_
    refine cs_get F St 0 rfl rfl inX0 3 (by decide) kf_X0_22 rfl dX0_gotBack_8 ?_
    refine lv_iload_n hx hb dX0_gotBack_11 rfl (lv_at hl 1 rfl) ?_
    refine cs_ild F St 1 0 rfl rfl (vp_in_iff.mpr ⟨by omega, by omega⟩) dX0_gotBack_12 ?_
    refine top_i (y := 0) rfl ?_
    refine lv_goto (tgt := 17) hx hb dX0_gotBack_13 (by decide) ?_
    exact cs_iret F hr hlk hQ St () (r := 0) rfl [0, 1] rfl (by decide) [] rfl (by decide) (by decide) dX0_gotBack_17
  ·
    exact False.elim (by omega)
set_option maxHeartbeats 4000000 in
set_option maxRecDepth 100000 in
theorem c0_isWithoutName (l : Launch) (G : va_G) (k : Nat → Nat) (sz : Nat) (h : Nat) (b0 : Nat) (b1 : Nat) (b2 : Nat) (b3 : Nat) (b4 : Nat) (b5 : Nat) (e2 : ClassId) (g : Int32) (hg : 0 ≤ g.toInt ∧ g.toInt < 30) : Met l yX0_isWithoutName (Cond.code yX0_isWithoutName cX0_isWithoutName 2 (some .boolean) :: tb) ({ frames := 1, cells := 0, slots := 0, locals := 20 } : Room) (va_Pc [.ref h, .int g] (cP G k [(h, .inr (0, [.ref b0, .ref b1, .ref b2, .ref b3, .ref b4, .ref b5])), (b2, .inl (e2, 30, .inl (fun _ => 0)))] [(e2, .boolean)] sz)) (va_Qi (fun (r : Int32) (_ : Unit) => (r = 0)) (cB G (fun (_ : Unit) => [(h, .inr (0, [.ref b0, .ref b1, .ref b2, .ref b3, .ref b4, .ref b5])), (b2, .inl (e2, 30, .inl (fun _ => 0)))]) (fun (_ : Unit) => []) (va_A [(h, .inr (0, [.ref b0, .ref b1, .ref b2, .ref b3, .ref b4, .ref b5])), (b2, .inl (e2, 30, .inl (fun _ => 0)))] sz)) (va_A [(h, .inr (0, [.ref b0, .ref b1, .ref b2, .ref b3, .ref b4, .ref b5])), (b2, .inl (e2, 30, .inl (fun _ => 0)))] sz)) 0 0 (va_A [(h, .inr (0, [.ref b0, .ref b1, .ref b2, .ref b3, .ref b4, .ref b5])), (b2, .inl (e2, 30, .inl (fun _ => 0)))] sz) := by
  refine ofC_i (cc := cX0_isWithoutName) (maxL := 2) (ret := (some .boolean)) (by decide) rfl (Nat.le_of_ble_eq_true rfl) ?_
  intro p e s m args below meth c A ls Q F hr hin hlk St hl hQ
  have hx := F.1
  have hb := F.2.1
  have hl : lv_has ls 2 [(0, .ref h), (1, .int g)] := hl
  have St : cS G k [(h, .inr (0, [.ref b0, .ref b1, .ref b2, .ref b3, .ref b4, .ref b5])), (b2, .inl (e2, 30, .inl (fun _ => 0)))] [(e2, .boolean)] A s s.heap [] := St
  refine lv_iload_n hx hb dX0_isWithoutName_0 rfl (lv_at hl 1 rfl) ?_
  refine cs_i St [] [0, 1] (wc := []) (wr := [(h, .inr (0, [.ref b0, .ref b1, .ref b2, .ref b3, .ref b4, .ref b5])), (b2, .inl (e2, 30, .inl (fun _ => 0)))]) rfl rfl (by decide) (by decide) (va_runSN (As := [.int g]) (rest := []) F (c10_isGiver l G k _ g) (cwSNt F mf_X10_isGiver St.2.2.2.2.2.1.2.2.2.2.2.2.1 rfl rfl ⟨Nat.le_of_ble_eq_true rfl, Nat.le_of_ble_eq_true rfl⟩) (cs_pre St [] rfl (by decide) [] rfl) rfl rfl hl.1 rfl (lv_room (Nat.le_of_ble_eq_true rfl)) dX0_isWithoutName_1 ⟨Nat.le_of_ble_eq_true rfl, Nat.le_of_ble_eq_true rfl⟩) (fun r_1 u_2 H locs hw St => ?_)
  try dsimp only at hw
  rcases hw with ⟨z_3, hf_4⟩ | ⟨z_5, hf_6⟩
  ·
    subst r_1
    have St : cS G k [(h, .inr (0, [.ref b0, .ref b1, .ref b2, .ref b3, .ref b4, .ref b5])), (b2, .inl (e2, 30, .inl (fun _ => 0)))] [(e2, .boolean)] A s H locs := St
    refine lv_if_eq (tgt := 20) hx hb dX0_isWithoutName_4 (by decide) (fun c4 => ?_) (fun c4 => ?_)
    · exact absurd c4 (by decide)
    refine lv_aload_n hx hb dX0_isWithoutName_7 rfl (lv_at hl 0 rfl) ?_
    refine cs_get F St 0 rfl rfl inX0 2 (by decide) kf_X0_18 rfl dX0_isWithoutName_8 ?_
    refine lv_iload_n hx hb dX0_isWithoutName_11 rfl (lv_at hl 1 rfl) ?_
    refine cs_zld F St 1 0 rfl rfl (vp_in_iff.mpr ⟨by omega, by omega⟩) dX0_isWithoutName_12 ?_
    refine top_i (y := 0) rfl ?_
    refine lv_if_eq (tgt := 20) hx hb dX0_isWithoutName_13 (by decide) (fun c13 => ?_) (fun c13 => ?_)
    rotate_left
    · exact absurd (by decide) c13
    refine lv_iconst (v := 0) hx hb dX0_isWithoutName_20 (by decide) ?_
    exact cs_zret F hr hlk hQ St () (r := 0) rfl rfl [0, 1] rfl (by decide) [] rfl (by decide) (by decide) dX0_isWithoutName_21
  ·
    exact False.elim (by omega)
set_option maxHeartbeats 4000000 in
set_option maxRecDepth 100000 in
theorem c0_setWithoutName (l : Launch) (G : va_G) (k : Nat → Nat) (sz : Nat) (h : Nat) (b0 : Nat) (b1 : Nat) (b2 : Nat) (b3 : Nat) (b4 : Nat) (b5 : Nat) (e2 : ClassId) (g : Int32) (x : Int32) (hg : 0 ≤ g.toInt ∧ g.toInt < 30) : Met l yX0_setWithoutName (Cond.code yX0_setWithoutName cX0_setWithoutName 3 (some .boolean) :: tb) ({ frames := 1, cells := 0, slots := 0, locals := 20 } : Room) (va_Pc [.ref h, .int g, .int x] (cP G k [(h, .inr (0, [.ref b0, .ref b1, .ref b2, .ref b3, .ref b4, .ref b5])), (b2, .inl (e2, 30, .inl (fun _ => 0)))] [(e2, .boolean)] sz)) (va_Qi (fun (r : Int32) (z2 : (Nat → Int32)) => ((r = 0) ∧ (x = 0)) ∨ ((r = 1) ∧ (¬ x = 0))) (cB G (fun (z2 : (Nat → Int32)) => [(h, .inr (0, [.ref b0, .ref b1, .ref b2, .ref b3, .ref b4, .ref b5])), (b2, .inl (e2, 30, .inl z2))]) (fun (z2 : (Nat → Int32)) => []) (va_A [(h, .inr (0, [.ref b0, .ref b1, .ref b2, .ref b3, .ref b4, .ref b5])), (b2, .inl (e2, 30, .inl (fun _ => 0)))] sz)) (va_A [(h, .inr (0, [.ref b0, .ref b1, .ref b2, .ref b3, .ref b4, .ref b5])), (b2, .inl (e2, 30, .inl (fun _ => 0)))] sz)) 0 0 (va_A [(h, .inr (0, [.ref b0, .ref b1, .ref b2, .ref b3, .ref b4, .ref b5])), (b2, .inl (e2, 30, .inl (fun _ => 0)))] sz) := by
  refine ofC_i (cc := cX0_setWithoutName) (maxL := 3) (ret := (some .boolean)) (by decide) rfl (Nat.le_of_ble_eq_true rfl) ?_
  intro p e s m args below meth c A ls Q F hr hin hlk St hl hQ
  have hx := F.1
  have hb := F.2.1
  have hl : lv_has ls 3 [(0, .ref h), (1, .int g), (2, .int x)] := hl
  have St : cS G k [(h, .inr (0, [.ref b0, .ref b1, .ref b2, .ref b3, .ref b4, .ref b5])), (b2, .inl (e2, 30, .inl (fun _ => 0)))] [(e2, .boolean)] A s s.heap [] := St
  refine lv_iload_n hx hb dX0_setWithoutName_0 rfl (lv_at hl 1 rfl) ?_
  refine cs_i St [] [0, 1] (wc := []) (wr := [(h, .inr (0, [.ref b0, .ref b1, .ref b2, .ref b3, .ref b4, .ref b5])), (b2, .inl (e2, 30, .inl (fun _ => 0)))]) rfl rfl (by decide) (by decide) (va_runSN (As := [.int g]) (rest := []) F (c10_isGiver l G k _ g) (cwSNt F mf_X10_isGiver St.2.2.2.2.2.1.2.2.2.2.2.2.1 rfl rfl ⟨Nat.le_of_ble_eq_true rfl, Nat.le_of_ble_eq_true rfl⟩) (cs_pre St [] rfl (by decide) [] rfl) rfl rfl hl.1 rfl (lv_room (Nat.le_of_ble_eq_true rfl)) dX0_setWithoutName_1 ⟨Nat.le_of_ble_eq_true rfl, Nat.le_of_ble_eq_true rfl⟩) (fun r_1 u_2 H locs hw St => ?_)
  try dsimp only at hw
  rcases hw with ⟨z_3, hf_4⟩ | ⟨z_5, hf_6⟩
  ·
    subst r_1
    have St : cS G k [(h, .inr (0, [.ref b0, .ref b1, .ref b2, .ref b3, .ref b4, .ref b5])), (b2, .inl (e2, 30, .inl (fun _ => 0)))] [(e2, .boolean)] A s H locs := St
    refine lv_if_eq (tgt := 17) hx hb dX0_setWithoutName_4 (by decide) (fun c4 => ?_) (fun c4 => ?_)
    · exact absurd c4 (by decide)
    refine lv_aload_n hx hb dX0_setWithoutName_7 rfl (lv_at hl 0 rfl) ?_
    refine cs_get F St 0 rfl rfl inX0 2 (by decide) kf_X0_18 rfl dX0_setWithoutName_8 ?_
    refine lv_iload_n hx hb dX0_setWithoutName_11 rfl (lv_at hl 1 rfl) ?_
    refine cs_zld F St 1 0 rfl rfl (vp_in_iff.mpr ⟨by omega, by omega⟩) dX0_setWithoutName_12 ?_
    refine top_i (y := 0) rfl ?_
    refine lv_iload_n hx hb dX0_setWithoutName_13 rfl (lv_at hl 2 rfl) ?_
    refine lv_icmp_ne (tgt := 19) hx hb dX0_setWithoutName_14 (by decide) (fun c14 => ?_) (fun c14 => ?_)
    ·
      have i14 := ci_ne (x := 0) (y := x) (show (0 : Int32).toInt = 0 by decide) rfl c14
      refine lv_aload_n hx hb dX0_setWithoutName_19 rfl (lv_at hl 0 rfl) ?_
      refine cs_get F St 0 rfl rfl inX0 2 (by decide) kf_X0_18 rfl dX0_setWithoutName_20 ?_
      refine lv_iload_n hx hb dX0_setWithoutName_23 rfl (lv_at hl 1 rfl) ?_
      refine lv_iload_n hx hb dX0_setWithoutName_24 rfl (lv_at hl 2 rfl) ?_
      refine cs_zst F St 1 0 rfl rfl (vp_in_iff.mpr ⟨by omega, by omega⟩) (w' := [(h, .inr (0, [.ref b0, .ref b1, .ref b2, .ref b3, .ref b4, .ref b5])), (b2, .inl (e2, 30, .inl (upd (fun _ => 0) (g : Int32).toNatClampNeg (vp_nar .boolean x))))]) rfl dX0_setWithoutName_25 (fun H locs St => ?_)
      obtain ⟨f_7, ef_7⟩ : ∃ zz : Nat → Int32, zz = upd (fun _ => 0) (g : Int32).toNatClampNeg (vp_nar .boolean x) := ⟨_, rfl⟩
      rw [← ef_7] at St
      refine lv_iconst (v := 1) hx hb dX0_setWithoutName_26 (by decide) ?_
      exact cs_zret F hr hlk hQ St f_7 (r := 1) rfl (Or.inr ⟨rfl, fun q => c14 q.symm⟩) [0, 1] rfl (by decide) [] rfl (by decide) (by decide) dX0_setWithoutName_27
    ·
      have i14 := ci_eq (x := 0) (y := x) (show (0 : Int32).toInt = 0 by decide) rfl c14
      refine lv_iconst (v := 0) hx hb dX0_setWithoutName_17 (by decide) ?_
      exact cs_zret F hr hlk hQ St (fun _ => 0) (r := 0) rfl (Or.inl ⟨rfl, c14.symm⟩) [0, 1] rfl (by decide) [] rfl (by decide) (by decide) dX0_setWithoutName_18
  ·
    exact False.elim (by omega)
set_option maxHeartbeats 4000000 in
set_option maxRecDepth 100000 in
/-- Sums() -/
theorem c5_init (l : Launch) (G : va_G) (k : Nat → Nat) (sz : Nat) (h : Nat) : Met l yX5_init (Cond.code yX5_init cX5_init 1 none :: tb) ({ frames := 1, cells := 4, slots := 1000, locals := 20 } : Room) (va_Pc [.ref h] (cP G k [(h, .inr (5, [.null, .null, .null, .null, .int 0, .long 0]))] [] sz)) (va_Qv (fun (u : Nat × Nat × Nat × Nat × ClassId × ClassId × ClassId × ClassId) => match u with | (b0, b1, b2, b3, e0, e1, e2, e3) => True) (cB G (fun u => match u with | (b0, b1, b2, b3, e0, e1, e2, e3) => [(h, .inr (5, [.ref b0, .ref b1, .ref b2, .ref b3, .int 0, .long 0])), (b0, .inl (e0, 250, .inl (fun _ => 0))), (b1, .inl (e1, 250, .inl (fun _ => 0))), (b2, .inl (e2, 250, .inl (fun _ => 0))), (b3, .inl (e3, 250, .inl (fun _ => 0)))]) (fun u => match u with | (b0, b1, b2, b3, e0, e1, e2, e3) => [(e0, .int), (e1, .int), (e2, .int), (e3, .boolean)]) (va_A [(h, .inr (5, [.null, .null, .null, .null, .int 0, .long 0]))] sz)) (va_A [(h, .inr (5, [.null, .null, .null, .null, .int 0, .long 0]))] sz)) 4 1000 (va_A [(h, .inr (5, [.null, .null, .null, .null, .int 0, .long 0]))] sz) := by
  refine ofC_v (cc := cX5_init) (maxL := 1) (ret := none) (by decide) rfl (Nat.le_of_ble_eq_true rfl) ?_
  intro p e s m args below meth c A ls Q F hr hin hlk St hl hQ
  have hx := F.1
  have hb := F.2.1
  have hl : lv_has ls 1 [(0, .ref h)] := hl
  have St : cS G k [(h, .inr (5, [.null, .null, .null, .null, .int 0, .long 0]))] [] A s s.heap [] := St
  refine lv_aload_n hx hb dX5_init_0 rfl (lv_at hl 0 rfl) ?_
  refine W.objInit hx hb F.2.2.2.1 (F.2.2.2.2 _ km_X5_3) (F.2.2.2.2 _ kj_objectInit) (F.2.2.2.2 _ kd_objectInit) rfl (by rw [F.2.2.1]; exact hl.1) rfl dX5_init_1 (Nat.le_of_ble_eq_true rfl) (Nat.le_of_ble_eq_true rfl) ?_
  refine W.eq (g2 := F0 m 4 ls []) rfl ?_
  refine lv_aload_n hx hb dX5_init_4 rfl (lv_at hl 0 rfl) ?_
  refine lv_sipush (v := 250) hx hb dX5_init_5 (by decide) ?_
  refine cs_newa F St (atype := .int) ka_int rfl (N' := 250) (a0 := (250, .inl (fun _ => 0))) (fun _ => rfl) (by decide) (by decide) (by decide) (Nat.le_of_ble_eq_true rfl) (Nat.le_of_ble_eq_true rfl) dX5_init_8 (fun q_1 d_2 H St => ?_)
  refine W.widen (k := 1) (n := 250) (by decide) (by decide) ?_
  have St : cS G k [(h, .inr (5, [.null, .null, .null, .null, .int 0, .long 0])), (q_1, .inl (d_2, 250, .inl (fun _ => 0)))] [(d_2, .int)] A s H _ := St
  refine cs_putF F hin St 0 rfl rfl inX5 tyX5_ok nmX5 0 (by decide) kf_X5_9 rfl rfl rfl rfl (Nat.le_of_ble_eq_true rfl) (w' := [(h, .inr (5, [.ref q_1, .null, .null, .null, .int 0, .long 0])), (q_1, .inl (d_2, 250, .inl (fun _ => 0)))]) rfl dX5_init_10 (fun H locs St => ?_)
  refine lv_aload_n hx hb dX5_init_13 rfl (lv_at hl 0 rfl) ?_
  refine lv_sipush (v := 250) hx hb dX5_init_14 (by decide) ?_
  refine cs_newa F St (atype := .int) ka_int rfl (N' := 250) (a0 := (250, .inl (fun _ => 0))) (fun _ => rfl) (by decide) (by decide) (by decide) (Nat.le_of_ble_eq_true rfl) (Nat.le_of_ble_eq_true rfl) dX5_init_17 (fun q_3 d_4 H St => ?_)
  refine W.widen (k := 2) (n := 500) (by decide) (by decide) ?_
  have St : cS G k [(h, .inr (5, [.ref q_1, .null, .null, .null, .int 0, .long 0])), (q_1, .inl (d_2, 250, .inl (fun _ => 0))), (q_3, .inl (d_4, 250, .inl (fun _ => 0)))] [(d_2, .int), (d_4, .int)] A s H _ := St
  refine cs_putF F hin St 0 rfl rfl inX5 tyX5_ok nmX5 1 (by decide) kf_X5_15 rfl rfl rfl rfl (Nat.le_of_ble_eq_true rfl) (w' := [(h, .inr (5, [.ref q_1, .ref q_3, .null, .null, .int 0, .long 0])), (q_1, .inl (d_2, 250, .inl (fun _ => 0))), (q_3, .inl (d_4, 250, .inl (fun _ => 0)))]) rfl dX5_init_19 (fun H locs St => ?_)
  refine lv_aload_n hx hb dX5_init_22 rfl (lv_at hl 0 rfl) ?_
  refine lv_sipush (v := 250) hx hb dX5_init_23 (by decide) ?_
  refine cs_newa F St (atype := .int) ka_int rfl (N' := 250) (a0 := (250, .inl (fun _ => 0))) (fun _ => rfl) (by decide) (by decide) (by decide) (Nat.le_of_ble_eq_true rfl) (Nat.le_of_ble_eq_true rfl) dX5_init_26 (fun q_5 d_6 H St => ?_)
  refine W.widen (k := 3) (n := 750) (by decide) (by decide) ?_
  have St : cS G k [(h, .inr (5, [.ref q_1, .ref q_3, .null, .null, .int 0, .long 0])), (q_1, .inl (d_2, 250, .inl (fun _ => 0))), (q_3, .inl (d_4, 250, .inl (fun _ => 0))), (q_5, .inl (d_6, 250, .inl (fun _ => 0)))] [(d_2, .int), (d_4, .int), (d_6, .int)] A s H _ := St
  refine cs_putF F hin St 0 rfl rfl inX5 tyX5_ok nmX5 2 (by decide) kf_X5_18 rfl rfl rfl rfl (Nat.le_of_ble_eq_true rfl) (w' := [(h, .inr (5, [.ref q_1, .ref q_3, .ref q_5, .null, .int 0, .long 0])), (q_1, .inl (d_2, 250, .inl (fun _ => 0))), (q_3, .inl (d_4, 250, .inl (fun _ => 0))), (q_5, .inl (d_6, 250, .inl (fun _ => 0)))]) rfl dX5_init_28 (fun H locs St => ?_)
  refine lv_aload_n hx hb dX5_init_31 rfl (lv_at hl 0 rfl) ?_
  refine lv_sipush (v := 250) hx hb dX5_init_32 (by decide) ?_
  refine cs_newa F St (atype := .boolean) ka_boolean rfl (N' := 250) (a0 := (250, .inl (fun _ => 0))) (fun _ => rfl) (by decide) (by decide) (by decide) (Nat.le_of_ble_eq_true rfl) (Nat.le_of_ble_eq_true rfl) dX5_init_35 (fun q_7 d_8 H St => ?_)
  refine W.widen (k := 4) (n := 1000) (by decide) (by decide) ?_
  have St : cS G k [(h, .inr (5, [.ref q_1, .ref q_3, .ref q_5, .null, .int 0, .long 0])), (q_1, .inl (d_2, 250, .inl (fun _ => 0))), (q_3, .inl (d_4, 250, .inl (fun _ => 0))), (q_5, .inl (d_6, 250, .inl (fun _ => 0))), (q_7, .inl (d_8, 250, .inl (fun _ => 0)))] [(d_2, .int), (d_4, .int), (d_6, .int), (d_8, .boolean)] A s H _ := St
  refine cs_putF F hin St 0 rfl rfl inX5 tyX5_ok nmX5 3 (by decide) kf_X5_21 rfl rfl rfl rfl (Nat.le_of_ble_eq_true rfl) (w' := [(h, .inr (5, [.ref q_1, .ref q_3, .ref q_5, .ref q_7, .int 0, .long 0])), (q_1, .inl (d_2, 250, .inl (fun _ => 0))), (q_3, .inl (d_4, 250, .inl (fun _ => 0))), (q_5, .inl (d_6, 250, .inl (fun _ => 0))), (q_7, .inl (d_8, 250, .inl (fun _ => 0)))]) rfl dX5_init_37 (fun H locs St => ?_)
  exact cs_vret F hr hlk hQ St (q_1, q_3, q_5, q_7, d_2, d_4, d_6, d_8) (by trivial) [0, 1, 2, 3, 4] rfl (by decide) [0, 1, 2, 3] rfl (by decide) (by decide) dX5_init_40
set_option maxHeartbeats 4000000 in
set_option maxRecDepth 100000 in
theorem c5_size (l : Launch) (G : va_G) (k : Nat → Nat) (sz : Nat) (h : Nat) (b0 : Nat) (b1 : Nat) (b2 : Nat) (b3 : Nat) : Met l yX5_size (Cond.code yX5_size cX5_size 1 (some .int) :: tb) ({ frames := 0, cells := 0, slots := 0, locals := 0 } : Room) (va_Pc [.ref h] (cP G k [(h, .inr (5, [.ref b0, .ref b1, .ref b2, .ref b3, .int 0, .long 0]))] [] sz)) (va_Qi (fun (r : Int32) (_ : Unit) => (r = 0)) (cB G (fun (_ : Unit) => [(h, .inr (5, [.ref b0, .ref b1, .ref b2, .ref b3, .int 0, .long 0]))]) (fun (_ : Unit) => []) (va_A [(h, .inr (5, [.ref b0, .ref b1, .ref b2, .ref b3, .int 0, .long 0]))] sz)) (va_A [(h, .inr (5, [.ref b0, .ref b1, .ref b2, .ref b3, .int 0, .long 0]))] sz)) 0 0 (va_A [(h, .inr (5, [.ref b0, .ref b1, .ref b2, .ref b3, .int 0, .long 0]))] sz) := by
  refine ofC_i (cc := cX5_size) (maxL := 1) (ret := (some .int)) (by decide) rfl (Nat.le_of_ble_eq_true rfl) ?_
  intro p e s m args below meth c A ls Q F hr hin hlk St hl hQ
  have hx := F.1
  have hb := F.2.1
  have hl : lv_has ls 1 [(0, .ref h)] := hl
  have St : cS G k [(h, .inr (5, [.ref b0, .ref b1, .ref b2, .ref b3, .int 0, .long 0]))] [] A s s.heap [] := St
  refine lv_aload_n hx hb dX5_size_0 rfl (lv_at hl 0 rfl) ?_
  refine cs_get F St 0 rfl rfl inX5 4 (by decide) kf_X5_25 rfl dX5_size_1 ?_
  exact cs_iret F hr hlk hQ St () (r := 0) rfl [0] rfl (by decide) [] rfl (by decide) (by decide) dX5_size_4
set_option maxHeartbeats 4000000 in
set_option maxRecDepth 100000 in
theorem c5_total (l : Launch) (G : va_G) (k : Nat → Nat) (sz : Nat) (h : Nat) (b0 : Nat) (b1 : Nat) (b2 : Nat) (b3 : Nat) : Met l yX5_total (Cond.code yX5_total cX5_total 1 (some .long) :: tb) ({ frames := 0, cells := 0, slots := 0, locals := 0 } : Room) (va_Pc [.ref h] (cP G k [(h, .inr (5, [.ref b0, .ref b1, .ref b2, .ref b3, .int 0, .long 0]))] [] sz)) (va_Ql (fun (r : Int64) (_ : Unit) => (r = 0)) (cB G (fun (_ : Unit) => [(h, .inr (5, [.ref b0, .ref b1, .ref b2, .ref b3, .int 0, .long 0]))]) (fun (_ : Unit) => []) (va_A [(h, .inr (5, [.ref b0, .ref b1, .ref b2, .ref b3, .int 0, .long 0]))] sz)) (va_A [(h, .inr (5, [.ref b0, .ref b1, .ref b2, .ref b3, .int 0, .long 0]))] sz)) 0 0 (va_A [(h, .inr (5, [.ref b0, .ref b1, .ref b2, .ref b3, .int 0, .long 0]))] sz) := by
  refine ofC_l (cc := cX5_total) (maxL := 1) (ret := (some .long)) (by decide) rfl (Nat.le_of_ble_eq_true rfl) ?_
  intro p e s m args below meth c A ls Q F hr hin hlk St hl hQ
  have hx := F.1
  have hb := F.2.1
  have hl : lv_has ls 1 [(0, .ref h)] := hl
  have St : cS G k [(h, .inr (5, [.ref b0, .ref b1, .ref b2, .ref b3, .int 0, .long 0]))] [] A s s.heap [] := St
  refine lv_aload_n hx hb dX5_total_0 rfl (lv_at hl 0 rfl) ?_
  refine cs_get F St 0 rfl rfl inX5 5 (by decide) kf_X5_29 rfl dX5_total_1 ?_
  exact cs_lret F hr hlk hQ St () (r := 0) rfl [0] rfl (by decide) [] rfl (by decide) (by decide) dX5_total_4
set_option maxHeartbeats 4000000 in
set_option maxRecDepth 100000 in
theorem c5_isFull (l : Launch) (G : va_G) (k : Nat → Nat) (sz : Nat) (h : Nat) (b0 : Nat) (b1 : Nat) (b2 : Nat) (b3 : Nat) : Met l yX5_isFull (Cond.code yX5_isFull cX5_isFull 1 (some .boolean) :: tb) ({ frames := 0, cells := 0, slots := 0, locals := 0 } : Room) (va_Pc [.ref h] (cP G k [(h, .inr (5, [.ref b0, .ref b1, .ref b2, .ref b3, .int 0, .long 0]))] [] sz)) (va_Qi (fun (r : Int32) (_ : Unit) => (r = 0)) (cB G (fun (_ : Unit) => [(h, .inr (5, [.ref b0, .ref b1, .ref b2, .ref b3, .int 0, .long 0]))]) (fun (_ : Unit) => []) (va_A [(h, .inr (5, [.ref b0, .ref b1, .ref b2, .ref b3, .int 0, .long 0]))] sz)) (va_A [(h, .inr (5, [.ref b0, .ref b1, .ref b2, .ref b3, .int 0, .long 0]))] sz)) 0 0 (va_A [(h, .inr (5, [.ref b0, .ref b1, .ref b2, .ref b3, .int 0, .long 0]))] sz) := by
  refine ofC_i (cc := cX5_isFull) (maxL := 1) (ret := (some .boolean)) (by decide) rfl (Nat.le_of_ble_eq_true rfl) ?_
  intro p e s m args below meth c A ls Q F hr hin hlk St hl hQ
  have hx := F.1
  have hb := F.2.1
  have hl : lv_has ls 1 [(0, .ref h)] := hl
  have St : cS G k [(h, .inr (5, [.ref b0, .ref b1, .ref b2, .ref b3, .int 0, .long 0]))] [] A s s.heap [] := St
  refine lv_aload_n hx hb dX5_isFull_0 rfl (lv_at hl 0 rfl) ?_
  refine cs_get F St 0 rfl rfl inX5 4 (by decide) kf_X5_25 rfl dX5_isFull_1 ?_
  refine lv_sipush (v := 250) hx hb dX5_isFull_4 (by decide) ?_
  refine lv_icmp_lt (tgt := 14) hx hb dX5_isFull_7 (by decide) (fun c7 => ?_) (fun c7 => ?_)
  rotate_left
  · exact absurd (by decide) c7
  refine lv_iconst (v := 0) hx hb dX5_isFull_14 (by decide) ?_
  exact cs_zret F hr hlk hQ St () (r := 0) rfl rfl [0] rfl (by decide) [] rfl (by decide) (by decide) dX5_isFull_15
set_option maxHeartbeats 4000000 in
set_option maxRecDepth 100000 in
theorem c5_givenBy (l : Launch) (G : va_G) (k : Nat → Nat) (sz : Nat) (h : Nat) (b0 : Nat) (b1 : Nat) (b2 : Nat) (b3 : Nat) (g : Int32) : Met l yX5_givenBy (Cond.code yX5_givenBy cX5_givenBy 4 (some .int) :: tb) ({ frames := 0, cells := 0, slots := 0, locals := 0 } : Room) (va_Pc [.ref h, .int g] (cP G k [(h, .inr (5, [.ref b0, .ref b1, .ref b2, .ref b3, .int 0, .long 0]))] [] sz)) (va_Qi (fun (r : Int32) (_ : Unit) => (r = 0)) (cB G (fun (_ : Unit) => [(h, .inr (5, [.ref b0, .ref b1, .ref b2, .ref b3, .int 0, .long 0]))]) (fun (_ : Unit) => []) (va_A [(h, .inr (5, [.ref b0, .ref b1, .ref b2, .ref b3, .int 0, .long 0]))] sz)) (va_A [(h, .inr (5, [.ref b0, .ref b1, .ref b2, .ref b3, .int 0, .long 0]))] sz)) 0 0 (va_A [(h, .inr (5, [.ref b0, .ref b1, .ref b2, .ref b3, .int 0, .long 0]))] sz) := by
  refine ofC_i (cc := cX5_givenBy) (maxL := 4) (ret := (some .int)) (by decide) rfl (Nat.le_of_ble_eq_true rfl) ?_
  intro p e s m args below meth c A ls Q F hr hin hlk St hl hQ
  have hx := F.1
  have hb := F.2.1
  have hl : lv_has ls 4 [(0, .ref h), (1, .int g)] := hl
  have St : cS G k [(h, .inr (5, [.ref b0, .ref b1, .ref b2, .ref b3, .int 0, .long 0]))] [] A s s.heap [] := St
  refine lv_iconst (v := 0) hx hb dX5_givenBy_0 (by decide) ?_
  refine lv_istore_n (lv' := [(2, .int 0), (0, .ref h), (1, .int g)]) hx hb dX5_givenBy_1 rfl hl (by decide) rfl (fun ls hl => ?_)
  refine lv_iconst (v := 0) hx hb dX5_givenBy_2 (by decide) ?_
  refine lv_istore_n (lv' := [(3, .int 0), (2, .int 0), (0, .ref h), (1, .int g)]) hx hb dX5_givenBy_3 rfl hl (by decide) rfl (fun ls hl => ?_)
  refine lv_iload_n hx hb dX5_givenBy_4 rfl (lv_at hl 0 rfl) ?_
  refine lv_aload_n hx hb dX5_givenBy_5 rfl (lv_at hl 2 rfl) ?_
  refine cs_get F St 0 rfl rfl inX5 4 (by decide) kf_X5_25 rfl dX5_givenBy_6 ?_
  refine lv_icmp_ge (tgt := 44) hx hb dX5_givenBy_9 (by decide) (fun c9 => ?_) (fun c9 => ?_)
  rotate_left
  · exact absurd (by decide) c9
  refine lv_iload_n hx hb dX5_givenBy_44 rfl (lv_at hl 1 rfl) ?_
  exact cs_iret F hr hlk hQ St () (r := 0) rfl [0] rfl (by decide) [] rfl (by decide) (by decide) dX5_givenBy_45
set_option maxHeartbeats 4000000 in
set_option maxRecDepth 100000 in
theorem c5_unclaimedOf (l : Launch) (G : va_G) (k : Nat → Nat) (sz : Nat) (h : Nat) (b0 : Nat) (b1 : Nat) (b2 : Nat) (b3 : Nat) (g : Int32) : Met l yX5_unclaimedOf (Cond.code yX5_unclaimedOf cX5_unclaimedOf 4 (some .int) :: tb) ({ frames := 0, cells := 0, slots := 0, locals := 0 } : Room) (va_Pc [.ref h, .int g] (cP G k [(h, .inr (5, [.ref b0, .ref b1, .ref b2, .ref b3, .int 0, .long 0]))] [] sz)) (va_Qi (fun (r : Int32) (_ : Unit) => (r = 0)) (cB G (fun (_ : Unit) => [(h, .inr (5, [.ref b0, .ref b1, .ref b2, .ref b3, .int 0, .long 0]))]) (fun (_ : Unit) => []) (va_A [(h, .inr (5, [.ref b0, .ref b1, .ref b2, .ref b3, .int 0, .long 0]))] sz)) (va_A [(h, .inr (5, [.ref b0, .ref b1, .ref b2, .ref b3, .int 0, .long 0]))] sz)) 0 0 (va_A [(h, .inr (5, [.ref b0, .ref b1, .ref b2, .ref b3, .int 0, .long 0]))] sz) := by
  refine ofC_i (cc := cX5_unclaimedOf) (maxL := 4) (ret := (some .int)) (by decide) rfl (Nat.le_of_ble_eq_true rfl) ?_
  intro p e s m args below meth c A ls Q F hr hin hlk St hl hQ
  have hx := F.1
  have hb := F.2.1
  have hl : lv_has ls 4 [(0, .ref h), (1, .int g)] := hl
  have St : cS G k [(h, .inr (5, [.ref b0, .ref b1, .ref b2, .ref b3, .int 0, .long 0]))] [] A s s.heap [] := St
  refine lv_iconst (v := 0) hx hb dX5_unclaimedOf_0 (by decide) ?_
  refine lv_istore_n (lv' := [(2, .int 0), (0, .ref h), (1, .int g)]) hx hb dX5_unclaimedOf_1 rfl hl (by decide) rfl (fun ls hl => ?_)
  refine lv_iconst (v := 0) hx hb dX5_unclaimedOf_2 (by decide) ?_
  refine lv_istore_n (lv' := [(3, .int 0), (2, .int 0), (0, .ref h), (1, .int g)]) hx hb dX5_unclaimedOf_3 rfl hl (by decide) rfl (fun ls hl => ?_)
  refine lv_iload_n hx hb dX5_unclaimedOf_4 rfl (lv_at hl 0 rfl) ?_
  refine lv_aload_n hx hb dX5_unclaimedOf_5 rfl (lv_at hl 2 rfl) ?_
  refine cs_get F St 0 rfl rfl inX5 4 (by decide) kf_X5_25 rfl dX5_unclaimedOf_6 ?_
  refine lv_icmp_ge (tgt := 53) hx hb dX5_unclaimedOf_9 (by decide) (fun c9 => ?_) (fun c9 => ?_)
  rotate_left
  · exact absurd (by decide) c9
  refine lv_iload_n hx hb dX5_unclaimedOf_53 rfl (lv_at hl 1 rfl) ?_
  exact cs_iret F hr hlk hQ St () (r := 0) rfl [0] rfl (by decide) [] rfl (by decide) (by decide) dX5_unclaimedOf_54
set_option maxHeartbeats 4000000 in
set_option maxRecDepth 100000 in
theorem c5_add (l : Launch) (G : va_G) (k : Nat → Nat) (sz : Nat) (h : Nat) (b0 : Nat) (b1 : Nat) (b2 : Nat) (b3 : Nat) (e0 : ClassId) (e1 : ClassId) (e2 : ClassId) (g : Int32) (x : Int32) (mm : Int32) : Met l yX5_add (Cond.code yX5_add cX5_add 4 none :: tb) ({ frames := 0, cells := 0, slots := 0, locals := 0 } : Room) (va_Pc [.ref h, .int g, .int x, .int mm] (cP G k [(h, .inr (5, [.ref b0, .ref b1, .ref b2, .ref b3, .int 0, .long 0])), (b0, .inl (e0, 250, .inl (fun _ => 0))), (b1, .inl (e1, 250, .inl (fun _ => 0))), (b2, .inl (e2, 250, .inl (fun _ => 0)))] [(e0, .int), (e1, .int), (e2, .int)] sz)) (va_Qv (fun (_ : Unit) => True) (cB G (fun (_ : Unit) => []) (fun (_ : Unit) => []) (va_A [(h, .inr (5, [.ref b0, .ref b1, .ref b2, .ref b3, .int 0, .long 0])), (b0, .inl (e0, 250, .inl (fun _ => 0))), (b1, .inl (e1, 250, .inl (fun _ => 0))), (b2, .inl (e2, 250, .inl (fun _ => 0)))] sz)) (va_A [(h, .inr (5, [.ref b0, .ref b1, .ref b2, .ref b3, .int 0, .long 0])), (b0, .inl (e0, 250, .inl (fun _ => 0))), (b1, .inl (e1, 250, .inl (fun _ => 0))), (b2, .inl (e2, 250, .inl (fun _ => 0)))] sz)) 0 0 (va_A [(h, .inr (5, [.ref b0, .ref b1, .ref b2, .ref b3, .int 0, .long 0])), (b0, .inl (e0, 250, .inl (fun _ => 0))), (b1, .inl (e1, 250, .inl (fun _ => 0))), (b2, .inl (e2, 250, .inl (fun _ => 0)))] sz) := by
  refine ofC_v (cc := cX5_add) (maxL := 4) (ret := none) (by decide) rfl (Nat.le_of_ble_eq_true rfl) ?_
  intro p e s m args below meth c A ls Q F hr hin hlk St hl hQ
  have hx := F.1
  have hb := F.2.1
  have hl : lv_has ls 4 [(0, .ref h), (1, .int g), (2, .int x), (3, .int mm)] := hl
  have St : cS G k [(h, .inr (5, [.ref b0, .ref b1, .ref b2, .ref b3, .int 0, .long 0])), (b0, .inl (e0, 250, .inl (fun _ => 0))), (b1, .inl (e1, 250, .inl (fun _ => 0))), (b2, .inl (e2, 250, .inl (fun _ => 0)))] [(e0, .int), (e1, .int), (e2, .int)] A s s.heap [] := St
  refine lv_aload_n hx hb dX5_add_0 rfl (lv_at hl 0 rfl) ?_
  refine cs_get F St 0 rfl rfl inX5 4 (by decide) kf_X5_25 rfl dX5_add_1 ?_
  refine lv_if_lt (tgt := 68) hx hb dX5_add_4 (by decide) (fun c4 => ?_) (fun c4 => ?_)
  · exact absurd c4 (by decide)
  refine lv_aload_n hx hb dX5_add_7 rfl (lv_at hl 0 rfl) ?_
  refine cs_get F St 0 rfl rfl inX5 4 (by decide) kf_X5_25 rfl dX5_add_8 ?_
  refine lv_sipush (v := 250) hx hb dX5_add_11 (by decide) ?_
  refine lv_icmp_ge (tgt := 68) hx hb dX5_add_14 (by decide) (fun c14 => ?_) (fun c14 => ?_)
  · exact absurd c14 (by decide)
  refine lv_aload_n hx hb dX5_add_17 rfl (lv_at hl 0 rfl) ?_
  refine cs_get F St 0 rfl rfl inX5 0 (by decide) kf_X5_9 rfl dX5_add_18 ?_
  refine lv_aload_n hx hb dX5_add_21 rfl (lv_at hl 0 rfl) ?_
  refine cs_get F St 0 rfl rfl inX5 4 (by decide) kf_X5_25 rfl dX5_add_22 ?_
  refine lv_iload_n hx hb dX5_add_25 rfl (lv_at hl 1 rfl) ?_
  refine cs_ist F St 1 0 rfl rfl (vp_in_iff.mpr (by decide)) (w' := [(h, .inr (5, [.ref b0, .ref b1, .ref b2, .ref b3, .int 0, .long 0])), (b0, .inl (e0, 250, .inl (upd (fun _ => 0) (0 : Int32).toNatClampNeg g))), (b1, .inl (e1, 250, .inl (fun _ => 0))), (b2, .inl (e2, 250, .inl (fun _ => 0)))]) rfl dX5_add_26 (fun H locs St => ?_)
  obtain ⟨f_1, ef_1⟩ : ∃ zz : Nat → Int32, zz = upd (fun _ => 0) (0 : Int32).toNatClampNeg g := ⟨_, rfl⟩
  rw [← ef_1] at St
  refine lv_aload_n hx hb dX5_add_27 rfl (lv_at hl 0 rfl) ?_
  refine cs_get F St 0 rfl rfl inX5 1 (by decide) kf_X5_15 rfl dX5_add_28 ?_
  refine lv_aload_n hx hb dX5_add_31 rfl (lv_at hl 0 rfl) ?_
  refine cs_get F St 0 rfl rfl inX5 4 (by decide) kf_X5_25 rfl dX5_add_32 ?_
  refine lv_iload_n hx hb dX5_add_35 rfl (lv_at hl 2 rfl) ?_
  refine cs_ist F St 2 1 rfl rfl (vp_in_iff.mpr (by decide)) (w' := [(h, .inr (5, [.ref b0, .ref b1, .ref b2, .ref b3, .int 0, .long 0])), (b0, .inl (e0, 250, .inl f_1)), (b1, .inl (e1, 250, .inl (upd (fun _ => 0) (0 : Int32).toNatClampNeg x))), (b2, .inl (e2, 250, .inl (fun _ => 0)))]) rfl dX5_add_36 (fun H locs St => ?_)
  obtain ⟨f_2, ef_2⟩ : ∃ zz : Nat → Int32, zz = upd (fun _ => 0) (0 : Int32).toNatClampNeg x := ⟨_, rfl⟩
  rw [← ef_2] at St
  refine lv_aload_n hx hb dX5_add_37 rfl (lv_at hl 0 rfl) ?_
  refine cs_get F St 0 rfl rfl inX5 2 (by decide) kf_X5_18 rfl dX5_add_38 ?_
  refine lv_aload_n hx hb dX5_add_41 rfl (lv_at hl 0 rfl) ?_
  refine cs_get F St 0 rfl rfl inX5 4 (by decide) kf_X5_25 rfl dX5_add_42 ?_
  refine lv_iload_n hx hb dX5_add_45 rfl (lv_at hl 3 rfl) ?_
  refine cs_ist F St 3 2 rfl rfl (vp_in_iff.mpr (by decide)) (w' := [(h, .inr (5, [.ref b0, .ref b1, .ref b2, .ref b3, .int 0, .long 0])), (b0, .inl (e0, 250, .inl f_1)), (b1, .inl (e1, 250, .inl f_2)), (b2, .inl (e2, 250, .inl (upd (fun _ => 0) (0 : Int32).toNatClampNeg mm)))]) rfl dX5_add_46 (fun H locs St => ?_)
  obtain ⟨f_3, ef_3⟩ : ∃ zz : Nat → Int32, zz = upd (fun _ => 0) (0 : Int32).toNatClampNeg mm := ⟨_, rfl⟩
  rw [← ef_3] at St
  refine lv_aload_n hx hb dX5_add_47 rfl (lv_at hl 0 rfl) ?_
  refine lv_dup hx hb dX5_add_48 rfl ?_
  refine cs_get F St 0 rfl rfl inX5 4 (by decide) kf_X5_25 rfl dX5_add_49 ?_
  refine lv_iconst (v := 1) hx hb dX5_add_52 (by decide) ?_
  refine lv_iadd hx hb dX5_add_53 ?_
  refine top_i (y := 1) (by decide) ?_
  refine cs_put F St 0 rfl rfl inX5 tyX5_ok nmX5 4 (by decide) kf_X5_25 rfl rfl rfl (Nat.le_of_ble_eq_true rfl) (w' := [(h, .inr (5, [.ref b0, .ref b1, .ref b2, .ref b3, .int 1, .long 0])), (b0, .inl (e0, 250, .inl f_1)), (b1, .inl (e1, 250, .inl f_2)), (b2, .inl (e2, 250, .inl f_3))]) rfl dX5_add_54 (fun H locs St => ?_)
  refine lv_aload_n hx hb dX5_add_57 rfl (lv_at hl 0 rfl) ?_
  refine lv_dup hx hb dX5_add_58 rfl ?_
  refine cs_get F St 0 rfl rfl inX5 5 (by decide) kf_X5_29 rfl dX5_add_59 ?_
  refine lv_iload_n hx hb dX5_add_62 rfl (lv_at hl 2 rfl) ?_
  refine lv_i2l (v := x.toInt64) hx hb dX5_add_63 rfl ?_
  refine lv_ladd hx hb dX5_add_64 ?_
  refine lv_topl (fun y_4 ey_4 => ?_)
  refine cs_put F St 0 rfl rfl inX5 tyX5_ok nmX5 5 (by decide) kf_X5_29 rfl rfl rfl (Nat.le_of_ble_eq_true rfl) (w' := [(h, .inr (5, [.ref b0, .ref b1, .ref b2, .ref b3, .int 1, .long y_4])), (b0, .inl (e0, 250, .inl f_1)), (b1, .inl (e1, 250, .inl f_2)), (b2, .inl (e2, 250, .inl f_3))]) rfl dX5_add_65 (fun H locs St => ?_)
  exact cs_vret F hr hlk hQ St () (by trivial) [] rfl (by decide) [] rfl (by decide) (by decide) dX5_add_68
set_option maxHeartbeats 4000000 in
set_option maxRecDepth 100000 in
theorem c5_claimTax (l : Launch) (G : va_G) (k : Nat → Nat) (sz : Nat) (h : Nat) (b0 : Nat) (b1 : Nat) (b2 : Nat) (b3 : Nat) (v : Nat) : Met l yX5_claimTax (Cond.code yX5_claimTax cX5_claimTax 6 (some .int) :: tb) ({ frames := 0, cells := 0, slots := 0, locals := 0 } : Room) (va_Pc [.ref h, .int 0, .ref v] (cP G k [(h, .inr (5, [.ref b0, .ref b1, .ref b2, .ref b3, .int 0, .long 0]))] [] sz)) (va_Qi (fun (r : Int32) (_ : Unit) => (r = 0)) (cB G (fun (_ : Unit) => [(h, .inr (5, [.ref b0, .ref b1, .ref b2, .ref b3, .int 0, .long 0]))]) (fun (_ : Unit) => []) (va_A [(h, .inr (5, [.ref b0, .ref b1, .ref b2, .ref b3, .int 0, .long 0]))] sz)) (va_A [(h, .inr (5, [.ref b0, .ref b1, .ref b2, .ref b3, .int 0, .long 0]))] sz)) 0 0 (va_A [(h, .inr (5, [.ref b0, .ref b1, .ref b2, .ref b3, .int 0, .long 0]))] sz) := by
  refine ofC_i (cc := cX5_claimTax) (maxL := 6) (ret := (some .int)) (by decide) rfl (Nat.le_of_ble_eq_true rfl) ?_
  intro p e s m args below meth c A ls Q F hr hin hlk St hl hQ
  have hx := F.1
  have hb := F.2.1
  have hl : lv_has ls 6 [(0, .ref h), (1, .int 0), (2, .ref v)] := hl
  have St : cS G k [(h, .inr (5, [.ref b0, .ref b1, .ref b2, .ref b3, .int 0, .long 0]))] [] A s s.heap [] := St
  refine lv_iload_n hx hb dX5_claimTax_0 rfl (lv_at hl 1 rfl) ?_
  refine lv_if_ne (tgt := 6) hx hb dX5_claimTax_1 (by decide) (fun c1 => ?_) (fun c1 => ?_)
  · exact absurd c1 (by decide)
  refine lv_iconst (v := 0) hx hb dX5_claimTax_4 (by decide) ?_
  exact cs_iret F hr hlk hQ St () (r := 0) rfl [0] rfl (by decide) [] rfl (by decide) (by decide) dX5_claimTax_5
set_option maxHeartbeats 4000000 in
set_option maxRecDepth 100000 in
theorem c0_orderStones (l : Launch) (G : va_G) (k : Nat → Nat) (sz : Nat) (h : Nat) (b0 : Nat) (b1 : Nat) (b2 : Nat) (b3 : Nat) (b4 : Nat) (b5 : Nat) (e4 : ClassId) (f4 : Nat → Int32) (zs : Nat) (zs0 : Nat) (zs1 : Nat) (zs2 : Nat) (zs3 : Nat) (y : Int32) : Met l yX0_orderStones (Cond.code yX0_orderStones cX0_orderStones 8 (some .int) :: tb) ({ frames := 1, cells := 0, slots := 0, locals := 20 } : Room) (va_Pc [.ref h, .ref zs, .int y] (cP G k [(h, .inr (0, [.ref b0, .ref b1, .ref b2, .ref b3, .ref b4, .ref b5])), (b4, .inl (e4, 30, .inl f4)), (zs, .inr (5, [.ref zs0, .ref zs1, .ref zs2, .ref zs3, .int 0, .long 0]))] [(e4, .int)] sz)) (va_Qi (fun (r : Int32) (z4 : (Nat → Int32)) => (r = 0)) (cB G (fun (z4 : (Nat → Int32)) => [(h, .inr (0, [.ref b0, .ref b1, .ref b2, .ref b3, .ref b4, .ref b5])), (b4, .inl (e4, 30, .inl z4)), (zs, .inr (5, [.ref zs0, .ref zs1, .ref zs2, .ref zs3, .int 0, .long 0]))]) (fun (z4 : (Nat → Int32)) => []) (va_A [(h, .inr (0, [.ref b0, .ref b1, .ref b2, .ref b3, .ref b4, .ref b5])), (b4, .inl (e4, 30, .inl f4)), (zs, .inr (5, [.ref zs0, .ref zs1, .ref zs2, .ref zs3, .int 0, .long 0]))] sz)) (va_A [(h, .inr (0, [.ref b0, .ref b1, .ref b2, .ref b3, .ref b4, .ref b5])), (b4, .inl (e4, 30, .inl f4)), (zs, .inr (5, [.ref zs0, .ref zs1, .ref zs2, .ref zs3, .int 0, .long 0]))] sz)) 0 0 (va_A [(h, .inr (0, [.ref b0, .ref b1, .ref b2, .ref b3, .ref b4, .ref b5])), (b4, .inl (e4, 30, .inl f4)), (zs, .inr (5, [.ref zs0, .ref zs1, .ref zs2, .ref zs3, .int 0, .long 0]))] sz) := by
  refine ofC_i (cc := cX0_orderStones) (maxL := 8) (ret := (some .int)) (by decide) rfl (Nat.le_of_ble_eq_true rfl) ?_
  intro p e s m args below meth c A ls Q F hr hin hlk St hl hQ
  have hx := F.1
  have hb := F.2.1
  have hl : lv_has ls 8 [(0, .ref h), (1, .ref zs), (2, .int y)] := hl
  have St : cS G k [(h, .inr (0, [.ref b0, .ref b1, .ref b2, .ref b3, .ref b4, .ref b5])), (b4, .inl (e4, 30, .inl f4)), (zs, .inr (5, [.ref zs0, .ref zs1, .ref zs2, .ref zs3, .int 0, .long 0]))] [(e4, .int)] A s s.heap [] := St
  refine lv_iconst (v := 0) hx hb dX0_orderStones_0 (by decide) ?_
  refine lv_istore_n (lv' := [(3, .int 0), (0, .ref h), (1, .ref zs), (2, .int y)]) hx hb dX0_orderStones_1 rfl hl (by decide) rfl (fun ls hl => ?_)
  have lp2 : ∀ (n : Nat) (i : Int32) (fa : Nat → Int32) (H : Heap) (locs : List Loc) (ls : Array Slot), (0 ≤ i.toInt ∧ i.toInt ≤ 30) → ((30 - i.toInt).toNat) < n → cS G k [(h, .inr (0, [.ref b0, .ref b1, .ref b2, .ref b3, .ref b4, .ref b5])), (b4, .inl (e4, 30, .inl fa)), (zs, .inr (5, [.ref zs0, .ref zs1, .ref zs2, .ref zs3, .int 0, .long 0]))] [(e4, .int)] A s H locs → lv_has ls 8 [(3, .int i), (0, .ref h), (1, .ref zs), (2, .int y)] → W p l e ({ frames := 1, cells := 0, slots := 0, locals := 20 } : Room) s m args below meth c H locs 0 0 Q (F0 m 2 ls []) := by
    intro n
    induction n with
    | zero => intro i fa H locs ls hI hn; exact absurd hn (Nat.not_lt_zero _)
    | succ n ih =>
      intro i fa H locs ls hI hn St hl
      obtain ⟨hI0, hI1⟩ := hI
      refine lv_iload_n hx hb dX0_orderStones_2 rfl (lv_at hl 0 rfl) ?_
      refine lv_bipush (v := 30) hx hb dX0_orderStones_3 (by decide) ?_
      refine lv_icmp_ge (tgt := 21) hx hb dX0_orderStones_5 (by decide) (fun c5 => ?_) (fun c5 => ?_)
      ·
        have i5 := ci_le (x := 30) (y := i) (show (30 : Int32).toInt = 30 by decide) rfl c5
        refine lv_iconst (v := 0) hx hb dX0_orderStones_21 (by decide) ?_
        refine lv_istore_n (lv' := [(3, .int 0), (0, .ref h), (1, .ref zs), (2, .int y)]) hx hb dX0_orderStones_22 rfl hl (by decide) rfl (fun ls hl => ?_)
        refine lv_iconst (v := 0) hx hb dX0_orderStones_23 (by decide) ?_
        refine lv_istore (lv' := [(4, .int 0), (3, .int 0), (0, .ref h), (1, .ref zs), (2, .int y)]) hx hb dX0_orderStones_24 hl (by decide) rfl (fun ls hl => ?_)
        refine lv_iload hx hb dX0_orderStones_26 (lv_at hl 0 rfl) ?_
        refine lv_aload_n hx hb dX0_orderStones_28 rfl (lv_at hl 3 rfl) ?_
        refine cs_i St [2] [0, 1] (wc := [(zs, .inr (5, [.ref zs0, .ref zs1, .ref zs2, .ref zs3, .int 0, .long 0]))]) (wr := [(h, .inr (0, [.ref b0, .ref b1, .ref b2, .ref b3, .ref b4, .ref b5])), (b4, .inl (e4, 30, .inl fa))]) rfl rfl (by decide) (by decide) (va_runV (As := []) (rest := [.int 0]) F (c5_size l G k _ zs zs0 zs1 zs2 zs3) (cwVt F mf_X5_size km_X0_35 rfl rfl ⟨Nat.le_of_ble_eq_true rfl, Nat.le_of_ble_eq_true rfl⟩) (cs_preV St [2] rfl (by decide) [] rfl (ci := 5) (q0 := 2) rfl rfl) rfl rfl hl.1 rfl (lv_room (Nat.le_of_ble_eq_true rfl)) dX0_orderStones_29 ⟨Nat.le_of_ble_eq_true rfl, Nat.le_of_ble_eq_true rfl⟩) (fun r_1 u_2 H locs hw St => ?_)
        try dsimp only at hw
        have z_3 := hw
        subst r_1
        have St : cS G k [(h, .inr (0, [.ref b0, .ref b1, .ref b2, .ref b3, .ref b4, .ref b5])), (b4, .inl (e4, 30, .inl fa)), (zs, .inr (5, [.ref zs0, .ref zs1, .ref zs2, .ref zs3, .int 0, .long 0]))] [(e4, .int)] A s H locs := St
        refine lv_icmp_ge (tgt := 146) hx hb dX0_orderStones_32 (by decide) (fun c32 => ?_) (fun c32 => ?_)
        rotate_left
        · exact absurd (by decide) c32
        refine lv_iload_n hx hb dX0_orderStones_146 rfl (lv_at hl 1 rfl) ?_
        exact cs_iret F hr hlk hQ St fa (r := 0) rfl [0, 1, 2] rfl (by decide) [] rfl (by decide) (by decide) dX0_orderStones_147
      ·
        have i5 := ci_nle (x := 30) (y := i) (show (30 : Int32).toInt = 30 by decide) rfl c5
        refine lv_aload_n hx hb dX0_orderStones_8 rfl (lv_at hl 1 rfl) ?_
        refine cs_get F St 0 rfl rfl inX0 4 (by decide) kf_X0_25 rfl dX0_orderStones_9 ?_
        refine lv_iload_n hx hb dX0_orderStones_12 rfl (lv_at hl 0 rfl) ?_
        refine lv_iconst (v := 0) hx hb dX0_orderStones_13 (by decide) ?_
        refine cs_ist F St 1 0 rfl rfl (vp_in_iff.mpr ⟨by omega, by omega⟩) (w' := [(h, .inr (0, [.ref b0, .ref b1, .ref b2, .ref b3, .ref b4, .ref b5])), (b4, .inl (e4, 30, .inl (upd fa (i : Int32).toNatClampNeg 0))), (zs, .inr (5, [.ref zs0, .ref zs1, .ref zs2, .ref zs3, .int 0, .long 0]))]) rfl dX0_orderStones_14 (fun H locs St => ?_)
        obtain ⟨f_4, ef_4⟩ : ∃ zz : Nat → Int32, zz = upd fa (i : Int32).toNatClampNeg 0 := ⟨_, rfl⟩
        rw [← ef_4] at St
        obtain ⟨y_5, ey_5⟩ : ∃ zz : Int32, zz = i + 1 := ⟨_, rfl⟩
        have jy_5 := ci_add (x := i) rfl (show (1 : Int32).toInt = 1 by decide) ey_5
        refine lv_iinc (v := y_5) (lv' := [(3, .int y_5), (0, .ref h), (1, .ref zs), (2, .int y)]) hx hb dX0_orderStones_15 hl (k := 0) rfl (by rw [ey_5]; rfl) (by decide) rfl (fun ls hl => ?_)
        refine lv_goto (tgt := 2) hx hb dX0_orderStones_18 (by decide) ?_
        exact ih y_5 f_4 _ _ _ ⟨by omega, by omega⟩ (by omega) St (lv_sub hl [0, 1, 2, 3] rfl)
  exact lp2 31 0 f4 _ _ _ ⟨by decide, by decide⟩ (by decide) St (lv_sub hl [0, 1, 2, 3] rfl)
set_option maxHeartbeats 4000000 in
set_option maxRecDepth 100000 in
theorem c0_partCoin (l : Launch) (G : va_G) (k : Nat → Nat) (sz : Nat) (h : Nat) (b0 : Nat) (b1 : Nat) (b2 : Nat) (b3 : Nat) (b4 : Nat) (b5 : Nat) (e3 : ClassId) (zs : Nat) (zs0 : Nat) (zs1 : Nat) (zs2 : Nat) (zs3 : Nat) : Met l yX0_partCoin (Cond.code yX0_partCoin cX0_partCoin 11 (some .int) :: tb) ({ frames := 1, cells := 0, slots := 0, locals := 23 } : Room) (va_Pc [.ref h, .long 0, .ref zs, .int 0] (cP G k [(h, .inr (0, [.ref b0, .ref b1, .ref b2, .ref b3, .ref b4, .ref b5])), (b3, .inl (e3, 30, .inl (fun _ => 0))), (zs, .inr (5, [.ref zs0, .ref zs1, .ref zs2, .ref zs3, .int 0, .long 0]))] [(e3, .int)] sz)) (va_Qi (fun (r : Int32) (_ : Unit) => (r = 0)) (cB G (fun (_ : Unit) => [(h, .inr (0, [.ref b0, .ref b1, .ref b2, .ref b3, .ref b4, .ref b5])), (b3, .inl (e3, 30, .inl (fun _ => 0))), (zs, .inr (5, [.ref zs0, .ref zs1, .ref zs2, .ref zs3, .int 0, .long 0]))]) (fun (_ : Unit) => []) (va_A [(h, .inr (0, [.ref b0, .ref b1, .ref b2, .ref b3, .ref b4, .ref b5])), (b3, .inl (e3, 30, .inl (fun _ => 0))), (zs, .inr (5, [.ref zs0, .ref zs1, .ref zs2, .ref zs3, .int 0, .long 0]))] sz)) (va_A [(h, .inr (0, [.ref b0, .ref b1, .ref b2, .ref b3, .ref b4, .ref b5])), (b3, .inl (e3, 30, .inl (fun _ => 0))), (zs, .inr (5, [.ref zs0, .ref zs1, .ref zs2, .ref zs3, .int 0, .long 0]))] sz)) 0 0 (va_A [(h, .inr (0, [.ref b0, .ref b1, .ref b2, .ref b3, .ref b4, .ref b5])), (b3, .inl (e3, 30, .inl (fun _ => 0))), (zs, .inr (5, [.ref zs0, .ref zs1, .ref zs2, .ref zs3, .int 0, .long 0]))] sz) := by
  refine ofC_i (cc := cX0_partCoin) (maxL := 11) (ret := (some .int)) (by decide) rfl (Nat.le_of_ble_eq_true rfl) ?_
  intro p e s m args below meth c A ls Q F hr hin hlk St hl hQ
  have hx := F.1
  have hb := F.2.1
  have hl : lv_has ls 11 [(0, .ref h), (1, .long 0), (3, .ref zs), (4, .int 0)] := hl
  have St : cS G k [(h, .inr (0, [.ref b0, .ref b1, .ref b2, .ref b3, .ref b4, .ref b5])), (b3, .inl (e3, 30, .inl (fun _ => 0))), (zs, .inr (5, [.ref zs0, .ref zs1, .ref zs2, .ref zs3, .int 0, .long 0]))] [(e3, .int)] A s s.heap [] := St
  refine lv_aload_n hx hb dX0_partCoin_0 rfl (lv_at hl 2 rfl) ?_
  refine cs_l St [2] [0, 1] (wc := [(zs, .inr (5, [.ref zs0, .ref zs1, .ref zs2, .ref zs3, .int 0, .long 0]))]) (wr := [(h, .inr (0, [.ref b0, .ref b1, .ref b2, .ref b3, .ref b4, .ref b5])), (b3, .inl (e3, 30, .inl (fun _ => 0)))]) rfl rfl (by decide) (by decide) (va_runV (As := []) (rest := []) F (c5_total l G k _ zs zs0 zs1 zs2 zs3) (cwVt F mf_X5_total km_X0_48 rfl rfl ⟨Nat.le_of_ble_eq_true rfl, Nat.le_of_ble_eq_true rfl⟩) (cs_preV St [2] rfl (by decide) [] rfl (ci := 5) (q0 := 2) rfl rfl) rfl rfl hl.1 rfl (lv_room (Nat.le_of_ble_eq_true rfl)) dX0_partCoin_1 ⟨Nat.le_of_ble_eq_true rfl, Nat.le_of_ble_eq_true rfl⟩) (fun r_1 u_2 H locs hw St => ?_)
  try dsimp only at hw
  have z_3 := hw
  subst r_1
  have St : cS G k [(h, .inr (0, [.ref b0, .ref b1, .ref b2, .ref b3, .ref b4, .ref b5])), (b3, .inl (e3, 30, .inl (fun _ => 0))), (zs, .inr (5, [.ref zs0, .ref zs1, .ref zs2, .ref zs3, .int 0, .long 0]))] [(e3, .int)] A s H locs := St
  refine lv_lstore (lv' := [(5, .long 0), (0, .ref h), (1, .long 0), (3, .ref zs), (4, .int 0)]) hx hb dX0_partCoin_4 hl (by decide) rfl (fun ls hl => ?_)
  refine lv_iload hx hb dX0_partCoin_6 (lv_at hl 4 rfl) ?_
  refine lv_if_eq (tgt := 22) hx hb dX0_partCoin_8 (by decide) (fun c8 => ?_) (fun c8 => ?_)
  rotate_left
  · exact absurd (by decide) c8
  refine lv_iconst (v := 0) hx hb dX0_partCoin_22 (by decide) ?_
  refine lv_istore (lv' := [(7, .int 0), (5, .long 0), (0, .ref h), (1, .long 0), (3, .ref zs), (4, .int 0)]) hx hb dX0_partCoin_23 hl (by decide) rfl (fun ls hl => ?_)
  refine lv_iconst (v := 0) hx hb dX0_partCoin_25 (by decide) ?_
  refine lv_istore (lv' := [(8, .int 0), (7, .int 0), (5, .long 0), (0, .ref h), (1, .long 0), (3, .ref zs), (4, .int 0)]) hx hb dX0_partCoin_26 hl (by decide) rfl (fun ls hl => ?_)
  refine lv_iconst (v := 0) hx hb dX0_partCoin_28 (by decide) ?_
  refine lv_istore (lv' := [(9, .int 0), (8, .int 0), (7, .int 0), (5, .long 0), (0, .ref h), (1, .long 0), (3, .ref zs), (4, .int 0)]) hx hb dX0_partCoin_29 hl (by decide) rfl (fun ls hl => ?_)
  have lp31 : ∀ (n : Nat) (i : Int32) (H : Heap) (locs : List Loc) (ls : Array Slot), (0 ≤ i.toInt ∧ i.toInt ≤ 30) → ((30 - i.toInt).toNat) < n → cS G k [(h, .inr (0, [.ref b0, .ref b1, .ref b2, .ref b3, .ref b4, .ref b5])), (b3, .inl (e3, 30, .inl (fun _ => 0))), (zs, .inr (5, [.ref zs0, .ref zs1, .ref zs2, .ref zs3, .int 0, .long 0]))] [(e3, .int)] A s H locs → lv_has ls 11 [(9, .int i), (8, .int 0), (7, .int 0), (5, .long 0), (0, .ref h), (1, .long 0), (3, .ref zs), (4, .int 0)] → W p l e ({ frames := 1, cells := 0, slots := 0, locals := 23 } : Room) s m args below meth c H locs 0 0 Q (F0 m 31 ls []) := by
    intro n
    induction n with
    | zero => intro i H locs ls hI hn; exact absurd hn (Nat.not_lt_zero _)
    | succ n ih =>
      intro i H locs ls hI hn St hl
      obtain ⟨hI0, hI1⟩ := hI
      refine lv_iload hx hb dX0_partCoin_31 (lv_at hl 0 rfl) ?_
      refine lv_bipush (v := 30) hx hb dX0_partCoin_33 (by decide) ?_
      refine lv_icmp_ge (tgt := 104) hx hb dX0_partCoin_35 (by decide) (fun c35 => ?_) (fun c35 => ?_)
      ·
        have i35 := ci_le (x := 30) (y := i) (show (30 : Int32).toInt = 30 by decide) rfl c35
        refine lv_iload hx hb dX0_partCoin_104 (lv_at hl 1 rfl) ?_
        exact cs_iret F hr hlk hQ St () (r := 0) rfl [0, 1, 2] rfl (by decide) [] rfl (by decide) (by decide) dX0_partCoin_106
      ·
        have i35 := ci_nle (x := 30) (y := i) (show (30 : Int32).toInt = 30 by decide) rfl c35
        refine lv_aload_n hx hb dX0_partCoin_38 rfl (lv_at hl 6 rfl) ?_
        refine lv_iload hx hb dX0_partCoin_39 (lv_at hl 0 rfl) ?_
        refine cs_i St [2] [0, 1] (wc := [(zs, .inr (5, [.ref zs0, .ref zs1, .ref zs2, .ref zs3, .int 0, .long 0]))]) (wr := [(h, .inr (0, [.ref b0, .ref b1, .ref b2, .ref b3, .ref b4, .ref b5])), (b3, .inl (e3, 30, .inl (fun _ => 0)))]) rfl rfl (by decide) (by decide) (va_runV (As := [.int i]) (rest := []) F (c5_givenBy l G k _ zs zs0 zs1 zs2 zs3 i) (cwVt F mf_X5_givenBy km_X0_52 rfl rfl ⟨Nat.le_of_ble_eq_true rfl, Nat.le_of_ble_eq_true rfl⟩) (cs_preV St [2] rfl (by decide) [] rfl (ci := 5) (q0 := 2) rfl rfl) rfl rfl hl.1 rfl (lv_room (Nat.le_of_ble_eq_true rfl)) dX0_partCoin_41 ⟨Nat.le_of_ble_eq_true rfl, Nat.le_of_ble_eq_true rfl⟩) (fun r_4 u_5 H locs hw St => ?_)
        try dsimp only at hw
        have z_6 := hw
        subst r_4
        have St : cS G k [(h, .inr (0, [.ref b0, .ref b1, .ref b2, .ref b3, .ref b4, .ref b5])), (b3, .inl (e3, 30, .inl (fun _ => 0))), (zs, .inr (5, [.ref zs0, .ref zs1, .ref zs2, .ref zs3, .int 0, .long 0]))] [(e3, .int)] A s H locs := St
        refine lv_istore (lv' := [(10, .int 0), (9, .int i), (8, .int 0), (7, .int 0), (5, .long 0), (0, .ref h), (1, .long 0), (3, .ref zs), (4, .int 0)]) hx hb dX0_partCoin_44 hl (by decide) rfl (fun ls hl => ?_)
        refine lv_iload hx hb dX0_partCoin_46 (lv_at hl 3 rfl) ?_
        refine lv_if_eq (tgt := 63) hx hb dX0_partCoin_48 (by decide) (fun c48 => ?_) (fun c48 => ?_)
        rotate_left
        · exact absurd (by decide) c48
        refine lv_lload hx hb dX0_partCoin_63 (lv_at hl 4 rfl) ?_
        refine lv_lconst (v := 0) hx hb dX0_partCoin_65 (by decide) ?_
        refine W.lcmp hx hb dX0_partCoin_66 ?_
        refine top_i (y := 0) (by decide) ?_
        refine lv_if_le (tgt := 86) hx hb dX0_partCoin_67 (by decide) (fun c67 => ?_) (fun c67 => ?_)
        rotate_left
        · exact absurd (by decide) c67
        refine lv_iload hx hb dX0_partCoin_86 (lv_at hl 2 rfl) ?_
        refine lv_aload_n hx hb dX0_partCoin_88 rfl (lv_at hl 5 rfl) ?_
        refine cs_get F St 0 rfl rfl inX0 3 (by decide) kf_X0_22 rfl dX0_partCoin_89 ?_
        refine lv_iload hx hb dX0_partCoin_92 (lv_at hl 1 rfl) ?_
        refine cs_ild F St 1 0 rfl rfl (vp_in_iff.mpr ⟨by omega, by omega⟩) dX0_partCoin_94 ?_
        refine top_i (y := 0) rfl ?_
        refine lv_iadd hx hb dX0_partCoin_95 ?_
        refine top_i (y := 0) (by decide) ?_
        refine lv_istore (lv' := [(8, .int 0), (10, .int 0), (9, .int i), (7, .int 0), (5, .long 0), (0, .ref h), (1, .long 0), (3, .ref zs), (4, .int 0)]) hx hb dX0_partCoin_96 hl (by decide) rfl (fun ls hl => ?_)
        obtain ⟨y_7, ey_7⟩ : ∃ zz : Int32, zz = i + 1 := ⟨_, rfl⟩
        have jy_7 := ci_add (x := i) rfl (show (1 : Int32).toInt = 1 by decide) ey_7
        refine lv_iinc (v := y_7) (lv' := [(9, .int y_7), (8, .int 0), (10, .int 0), (7, .int 0), (5, .long 0), (0, .ref h), (1, .long 0), (3, .ref zs), (4, .int 0)]) hx hb dX0_partCoin_98 hl (k := 2) rfl (by rw [ey_7]; rfl) (by decide) rfl (fun ls hl => ?_)
        refine lv_goto (tgt := 31) hx hb dX0_partCoin_101 (by decide) ?_
        exact ih y_7 _ _ _ ⟨by omega, by omega⟩ (by omega) St (lv_sub hl [0, 1, 3, 4, 5, 6, 7, 8] rfl)
  exact lp31 31 0 _ _ _ ⟨by decide, by decide⟩ (by decide) St (lv_sub hl [0, 1, 2, 3, 4, 5, 6, 7] rfl)
set_option maxHeartbeats 4000000 in
set_option maxRecDepth 100000 in
/-- PledgeBook() -/
theorem c2_init (l : Launch) (G : va_G) (k : Nat → Nat) (sz : Nat) (h : Nat) : Met l yX2_init (Cond.code yX2_init cX2_init 1 none :: tb) ({ frames := 1, cells := 1, slots := 60, locals := 20 } : Room) (va_Pc [.ref h] (cP G k [(h, .inr (2, [.null, .int 0]))] [] sz)) (va_Qv (fun (u : Nat × ClassId) => match u with | (b, ce) => True) (cB G (fun u => match u with | (b, ce) => [(h, .inr (2, [.ref b, .int 0])), (b, .inl (ce, 60, .inr (.inr (.inr (.inr (fun _ => none))))))]) (fun u => match u with | (b, ce) => [(ce, .object "TowerAppeal$Pledge")]) (va_A [(h, .inr (2, [.null, .int 0]))] sz)) (va_A [(h, .inr (2, [.null, .int 0]))] sz)) 1 60 (va_A [(h, .inr (2, [.null, .int 0]))] sz) := by
  refine ofC_v (cc := cX2_init) (maxL := 1) (ret := none) (by decide) rfl (Nat.le_of_ble_eq_true rfl) ?_
  intro p e s m args below meth c A ls Q F hr hin hlk St hl hQ
  have hx := F.1
  have hb := F.2.1
  have hl : lv_has ls 1 [(0, .ref h)] := hl
  have St : cS G k [(h, .inr (2, [.null, .int 0]))] [] A s s.heap [] := St
  refine lv_aload_n hx hb dX2_init_0 rfl (lv_at hl 0 rfl) ?_
  refine W.objInit hx hb F.2.2.2.1 (F.2.2.2.2 _ km_X2_3) (F.2.2.2.2 _ kj_objectInit) (F.2.2.2.2 _ kd_objectInit) rfl (by rw [F.2.2.1]; exact hl.1) rfl dX2_init_1 (Nat.le_of_ble_eq_true rfl) (Nat.le_of_ble_eq_true rfl) ?_
  refine W.eq (g2 := F0 m 4 ls []) rfl ?_
  refine lv_aload_n hx hb dX2_init_4 rfl (lv_at hl 0 rfl) ?_
  refine lv_bipush (v := 60) hx hb dX2_init_5 (by decide) ?_
  refine cs_newq F St kc_X2_9 St.2.2.2.2.2.1.2.2.2.2.2.2.2.1 (N' := 60) (by decide) (by decide) (by decide) (Nat.le_of_ble_eq_true rfl) (Nat.le_of_ble_eq_true rfl) dX2_init_7 (fun q_1 d_2 H St => ?_)
  refine W.widen (k := 1) (n := 60) (by decide) (by decide) ?_
  have St : cS G k [(h, .inr (2, [.null, .int 0])), (q_1, .inl (d_2, 60, .inr (.inr (.inr (.inr (fun _ => none))))))] [(d_2, .object "TowerAppeal$Pledge")] A s H _ := St
  refine cs_putF F hin St 0 rfl rfl inX2 tyX2_ok nmX2 0 (by decide) kf_X2_11 rfl rfl rfl rfl (Nat.le_of_ble_eq_true rfl) (w' := [(h, .inr (2, [.ref q_1, .int 0])), (q_1, .inl (d_2, 60, .inr (.inr (.inr (.inr (fun _ => none))))))]) rfl dX2_init_10 (fun H locs St => ?_)
  exact cs_vret F hr hlk hQ St (q_1, d_2) (by trivial) [0, 1] rfl (by decide) [0] rfl (by decide) (by decide) dX2_init_13
set_option maxHeartbeats 4000000 in
set_option maxRecDepth 100000 in
theorem c2_size (l : Launch) (G : va_G) (k : Nat → Nat) (sz : Nat) (h : Nat) (b : Nat) : Met l yX2_size (Cond.code yX2_size cX2_size 1 (some .int) :: tb) ({ frames := 0, cells := 0, slots := 0, locals := 0 } : Room) (va_Pc [.ref h] (cP G k [(h, .inr (2, [.ref b, .int 0]))] [] sz)) (va_Qi (fun (r : Int32) (_ : Unit) => (r = 0)) (cB G (fun (_ : Unit) => [(h, .inr (2, [.ref b, .int 0]))]) (fun (_ : Unit) => []) (va_A [(h, .inr (2, [.ref b, .int 0]))] sz)) (va_A [(h, .inr (2, [.ref b, .int 0]))] sz)) 0 0 (va_A [(h, .inr (2, [.ref b, .int 0]))] sz) := by
  refine ofC_i (cc := cX2_size) (maxL := 1) (ret := (some .int)) (by decide) rfl (Nat.le_of_ble_eq_true rfl) ?_
  intro p e s m args below meth c A ls Q F hr hin hlk St hl hQ
  have hx := F.1
  have hb := F.2.1
  have hl : lv_has ls 1 [(0, .ref h)] := hl
  have St : cS G k [(h, .inr (2, [.ref b, .int 0]))] [] A s s.heap [] := St
  refine lv_aload_n hx hb dX2_size_0 rfl (lv_at hl 0 rfl) ?_
  refine cs_get F St 0 rfl rfl inX2 1 (by decide) kf_X2_17 rfl dX2_size_1 ?_
  exact cs_iret F hr hlk hQ St () (r := 0) rfl [0] rfl (by decide) [] rfl (by decide) (by decide) dX2_size_4
set_option maxHeartbeats 4000000 in
set_option maxRecDepth 100000 in
theorem c2_isFull (l : Launch) (G : va_G) (k : Nat → Nat) (sz : Nat) (h : Nat) (b : Nat) : Met l yX2_isFull (Cond.code yX2_isFull cX2_isFull 1 (some .boolean) :: tb) ({ frames := 0, cells := 0, slots := 0, locals := 0 } : Room) (va_Pc [.ref h] (cP G k [(h, .inr (2, [.ref b, .int 0]))] [] sz)) (va_Qi (fun (r : Int32) (_ : Unit) => (r = 0)) (cB G (fun (_ : Unit) => [(h, .inr (2, [.ref b, .int 0]))]) (fun (_ : Unit) => []) (va_A [(h, .inr (2, [.ref b, .int 0]))] sz)) (va_A [(h, .inr (2, [.ref b, .int 0]))] sz)) 0 0 (va_A [(h, .inr (2, [.ref b, .int 0]))] sz) := by
  refine ofC_i (cc := cX2_isFull) (maxL := 1) (ret := (some .boolean)) (by decide) rfl (Nat.le_of_ble_eq_true rfl) ?_
  intro p e s m args below meth c A ls Q F hr hin hlk St hl hQ
  have hx := F.1
  have hb := F.2.1
  have hl : lv_has ls 1 [(0, .ref h)] := hl
  have St : cS G k [(h, .inr (2, [.ref b, .int 0]))] [] A s s.heap [] := St
  refine lv_aload_n hx hb dX2_isFull_0 rfl (lv_at hl 0 rfl) ?_
  refine cs_get F St 0 rfl rfl inX2 1 (by decide) kf_X2_17 rfl dX2_isFull_1 ?_
  refine lv_bipush (v := 60) hx hb dX2_isFull_4 (by decide) ?_
  refine lv_icmp_lt (tgt := 13) hx hb dX2_isFull_6 (by decide) (fun c6 => ?_) (fun c6 => ?_)
  rotate_left
  · exact absurd (by decide) c6
  refine lv_iconst (v := 0) hx hb dX2_isFull_13 (by decide) ?_
  exact cs_zret F hr hlk hQ St () (r := 0) rfl rfl [0] rfl (by decide) [] rfl (by decide) (by decide) dX2_isFull_14
set_option maxHeartbeats 4000000 in
set_option maxRecDepth 100000 in
theorem c2_at (l : Launch) (G : va_G) (k : Nat → Nat) (sz : Nat) (h : Nat) (b : Nat) (pp : Int32) : Met l yX2_at (Cond.code yX2_at cX2_at 2 (some (.object "TowerAppeal$Pledge")) :: tb) ({ frames := 0, cells := 0, slots := 0, locals := 0 } : Room) (va_Pc [.ref h, .int pp] (cP G k [(h, .inr (2, [.ref b, .int 0]))] [] sz)) (va_Qq (fun (r : Option Nat) (_ : Unit) => (r = none)) (cB G (fun (_ : Unit) => [(h, .inr (2, [.ref b, .int 0]))]) (fun (_ : Unit) => []) (va_A [(h, .inr (2, [.ref b, .int 0]))] sz)) (va_A [(h, .inr (2, [.ref b, .int 0]))] sz)) 0 0 (va_A [(h, .inr (2, [.ref b, .int 0]))] sz) := by
  refine ofC_q (cc := cX2_at) (maxL := 2) (ret := (some (.object "TowerAppeal$Pledge"))) (by decide) rfl (Nat.le_of_ble_eq_true rfl) ?_
  intro p e s m args below meth c A ls Q F hr hin hlk St hl hQ
  have hx := F.1
  have hb := F.2.1
  have hl : lv_has ls 2 [(0, .ref h), (1, .int pp)] := hl
  have St : cS G k [(h, .inr (2, [.ref b, .int 0]))] [] A s s.heap [] := St
  refine lv_iload_n hx hb dX2_at_0 rfl (lv_at hl 1 rfl) ?_
  refine lv_if_lt (tgt := 27) hx hb dX2_at_1 (by decide) (fun c1 => ?_) (fun c1 => ?_)
  ·
    have i1 := ci_lt (x := pp) (y := 0) rfl (show (0 : Int32).toInt = 0 by decide) c1
    refine lv_null hx hb dX2_at_27 ?_
    exact cs_qret F hr (Or.inl ⟨_, rfl⟩) hlk hQ St () none rfl rfl [0] rfl (by decide) [] rfl (by decide) (by decide) dX2_at_28
  ·
    have i1 := ci_nlt (x := pp) (y := 0) rfl (show (0 : Int32).toInt = 0 by decide) c1
    refine lv_iload_n hx hb dX2_at_4 rfl (lv_at hl 1 rfl) ?_
    refine lv_aload_n hx hb dX2_at_5 rfl (lv_at hl 0 rfl) ?_
    refine cs_get F St 0 rfl rfl inX2 1 (by decide) kf_X2_17 rfl dX2_at_6 ?_
    refine lv_icmp_ge (tgt := 27) hx hb dX2_at_9 (by decide) (fun c9 => ?_) (fun c9 => ?_)
    rotate_left
    · have i9 := ci_nle (x := 0) (y := pp) (show (0 : Int32).toInt = 0 by decide) rfl c9; exact False.elim (by omega)
    have i9 := ci_le (x := 0) (y := pp) (show (0 : Int32).toInt = 0 by decide) rfl c9
    refine lv_null hx hb dX2_at_27 ?_
    exact cs_qret F hr (Or.inl ⟨_, rfl⟩) hlk hQ St () none rfl rfl [0] rfl (by decide) [] rfl (by decide) (by decide) dX2_at_28
set_option maxHeartbeats 4000000 in
set_option maxRecDepth 100000 in
theorem c2_lapsedNow (l : Launch) (G : va_G) (k : Nat → Nat) (sz : Nat) (h : Nat) (b : Nat) : Met l yX2_lapsedNow (Cond.code yX2_lapsedNow cX2_lapsedNow 4 (some .int) :: tb) ({ frames := 0, cells := 0, slots := 0, locals := 0 } : Room) (va_Pc [.ref h] (cP G k [(h, .inr (2, [.ref b, .int 0]))] [] sz)) (va_Qi (fun (r : Int32) (_ : Unit) => (r = 0)) (cB G (fun (_ : Unit) => [(h, .inr (2, [.ref b, .int 0]))]) (fun (_ : Unit) => []) (va_A [(h, .inr (2, [.ref b, .int 0]))] sz)) (va_A [(h, .inr (2, [.ref b, .int 0]))] sz)) 0 0 (va_A [(h, .inr (2, [.ref b, .int 0]))] sz) := by
  refine ofC_i (cc := cX2_lapsedNow) (maxL := 4) (ret := (some .int)) (by decide) rfl (Nat.le_of_ble_eq_true rfl) ?_
  intro p e s m args below meth c A ls Q F hr hin hlk St hl hQ
  have hx := F.1
  have hb := F.2.1
  have hl : lv_has ls 4 [(0, .ref h)] := hl
  have St : cS G k [(h, .inr (2, [.ref b, .int 0]))] [] A s s.heap [] := St
  refine lv_iconst (v := 0) hx hb dX2_lapsedNow_0 (by decide) ?_
  refine lv_istore_n (lv' := [(1, .int 0), (0, .ref h)]) hx hb dX2_lapsedNow_1 rfl hl (by decide) rfl (fun ls hl => ?_)
  refine lv_iconst (v := 0) hx hb dX2_lapsedNow_2 (by decide) ?_
  refine lv_istore_n (lv' := [(2, .int 0), (1, .int 0), (0, .ref h)]) hx hb dX2_lapsedNow_3 rfl hl (by decide) rfl (fun ls hl => ?_)
  refine lv_iload_n hx hb dX2_lapsedNow_4 rfl (lv_at hl 0 rfl) ?_
  refine lv_aload_n hx hb dX2_lapsedNow_5 rfl (lv_at hl 2 rfl) ?_
  refine cs_get F St 0 rfl rfl inX2 1 (by decide) kf_X2_17 rfl dX2_lapsedNow_6 ?_
  refine lv_icmp_ge (tgt := 38) hx hb dX2_lapsedNow_9 (by decide) (fun c9 => ?_) (fun c9 => ?_)
  rotate_left
  · exact absurd (by decide) c9
  refine lv_iload_n hx hb dX2_lapsedNow_38 rfl (lv_at hl 1 rfl) ?_
  exact cs_iret F hr hlk hQ St () (r := 0) rfl [0] rfl (by decide) [] rfl (by decide) (by decide) dX2_lapsedNow_39
set_option maxHeartbeats 4000000 in
set_option maxRecDepth 100000 in
theorem c2_lapseAll (l : Launch) (G : va_G) (k : Nat → Nat) (sz : Nat) (h : Nat) (b : Nat) (x : Int32) (y : Int32) : Met l yX2_lapseAll (Cond.code yX2_lapseAll cX2_lapseAll 5 none :: tb) ({ frames := 0, cells := 0, slots := 0, locals := 0 } : Room) (va_Pc [.ref h, .int x, .int y] (cP G k [(h, .inr (2, [.ref b, .int 0]))] [] sz)) (va_Qv (fun (_ : Unit) => True) (cB G (fun (_ : Unit) => [(h, .inr (2, [.ref b, .int 0]))]) (fun (_ : Unit) => []) (va_A [(h, .inr (2, [.ref b, .int 0]))] sz)) (va_A [(h, .inr (2, [.ref b, .int 0]))] sz)) 0 0 (va_A [(h, .inr (2, [.ref b, .int 0]))] sz) := by
  refine ofC_v (cc := cX2_lapseAll) (maxL := 5) (ret := none) (by decide) rfl (Nat.le_of_ble_eq_true rfl) ?_
  intro p e s m args below meth c A ls Q F hr hin hlk St hl hQ
  have hx := F.1
  have hb := F.2.1
  have hl : lv_has ls 5 [(0, .ref h), (1, .int x), (2, .int y)] := hl
  have St : cS G k [(h, .inr (2, [.ref b, .int 0]))] [] A s s.heap [] := St
  refine lv_iconst (v := 0) hx hb dX2_lapseAll_0 (by decide) ?_
  refine lv_istore_n (lv' := [(3, .int 0), (0, .ref h), (1, .int x), (2, .int y)]) hx hb dX2_lapseAll_1 rfl hl (by decide) rfl (fun ls hl => ?_)
  refine lv_iload_n hx hb dX2_lapseAll_2 rfl (lv_at hl 0 rfl) ?_
  refine lv_aload_n hx hb dX2_lapseAll_3 rfl (lv_at hl 1 rfl) ?_
  refine cs_get F St 0 rfl rfl inX2 1 (by decide) kf_X2_17 rfl dX2_lapseAll_4 ?_
  refine lv_icmp_ge (tgt := 44) hx hb dX2_lapseAll_7 (by decide) (fun c7 => ?_) (fun c7 => ?_)
  rotate_left
  · exact absurd (by decide) c7
  exact cs_vret F hr hlk hQ St () (by trivial) [0] rfl (by decide) [] rfl (by decide) (by decide) dX2_lapseAll_44
set_option maxHeartbeats 4000000 in
set_option maxRecDepth 100000 in
theorem c2_sureWithin (l : Launch) (G : va_G) (k : Nat → Nat) (sz : Nat) (h : Nat) (b : Nat) (x : Int32) (y : Int32) : Met l yX2_sureWithin (Cond.code yX2_sureWithin cX2_sureWithin 11 (some .int) :: tb) ({ frames := 0, cells := 0, slots := 0, locals := 0 } : Room) (va_Pc [.ref h, .int x, .int y] (cP G k [(h, .inr (2, [.ref b, .int 0]))] [] sz)) (va_Qi (fun (r : Int32) (_ : Unit) => (r = 0)) (cB G (fun (_ : Unit) => [(h, .inr (2, [.ref b, .int 0]))]) (fun (_ : Unit) => []) (va_A [(h, .inr (2, [.ref b, .int 0]))] sz)) (va_A [(h, .inr (2, [.ref b, .int 0]))] sz)) 0 0 (va_A [(h, .inr (2, [.ref b, .int 0]))] sz) := by
  refine ofC_i (cc := cX2_sureWithin) (maxL := 11) (ret := (some .int)) (by decide) rfl (Nat.le_of_ble_eq_true rfl) ?_
  intro p e s m args below meth c A ls Q F hr hin hlk St hl hQ
  have hx := F.1
  have hb := F.2.1
  have hl : lv_has ls 11 [(0, .ref h), (1, .int x), (2, .int y)] := hl
  have St : cS G k [(h, .inr (2, [.ref b, .int 0]))] [] A s s.heap [] := St
  refine lv_lconst (v := 0) hx hb dX2_sureWithin_0 (by decide) ?_
  refine lv_lstore_n (lv' := [(3, .long 0), (0, .ref h), (1, .int x), (2, .int y)]) hx hb dX2_sureWithin_1 rfl hl (by decide) rfl (fun ls hl => ?_)
  refine lv_lconst (v := 0) hx hb dX2_sureWithin_2 (by decide) ?_
  refine lv_lstore (lv' := [(5, .long 0), (3, .long 0), (0, .ref h), (1, .int x), (2, .int y)]) hx hb dX2_sureWithin_3 hl (by decide) rfl (fun ls hl => ?_)
  refine lv_lconst (v := 0) hx hb dX2_sureWithin_5 (by decide) ?_
  refine lv_lstore (lv' := [(7, .long 0), (5, .long 0), (3, .long 0), (0, .ref h), (1, .int x), (2, .int y)]) hx hb dX2_sureWithin_6 hl (by decide) rfl (fun ls hl => ?_)
  refine lv_iconst (v := 0) hx hb dX2_sureWithin_8 (by decide) ?_
  refine lv_istore (lv' := [(9, .int 0), (7, .long 0), (5, .long 0), (3, .long 0), (0, .ref h), (1, .int x), (2, .int y)]) hx hb dX2_sureWithin_9 hl (by decide) rfl (fun ls hl => ?_)
  refine lv_iload hx hb dX2_sureWithin_11 (lv_at hl 0 rfl) ?_
  refine lv_aload_n hx hb dX2_sureWithin_13 rfl (lv_at hl 4 rfl) ?_
  refine cs_get F St 0 rfl rfl inX2 1 (by decide) kf_X2_17 rfl dX2_sureWithin_14 ?_
  refine lv_icmp_ge (tgt := 78) hx hb dX2_sureWithin_17 (by decide) (fun c17 => ?_) (fun c17 => ?_)
  rotate_left
  · exact absurd (by decide) c17
  refine lv_lload hx hb dX2_sureWithin_78 (lv_at hl 2 rfl) ?_
  refine lv_lconst (v := 0) hx hb dX2_sureWithin_80 (by decide) ?_
  refine W.lcmp hx hb dX2_sureWithin_81 ?_
  refine top_i (y := 0) (by decide) ?_
  refine lv_if_le (tgt := 96) hx hb dX2_sureWithin_82 (by decide) (fun c82 => ?_) (fun c82 => ?_)
  rotate_left
  · exact absurd (by decide) c82
  refine lv_iconst (v := 0) hx hb dX2_sureWithin_96 (by decide) ?_
  exact cs_iret F hr hlk hQ St () (r := 0) rfl [0] rfl (by decide) [] rfl (by decide) (by decide) dX2_sureWithin_97
set_option maxHeartbeats 4000000 in
set_option maxRecDepth 100000 in
theorem c3_init (l : Launch) (G : va_G) (k : Nat → Nat) (sz : Nat) (h : Nat) : Met l yX3_init (Cond.code yX3_init cX3_init 1 none :: tb) ({ frames := 1, cells := 0, slots := 0, locals := 20 } : Room) (va_Pc [.ref h] (cP G k [(h, .inr (3, [.long 0, .long 0, .long 0, .long 0, .long 0, .long 0]))] [] sz)) (va_Qv (fun (_ : Unit) => True) (cB G (fun (_ : Unit) => [(h, .inr (3, [.long 0, .long 0, .long 0, .long 0, .long 0, .long 0]))]) (fun (_ : Unit) => []) (va_A [(h, .inr (3, [.long 0, .long 0, .long 0, .long 0, .long 0, .long 0]))] sz)) (va_A [(h, .inr (3, [.long 0, .long 0, .long 0, .long 0, .long 0, .long 0]))] sz)) 0 0 (va_A [(h, .inr (3, [.long 0, .long 0, .long 0, .long 0, .long 0, .long 0]))] sz) := by
  refine ofC_v (cc := cX3_init) (maxL := 1) (ret := none) (by decide) rfl (Nat.le_of_ble_eq_true rfl) ?_
  intro p e s m args below meth c A ls Q F hr hin hlk St hl hQ
  have hx := F.1
  have hb := F.2.1
  have hl : lv_has ls 1 [(0, .ref h)] := hl
  have St : cS G k [(h, .inr (3, [.long 0, .long 0, .long 0, .long 0, .long 0, .long 0]))] [] A s s.heap [] := St
  refine lv_aload_n hx hb dX3_init_0 rfl (lv_at hl 0 rfl) ?_
  refine W.objInit hx hb F.2.2.2.1 (F.2.2.2.2 _ km_X3_1) (F.2.2.2.2 _ kj_objectInit) (F.2.2.2.2 _ kd_objectInit) rfl (by rw [F.2.2.1]; exact hl.1) rfl dX3_init_1 (Nat.le_of_ble_eq_true rfl) (Nat.le_of_ble_eq_true rfl) ?_
  refine W.eq (g2 := F0 m 4 ls []) rfl ?_
  exact cs_vret F hr hlk hQ St () (by trivial) [0] rfl (by decide) [] rfl (by decide) (by decide) dX3_init_4
set_option maxHeartbeats 4000000 in
set_option maxRecDepth 100000 in
theorem c3_coin (l : Launch) (G : va_G) (k : Nat → Nat) (sz : Nat) (h : Nat) : Met l yX3_coin (Cond.code yX3_coin cX3_coin 1 (some .long) :: tb) ({ frames := 0, cells := 0, slots := 0, locals := 0 } : Room) (va_Pc [.ref h] (cP G k [(h, .inr (3, [.long 0, .long 0, .long 0, .long 0, .long 0, .long 0]))] [] sz)) (va_Ql (fun (r : Int64) (_ : Unit) => (r = 0)) (cB G (fun (_ : Unit) => [(h, .inr (3, [.long 0, .long 0, .long 0, .long 0, .long 0, .long 0]))]) (fun (_ : Unit) => []) (va_A [(h, .inr (3, [.long 0, .long 0, .long 0, .long 0, .long 0, .long 0]))] sz)) (va_A [(h, .inr (3, [.long 0, .long 0, .long 0, .long 0, .long 0, .long 0]))] sz)) 0 0 (va_A [(h, .inr (3, [.long 0, .long 0, .long 0, .long 0, .long 0, .long 0]))] sz) := by
  refine ofC_l (cc := cX3_coin) (maxL := 1) (ret := (some .long)) (by decide) rfl (Nat.le_of_ble_eq_true rfl) ?_
  intro p e s m args below meth c A ls Q F hr hin hlk St hl hQ
  have hx := F.1
  have hb := F.2.1
  have hl : lv_has ls 1 [(0, .ref h)] := hl
  have St : cS G k [(h, .inr (3, [.long 0, .long 0, .long 0, .long 0, .long 0, .long 0]))] [] A s s.heap [] := St
  refine lv_aload_n hx hb dX3_coin_0 rfl (lv_at hl 0 rfl) ?_
  refine cs_get F St 0 rfl rfl inX3 0 (by decide) kf_X3_7 rfl dX3_coin_1 ?_
  exact cs_lret F hr hlk hQ St () (r := 0) rfl [0] rfl (by decide) [] rfl (by decide) (by decide) dX3_coin_4
set_option maxHeartbeats 4000000 in
set_option maxRecDepth 100000 in
theorem c3_loan (l : Launch) (G : va_G) (k : Nat → Nat) (sz : Nat) (h : Nat) : Met l yX3_loan (Cond.code yX3_loan cX3_loan 1 (some .long) :: tb) ({ frames := 0, cells := 0, slots := 0, locals := 0 } : Room) (va_Pc [.ref h] (cP G k [(h, .inr (3, [.long 0, .long 0, .long 0, .long 0, .long 0, .long 0]))] [] sz)) (va_Ql (fun (r : Int64) (_ : Unit) => (r = 0)) (cB G (fun (_ : Unit) => [(h, .inr (3, [.long 0, .long 0, .long 0, .long 0, .long 0, .long 0]))]) (fun (_ : Unit) => []) (va_A [(h, .inr (3, [.long 0, .long 0, .long 0, .long 0, .long 0, .long 0]))] sz)) (va_A [(h, .inr (3, [.long 0, .long 0, .long 0, .long 0, .long 0, .long 0]))] sz)) 0 0 (va_A [(h, .inr (3, [.long 0, .long 0, .long 0, .long 0, .long 0, .long 0]))] sz) := by
  refine ofC_l (cc := cX3_loan) (maxL := 1) (ret := (some .long)) (by decide) rfl (Nat.le_of_ble_eq_true rfl) ?_
  intro p e s m args below meth c A ls Q F hr hin hlk St hl hQ
  have hx := F.1
  have hb := F.2.1
  have hl : lv_has ls 1 [(0, .ref h)] := hl
  have St : cS G k [(h, .inr (3, [.long 0, .long 0, .long 0, .long 0, .long 0, .long 0]))] [] A s s.heap [] := St
  refine lv_aload_n hx hb dX3_loan_0 rfl (lv_at hl 0 rfl) ?_
  refine cs_get F St 0 rfl rfl inX3 1 (by decide) kf_X3_13 rfl dX3_loan_1 ?_
  exact cs_lret F hr hlk hQ St () (r := 0) rfl [0] rfl (by decide) [] rfl (by decide) (by decide) dX3_loan_4
set_option maxHeartbeats 4000000 in
set_option maxRecDepth 100000 in
theorem c3_matched (l : Launch) (G : va_G) (k : Nat → Nat) (sz : Nat) (h : Nat) : Met l yX3_matched (Cond.code yX3_matched cX3_matched 1 (some .long) :: tb) ({ frames := 0, cells := 0, slots := 0, locals := 0 } : Room) (va_Pc [.ref h] (cP G k [(h, .inr (3, [.long 0, .long 0, .long 0, .long 0, .long 0, .long 0]))] [] sz)) (va_Ql (fun (r : Int64) (_ : Unit) => (r = 0)) (cB G (fun (_ : Unit) => [(h, .inr (3, [.long 0, .long 0, .long 0, .long 0, .long 0, .long 0]))]) (fun (_ : Unit) => []) (va_A [(h, .inr (3, [.long 0, .long 0, .long 0, .long 0, .long 0, .long 0]))] sz)) (va_A [(h, .inr (3, [.long 0, .long 0, .long 0, .long 0, .long 0, .long 0]))] sz)) 0 0 (va_A [(h, .inr (3, [.long 0, .long 0, .long 0, .long 0, .long 0, .long 0]))] sz) := by
  refine ofC_l (cc := cX3_matched) (maxL := 1) (ret := (some .long)) (by decide) rfl (Nat.le_of_ble_eq_true rfl) ?_
  intro p e s m args below meth c A ls Q F hr hin hlk St hl hQ
  have hx := F.1
  have hb := F.2.1
  have hl : lv_has ls 1 [(0, .ref h)] := hl
  have St : cS G k [(h, .inr (3, [.long 0, .long 0, .long 0, .long 0, .long 0, .long 0]))] [] A s s.heap [] := St
  refine lv_aload_n hx hb dX3_matched_0 rfl (lv_at hl 0 rfl) ?_
  refine cs_get F St 0 rfl rfl inX3 2 (by decide) kf_X3_16 rfl dX3_matched_1 ?_
  exact cs_lret F hr hlk hQ St () (r := 0) rfl [0] rfl (by decide) [] rfl (by decide) (by decide) dX3_matched_4
set_option maxHeartbeats 4000000 in
set_option maxRecDepth 100000 in
theorem c3_tax (l : Launch) (G : va_G) (k : Nat → Nat) (sz : Nat) (h : Nat) : Met l yX3_tax (Cond.code yX3_tax cX3_tax 1 (some .long) :: tb) ({ frames := 0, cells := 0, slots := 0, locals := 0 } : Room) (va_Pc [.ref h] (cP G k [(h, .inr (3, [.long 0, .long 0, .long 0, .long 0, .long 0, .long 0]))] [] sz)) (va_Ql (fun (r : Int64) (_ : Unit) => (r = 0)) (cB G (fun (_ : Unit) => [(h, .inr (3, [.long 0, .long 0, .long 0, .long 0, .long 0, .long 0]))]) (fun (_ : Unit) => []) (va_A [(h, .inr (3, [.long 0, .long 0, .long 0, .long 0, .long 0, .long 0]))] sz)) (va_A [(h, .inr (3, [.long 0, .long 0, .long 0, .long 0, .long 0, .long 0]))] sz)) 0 0 (va_A [(h, .inr (3, [.long 0, .long 0, .long 0, .long 0, .long 0, .long 0]))] sz) := by
  refine ofC_l (cc := cX3_tax) (maxL := 1) (ret := (some .long)) (by decide) rfl (Nat.le_of_ble_eq_true rfl) ?_
  intro p e s m args below meth c A ls Q F hr hin hlk St hl hQ
  have hx := F.1
  have hb := F.2.1
  have hl : lv_has ls 1 [(0, .ref h)] := hl
  have St : cS G k [(h, .inr (3, [.long 0, .long 0, .long 0, .long 0, .long 0, .long 0]))] [] A s s.heap [] := St
  refine lv_aload_n hx hb dX3_tax_0 rfl (lv_at hl 0 rfl) ?_
  refine cs_get F St 0 rfl rfl inX3 3 (by decide) kf_X3_19 rfl dX3_tax_1 ?_
  exact cs_lret F hr hlk hQ St () (r := 0) rfl [0] rfl (by decide) [] rfl (by decide) (by decide) dX3_tax_4
set_option maxHeartbeats 4000000 in
set_option maxRecDepth 100000 in
theorem c3_paidForStages (l : Launch) (G : va_G) (k : Nat → Nat) (sz : Nat) (h : Nat) : Met l yX3_paidForStages (Cond.code yX3_paidForStages cX3_paidForStages 1 (some .long) :: tb) ({ frames := 0, cells := 0, slots := 0, locals := 0 } : Room) (va_Pc [.ref h] (cP G k [(h, .inr (3, [.long 0, .long 0, .long 0, .long 0, .long 0, .long 0]))] [] sz)) (va_Ql (fun (r : Int64) (_ : Unit) => (r = 0)) (cB G (fun (_ : Unit) => [(h, .inr (3, [.long 0, .long 0, .long 0, .long 0, .long 0, .long 0]))]) (fun (_ : Unit) => []) (va_A [(h, .inr (3, [.long 0, .long 0, .long 0, .long 0, .long 0, .long 0]))] sz)) (va_A [(h, .inr (3, [.long 0, .long 0, .long 0, .long 0, .long 0, .long 0]))] sz)) 0 0 (va_A [(h, .inr (3, [.long 0, .long 0, .long 0, .long 0, .long 0, .long 0]))] sz) := by
  refine ofC_l (cc := cX3_paidForStages) (maxL := 1) (ret := (some .long)) (by decide) rfl (Nat.le_of_ble_eq_true rfl) ?_
  intro p e s m args below meth c A ls Q F hr hin hlk St hl hQ
  have hx := F.1
  have hb := F.2.1
  have hl : lv_has ls 1 [(0, .ref h)] := hl
  have St : cS G k [(h, .inr (3, [.long 0, .long 0, .long 0, .long 0, .long 0, .long 0]))] [] A s s.heap [] := St
  refine lv_aload_n hx hb dX3_paidForStages_0 rfl (lv_at hl 0 rfl) ?_
  refine cs_get F St 0 rfl rfl inX3 4 (by decide) kf_X3_22 rfl dX3_paidForStages_1 ?_
  exact cs_lret F hr hlk hQ St () (r := 0) rfl [0] rfl (by decide) [] rfl (by decide) (by decide) dX3_paidForStages_4
set_option maxHeartbeats 4000000 in
set_option maxRecDepth 100000 in
theorem c3_grown (l : Launch) (G : va_G) (k : Nat → Nat) (sz : Nat) (h : Nat) : Met l yX3_grown (Cond.code yX3_grown cX3_grown 1 (some .long) :: tb) ({ frames := 0, cells := 0, slots := 0, locals := 0 } : Room) (va_Pc [.ref h] (cP G k [(h, .inr (3, [.long 0, .long 0, .long 0, .long 0, .long 0, .long 0]))] [] sz)) (va_Ql (fun (r : Int64) (_ : Unit) => (r = 0)) (cB G (fun (_ : Unit) => [(h, .inr (3, [.long 0, .long 0, .long 0, .long 0, .long 0, .long 0]))]) (fun (_ : Unit) => []) (va_A [(h, .inr (3, [.long 0, .long 0, .long 0, .long 0, .long 0, .long 0]))] sz)) (va_A [(h, .inr (3, [.long 0, .long 0, .long 0, .long 0, .long 0, .long 0]))] sz)) 0 0 (va_A [(h, .inr (3, [.long 0, .long 0, .long 0, .long 0, .long 0, .long 0]))] sz) := by
  refine ofC_l (cc := cX3_grown) (maxL := 1) (ret := (some .long)) (by decide) rfl (Nat.le_of_ble_eq_true rfl) ?_
  intro p e s m args below meth c A ls Q F hr hin hlk St hl hQ
  have hx := F.1
  have hb := F.2.1
  have hl : lv_has ls 1 [(0, .ref h)] := hl
  have St : cS G k [(h, .inr (3, [.long 0, .long 0, .long 0, .long 0, .long 0, .long 0]))] [] A s s.heap [] := St
  refine lv_aload_n hx hb dX3_grown_0 rfl (lv_at hl 0 rfl) ?_
  refine cs_get F St 0 rfl rfl inX3 5 (by decide) kf_X3_25 rfl dX3_grown_1 ?_
  exact cs_lret F hr hlk hQ St () (r := 0) rfl [0] rfl (by decide) [] rfl (by decide) (by decide) dX3_grown_4
set_option maxHeartbeats 4000000 in
set_option maxRecDepth 100000 in
theorem c3_takeSum (l : Launch) (G : va_G) (k : Nat → Nat) (sz : Nat) (h : Nat) (t : Nat) (tb0 : Nat) (te : ClassId) (x : Int32) : Met l yX3_takeSum (Cond.code yX3_takeSum cX3_takeSum 10 (some .int) :: tb) ({ frames := 1, cells := 0, slots := 0, locals := 23 } : Room) (va_Pc [.ref h, .int x, .int 0, .ref t] (cP G k [(h, .inr (3, [.long 0, .long 0, .long 0, .long 0, .long 0, .long 0])), (t, .inr (8, [.ref tb0])), (tb0, .inl (te, 9, .inl untold))] [(te, .int)] sz)) (va_Qi (fun (r : Int32) (_ : Unit) => (r = 0)) (cB G (fun (_ : Unit) => []) (fun (_ : Unit) => []) (va_A [(h, .inr (3, [.long 0, .long 0, .long 0, .long 0, .long 0, .long 0])), (t, .inr (8, [.ref tb0])), (tb0, .inl (te, 9, .inl untold))] sz)) (va_A [(h, .inr (3, [.long 0, .long 0, .long 0, .long 0, .long 0, .long 0])), (t, .inr (8, [.ref tb0])), (tb0, .inl (te, 9, .inl untold))] sz)) 0 0 (va_A [(h, .inr (3, [.long 0, .long 0, .long 0, .long 0, .long 0, .long 0])), (t, .inr (8, [.ref tb0])), (tb0, .inl (te, 9, .inl untold))] sz) := by
  refine ofC_i (cc := cX3_takeSum) (maxL := 10) (ret := (some .int)) (by decide) rfl (Nat.le_of_ble_eq_true rfl) ?_
  intro p e s m args below meth c A ls Q F hr hin hlk St hl hQ
  have hx := F.1
  have hb := F.2.1
  have hl : lv_has ls 10 [(0, .ref h), (1, .int x), (2, .int 0), (3, .ref t)] := hl
  have St : cS G k [(h, .inr (3, [.long 0, .long 0, .long 0, .long 0, .long 0, .long 0])), (t, .inr (8, [.ref tb0])), (tb0, .inl (te, 9, .inl untold))] [(te, .int)] A s s.heap [] := St
  refine lv_lconst (v := 0) hx hb dX3_takeSum_0 (by decide) ?_
  refine lv_lstore (lv' := [(4, .long 0), (0, .ref h), (1, .int x), (2, .int 0), (3, .ref t)]) hx hb dX3_takeSum_1 hl (by decide) rfl (fun ls hl => ?_)
  refine lv_iload_n hx hb dX3_takeSum_3 rfl (lv_at hl 3 rfl) ?_
  refine lv_aload_n hx hb dX3_takeSum_4 rfl (lv_at hl 4 rfl) ?_
  refine cs_i St [1, 2] [0] (wc := [(t, .inr (8, [.ref tb0])), (tb0, .inl (te, 9, .inl untold))]) (wr := [(h, .inr (3, [.long 0, .long 0, .long 0, .long 0, .long 0, .long 0]))]) rfl rfl (by decide) (by decide) (va_runV (As := []) (rest := [.int 0]) F (c8_matchTill l G k _ t tb0 te) (cwVt F mf_X8_matchTill km_X3_28 rfl rfl ⟨Nat.le_of_ble_eq_true rfl, Nat.le_of_ble_eq_true rfl⟩) (cs_preV St [1, 2] rfl (by decide) [0] rfl (ci := 8) (q0 := 1) rfl rfl) rfl rfl hl.1 rfl (lv_room (Nat.le_of_ble_eq_true rfl)) dX3_takeSum_5 ⟨Nat.le_of_ble_eq_true rfl, Nat.le_of_ble_eq_true rfl⟩) (fun r_1 u_2 H locs hw St => ?_)
  try dsimp only at hw
  have z_3 := hw
  subst r_1
  have St : cS G k [(h, .inr (3, [.long 0, .long 0, .long 0, .long 0, .long 0, .long 0])), (t, .inr (8, [.ref tb0])), (tb0, .inl (te, 9, .inl untold))] [(te, .int)] A s H locs := St
  refine lv_icmp_gt (tgt := 50) hx hb dX3_takeSum_8 (by decide) (fun c8 => ?_) (fun c8 => ?_)
  · exact absurd c8 (by decide)
  refine lv_iload_n hx hb dX3_takeSum_11 rfl (lv_at hl 2 rfl) ?_
  refine lv_i2l (v := x.toInt64) hx hb dX3_takeSum_12 rfl ?_
  refine lv_aload_n hx hb dX3_takeSum_13 rfl (lv_at hl 4 rfl) ?_
  refine cs_i St [1, 2] [0] (wc := [(t, .inr (8, [.ref tb0])), (tb0, .inl (te, 9, .inl untold))]) (wr := [(h, .inr (3, [.long 0, .long 0, .long 0, .long 0, .long 0, .long 0]))]) rfl rfl (by decide) (by decide) (va_runV (As := []) (rest := [.long x.toInt64]) F (c8_matchHundredths l G k _ t tb0 te) (cwVt F mf_X8_matchHundredths km_X3_34 rfl rfl ⟨Nat.le_of_ble_eq_true rfl, Nat.le_of_ble_eq_true rfl⟩) (cs_preV St [1, 2] rfl (by decide) [0] rfl (ci := 8) (q0 := 1) rfl rfl) rfl rfl hl.1 rfl (lv_room (Nat.le_of_ble_eq_true rfl)) dX3_takeSum_14 ⟨Nat.le_of_ble_eq_true rfl, Nat.le_of_ble_eq_true rfl⟩) (fun r_4 u_5 H locs hw St => ?_)
  try dsimp only at hw
  have z_6 := hw
  subst r_4
  have St : cS G k [(h, .inr (3, [.long 0, .long 0, .long 0, .long 0, .long 0, .long 0])), (t, .inr (8, [.ref tb0])), (tb0, .inl (te, 9, .inl untold))] [(te, .int)] A s H locs := St
  refine lv_i2l (v := 0) hx hb dX3_takeSum_17 (by decide) ?_
  refine lv_lmul hx hb dX3_takeSum_18 ?_
  refine top_l (y := 0) (by simp) ?_
  refine lv_ldc2 (v := 100) hx hb F.2.2.2.1 (F.2.2.2.2 _ kk_X3_37) dX3_takeSum_19 ?_
  refine lv_ldiv hx hb dX3_takeSum_22 (by decide) ?_
  refine top_l (y := 0) (by decide) ?_
  refine lv_lstore (lv' := [(6, .long 0), (4, .long 0), (0, .ref h), (1, .int x), (2, .int 0), (3, .ref t)]) hx hb dX3_takeSum_23 hl (by decide) rfl (fun ls hl => ?_)
  refine lv_lconst (v := 0) hx hb dX3_takeSum_25 (by decide) ?_
  refine lv_aload_n hx hb dX3_takeSum_26 rfl (lv_at hl 5 rfl) ?_
  refine cs_i St [1, 2] [0] (wc := [(t, .inr (8, [.ref tb0])), (tb0, .inl (te, 9, .inl untold))]) (wr := [(h, .inr (3, [.long 0, .long 0, .long 0, .long 0, .long 0, .long 0]))]) rfl rfl (by decide) (by decide) (va_runV (As := []) (rest := [.long 0]) F (c8_matchCapPence l G k _ t tb0 te) (cwVt F mf_X8_matchCapPence km_X3_39 rfl rfl ⟨Nat.le_of_ble_eq_true rfl, Nat.le_of_ble_eq_true rfl⟩) (cs_preV St [1, 2] rfl (by decide) [0] rfl (ci := 8) (q0 := 1) rfl rfl) rfl rfl hl.1 rfl (lv_room (Nat.le_of_ble_eq_true rfl)) dX3_takeSum_27 ⟨Nat.le_of_ble_eq_true rfl, Nat.le_of_ble_eq_true rfl⟩) (fun r_7 u_8 H locs hw St => ?_)
  try dsimp only at hw
  have z_9 := hw
  subst r_7
  have St : cS G k [(h, .inr (3, [.long 0, .long 0, .long 0, .long 0, .long 0, .long 0])), (t, .inr (8, [.ref tb0])), (tb0, .inl (te, 9, .inl untold))] [(te, .int)] A s H locs := St
  refine lv_i2l (v := 0) hx hb dX3_takeSum_30 (by decide) ?_
  refine lv_aload_n hx hb dX3_takeSum_31 rfl (lv_at hl 2 rfl) ?_
  refine cs_get F St 0 rfl rfl inX3 2 (by decide) kf_X3_16 rfl dX3_takeSum_32 ?_
  refine lv_lsub hx hb dX3_takeSum_35 ?_
  refine top_l (y := 0) (by decide) ?_
  refine va_mmax_long hx hb (F.2.2.1.trans hl.1.symm) F.2.2.2.1 (F.2.2.2.2 _ km_X3_42) (F.2.2.2.2 _ ks_J9_max_f86c9) (F.2.2.2.2 _ ki_J9) (F.2.2.2.2 _ kd_J9_max_f86c9) (Nat.le_of_ble_eq_true rfl) (Nat.le_of_ble_eq_true rfl) (Nat.le_of_ble_eq_true rfl) (Nat.le_of_ble_eq_true rfl) dX3_takeSum_36 ?_
  refine top_l (y := 0) (by decide) ?_
  refine lv_lstore (lv' := [(8, .long 0), (6, .long 0), (4, .long 0), (0, .ref h), (1, .int x), (2, .int 0), (3, .ref t)]) hx hb dX3_takeSum_39 hl (by decide) rfl (fun ls hl => ?_)
  refine lv_lload hx hb dX3_takeSum_41 (lv_at hl 1 rfl) ?_
  refine lv_lload hx hb dX3_takeSum_43 (lv_at hl 0 rfl) ?_
  refine va_mmin_long hx hb (F.2.2.1.trans hl.1.symm) F.2.2.2.1 (F.2.2.2.2 _ km_X3_48) (F.2.2.2.2 _ ks_J9_min_f86c9) (F.2.2.2.2 _ ki_J9) (F.2.2.2.2 _ kd_J9_min_f86c9) (Nat.le_of_ble_eq_true rfl) (Nat.le_of_ble_eq_true rfl) (Nat.le_of_ble_eq_true rfl) (Nat.le_of_ble_eq_true rfl) dX3_takeSum_45 ?_
  refine top_l (y := 0) (by decide) ?_
  refine lv_lstore (lv' := [(4, .long 0), (8, .long 0), (6, .long 0), (0, .ref h), (1, .int x), (2, .int 0), (3, .ref t)]) hx hb dX3_takeSum_48 hl (by decide) rfl (fun ls hl => ?_)
  refine lv_aload_n hx hb dX3_takeSum_50 rfl (lv_at hl 3 rfl) ?_
  refine lv_dup hx hb dX3_takeSum_51 rfl ?_
  refine cs_get F St 0 rfl rfl inX3 2 (by decide) kf_X3_16 rfl dX3_takeSum_52 ?_
  refine lv_lload hx hb dX3_takeSum_55 (lv_at hl 0 rfl) ?_
  refine lv_ladd hx hb dX3_takeSum_57 ?_
  refine top_l (y := 0) (by decide) ?_
  refine cs_put F St 0 rfl rfl inX3 tyX3_ok nmX3 2 (by decide) kf_X3_16 rfl rfl rfl (Nat.le_of_ble_eq_true rfl) (w' := [(h, .inr (3, [.long 0, .long 0, .long 0, .long 0, .long 0, .long 0])), (t, .inr (8, [.ref tb0])), (tb0, .inl (te, 9, .inl untold))]) rfl dX3_takeSum_58 (fun H locs St => ?_)
  refine lv_aload_n hx hb dX3_takeSum_61 rfl (lv_at hl 3 rfl) ?_
  refine lv_dup hx hb dX3_takeSum_62 rfl ?_
  refine cs_get F St 0 rfl rfl inX3 0 (by decide) kf_X3_7 rfl dX3_takeSum_63 ?_
  refine lv_iload_n hx hb dX3_takeSum_66 rfl (lv_at hl 4 rfl) ?_
  refine lv_i2l (v := x.toInt64) hx hb dX3_takeSum_67 rfl ?_
  refine lv_lload hx hb dX3_takeSum_68 (lv_at hl 0 rfl) ?_
  refine lv_ladd hx hb dX3_takeSum_70 ?_
  refine lv_topl (fun y_10 ey_10 => ?_)
  refine lv_ladd hx hb dX3_takeSum_71 ?_
  refine lv_topl (fun y_11 ey_11 => ?_)
  refine cs_put F St 0 rfl rfl inX3 tyX3_ok nmX3 0 (by decide) kf_X3_7 rfl rfl rfl (Nat.le_of_ble_eq_true rfl) (w' := [(h, .inr (3, [.long y_11, .long 0, .long 0, .long 0, .long 0, .long 0])), (t, .inr (8, [.ref tb0])), (tb0, .inl (te, 9, .inl untold))]) rfl dX3_takeSum_72 (fun H locs St => ?_)
  refine lv_lload hx hb dX3_takeSum_75 (lv_at hl 0 rfl) ?_
  refine lv_l2i (v := 0) hx hb dX3_takeSum_77 (by decide) ?_
  exact cs_iret F hr hlk hQ St () (r := 0) rfl [] rfl (by decide) [] rfl (by decide) (by decide) dX3_takeSum_78
set_option maxHeartbeats 4000000 in
set_option maxRecDepth 100000 in
theorem c3_takeTax (l : Launch) (G : va_G) (k : Nat → Nat) (sz : Nat) (h : Nat) : Met l yX3_takeTax (Cond.code yX3_takeTax cX3_takeTax 2 none :: tb) ({ frames := 0, cells := 0, slots := 0, locals := 0 } : Room) (va_Pc [.ref h, .int 0] (cP G k [(h, .inr (3, [.long 0, .long 0, .long 0, .long 0, .long 0, .long 0]))] [] sz)) (va_Qv (fun (_ : Unit) => True) (cB G (fun (_ : Unit) => [(h, .inr (3, [.long 0, .long 0, .long 0, .long 0, .long 0, .long 0]))]) (fun (_ : Unit) => []) (va_A [(h, .inr (3, [.long 0, .long 0, .long 0, .long 0, .long 0, .long 0]))] sz)) (va_A [(h, .inr (3, [.long 0, .long 0, .long 0, .long 0, .long 0, .long 0]))] sz)) 0 0 (va_A [(h, .inr (3, [.long 0, .long 0, .long 0, .long 0, .long 0, .long 0]))] sz) := by
  refine ofC_v (cc := cX3_takeTax) (maxL := 2) (ret := none) (by decide) rfl (Nat.le_of_ble_eq_true rfl) ?_
  intro p e s m args below meth c A ls Q F hr hin hlk St hl hQ
  have hx := F.1
  have hb := F.2.1
  have hl : lv_has ls 2 [(0, .ref h), (1, .int 0)] := hl
  have St : cS G k [(h, .inr (3, [.long 0, .long 0, .long 0, .long 0, .long 0, .long 0]))] [] A s s.heap [] := St
  refine lv_aload_n hx hb dX3_takeTax_0 rfl (lv_at hl 0 rfl) ?_
  refine lv_dup hx hb dX3_takeTax_1 rfl ?_
  refine cs_get F St 0 rfl rfl inX3 3 (by decide) kf_X3_19 rfl dX3_takeTax_2 ?_
  refine lv_iload_n hx hb dX3_takeTax_5 rfl (lv_at hl 1 rfl) ?_
  refine lv_i2l (v := 0) hx hb dX3_takeTax_6 (by decide) ?_
  refine lv_ladd hx hb dX3_takeTax_7 ?_
  refine top_l (y := 0) (by decide) ?_
  refine cs_put F St 0 rfl rfl inX3 tyX3_ok nmX3 3 (by decide) kf_X3_19 rfl rfl rfl (Nat.le_of_ble_eq_true rfl) (w' := [(h, .inr (3, [.long 0, .long 0, .long 0, .long 0, .long 0, .long 0]))]) rfl dX3_takeTax_8 (fun H locs St => ?_)
  refine lv_aload_n hx hb dX3_takeTax_11 rfl (lv_at hl 0 rfl) ?_
  refine lv_dup hx hb dX3_takeTax_12 rfl ?_
  refine cs_get F St 0 rfl rfl inX3 0 (by decide) kf_X3_7 rfl dX3_takeTax_13 ?_
  refine lv_iload_n hx hb dX3_takeTax_16 rfl (lv_at hl 1 rfl) ?_
  refine lv_i2l (v := 0) hx hb dX3_takeTax_17 (by decide) ?_
  refine lv_ladd hx hb dX3_takeTax_18 ?_
  refine top_l (y := 0) (by decide) ?_
  refine cs_put F St 0 rfl rfl inX3 tyX3_ok nmX3 0 (by decide) kf_X3_7 rfl rfl rfl (Nat.le_of_ble_eq_true rfl) (w' := [(h, .inr (3, [.long 0, .long 0, .long 0, .long 0, .long 0, .long 0]))]) rfl dX3_takeTax_19 (fun H locs St => ?_)
  exact cs_vret F hr hlk hQ St () (by trivial) [0] rfl (by decide) [] rfl (by decide) (by decide) dX3_takeTax_22
set_option maxHeartbeats 4000000 in
set_option maxRecDepth 100000 in
theorem c3_growLoan (l : Launch) (G : va_G) (k : Nat → Nat) (sz : Nat) (h : Nat) : Met l yX3_growLoan (Cond.code yX3_growLoan cX3_growLoan 4 none :: tb) ({ frames := 0, cells := 0, slots := 0, locals := 0 } : Room) (va_Pc [.ref h, .int 0] (cP G k [(h, .inr (3, [.long 0, .long 0, .long 0, .long 0, .long 0, .long 0]))] [] sz)) (va_Qv (fun (_ : Unit) => True) (cB G (fun (_ : Unit) => [(h, .inr (3, [.long 0, .long 0, .long 0, .long 0, .long 0, .long 0]))]) (fun (_ : Unit) => []) (va_A [(h, .inr (3, [.long 0, .long 0, .long 0, .long 0, .long 0, .long 0]))] sz)) (va_A [(h, .inr (3, [.long 0, .long 0, .long 0, .long 0, .long 0, .long 0]))] sz)) 0 0 (va_A [(h, .inr (3, [.long 0, .long 0, .long 0, .long 0, .long 0, .long 0]))] sz) := by
  refine ofC_v (cc := cX3_growLoan) (maxL := 4) (ret := none) (by decide) rfl (Nat.le_of_ble_eq_true rfl) ?_
  intro p e s m args below meth c A ls Q F hr hin hlk St hl hQ
  have hx := F.1
  have hb := F.2.1
  have hl : lv_has ls 4 [(0, .ref h), (1, .int 0)] := hl
  have St : cS G k [(h, .inr (3, [.long 0, .long 0, .long 0, .long 0, .long 0, .long 0]))] [] A s s.heap [] := St
  refine lv_aload_n hx hb dX3_growLoan_0 rfl (lv_at hl 0 rfl) ?_
  refine cs_get F St 0 rfl rfl inX3 1 (by decide) kf_X3_13 rfl dX3_growLoan_1 ?_
  refine lv_iload_n hx hb dX3_growLoan_4 rfl (lv_at hl 1 rfl) ?_
  refine lv_i2l (v := 0) hx hb dX3_growLoan_5 (by decide) ?_
  refine lv_lmul hx hb dX3_growLoan_6 ?_
  refine top_l (y := 0) (by decide) ?_
  refine lv_ldc2 (v := 1000) hx hb F.2.2.2.1 (F.2.2.2.2 _ kk_X3_51) dX3_growLoan_7 ?_
  refine lv_ldiv hx hb dX3_growLoan_10 (by decide) ?_
  refine top_l (y := 0) (by decide) ?_
  refine lv_lstore_n (lv' := [(2, .long 0), (0, .ref h), (1, .int 0)]) hx hb dX3_growLoan_11 rfl hl (by decide) rfl (fun ls hl => ?_)
  refine lv_aload_n hx hb dX3_growLoan_12 rfl (lv_at hl 1 rfl) ?_
  refine lv_dup hx hb dX3_growLoan_13 rfl ?_
  refine cs_get F St 0 rfl rfl inX3 1 (by decide) kf_X3_13 rfl dX3_growLoan_14 ?_
  refine lv_lload_n hx hb dX3_growLoan_17 rfl (lv_at hl 0 rfl) ?_
  refine lv_ladd hx hb dX3_growLoan_18 ?_
  refine top_l (y := 0) (by decide) ?_
  refine cs_put F St 0 rfl rfl inX3 tyX3_ok nmX3 1 (by decide) kf_X3_13 rfl rfl rfl (Nat.le_of_ble_eq_true rfl) (w' := [(h, .inr (3, [.long 0, .long 0, .long 0, .long 0, .long 0, .long 0]))]) rfl dX3_growLoan_19 (fun H locs St => ?_)
  refine lv_aload_n hx hb dX3_growLoan_22 rfl (lv_at hl 1 rfl) ?_
  refine lv_dup hx hb dX3_growLoan_23 rfl ?_
  refine cs_get F St 0 rfl rfl inX3 5 (by decide) kf_X3_25 rfl dX3_growLoan_24 ?_
  refine lv_lload_n hx hb dX3_growLoan_27 rfl (lv_at hl 0 rfl) ?_
  refine lv_ladd hx hb dX3_growLoan_28 ?_
  refine top_l (y := 0) (by decide) ?_
  refine cs_put F St 0 rfl rfl inX3 tyX3_ok nmX3 5 (by decide) kf_X3_25 rfl rfl rfl (Nat.le_of_ble_eq_true rfl) (w' := [(h, .inr (3, [.long 0, .long 0, .long 0, .long 0, .long 0, .long 0]))]) rfl dX3_growLoan_29 (fun H locs St => ?_)
  exact cs_vret F hr hlk hQ St () (by trivial) [0] rfl (by decide) [] rfl (by decide) (by decide) dX3_growLoan_32
set_option maxHeartbeats 4000000 in
set_option maxRecDepth 100000 in
theorem c3_payBackLoan (l : Launch) (G : va_G) (k : Nat → Nat) (sz : Nat) (h : Nat) : Met l yX3_payBackLoan (Cond.code yX3_payBackLoan cX3_payBackLoan 3 none :: tb) ({ frames := 1, cells := 0, slots := 0, locals := 23 } : Room) (va_Pc [.ref h] (cP G k [(h, .inr (3, [.long 0, .long 0, .long 0, .long 0, .long 0, .long 0]))] [] sz)) (va_Qv (fun (_ : Unit) => True) (cB G (fun (_ : Unit) => [(h, .inr (3, [.long 0, .long 0, .long 0, .long 0, .long 0, .long 0]))]) (fun (_ : Unit) => []) (va_A [(h, .inr (3, [.long 0, .long 0, .long 0, .long 0, .long 0, .long 0]))] sz)) (va_A [(h, .inr (3, [.long 0, .long 0, .long 0, .long 0, .long 0, .long 0]))] sz)) 0 0 (va_A [(h, .inr (3, [.long 0, .long 0, .long 0, .long 0, .long 0, .long 0]))] sz) := by
  refine ofC_v (cc := cX3_payBackLoan) (maxL := 3) (ret := none) (by decide) rfl (Nat.le_of_ble_eq_true rfl) ?_
  intro p e s m args below meth c A ls Q F hr hin hlk St hl hQ
  have hx := F.1
  have hb := F.2.1
  have hl : lv_has ls 3 [(0, .ref h)] := hl
  have St : cS G k [(h, .inr (3, [.long 0, .long 0, .long 0, .long 0, .long 0, .long 0]))] [] A s s.heap [] := St
  refine lv_aload_n hx hb dX3_payBackLoan_0 rfl (lv_at hl 0 rfl) ?_
  refine cs_get F St 0 rfl rfl inX3 0 (by decide) kf_X3_7 rfl dX3_payBackLoan_1 ?_
  refine lv_aload_n hx hb dX3_payBackLoan_4 rfl (lv_at hl 0 rfl) ?_
  refine cs_get F St 0 rfl rfl inX3 1 (by decide) kf_X3_13 rfl dX3_payBackLoan_5 ?_
  refine va_mmin_long hx hb (F.2.2.1.trans hl.1.symm) F.2.2.2.1 (F.2.2.2.2 _ km_X3_48) (F.2.2.2.2 _ ks_J9_min_f86c9) (F.2.2.2.2 _ ki_J9) (F.2.2.2.2 _ kd_J9_min_f86c9) (Nat.le_of_ble_eq_true rfl) (Nat.le_of_ble_eq_true rfl) (Nat.le_of_ble_eq_true rfl) (Nat.le_of_ble_eq_true rfl) dX3_payBackLoan_8 ?_
  refine top_l (y := 0) (by decide) ?_
  refine lv_lstore_n (lv' := [(1, .long 0), (0, .ref h)]) hx hb dX3_payBackLoan_11 rfl hl (by decide) rfl (fun ls hl => ?_)
  refine lv_aload_n hx hb dX3_payBackLoan_12 rfl (lv_at hl 1 rfl) ?_
  refine lv_dup hx hb dX3_payBackLoan_13 rfl ?_
  refine cs_get F St 0 rfl rfl inX3 0 (by decide) kf_X3_7 rfl dX3_payBackLoan_14 ?_
  refine lv_lload_n hx hb dX3_payBackLoan_17 rfl (lv_at hl 0 rfl) ?_
  refine lv_lsub hx hb dX3_payBackLoan_18 ?_
  refine top_l (y := 0) (by decide) ?_
  refine cs_put F St 0 rfl rfl inX3 tyX3_ok nmX3 0 (by decide) kf_X3_7 rfl rfl rfl (Nat.le_of_ble_eq_true rfl) (w' := [(h, .inr (3, [.long 0, .long 0, .long 0, .long 0, .long 0, .long 0]))]) rfl dX3_payBackLoan_19 (fun H locs St => ?_)
  refine lv_aload_n hx hb dX3_payBackLoan_22 rfl (lv_at hl 1 rfl) ?_
  refine lv_dup hx hb dX3_payBackLoan_23 rfl ?_
  refine cs_get F St 0 rfl rfl inX3 1 (by decide) kf_X3_13 rfl dX3_payBackLoan_24 ?_
  refine lv_lload_n hx hb dX3_payBackLoan_27 rfl (lv_at hl 0 rfl) ?_
  refine lv_lsub hx hb dX3_payBackLoan_28 ?_
  refine top_l (y := 0) (by decide) ?_
  refine cs_put F St 0 rfl rfl inX3 tyX3_ok nmX3 1 (by decide) kf_X3_13 rfl rfl rfl (Nat.le_of_ble_eq_true rfl) (w' := [(h, .inr (3, [.long 0, .long 0, .long 0, .long 0, .long 0, .long 0]))]) rfl dX3_payBackLoan_29 (fun H locs St => ?_)
  exact cs_vret F hr hlk hQ St () (by trivial) [0] rfl (by decide) [] rfl (by decide) (by decide) dX3_payBackLoan_32
set_option maxHeartbeats 4000000 in
set_option maxRecDepth 100000 in
theorem c3_giveBack (l : Launch) (G : va_G) (k : Nat → Nat) (sz : Nat) (h : Nat) : Met l yX3_giveBack (Cond.code yX3_giveBack cX3_giveBack 2 none :: tb) ({ frames := 0, cells := 0, slots := 0, locals := 0 } : Room) (va_Pc [.ref h, .int 0] (cP G k [(h, .inr (3, [.long 0, .long 0, .long 0, .long 0, .long 0, .long 0]))] [] sz)) (va_Qv (fun (_ : Unit) => True) (cB G (fun (_ : Unit) => [(h, .inr (3, [.long 0, .long 0, .long 0, .long 0, .long 0, .long 0]))]) (fun (_ : Unit) => []) (va_A [(h, .inr (3, [.long 0, .long 0, .long 0, .long 0, .long 0, .long 0]))] sz)) (va_A [(h, .inr (3, [.long 0, .long 0, .long 0, .long 0, .long 0, .long 0]))] sz)) 0 0 (va_A [(h, .inr (3, [.long 0, .long 0, .long 0, .long 0, .long 0, .long 0]))] sz) := by
  refine ofC_v (cc := cX3_giveBack) (maxL := 2) (ret := none) (by decide) rfl (Nat.le_of_ble_eq_true rfl) ?_
  intro p e s m args below meth c A ls Q F hr hin hlk St hl hQ
  have hx := F.1
  have hb := F.2.1
  have hl : lv_has ls 2 [(0, .ref h), (1, .int 0)] := hl
  have St : cS G k [(h, .inr (3, [.long 0, .long 0, .long 0, .long 0, .long 0, .long 0]))] [] A s s.heap [] := St
  refine lv_aload_n hx hb dX3_giveBack_0 rfl (lv_at hl 0 rfl) ?_
  refine lv_dup hx hb dX3_giveBack_1 rfl ?_
  refine cs_get F St 0 rfl rfl inX3 0 (by decide) kf_X3_7 rfl dX3_giveBack_2 ?_
  refine lv_iload_n hx hb dX3_giveBack_5 rfl (lv_at hl 1 rfl) ?_
  refine lv_i2l (v := 0) hx hb dX3_giveBack_6 (by decide) ?_
  refine lv_lsub hx hb dX3_giveBack_7 ?_
  refine top_l (y := 0) (by decide) ?_
  refine cs_put F St 0 rfl rfl inX3 tyX3_ok nmX3 0 (by decide) kf_X3_7 rfl rfl rfl (Nat.le_of_ble_eq_true rfl) (w' := [(h, .inr (3, [.long 0, .long 0, .long 0, .long 0, .long 0, .long 0]))]) rfl dX3_giveBack_8 (fun H locs St => ?_)
  exact cs_vret F hr hlk hQ St () (by trivial) [0] rfl (by decide) [] rfl (by decide) (by decide) dX3_giveBack_11
set_option maxHeartbeats 4000000 in
set_option maxRecDepth 100000 in
/-- Tower() -/
theorem c7_init (l : Launch) (G : va_G) (k : Nat → Nat) (sz : Nat) (h : Nat) : Met l yX7_init (Cond.code yX7_init cX7_init 1 none :: tb) ({ frames := 1, cells := 1, slots := 8, locals := 20 } : Room) (va_Pc [.ref h] (cP G k [(h, .inr (7, [.null, .int 0, .int 0]))] [] sz)) (va_Qv (fun (u : Nat × ClassId) => match u with | (b, ce) => True) (cB G (fun u => match u with | (b, ce) => [(h, .inr (7, [.ref b, .int 0, .int 0])), (b, .inl (ce, 8, .inr (.inr (.inr (.inr (fun _ => none))))))]) (fun u => match u with | (b, ce) => [(ce, .object "TowerAppeal$Stage")]) (va_A [(h, .inr (7, [.null, .int 0, .int 0]))] sz)) (va_A [(h, .inr (7, [.null, .int 0, .int 0]))] sz)) 1 8 (va_A [(h, .inr (7, [.null, .int 0, .int 0]))] sz) := by
  refine ofC_v (cc := cX7_init) (maxL := 1) (ret := none) (by decide) rfl (Nat.le_of_ble_eq_true rfl) ?_
  intro p e s m args below meth c A ls Q F hr hin hlk St hl hQ
  have hx := F.1
  have hb := F.2.1
  have hl : lv_has ls 1 [(0, .ref h)] := hl
  have St : cS G k [(h, .inr (7, [.null, .int 0, .int 0]))] [] A s s.heap [] := St
  refine lv_aload_n hx hb dX7_init_0 rfl (lv_at hl 0 rfl) ?_
  refine W.objInit hx hb F.2.2.2.1 (F.2.2.2.2 _ km_X7_3) (F.2.2.2.2 _ kj_objectInit) (F.2.2.2.2 _ kd_objectInit) rfl (by rw [F.2.2.1]; exact hl.1) rfl dX7_init_1 (Nat.le_of_ble_eq_true rfl) (Nat.le_of_ble_eq_true rfl) ?_
  refine W.eq (g2 := F0 m 4 ls []) rfl ?_
  refine lv_aload_n hx hb dX7_init_4 rfl (lv_at hl 0 rfl) ?_
  refine lv_bipush (v := 8) hx hb dX7_init_5 (by decide) ?_
  refine cs_newq F St kc_X7_9 St.2.2.2.2.2.1.2.2.2.2.2.2.2.2 (N' := 8) (by decide) (by decide) (by decide) (Nat.le_of_ble_eq_true rfl) (Nat.le_of_ble_eq_true rfl) dX7_init_7 (fun q_1 d_2 H St => ?_)
  refine W.widen (k := 1) (n := 8) (by decide) (by decide) ?_
  have St : cS G k [(h, .inr (7, [.null, .int 0, .int 0])), (q_1, .inl (d_2, 8, .inr (.inr (.inr (.inr (fun _ => none))))))] [(d_2, .object "TowerAppeal$Stage")] A s H _ := St
  refine cs_putF F hin St 0 rfl rfl inX7 tyX7_ok nmX7 0 (by decide) kf_X7_11 rfl rfl rfl rfl (Nat.le_of_ble_eq_true rfl) (w' := [(h, .inr (7, [.ref q_1, .int 0, .int 0])), (q_1, .inl (d_2, 8, .inr (.inr (.inr (.inr (fun _ => none))))))]) rfl dX7_init_10 (fun H locs St => ?_)
  exact cs_vret F hr hlk hQ St (q_1, d_2) (by trivial) [0, 1] rfl (by decide) [0] rfl (by decide) (by decide) dX7_init_13
set_option maxHeartbeats 4000000 in
set_option maxRecDepth 100000 in
theorem c7_size (l : Launch) (G : va_G) (k : Nat → Nat) (sz : Nat) (h : Nat) (b : Nat) : Met l yX7_size (Cond.code yX7_size cX7_size 1 (some .int) :: tb) ({ frames := 0, cells := 0, slots := 0, locals := 0 } : Room) (va_Pc [.ref h] (cP G k [(h, .inr (7, [.ref b, .int 0, .int 0]))] [] sz)) (va_Qi (fun (r : Int32) (_ : Unit) => (r = 0)) (cB G (fun (_ : Unit) => [(h, .inr (7, [.ref b, .int 0, .int 0]))]) (fun (_ : Unit) => []) (va_A [(h, .inr (7, [.ref b, .int 0, .int 0]))] sz)) (va_A [(h, .inr (7, [.ref b, .int 0, .int 0]))] sz)) 0 0 (va_A [(h, .inr (7, [.ref b, .int 0, .int 0]))] sz) := by
  refine ofC_i (cc := cX7_size) (maxL := 1) (ret := (some .int)) (by decide) rfl (Nat.le_of_ble_eq_true rfl) ?_
  intro p e s m args below meth c A ls Q F hr hin hlk St hl hQ
  have hx := F.1
  have hb := F.2.1
  have hl : lv_has ls 1 [(0, .ref h)] := hl
  have St : cS G k [(h, .inr (7, [.ref b, .int 0, .int 0]))] [] A s s.heap [] := St
  refine lv_aload_n hx hb dX7_size_0 rfl (lv_at hl 0 rfl) ?_
  refine cs_get F St 0 rfl rfl inX7 1 (by decide) kf_X7_17 rfl dX7_size_1 ?_
  exact cs_iret F hr hlk hQ St () (r := 0) rfl [0] rfl (by decide) [] rfl (by decide) (by decide) dX7_size_4
set_option maxHeartbeats 4000000 in
set_option maxRecDepth 100000 in
theorem c7_isFull (l : Launch) (G : va_G) (k : Nat → Nat) (sz : Nat) (h : Nat) (b : Nat) : Met l yX7_isFull (Cond.code yX7_isFull cX7_isFull 1 (some .boolean) :: tb) ({ frames := 0, cells := 0, slots := 0, locals := 0 } : Room) (va_Pc [.ref h] (cP G k [(h, .inr (7, [.ref b, .int 0, .int 0]))] [] sz)) (va_Qi (fun (r : Int32) (_ : Unit) => (r = 0)) (cB G (fun (_ : Unit) => [(h, .inr (7, [.ref b, .int 0, .int 0]))]) (fun (_ : Unit) => []) (va_A [(h, .inr (7, [.ref b, .int 0, .int 0]))] sz)) (va_A [(h, .inr (7, [.ref b, .int 0, .int 0]))] sz)) 0 0 (va_A [(h, .inr (7, [.ref b, .int 0, .int 0]))] sz) := by
  refine ofC_i (cc := cX7_isFull) (maxL := 1) (ret := (some .boolean)) (by decide) rfl (Nat.le_of_ble_eq_true rfl) ?_
  intro p e s m args below meth c A ls Q F hr hin hlk St hl hQ
  have hx := F.1
  have hb := F.2.1
  have hl : lv_has ls 1 [(0, .ref h)] := hl
  have St : cS G k [(h, .inr (7, [.ref b, .int 0, .int 0]))] [] A s s.heap [] := St
  refine lv_aload_n hx hb dX7_isFull_0 rfl (lv_at hl 0 rfl) ?_
  refine cs_get F St 0 rfl rfl inX7 1 (by decide) kf_X7_17 rfl dX7_isFull_1 ?_
  refine lv_bipush (v := 8) hx hb dX7_isFull_4 (by decide) ?_
  refine lv_icmp_lt (tgt := 13) hx hb dX7_isFull_6 (by decide) (fun c6 => ?_) (fun c6 => ?_)
  rotate_left
  · exact absurd (by decide) c6
  refine lv_iconst (v := 0) hx hb dX7_isFull_13 (by decide) ?_
  exact cs_zret F hr hlk hQ St () (r := 0) rfl rfl [0] rfl (by decide) [] rfl (by decide) (by decide) dX7_isFull_14
set_option maxHeartbeats 4000000 in
set_option maxRecDepth 100000 in
theorem c7_at (l : Launch) (G : va_G) (k : Nat → Nat) (sz : Nat) (h : Nat) (b : Nat) (pp : Int32) : Met l yX7_at (Cond.code yX7_at cX7_at 2 (some (.object "TowerAppeal$Stage")) :: tb) ({ frames := 0, cells := 0, slots := 0, locals := 0 } : Room) (va_Pc [.ref h, .int pp] (cP G k [(h, .inr (7, [.ref b, .int 0, .int 0]))] [] sz)) (va_Qq (fun (r : Option Nat) (_ : Unit) => (r = none)) (cB G (fun (_ : Unit) => [(h, .inr (7, [.ref b, .int 0, .int 0]))]) (fun (_ : Unit) => []) (va_A [(h, .inr (7, [.ref b, .int 0, .int 0]))] sz)) (va_A [(h, .inr (7, [.ref b, .int 0, .int 0]))] sz)) 0 0 (va_A [(h, .inr (7, [.ref b, .int 0, .int 0]))] sz) := by
  refine ofC_q (cc := cX7_at) (maxL := 2) (ret := (some (.object "TowerAppeal$Stage"))) (by decide) rfl (Nat.le_of_ble_eq_true rfl) ?_
  intro p e s m args below meth c A ls Q F hr hin hlk St hl hQ
  have hx := F.1
  have hb := F.2.1
  have hl : lv_has ls 2 [(0, .ref h), (1, .int pp)] := hl
  have St : cS G k [(h, .inr (7, [.ref b, .int 0, .int 0]))] [] A s s.heap [] := St
  refine lv_iload_n hx hb dX7_at_0 rfl (lv_at hl 1 rfl) ?_
  refine lv_if_lt (tgt := 27) hx hb dX7_at_1 (by decide) (fun c1 => ?_) (fun c1 => ?_)
  ·
    have i1 := ci_lt (x := pp) (y := 0) rfl (show (0 : Int32).toInt = 0 by decide) c1
    refine lv_null hx hb dX7_at_27 ?_
    exact cs_qret F hr (Or.inl ⟨_, rfl⟩) hlk hQ St () none rfl rfl [0] rfl (by decide) [] rfl (by decide) (by decide) dX7_at_28
  ·
    have i1 := ci_nlt (x := pp) (y := 0) rfl (show (0 : Int32).toInt = 0 by decide) c1
    refine lv_iload_n hx hb dX7_at_4 rfl (lv_at hl 1 rfl) ?_
    refine lv_aload_n hx hb dX7_at_5 rfl (lv_at hl 0 rfl) ?_
    refine cs_get F St 0 rfl rfl inX7 1 (by decide) kf_X7_17 rfl dX7_at_6 ?_
    refine lv_icmp_ge (tgt := 27) hx hb dX7_at_9 (by decide) (fun c9 => ?_) (fun c9 => ?_)
    rotate_left
    · have i9 := ci_nle (x := 0) (y := pp) (show (0 : Int32).toInt = 0 by decide) rfl c9; exact False.elim (by omega)
    have i9 := ci_le (x := 0) (y := pp) (show (0 : Int32).toInt = 0 by decide) rfl c9
    refine lv_null hx hb dX7_at_27 ?_
    exact cs_qret F hr (Or.inl ⟨_, rfl⟩) hlk hQ St () none rfl rfl [0] rfl (by decide) [] rfl (by decide) (by decide) dX7_at_28
set_option maxHeartbeats 4000000 in
set_option maxRecDepth 100000 in
theorem c7_running (l : Launch) (G : va_G) (k : Nat → Nat) (sz : Nat) (h : Nat) (b : Nat) : Met l yX7_running (Cond.code yX7_running cX7_running 2 (some (.object "TowerAppeal$Stage")) :: tb) ({ frames := 1, cells := 0, slots := 0, locals := 21 } : Room) (va_Pc [.ref h] (cP G k [(h, .inr (7, [.ref b, .int 0, .int 0]))] [] sz)) (va_Qq (fun (r : Option Nat) (_ : Unit) => (r = none)) (cB G (fun (_ : Unit) => [(h, .inr (7, [.ref b, .int 0, .int 0]))]) (fun (_ : Unit) => []) (va_A [(h, .inr (7, [.ref b, .int 0, .int 0]))] sz)) (va_A [(h, .inr (7, [.ref b, .int 0, .int 0]))] sz)) 0 0 (va_A [(h, .inr (7, [.ref b, .int 0, .int 0]))] sz) := by
  refine ofC_q (cc := cX7_running) (maxL := 2) (ret := (some (.object "TowerAppeal$Stage"))) (by decide) rfl (Nat.le_of_ble_eq_true rfl) ?_
  intro p e s m args below meth c A ls Q F hr hin hlk St hl hQ
  have hx := F.1
  have hb := F.2.1
  have hl : lv_has ls 2 [(0, .ref h)] := hl
  have St : cS G k [(h, .inr (7, [.ref b, .int 0, .int 0]))] [] A s s.heap [] := St
  refine lv_aload_n hx hb dX7_running_0 rfl (lv_at hl 0 rfl) ?_
  refine lv_aload_n hx hb dX7_running_1 rfl (lv_at hl 0 rfl) ?_
  refine cs_get F St 0 rfl rfl inX7 2 (by decide) kf_X7_21 rfl dX7_running_2 ?_
  refine lv_iconst (v := 1) hx hb dX7_running_5 (by decide) ?_
  refine lv_isub hx hb dX7_running_6 ?_
  refine top_i (y := (-1)) (by decide) ?_
  refine cs_q St [0] [] (wc := [(h, .inr (7, [.ref b, .int 0, .int 0]))]) (wr := []) rfl rfl (by decide) (by decide) (va_runV (As := [.int (-1)]) (rest := []) F (c7_at l G k _ h b (-1)) (cwVt F mf_X7_at km_X7_24 rfl rfl ⟨Nat.le_of_ble_eq_true rfl, Nat.le_of_ble_eq_true rfl⟩) (cs_preV St [0] rfl (by decide) [] rfl (ci := 7) (q0 := 0) rfl rfl) rfl rfl hl.1 rfl (lv_room (Nat.le_of_ble_eq_true rfl)) dX7_running_7 ⟨Nat.le_of_ble_eq_true rfl, Nat.le_of_ble_eq_true rfl⟩) (fun r_1 u_2 H locs hw St => ?_)
  try dsimp only at hw
  have z_3 := hw
  subst r_1
  have St : cS G k [(h, .inr (7, [.ref b, .int 0, .int 0]))] [] A s H locs := St
  show W _ _ _ _ _ _ _ _ _ _ _ _ _ _ _ (F0 m 10 ls [.null])
  refine lv_astore_nN (lv' := [(1, .null), (0, .ref h)]) hx hb dX7_running_10 rfl hl (by decide) rfl (fun ls hl => ?_)
  refine lv_aload_nN hx hb dX7_running_11 rfl (lv_at hl 0 rfl) ?_
  refine lv_ifnullN (tgt := 26) hx hb dX7_running_12 (by decide) ?_
  refine lv_null hx hb dX7_running_26 ?_
  exact cs_qret F hr (Or.inl ⟨_, rfl⟩) hlk hQ St () none rfl rfl [0] rfl (by decide) [] rfl (by decide) (by decide) dX7_running_27
set_option maxHeartbeats 4000000 in
set_option maxRecDepth 100000 in
theorem c7_mayStartNext (l : Launch) (G : va_G) (k : Nat → Nat) (sz : Nat) (h : Nat) (b : Nat) : Met l yX7_mayStartNext (Cond.code yX7_mayStartNext cX7_mayStartNext 1 (some .boolean) :: tb) ({ frames := 2, cells := 0, slots := 0, locals := 42 } : Room) (va_Pc [.ref h] (cP G k [(h, .inr (7, [.ref b, .int 0, .int 0]))] [] sz)) (va_Qi (fun (r : Int32) (_ : Unit) => (r = 0)) (cB G (fun (_ : Unit) => [(h, .inr (7, [.ref b, .int 0, .int 0]))]) (fun (_ : Unit) => []) (va_A [(h, .inr (7, [.ref b, .int 0, .int 0]))] sz)) (va_A [(h, .inr (7, [.ref b, .int 0, .int 0]))] sz)) 0 0 (va_A [(h, .inr (7, [.ref b, .int 0, .int 0]))] sz) := by
  refine ofC_i (cc := cX7_mayStartNext) (maxL := 1) (ret := (some .boolean)) (by decide) rfl (Nat.le_of_ble_eq_true rfl) ?_
  intro p e s m args below meth c A ls Q F hr hin hlk St hl hQ
  have hx := F.1
  have hb := F.2.1
  have hl : lv_has ls 1 [(0, .ref h)] := hl
  have St : cS G k [(h, .inr (7, [.ref b, .int 0, .int 0]))] [] A s s.heap [] := St
  refine lv_aload_n hx hb dX7_mayStartNext_0 rfl (lv_at hl 0 rfl) ?_
  refine cs_q St [0] [] (wc := [(h, .inr (7, [.ref b, .int 0, .int 0]))]) (wr := []) rfl rfl (by decide) (by decide) (va_runV (As := []) (rest := []) F (c7_running l G k _ h b) (cwVt F mf_X7_running km_X7_32 rfl rfl ⟨Nat.le_of_ble_eq_true rfl, Nat.le_of_ble_eq_true rfl⟩) (cs_preV St [0] rfl (by decide) [] rfl (ci := 7) (q0 := 0) rfl rfl) rfl rfl hl.1 rfl (lv_room (Nat.le_of_ble_eq_true rfl)) dX7_mayStartNext_1 ⟨Nat.le_of_ble_eq_true rfl, Nat.le_of_ble_eq_true rfl⟩) (fun r_1 u_2 H locs hw St => ?_)
  try dsimp only at hw
  have z_3 := hw
  subst r_1
  have St : cS G k [(h, .inr (7, [.ref b, .int 0, .int 0]))] [] A s H locs := St
  show W _ _ _ _ _ _ _ _ _ _ _ _ _ _ _ (F0 m 4 ls [.null])
  refine lv_ifnonnullN hx hb dX7_mayStartNext_4 ?_
  refine lv_aload_n hx hb dX7_mayStartNext_7 rfl (lv_at hl 0 rfl) ?_
  refine cs_get F St 0 rfl rfl inX7 2 (by decide) kf_X7_21 rfl dX7_mayStartNext_8 ?_
  refine lv_aload_n hx hb dX7_mayStartNext_11 rfl (lv_at hl 0 rfl) ?_
  refine cs_get F St 0 rfl rfl inX7 1 (by decide) kf_X7_17 rfl dX7_mayStartNext_12 ?_
  refine lv_icmp_ge (tgt := 22) hx hb dX7_mayStartNext_15 (by decide) (fun c15 => ?_) (fun c15 => ?_)
  rotate_left
  · exact absurd (by decide) c15
  refine lv_iconst (v := 0) hx hb dX7_mayStartNext_22 (by decide) ?_
  exact cs_zret F hr hlk hQ St () (r := 0) rfl rfl [0] rfl (by decide) [] rfl (by decide) (by decide) dX7_mayStartNext_23
set_option maxHeartbeats 4000000 in
set_option maxRecDepth 100000 in
theorem c7_payPart (l : Launch) (G : va_G) (k : Nat → Nat) (sz : Nat) (h : Nat) (b : Nat) (v : Nat) : Met l yX7_payPart (Cond.code yX7_payPart cX7_payPart 5 none :: tb) ({ frames := 2, cells := 0, slots := 0, locals := 42 } : Room) (va_Pc [.ref h, .ref v, .int 0] (cP G k [(h, .inr (7, [.ref b, .int 0, .int 0]))] [] sz)) (va_Qv (fun (_ : Unit) => True) (cB G (fun (_ : Unit) => [(h, .inr (7, [.ref b, .int 0, .int 0]))]) (fun (_ : Unit) => []) (va_A [(h, .inr (7, [.ref b, .int 0, .int 0]))] sz)) (va_A [(h, .inr (7, [.ref b, .int 0, .int 0]))] sz)) 0 0 (va_A [(h, .inr (7, [.ref b, .int 0, .int 0]))] sz) := by
  refine ofC_v (cc := cX7_payPart) (maxL := 5) (ret := none) (by decide) rfl (Nat.le_of_ble_eq_true rfl) ?_
  intro p e s m args below meth c A ls Q F hr hin hlk St hl hQ
  have hx := F.1
  have hb := F.2.1
  have hl : lv_has ls 5 [(0, .ref h), (1, .ref v), (2, .int 0)] := hl
  have St : cS G k [(h, .inr (7, [.ref b, .int 0, .int 0]))] [] A s s.heap [] := St
  refine lv_aload_n hx hb dX7_payPart_0 rfl (lv_at hl 0 rfl) ?_
  refine cs_q St [0] [] (wc := [(h, .inr (7, [.ref b, .int 0, .int 0]))]) (wr := []) rfl rfl (by decide) (by decide) (va_runV (As := []) (rest := []) F (c7_running l G k _ h b) (cwVt F mf_X7_running km_X7_32 rfl rfl ⟨Nat.le_of_ble_eq_true rfl, Nat.le_of_ble_eq_true rfl⟩) (cs_preV St [0] rfl (by decide) [] rfl (ci := 7) (q0 := 0) rfl rfl) rfl rfl hl.1 rfl (lv_room (Nat.le_of_ble_eq_true rfl)) dX7_payPart_1 ⟨Nat.le_of_ble_eq_true rfl, Nat.le_of_ble_eq_true rfl⟩) (fun r_1 u_2 H locs hw St => ?_)
  try dsimp only at hw
  have z_3 := hw
  subst r_1
  have St : cS G k [(h, .inr (7, [.ref b, .int 0, .int 0]))] [] A s H locs := St
  show W _ _ _ _ _ _ _ _ _ _ _ _ _ _ _ (F0 m 4 ls [.null])
  refine lv_astore_nN (lv' := [(3, .null), (0, .ref h), (1, .ref v), (2, .int 0)]) hx hb dX7_payPart_4 rfl hl (by decide) rfl (fun ls hl => ?_)
  refine lv_aload_nN hx hb dX7_payPart_5 rfl (lv_at hl 0 rfl) ?_
  refine lv_ifnonnullN hx hb dX7_payPart_6 ?_
  exact cs_vret F hr hlk hQ St () (by trivial) [0] rfl (by decide) [] rfl (by decide) (by decide) dX7_payPart_9
set_option maxHeartbeats 4000000 in
set_option maxRecDepth 100000 in
theorem c7_add (l : Launch) (G : va_G) (k : Nat → Nat) (sz : Nat) (h : Nat) (b : Nat) (ce : ClassId) (v : Nat) (x : Int32) (y : Int32) : Met l yX7_add (Cond.code yX7_add cX7_add 2 (some .int) :: tb) ({ frames := 0, cells := 0, slots := 0, locals := 0 } : Room) (va_Pc [.ref h, .ref v] (cP G k [(h, .inr (7, [.ref b, .int 0, .int 0])), (b, .inl (ce, 8, .inr (.inr (.inr (.inr (fun _ => none)))))), (v, .inr (4, [.int x, .int y, .int 0, .int 0, .int 0, .int 0]))] [(ce, .object "TowerAppeal$Stage")] sz)) (va_Qi (fun (r : Int32) (_ : Unit) => (r = 0)) (cB G (fun (_ : Unit) => []) (fun (_ : Unit) => []) (va_A [(h, .inr (7, [.ref b, .int 0, .int 0])), (b, .inl (ce, 8, .inr (.inr (.inr (.inr (fun _ => none)))))), (v, .inr (4, [.int x, .int y, .int 0, .int 0, .int 0, .int 0]))] sz)) (va_A [(h, .inr (7, [.ref b, .int 0, .int 0])), (b, .inl (ce, 8, .inr (.inr (.inr (.inr (fun _ => none)))))), (v, .inr (4, [.int x, .int y, .int 0, .int 0, .int 0, .int 0]))] sz)) 0 0 (va_A [(h, .inr (7, [.ref b, .int 0, .int 0])), (b, .inl (ce, 8, .inr (.inr (.inr (.inr (fun _ => none)))))), (v, .inr (4, [.int x, .int y, .int 0, .int 0, .int 0, .int 0]))] sz) := by
  refine ofC_i (cc := cX7_add) (maxL := 2) (ret := (some .int)) (by decide) rfl (Nat.le_of_ble_eq_true rfl) ?_
  intro p e s m args below meth c A ls Q F hr hin hlk St hl hQ
  have hx := F.1
  have hb := F.2.1
  have hl : lv_has ls 2 [(0, .ref h), (1, .ref v)] := hl
  have St : cS G k [(h, .inr (7, [.ref b, .int 0, .int 0])), (b, .inl (ce, 8, .inr (.inr (.inr (.inr (fun _ => none)))))), (v, .inr (4, [.int x, .int y, .int 0, .int 0, .int 0, .int 0]))] [(ce, .object "TowerAppeal$Stage")] A s s.heap [] := St
  refine lv_aload_n hx hb dX7_add_0 rfl (lv_at hl 0 rfl) ?_
  refine cs_get F St 0 rfl rfl inX7 1 (by decide) kf_X7_17 rfl dX7_add_1 ?_
  refine lv_if_lt (tgt := 16) hx hb dX7_add_4 (by decide) (fun c4 => ?_) (fun c4 => ?_)
  · exact absurd c4 (by decide)
  refine lv_aload_n hx hb dX7_add_7 rfl (lv_at hl 0 rfl) ?_
  refine cs_get F St 0 rfl rfl inX7 1 (by decide) kf_X7_17 rfl dX7_add_8 ?_
  refine lv_bipush (v := 8) hx hb dX7_add_11 (by decide) ?_
  refine lv_icmp_lt (tgt := 19) hx hb dX7_add_13 (by decide) (fun c13 => ?_) (fun c13 => ?_)
  rotate_left
  · exact absurd (by decide) c13
  refine lv_aload_n hx hb dX7_add_19 rfl (lv_at hl 0 rfl) ?_
  refine cs_get F St 0 rfl rfl inX7 0 (by decide) kf_X7_11 rfl dX7_add_20 ?_
  refine lv_aload_n hx hb dX7_add_23 rfl (lv_at hl 0 rfl) ?_
  refine cs_get F St 0 rfl rfl inX7 1 (by decide) kf_X7_17 rfl dX7_add_24 ?_
  refine lv_aload_n hx hb dX7_add_27 rfl (lv_at hl 1 rfl) ?_
  refine cs_astq F St 1 0 2 4 rfl rfl rfl rfl (vp_in_iff.mpr (by decide)) (w' := [(h, .inr (7, [.ref b, .int 0, .int 0])), (b, .inl (ce, 8, .inr (.inr (.inr (.inr (va_up (fun _ => none) (0 : Int32).toNatClampNeg (some v))))))), (v, .inr (4, [.int x, .int y, .int 0, .int 0, .int 0, .int 0]))]) rfl dX7_add_28 (fun H locs St => ?_)
  refine lv_aload_n hx hb dX7_add_29 rfl (lv_at hl 0 rfl) ?_
  refine lv_dup hx hb dX7_add_30 rfl ?_
  refine cs_get F St 0 rfl rfl inX7 1 (by decide) kf_X7_17 rfl dX7_add_31 ?_
  refine lv_iconst (v := 1) hx hb dX7_add_34 (by decide) ?_
  refine lv_iadd hx hb dX7_add_35 ?_
  refine top_i (y := 1) (by decide) ?_
  refine cs_put F St 0 rfl rfl inX7 tyX7_ok nmX7 1 (by decide) kf_X7_17 rfl rfl rfl (Nat.le_of_ble_eq_true rfl) (w' := [(h, .inr (7, [.ref b, .int 1, .int 0])), (b, .inl (ce, 8, .inr (.inr (.inr (.inr (va_up (fun _ => none) (0 : Int32).toNatClampNeg (some v))))))), (v, .inr (4, [.int x, .int y, .int 0, .int 0, .int 0, .int 0]))]) rfl dX7_add_36 (fun H locs St => ?_)
  refine lv_aload_n hx hb dX7_add_39 rfl (lv_at hl 0 rfl) ?_
  refine cs_get F St 0 rfl rfl inX7 1 (by decide) kf_X7_17 rfl dX7_add_40 ?_
  refine lv_iconst (v := 1) hx hb dX7_add_43 (by decide) ?_
  refine lv_isub hx hb dX7_add_44 ?_
  refine top_i (y := 0) (by decide) ?_
  exact cs_iret F hr hlk hQ St () (r := 0) rfl [] rfl (by decide) [] rfl (by decide) (by decide) dX7_add_45
set_option maxHeartbeats 4000000 in
set_option maxRecDepth 100000 in
/-- Stage(x, y) -/
theorem c4_init (l : Launch) (G : va_G) (k : Nat → Nat) (sz : Nat) (h : Nat) (x : Int32) (y : Int32) : Met l yX4_init (Cond.code yX4_init cX4_init 3 none :: tb) ({ frames := 1, cells := 0, slots := 0, locals := 20 } : Room) (va_Pc [.ref h, .int x, .int y] (cP G k [(h, .inr (4, [.int 0, .int 0, .int 0, .int 0, .int 0, .int 0]))] [] sz)) (va_Qv (fun (_ : Unit) => True) (cB G (fun (_ : Unit) => [(h, .inr (4, [.int x, .int y, .int 0, .int 0, .int 0, .int 0]))]) (fun (_ : Unit) => []) (va_A [(h, .inr (4, [.int 0, .int 0, .int 0, .int 0, .int 0, .int 0]))] sz)) (va_A [(h, .inr (4, [.int 0, .int 0, .int 0, .int 0, .int 0, .int 0]))] sz)) 0 0 (va_A [(h, .inr (4, [.int 0, .int 0, .int 0, .int 0, .int 0, .int 0]))] sz) := by
  refine ofC_v (cc := cX4_init) (maxL := 3) (ret := none) (by decide) rfl (Nat.le_of_ble_eq_true rfl) ?_
  intro p e s m args below meth c A ls Q F hr hin hlk St hl hQ
  have hx := F.1
  have hb := F.2.1
  have hl : lv_has ls 3 [(0, .ref h), (1, .int x), (2, .int y)] := hl
  have St : cS G k [(h, .inr (4, [.int 0, .int 0, .int 0, .int 0, .int 0, .int 0]))] [] A s s.heap [] := St
  refine lv_aload_n hx hb dX4_init_0 rfl (lv_at hl 0 rfl) ?_
  refine W.objInit hx hb F.2.2.2.1 (F.2.2.2.2 _ km_X4_1) (F.2.2.2.2 _ kj_objectInit) (F.2.2.2.2 _ kd_objectInit) rfl (by rw [F.2.2.1]; exact hl.1) rfl dX4_init_1 (Nat.le_of_ble_eq_true rfl) (Nat.le_of_ble_eq_true rfl) ?_
  refine W.eq (g2 := F0 m 4 ls []) rfl ?_
  refine lv_aload_n hx hb dX4_init_4 rfl (lv_at hl 0 rfl) ?_
  refine lv_iconst (v := 0) hx hb dX4_init_5 (by decide) ?_
  refine cs_put F St 0 rfl rfl inX4 tyX4_ok nmX4 2 (by decide) kf_X4_9 rfl rfl rfl (Nat.le_of_ble_eq_true rfl) (w' := [(h, .inr (4, [.int 0, .int 0, .int 0, .int 0, .int 0, .int 0]))]) rfl dX4_init_6 (fun H locs St => ?_)
  refine lv_aload_n hx hb dX4_init_9 rfl (lv_at hl 0 rfl) ?_
  refine lv_iload_n hx hb dX4_init_10 rfl (lv_at hl 1 rfl) ?_
  refine cs_putF F hin St 0 rfl rfl inX4 tyX4_ok nmX4 0 (by decide) kf_X4_13 rfl rfl rfl rfl (Nat.le_of_ble_eq_true rfl) (w' := [(h, .inr (4, [.int x, .int 0, .int 0, .int 0, .int 0, .int 0]))]) rfl dX4_init_11 (fun H locs St => ?_)
  refine lv_aload_n hx hb dX4_init_14 rfl (lv_at hl 0 rfl) ?_
  refine lv_iload_n hx hb dX4_init_15 rfl (lv_at hl 2 rfl) ?_
  refine cs_putF F hin St 0 rfl rfl inX4 tyX4_ok nmX4 1 (by decide) kf_X4_16 rfl rfl rfl rfl (Nat.le_of_ble_eq_true rfl) (w' := [(h, .inr (4, [.int x, .int y, .int 0, .int 0, .int 0, .int 0]))]) rfl dX4_init_16 (fun H locs St => ?_)
  exact cs_vret F hr hlk hQ St () (by trivial) [0] rfl (by decide) [] rfl (by decide) (by decide) dX4_init_19
set_option maxHeartbeats 4000000 in
set_option maxRecDepth 100000 in
theorem c1_dues (l : Launch) (G : va_G) (k : Nat → Nat) (sz : Nat) (x : Int32) (y : Int32) (z : Int32) : Met l yX1_duesThatCome (Cond.code yX1_duesThatCome cX1_duesThatCome 5 (some .int) :: tb) ({ frames := 0, cells := 0, slots := 0, locals := 0 } : Room) (va_Pc [.int x, .int y, .int z] (cP G k [] [] sz)) (va_Qi (fun (r : Int32) (_ : Unit) => (0 ≤ r.toInt ∧ r.toInt ≤ 84)) (cB G (fun (_ : Unit) => []) (fun (_ : Unit) => []) (va_A [] sz)) (va_A [] sz)) 0 0 (va_A [] sz) := by
  refine ofC_i (cc := cX1_duesThatCome) (maxL := 5) (ret := (some .int)) (by decide) rfl (Nat.le_of_ble_eq_true rfl) ?_
  intro p e s m args below meth c A ls Q F hr hin hlk St hl hQ
  have hx := F.1
  have hb := F.2.1
  have hl : lv_has ls 5 [(0, .int x), (1, .int y), (2, .int z)] := hl
  have St : cS G k [] [] A s s.heap [] := St
  refine lv_iconst (v := 0) hx hb dX1_duesThatCome_0 (by decide) ?_
  refine lv_istore_n (lv' := [(3, .int 0), (0, .int x), (1, .int y), (2, .int z)]) hx hb dX1_duesThatCome_1 rfl hl (by decide) rfl (fun ls hl => ?_)
  refine lv_iconst (v := 0) hx hb dX1_duesThatCome_2 (by decide) ?_
  refine lv_istore (lv' := [(4, .int 0), (3, .int 0), (0, .int x), (1, .int y), (2, .int z)]) hx hb dX1_duesThatCome_3 hl (by decide) rfl (fun ls hl => ?_)
  have lp5 : ∀ (n : Nat) (q : Int32) (i : Int32) (H : Heap) (locs : List Loc) (ls : Array Slot), (0 ≤ i.toInt ∧ i.toInt ≤ 84 ∧ 0 ≤ q.toInt ∧ q.toInt ≤ i.toInt) → ((84 - i.toInt).toNat) < n → cS G k [] [] A s H locs → lv_has ls 5 [(4, .int i), (3, .int q), (0, .int x), (1, .int y), (2, .int z)] → W p l e ({ frames := 0, cells := 0, slots := 0, locals := 0 } : Room) s m args below meth c H locs 0 0 Q (F0 m 5 ls []) := by
    intro n
    induction n with
    | zero => intro q i H locs ls hI hn; exact absurd hn (Nat.not_lt_zero _)
    | succ n ih =>
      intro q i H locs ls hI hn St hl
      obtain ⟨hI0, hI1, hI2, hI3⟩ := hI
      refine lv_iload hx hb dX1_duesThatCome_5 (lv_at hl 0 rfl) ?_
      refine lv_iload_n hx hb dX1_duesThatCome_7 rfl (lv_at hl 4 rfl) ?_
      refine lv_icmp_ge (tgt := 38) hx hb dX1_duesThatCome_8 (by decide) (fun c8 => ?_) (fun c8 => ?_)
      ·
        have i8 := ci_le (x := z) (y := i) rfl rfl c8
        refine lv_iload_n hx hb dX1_duesThatCome_38 rfl (lv_at hl 1 rfl) ?_
        exact cs_iret F hr hlk hQ St () (r := q) ⟨by omega, by omega⟩ [] rfl (by decide) [] rfl (by decide) (by decide) dX1_duesThatCome_39
      ·
        have i8 := ci_nle (x := z) (y := i) rfl rfl c8
        refine lv_iload hx hb dX1_duesThatCome_11 (lv_at hl 0 rfl) ?_
        refine lv_bipush (v := 84) hx hb dX1_duesThatCome_13 (by decide) ?_
        refine lv_icmp_ge (tgt := 38) hx hb dX1_duesThatCome_15 (by decide) (fun c15 => ?_) (fun c15 => ?_)
        ·
          have i15 := ci_le (x := 84) (y := i) (show (84 : Int32).toInt = 84 by decide) rfl c15
          refine lv_iload_n hx hb dX1_duesThatCome_38 rfl (lv_at hl 1 rfl) ?_
          exact cs_iret F hr hlk hQ St () (r := q) ⟨by omega, by omega⟩ [] rfl (by decide) [] rfl (by decide) (by decide) dX1_duesThatCome_39
        ·
          have i15 := ci_nle (x := 84) (y := i) (show (84 : Int32).toInt = 84 by decide) rfl c15
          refine lv_iload_n hx hb dX1_duesThatCome_18 rfl (lv_at hl 2 rfl) ?_
          refine lv_iload hx hb dX1_duesThatCome_19 (lv_at hl 0 rfl) ?_
          refine lv_iload_n hx hb dX1_duesThatCome_21 rfl (lv_at hl 3 rfl) ?_
          refine lv_imul hx hb dX1_duesThatCome_22 ?_
          refine lv_topi (fun y_1 ey_1 => ?_)
          refine lv_iadd hx hb dX1_duesThatCome_23 ?_
          refine lv_topi (fun y_2 ey_2 => ?_)
          have jy_2 := ci_add (x := x) (y := y_1) rfl rfl ey_2
          refine lv_bipush (v := 119) hx hb dX1_duesThatCome_24 (by decide) ?_
          refine lv_icmp_gt (tgt := 32) hx hb dX1_duesThatCome_26 (by decide) (fun c26 => ?_) (fun c26 => ?_)
          ·
            have i26 := ci_lt (x := 119) (y := y_2) (show (119 : Int32).toInt = 119 by decide) rfl c26
            obtain ⟨y_3, ey_3⟩ : ∃ zz : Int32, zz = i + 1 := ⟨_, rfl⟩
            have jy_3 := ci_add (x := i) rfl (show (1 : Int32).toInt = 1 by decide) ey_3
            refine lv_iinc (v := y_3) (lv' := [(4, .int y_3), (3, .int q), (0, .int x), (1, .int y), (2, .int z)]) hx hb dX1_duesThatCome_32 hl (k := 0) rfl (by rw [ey_3]; rfl) (by decide) rfl (fun ls hl => ?_)
            refine lv_goto (tgt := 5) hx hb dX1_duesThatCome_35 (by decide) ?_
            exact ih q y_3 _ _ _ ⟨by omega, by omega, by omega, by omega⟩ (by omega) St (lv_sub hl [0, 1, 2, 3, 4] rfl)
          ·
            have i26 := ci_nlt (x := 119) (y := y_2) (show (119 : Int32).toInt = 119 by decide) rfl c26
            obtain ⟨y_4, ey_4⟩ : ∃ zz : Int32, zz = q + 1 := ⟨_, rfl⟩
            have jy_4 := ci_add (x := q) rfl (show (1 : Int32).toInt = 1 by decide) ey_4
            refine lv_iinc (v := y_4) (lv' := [(3, .int y_4), (4, .int i), (0, .int x), (1, .int y), (2, .int z)]) hx hb dX1_duesThatCome_29 hl (k := 1) rfl (by rw [ey_4]; rfl) (by decide) rfl (fun ls hl => ?_)
            obtain ⟨y_5, ey_5⟩ : ∃ zz : Int32, zz = i + 1 := ⟨_, rfl⟩
            have jy_5 := ci_add (x := i) rfl (show (1 : Int32).toInt = 1 by decide) ey_5
            refine lv_iinc (v := y_5) (lv' := [(4, .int y_5), (3, .int y_4), (0, .int x), (1, .int y), (2, .int z)]) hx hb dX1_duesThatCome_32 hl (k := 1) rfl (by rw [ey_5]; rfl) (by decide) rfl (fun ls hl => ?_)
            refine lv_goto (tgt := 5) hx hb dX1_duesThatCome_35 (by decide) ?_
            exact ih y_4 y_5 _ _ _ ⟨by omega, by omega, by omega, by omega⟩ (by omega) St (lv_sub hl [0, 1, 2, 3, 4] rfl)
  exact lp5 85 0 0 _ _ _ ⟨by decide, by decide, by decide, by decide⟩ (by decide) St (lv_sub hl [0, 1, 2, 3, 4] rfl)
set_option maxHeartbeats 4000000 in
set_option maxRecDepth 100000 in
/-- Pledge(..) -/
theorem c1_init (l : Launch) (G : va_G) (k : Nat → Nat) (sz : Nat) (h : Nat) (g : Int32) (x : Int32) (fs : Int32) (ev : Int32) (nd : Int32) : Met l yX1_init (Cond.code yX1_init cX1_init 7 none :: tb) ({ frames := 1, cells := 3, slots := 252, locals := 24 } : Room) (va_Pc [.ref h, .int g, .int x, .int fs, .int ev, .int nd] (cP G k [(h, .inr (1, [.int 0, .int 0, .int 0, .int 0, .null, .null, .null, .int 0, .int 0, .int 0, .int 0, .int 0]))] [] sz)) (va_Qv (fun (u : Int32 × Nat × Nat × Nat) => match u with | (sz0, o, fi, sd) => True) (cB G (fun u => match u with | (sz0, o, fi, sd) => [(h, .inr (1, [.int g, .int fs, .int ev, .int sz0, .ref o, .ref fi, .ref sd, .int x, .int 0, .int 0, .int 0, .int (-1)]))]) (fun u => match u with | (sz0, o, fi, sd) => []) (va_A [(h, .inr (1, [.int 0, .int 0, .int 0, .int 0, .null, .null, .null, .int 0, .int 0, .int 0, .int 0, .int 0]))] sz)) (va_A [(h, .inr (1, [.int 0, .int 0, .int 0, .int 0, .null, .null, .null, .int 0, .int 0, .int 0, .int 0, .int 0]))] sz)) 3 252 (va_A [(h, .inr (1, [.int 0, .int 0, .int 0, .int 0, .null, .null, .null, .int 0, .int 0, .int 0, .int 0, .int 0]))] sz) := by
  refine ofC_v (cc := cX1_init) (maxL := 7) (ret := none) (by decide) rfl (Nat.le_of_ble_eq_true rfl) ?_
  intro p e s m args below meth c A ls Q F hr hin hlk St hl hQ
  have hx := F.1
  have hb := F.2.1
  have hl : lv_has ls 7 [(0, .ref h), (1, .int g), (2, .int x), (3, .int fs), (4, .int ev), (5, .int nd)] := hl
  have St : cS G k [(h, .inr (1, [.int 0, .int 0, .int 0, .int 0, .null, .null, .null, .int 0, .int 0, .int 0, .int 0, .int 0]))] [] A s s.heap [] := St
  refine lv_aload_n hx hb dX1_init_0 rfl (lv_at hl 0 rfl) ?_
  refine W.objInit hx hb F.2.2.2.1 (F.2.2.2.2 _ km_X1_3) (F.2.2.2.2 _ kj_objectInit) (F.2.2.2.2 _ kd_objectInit) rfl (by rw [F.2.2.1]; exact hl.1) rfl dX1_init_1 (Nat.le_of_ble_eq_true rfl) (Nat.le_of_ble_eq_true rfl) ?_
  refine W.eq (g2 := F0 m 4 ls []) rfl ?_
  refine lv_aload_n hx hb dX1_init_4 rfl (lv_at hl 0 rfl) ?_
  refine lv_iconst (v := (-1)) hx hb dX1_init_5 (by decide) ?_
  refine cs_put F St 0 rfl rfl inX1 tyX1_ok nmX1 11 (by decide) kf_X1_9 rfl rfl rfl (Nat.le_of_ble_eq_true rfl) (w' := [(h, .inr (1, [.int 0, .int 0, .int 0, .int 0, .null, .null, .null, .int 0, .int 0, .int 0, .int 0, .int (-1)]))]) rfl dX1_init_6 (fun H locs St => ?_)
  refine lv_aload_n hx hb dX1_init_9 rfl (lv_at hl 0 rfl) ?_
  refine lv_iload_n hx hb dX1_init_10 rfl (lv_at hl 1 rfl) ?_
  refine cs_putF F hin St 0 rfl rfl inX1 tyX1_ok nmX1 0 (by decide) kf_X1_15 rfl rfl rfl rfl (Nat.le_of_ble_eq_true rfl) (w' := [(h, .inr (1, [.int g, .int 0, .int 0, .int 0, .null, .null, .null, .int 0, .int 0, .int 0, .int 0, .int (-1)]))]) rfl dX1_init_11 (fun H locs St => ?_)
  refine lv_aload_n hx hb dX1_init_14 rfl (lv_at hl 0 rfl) ?_
  refine lv_iload_n hx hb dX1_init_15 rfl (lv_at hl 3 rfl) ?_
  refine cs_putF F hin St 0 rfl rfl inX1 tyX1_ok nmX1 1 (by decide) kf_X1_18 rfl rfl rfl rfl (Nat.le_of_ble_eq_true rfl) (w' := [(h, .inr (1, [.int g, .int fs, .int 0, .int 0, .null, .null, .null, .int 0, .int 0, .int 0, .int 0, .int (-1)]))]) rfl dX1_init_16 (fun H locs St => ?_)
  refine lv_aload_n hx hb dX1_init_19 rfl (lv_at hl 0 rfl) ?_
  refine lv_iload hx hb dX1_init_20 (lv_at hl 4 rfl) ?_
  refine cs_putF F hin St 0 rfl rfl inX1 tyX1_ok nmX1 2 (by decide) kf_X1_21 rfl rfl rfl rfl (Nat.le_of_ble_eq_true rfl) (w' := [(h, .inr (1, [.int g, .int fs, .int ev, .int 0, .null, .null, .null, .int 0, .int 0, .int 0, .int 0, .int (-1)]))]) rfl dX1_init_22 (fun H locs St => ?_)
  refine lv_aload_n hx hb dX1_init_25 rfl (lv_at hl 0 rfl) ?_
  refine lv_iload_n hx hb dX1_init_26 rfl (lv_at hl 3 rfl) ?_
  refine lv_iload hx hb dX1_init_27 (lv_at hl 4 rfl) ?_
  refine lv_iload hx hb dX1_init_29 (lv_at hl 5 rfl) ?_
  refine cs_i St [] [0] (wc := []) (wr := [(h, .inr (1, [.int g, .int fs, .int ev, .int 0, .null, .null, .null, .int 0, .int 0, .int 0, .int 0, .int (-1)]))]) rfl rfl (by decide) (by decide) (va_runS (As := [.int fs, .int ev, .int nd]) (rest := [.ref h]) F (c1_dues l G k _ fs ev nd) (cwSt F mf_X1_duesThatCome km_X1_24 rfl rfl ⟨Nat.le_of_ble_eq_true rfl, Nat.le_of_ble_eq_true rfl⟩) (cs_pre St [] rfl (by decide) [] rfl) rfl rfl hl.1 rfl (lv_room (Nat.le_of_ble_eq_true rfl)) dX1_init_31 ⟨Nat.le_of_ble_eq_true rfl, Nat.le_of_ble_eq_true rfl⟩) (fun r_1 u_2 H locs hw St => ?_)
  try dsimp only at hw
  have hf_3 := hw
  have St : cS G k [(h, .inr (1, [.int g, .int fs, .int ev, .int 0, .null, .null, .null, .int 0, .int 0, .int 0, .int 0, .int (-1)]))] [] A s H locs := St
  refine cs_putF F hin St 0 rfl rfl inX1 tyX1_ok nmX1 3 (by decide) kf_X1_28 rfl rfl rfl rfl (Nat.le_of_ble_eq_true rfl) (w' := [(h, .inr (1, [.int g, .int fs, .int ev, .int r_1, .null, .null, .null, .int 0, .int 0, .int 0, .int 0, .int (-1)]))]) rfl dX1_init_34 (fun H locs St => ?_)
  refine lv_aload_n hx hb dX1_init_37 rfl (lv_at hl 0 rfl) ?_
  refine lv_aload_n hx hb dX1_init_38 rfl (lv_at hl 0 rfl) ?_
  refine cs_get F St 0 rfl rfl inX1 3 (by decide) kf_X1_28 rfl dX1_init_39 ?_
  obtain ⟨N0, hN0, hN1, hneg⟩ := nc_ex (x := r_1) (by omega)
  refine cs_newa F St (atype := .int) ka_int rfl (N' := N0) (a0 := (N0, .inl (fun _ => 0))) (fun _ => rfl) hneg hN0 (by show N0 * 4 ≤ 536870912; omega) (Nat.le_of_ble_eq_true rfl) (show 0 + N0 ≤ 252 by omega) dX1_init_42 (fun q_4 d_5 H St => ?_)
  refine W.widen (k := 1) (n := 84) (by decide) (by omega) ?_
  have St : cS G k [(h, .inr (1, [.int g, .int fs, .int ev, .int r_1, .null, .null, .null, .int 0, .int 0, .int 0, .int 0, .int (-1)])), (q_4, .inl (d_5, N0, .inl (fun _ => 0)))] [(d_5, .int)] A s H _ := St
  refine cs_putF F hin St 0 rfl rfl inX1 tyX1_ok nmX1 4 (by decide) kf_X1_31 rfl rfl rfl rfl (Nat.le_of_ble_eq_true rfl) (w' := [(h, .inr (1, [.int g, .int fs, .int ev, .int r_1, .ref q_4, .null, .null, .int 0, .int 0, .int 0, .int 0, .int (-1)])), (q_4, .inl (d_5, N0, .inl (fun _ => 0)))]) rfl dX1_init_44 (fun H locs St => ?_)
  refine lv_aload_n hx hb dX1_init_47 rfl (lv_at hl 0 rfl) ?_
  refine lv_aload_n hx hb dX1_init_48 rfl (lv_at hl 0 rfl) ?_
  refine cs_get F St 0 rfl rfl inX1 3 (by decide) kf_X1_28 rfl dX1_init_49 ?_
  refine cs_newa F St (atype := .int) ka_int rfl (N' := N0) (a0 := (N0, .inl (fun _ => 0))) (fun _ => rfl) hneg hN0 (by show N0 * 4 ≤ 536870912; omega) (Nat.le_of_ble_eq_true rfl) (show 84 + N0 ≤ 252 by omega) dX1_init_52 (fun q_6 d_7 H St => ?_)
  refine W.widen (k := 2) (n := 168) (by decide) (by omega) ?_
  have St : cS G k [(h, .inr (1, [.int g, .int fs, .int ev, .int r_1, .ref q_4, .null, .null, .int 0, .int 0, .int 0, .int 0, .int (-1)])), (q_4, .inl (d_5, N0, .inl (fun _ => 0))), (q_6, .inl (d_7, N0, .inl (fun _ => 0)))] [(d_5, .int), (d_7, .int)] A s H _ := St
  refine cs_putF F hin St 0 rfl rfl inX1 tyX1_ok nmX1 5 (by decide) kf_X1_35 rfl rfl rfl rfl (Nat.le_of_ble_eq_true rfl) (w' := [(h, .inr (1, [.int g, .int fs, .int ev, .int r_1, .ref q_4, .ref q_6, .null, .int 0, .int 0, .int 0, .int 0, .int (-1)])), (q_4, .inl (d_5, N0, .inl (fun _ => 0))), (q_6, .inl (d_7, N0, .inl (fun _ => 0)))]) rfl dX1_init_54 (fun H locs St => ?_)
  refine lv_aload_n hx hb dX1_init_57 rfl (lv_at hl 0 rfl) ?_
  refine lv_aload_n hx hb dX1_init_58 rfl (lv_at hl 0 rfl) ?_
  refine cs_get F St 0 rfl rfl inX1 3 (by decide) kf_X1_28 rfl dX1_init_59 ?_
  refine cs_newa F St (atype := .int) ka_int rfl (N' := N0) (a0 := (N0, .inl (fun _ => 0))) (fun _ => rfl) hneg hN0 (by show N0 * 4 ≤ 536870912; omega) (Nat.le_of_ble_eq_true rfl) (show 168 + N0 ≤ 252 by omega) dX1_init_62 (fun q_8 d_9 H St => ?_)
  refine W.widen (k := 3) (n := 252) (by decide) (by omega) ?_
  have St : cS G k [(h, .inr (1, [.int g, .int fs, .int ev, .int r_1, .ref q_4, .ref q_6, .null, .int 0, .int 0, .int 0, .int 0, .int (-1)])), (q_4, .inl (d_5, N0, .inl (fun _ => 0))), (q_6, .inl (d_7, N0, .inl (fun _ => 0))), (q_8, .inl (d_9, N0, .inl (fun _ => 0)))] [(d_5, .int), (d_7, .int), (d_9, .int)] A s H _ := St
  refine cs_putF F hin St 0 rfl rfl inX1 tyX1_ok nmX1 6 (by decide) kf_X1_38 rfl rfl rfl rfl (Nat.le_of_ble_eq_true rfl) (w' := [(h, .inr (1, [.int g, .int fs, .int ev, .int r_1, .ref q_4, .ref q_6, .ref q_8, .int 0, .int 0, .int 0, .int 0, .int (-1)])), (q_4, .inl (d_5, N0, .inl (fun _ => 0))), (q_6, .inl (d_7, N0, .inl (fun _ => 0))), (q_8, .inl (d_9, N0, .inl (fun _ => 0)))]) rfl dX1_init_64 (fun H locs St => ?_)
  refine lv_aload_n hx hb dX1_init_67 rfl (lv_at hl 0 rfl) ?_
  refine lv_iload_n hx hb dX1_init_68 rfl (lv_at hl 2 rfl) ?_
  refine cs_put F St 0 rfl rfl inX1 tyX1_ok nmX1 7 (by decide) kf_X1_41 rfl rfl rfl (Nat.le_of_ble_eq_true rfl) (w' := [(h, .inr (1, [.int g, .int fs, .int ev, .int r_1, .ref q_4, .ref q_6, .ref q_8, .int x, .int 0, .int 0, .int 0, .int (-1)])), (q_4, .inl (d_5, N0, .inl (fun _ => 0))), (q_6, .inl (d_7, N0, .inl (fun _ => 0))), (q_8, .inl (d_9, N0, .inl (fun _ => 0)))]) rfl dX1_init_69 (fun H locs St => ?_)
  refine lv_iconst (v := 0) hx hb dX1_init_72 (by decide) ?_
  refine lv_istore (lv' := [(6, .int 0), (0, .ref h), (1, .int g), (2, .int x), (3, .int fs), (4, .int ev), (5, .int nd)]) hx hb dX1_init_73 hl (by decide) rfl (fun ls hl => ?_)
  have lp75 : ∀ (n : Nat) (i : Int32) (fo : Nat → Int32) (H : Heap) (locs : List Loc) (ls : Array Slot), (0 ≤ i.toInt ∧ i.toInt ≤ N0) → ((85 - i.toInt).toNat) < n → cS G k [(h, .inr (1, [.int g, .int fs, .int ev, .int r_1, .ref q_4, .ref q_6, .ref q_8, .int x, .int 0, .int 0, .int 0, .int (-1)])), (q_4, .inl (d_5, N0, .inl fo)), (q_6, .inl (d_7, N0, .inl (fun _ => 0))), (q_8, .inl (d_9, N0, .inl (fun _ => 0)))] [(d_5, .int), (d_7, .int), (d_9, .int)] A s H locs → lv_has ls 7 [(6, .int i), (0, .ref h), (1, .int g), (2, .int x), (3, .int fs), (4, .int ev), (5, .int nd)] → W p l e ({ frames := 1, cells := 3, slots := 252, locals := 24 } : Room) s m args below meth c H locs 3 252 Q (F0 m 75 ls []) := by
    intro n
    induction n with
    | zero => intro i fo H locs ls hI hn; exact absurd hn (Nat.not_lt_zero _)
    | succ n ih =>
      intro i fo H locs ls hI hn St hl
      obtain ⟨hI0, hI1⟩ := hI
      refine lv_iload hx hb dX1_init_75 (lv_at hl 0 rfl) ?_
      refine lv_aload_n hx hb dX1_init_77 rfl (lv_at hl 1 rfl) ?_
      refine cs_get F St 0 rfl rfl inX1 3 (by decide) kf_X1_28 rfl dX1_init_78 ?_
      refine lv_icmp_ge (tgt := 98) hx hb dX1_init_81 (by decide) (fun c81 => ?_) (fun c81 => ?_)
      ·
        have i81 := ci_le (x := r_1) (y := i) rfl rfl c81
        exact cs_vret F hr hlk hQ St (r_1, q_4, q_6, q_8) (by trivial) [0] rfl (by decide) [] rfl (by decide) (by decide) dX1_init_98
      ·
        have i81 := ci_nle (x := r_1) (y := i) rfl rfl c81
        refine lv_aload_n hx hb dX1_init_84 rfl (lv_at hl 1 rfl) ?_
        refine cs_get F St 0 rfl rfl inX1 4 (by decide) kf_X1_31 rfl dX1_init_85 ?_
        refine lv_iload hx hb dX1_init_88 (lv_at hl 0 rfl) ?_
        refine lv_iload_n hx hb dX1_init_90 rfl (lv_at hl 3 rfl) ?_
        refine cs_ist F St 1 0 rfl rfl (vp_in_iff.mpr ⟨by omega, by omega⟩) (w' := [(h, .inr (1, [.int g, .int fs, .int ev, .int r_1, .ref q_4, .ref q_6, .ref q_8, .int x, .int 0, .int 0, .int 0, .int (-1)])), (q_4, .inl (d_5, N0, .inl (upd fo (i : Int32).toNatClampNeg x))), (q_6, .inl (d_7, N0, .inl (fun _ => 0))), (q_8, .inl (d_9, N0, .inl (fun _ => 0)))]) rfl dX1_init_91 (fun H locs St => ?_)
        obtain ⟨f_10, ef_10⟩ : ∃ zz : Nat → Int32, zz = upd fo (i : Int32).toNatClampNeg x := ⟨_, rfl⟩
        rw [← ef_10] at St
        obtain ⟨y_11, ey_11⟩ : ∃ zz : Int32, zz = i + 1 := ⟨_, rfl⟩
        have jy_11 := ci_add (x := i) rfl (show (1 : Int32).toInt = 1 by decide) ey_11
        refine lv_iinc (v := y_11) (lv' := [(6, .int y_11), (0, .ref h), (1, .int g), (2, .int x), (3, .int fs), (4, .int ev), (5, .int nd)]) hx hb dX1_init_92 hl (k := 0) rfl (by rw [ey_11]; rfl) (by decide) rfl (fun ls hl => ?_)
        refine lv_goto (tgt := 75) hx hb dX1_init_95 (by decide) ?_
        exact ih y_11 f_10 _ _ _ ⟨by omega, by omega⟩ (by omega) St (lv_sub hl [0, 1, 2, 3, 4, 5, 6] rfl)
  exact lp75 86 0 (fun _ => 0) _ _ _ ⟨by decide, by rw [show (0 : Int32).toInt = 0 from by decide]; omega⟩ (by decide) St (lv_sub hl [0, 1, 2, 3, 4, 5, 6] rfl)
set_option maxHeartbeats 4000000 in
set_option maxRecDepth 100000 in
theorem c2_add (l : Launch) (G : va_G) (k : Nat → Nat) (sz : Nat) (h : Nat) (b : Nat) (ce : ClassId) (v : Nat) (o : Nat) (fi : Nat) (sd : Nat) (a1 : Int32) (a2 : Int32) (a3 : Int32) (a4 : Int32) (a5 : Int32) : Met l yX2_add (Cond.code yX2_add cX2_add 2 (some .int) :: tb) ({ frames := 0, cells := 0, slots := 0, locals := 0 } : Room) (va_Pc [.ref h, .ref v] (cP G k [(h, .inr (2, [.ref b, .int 0])), (b, .inl (ce, 60, .inr (.inr (.inr (.inr (fun _ => none)))))), (v, .inr (1, [.int a1, .int a2, .int a3, .int a4, .ref o, .ref fi, .ref sd, .int a5, .int 0, .int 0, .int 0, .int (-1)]))] [(ce, .object "TowerAppeal$Pledge")] sz)) (va_Qi (fun (r : Int32) (_ : Unit) => (r = 0)) (cB G (fun (_ : Unit) => []) (fun (_ : Unit) => []) (va_A [(h, .inr (2, [.ref b, .int 0])), (b, .inl (ce, 60, .inr (.inr (.inr (.inr (fun _ => none)))))), (v, .inr (1, [.int a1, .int a2, .int a3, .int a4, .ref o, .ref fi, .ref sd, .int a5, .int 0, .int 0, .int 0, .int (-1)]))] sz)) (va_A [(h, .inr (2, [.ref b, .int 0])), (b, .inl (ce, 60, .inr (.inr (.inr (.inr (fun _ => none)))))), (v, .inr (1, [.int a1, .int a2, .int a3, .int a4, .ref o, .ref fi, .ref sd, .int a5, .int 0, .int 0, .int 0, .int (-1)]))] sz)) 0 0 (va_A [(h, .inr (2, [.ref b, .int 0])), (b, .inl (ce, 60, .inr (.inr (.inr (.inr (fun _ => none)))))), (v, .inr (1, [.int a1, .int a2, .int a3, .int a4, .ref o, .ref fi, .ref sd, .int a5, .int 0, .int 0, .int 0, .int (-1)]))] sz) := by
  refine ofC_i (cc := cX2_add) (maxL := 2) (ret := (some .int)) (by decide) rfl (Nat.le_of_ble_eq_true rfl) ?_
  intro p e s m args below meth c A ls Q F hr hin hlk St hl hQ
  have hx := F.1
  have hb := F.2.1
  have hl : lv_has ls 2 [(0, .ref h), (1, .ref v)] := hl
  have St : cS G k [(h, .inr (2, [.ref b, .int 0])), (b, .inl (ce, 60, .inr (.inr (.inr (.inr (fun _ => none)))))), (v, .inr (1, [.int a1, .int a2, .int a3, .int a4, .ref o, .ref fi, .ref sd, .int a5, .int 0, .int 0, .int 0, .int (-1)]))] [(ce, .object "TowerAppeal$Pledge")] A s s.heap [] := St
  refine lv_aload_n hx hb dX2_add_0 rfl (lv_at hl 0 rfl) ?_
  refine cs_get F St 0 rfl rfl inX2 1 (by decide) kf_X2_17 rfl dX2_add_1 ?_
  refine lv_if_lt (tgt := 16) hx hb dX2_add_4 (by decide) (fun c4 => ?_) (fun c4 => ?_)
  · exact absurd c4 (by decide)
  refine lv_aload_n hx hb dX2_add_7 rfl (lv_at hl 0 rfl) ?_
  refine cs_get F St 0 rfl rfl inX2 1 (by decide) kf_X2_17 rfl dX2_add_8 ?_
  refine lv_bipush (v := 60) hx hb dX2_add_11 (by decide) ?_
  refine lv_icmp_lt (tgt := 19) hx hb dX2_add_13 (by decide) (fun c13 => ?_) (fun c13 => ?_)
  rotate_left
  · exact absurd (by decide) c13
  refine lv_aload_n hx hb dX2_add_19 rfl (lv_at hl 0 rfl) ?_
  refine cs_get F St 0 rfl rfl inX2 0 (by decide) kf_X2_11 rfl dX2_add_20 ?_
  refine lv_aload_n hx hb dX2_add_23 rfl (lv_at hl 0 rfl) ?_
  refine cs_get F St 0 rfl rfl inX2 1 (by decide) kf_X2_17 rfl dX2_add_24 ?_
  refine lv_aload_n hx hb dX2_add_27 rfl (lv_at hl 1 rfl) ?_
  refine cs_astq F St 1 0 2 1 rfl rfl rfl rfl (vp_in_iff.mpr (by decide)) (w' := [(h, .inr (2, [.ref b, .int 0])), (b, .inl (ce, 60, .inr (.inr (.inr (.inr (va_up (fun _ => none) (0 : Int32).toNatClampNeg (some v))))))), (v, .inr (1, [.int a1, .int a2, .int a3, .int a4, .ref o, .ref fi, .ref sd, .int a5, .int 0, .int 0, .int 0, .int (-1)]))]) rfl dX2_add_28 (fun H locs St => ?_)
  refine lv_aload_n hx hb dX2_add_29 rfl (lv_at hl 0 rfl) ?_
  refine lv_dup hx hb dX2_add_30 rfl ?_
  refine cs_get F St 0 rfl rfl inX2 1 (by decide) kf_X2_17 rfl dX2_add_31 ?_
  refine lv_iconst (v := 1) hx hb dX2_add_34 (by decide) ?_
  refine lv_iadd hx hb dX2_add_35 ?_
  refine top_i (y := 1) (by decide) ?_
  refine cs_put F St 0 rfl rfl inX2 tyX2_ok nmX2 1 (by decide) kf_X2_17 rfl rfl rfl (Nat.le_of_ble_eq_true rfl) (w' := [(h, .inr (2, [.ref b, .int 1])), (b, .inl (ce, 60, .inr (.inr (.inr (.inr (va_up (fun _ => none) (0 : Int32).toNatClampNeg (some v))))))), (v, .inr (1, [.int a1, .int a2, .int a3, .int a4, .ref o, .ref fi, .ref sd, .int a5, .int 0, .int 0, .int 0, .int (-1)]))]) rfl dX2_add_36 (fun H locs St => ?_)
  refine lv_aload_n hx hb dX2_add_39 rfl (lv_at hl 0 rfl) ?_
  refine cs_get F St 0 rfl rfl inX2 1 (by decide) kf_X2_17 rfl dX2_add_40 ?_
  refine lv_iconst (v := 1) hx hb dX2_add_43 (by decide) ?_
  refine lv_isub hx hb dX2_add_44 ?_
  refine top_i (y := 0) (by decide) ?_
  exact cs_iret F hr hlk hQ St () (r := 0) rfl [] rfl (by decide) [] rfl (by decide) (by decide) dX2_add_45
