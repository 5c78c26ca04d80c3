set_option maxHeartbeats 4000000 in
set_option maxRecDepth 100000 in
/-- Tape() -/
theorem c6_init (l : Launch) (G : va_G) (k : Nat → Nat) (sz : Nat) (h : Nat) : Met l yX6_init (Cond.code yX6_init cX6_init 1 none :: tb) ({ frames := 1, cells := 1, slots := 400, locals := 20 } : Room) (va_Pc [.ref h] (cP G k [(h, .inr (6, [.null, .int 0]))] [] sz)) (va_Qv (fun (u : Nat × ClassId) => match u with | (b, cb) => True) (cB G (fun u => match u with | (b, cb) => [(h, .inr (6, [.ref b, .int 0])), (b, .inl (cb, 400, .inl (fun _ => 0)))]) (fun u => match u with | (b, cb) => [(cb, .byte)]) (va_A [(h, .inr (6, [.null, .int 0]))] sz)) (va_A [(h, .inr (6, [.null, .int 0]))] sz)) 1 400 (va_A [(h, .inr (6, [.null, .int 0]))] sz) := by
  refine ofC_v (cc := cX6_init) (maxL := 1) (ret := none) (by decide) rfl (Nat.le_of_ble_eq_true rfl) ?_
  intro p e s m args below meth c A ls Q F hr hin hlk St hl hQ
  have hx := F.1
  have hb := F.2.1
  have hl : lv_has ls 1 [(0, .ref h)] := hl
  have St : cS G k [(h, .inr (6, [.null, .int 0]))] [] A s s.heap [] := St
  refine lv_aload_n hx hb dX6_init_0 rfl (lv_at hl 0 rfl) ?_
  refine W.objInit hx hb F.2.2.2.1 (F.2.2.2.2 _ km_X6_3) (F.2.2.2.2 _ kj_objectInit) (F.2.2.2.2 _ kd_objectInit) rfl (by rw [F.2.2.1]; exact hl.1) rfl dX6_init_1 (Nat.le_of_ble_eq_true rfl) (Nat.le_of_ble_eq_true rfl) ?_
  refine W.eq (g2 := F0 m 4 ls []) rfl ?_
  refine lv_aload_n hx hb dX6_init_4 rfl (lv_at hl 0 rfl) ?_
  refine lv_sipush (v := 400) hx hb dX6_init_5 (by decide) ?_
  refine cs_newa F St (atype := .byte) ka_byte rfl (N' := 400) (a0 := (400, .inl (fun _ => 0))) (fun _ => rfl) (by decide) (by decide) (by decide) (Nat.le_of_ble_eq_true rfl) (Nat.le_of_ble_eq_true rfl) dX6_init_8 (fun q_1 d_2 H St => ?_)
  refine W.widen (k := 1) (n := 400) (by decide) (by decide) ?_
  have St : cS G k [(h, .inr (6, [.null, .int 0])), (q_1, .inl (d_2, 400, .inl (fun _ => 0)))] [(d_2, .byte)] A s H _ := St
  refine cs_putF F hin St 0 rfl rfl inX6 tyX6_ok nmX6 0 (by decide) kf_X6_11 rfl rfl rfl rfl (Nat.le_of_ble_eq_true rfl) (w' := [(h, .inr (6, [.ref q_1, .int 0])), (q_1, .inl (d_2, 400, .inl (fun _ => 0)))]) rfl dX6_init_10 (fun H locs St => ?_)
  exact cs_vret F hr hlk hQ St (q_1, d_2) (by trivial) [0, 1] rfl (by decide) [0] rfl (by decide) (by decide) dX6_init_13
set_option maxHeartbeats 4000000 in
set_option maxRecDepth 100000 in
theorem c6_length (l : Launch) (G : va_G) (k : Nat → Nat) (sz : Nat) (h : Nat) (b : Nat) (n : Int32) : Met l yX6_length (Cond.code yX6_length cX6_length 1 (some .int) :: tb) ({ frames := 0, cells := 0, slots := 0, locals := 0 } : Room) (va_Pc [.ref h] (cP G k [(h, .inr (6, [.ref b, .int n]))] [] sz)) (va_Qi (fun (r : Int32) (_ : Unit) => (r = n)) (cB G (fun (_ : Unit) => [(h, .inr (6, [.ref b, .int n]))]) (fun (_ : Unit) => []) (va_A [(h, .inr (6, [.ref b, .int n]))] sz)) (va_A [(h, .inr (6, [.ref b, .int n]))] sz)) 0 0 (va_A [(h, .inr (6, [.ref b, .int n]))] sz) := by
  refine ofC_i (cc := cX6_length) (maxL := 1) (ret := (some .int)) (by decide) rfl (Nat.le_of_ble_eq_true rfl) ?_
  intro p e s m args below meth c A ls Q F hr hin hlk St hl hQ
  have hx := F.1
  have hb := F.2.1
  have hl : lv_has ls 1 [(0, .ref h)] := hl
  have St : cS G k [(h, .inr (6, [.ref b, .int n]))] [] A s s.heap [] := St
  refine lv_aload_n hx hb dX6_length_0 rfl (lv_at hl 0 rfl) ?_
  refine cs_get F St 0 rfl rfl inX6 1 (by decide) kf_X6_15 rfl dX6_length_1 ?_
  exact cs_iret F hr hlk hQ St () (r := n) rfl [0] rfl (by decide) [] rfl (by decide) (by decide) dX6_length_4
set_option maxHeartbeats 4000000 in
set_option maxRecDepth 100000 in
theorem c6_has (l : Launch) (G : va_G) (k : Nat → Nat) (sz : Nat) (h : Nat) (b : Nat) (n : Int32) : Met l yX6_hasRoomForTwenty (Cond.code yX6_hasRoomForTwenty cX6_hasRoomForTwenty 1 (some .boolean) :: tb) ({ frames := 0, cells := 0, slots := 0, locals := 0 } : Room) (va_Pc [.ref h] (cP G k [(h, .inr (6, [.ref b, .int n]))] [] sz)) (va_Qi (fun (r : Int32) (_ : Unit) => ((r = 1) ∧ (n.toInt ≤ 380)) ∨ ((r = 0) ∧ (¬ (n.toInt ≤ 380)))) (cB G (fun (_ : Unit) => [(h, .inr (6, [.ref b, .int n]))]) (fun (_ : Unit) => []) (va_A [(h, .inr (6, [.ref b, .int n]))] sz)) (va_A [(h, .inr (6, [.ref b, .int n]))] sz)) 0 0 (va_A [(h, .inr (6, [.ref b, .int n]))] sz) := by
  refine ofC_i (cc := cX6_hasRoomForTwenty) (maxL := 1) (ret := (some .boolean)) (by decide) rfl (Nat.le_of_ble_eq_true rfl) ?_
  intro p e s m args below meth c A ls Q F hr hin hlk St hl hQ
  have hx := F.1
  have hb := F.2.1
  have hl : lv_has ls 1 [(0, .ref h)] := hl
  have St : cS G k [(h, .inr (6, [.ref b, .int n]))] [] A s s.heap [] := St
  refine lv_aload_n hx hb dX6_hasRoomForTwenty_0 rfl (lv_at hl 0 rfl) ?_
  refine cs_get F St 0 rfl rfl inX6 1 (by decide) kf_X6_15 rfl dX6_hasRoomForTwenty_1 ?_
  refine lv_sipush (v := 380) hx hb dX6_hasRoomForTwenty_4 (by decide) ?_
  refine lv_icmp_gt (tgt := 14) hx hb dX6_hasRoomForTwenty_7 (by decide) (fun c7 => ?_) (fun c7 => ?_)
  ·
    have i7 := ci_lt (x := 380) (y := n) (show (380 : Int32).toInt = 380 by decide) rfl c7
    refine lv_iconst (v := 0) hx hb dX6_hasRoomForTwenty_14 (by decide) ?_
    exact cs_zret F hr hlk hQ St () (r := 0) rfl (Or.inr ⟨rfl, by omega⟩) [0] rfl (by decide) [] rfl (by decide) (by decide) dX6_hasRoomForTwenty_15
  ·
    have i7 := ci_nlt (x := 380) (y := n) (show (380 : Int32).toInt = 380 by decide) rfl c7
    refine lv_iconst (v := 1) hx hb dX6_hasRoomForTwenty_10 (by decide) ?_
    refine lv_goto (tgt := 15) hx hb dX6_hasRoomForTwenty_11 (by decide) ?_
    exact cs_zret F hr hlk hQ St () (r := 1) rfl (Or.inl ⟨rfl, by omega⟩) [0] rfl (by decide) [] rfl (by decide) (by decide) dX6_hasRoomForTwenty_15
set_option maxHeartbeats 4000000 in
set_option maxRecDepth 100000 in
/-- putFour: four bytes more -/
theorem c6_putFour (l : Launch) (G : va_G) (k : Nat → Nat) (sz : Nat) (h : Nat) (b : Nat) (cb : ClassId) (n : Int32) (x : Int32) (f : Nat → Int32) (h0 : 0 ≤ n.toInt) (h1 : n.toInt ≤ 396) : Met l yX6_putFour (Cond.code yX6_putFour cX6_putFour 3 none :: tb) ({ frames := 0, cells := 0, slots := 0, locals := 0 } : Room) (va_Pc [.ref h, .int x] (cP G k [(h, .inr (6, [.ref b, .int n])), (b, .inl (cb, 400, .inl f))] [(cb, .byte)] sz)) (va_Qv (fun (u : Int32 × (Nat → Int32)) => match u with | (n2, f2) => (n2 = n + 4)) (cB G (fun u => match u with | (n2, f2) => [(h, .inr (6, [.ref b, .int n2])), (b, .inl (cb, 400, .inl f2))]) (fun u => match u with | (n2, f2) => []) (va_A [(h, .inr (6, [.ref b, .int n])), (b, .inl (cb, 400, .inl f))] sz)) (va_A [(h, .inr (6, [.ref b, .int n])), (b, .inl (cb, 400, .inl f))] sz)) 0 0 (va_A [(h, .inr (6, [.ref b, .int n])), (b, .inl (cb, 400, .inl f))] sz) := by
  refine ofC_v (cc := cX6_putFour) (maxL := 3) (ret := none) (by decide) rfl (Nat.le_of_ble_eq_true rfl) ?_
  intro p e s m args below meth c A ls Q F hr hin hlk St hl hQ
  have hx := F.1
  have hb := F.2.1
  have hl : lv_has ls 3 [(0, .ref h), (1, .int x)] := hl
  have St : cS G k [(h, .inr (6, [.ref b, .int n])), (b, .inl (cb, 400, .inl f))] [(cb, .byte)] A s s.heap [] := St
  refine lv_bipush (v := 24) hx hb dX6_putFour_0 (by decide) ?_
  refine lv_istore_n (lv' := [(2, .int 24), (0, .ref h), (1, .int x)]) hx hb dX6_putFour_2 rfl hl (by decide) rfl (fun ls hl => ?_)
  refine lv_iload_n hx hb dX6_putFour_3 rfl (lv_at hl 0 rfl) ?_
  refine lv_if_lt (tgt := 53) hx hb dX6_putFour_4 (by decide) (fun c4 => ?_) (fun c4 => ?_)
  · exact absurd c4 (by decide)
  refine lv_aload_n hx hb dX6_putFour_7 rfl (lv_at hl 1 rfl) ?_
  refine cs_get F St 0 rfl rfl inX6 1 (by decide) kf_X6_15 rfl dX6_putFour_8 ?_
  refine lv_if_lt (tgt := 47) hx hb dX6_putFour_11 (by decide) (fun c11 => ?_) (fun c11 => ?_)
  · have i11 := ci_lt (x := n) (y := 0) rfl (show (0 : Int32).toInt = 0 by decide) c11; exact False.elim (by omega)
  have i11 := ci_nlt (x := n) (y := 0) rfl (show (0 : Int32).toInt = 0 by decide) c11
  refine lv_aload_n hx hb dX6_putFour_14 rfl (lv_at hl 1 rfl) ?_
  refine cs_get F St 0 rfl rfl inX6 1 (by decide) kf_X6_15 rfl dX6_putFour_15 ?_
  refine lv_sipush (v := 400) hx hb dX6_putFour_18 (by decide) ?_
  refine lv_icmp_ge (tgt := 47) hx hb dX6_putFour_21 (by decide) (fun c21 => ?_) (fun c21 => ?_)
  · have i21 := ci_le (x := 400) (y := n) (show (400 : Int32).toInt = 400 by decide) rfl c21; exact False.elim (by omega)
  have i21 := ci_nle (x := 400) (y := n) (show (400 : Int32).toInt = 400 by decide) rfl c21
  refine lv_aload_n hx hb dX6_putFour_24 rfl (lv_at hl 1 rfl) ?_
  refine cs_get F St 0 rfl rfl inX6 0 (by decide) kf_X6_11 rfl dX6_putFour_25 ?_
  refine lv_aload_n hx hb dX6_putFour_28 rfl (lv_at hl 1 rfl) ?_
  refine cs_get F St 0 rfl rfl inX6 1 (by decide) kf_X6_15 rfl dX6_putFour_29 ?_
  refine lv_iload_n hx hb dX6_putFour_32 rfl (lv_at hl 2 rfl) ?_
  refine lv_iload_n hx hb dX6_putFour_33 rfl (lv_at hl 0 rfl) ?_
  refine lv_iushr hx hb dX6_putFour_34 rfl ?_
  refine lv_topi (fun y_1 ey_1 => ?_)
  refine lv_i2b (v := y_1.toInt8.toInt32) hx hb dX6_putFour_35 rfl ?_
  refine cs_bst F St 1 0 rfl rfl (vp_in_iff.mpr ⟨by omega, by omega⟩) (w' := [(h, .inr (6, [.ref b, .int n])), (b, .inl (cb, 400, .inl (upd f (n : Int32).toNatClampNeg (vp_nar .byte y_1.toInt8.toInt32))))]) rfl dX6_putFour_36 (fun H locs St => ?_)
  obtain ⟨f_2, ef_2⟩ : ∃ zz : Nat → Int32, zz = upd f (n : Int32).toNatClampNeg (vp_nar .byte y_1.toInt8.toInt32) := ⟨_, rfl⟩
  rw [← ef_2] at St
  refine lv_aload_n hx hb dX6_putFour_37 rfl (lv_at hl 1 rfl) ?_
  refine lv_dup hx hb dX6_putFour_38 rfl ?_
  refine cs_get F St 0 rfl rfl inX6 1 (by decide) kf_X6_15 rfl dX6_putFour_39 ?_
  refine lv_iconst (v := 1) hx hb dX6_putFour_42 (by decide) ?_
  refine lv_iadd hx hb dX6_putFour_43 ?_
  refine lv_topi (fun y_3 ey_3 => ?_)
  have jy_3 := ci_add (x := n) (y := 1) rfl (show (1 : Int32).toInt = 1 by decide) ey_3
  refine cs_put F St 0 rfl rfl inX6 tyX6_ok nmX6 1 (by decide) kf_X6_15 rfl rfl rfl (Nat.le_of_ble_eq_true rfl) (w' := [(h, .inr (6, [.ref b, .int y_3])), (b, .inl (cb, 400, .inl f_2))]) rfl dX6_putFour_44 (fun H locs St => ?_)
  refine lv_iinc (v := 16) (lv' := [(2, .int 16), (0, .ref h), (1, .int x)]) hx hb dX6_putFour_47 hl (k := 0) rfl (by decide) (by decide) rfl (fun ls hl => ?_)
  refine lv_goto (tgt := 3) hx hb dX6_putFour_50 (by decide) ?_
  refine lv_iload_n hx hb dX6_putFour_3 rfl (lv_at hl 0 rfl) ?_
  refine lv_if_lt (tgt := 53) hx hb dX6_putFour_4 (by decide) (fun c4 => ?_) (fun c4 => ?_)
  · exact absurd c4 (by decide)
  refine lv_aload_n hx hb dX6_putFour_7 rfl (lv_at hl 1 rfl) ?_
  refine cs_get F St 0 rfl rfl inX6 1 (by decide) kf_X6_15 rfl dX6_putFour_8 ?_
  refine lv_if_lt (tgt := 47) hx hb dX6_putFour_11 (by decide) (fun c11 => ?_) (fun c11 => ?_)
  · have i11 := ci_lt (x := y_3) (y := 0) rfl (show (0 : Int32).toInt = 0 by decide) c11; exact False.elim (by omega)
  have i11 := ci_nlt (x := y_3) (y := 0) rfl (show (0 : Int32).toInt = 0 by decide) c11
  refine lv_aload_n hx hb dX6_putFour_14 rfl (lv_at hl 1 rfl) ?_
  refine cs_get F St 0 rfl rfl inX6 1 (by decide) kf_X6_15 rfl dX6_putFour_15 ?_
  refine lv_sipush (v := 400) hx hb dX6_putFour_18 (by decide) ?_
  refine lv_icmp_ge (tgt := 47) hx hb dX6_putFour_21 (by decide) (fun c21 => ?_) (fun c21 => ?_)
  · have i21 := ci_le (x := 400) (y := y_3) (show (400 : Int32).toInt = 400 by decide) rfl c21; exact False.elim (by omega)
  have i21 := ci_nle (x := 400) (y := y_3) (show (400 : Int32).toInt = 400 by decide) rfl c21
  refine lv_aload_n hx hb dX6_putFour_24 rfl (lv_at hl 1 rfl) ?_
  refine cs_get F St 0 rfl rfl inX6 0 (by decide) kf_X6_11 rfl dX6_putFour_25 ?_
  refine lv_aload_n hx hb dX6_putFour_28 rfl (lv_at hl 1 rfl) ?_
  refine cs_get F St 0 rfl rfl inX6 1 (by decide) kf_X6_15 rfl dX6_putFour_29 ?_
  refine lv_iload_n hx hb dX6_putFour_32 rfl (lv_at hl 2 rfl) ?_
  refine lv_iload_n hx hb dX6_putFour_33 rfl (lv_at hl 0 rfl) ?_
  refine lv_iushr hx hb dX6_putFour_34 rfl ?_
  refine lv_topi (fun y_4 ey_4 => ?_)
  refine lv_i2b (v := y_4.toInt8.toInt32) hx hb dX6_putFour_35 rfl ?_
  refine cs_bst F St 1 0 rfl rfl (vp_in_iff.mpr ⟨by omega, by omega⟩) (w' := [(h, .inr (6, [.ref b, .int y_3])), (b, .inl (cb, 400, .inl (upd f_2 (y_3 : Int32).toNatClampNeg (vp_nar .byte y_4.toInt8.toInt32))))]) rfl dX6_putFour_36 (fun H locs St => ?_)
  obtain ⟨f_5, ef_5⟩ : ∃ zz : Nat → Int32, zz = upd f_2 (y_3 : Int32).toNatClampNeg (vp_nar .byte y_4.toInt8.toInt32) := ⟨_, rfl⟩
  rw [← ef_5] at St
  refine lv_aload_n hx hb dX6_putFour_37 rfl (lv_at hl 1 rfl) ?_
  refine lv_dup hx hb dX6_putFour_38 rfl ?_
  refine cs_get F St 0 rfl rfl inX6 1 (by decide) kf_X6_15 rfl dX6_putFour_39 ?_
  refine lv_iconst (v := 1) hx hb dX6_putFour_42 (by decide) ?_
  refine lv_iadd hx hb dX6_putFour_43 ?_
  refine lv_topi (fun y_6 ey_6 => ?_)
  have jy_6 := ci_add (x := y_3) (y := 1) rfl (show (1 : Int32).toInt = 1 by decide) ey_6
  refine cs_put F St 0 rfl rfl inX6 tyX6_ok nmX6 1 (by decide) kf_X6_15 rfl rfl rfl (Nat.le_of_ble_eq_true rfl) (w' := [(h, .inr (6, [.ref b, .int y_6])), (b, .inl (cb, 400, .inl f_5))]) rfl dX6_putFour_44 (fun H locs St => ?_)
  refine lv_iinc (v := 8) (lv' := [(2, .int 8), (0, .ref h), (1, .int x)]) hx hb dX6_putFour_47 hl (k := 0) rfl (by decide) (by decide) rfl (fun ls hl => ?_)
  refine lv_goto (tgt := 3) hx hb dX6_putFour_50 (by decide) ?_
  refine lv_iload_n hx hb dX6_putFour_3 rfl (lv_at hl 0 rfl) ?_
  refine lv_if_lt (tgt := 53) hx hb dX6_putFour_4 (by decide) (fun c4 => ?_) (fun c4 => ?_)
  · exact absurd c4 (by decide)
  refine lv_aload_n hx hb dX6_putFour_7 rfl (lv_at hl 1 rfl) ?_
  refine cs_get F St 0 rfl rfl inX6 1 (by decide) kf_X6_15 rfl dX6_putFour_8 ?_
  refine lv_if_lt (tgt := 47) hx hb dX6_putFour_11 (by decide) (fun c11 => ?_) (fun c11 => ?_)
  · have i11 := ci_lt (x := y_6) (y := 0) rfl (show (0 : Int32).toInt = 0 by decide) c11; exact False.elim (by omega)
  have i11 := ci_nlt (x := y_6) (y := 0) rfl (show (0 : Int32).toInt = 0 by decide) c11
  refine lv_aload_n hx hb dX6_putFour_14 rfl (lv_at hl 1 rfl) ?_
  refine cs_get F St 0 rfl rfl inX6 1 (by decide) kf_X6_15 rfl dX6_putFour_15 ?_
  refine lv_sipush (v := 400) hx hb dX6_putFour_18 (by decide) ?_
  refine lv_icmp_ge (tgt := 47) hx hb dX6_putFour_21 (by decide) (fun c21 => ?_) (fun c21 => ?_)
  · have i21 := ci_le (x := 400) (y := y_6) (show (400 : Int32).toInt = 400 by decide) rfl c21; exact False.elim (by omega)
  have i21 := ci_nle (x := 400) (y := y_6) (show (400 : Int32).toInt = 400 by decide) rfl c21
  refine lv_aload_n hx hb dX6_putFour_24 rfl (lv_at hl 1 rfl) ?_
  refine cs_get F St 0 rfl rfl inX6 0 (by decide) kf_X6_11 rfl dX6_putFour_25 ?_
  refine lv_aload_n hx hb dX6_putFour_28 rfl (lv_at hl 1 rfl) ?_
  refine cs_get F St 0 rfl rfl inX6 1 (by decide) kf_X6_15 rfl dX6_putFour_29 ?_
  refine lv_iload_n hx hb dX6_putFour_32 rfl (lv_at hl 2 rfl) ?_
  refine lv_iload_n hx hb dX6_putFour_33 rfl (lv_at hl 0 rfl) ?_
  refine lv_iushr hx hb dX6_putFour_34 rfl ?_
  refine lv_topi (fun y_7 ey_7 => ?_)
  refine lv_i2b (v := y_7.toInt8.toInt32) hx hb dX6_putFour_35 rfl ?_
  refine cs_bst F St 1 0 rfl rfl (vp_in_iff.mpr ⟨by omega, by omega⟩) (w' := [(h, .inr (6, [.ref b, .int y_6])), (b, .inl (cb, 400, .inl (upd f_5 (y_6 : Int32).toNatClampNeg (vp_nar .byte y_7.toInt8.toInt32))))]) rfl dX6_putFour_36 (fun H locs St => ?_)
  obtain ⟨f_8, ef_8⟩ : ∃ zz : Nat → Int32, zz = upd f_5 (y_6 : Int32).toNatClampNeg (vp_nar .byte y_7.toInt8.toInt32) := ⟨_, rfl⟩
  rw [← ef_8] at St
  refine lv_aload_n hx hb dX6_putFour_37 rfl (lv_at hl 1 rfl) ?_
  refine lv_dup hx hb dX6_putFour_38 rfl ?_
  refine cs_get F St 0 rfl rfl inX6 1 (by decide) kf_X6_15 rfl dX6_putFour_39 ?_
  refine lv_iconst (v := 1) hx hb dX6_putFour_42 (by decide) ?_
  refine lv_iadd hx hb dX6_putFour_43 ?_
  refine lv_topi (fun y_9 ey_9 => ?_)
  have jy_9 := ci_add (x := y_6) (y := 1) rfl (show (1 : Int32).toInt = 1 by decide) ey_9
  refine cs_put F St 0 rfl rfl inX6 tyX6_ok nmX6 1 (by decide) kf_X6_15 rfl rfl rfl (Nat.le_of_ble_eq_true rfl) (w' := [(h, .inr (6, [.ref b, .int y_9])), (b, .inl (cb, 400, .inl f_8))]) rfl dX6_putFour_44 (fun H locs St => ?_)
  refine lv_iinc (v := 0) (lv' := [(2, .int 0), (0, .ref h), (1, .int x)]) hx hb dX6_putFour_47 hl (k := 0) rfl (by decide) (by decide) rfl (fun ls hl => ?_)
  refine lv_goto (tgt := 3) hx hb dX6_putFour_50 (by decide) ?_
  refine lv_iload_n hx hb dX6_putFour_3 rfl (lv_at hl 0 rfl) ?_
  refine lv_if_lt (tgt := 53) hx hb dX6_putFour_4 (by decide) (fun c4 => ?_) (fun c4 => ?_)
  · exact absurd c4 (by decide)
  refine lv_aload_n hx hb dX6_putFour_7 rfl (lv_at hl 1 rfl) ?_
  refine cs_get F St 0 rfl rfl inX6 1 (by decide) kf_X6_15 rfl dX6_putFour_8 ?_
  refine lv_if_lt (tgt := 47) hx hb dX6_putFour_11 (by decide) (fun c11 => ?_) (fun c11 => ?_)
  · have i11 := ci_lt (x := y_9) (y := 0) rfl (show (0 : Int32).toInt = 0 by decide) c11; exact False.elim (by omega)
  have i11 := ci_nlt (x := y_9) (y := 0) rfl (show (0 : Int32).toInt = 0 by decide) c11
  refine lv_aload_n hx hb dX6_putFour_14 rfl (lv_at hl 1 rfl) ?_
  refine cs_get F St 0 rfl rfl inX6 1 (by decide) kf_X6_15 rfl dX6_putFour_15 ?_
  refine lv_sipush (v := 400) hx hb dX6_putFour_18 (by decide) ?_
  refine lv_icmp_ge (tgt := 47) hx hb dX6_putFour_21 (by decide) (fun c21 => ?_) (fun c21 => ?_)
  · have i21 := ci_le (x := 400) (y := y_9) (show (400 : Int32).toInt = 400 by decide) rfl c21; exact False.elim (by omega)
  have i21 := ci_nle (x := 400) (y := y_9) (show (400 : Int32).toInt = 400 by decide) rfl c21
  refine lv_aload_n hx hb dX6_putFour_24 rfl (lv_at hl 1 rfl) ?_
  refine cs_get F St 0 rfl rfl inX6 0 (by decide) kf_X6_11 rfl dX6_putFour_25 ?_
  refine lv_aload_n hx hb dX6_putFour_28 rfl (lv_at hl 1 rfl) ?_
  refine cs_get F St 0 rfl rfl inX6 1 (by decide) kf_X6_15 rfl dX6_putFour_29 ?_
  refine lv_iload_n hx hb dX6_putFour_32 rfl (lv_at hl 2 rfl) ?_
  refine lv_iload_n hx hb dX6_putFour_33 rfl (lv_at hl 0 rfl) ?_
  refine lv_iushr hx hb dX6_putFour_34 rfl ?_
  refine lv_topi (fun y_10 ey_10 => ?_)
  refine lv_i2b (v := y_10.toInt8.toInt32) hx hb dX6_putFour_35 rfl ?_
  refine cs_bst F St 1 0 rfl rfl (vp_in_iff.mpr ⟨by omega, by omega⟩) (w' := [(h, .inr (6, [.ref b, .int y_9])), (b, .inl (cb, 400, .inl (upd f_8 (y_9 : Int32).toNatClampNeg (vp_nar .byte y_10.toInt8.toInt32))))]) rfl dX6_putFour_36 (fun H locs St => ?_)
  obtain ⟨f_11, ef_11⟩ : ∃ zz : Nat → Int32, zz = upd f_8 (y_9 : Int32).toNatClampNeg (vp_nar .byte y_10.toInt8.toInt32) := ⟨_, rfl⟩
  rw [← ef_11] at St
  refine lv_aload_n hx hb dX6_putFour_37 rfl (lv_at hl 1 rfl) ?_
  refine lv_dup hx hb dX6_putFour_38 rfl ?_
  refine cs_get F St 0 rfl rfl inX6 1 (by decide) kf_X6_15 rfl dX6_putFour_39 ?_
  refine lv_iconst (v := 1) hx hb dX6_putFour_42 (by decide) ?_
  refine lv_iadd hx hb dX6_putFour_43 ?_
  refine lv_topi (fun y_12 ey_12 => ?_)
  have jy_12 := ci_add (x := y_9) (y := 1) rfl (show (1 : Int32).toInt = 1 by decide) ey_12
  refine cs_put F St 0 rfl rfl inX6 tyX6_ok nmX6 1 (by decide) kf_X6_15 rfl rfl rfl (Nat.le_of_ble_eq_true rfl) (w' := [(h, .inr (6, [.ref b, .int y_12])), (b, .inl (cb, 400, .inl f_11))]) rfl dX6_putFour_44 (fun H locs St => ?_)
  refine lv_iinc (v := (-8)) (lv' := [(2, .int (-8)), (0, .ref h), (1, .int x)]) hx hb dX6_putFour_47 hl (k := 0) rfl (by decide) (by decide) rfl (fun ls hl => ?_)
  refine lv_goto (tgt := 3) hx hb dX6_putFour_50 (by decide) ?_
  refine lv_iload_n hx hb dX6_putFour_3 rfl (lv_at hl 0 rfl) ?_
  refine lv_if_lt (tgt := 53) hx hb dX6_putFour_4 (by decide) (fun c4 => ?_) (fun c4 => ?_)
  rotate_left
  · exact absurd (by decide) c4
  exact cs_vret F hr hlk hQ St (y_12, f_11) (eq_add (show (4 : Int32).toInt = 4 by decide) (by omega)) [0, 1] rfl (by decide) [] rfl (by decide) (by decide) dX6_putFour_53
set_option maxHeartbeats 4000000 in
set_option maxRecDepth 100000 in
theorem c6_cutTo (l : Launch) (G : va_G) (k : Nat → Nat) (sz : Nat) (h : Nat) (b : Nat) (n : Int32) (x : Int32) : Met l yX6_cutTo (Cond.code yX6_cutTo cX6_cutTo 2 none :: tb) ({ frames := 0, cells := 0, slots := 0, locals := 0 } : Room) (va_Pc [.ref h, .int x] (cP G k [(h, .inr (6, [.ref b, .int n]))] [] sz)) (va_Qv (fun (_ : Unit) => True) (cB G (fun (_ : Unit) => [(h, .inr (6, [.ref b, .int x]))]) (fun (_ : Unit) => []) (va_A [(h, .inr (6, [.ref b, .int n]))] sz)) (va_A [(h, .inr (6, [.ref b, .int n]))] sz)) 0 0 (va_A [(h, .inr (6, [.ref b, .int n]))] sz) := by
  refine ofC_v (cc := cX6_cutTo) (maxL := 2) (ret := none) (by decide) rfl (Nat.le_of_ble_eq_true rfl) ?_
  intro p e s m args below meth c A ls Q F hr hin hlk St hl hQ
  have hx := F.1
  have hb := F.2.1
  have hl : lv_has ls 2 [(0, .ref h), (1, .int x)] := hl
  have St : cS G k [(h, .inr (6, [.ref b, .int n]))] [] A s s.heap [] := St
  refine lv_aload_n hx hb dX6_cutTo_0 rfl (lv_at hl 0 rfl) ?_
  refine lv_iload_n hx hb dX6_cutTo_1 rfl (lv_at hl 1 rfl) ?_
  refine cs_put F St 0 rfl rfl inX6 tyX6_ok nmX6 1 (by decide) kf_X6_15 rfl rfl rfl (Nat.le_of_ble_eq_true rfl) (w' := [(h, .inr (6, [.ref b, .int x]))]) rfl dX6_cutTo_2 (fun H locs St => ?_)
  exact cs_vret F hr hlk hQ St () (by trivial) [0] rfl (by decide) [] rfl (by decide) (by decide) dX6_cutTo_5
set_option maxHeartbeats 4000000 in
set_option maxRecDepth 100000 in
/-- at of an empty tape -/
theorem c6_at0 (l : Launch) (G : va_G) (k : Nat → Nat) (sz : Nat) (h : Nat) (b : Nat) (x : Int32) : Met l yX6_at (Cond.code yX6_at cX6_at 2 (some .int) :: tb) ({ frames := 0, cells := 0, slots := 0, locals := 0 } : Room) (va_Pc [.ref h, .int x] (cP G k [(h, .inr (6, [.ref b, .int 0]))] [] sz)) (va_Qi (fun (r : Int32) (_ : Unit) => (r = (-1))) (cB G (fun (_ : Unit) => [(h, .inr (6, [.ref b, .int 0]))]) (fun (_ : Unit) => []) (va_A [(h, .inr (6, [.ref b, .int 0]))] sz)) (va_A [(h, .inr (6, [.ref b, .int 0]))] sz)) 0 0 (va_A [(h, .inr (6, [.ref b, .int 0]))] sz) := by
  refine ofC_i (cc := cX6_at) (maxL := 2) (ret := (some .int)) (by decide) rfl (Nat.le_of_ble_eq_true rfl) ?_
  intro p e s m args below meth c A ls Q F hr hin hlk St hl hQ
  have hx := F.1
  have hb := F.2.1
  have hl : lv_has ls 2 [(0, .ref h), (1, .int x)] := hl
  have St : cS G k [(h, .inr (6, [.ref b, .int 0]))] [] A s s.heap [] := St
  refine lv_iload_n hx hb dX6_at_0 rfl (lv_at hl 1 rfl) ?_
  refine lv_if_lt (tgt := 32) hx hb dX6_at_1 (by decide) (fun c1 => ?_) (fun c1 => ?_)
  ·
    have i1 := ci_lt (x := x) (y := 0) rfl (show (0 : Int32).toInt = 0 by decide) c1
    refine lv_iconst (v := (-1)) hx hb dX6_at_32 (by decide) ?_
    exact cs_iret F hr hlk hQ St () (r := (-1)) rfl [0] rfl (by decide) [] rfl (by decide) (by decide) dX6_at_33
  ·
    have i1 := ci_nlt (x := x) (y := 0) rfl (show (0 : Int32).toInt = 0 by decide) c1
    refine lv_iload_n hx hb dX6_at_4 rfl (lv_at hl 1 rfl) ?_
    refine lv_aload_n hx hb dX6_at_5 rfl (lv_at hl 0 rfl) ?_
    refine cs_get F St 0 rfl rfl inX6 1 (by decide) kf_X6_15 rfl dX6_at_6 ?_
    refine lv_icmp_ge (tgt := 32) hx hb dX6_at_9 (by decide) (fun c9 => ?_) (fun c9 => ?_)
    rotate_left
    · have i9 := ci_nle (x := 0) (y := x) (show (0 : Int32).toInt = 0 by decide) rfl c9; exact False.elim (by omega)
    have i9 := ci_le (x := 0) (y := x) (show (0 : Int32).toInt = 0 by decide) rfl c9
    refine lv_iconst (v := (-1)) hx hb dX6_at_32 (by decide) ?_
    exact cs_iret F hr hlk hQ St () (r := (-1)) rfl [0] rfl (by decide) [] rfl (by decide) (by decide) dX6_at_33
