set_option maxHeartbeats 4000000 in
set_option maxRecDepth 100000 in
theorem x6_length (l : Launch) (G : va_G) (k : Nat → Nat) (sz : Nat) (h : Nat) (b : Nat) (nn : Int32) : Met l yX6_length (Cond.code yX6_length cX6_length 1 (some .int) :: tb) ({ frames := 0, cells := 0, slots := 0, locals := 0 } : Room) (va_Pc [.ref h] (cP G k [(h, .inr (6, [.ref b, .int nn]))] [] sz)) (va_Qi (fun (r : Int32) (_ : Unit) => (r = nn)) (cB G (fun (_ : Unit) => [(h, .inr (6, [.ref b, .int nn]))]) (fun (_ : Unit) => []) (va_A [(h, .inr (6, [.ref b, .int nn]))] sz)) (va_A [(h, .inr (6, [.ref b, .int nn]))] sz)) 0 0 (va_A [(h, .inr (6, [.ref b, .int nn]))] sz) := by
  refine ofC_i (cc := cX6_length) (maxL := 1) (ret := (some .int)) (by decide) rfl (Nat.le_of_ble_eq_true rfl) ?_
  intro p e s m args below meth c A ls Q F hr hin hlk St hl hQ
  have hx := F.1
  have hb := F.2.1
  have hl : lv_has ls 1 [(0, .ref h)] := hl
  have St : cS G k [(h, .inr (6, [.ref b, .int nn]))] [] A s s.heap [] := St
  refine lv_aload_n hx hb dX6_length_0 rfl (lv_at hl 0 rfl) ?_
  refine cs_get F St 0 rfl rfl inX6 1 (by decide) kf_X6_15 rfl dX6_length_1 ?_
  exact cs_iret F hr hlk hQ St () (r := nn) rfl [0] rfl (by decide) [] rfl (by decide) (by decide) dX6_length_4
set_option maxHeartbeats 4000000 in
set_option maxRecDepth 100000 in
theorem x6_has (l : Launch) (G : va_G) (k : Nat → Nat) (sz : Nat) (h : Nat) (b : Nat) (nn : Int32) : Met l yX6_hasRoomForTwenty (Cond.code yX6_hasRoomForTwenty cX6_hasRoomForTwenty 1 (some .boolean) :: tb) ({ frames := 0, cells := 0, slots := 0, locals := 0 } : Room) (va_Pc [.ref h] (cP G k [(h, .inr (6, [.ref b, .int nn]))] [] sz)) (va_Qi (fun (r : Int32) (_ : Unit) => ((r = 1) ∧ (nn.toInt ≤ 380)) ∨ ((r = 0) ∧ (¬ (nn.toInt ≤ 380)))) (cB G (fun (_ : Unit) => [(h, .inr (6, [.ref b, .int nn]))]) (fun (_ : Unit) => []) (va_A [(h, .inr (6, [.ref b, .int nn]))] sz)) (va_A [(h, .inr (6, [.ref b, .int nn]))] sz)) 0 0 (va_A [(h, .inr (6, [.ref b, .int nn]))] sz) := by
  refine ofC_i (cc := cX6_hasRoomForTwenty) (maxL := 1) (ret := (some .boolean)) (by decide) rfl (Nat.le_of_ble_eq_true rfl) ?_
  intro p e s m args below meth c A ls Q F hr hin hlk St hl hQ
  have hx := F.1
  have hb := F.2.1
  have hl : lv_has ls 1 [(0, .ref h)] := hl
  have St : cS G k [(h, .inr (6, [.ref b, .int nn]))] [] A s s.heap [] := St
  refine lv_aload_n hx hb dX6_hasRoomForTwenty_0 rfl (lv_at hl 0 rfl) ?_
  refine cs_get F St 0 rfl rfl inX6 1 (by decide) kf_X6_15 rfl dX6_hasRoomForTwenty_1 ?_
  refine lv_sipush (v := 380) hx hb dX6_hasRoomForTwenty_4 (by decide) ?_
  refine lv_icmp_gt (tgt := 14) hx hb dX6_hasRoomForTwenty_7 (by decide) (fun c7 => ?_) (fun c7 => ?_)
  ·
    have i7 := ci_lt (x := 380) (y := nn) (show (380 : Int32).toInt = 380 by decide) rfl c7
    refine lv_iconst (v := 0) hx hb dX6_hasRoomForTwenty_14 (by decide) ?_
    exact cs_zret F hr hlk hQ St () (r := 0) rfl (Or.inr ⟨rfl, by omega⟩) [0] rfl (by decide) [] rfl (by decide) (by decide) dX6_hasRoomForTwenty_15
  ·
    have i7 := ci_nlt (x := 380) (y := nn) (show (380 : Int32).toInt = 380 by decide) rfl c7
    refine lv_iconst (v := 1) hx hb dX6_hasRoomForTwenty_10 (by decide) ?_
    refine lv_goto (tgt := 15) hx hb dX6_hasRoomForTwenty_11 (by decide) ?_
    exact cs_zret F hr hlk hQ St () (r := 1) rfl (Or.inl ⟨rfl, by omega⟩) [0] rfl (by decide) [] rfl (by decide) (by decide) dX6_hasRoomForTwenty_15
set_option maxHeartbeats 4000000 in
set_option maxRecDepth 100000 in
theorem x6_putFour (l : Launch) (G : va_G) (k : Nat → Nat) (sz : Nat) (h : Nat) (b : Nat) (cb : ClassId) (nn : Int32) (f : Nat → Int32) (x : Int32) (h0 : 0 ≤ nn.toInt) (h1 : nn.toInt ≤ 396) : Met l yX6_putFour (Cond.code yX6_putFour cX6_putFour 3 none :: tb) ({ frames := 0, cells := 0, slots := 0, locals := 0 } : Room) (va_Pc [.ref h, .int x] (cP G k [(h, .inr (6, [.ref b, .int nn])), (b, .inl (cb, 400, .inl f))] [(cb, .byte)] sz)) (va_Qv (fun (u : Int32 × (Nat → Int32)) => match u with | (n2, f2) => (n2.toInt = nn.toInt + 4)) (cB G (fun u => match u with | (n2, f2) => [(h, .inr (6, [.ref b, .int n2])), (b, .inl (cb, 400, .inl f2))]) (fun u => match u with | (n2, f2) => []) (va_A [(h, .inr (6, [.ref b, .int nn])), (b, .inl (cb, 400, .inl f))] sz)) (va_A [(h, .inr (6, [.ref b, .int nn])), (b, .inl (cb, 400, .inl f))] sz)) 0 0 (va_A [(h, .inr (6, [.ref b, .int nn])), (b, .inl (cb, 400, .inl f))] sz) := by
  refine ofC_v (cc := cX6_putFour) (maxL := 3) (ret := none) (by decide) rfl (Nat.le_of_ble_eq_true rfl) ?_
  intro p e s m args below meth c A ls Q F hr hin hlk St hl hQ
  have hx := F.1
  have hb := F.2.1
  have hl : lv_has ls 3 [(0, .ref h), (1, .int x)] := hl
  have St : cS G k [(h, .inr (6, [.ref b, .int nn])), (b, .inl (cb, 400, .inl f))] [(cb, .byte)] A s s.heap [] := St
  refine lv_bipush (v := 24) hx hb dX6_putFour_0 (by decide) ?_
  refine lv_istore_n (lv' := [(2, .int 24), (0, .ref h), (1, .int x)]) hx hb dX6_putFour_2 rfl hl (by decide) rfl (fun ls hl => ?_)
  refine lv_iload_n hx hb dX6_putFour_3 rfl (lv_at hl 0 rfl) ?_
  refine lv_if_lt (tgt := 53) hx hb dX6_putFour_4 (by decide) (fun c4 => ?_) (fun c4 => ?_)
  · exact absurd c4 (by decide)
  refine lv_aload_n hx hb dX6_putFour_7 rfl (lv_at hl 1 rfl) ?_
  refine cs_get F St 0 rfl rfl inX6 1 (by decide) kf_X6_15 rfl dX6_putFour_8 ?_
  refine lv_if_lt (tgt := 47) hx hb dX6_putFour_11 (by decide) (fun c11 => ?_) (fun c11 => ?_)
  · have i11 := ci_lt (x := nn) (y := 0) rfl (show (0 : Int32).toInt = 0 by decide) c11; exact False.elim (by omega)
  have i11 := ci_nlt (x := nn) (y := 0) rfl (show (0 : Int32).toInt = 0 by decide) c11
  refine lv_aload_n hx hb dX6_putFour_14 rfl (lv_at hl 1 rfl) ?_
  refine cs_get F St 0 rfl rfl inX6 1 (by decide) kf_X6_15 rfl dX6_putFour_15 ?_
  refine lv_sipush (v := 400) hx hb dX6_putFour_18 (by decide) ?_
  refine lv_icmp_ge (tgt := 47) hx hb dX6_putFour_21 (by decide) (fun c21 => ?_) (fun c21 => ?_)
  · have i21 := ci_le (x := 400) (y := nn) (show (400 : Int32).toInt = 400 by decide) rfl c21; exact False.elim (by omega)
  have i21 := ci_nle (x := 400) (y := nn) (show (400 : Int32).toInt = 400 by decide) rfl c21
  refine lv_aload_n hx hb dX6_putFour_24 rfl (lv_at hl 1 rfl) ?_
  refine cs_get F St 0 rfl rfl inX6 0 (by decide) kf_X6_11 rfl dX6_putFour_25 ?_
  refine lv_aload_n hx hb dX6_putFour_28 rfl (lv_at hl 1 rfl) ?_
  refine cs_get F St 0 rfl rfl inX6 1 (by decide) kf_X6_15 rfl dX6_putFour_29 ?_
  refine lv_iload_n hx hb dX6_putFour_32 rfl (lv_at hl 2 rfl) ?_
  refine lv_iload_n hx hb dX6_putFour_33 rfl (lv_at hl 0 rfl) ?_
  refine lv_iushr hx hb dX6_putFour_34 rfl ?_
  refine lv_topi (fun y_1 ey_1 => ?_)
  refine lv_i2b (v := y_1.toInt8.toInt32) hx hb dX6_putFour_35 rfl ?_
  refine cs_bst F St 1 0 rfl rfl (vp_in_iff.mpr ⟨by omega, by omega⟩) (w' := [(h, .inr (6, [.ref b, .int nn])), (b, .inl (cb, 400, .inl (upd f (nn : Int32).toNatClampNeg (vp_nar .byte y_1.toInt8.toInt32))))]) rfl dX6_putFour_36 (fun H locs St => ?_)
  obtain ⟨f_2, ef_2⟩ : ∃ zz : Nat → Int32, zz = upd f (nn : Int32).toNatClampNeg (vp_nar .byte y_1.toInt8.toInt32) := ⟨_, rfl⟩
  rw [← ef_2] at St
  refine lv_aload_n hx hb dX6_putFour_37 rfl (lv_at hl 1 rfl) ?_
  refine lv_dup hx hb dX6_putFour_38 rfl ?_
  refine cs_get F St 0 rfl rfl inX6 1 (by decide) kf_X6_15 rfl dX6_putFour_39 ?_
  refine lv_iconst (v := 1) hx hb dX6_putFour_42 (by decide) ?_
  refine lv_iadd hx hb dX6_putFour_43 ?_
  refine lv_topi (fun y_3 ey_3 => ?_)
  first | have jy_3 : y_3.toInt = nn.toInt + 1 := (by have q9 := ci_add (x := nn) (y := 1) rfl (show (1 : Int32).toInt = 1 by decide) ey_3; omega) | have jy_3 := ci_add (x := nn) (y := 1) rfl (show (1 : Int32).toInt = 1 by decide) ey_3
  refine cs_put F St 0 rfl rfl inX6 tyX6_ok nmX6 1 (by decide) kf_X6_15 rfl rfl rfl (Nat.le_of_ble_eq_true rfl) (w' := [(h, .inr (6, [.ref b, .int y_3])), (b, .inl (cb, 400, .inl f_2))]) rfl dX6_putFour_44 (fun H locs St => ?_)
  refine lv_iinc (v := 16) (lv' := [(2, .int 16), (0, .ref h), (1, .int x)]) hx hb dX6_putFour_47 hl (k := 0) rfl (by decide) (by decide) rfl (fun ls hl => ?_)
  refine lv_goto (tgt := 3) hx hb dX6_putFour_50 (by decide) ?_
  refine lv_iload_n hx hb dX6_putFour_3 rfl (lv_at hl 0 rfl) ?_
  refine lv_if_lt (tgt := 53) hx hb dX6_putFour_4 (by decide) (fun c4 => ?_) (fun c4 => ?_)
  · exact absurd c4 (by decide)
  refine lv_aload_n hx hb dX6_putFour_7 rfl (lv_at hl 1 rfl) ?_
  refine cs_get F St 0 rfl rfl inX6 1 (by decide) kf_X6_15 rfl dX6_putFour_8 ?_
  refine lv_if_lt (tgt := 47) hx hb dX6_putFour_11 (by decide) (fun c11 => ?_) (fun c11 => ?_)
  · have i11 := ci_lt (x := y_3) (y := 0) rfl (show (0 : Int32).toInt = 0 by decide) c11; exact False.elim (by omega)
  have i11 := ci_nlt (x := y_3) (y := 0) rfl (show (0 : Int32).toInt = 0 by decide) c11
  refine lv_aload_n hx hb dX6_putFour_14 rfl (lv_at hl 1 rfl) ?_
  refine cs_get F St 0 rfl rfl inX6 1 (by decide) kf_X6_15 rfl dX6_putFour_15 ?_
  refine lv_sipush (v := 400) hx hb dX6_putFour_18 (by decide) ?_
  refine lv_icmp_ge (tgt := 47) hx hb dX6_putFour_21 (by decide) (fun c21 => ?_) (fun c21 => ?_)
  · have i21 := ci_le (x := 400) (y := y_3) (show (400 : Int32).toInt = 400 by decide) rfl c21; exact False.elim (by omega)
  have i21 := ci_nle (x := 400) (y := y_3) (show (400 : Int32).toInt = 400 by decide) rfl c21
  refine lv_aload_n hx hb dX6_putFour_24 rfl (lv_at hl 1 rfl) ?_
  refine cs_get F St 0 rfl rfl inX6 0 (by decide) kf_X6_11 rfl dX6_putFour_25 ?_
  refine lv_aload_n hx hb dX6_putFour_28 rfl (lv_at hl 1 rfl) ?_
  refine cs_get F St 0 rfl rfl inX6 1 (by decide) kf_X6_15 rfl dX6_putFour_29 ?_
  refine lv_iload_n hx hb dX6_putFour_32 rfl (lv_at hl 2 rfl) ?_
  refine lv_iload_n hx hb dX6_putFour_33 rfl (lv_at hl 0 rfl) ?_
  refine lv_iushr hx hb dX6_putFour_34 rfl ?_
  refine lv_topi (fun y_4 ey_4 => ?_)
  refine lv_i2b (v := y_4.toInt8.toInt32) hx hb dX6_putFour_35 rfl ?_
  refine cs_bst F St 1 0 rfl rfl (vp_in_iff.mpr ⟨by omega, by omega⟩) (w' := [(h, .inr (6, [.ref b, .int y_3])), (b, .inl (cb, 400, .inl (upd f_2 (y_3 : Int32).toNatClampNeg (vp_nar .byte y_4.toInt8.toInt32))))]) rfl dX6_putFour_36 (fun H locs St => ?_)
  obtain ⟨f_5, ef_5⟩ : ∃ zz : Nat → Int32, zz = upd f_2 (y_3 : Int32).toNatClampNeg (vp_nar .byte y_4.toInt8.toInt32) := ⟨_, rfl⟩
  rw [← ef_5] at St
  refine lv_aload_n hx hb dX6_putFour_37 rfl (lv_at hl 1 rfl) ?_
  refine lv_dup hx hb dX6_putFour_38 rfl ?_
  refine cs_get F St 0 rfl rfl inX6 1 (by decide) kf_X6_15 rfl dX6_putFour_39 ?_
  refine lv_iconst (v := 1) hx hb dX6_putFour_42 (by decide) ?_
  refine lv_iadd hx hb dX6_putFour_43 ?_
  refine lv_topi (fun y_6 ey_6 => ?_)
  first | have jy_6 : y_6.toInt = y_3.toInt + 1 := (by have q9 := ci_add (x := y_3) (y := 1) rfl (show (1 : Int32).toInt = 1 by decide) ey_6; omega) | have jy_6 := ci_add (x := y_3) (y := 1) rfl (show (1 : Int32).toInt = 1 by decide) ey_6
  refine cs_put F St 0 rfl rfl inX6 tyX6_ok nmX6 1 (by decide) kf_X6_15 rfl rfl rfl (Nat.le_of_ble_eq_true rfl) (w' := [(h, .inr (6, [.ref b, .int y_6])), (b, .inl (cb, 400, .inl f_5))]) rfl dX6_putFour_44 (fun H locs St => ?_)
  refine lv_iinc (v := 8) (lv' := [(2, .int 8), (0, .ref h), (1, .int x)]) hx hb dX6_putFour_47 hl (k := 0) rfl (by decide) (by decide) rfl (fun ls hl => ?_)
  refine lv_goto (tgt := 3) hx hb dX6_putFour_50 (by decide) ?_
  refine lv_iload_n hx hb dX6_putFour_3 rfl (lv_at hl 0 rfl) ?_
  refine lv_if_lt (tgt := 53) hx hb dX6_putFour_4 (by decide) (fun c4 => ?_) (fun c4 => ?_)
  · exact absurd c4 (by decide)
  refine lv_aload_n hx hb dX6_putFour_7 rfl (lv_at hl 1 rfl) ?_
  refine cs_get F St 0 rfl rfl inX6 1 (by decide) kf_X6_15 rfl dX6_putFour_8 ?_
  refine lv_if_lt (tgt := 47) hx hb dX6_putFour_11 (by decide) (fun c11 => ?_) (fun c11 => ?_)
  · have i11 := ci_lt (x := y_6) (y := 0) rfl (show (0 : Int32).toInt = 0 by decide) c11; exact False.elim (by omega)
  have i11 := ci_nlt (x := y_6) (y := 0) rfl (show (0 : Int32).toInt = 0 by decide) c11
  refine lv_aload_n hx hb dX6_putFour_14 rfl (lv_at hl 1 rfl) ?_
  refine cs_get F St 0 rfl rfl inX6 1 (by decide) kf_X6_15 rfl dX6_putFour_15 ?_
  refine lv_sipush (v := 400) hx hb dX6_putFour_18 (by decide) ?_
  refine lv_icmp_ge (tgt := 47) hx hb dX6_putFour_21 (by decide) (fun c21 => ?_) (fun c21 => ?_)
  · have i21 := ci_le (x := 400) (y := y_6) (show (400 : Int32).toInt = 400 by decide) rfl c21; exact False.elim (by omega)
  have i21 := ci_nle (x := 400) (y := y_6) (show (400 : Int32).toInt = 400 by decide) rfl c21
  refine lv_aload_n hx hb dX6_putFour_24 rfl (lv_at hl 1 rfl) ?_
  refine cs_get F St 0 rfl rfl inX6 0 (by decide) kf_X6_11 rfl dX6_putFour_25 ?_
  refine lv_aload_n hx hb dX6_putFour_28 rfl (lv_at hl 1 rfl) ?_
  refine cs_get F St 0 rfl rfl inX6 1 (by decide) kf_X6_15 rfl dX6_putFour_29 ?_
  refine lv_iload_n hx hb dX6_putFour_32 rfl (lv_at hl 2 rfl) ?_
  refine lv_iload_n hx hb dX6_putFour_33 rfl (lv_at hl 0 rfl) ?_
  refine lv_iushr hx hb dX6_putFour_34 rfl ?_
  refine lv_topi (fun y_7 ey_7 => ?_)
  refine lv_i2b (v := y_7.toInt8.toInt32) hx hb dX6_putFour_35 rfl ?_
  refine cs_bst F St 1 0 rfl rfl (vp_in_iff.mpr ⟨by omega, by omega⟩) (w' := [(h, .inr (6, [.ref b, .int y_6])), (b, .inl (cb, 400, .inl (upd f_5 (y_6 : Int32).toNatClampNeg (vp_nar .byte y_7.toInt8.toInt32))))]) rfl dX6_putFour_36 (fun H locs St => ?_)
  obtain ⟨f_8, ef_8⟩ : ∃ zz : Nat → Int32, zz = upd f_5 (y_6 : Int32).toNatClampNeg (vp_nar .byte y_7.toInt8.toInt32) := ⟨_, rfl⟩
  rw [← ef_8] at St
  refine lv_aload_n hx hb dX6_putFour_37 rfl (lv_at hl 1 rfl) ?_
  refine lv_dup hx hb dX6_putFour_38 rfl ?_
  refine cs_get F St 0 rfl rfl inX6 1 (by decide) kf_X6_15 rfl dX6_putFour_39 ?_
  refine lv_iconst (v := 1) hx hb dX6_putFour_42 (by decide) ?_
  refine lv_iadd hx hb dX6_putFour_43 ?_
  refine lv_topi (fun y_9 ey_9 => ?_)
  first | have jy_9 : y_9.toInt = y_6.toInt + 1 := (by have q9 := ci_add (x := y_6) (y := 1) rfl (show (1 : Int32).toInt = 1 by decide) ey_9; omega) | have jy_9 := ci_add (x := y_6) (y := 1) rfl (show (1 : Int32).toInt = 1 by decide) ey_9
  refine cs_put F St 0 rfl rfl inX6 tyX6_ok nmX6 1 (by decide) kf_X6_15 rfl rfl rfl (Nat.le_of_ble_eq_true rfl) (w' := [(h, .inr (6, [.ref b, .int y_9])), (b, .inl (cb, 400, .inl f_8))]) rfl dX6_putFour_44 (fun H locs St => ?_)
  refine lv_iinc (v := 0) (lv' := [(2, .int 0), (0, .ref h), (1, .int x)]) hx hb dX6_putFour_47 hl (k := 0) rfl (by decide) (by decide) rfl (fun ls hl => ?_)
  refine lv_goto (tgt := 3) hx hb dX6_putFour_50 (by decide) ?_
  refine lv_iload_n hx hb dX6_putFour_3 rfl (lv_at hl 0 rfl) ?_
  refine lv_if_lt (tgt := 53) hx hb dX6_putFour_4 (by decide) (fun c4 => ?_) (fun c4 => ?_)
  · exact absurd c4 (by decide)
  refine lv_aload_n hx hb dX6_putFour_7 rfl (lv_at hl 1 rfl) ?_
  refine cs_get F St 0 rfl rfl inX6 1 (by decide) kf_X6_15 rfl dX6_putFour_8 ?_
  refine lv_if_lt (tgt := 47) hx hb dX6_putFour_11 (by decide) (fun c11 => ?_) (fun c11 => ?_)
  · have i11 := ci_lt (x := y_9) (y := 0) rfl (show (0 : Int32).toInt = 0 by decide) c11; exact False.elim (by omega)
  have i11 := ci_nlt (x := y_9) (y := 0) rfl (show (0 : Int32).toInt = 0 by decide) c11
  refine lv_aload_n hx hb dX6_putFour_14 rfl (lv_at hl 1 rfl) ?_
  refine cs_get F St 0 rfl rfl inX6 1 (by decide) kf_X6_15 rfl dX6_putFour_15 ?_
  refine lv_sipush (v := 400) hx hb dX6_putFour_18 (by decide) ?_
  refine lv_icmp_ge (tgt := 47) hx hb dX6_putFour_21 (by decide) (fun c21 => ?_) (fun c21 => ?_)
  · have i21 := ci_le (x := 400) (y := y_9) (show (400 : Int32).toInt = 400 by decide) rfl c21; exact False.elim (by omega)
  have i21 := ci_nle (x := 400) (y := y_9) (show (400 : Int32).toInt = 400 by decide) rfl c21
  refine lv_aload_n hx hb dX6_putFour_24 rfl (lv_at hl 1 rfl) ?_
  refine cs_get F St 0 rfl rfl inX6 0 (by decide) kf_X6_11 rfl dX6_putFour_25 ?_
  refine lv_aload_n hx hb dX6_putFour_28 rfl (lv_at hl 1 rfl) ?_
  refine cs_get F St 0 rfl rfl inX6 1 (by decide) kf_X6_15 rfl dX6_putFour_29 ?_
  refine lv_iload_n hx hb dX6_putFour_32 rfl (lv_at hl 2 rfl) ?_
  refine lv_iload_n hx hb dX6_putFour_33 rfl (lv_at hl 0 rfl) ?_
  refine lv_iushr hx hb dX6_putFour_34 rfl ?_
  refine lv_topi (fun y_10 ey_10 => ?_)
  refine lv_i2b (v := y_10.toInt8.toInt32) hx hb dX6_putFour_35 rfl ?_
  refine cs_bst F St 1 0 rfl rfl (vp_in_iff.mpr ⟨by omega, by omega⟩) (w' := [(h, .inr (6, [.ref b, .int y_9])), (b, .inl (cb, 400, .inl (upd f_8 (y_9 : Int32).toNatClampNeg (vp_nar .byte y_10.toInt8.toInt32))))]) rfl dX6_putFour_36 (fun H locs St => ?_)
  obtain ⟨f_11, ef_11⟩ : ∃ zz : Nat → Int32, zz = upd f_8 (y_9 : Int32).toNatClampNeg (vp_nar .byte y_10.toInt8.toInt32) := ⟨_, rfl⟩
  rw [← ef_11] at St
  refine lv_aload_n hx hb dX6_putFour_37 rfl (lv_at hl 1 rfl) ?_
  refine lv_dup hx hb dX6_putFour_38 rfl ?_
  refine cs_get F St 0 rfl rfl inX6 1 (by decide) kf_X6_15 rfl dX6_putFour_39 ?_
  refine lv_iconst (v := 1) hx hb dX6_putFour_42 (by decide) ?_
  refine lv_iadd hx hb dX6_putFour_43 ?_
  refine lv_topi (fun y_12 ey_12 => ?_)
  first | have jy_12 : y_12.toInt = y_9.toInt + 1 := (by have q9 := ci_add (x := y_9) (y := 1) rfl (show (1 : Int32).toInt = 1 by decide) ey_12; omega) | have jy_12 := ci_add (x := y_9) (y := 1) rfl (show (1 : Int32).toInt = 1 by decide) ey_12
  refine cs_put F St 0 rfl rfl inX6 tyX6_ok nmX6 1 (by decide) kf_X6_15 rfl rfl rfl (Nat.le_of_ble_eq_true rfl) (w' := [(h, .inr (6, [.ref b, .int y_12])), (b, .inl (cb, 400, .inl f_11))]) rfl dX6_putFour_44 (fun H locs St => ?_)
  refine lv_iinc (v := (-8)) (lv' := [(2, .int (-8)), (0, .ref h), (1, .int x)]) hx hb dX6_putFour_47 hl (k := 0) rfl (by decide) (by decide) rfl (fun ls hl => ?_)
  refine lv_goto (tgt := 3) hx hb dX6_putFour_50 (by decide) ?_
  refine lv_iload_n hx hb dX6_putFour_3 rfl (lv_at hl 0 rfl) ?_
  refine lv_if_lt (tgt := 53) hx hb dX6_putFour_4 (by decide) (fun c4 => ?_) (fun c4 => ?_)
  rotate_left
  · exact absurd (by decide) c4
  exact cs_vret F hr hlk hQ St (y_12, f_11) (by omega) [0, 1] rfl (by decide) [] rfl (by decide) (by decide) dX6_putFour_53
set_option maxHeartbeats 4000000 in
set_option maxRecDepth 100000 in
theorem x6_cutTo (l : Launch) (G : va_G) (k : Nat → Nat) (sz : Nat) (h : Nat) (b : Nat) (nn : Int32) (x : Int32) : Met l yX6_cutTo (Cond.code yX6_cutTo cX6_cutTo 2 none :: tb) ({ frames := 0, cells := 0, slots := 0, locals := 0 } : Room) (va_Pc [.ref h, .int x] (cP G k [(h, .inr (6, [.ref b, .int nn]))] [] sz)) (va_Qv (fun (_ : Unit) => True) (cB G (fun (_ : Unit) => [(h, .inr (6, [.ref b, .int x]))]) (fun (_ : Unit) => []) (va_A [(h, .inr (6, [.ref b, .int nn]))] sz)) (va_A [(h, .inr (6, [.ref b, .int nn]))] sz)) 0 0 (va_A [(h, .inr (6, [.ref b, .int nn]))] sz) := by
  refine ofC_v (cc := cX6_cutTo) (maxL := 2) (ret := none) (by decide) rfl (Nat.le_of_ble_eq_true rfl) ?_
  intro p e s m args below meth c A ls Q F hr hin hlk St hl hQ
  have hx := F.1
  have hb := F.2.1
  have hl : lv_has ls 2 [(0, .ref h), (1, .int x)] := hl
  have St : cS G k [(h, .inr (6, [.ref b, .int nn]))] [] A s s.heap [] := St
  refine lv_aload_n hx hb dX6_cutTo_0 rfl (lv_at hl 0 rfl) ?_
  refine lv_iload_n hx hb dX6_cutTo_1 rfl (lv_at hl 1 rfl) ?_
  refine cs_put F St 0 rfl rfl inX6 tyX6_ok nmX6 1 (by decide) kf_X6_15 rfl rfl rfl (Nat.le_of_ble_eq_true rfl) (w' := [(h, .inr (6, [.ref b, .int x]))]) rfl dX6_cutTo_2 (fun H locs St => ?_)
  exact cs_vret F hr hlk hQ St () (by trivial) [0] rfl (by decide) [] rfl (by decide) (by decide) dX6_cutTo_5
set_option maxHeartbeats 4000000 in
set_option maxRecDepth 100000 in
theorem x6_at (l : Launch) (G : va_G) (k : Nat → Nat) (sz : Nat) (h : Nat) (b : Nat) (cb : ClassId) (nn : Int32) (f : Nat → Int32) (x : Int32) : Met l yX6_at (Cond.code yX6_at cX6_at 2 (some .int) :: tb) ({ frames := 0, cells := 0, slots := 0, locals := 0 } : Room) (va_Pc [.ref h, .int x] (cP G k [(h, .inr (6, [.ref b, .int nn])), (b, .inl (cb, 400, .inl f))] [(cb, .byte)] sz)) (va_Qi (fun (r : Int32) (_ : Unit) => True) (cB G (fun (_ : Unit) => [(h, .inr (6, [.ref b, .int nn])), (b, .inl (cb, 400, .inl f))]) (fun (_ : Unit) => []) (va_A [(h, .inr (6, [.ref b, .int nn])), (b, .inl (cb, 400, .inl f))] sz)) (va_A [(h, .inr (6, [.ref b, .int nn])), (b, .inl (cb, 400, .inl f))] sz)) 0 0 (va_A [(h, .inr (6, [.ref b, .int nn])), (b, .inl (cb, 400, .inl f))] sz) := by
  refine ofC_i (cc := cX6_at) (maxL := 2) (ret := (some .int)) (by decide) rfl (Nat.le_of_ble_eq_true rfl) ?_
  intro p e s m args below meth c A ls Q F hr hin hlk St hl hQ
  have hx := F.1
  have hb := F.2.1
  have hl : lv_has ls 2 [(0, .ref h), (1, .int x)] := hl
  have St : cS G k [(h, .inr (6, [.ref b, .int nn])), (b, .inl (cb, 400, .inl f))] [(cb, .byte)] A s s.heap [] := St
  refine lv_iload_n hx hb dX6_at_0 rfl (lv_at hl 1 rfl) ?_
  refine lv_if_lt (tgt := 32) hx hb dX6_at_1 (by decide) (fun c1 => ?_) (fun c1 => ?_)
  ·
    have i1 := ci_lt (x := x) (y := 0) rfl (show (0 : Int32).toInt = 0 by decide) c1
    refine lv_iconst (v := (-1)) hx hb dX6_at_32 (by decide) ?_
    exact cs_iret F hr hlk hQ St () (r := (-1)) (by trivial) [0, 1] rfl (by decide) [] rfl (by decide) (by decide) dX6_at_33
  ·
    have i1 := ci_nlt (x := x) (y := 0) rfl (show (0 : Int32).toInt = 0 by decide) c1
    refine lv_iload_n hx hb dX6_at_4 rfl (lv_at hl 1 rfl) ?_
    refine lv_aload_n hx hb dX6_at_5 rfl (lv_at hl 0 rfl) ?_
    refine cs_get F St 0 rfl rfl inX6 1 (by decide) kf_X6_15 rfl dX6_at_6 ?_
    refine lv_icmp_ge (tgt := 32) hx hb dX6_at_9 (by decide) (fun c9 => ?_) (fun c9 => ?_)
    ·
      have i9 := ci_le (x := nn) (y := x) rfl rfl c9
      refine lv_iconst (v := (-1)) hx hb dX6_at_32 (by decide) ?_
      exact cs_iret F hr hlk hQ St () (r := (-1)) (by trivial) [0, 1] rfl (by decide) [] rfl (by decide) (by decide) dX6_at_33
    ·
      have i9 := ci_nle (x := nn) (y := x) rfl rfl c9
      refine lv_iload_n hx hb dX6_at_12 rfl (lv_at hl 1 rfl) ?_
      refine lv_sipush (v := 400) hx hb dX6_at_13 (by decide) ?_
      refine lv_icmp_ge (tgt := 32) hx hb dX6_at_16 (by decide) (fun c16 => ?_) (fun c16 => ?_)
      ·
        have i16 := ci_le (x := 400) (y := x) (show (400 : Int32).toInt = 400 by decide) rfl c16
        refine lv_iconst (v := (-1)) hx hb dX6_at_32 (by decide) ?_
        exact cs_iret F hr hlk hQ St () (r := (-1)) (by trivial) [0, 1] rfl (by decide) [] rfl (by decide) (by decide) dX6_at_33
      ·
        have i16 := ci_nle (x := 400) (y := x) (show (400 : Int32).toInt = 400 by decide) rfl c16
        refine lv_aload_n hx hb dX6_at_19 rfl (lv_at hl 0 rfl) ?_
        refine cs_get F St 0 rfl rfl inX6 0 (by decide) kf_X6_11 rfl dX6_at_20 ?_
        refine lv_iload_n hx hb dX6_at_23 rfl (lv_at hl 1 rfl) ?_
        refine cs_bld F St 1 0 rfl rfl (vp_in_iff.mpr ⟨by omega, by omega⟩) dX6_at_24 ?_
        refine lv_topi (fun y_1 ey_1 => ?_)
        refine lv_sipush (v := 255) hx hb dX6_at_25 (by decide) ?_
        refine lv_iand hx hb dX6_at_28 ?_
        refine lv_topi (fun y_2 ey_2 => ?_)
        refine lv_goto (tgt := 33) hx hb dX6_at_29 (by decide) ?_
        exact cs_iret F hr hlk hQ St () (r := y_2) (by trivial) [0, 1] rfl (by decide) [] rfl (by decide) (by decide) dX6_at_33
set_option maxHeartbeats 4000000 in
set_option maxRecDepth 100000 in
theorem x8_forget (l : Launch) (G : va_G) (k : Nat → Nat) (sz : Nat) (h : Nat) (b : Nat) (cb : ClassId) (f : Nat → Int32) : Met l yX8_forget (Cond.code yX8_forget cX8_forget 1 none :: tb) ({ frames := 1, cells := 0, slots := 0, locals := 60 } : Room) (va_Pc [.ref h] (cP G k [(h, .inr (8, [.ref b])), (b, .inl (cb, 9, .inl f))] [(cb, .int)] sz)) (va_Qv (fun (f2 : (Nat → Int32)) => True) (cB G (fun (f2 : (Nat → Int32)) => [(h, .inr (8, [.ref b])), (b, .inl (cb, 9, .inl f2))]) (fun (f2 : (Nat → Int32)) => []) (va_A [(h, .inr (8, [.ref b])), (b, .inl (cb, 9, .inl f))] sz)) (va_A [(h, .inr (8, [.ref b])), (b, .inl (cb, 9, .inl f))] sz)) 0 0 (va_A [(h, .inr (8, [.ref b])), (b, .inl (cb, 9, .inl f))] sz) := by
  refine ofC_v (cc := cX8_forget) (maxL := 1) (ret := none) (by decide) rfl (Nat.le_of_ble_eq_true rfl) ?_
  intro p e s m args below meth c A ls Q F hr hin hlk St hl hQ
  have hx := F.1
  have hb := F.2.1
  have hl : lv_has ls 1 [(0, .ref h)] := hl
  have St : cS G k [(h, .inr (8, [.ref b])), (b, .inl (cb, 9, .inl f))] [(cb, .int)] A s s.heap [] := St
  refine va_gets hx hb (St.2.2.2.2.2.2.1) St.toS F.2.2.2.1 (F.2.2.2.2 _ kf_X8_15) (fun _ h => h) dX8_forget_0 ?_
  refine lv_iconst (v := 0) hx hb dX8_forget_3 (by decide) ?_
  refine lv_aload_n hx hb dX8_forget_4 rfl (lv_at hl 0 rfl) ?_
  refine cs_get F St 0 rfl rfl inX8 0 (by decide) kf_X8_11 rfl dX8_forget_5 ?_
  refine lv_iconst (v := 0) hx hb dX8_forget_8 (by decide) ?_
  refine lv_bipush (v := 9) hx hb dX8_forget_9 (by decide) ?_
  refine cs_cpT F hl St (St.2.2.2.2.2.2.2.1) 1 0 rfl rfl km_X8_18 (Nat.le_of_ble_eq_true rfl) (Nat.le_of_ble_eq_true rfl) (Nat.le_of_ble_eq_true rfl) (w' := [(h, .inr (8, [.ref b])), (b, .inl (cb, 9, .inl (va_cpy untold f 0 0 9)))]) rfl dX8_forget_11 (fun H locs St => ?_)
  obtain ⟨f_1, ef_1⟩ : ∃ zz : Nat → Int32, zz = va_cpy untold f 0 0 9 := ⟨_, rfl⟩
  rw [← ef_1] at St
  exact cs_vret F hr hlk hQ St f_1 (by trivial) [0, 1] rfl (by decide) [] rfl (by decide) (by decide) dX8_forget_14
set_option maxHeartbeats 4000000 in
set_option maxRecDepth 100000 in
theorem x8_takeOver (l : Launch) (G : va_G) (k : Nat → Nat) (sz : Nat) (h : Nat) (b : Nat) (h2 : Nat) (b2 : Nat) (cb : ClassId) (cb2 : ClassId) (f : Nat → Int32) (f3 : Nat → Int32) : Met l yX8_takeOver (Cond.code yX8_takeOver cX8_takeOver 2 none :: tb) ({ frames := 1, cells := 0, slots := 0, locals := 60 } : Room) (va_Pc [.ref h, .ref h2] (cP G k [(h, .inr (8, [.ref b])), (b, .inl (cb, 9, .inl f)), (h2, .inr (8, [.ref b2])), (b2, .inl (cb2, 9, .inl f3))] [(cb, .int), (cb2, .int)] sz)) (va_Qv (fun (f2 : (Nat → Int32)) => True) (cB G (fun (f2 : (Nat → Int32)) => [(h, .inr (8, [.ref b])), (b, .inl (cb, 9, .inl f2)), (h2, .inr (8, [.ref b2])), (b2, .inl (cb2, 9, .inl f3))]) (fun (f2 : (Nat → Int32)) => []) (va_A [(h, .inr (8, [.ref b])), (b, .inl (cb, 9, .inl f)), (h2, .inr (8, [.ref b2])), (b2, .inl (cb2, 9, .inl f3))] sz)) (va_A [(h, .inr (8, [.ref b])), (b, .inl (cb, 9, .inl f)), (h2, .inr (8, [.ref b2])), (b2, .inl (cb2, 9, .inl f3))] sz)) 0 0 (va_A [(h, .inr (8, [.ref b])), (b, .inl (cb, 9, .inl f)), (h2, .inr (8, [.ref b2])), (b2, .inl (cb2, 9, .inl f3))] sz) := by
  refine ofC_v (cc := cX8_takeOver) (maxL := 2) (ret := none) (by decide) rfl (Nat.le_of_ble_eq_true rfl) ?_
  intro p e s m args below meth c A ls Q F hr hin hlk St hl hQ
  have hx := F.1
  have hb := F.2.1
  have hl : lv_has ls 2 [(0, .ref h), (1, .ref h2)] := hl
  have St : cS G k [(h, .inr (8, [.ref b])), (b, .inl (cb, 9, .inl f)), (h2, .inr (8, [.ref b2])), (b2, .inl (cb2, 9, .inl f3))] [(cb, .int), (cb2, .int)] A s s.heap [] := St
  refine lv_aload_n hx hb dX8_takeOver_0 rfl (lv_at hl 1 rfl) ?_
  refine cs_get F St 2 rfl rfl inX8 0 (by decide) kf_X8_11 rfl dX8_takeOver_1 ?_
  refine lv_iconst (v := 0) hx hb dX8_takeOver_4 (by decide) ?_
  refine lv_aload_n hx hb dX8_takeOver_5 rfl (lv_at hl 0 rfl) ?_
  refine cs_get F St 0 rfl rfl inX8 0 (by decide) kf_X8_11 rfl dX8_takeOver_6 ?_
  refine lv_iconst (v := 0) hx hb dX8_takeOver_9 (by decide) ?_
  refine lv_bipush (v := 9) hx hb dX8_takeOver_10 (by decide) ?_
  refine cs_cp F hl St 3 1 1 0 rfl rfl rfl rfl km_X8_18 (Nat.le_of_ble_eq_true rfl) (Nat.le_of_ble_eq_true rfl) (Nat.le_of_ble_eq_true rfl) (w' := [(h, .inr (8, [.ref b])), (b, .inl (cb, 9, .inl (va_cpy f3 f 0 0 9))), (h2, .inr (8, [.ref b2])), (b2, .inl (cb2, 9, .inl f3))]) rfl dX8_takeOver_12 (fun H locs St => ?_)
  obtain ⟨f_1, ef_1⟩ : ∃ zz : Nat → Int32, zz = va_cpy f3 f 0 0 9 := ⟨_, rfl⟩
  rw [← ef_1] at St
  exact cs_vret F hr hlk hQ St f_1 (by trivial) [0, 1, 2, 3] rfl (by decide) [] rfl (by decide) (by decide) dX8_takeOver_15
set_option maxHeartbeats 4000000 in
set_option maxRecDepth 100000 in
theorem x8_put (l : Launch) (G : va_G) (k : Nat → Nat) (sz : Nat) (h : Nat) (b : Nat) (cb : ClassId) (f : Nat → Int32) (x : Int32) (y : Int32) : Met l yX8_put (Cond.code yX8_put cX8_put 3 none :: tb) ({ frames := 0, cells := 0, slots := 0, locals := 0 } : Room) (va_Pc [.ref h, .int x, .int y] (cP G k [(h, .inr (8, [.ref b])), (b, .inl (cb, 9, .inl f))] [(cb, .int)] sz)) (va_Qv (fun (f2 : (Nat → Int32)) => True) (cB G (fun (f2 : (Nat → Int32)) => [(h, .inr (8, [.ref b])), (b, .inl (cb, 9, .inl f2))]) (fun (f2 : (Nat → Int32)) => []) (va_A [(h, .inr (8, [.ref b])), (b, .inl (cb, 9, .inl f))] sz)) (va_A [(h, .inr (8, [.ref b])), (b, .inl (cb, 9, .inl f))] sz)) 0 0 (va_A [(h, .inr (8, [.ref b])), (b, .inl (cb, 9, .inl f))] sz) := by
  refine ofC_v (cc := cX8_put) (maxL := 3) (ret := none) (by decide) rfl (Nat.le_of_ble_eq_true rfl) ?_
  intro p e s m args below meth c A ls Q F hr hin hlk St hl hQ
  have hx := F.1
  have hb := F.2.1
  have hl : lv_has ls 3 [(0, .ref h), (1, .int x), (2, .int y)] := hl
  have St : cS G k [(h, .inr (8, [.ref b])), (b, .inl (cb, 9, .inl f))] [(cb, .int)] A s s.heap [] := St
  refine lv_iload_n hx hb dX8_put_0 rfl (lv_at hl 1 rfl) ?_
  refine lv_if_lt (tgt := 17) hx hb dX8_put_1 (by decide) (fun c1 => ?_) (fun c1 => ?_)
  ·
    have i1 := ci_lt (x := x) (y := 0) rfl (show (0 : Int32).toInt = 0 by decide) c1
    exact cs_vret F hr hlk hQ St f (by trivial) [0, 1] rfl (by decide) [] rfl (by decide) (by decide) dX8_put_17
  ·
    have i1 := ci_nlt (x := x) (y := 0) rfl (show (0 : Int32).toInt = 0 by decide) c1
    refine lv_iload_n hx hb dX8_put_4 rfl (lv_at hl 1 rfl) ?_
    refine lv_bipush (v := 9) hx hb dX8_put_5 (by decide) ?_
    refine lv_icmp_ge (tgt := 17) hx hb dX8_put_7 (by decide) (fun c7 => ?_) (fun c7 => ?_)
    ·
      have i7 := ci_le (x := 9) (y := x) (show (9 : Int32).toInt = 9 by decide) rfl c7
      exact cs_vret F hr hlk hQ St f (by trivial) [0, 1] rfl (by decide) [] rfl (by decide) (by decide) dX8_put_17
    ·
      have i7 := ci_nle (x := 9) (y := x) (show (9 : Int32).toInt = 9 by decide) rfl c7
      refine lv_aload_n hx hb dX8_put_10 rfl (lv_at hl 0 rfl) ?_
      refine cs_get F St 0 rfl rfl inX8 0 (by decide) kf_X8_11 rfl dX8_put_11 ?_
      refine lv_iload_n hx hb dX8_put_14 rfl (lv_at hl 1 rfl) ?_
      refine lv_iload_n hx hb dX8_put_15 rfl (lv_at hl 2 rfl) ?_
      refine cs_ist F St 1 0 rfl rfl (vp_in_iff.mpr ⟨by omega, by omega⟩) (w' := [(h, .inr (8, [.ref b])), (b, .inl (cb, 9, .inl (upd f (x : Int32).toNatClampNeg y)))]) rfl dX8_put_16 (fun H locs St => ?_)
      obtain ⟨f_1, ef_1⟩ : ∃ zz : Nat → Int32, zz = upd f (x : Int32).toNatClampNeg y := ⟨_, rfl⟩
      rw [← ef_1] at St
      exact cs_vret F hr hlk hQ St f_1 (by trivial) [0, 1] rfl (by decide) [] rfl (by decide) (by decide) dX8_put_17
set_option maxHeartbeats 4000000 in
set_option maxRecDepth 100000 in
theorem x8_at (l : Launch) (G : va_G) (k : Nat → Nat) (sz : Nat) (h : Nat) (b : Nat) (cb : ClassId) (f : Nat → Int32) (x : Int32) : Met l yX8_at (Cond.code yX8_at cX8_at 2 (some .int) :: tb) ({ frames := 0, cells := 0, slots := 0, locals := 0 } : Room) (va_Pc [.ref h, .int x] (cP G k [(h, .inr (8, [.ref b])), (b, .inl (cb, 9, .inl f))] [(cb, .int)] sz)) (va_Qi (fun (r : Int32) (_ : Unit) => True) (cB G (fun (_ : Unit) => [(h, .inr (8, [.ref b])), (b, .inl (cb, 9, .inl f))]) (fun (_ : Unit) => []) (va_A [(h, .inr (8, [.ref b])), (b, .inl (cb, 9, .inl f))] sz)) (va_A [(h, .inr (8, [.ref b])), (b, .inl (cb, 9, .inl f))] sz)) 0 0 (va_A [(h, .inr (8, [.ref b])), (b, .inl (cb, 9, .inl f))] sz) := by
  refine ofC_i (cc := cX8_at) (maxL := 2) (ret := (some .int)) (by decide) rfl (Nat.le_of_ble_eq_true rfl) ?_
  intro p e s m args below meth c A ls Q F hr hin hlk St hl hQ
  have hx := F.1
  have hb := F.2.1
  have hl : lv_has ls 2 [(0, .ref h), (1, .int x)] := hl
  have St : cS G k [(h, .inr (8, [.ref b])), (b, .inl (cb, 9, .inl f))] [(cb, .int)] A s s.heap [] := St
  refine lv_iload_n hx hb dX8_at_0 rfl (lv_at hl 1 rfl) ?_
  refine lv_if_lt (tgt := 19) hx hb dX8_at_1 (by decide) (fun c1 => ?_) (fun c1 => ?_)
  ·
    have i1 := ci_lt (x := x) (y := 0) rfl (show (0 : Int32).toInt = 0 by decide) c1
    refine lv_iconst (v := 0) hx hb dX8_at_19 (by decide) ?_
    exact cs_iret F hr hlk hQ St () (r := 0) (by trivial) [0, 1] rfl (by decide) [] rfl (by decide) (by decide) dX8_at_20
  ·
    have i1 := ci_nlt (x := x) (y := 0) rfl (show (0 : Int32).toInt = 0 by decide) c1
    refine lv_iload_n hx hb dX8_at_4 rfl (lv_at hl 1 rfl) ?_
    refine lv_bipush (v := 9) hx hb dX8_at_5 (by decide) ?_
    refine lv_icmp_ge (tgt := 19) hx hb dX8_at_7 (by decide) (fun c7 => ?_) (fun c7 => ?_)
    ·
      have i7 := ci_le (x := 9) (y := x) (show (9 : Int32).toInt = 9 by decide) rfl c7
      refine lv_iconst (v := 0) hx hb dX8_at_19 (by decide) ?_
      exact cs_iret F hr hlk hQ St () (r := 0) (by trivial) [0, 1] rfl (by decide) [] rfl (by decide) (by decide) dX8_at_20
    ·
      have i7 := ci_nle (x := 9) (y := x) (show (9 : Int32).toInt = 9 by decide) rfl c7
      refine lv_aload_n hx hb dX8_at_10 rfl (lv_at hl 0 rfl) ?_
      refine cs_get F St 0 rfl rfl inX8 0 (by decide) kf_X8_11 rfl dX8_at_11 ?_
      refine lv_iload_n hx hb dX8_at_14 rfl (lv_at hl 1 rfl) ?_
      refine cs_ild F St 1 0 rfl rfl (vp_in_iff.mpr ⟨by omega, by omega⟩) dX8_at_15 ?_
      refine lv_topi (fun y_1 ey_1 => ?_)
      refine lv_goto (tgt := 20) hx hb dX8_at_16 (by decide) ?_
      exact cs_iret F hr hlk hQ St () (r := y_1) (by trivial) [0, 1] rfl (by decide) [] rfl (by decide) (by decide) dX8_at_20
set_option maxHeartbeats 4000000 in
set_option maxRecDepth 100000 in
theorem x8_matchHundredths (l : Launch) (G : va_G) (k : Nat → Nat) (sz : Nat) (h : Nat) (b : Nat) (cb : ClassId) (f : Nat → Int32) : Met l yX8_matchHundredths (Cond.code yX8_matchHundredths cX8_matchHundredths 1 (some .int) :: tb) ({ frames := 0, cells := 0, slots := 0, locals := 0 } : Room) (va_Pc [.ref h] (cP G k [(h, .inr (8, [.ref b])), (b, .inl (cb, 9, .inl f))] [(cb, .int)] sz)) (va_Qi (fun (r : Int32) (_ : Unit) => True) (cB G (fun (_ : Unit) => [(h, .inr (8, [.ref b])), (b, .inl (cb, 9, .inl f))]) (fun (_ : Unit) => []) (va_A [(h, .inr (8, [.ref b])), (b, .inl (cb, 9, .inl f))] sz)) (va_A [(h, .inr (8, [.ref b])), (b, .inl (cb, 9, .inl f))] sz)) 0 0 (va_A [(h, .inr (8, [.ref b])), (b, .inl (cb, 9, .inl f))] sz) := by
  refine ofC_i (cc := cX8_matchHundredths) (maxL := 1) (ret := (some .int)) (by decide) rfl (Nat.le_of_ble_eq_true rfl) ?_
  intro p e s m args below meth c A ls Q F hr hin hlk St hl hQ
  have hx := F.1
  have hb := F.2.1
  have hl : lv_has ls 1 [(0, .ref h)] := hl
  have St : cS G k [(h, .inr (8, [.ref b])), (b, .inl (cb, 9, .inl f))] [(cb, .int)] A s s.heap [] := St
  refine lv_aload_n hx hb dX8_matchHundredths_0 rfl (lv_at hl 0 rfl) ?_
  refine cs_get F St 0 rfl rfl inX8 0 (by decide) kf_X8_11 rfl dX8_matchHundredths_1 ?_
  refine lv_iconst (v := 0) hx hb dX8_matchHundredths_4 (by decide) ?_
  refine cs_ild F St 1 0 rfl rfl (vp_in_iff.mpr (by decide)) dX8_matchHundredths_5 ?_
  refine lv_topi (fun y_1 ey_1 => ?_)
  exact cs_iret F hr hlk hQ St () (r := y_1) (by trivial) [0, 1] rfl (by decide) [] rfl (by decide) (by decide) dX8_matchHundredths_6
set_option maxHeartbeats 4000000 in
set_option maxRecDepth 100000 in
theorem x8_matchCapPence (l : Launch) (G : va_G) (k : Nat → Nat) (sz : Nat) (h : Nat) (b : Nat) (cb : ClassId) (f : Nat → Int32) : Met l yX8_matchCapPence (Cond.code yX8_matchCapPence cX8_matchCapPence 1 (some .int) :: tb) ({ frames := 0, cells := 0, slots := 0, locals := 0 } : Room) (va_Pc [.ref h] (cP G k [(h, .inr (8, [.ref b])), (b, .inl (cb, 9, .inl f))] [(cb, .int)] sz)) (va_Qi (fun (r : Int32) (_ : Unit) => True) (cB G (fun (_ : Unit) => [(h, .inr (8, [.ref b])), (b, .inl (cb, 9, .inl f))]) (fun (_ : Unit) => []) (va_A [(h, .inr (8, [.ref b])), (b, .inl (cb, 9, .inl f))] sz)) (va_A [(h, .inr (8, [.ref b])), (b, .inl (cb, 9, .inl f))] sz)) 0 0 (va_A [(h, .inr (8, [.ref b])), (b, .inl (cb, 9, .inl f))] sz) := by
  refine ofC_i (cc := cX8_matchCapPence) (maxL := 1) (ret := (some .int)) (by decide) rfl (Nat.le_of_ble_eq_true rfl) ?_
  intro p e s m args below meth c A ls Q F hr hin hlk St hl hQ
  have hx := F.1
  have hb := F.2.1
  have hl : lv_has ls 1 [(0, .ref h)] := hl
  have St : cS G k [(h, .inr (8, [.ref b])), (b, .inl (cb, 9, .inl f))] [(cb, .int)] A s s.heap [] := St
  refine lv_aload_n hx hb dX8_matchCapPence_0 rfl (lv_at hl 0 rfl) ?_
  refine cs_get F St 0 rfl rfl inX8 0 (by decide) kf_X8_11 rfl dX8_matchCapPence_1 ?_
  refine lv_iconst (v := 1) hx hb dX8_matchCapPence_4 (by decide) ?_
  refine cs_ild F St 1 0 rfl rfl (vp_in_iff.mpr (by decide)) dX8_matchCapPence_5 ?_
  refine lv_topi (fun y_1 ey_1 => ?_)
  refine lv_bipush (v := 100) hx hb dX8_matchCapPence_6 (by decide) ?_
  refine lv_imul hx hb dX8_matchCapPence_8 ?_
  refine lv_topi (fun y_2 ey_2 => ?_)
  first | have jy_2 : y_2.toInt = y_1.toInt * 100 := (by have q9 := ci_mul (x := y_1) (y := 100) rfl (show (100 : Int32).toInt = 100 by decide) ey_2; omega) | have jy_2 := ci_mul (x := y_1) (y := 100) rfl (show (100 : Int32).toInt = 100 by decide) ey_2
  exact cs_iret F hr hlk hQ St () (r := y_2) (by trivial) [0, 1] rfl (by decide) [] rfl (by decide) (by decide) dX8_matchCapPence_9
set_option maxHeartbeats 4000000 in
set_option maxRecDepth 100000 in
theorem x8_matchTill (l : Launch) (G : va_G) (k : Nat → Nat) (sz : Nat) (h : Nat) (b : Nat) (cb : ClassId) (f : Nat → Int32) : Met l yX8_matchTill (Cond.code yX8_matchTill cX8_matchTill 1 (some .int) :: tb) ({ frames := 0, cells := 0, slots := 0, locals := 0 } : Room) (va_Pc [.ref h] (cP G k [(h, .inr (8, [.ref b])), (b, .inl (cb, 9, .inl f))] [(cb, .int)] sz)) (va_Qi (fun (r : Int32) (_ : Unit) => True) (cB G (fun (_ : Unit) => [(h, .inr (8, [.ref b])), (b, .inl (cb, 9, .inl f))]) (fun (_ : Unit) => []) (va_A [(h, .inr (8, [.ref b])), (b, .inl (cb, 9, .inl f))] sz)) (va_A [(h, .inr (8, [.ref b])), (b, .inl (cb, 9, .inl f))] sz)) 0 0 (va_A [(h, .inr (8, [.ref b])), (b, .inl (cb, 9, .inl f))] sz) := by
  refine ofC_i (cc := cX8_matchTill) (maxL := 1) (ret := (some .int)) (by decide) rfl (Nat.le_of_ble_eq_true rfl) ?_
  intro p e s m args below meth c A ls Q F hr hin hlk St hl hQ
  have hx := F.1
  have hb := F.2.1
  have hl : lv_has ls 1 [(0, .ref h)] := hl
  have St : cS G k [(h, .inr (8, [.ref b])), (b, .inl (cb, 9, .inl f))] [(cb, .int)] A s s.heap [] := St
  refine lv_aload_n hx hb dX8_matchTill_0 rfl (lv_at hl 0 rfl) ?_
  refine cs_get F St 0 rfl rfl inX8 0 (by decide) kf_X8_11 rfl dX8_matchTill_1 ?_
  refine lv_iconst (v := 2) hx hb dX8_matchTill_4 (by decide) ?_
  refine cs_ild F St 1 0 rfl rfl (vp_in_iff.mpr (by decide)) dX8_matchTill_5 ?_
  refine lv_topi (fun y_1 ey_1 => ?_)
  exact cs_iret F hr hlk hQ St () (r := y_1) (by trivial) [0, 1] rfl (by decide) [] rfl (by decide) (by decide) dX8_matchTill_6
set_option maxHeartbeats 4000000 in
set_option maxRecDepth 100000 in
theorem x8_taxHundredths (l : Launch) (G : va_G) (k : Nat → Nat) (sz : Nat) (h : Nat) (b : Nat) (cb : ClassId) (f : Nat → Int32) : Met l yX8_taxHundredths (Cond.code yX8_taxHundredths cX8_taxHundredths 1 (some .int) :: tb) ({ frames := 0, cells := 0, slots := 0, locals := 0 } : Room) (va_Pc [.ref h] (cP G k [(h, .inr (8, [.ref b])), (b, .inl (cb, 9, .inl f))] [(cb, .int)] sz)) (va_Qi (fun (r : Int32) (_ : Unit) => True) (cB G (fun (_ : Unit) => [(h, .inr (8, [.ref b])), (b, .inl (cb, 9, .inl f))]) (fun (_ : Unit) => []) (va_A [(h, .inr (8, [.ref b])), (b, .inl (cb, 9, .inl f))] sz)) (va_A [(h, .inr (8, [.ref b])), (b, .inl (cb, 9, .inl f))] sz)) 0 0 (va_A [(h, .inr (8, [.ref b])), (b, .inl (cb, 9, .inl f))] sz) := by
  refine ofC_i (cc := cX8_taxHundredths) (maxL := 1) (ret := (some .int)) (by decide) rfl (Nat.le_of_ble_eq_true rfl) ?_
  intro p e s m args below meth c A ls Q F hr hin hlk St hl hQ
  have hx := F.1
  have hb := F.2.1
  have hl : lv_has ls 1 [(0, .ref h)] := hl
  have St : cS G k [(h, .inr (8, [.ref b])), (b, .inl (cb, 9, .inl f))] [(cb, .int)] A s s.heap [] := St
  refine lv_aload_n hx hb dX8_taxHundredths_0 rfl (lv_at hl 0 rfl) ?_
  refine cs_get F St 0 rfl rfl inX8 0 (by decide) kf_X8_11 rfl dX8_taxHundredths_1 ?_
  refine lv_iconst (v := 3) hx hb dX8_taxHundredths_4 (by decide) ?_
  refine cs_ild F St 1 0 rfl rfl (vp_in_iff.mpr (by decide)) dX8_taxHundredths_5 ?_
  refine lv_topi (fun y_1 ey_1 => ?_)
  exact cs_iret F hr hlk hQ St () (r := y_1) (by trivial) [0, 1] rfl (by decide) [] rfl (by decide) (by decide) dX8_taxHundredths_6
set_option maxHeartbeats 4000000 in
set_option maxRecDepth 100000 in
theorem x8_lapseDues (l : Launch) (G : va_G) (k : Nat → Nat) (sz : Nat) (h : Nat) (b : Nat) (cb : ClassId) (f : Nat → Int32) : Met l yX8_lapseDues (Cond.code yX8_lapseDues cX8_lapseDues 1 (some .int) :: tb) ({ frames := 0, cells := 0, slots := 0, locals := 0 } : Room) (va_Pc [.ref h] (cP G k [(h, .inr (8, [.ref b])), (b, .inl (cb, 9, .inl f))] [(cb, .int)] sz)) (va_Qi (fun (r : Int32) (_ : Unit) => True) (cB G (fun (_ : Unit) => [(h, .inr (8, [.ref b])), (b, .inl (cb, 9, .inl f))]) (fun (_ : Unit) => []) (va_A [(h, .inr (8, [.ref b])), (b, .inl (cb, 9, .inl f))] sz)) (va_A [(h, .inr (8, [.ref b])), (b, .inl (cb, 9, .inl f))] sz)) 0 0 (va_A [(h, .inr (8, [.ref b])), (b, .inl (cb, 9, .inl f))] sz) := by
  refine ofC_i (cc := cX8_lapseDues) (maxL := 1) (ret := (some .int)) (by decide) rfl (Nat.le_of_ble_eq_true rfl) ?_
  intro p e s m args below meth c A ls Q F hr hin hlk St hl hQ
  have hx := F.1
  have hb := F.2.1
  have hl : lv_has ls 1 [(0, .ref h)] := hl
  have St : cS G k [(h, .inr (8, [.ref b])), (b, .inl (cb, 9, .inl f))] [(cb, .int)] A s s.heap [] := St
  refine lv_aload_n hx hb dX8_lapseDues_0 rfl (lv_at hl 0 rfl) ?_
  refine cs_get F St 0 rfl rfl inX8 0 (by decide) kf_X8_11 rfl dX8_lapseDues_1 ?_
  refine lv_iconst (v := 4) hx hb dX8_lapseDues_4 (by decide) ?_
  refine cs_ild F St 1 0 rfl rfl (vp_in_iff.mpr (by decide)) dX8_lapseDues_5 ?_
  refine lv_topi (fun y_1 ey_1 => ?_)
  exact cs_iret F hr hlk hQ St () (r := y_1) (by trivial) [0, 1] rfl (by decide) [] rfl (by decide) (by decide) dX8_lapseDues_6
set_option maxHeartbeats 4000000 in
set_option maxRecDepth 100000 in
theorem x8_loanPence (l : Launch) (G : va_G) (k : Nat → Nat) (sz : Nat) (h : Nat) (b : Nat) (cb : ClassId) (f : Nat → Int32) : Met l yX8_loanPence (Cond.code yX8_loanPence cX8_loanPence 1 (some .int) :: tb) ({ frames := 0, cells := 0, slots := 0, locals := 0 } : Room) (va_Pc [.ref h] (cP G k [(h, .inr (8, [.ref b])), (b, .inl (cb, 9, .inl f))] [(cb, .int)] sz)) (va_Qi (fun (r : Int32) (_ : Unit) => True) (cB G (fun (_ : Unit) => [(h, .inr (8, [.ref b])), (b, .inl (cb, 9, .inl f))]) (fun (_ : Unit) => []) (va_A [(h, .inr (8, [.ref b])), (b, .inl (cb, 9, .inl f))] sz)) (va_A [(h, .inr (8, [.ref b])), (b, .inl (cb, 9, .inl f))] sz)) 0 0 (va_A [(h, .inr (8, [.ref b])), (b, .inl (cb, 9, .inl f))] sz) := by
  refine ofC_i (cc := cX8_loanPence) (maxL := 1) (ret := (some .int)) (by decide) rfl (Nat.le_of_ble_eq_true rfl) ?_
  intro p e s m args below meth c A ls Q F hr hin hlk St hl hQ
  have hx := F.1
  have hb := F.2.1
  have hl : lv_has ls 1 [(0, .ref h)] := hl
  have St : cS G k [(h, .inr (8, [.ref b])), (b, .inl (cb, 9, .inl f))] [(cb, .int)] A s s.heap [] := St
  refine lv_aload_n hx hb dX8_loanPence_0 rfl (lv_at hl 0 rfl) ?_
  refine cs_get F St 0 rfl rfl inX8 0 (by decide) kf_X8_11 rfl dX8_loanPence_1 ?_
  refine lv_iconst (v := 5) hx hb dX8_loanPence_4 (by decide) ?_
  refine cs_ild F St 1 0 rfl rfl (vp_in_iff.mpr (by decide)) dX8_loanPence_5 ?_
  refine lv_topi (fun y_1 ey_1 => ?_)
  refine lv_bipush (v := 100) hx hb dX8_loanPence_6 (by decide) ?_
  refine lv_imul hx hb dX8_loanPence_8 ?_
  refine lv_topi (fun y_2 ey_2 => ?_)
  first | have jy_2 : y_2.toInt = y_1.toInt * 100 := (by have q9 := ci_mul (x := y_1) (y := 100) rfl (show (100 : Int32).toInt = 100 by decide) ey_2; omega) | have jy_2 := ci_mul (x := y_1) (y := 100) rfl (show (100 : Int32).toInt = 100 by decide) ey_2
  exact cs_iret F hr hlk hQ St () (r := y_2) (by trivial) [0, 1] rfl (by decide) [] rfl (by decide) (by decide) dX8_loanPence_9
set_option maxHeartbeats 4000000 in
set_option maxRecDepth 100000 in
theorem x8_loanThousandths (l : Launch) (G : va_G) (k : Nat → Nat) (sz : Nat) (h : Nat) (b : Nat) (cb : ClassId) (f : Nat → Int32) : Met l yX8_loanThousandths (Cond.code yX8_loanThousandths cX8_loanThousandths 1 (some .int) :: tb) ({ frames := 0, cells := 0, slots := 0, locals := 0 } : Room) (va_Pc [.ref h] (cP G k [(h, .inr (8, [.ref b])), (b, .inl (cb, 9, .inl f))] [(cb, .int)] sz)) (va_Qi (fun (r : Int32) (_ : Unit) => True) (cB G (fun (_ : Unit) => [(h, .inr (8, [.ref b])), (b, .inl (cb, 9, .inl f))]) (fun (_ : Unit) => []) (va_A [(h, .inr (8, [.ref b])), (b, .inl (cb, 9, .inl f))] sz)) (va_A [(h, .inr (8, [.ref b])), (b, .inl (cb, 9, .inl f))] sz)) 0 0 (va_A [(h, .inr (8, [.ref b])), (b, .inl (cb, 9, .inl f))] sz) := by
  refine ofC_i (cc := cX8_loanThousandths) (maxL := 1) (ret := (some .int)) (by decide) rfl (Nat.le_of_ble_eq_true rfl) ?_
  intro p e s m args below meth c A ls Q F hr hin hlk St hl hQ
  have hx := F.1
  have hb := F.2.1
  have hl : lv_has ls 1 [(0, .ref h)] := hl
  have St : cS G k [(h, .inr (8, [.ref b])), (b, .inl (cb, 9, .inl f))] [(cb, .int)] A s s.heap [] := St
  refine lv_aload_n hx hb dX8_loanThousandths_0 rfl (lv_at hl 0 rfl) ?_
  refine cs_get F St 0 rfl rfl inX8 0 (by decide) kf_X8_11 rfl dX8_loanThousandths_1 ?_
  refine lv_bipush (v := 6) hx hb dX8_loanThousandths_4 (by decide) ?_
  refine cs_ild F St 1 0 rfl rfl (vp_in_iff.mpr (by decide)) dX8_loanThousandths_6 ?_
  refine lv_topi (fun y_1 ey_1 => ?_)
  exact cs_iret F hr hlk hQ St () (r := y_1) (by trivial) [0, 1] rfl (by decide) [] rfl (by decide) (by decide) dX8_loanThousandths_7
set_option maxHeartbeats 4000000 in
set_option maxRecDepth 100000 in
theorem x8_stonePence (l : Launch) (G : va_G) (k : Nat → Nat) (sz : Nat) (h : Nat) (b : Nat) (cb : ClassId) (f : Nat → Int32) : Met l yX8_stonePence (Cond.code yX8_stonePence cX8_stonePence 1 (some .int) :: tb) ({ frames := 0, cells := 0, slots := 0, locals := 0 } : Room) (va_Pc [.ref h] (cP G k [(h, .inr (8, [.ref b])), (b, .inl (cb, 9, .inl f))] [(cb, .int)] sz)) (va_Qi (fun (r : Int32) (_ : Unit) => True) (cB G (fun (_ : Unit) => [(h, .inr (8, [.ref b])), (b, .inl (cb, 9, .inl f))]) (fun (_ : Unit) => []) (va_A [(h, .inr (8, [.ref b])), (b, .inl (cb, 9, .inl f))] sz)) (va_A [(h, .inr (8, [.ref b])), (b, .inl (cb, 9, .inl f))] sz)) 0 0 (va_A [(h, .inr (8, [.ref b])), (b, .inl (cb, 9, .inl f))] sz) := by
  refine ofC_i (cc := cX8_stonePence) (maxL := 1) (ret := (some .int)) (by decide) rfl (Nat.le_of_ble_eq_true rfl) ?_
  intro p e s m args below meth c A ls Q F hr hin hlk St hl hQ
  have hx := F.1
  have hb := F.2.1
  have hl : lv_has ls 1 [(0, .ref h)] := hl
  have St : cS G k [(h, .inr (8, [.ref b])), (b, .inl (cb, 9, .inl f))] [(cb, .int)] A s s.heap [] := St
  refine lv_aload_n hx hb dX8_stonePence_0 rfl (lv_at hl 0 rfl) ?_
  refine cs_get F St 0 rfl rfl inX8 0 (by decide) kf_X8_11 rfl dX8_stonePence_1 ?_
  refine lv_bipush (v := 7) hx hb dX8_stonePence_4 (by decide) ?_
  refine cs_ild F St 1 0 rfl rfl (vp_in_iff.mpr (by decide)) dX8_stonePence_6 ?_
  refine lv_topi (fun y_1 ey_1 => ?_)
  refine lv_bipush (v := 100) hx hb dX8_stonePence_7 (by decide) ?_
  refine lv_imul hx hb dX8_stonePence_9 ?_
  refine lv_topi (fun y_2 ey_2 => ?_)
  first | have jy_2 : y_2.toInt = y_1.toInt * 100 := (by have q9 := ci_mul (x := y_1) (y := 100) rfl (show (100 : Int32).toInt = 100 by decide) ey_2; omega) | have jy_2 := ci_mul (x := y_1) (y := 100) rfl (show (100 : Int32).toInt = 100 by decide) ey_2
  exact cs_iret F hr hlk hQ St () (r := y_2) (by trivial) [0, 1] rfl (by decide) [] rfl (by decide) (by decide) dX8_stonePence_10
set_option maxHeartbeats 4000000 in
set_option maxRecDepth 100000 in
theorem x8_givesAllBack (l : Launch) (G : va_G) (k : Nat → Nat) (sz : Nat) (h : Nat) (b : Nat) (cb : ClassId) (f : Nat → Int32) : Met l yX8_givesAllBack (Cond.code yX8_givesAllBack cX8_givesAllBack 1 (some .boolean) :: tb) ({ frames := 0, cells := 0, slots := 0, locals := 0 } : Room) (va_Pc [.ref h] (cP G k [(h, .inr (8, [.ref b])), (b, .inl (cb, 9, .inl f))] [(cb, .int)] sz)) (va_Qi (fun (r : Int32) (_ : Unit) => ((r = 1)) ∨ ((r = 0))) (cB G (fun (_ : Unit) => [(h, .inr (8, [.ref b])), (b, .inl (cb, 9, .inl f))]) (fun (_ : Unit) => []) (va_A [(h, .inr (8, [.ref b])), (b, .inl (cb, 9, .inl f))] sz)) (va_A [(h, .inr (8, [.ref b])), (b, .inl (cb, 9, .inl f))] sz)) 0 0 (va_A [(h, .inr (8, [.ref b])), (b, .inl (cb, 9, .inl f))] sz) := by
  refine ofC_i (cc := cX8_givesAllBack) (maxL := 1) (ret := (some .boolean)) (by decide) rfl (Nat.le_of_ble_eq_true rfl) ?_
  intro p e s m args below meth c A ls Q F hr hin hlk St hl hQ
  have hx := F.1
  have hb := F.2.1
  have hl : lv_has ls 1 [(0, .ref h)] := hl
  have St : cS G k [(h, .inr (8, [.ref b])), (b, .inl (cb, 9, .inl f))] [(cb, .int)] A s s.heap [] := St
  refine lv_aload_n hx hb dX8_givesAllBack_0 rfl (lv_at hl 0 rfl) ?_
  refine cs_get F St 0 rfl rfl inX8 0 (by decide) kf_X8_11 rfl dX8_givesAllBack_1 ?_
  refine lv_bipush (v := 8) hx hb dX8_givesAllBack_4 (by decide) ?_
  refine cs_ild F St 1 0 rfl rfl (vp_in_iff.mpr (by decide)) dX8_givesAllBack_6 ?_
  refine lv_topi (fun y_1 ey_1 => ?_)
  refine lv_iconst (v := 1) hx hb dX8_givesAllBack_7 (by decide) ?_
  refine lv_icmp_ne (tgt := 15) hx hb dX8_givesAllBack_8 (by decide) (fun c8 => ?_) (fun c8 => ?_)
  ·
    have i8 := ci_ne (x := y_1) (y := 1) rfl (show (1 : Int32).toInt = 1 by decide) c8
    refine lv_iconst (v := 0) hx hb dX8_givesAllBack_15 (by decide) ?_
    exact cs_zret F hr hlk hQ St () (r := 0) rfl (Or.inr rfl) [0, 1] rfl (by decide) [] rfl (by decide) (by decide) dX8_givesAllBack_16
  ·
    have i8 := ci_eq (x := y_1) (y := 1) rfl (show (1 : Int32).toInt = 1 by decide) c8
    refine lv_iconst (v := 1) hx hb dX8_givesAllBack_11 (by decide) ?_
    refine lv_goto (tgt := 16) hx hb dX8_givesAllBack_12 (by decide) ?_
    exact cs_zret F hr hlk hQ St () (r := 1) rfl (Or.inl rfl) [0, 1] rfl (by decide) [] rfl (by decide) (by decide) dX8_givesAllBack_16
set_option maxHeartbeats 4000000 in
set_option maxRecDepth 100000 in
theorem x9_draft (l : Launch) (G : va_G) (k : Nat → Nat) (sz : Nat) (h : Nat) (d : Nat) (t : Nat) (rh : Int32) (rt : Int32) (rs : Int32) (rv : Int32) (rk : Int32) (rp : Int32) : Met l yX9_draft (Cond.code yX9_draft cX9_draft 1 (some (.object "TowerAppeal$Trust")) :: tb) ({ frames := 0, cells := 0, slots := 0, locals := 0 } : Room) (va_Pc [.ref h] (cP G k [(h, .inr (9, [.ref d, .ref t, .int rh, .int rt, .int rs, .int rv, .int rk, .int rp]))] [] sz)) (va_Qq (fun (r : Option Nat) (_ : Unit) => (r = some d)) (cB G (fun (_ : Unit) => [(h, .inr (9, [.ref d, .ref t, .int rh, .int rt, .int rs, .int rv, .int rk, .int rp]))]) (fun (_ : Unit) => []) (va_A [(h, .inr (9, [.ref d, .ref t, .int rh, .int rt, .int rs, .int rv, .int rk, .int rp]))] sz)) (va_A [(h, .inr (9, [.ref d, .ref t, .int rh, .int rt, .int rs, .int rv, .int rk, .int rp]))] sz)) 0 0 (va_A [(h, .inr (9, [.ref d, .ref t, .int rh, .int rt, .int rs, .int rv, .int rk, .int rp]))] sz) := by
  refine ofC_q (cc := cX9_draft) (maxL := 1) (ret := (some (.object "TowerAppeal$Trust"))) (by decide) rfl (Nat.le_of_ble_eq_true rfl) ?_
  intro p e s m args below meth c A ls Q F hr hin hlk St hl hQ
  have hx := F.1
  have hb := F.2.1
  have hl : lv_has ls 1 [(0, .ref h)] := hl
  have St : cS G k [(h, .inr (9, [.ref d, .ref t, .int rh, .int rt, .int rs, .int rv, .int rk, .int rp]))] [] A s s.heap [] := St
  refine lv_aload_n hx hb dX9_draft_0 rfl (lv_at hl 0 rfl) ?_
  refine cs_get F St 0 rfl rfl inX9 0 (by decide) kf_X9_12 rfl dX9_draft_1 ?_
  exact cs_qret F hr (Or.inl ⟨_, rfl⟩) hlk hQ St () (some d) rfl rfl [0] rfl (by decide) [] rfl (by decide) (by decide) dX9_draft_4
set_option maxHeartbeats 4000000 in
set_option maxRecDepth 100000 in
theorem x9_faultKind (l : Launch) (G : va_G) (k : Nat → Nat) (sz : Nat) (h : Nat) (d : Nat) (t : Nat) (rh : Int32) (rt : Int32) (rs : Int32) (rv : Int32) (rk : Int32) (rp : Int32) : Met l yX9_faultKind (Cond.code yX9_faultKind cX9_faultKind 1 (some .int) :: tb) ({ frames := 0, cells := 0, slots := 0, locals := 0 } : Room) (va_Pc [.ref h] (cP G k [(h, .inr (9, [.ref d, .ref t, .int rh, .int rt, .int rs, .int rv, .int rk, .int rp]))] [] sz)) (va_Qi (fun (r : Int32) (_ : Unit) => True) (cB G (fun (_ : Unit) => [(h, .inr (9, [.ref d, .ref t, .int rh, .int rt, .int rs, .int rv, .int rk, .int rp]))]) (fun (_ : Unit) => []) (va_A [(h, .inr (9, [.ref d, .ref t, .int rh, .int rt, .int rs, .int rv, .int rk, .int rp]))] sz)) (va_A [(h, .inr (9, [.ref d, .ref t, .int rh, .int rt, .int rs, .int rv, .int rk, .int rp]))] sz)) 0 0 (va_A [(h, .inr (9, [.ref d, .ref t, .int rh, .int rt, .int rs, .int rv, .int rk, .int rp]))] sz) := by
  refine ofC_i (cc := cX9_faultKind) (maxL := 1) (ret := (some .int)) (by decide) rfl (Nat.le_of_ble_eq_true rfl) ?_
  intro p e s m args below meth c A ls Q F hr hin hlk St hl hQ
  have hx := F.1
  have hb := F.2.1
  have hl : lv_has ls 1 [(0, .ref h)] := hl
  have St : cS G k [(h, .inr (9, [.ref d, .ref t, .int rh, .int rt, .int rs, .int rv, .int rk, .int rp]))] [] A s s.heap [] := St
  refine lv_aload_n hx hb dX9_faultKind_0 rfl (lv_at hl 0 rfl) ?_
  refine cs_get F St 0 rfl rfl inX9 6 (by decide) kf_X9_26 rfl dX9_faultKind_1 ?_
  exact cs_iret F hr hlk hQ St () (r := rk) (by trivial) [0] rfl (by decide) [] rfl (by decide) (by decide) dX9_faultKind_4
set_option maxHeartbeats 4000000 in
set_option maxRecDepth 100000 in
theorem x9_faultPlace (l : Launch) (G : va_G) (k : Nat → Nat) (sz : Nat) (h : Nat) (d : Nat) (t : Nat) (rh : Int32) (rt : Int32) (rs : Int32) (rv : Int32) (rk : Int32) (rp : Int32) : Met l yX9_faultPlace (Cond.code yX9_faultPlace cX9_faultPlace 1 (some .int) :: tb) ({ frames := 0, cells := 0, slots := 0, locals := 0 } : Room) (va_Pc [.ref h] (cP G k [(h, .inr (9, [.ref d, .ref t, .int rh, .int rt, .int rs, .int rv, .int rk, .int rp]))] [] sz)) (va_Qi (fun (r : Int32) (_ : Unit) => True) (cB G (fun (_ : Unit) => [(h, .inr (9, [.ref d, .ref t, .int rh, .int rt, .int rs, .int rv, .int rk, .int rp]))]) (fun (_ : Unit) => []) (va_A [(h, .inr (9, [.ref d, .ref t, .int rh, .int rt, .int rs, .int rv, .int rk, .int rp]))] sz)) (va_A [(h, .inr (9, [.ref d, .ref t, .int rh, .int rt, .int rs, .int rv, .int rk, .int rp]))] sz)) 0 0 (va_A [(h, .inr (9, [.ref d, .ref t, .int rh, .int rt, .int rs, .int rv, .int rk, .int rp]))] sz) := by
  refine ofC_i (cc := cX9_faultPlace) (maxL := 1) (ret := (some .int)) (by decide) rfl (Nat.le_of_ble_eq_true rfl) ?_
  intro p e s m args below meth c A ls Q F hr hin hlk St hl hQ
  have hx := F.1
  have hb := F.2.1
  have hl : lv_has ls 1 [(0, .ref h)] := hl
  have St : cS G k [(h, .inr (9, [.ref d, .ref t, .int rh, .int rt, .int rs, .int rv, .int rk, .int rp]))] [] A s s.heap [] := St
  refine lv_aload_n hx hb dX9_faultPlace_0 rfl (lv_at hl 0 rfl) ?_
  refine cs_get F St 0 rfl rfl inX9 7 (by decide) kf_X9_22 rfl dX9_faultPlace_1 ?_
  exact cs_iret F hr hlk hQ St () (r := rp) (by trivial) [0] rfl (by decide) [] rfl (by decide) (by decide) dX9_faultPlace_4
set_option maxHeartbeats 4000000 in
set_option maxRecDepth 100000 in
theorem x9_refuse (l : Launch) (G : va_G) (k : Nat → Nat) (sz : Nat) (h : Nat) (d : Nat) (t : Nat) (rh : Int32) (rt : Int32) (rs : Int32) (rv : Int32) (rk : Int32) (rp : Int32) (x : Int32) : Met l yX9_refuse (Cond.code yX9_refuse cX9_refuse 2 none :: tb) ({ frames := 0, cells := 0, slots := 0, locals := 0 } : Room) (va_Pc [.ref h, .int x] (cP G k [(h, .inr (9, [.ref d, .ref t, .int rh, .int rt, .int rs, .int rv, .int rk, .int rp]))] [] sz)) (va_Qv (fun (_ : Unit) => True) (cB G (fun (_ : Unit) => [(h, .inr (9, [.ref d, .ref t, .int rh, .int rt, .int rs, .int rv, .int x, .int rs]))]) (fun (_ : Unit) => []) (va_A [(h, .inr (9, [.ref d, .ref t, .int rh, .int rt, .int rs, .int rv, .int rk, .int rp]))] sz)) (va_A [(h, .inr (9, [.ref d, .ref t, .int rh, .int rt, .int rs, .int rv, .int rk, .int rp]))] sz)) 0 0 (va_A [(h, .inr (9, [.ref d, .ref t, .int rh, .int rt, .int rs, .int rv, .int rk, .int rp]))] sz) := by
  refine ofC_v (cc := cX9_refuse) (maxL := 2) (ret := none) (by decide) rfl (Nat.le_of_ble_eq_true rfl) ?_
  intro p e s m args below meth c A ls Q F hr hin hlk St hl hQ
  have hx := F.1
  have hb := F.2.1
  have hl : lv_has ls 2 [(0, .ref h), (1, .int x)] := hl
  have St : cS G k [(h, .inr (9, [.ref d, .ref t, .int rh, .int rt, .int rs, .int rv, .int rk, .int rp]))] [] A s s.heap [] := St
  refine lv_aload_n hx hb dX9_refuse_0 rfl (lv_at hl 0 rfl) ?_
  refine lv_iload_n hx hb dX9_refuse_1 rfl (lv_at hl 1 rfl) ?_
  refine cs_put F St 0 rfl rfl inX9 tyX9_ok nmX9 6 (by decide) kf_X9_26 rfl rfl rfl (Nat.le_of_ble_eq_true rfl) (w' := [(h, .inr (9, [.ref d, .ref t, .int rh, .int rt, .int rs, .int rv, .int x, .int rp]))]) rfl dX9_refuse_2 (fun H locs St => ?_)
  refine lv_aload_n hx hb dX9_refuse_5 rfl (lv_at hl 0 rfl) ?_
  refine lv_aload_n hx hb dX9_refuse_6 rfl (lv_at hl 0 rfl) ?_
  refine cs_get F St 0 rfl rfl inX9 4 (by decide) kf_X9_48 rfl dX9_refuse_7 ?_
  refine cs_put F St 0 rfl rfl inX9 tyX9_ok nmX9 7 (by decide) kf_X9_22 rfl rfl rfl (Nat.le_of_ble_eq_true rfl) (w' := [(h, .inr (9, [.ref d, .ref t, .int rh, .int rt, .int rs, .int rv, .int x, .int rs]))]) rfl dX9_refuse_10 (fun H locs St => ?_)
  exact cs_vret F hr hlk hQ St () (by trivial) [0] rfl (by decide) [] rfl (by decide) (by decide) dX9_refuse_13
set_option maxHeartbeats 4000000 in
set_option maxRecDepth 100000 in
theorem x9_startAnew (l : Launch) (G : va_G) (k : Nat → Nat) (sz : Nat) (h : Nat) (d : Nat) (dr : Nat) (t : Nat) (cd : ClassId) (ce : ClassId) (rh : Int32) (rt : Int32) (rs : Int32) (rv : Int32) (rk : Int32) (rp : Int32) (fd : Nat → Int32) (ft : Nat → Int32) : Met l yX9_startAnew (Cond.code yX9_startAnew cX9_startAnew 2 none :: tb) ({ frames := 2, cells := 0, slots := 0, locals := 80 } : Room) (va_Pc [.ref h] (cP G k [(h, .inr (9, [.ref d, .ref t, .int rh, .int rt, .int rs, .int rv, .int rk, .int rp])), (d, .inr (8, [.ref dr])), (dr, .inl (cd, 9, .inl fd)), (t, .inl (ce, 6, .inl ft))] [(cd, .int), (ce, .boolean)] sz)) (va_Qv (fun (u : Int32 × Int32 × Int32 × Int32 × Int32 × Int32 × (Nat → Int32) × (Nat → Int32)) => match u with | (rh2, rt2, rs2, rv2, rk2, rp2, fd2, ft2) => True) (cB G (fun u => match u with | (rh2, rt2, rs2, rv2, rk2, rp2, fd2, ft2) => [(h, .inr (9, [.ref d, .ref t, .int rh2, .int rt2, .int rs2, .int rv2, .int rk2, .int rp2])), (d, .inr (8, [.ref dr])), (dr, .inl (cd, 9, .inl fd2)), (t, .inl (ce, 6, .inl ft2))]) (fun u => match u with | (rh2, rt2, rs2, rv2, rk2, rp2, fd2, ft2) => []) (va_A [(h, .inr (9, [.ref d, .ref t, .int rh, .int rt, .int rs, .int rv, .int rk, .int rp])), (d, .inr (8, [.ref dr])), (dr, .inl (cd, 9, .inl fd)), (t, .inl (ce, 6, .inl ft))] sz)) (va_A [(h, .inr (9, [.ref d, .ref t, .int rh, .int rt, .int rs, .int rv, .int rk, .int rp])), (d, .inr (8, [.ref dr])), (dr, .inl (cd, 9, .inl fd)), (t, .inl (ce, 6, .inl ft))] sz)) 0 0 (va_A [(h, .inr (9, [.ref d, .ref t, .int rh, .int rt, .int rs, .int rv, .int rk, .int rp])), (d, .inr (8, [.ref dr])), (dr, .inl (cd, 9, .inl fd)), (t, .inl (ce, 6, .inl ft))] sz) := by
  refine ofC_v (cc := cX9_startAnew) (maxL := 2) (ret := none) (by decide) rfl (Nat.le_of_ble_eq_true rfl) ?_
  intro p e s m args below meth c A ls Q F hr hin hlk St hl hQ
  have hx := F.1
  have hb := F.2.1
  have hl : lv_has ls 2 [(0, .ref h)] := hl
  have St : cS G k [(h, .inr (9, [.ref d, .ref t, .int rh, .int rt, .int rs, .int rv, .int rk, .int rp])), (d, .inr (8, [.ref dr])), (dr, .inl (cd, 9, .inl fd)), (t, .inl (ce, 6, .inl ft))] [(cd, .int), (ce, .boolean)] A s s.heap [] := St
  refine lv_aload_n hx hb dX9_startAnew_0 rfl (lv_at hl 0 rfl) ?_
  refine cs_get F St 0 rfl rfl inX9 0 (by decide) kf_X9_12 rfl dX9_startAnew_1 ?_
  refine cs_v St [1, 2] [0, 3] (wc := [(d, .inr (8, [.ref dr])), (dr, .inl (cd, 9, .inl fd))]) (wr := [(h, .inr (9, [.ref d, .ref t, .int rh, .int rt, .int rs, .int rv, .int rk, .int rp])), (t, .inl (ce, 6, .inl ft))]) rfl rfl (by decide) (by decide) (va_runV (As := []) (rest := []) F (x8_forget l G k _ d dr cd fd) (cwVt F mf_X8_forget km_X9_42 rfl rfl ⟨Nat.le_of_ble_eq_true rfl, Nat.le_of_ble_eq_true rfl⟩) (cs_preV St [1, 2] rfl (by decide) [0] rfl (ci := 8) (q0 := 1) rfl rfl) rfl rfl hl.1 rfl (lv_room (Nat.le_of_ble_eq_true rfl)) dX9_startAnew_4 ⟨Nat.le_of_ble_eq_true rfl, Nat.le_of_ble_eq_true rfl⟩) (fun u_2 H locs hw St => ?_)
  obtain ⟨f2_3, rfl⟩ : ∃ z, z = u_2 := ⟨_, rfl⟩
  try dsimp only at hw
  have St : cS G k [(h, .inr (9, [.ref d, .ref t, .int rh, .int rt, .int rs, .int rv, .int rk, .int rp])), (t, .inl (ce, 6, .inl ft)), (d, .inr (8, [.ref dr])), (dr, .inl (cd, 9, .inl f2_3))] [(cd, .int), (ce, .boolean)] A s H locs := St
  refine lv_iconst (v := 0) hx hb dX9_startAnew_7 (by decide) ?_
  refine lv_istore_n (lv' := [(1, .int 0), (0, .ref h)]) hx hb dX9_startAnew_8 rfl hl (by decide) rfl (fun ls hl => ?_)
  have lp9 : ∀ (n : Nat) (i : Int32) (f9 : Nat → Int32) (H : Heap) (locs : List Loc) (ls : Array Slot), (0 ≤ i.toInt ∧ i.toInt ≤ 6) → ((6 - i.toInt).toNat) < n → cS G k [(h, .inr (9, [.ref d, .ref t, .int rh, .int rt, .int rs, .int rv, .int rk, .int rp])), (t, .inl (ce, 6, .inl f9)), (d, .inr (8, [.ref dr])), (dr, .inl (cd, 9, .inl f2_3))] [(cd, .int), (ce, .boolean)] A s H locs → lv_has ls 2 [(1, .int i), (0, .ref h)] → W p l e ({ frames := 2, cells := 0, slots := 0, locals := 80 } : Room) s m args below meth c H locs 0 0 Q (F0 m 9 ls []) := by
    intro n
    induction n with
    | zero => intro i f9 H locs ls hI hn; exact absurd hn (Nat.not_lt_zero _)
    | succ n ih =>
      intro i f9 H locs ls hI hn St hl
      obtain ⟨hI0, hI1⟩ := hI
      refine lv_iload_n hx hb dX9_startAnew_9 rfl (lv_at hl 0 rfl) ?_
      refine lv_bipush (v := 6) hx hb dX9_startAnew_10 (by decide) ?_
      refine lv_icmp_ge (tgt := 28) hx hb dX9_startAnew_12 (by decide) (fun c12 => ?_) (fun c12 => ?_)
      ·
        have i12 := ci_le (x := 6) (y := i) (show (6 : Int32).toInt = 6 by decide) rfl c12
        refine lv_aload_n hx hb dX9_startAnew_28 rfl (lv_at hl 1 rfl) ?_
        refine lv_iconst (v := 0) hx hb dX9_startAnew_29 (by decide) ?_
        refine cs_put F St 0 rfl rfl inX9 tyX9_ok nmX9 2 (by decide) kf_X9_45 rfl rfl rfl (Nat.le_of_ble_eq_true rfl) (w' := [(h, .inr (9, [.ref d, .ref t, .int 0, .int rt, .int rs, .int rv, .int rk, .int rp])), (t, .inl (ce, 6, .inl f9)), (d, .inr (8, [.ref dr])), (dr, .inl (cd, 9, .inl f2_3))]) rfl dX9_startAnew_30 (fun H locs St => ?_)
        refine lv_aload_n hx hb dX9_startAnew_33 rfl (lv_at hl 1 rfl) ?_
        refine lv_iconst (v := 0) hx hb dX9_startAnew_34 (by decide) ?_
        refine cs_put F St 0 rfl rfl inX9 tyX9_ok nmX9 6 (by decide) kf_X9_26 rfl rfl rfl (Nat.le_of_ble_eq_true rfl) (w' := [(h, .inr (9, [.ref d, .ref t, .int 0, .int rt, .int rs, .int rv, .int 0, .int rp])), (t, .inl (ce, 6, .inl f9)), (d, .inr (8, [.ref dr])), (dr, .inl (cd, 9, .inl f2_3))]) rfl dX9_startAnew_35 (fun H locs St => ?_)
        refine lv_aload_n hx hb dX9_startAnew_38 rfl (lv_at hl 1 rfl) ?_
        refine lv_iconst (v := (-1)) hx hb dX9_startAnew_39 (by decide) ?_
        refine cs_put F St 0 rfl rfl inX9 tyX9_ok nmX9 7 (by decide) kf_X9_22 rfl rfl rfl (Nat.le_of_ble_eq_true rfl) (w' := [(h, .inr (9, [.ref d, .ref t, .int 0, .int rt, .int rs, .int rv, .int 0, .int (-1)])), (t, .inl (ce, 6, .inl f9)), (d, .inr (8, [.ref dr])), (dr, .inl (cd, 9, .inl f2_3))]) rfl dX9_startAnew_40 (fun H locs St => ?_)
        exact cs_vret F hr hlk hQ St (0, rt, rs, rv, 0, (-1), f2_3, f9) (by trivial) [0, 2, 3, 1] rfl (by decide) [] rfl (by decide) (by decide) dX9_startAnew_43
      ·
        have i12 := ci_nle (x := 6) (y := i) (show (6 : Int32).toInt = 6 by decide) rfl c12
        refine lv_aload_n hx hb dX9_startAnew_15 rfl (lv_at hl 1 rfl) ?_
        refine cs_get F St 0 rfl rfl inX9 1 (by decide) kf_X9_18 rfl dX9_startAnew_16 ?_
        refine lv_iload_n hx hb dX9_startAnew_19 rfl (lv_at hl 0 rfl) ?_
        refine lv_iconst (v := 0) hx hb dX9_startAnew_20 (by decide) ?_
        refine cs_zst F St 1 1 rfl rfl (vp_in_iff.mpr ⟨by omega, by omega⟩) (w' := [(h, .inr (9, [.ref d, .ref t, .int rh, .int rt, .int rs, .int rv, .int rk, .int rp])), (t, .inl (ce, 6, .inl (upd f9 (i : Int32).toNatClampNeg (vp_nar .boolean 0)))), (d, .inr (8, [.ref dr])), (dr, .inl (cd, 9, .inl f2_3))]) rfl dX9_startAnew_21 (fun H locs St => ?_)
        obtain ⟨f_4, ef_4⟩ : ∃ zz : Nat → Int32, zz = upd f9 (i : Int32).toNatClampNeg (vp_nar .boolean 0) := ⟨_, rfl⟩
        rw [← ef_4] at St
        obtain ⟨y_5, ey_5⟩ : ∃ zz : Int32, zz = i + 1 := ⟨_, rfl⟩
        first | have jy_5 : y_5.toInt = i.toInt + 1 := (by have q9 := ci_add (x := i) rfl (show (1 : Int32).toInt = 1 by decide) ey_5; omega) | have jy_5 := ci_add (x := i) rfl (show (1 : Int32).toInt = 1 by decide) ey_5
        refine lv_iinc (v := y_5) (lv' := [(1, .int y_5), (0, .ref h)]) hx hb dX9_startAnew_22 hl (k := 0) rfl (by rw [ey_5]; rfl) (by decide) rfl (fun ls hl => ?_)
        refine lv_goto (tgt := 9) hx hb dX9_startAnew_25 (by decide) ?_
        exact ih y_5 f_4 _ _ _ ⟨by omega, by omega⟩ (by omega) St (lv_sub hl [0, 1] rfl)
  exact lp9 7 0 ft _ _ _ ⟨by decide, by decide⟩ (by decide) St (lv_sub hl [0, 1] rfl)
set_option maxHeartbeats 4000000 in
set_option maxRecDepth 100000 in
theorem x9_isBlank (l : Launch) (G : va_G) (k : Nat → Nat) (sz : Nat) (x : Int32) : Met l yX9_isBlank (Cond.code yX9_isBlank cX9_isBlank 1 (some .boolean) :: tb) ({ frames := 0, cells := 0, slots := 0, locals := 0 } : Room) (va_Pc [.int x] (cP G k [] [] sz)) (va_Qi (fun (r : Int32) (_ : Unit) => ((r = 1)) ∨ ((r = 0))) (cB G (fun (_ : Unit) => []) (fun (_ : Unit) => []) (va_A [] sz)) (va_A [] sz)) 0 0 (va_A [] sz) := by
  refine ofC_i (cc := cX9_isBlank) (maxL := 1) (ret := (some .boolean)) (by decide) rfl (Nat.le_of_ble_eq_true rfl) ?_
  intro p e s m args below meth c A ls Q F hr hin hlk St hl hQ
  have hx := F.1
  have hb := F.2.1
  have hl : lv_has ls 1 [(0, .int x)] := hl
  have St : cS G k [] [] A s s.heap [] := St
  refine lv_iload_n hx hb dX9_isBlank_0 rfl (lv_at hl 0 rfl) ?_
  refine lv_bipush (v := 32) hx hb dX9_isBlank_1 (by decide) ?_
  refine lv_icmp_eq (tgt := 12) hx hb dX9_isBlank_3 (by decide) (fun c3 => ?_) (fun c3 => ?_)
  ·
    have i3 := ci_eq (x := x) (y := 32) rfl (show (32 : Int32).toInt = 32 by decide) c3
    refine lv_iconst (v := 1) hx hb dX9_isBlank_12 (by decide) ?_
    refine lv_goto (tgt := 17) hx hb dX9_isBlank_13 (by decide) ?_
    exact cs_zret F hr hlk hQ St () (r := 1) rfl (Or.inl rfl) [] rfl (by decide) [] rfl (by decide) (by decide) dX9_isBlank_17
  ·
    have i3 := ci_ne (x := x) (y := 32) rfl (show (32 : Int32).toInt = 32 by decide) c3
    refine lv_iload_n hx hb dX9_isBlank_6 rfl (lv_at hl 0 rfl) ?_
    refine lv_bipush (v := 10) hx hb dX9_isBlank_7 (by decide) ?_
    refine lv_icmp_ne (tgt := 16) hx hb dX9_isBlank_9 (by decide) (fun c9 => ?_) (fun c9 => ?_)
    ·
      have i9 := ci_ne (x := x) (y := 10) rfl (show (10 : Int32).toInt = 10 by decide) c9
      refine lv_iconst (v := 0) hx hb dX9_isBlank_16 (by decide) ?_
      exact cs_zret F hr hlk hQ St () (r := 0) rfl (Or.inr rfl) [] rfl (by decide) [] rfl (by decide) (by decide) dX9_isBlank_17
    ·
      have i9 := ci_eq (x := x) (y := 10) rfl (show (10 : Int32).toInt = 10 by decide) c9
      refine lv_iconst (v := 1) hx hb dX9_isBlank_12 (by decide) ?_
      refine lv_goto (tgt := 17) hx hb dX9_isBlank_13 (by decide) ?_
      exact cs_zret F hr hlk hQ St () (r := 1) rfl (Or.inl rfl) [] rfl (by decide) [] rfl (by decide) (by decide) dX9_isBlank_17
set_option maxHeartbeats 4000000 in
set_option maxRecDepth 100000 in
theorem x9_isLetter (l : Launch) (G : va_G) (k : Nat → Nat) (sz : Nat) (x : Int32) : Met l yX9_isLetter (Cond.code yX9_isLetter cX9_isLetter 1 (some .boolean) :: tb) ({ frames := 0, cells := 0, slots := 0, locals := 0 } : Room) (va_Pc [.int x] (cP G k [] [] sz)) (va_Qi (fun (r : Int32) (_ : Unit) => ((r = 1)) ∨ ((r = 0))) (cB G (fun (_ : Unit) => []) (fun (_ : Unit) => []) (va_A [] sz)) (va_A [] sz)) 0 0 (va_A [] sz) := by
  refine ofC_i (cc := cX9_isLetter) (maxL := 1) (ret := (some .boolean)) (by decide) rfl (Nat.le_of_ble_eq_true rfl) ?_
  intro p e s m args below meth c A ls Q F hr hin hlk St hl hQ
  have hx := F.1
  have hb := F.2.1
  have hl : lv_has ls 1 [(0, .int x)] := hl
  have St : cS G k [] [] A s s.heap [] := St
  refine lv_iload_n hx hb dX9_isLetter_0 rfl (lv_at hl 0 rfl) ?_
  refine lv_bipush (v := 97) hx hb dX9_isLetter_1 (by decide) ?_
  refine lv_icmp_lt (tgt := 16) hx hb dX9_isLetter_3 (by decide) (fun c3 => ?_) (fun c3 => ?_)
  ·
    have i3 := ci_lt (x := x) (y := 97) rfl (show (97 : Int32).toInt = 97 by decide) c3
    refine lv_iconst (v := 0) hx hb dX9_isLetter_16 (by decide) ?_
    exact cs_zret F hr hlk hQ St () (r := 0) rfl (Or.inr rfl) [] rfl (by decide) [] rfl (by decide) (by decide) dX9_isLetter_17
  ·
    have i3 := ci_nlt (x := x) (y := 97) rfl (show (97 : Int32).toInt = 97 by decide) c3
    refine lv_iload_n hx hb dX9_isLetter_6 rfl (lv_at hl 0 rfl) ?_
    refine lv_bipush (v := 122) hx hb dX9_isLetter_7 (by decide) ?_
    refine lv_icmp_gt (tgt := 16) hx hb dX9_isLetter_9 (by decide) (fun c9 => ?_) (fun c9 => ?_)
    ·
      have i9 := ci_lt (x := 122) (y := x) (show (122 : Int32).toInt = 122 by decide) rfl c9
      refine lv_iconst (v := 0) hx hb dX9_isLetter_16 (by decide) ?_
      exact cs_zret F hr hlk hQ St () (r := 0) rfl (Or.inr rfl) [] rfl (by decide) [] rfl (by decide) (by decide) dX9_isLetter_17
    ·
      have i9 := ci_nlt (x := 122) (y := x) (show (122 : Int32).toInt = 122 by decide) rfl c9
      refine lv_iconst (v := 1) hx hb dX9_isLetter_12 (by decide) ?_
      refine lv_goto (tgt := 17) hx hb dX9_isLetter_13 (by decide) ?_
      exact cs_zret F hr hlk hQ St () (r := 1) rfl (Or.inl rfl) [] rfl (by decide) [] rfl (by decide) (by decide) dX9_isLetter_17
set_option maxHeartbeats 4000000 in
set_option maxRecDepth 100000 in
theorem x9_isDigit (l : Launch) (G : va_G) (k : Nat → Nat) (sz : Nat) (x : Int32) : Met l yX9_isDigit (Cond.code yX9_isDigit cX9_isDigit 1 (some .boolean) :: tb) ({ frames := 0, cells := 0, slots := 0, locals := 0 } : Room) (va_Pc [.int x] (cP G k [] [] sz)) (va_Qi (fun (r : Int32) (_ : Unit) => ((r = 1)) ∨ ((r = 0))) (cB G (fun (_ : Unit) => []) (fun (_ : Unit) => []) (va_A [] sz)) (va_A [] sz)) 0 0 (va_A [] sz) := by
  refine ofC_i (cc := cX9_isDigit) (maxL := 1) (ret := (some .boolean)) (by decide) rfl (Nat.le_of_ble_eq_true rfl) ?_
  intro p e s m args below meth c A ls Q F hr hin hlk St hl hQ
  have hx := F.1
  have hb := F.2.1
  have hl : lv_has ls 1 [(0, .int x)] := hl
  have St : cS G k [] [] A s s.heap [] := St
  refine lv_iload_n hx hb dX9_isDigit_0 rfl (lv_at hl 0 rfl) ?_
  refine lv_bipush (v := 48) hx hb dX9_isDigit_1 (by decide) ?_
  refine lv_icmp_lt (tgt := 16) hx hb dX9_isDigit_3 (by decide) (fun c3 => ?_) (fun c3 => ?_)
  ·
    have i3 := ci_lt (x := x) (y := 48) rfl (show (48 : Int32).toInt = 48 by decide) c3
    refine lv_iconst (v := 0) hx hb dX9_isDigit_16 (by decide) ?_
    exact cs_zret F hr hlk hQ St () (r := 0) rfl (Or.inr rfl) [] rfl (by decide) [] rfl (by decide) (by decide) dX9_isDigit_17
  ·
    have i3 := ci_nlt (x := x) (y := 48) rfl (show (48 : Int32).toInt = 48 by decide) c3
    refine lv_iload_n hx hb dX9_isDigit_6 rfl (lv_at hl 0 rfl) ?_
    refine lv_bipush (v := 57) hx hb dX9_isDigit_7 (by decide) ?_
    refine lv_icmp_gt (tgt := 16) hx hb dX9_isDigit_9 (by decide) (fun c9 => ?_) (fun c9 => ?_)
    ·
      have i9 := ci_lt (x := 57) (y := x) (show (57 : Int32).toInt = 57 by decide) rfl c9
      refine lv_iconst (v := 0) hx hb dX9_isDigit_16 (by decide) ?_
      exact cs_zret F hr hlk hQ St () (r := 0) rfl (Or.inr rfl) [] rfl (by decide) [] rfl (by decide) (by decide) dX9_isDigit_17
    ·
      have i9 := ci_nlt (x := 57) (y := x) (show (57 : Int32).toInt = 57 by decide) rfl c9
      refine lv_iconst (v := 1) hx hb dX9_isDigit_12 (by decide) ?_
      refine lv_goto (tgt := 17) hx hb dX9_isDigit_13 (by decide) ?_
      exact cs_zret F hr hlk hQ St () (r := 1) rfl (Or.inl rfl) [] rfl (by decide) [] rfl (by decide) (by decide) dX9_isDigit_17
set_option maxHeartbeats 4000000 in
set_option maxRecDepth 100000 in
theorem x9_isInBounds (l : Launch) (G : va_G) (k : Nat → Nat) (sz : Nat) (x : Int32) (y : Int32) : Met l yX9_isInBounds (Cond.code yX9_isInBounds cX9_isInBounds 2 (some .boolean) :: tb) ({ frames := 0, cells := 0, slots := 0, locals := 0 } : Room) (va_Pc [.int x, .int y] (cP G k [] [] sz)) (va_Qi (fun (r : Int32) (_ : Unit) => ((r = 1)) ∨ ((r = 0))) (cB G (fun (_ : Unit) => []) (fun (_ : Unit) => []) (va_A [] sz)) (va_A [] sz)) 0 0 (va_A [] sz) := by
  refine ofC_i (cc := cX9_isInBounds) (maxL := 2) (ret := (some .boolean)) (by decide) rfl (Nat.le_of_ble_eq_true rfl) ?_
  intro p e s m args below meth c A ls Q F hr hin hlk St hl hQ
  have hx := F.1
  have hb := F.2.1
  have hl : lv_has ls 2 [(0, .int x), (1, .int y)] := hl
  have St : cS G k [] [] A s s.heap [] := St
  refine lv_iload_n hx hb dX9_isInBounds_0 rfl (lv_at hl 0 rfl) ?_
  refine lv_if_lt (tgt := 42) hx hb dX9_isInBounds_1 (by decide) (fun c1 => ?_) (fun c1 => ?_)
  ·
    have i1 := ci_lt (x := x) (y := 0) rfl (show (0 : Int32).toInt = 0 by decide) c1
    refine lv_iconst (v := 0) hx hb dX9_isInBounds_42 (by decide) ?_
    exact cs_zret F hr hlk hQ St () (r := 0) rfl (Or.inr rfl) [] rfl (by decide) [] rfl (by decide) (by decide) dX9_isInBounds_43
  ·
    have i1 := ci_nlt (x := x) (y := 0) rfl (show (0 : Int32).toInt = 0 by decide) c1
    refine lv_iload_n hx hb dX9_isInBounds_4 rfl (lv_at hl 0 rfl) ?_
    refine va_gets hx hb (St.2.2.2.2.2.2.2.2.2.2.2.2.2.2.2.2.1) St.toS F.2.2.2.1 (F.2.2.2.2 _ kf_X9_84) (fun _ h => h) dX9_isInBounds_5 ?_
    refine va_tlen hx hb (St.2.2.2.2.2.2.2.2.2.2.2.2.2.2.2.2.2.1) St.toS (v := 8) rfl dX9_isInBounds_8 ?_
    refine lv_icmp_ge (tgt := 42) hx hb dX9_isInBounds_9 (by decide) (fun c9 => ?_) (fun c9 => ?_)
    ·
      have i9 := ci_le (x := 8) (y := x) (show (8 : Int32).toInt = 8 by decide) rfl c9
      refine lv_iconst (v := 0) hx hb dX9_isInBounds_42 (by decide) ?_
      exact cs_zret F hr hlk hQ St () (r := 0) rfl (Or.inr rfl) [] rfl (by decide) [] rfl (by decide) (by decide) dX9_isInBounds_43
    ·
      have i9 := ci_nle (x := 8) (y := x) (show (8 : Int32).toInt = 8 by decide) rfl c9
      refine lv_iload_n hx hb dX9_isInBounds_12 rfl (lv_at hl 0 rfl) ?_
      refine va_gets hx hb (St.2.2.2.2.2.2.2.2.2.2.2.2.2.2.2.2.2.2.1) St.toS F.2.2.2.1 (F.2.2.2.2 _ kf_X9_87) (fun _ h => h) dX9_isInBounds_13 ?_
      refine va_tlen hx hb (St.2.2.2.2.2.2.2.2.2.2.2.2.2.2.2.2.2.2.2.1) St.toS (v := 8) rfl dX9_isInBounds_16 ?_
      refine lv_icmp_ge (tgt := 42) hx hb dX9_isInBounds_17 (by decide) (fun c17 => ?_) (fun c17 => ?_)
      ·
        have i17 := ci_le (x := 8) (y := x) (show (8 : Int32).toInt = 8 by decide) rfl c17
        refine lv_iconst (v := 0) hx hb dX9_isInBounds_42 (by decide) ?_
        exact cs_zret F hr hlk hQ St () (r := 0) rfl (Or.inr rfl) [] rfl (by decide) [] rfl (by decide) (by decide) dX9_isInBounds_43
      ·
        have i17 := ci_nle (x := 8) (y := x) (show (8 : Int32).toInt = 8 by decide) rfl c17
        refine lv_iload_n hx hb dX9_isInBounds_20 rfl (lv_at hl 1 rfl) ?_
        refine va_gets hx hb (St.2.2.2.2.2.2.2.2.2.2.2.2.2.2.2.2.1) St.toS F.2.2.2.1 (F.2.2.2.2 _ kf_X9_84) (fun _ h => h) dX9_isInBounds_21 ?_
        refine lv_iload_n hx hb dX9_isInBounds_24 rfl (lv_at hl 0 rfl) ?_
        refine va_ti hx hb (St.2.2.2.2.2.2.2.2.2.2.2.2.2.2.2.2.2.1) St.toS (vp_in_iff.mpr ⟨by omega, by omega⟩) (v := .int (tLeast (x : Int32).toNatClampNeg)) rfl dX9_isInBounds_25 ?_
        refine lv_topi (fun y_1 ey_1 => ?_)
        refine lv_icmp_lt (tgt := 42) hx hb dX9_isInBounds_26 (by decide) (fun c26 => ?_) (fun c26 => ?_)
        ·
          have i26 := ci_lt (x := y) (y := y_1) rfl rfl c26
          refine lv_iconst (v := 0) hx hb dX9_isInBounds_42 (by decide) ?_
          exact cs_zret F hr hlk hQ St () (r := 0) rfl (Or.inr rfl) [] rfl (by decide) [] rfl (by decide) (by decide) dX9_isInBounds_43
        ·
          have i26 := ci_nlt (x := y) (y := y_1) rfl rfl c26
          refine lv_iload_n hx hb dX9_isInBounds_29 rfl (lv_at hl 1 rfl) ?_
          refine va_gets hx hb (St.2.2.2.2.2.2.2.2.2.2.2.2.2.2.2.2.2.2.1) St.toS F.2.2.2.1 (F.2.2.2.2 _ kf_X9_87) (fun _ h => h) dX9_isInBounds_30 ?_
          refine lv_iload_n hx hb dX9_isInBounds_33 rfl (lv_at hl 0 rfl) ?_
          refine va_ti hx hb (St.2.2.2.2.2.2.2.2.2.2.2.2.2.2.2.2.2.2.2.1) St.toS (vp_in_iff.mpr ⟨by omega, by omega⟩) (v := .int (tMost (x : Int32).toNatClampNeg)) rfl dX9_isInBounds_34 ?_
          refine lv_topi (fun y_2 ey_2 => ?_)
          refine lv_icmp_gt (tgt := 42) hx hb dX9_isInBounds_35 (by decide) (fun c35 => ?_) (fun c35 => ?_)
          ·
            have i35 := ci_lt (x := y_2) (y := y) rfl rfl c35
            refine lv_iconst (v := 0) hx hb dX9_isInBounds_42 (by decide) ?_
            exact cs_zret F hr hlk hQ St () (r := 0) rfl (Or.inr rfl) [] rfl (by decide) [] rfl (by decide) (by decide) dX9_isInBounds_43
          ·
            have i35 := ci_nlt (x := y_2) (y := y) rfl rfl c35
            refine lv_iconst (v := 1) hx hb dX9_isInBounds_38 (by decide) ?_
            refine lv_goto (tgt := 43) hx hb dX9_isInBounds_39 (by decide) ?_
            exact cs_zret F hr hlk hQ St () (r := 1) rfl (Or.inl rfl) [] rfl (by decide) [] rfl (by decide) (by decide) dX9_isInBounds_43
set_option maxHeartbeats 4000000 in
set_option maxRecDepth 100000 in
theorem x9_readWord (l : Launch) (G : va_G) (k : Nat → Nat) (sz : Nat) (h : Nat) (d : Nat) (t : Nat) (rh : Int32) (rt : Int32) (rs : Int32) (rv : Int32) (rk : Int32) (rp : Int32) (h2 : Nat) (b2 : Nat) (cb : ClassId) (nn : Int32) (f : Nat → Int32) : Met l yX9_readWord (Cond.code yX9_readWord cX9_readWord 2 none :: tb) ({ frames := 1, cells := 0, slots := 0, locals := 21 } : Room) (va_Pc [.ref h, .ref h2] (cP G k [(h, .inr (9, [.ref d, .ref t, .int rh, .int rt, .int rs, .int rv, .int rk, .int rp])), (h2, .inr (6, [.ref b2, .int nn])), (b2, .inl (cb, 400, .inl f))] [(cb, .byte)] sz)) (va_Qv (fun (u : Int32 × Int32 × Int32 × Int32 × Int32 × Int32) => match u with | (rh2, rt2, rs2, rv2, rk2, rp2) => True) (cB G (fun u => match u with | (rh2, rt2, rs2, rv2, rk2, rp2) => [(h, .inr (9, [.ref d, .ref t, .int rh2, .int rt2, .int rs2, .int rv2, .int rk2, .int rp2])), (h2, .inr (6, [.ref b2, .int nn])), (b2, .inl (cb, 400, .inl f))]) (fun u => match u with | (rh2, rt2, rs2, rv2, rk2, rp2) => []) (va_A [(h, .inr (9, [.ref d, .ref t, .int rh, .int rt, .int rs, .int rv, .int rk, .int rp])), (h2, .inr (6, [.ref b2, .int nn])), (b2, .inl (cb, 400, .inl f))] sz)) (va_A [(h, .inr (9, [.ref d, .ref t, .int rh, .int rt, .int rs, .int rv, .int rk, .int rp])), (h2, .inr (6, [.ref b2, .int nn])), (b2, .inl (cb, 400, .inl f))] sz)) 0 0 (va_A [(h, .inr (9, [.ref d, .ref t, .int rh, .int rt, .int rs, .int rv, .int rk, .int rp])), (h2, .inr (6, [.ref b2, .int nn])), (b2, .inl (cb, 400, .inl f))] sz) := by
  refine ofC_v (cc := cX9_readWord) (maxL := 2) (ret := none) (by decide) rfl (Nat.le_of_ble_eq_true rfl) ?_
  intro p e s m args below meth c A ls Q F hr hin hlk St hl hQ
  have hx := F.1
  have hb := F.2.1
  have hl : lv_has ls 2 [(0, .ref h), (1, .ref h2)] := hl
  have St : cS G k [(h, .inr (9, [.ref d, .ref t, .int rh, .int rt, .int rs, .int rv, .int rk, .int rp])), (h2, .inr (6, [.ref b2, .int nn])), (b2, .inl (cb, 400, .inl f))] [(cb, .byte)] A s s.heap [] := St
  have lp0 : ∀ (n : Nat) (bh : Int32) (H : Heap) (locs : List Loc) (ls : Array Slot), (True) → ((nn.toInt - bh.toInt).toNat) < n → cS G k [(h, .inr (9, [.ref d, .ref t, .int bh, .int rt, .int rs, .int rv, .int rk, .int rp])), (h2, .inr (6, [.ref b2, .int nn])), (b2, .inl (cb, 400, .inl f))] [(cb, .byte)] A s H locs → lv_has ls 2 [(0, .ref h), (1, .ref h2)] → W p l e ({ frames := 1, cells := 0, slots := 0, locals := 21 } : Room) s m args below meth c H locs 0 0 Q (F0 m 0 ls []) := by
    intro n
    induction n with
    | zero => intro bh H locs ls hI hn; exact absurd hn (Nat.not_lt_zero _)
    | succ n ih =>
      intro bh H locs ls hI hn St hl
      have rgb := ci_rng nn
      refine lv_aload_n hx hb dX9_readWord_0 rfl (lv_at hl 0 rfl) ?_
      refine cs_get F St 0 rfl rfl inX9 2 (by decide) kf_X9_45 rfl dX9_readWord_1 ?_
      refine lv_aload_n hx hb dX9_readWord_4 rfl (lv_at hl 1 rfl) ?_
      refine cs_i St [1] [0, 2] (wc := [(h2, .inr (6, [.ref b2, .int nn]))]) (wr := [(h, .inr (9, [.ref d, .ref t, .int bh, .int rt, .int rs, .int rv, .int rk, .int rp])), (b2, .inl (cb, 400, .inl f))]) rfl rfl (by decide) (by decide) (va_runV (As := []) (rest := [.int bh]) F (x6_length l G k _ h2 b2 nn) (cwVt F mf_X6_length km_X9_126 rfl rfl ⟨Nat.le_of_ble_eq_true rfl, Nat.le_of_ble_eq_true rfl⟩) (cs_preV St [1] rfl (by decide) [] rfl (ci := 6) (q0 := 1) rfl rfl) rfl rfl hl.1 rfl (lv_room (Nat.le_of_ble_eq_true rfl)) dX9_readWord_5 ⟨Nat.le_of_ble_eq_true rfl, Nat.le_of_ble_eq_true rfl⟩) (fun r_1 u_2 H locs hw St => ?_)
      try dsimp only at hw
      have z_3 := hw
      subst r_1
      have St : cS G k [(h, .inr (9, [.ref d, .ref t, .int bh, .int rt, .int rs, .int rv, .int rk, .int rp])), (b2, .inl (cb, 400, .inl f)), (h2, .inr (6, [.ref b2, .int nn]))] [(cb, .byte)] A s H locs := St
      refine lv_icmp_ge (tgt := 38) hx hb dX9_readWord_8 (by decide) (fun c8 => ?_) (fun c8 => ?_)
      ·
        have i8 := ci_le (x := nn) (y := bh) rfl rfl c8
        refine lv_aload_n hx hb dX9_readWord_38 rfl (lv_at hl 0 rfl) ?_
        refine lv_iconst (v := 1) hx hb dX9_readWord_39 (by decide) ?_
        refine cs_put F St 0 rfl rfl inX9 tyX9_ok nmX9 3 (by decide) kf_X9_36 rfl rfl rfl (Nat.le_of_ble_eq_true rfl) (w' := [(h, .inr (9, [.ref d, .ref t, .int bh, .int 1, .int rs, .int rv, .int rk, .int rp])), (b2, .inl (cb, 400, .inl f)), (h2, .inr (6, [.ref b2, .int nn]))]) rfl dX9_readWord_40 (fun H locs St => ?_)
        exact cs_vret F hr hlk hQ St (bh, 1, rs, rv, rk, rp) (by trivial) [0, 2, 1] rfl (by decide) [] rfl (by decide) (by decide) dX9_readWord_43
      ·
        have i8 := ci_nle (x := nn) (y := bh) rfl rfl c8
        refine lv_aload_n hx hb dX9_readWord_11 rfl (lv_at hl 1 rfl) ?_
        refine lv_aload_n hx hb dX9_readWord_12 rfl (lv_at hl 0 rfl) ?_
        refine cs_get F St 0 rfl rfl inX9 2 (by decide) kf_X9_45 rfl dX9_readWord_13 ?_
        refine cs_i St [2, 1] [0] (wc := [(h2, .inr (6, [.ref b2, .int nn])), (b2, .inl (cb, 400, .inl f))]) (wr := [(h, .inr (9, [.ref d, .ref t, .int bh, .int rt, .int rs, .int rv, .int rk, .int rp]))]) rfl rfl (by decide) (by decide) (va_runV (As := [.int bh]) (rest := []) F (x6_at l G k _ h2 b2 cb nn f bh) (cwVt F mf_X6_at km_X9_116 rfl rfl ⟨Nat.le_of_ble_eq_true rfl, Nat.le_of_ble_eq_true rfl⟩) (cs_preV St [2, 1] rfl (by decide) [0] rfl (ci := 6) (q0 := 2) rfl rfl) rfl rfl hl.1 rfl (lv_room (Nat.le_of_ble_eq_true rfl)) dX9_readWord_16 ⟨Nat.le_of_ble_eq_true rfl, Nat.le_of_ble_eq_true rfl⟩) (fun r_4 u_5 H locs hw St => ?_)
        try dsimp only at hw
        have St : cS G k [(h, .inr (9, [.ref d, .ref t, .int bh, .int rt, .int rs, .int rv, .int rk, .int rp])), (h2, .inr (6, [.ref b2, .int nn])), (b2, .inl (cb, 400, .inl f))] [(cb, .byte)] A s H locs := St
        refine cs_i St [] [0, 1, 2] (wc := []) (wr := [(h, .inr (9, [.ref d, .ref t, .int bh, .int rt, .int rs, .int rv, .int rk, .int rp])), (h2, .inr (6, [.ref b2, .int nn])), (b2, .inl (cb, 400, .inl f))]) rfl rfl (by decide) (by decide) (va_runS (As := [.int r_4]) (rest := []) F (x9_isLetter l G k _ r_4) (cwSt F mf_X9_isLetter km_X9_131 rfl rfl ⟨Nat.le_of_ble_eq_true rfl, Nat.le_of_ble_eq_true rfl⟩) (cs_pre St [] rfl (by decide) [] rfl) rfl rfl hl.1 rfl (lv_room (Nat.le_of_ble_eq_true rfl)) dX9_readWord_19 ⟨Nat.le_of_ble_eq_true rfl, Nat.le_of_ble_eq_true rfl⟩) (fun r_6 u_7 H locs hw St => ?_)
        try dsimp only at hw
        rcases hw with z_8 | z_9
        ·
          subst r_6
          have St : cS G k [(h, .inr (9, [.ref d, .ref t, .int bh, .int rt, .int rs, .int rv, .int rk, .int rp])), (h2, .inr (6, [.ref b2, .int nn])), (b2, .inl (cb, 400, .inl f))] [(cb, .byte)] A s H locs := St
          refine lv_if_eq (tgt := 38) hx hb dX9_readWord_22 (by decide) (fun c22 => ?_) (fun c22 => ?_)
          · exact absurd c22 (by decide)
          refine lv_aload_n hx hb dX9_readWord_25 rfl (lv_at hl 0 rfl) ?_
          refine lv_dup hx hb dX9_readWord_26 rfl ?_
          refine cs_get F St 0 rfl rfl inX9 2 (by decide) kf_X9_45 rfl dX9_readWord_27 ?_
          refine lv_iconst (v := 1) hx hb dX9_readWord_30 (by decide) ?_
          refine lv_iadd hx hb dX9_readWord_31 ?_
          refine lv_topi (fun y_10 ey_10 => ?_)
          first | have jy_10 : y_10.toInt = bh.toInt + 1 := (by have q9 := ci_add (x := bh) (y := 1) rfl (show (1 : Int32).toInt = 1 by decide) ey_10; omega) | have jy_10 := ci_add (x := bh) (y := 1) rfl (show (1 : Int32).toInt = 1 by decide) ey_10
          refine cs_put F St 0 rfl rfl inX9 tyX9_ok nmX9 2 (by decide) kf_X9_45 rfl rfl rfl (Nat.le_of_ble_eq_true rfl) (w' := [(h, .inr (9, [.ref d, .ref t, .int y_10, .int rt, .int rs, .int rv, .int rk, .int rp])), (h2, .inr (6, [.ref b2, .int nn])), (b2, .inl (cb, 400, .inl f))]) rfl dX9_readWord_32 (fun H locs St => ?_)
          refine lv_goto (tgt := 0) hx hb dX9_readWord_35 (by decide) ?_
          exact ih y_10 _ _ _ trivial (by omega) St (lv_sub hl [0, 1] rfl)
        ·
          subst r_6
          have St : cS G k [(h, .inr (9, [.ref d, .ref t, .int bh, .int rt, .int rs, .int rv, .int rk, .int rp])), (h2, .inr (6, [.ref b2, .int nn])), (b2, .inl (cb, 400, .inl f))] [(cb, .byte)] A s H locs := St
          refine lv_if_eq (tgt := 38) hx hb dX9_readWord_22 (by decide) (fun c22 => ?_) (fun c22 => ?_)
          rotate_left
          · exact absurd (by decide) c22
          refine lv_aload_n hx hb dX9_readWord_38 rfl (lv_at hl 0 rfl) ?_
          refine lv_iconst (v := 1) hx hb dX9_readWord_39 (by decide) ?_
          refine cs_put F St 0 rfl rfl inX9 tyX9_ok nmX9 3 (by decide) kf_X9_36 rfl rfl rfl (Nat.le_of_ble_eq_true rfl) (w' := [(h, .inr (9, [.ref d, .ref t, .int bh, .int 1, .int rs, .int rv, .int rk, .int rp])), (h2, .inr (6, [.ref b2, .int nn])), (b2, .inl (cb, 400, .inl f))]) rfl dX9_readWord_40 (fun H locs St => ?_)
          exact cs_vret F hr hlk hQ St (bh, 1, rs, rv, rk, rp) (by trivial) [0, 1, 2] rfl (by decide) [] rfl (by decide) (by decide) dX9_readWord_43
  exact lp0 ((nn.toInt - rh.toInt).toNat + 1) rh _ _ _ trivial (Nat.lt_succ_self _) St (lv_sub hl [0, 1] rfl)
set_option maxHeartbeats 4000000 in
set_option maxRecDepth 100000 in
theorem x9_readNumber (l : Launch) (G : va_G) (k : Nat → Nat) (sz : Nat) (h : Nat) (d : Nat) (t : Nat) (rh : Int32) (rt : Int32) (rs : Int32) (rv : Int32) (rk : Int32) (rp : Int32) (h2 : Nat) (b2 : Nat) (cb : ClassId) (nn : Int32) (f : Nat → Int32) : Met l yX9_readNumber (Cond.code yX9_readNumber cX9_readNumber 2 none :: tb) ({ frames := 1, cells := 0, slots := 0, locals := 21 } : Room) (va_Pc [.ref h, .ref h2] (cP G k [(h, .inr (9, [.ref d, .ref t, .int rh, .int rt, .int rs, .int rv, .int rk, .int rp])), (h2, .inr (6, [.ref b2, .int nn])), (b2, .inl (cb, 400, .inl f))] [(cb, .byte)] sz)) (va_Qv (fun (u : Int32 × Int32 × Int32 × Int32 × Int32 × Int32) => match u with | (rh2, rt2, rs2, rv2, rk2, rp2) => True) (cB G (fun u => match u with | (rh2, rt2, rs2, rv2, rk2, rp2) => [(h, .inr (9, [.ref d, .ref t, .int rh2, .int rt2, .int rs2, .int rv2, .int rk2, .int rp2])), (h2, .inr (6, [.ref b2, .int nn])), (b2, .inl (cb, 400, .inl f))]) (fun u => match u with | (rh2, rt2, rs2, rv2, rk2, rp2) => []) (va_A [(h, .inr (9, [.ref d, .ref t, .int rh, .int rt, .int rs, .int rv, .int rk, .int rp])), (h2, .inr (6, [.ref b2, .int nn])), (b2, .inl (cb, 400, .inl f))] sz)) (va_A [(h, .inr (9, [.ref d, .ref t, .int rh, .int rt, .int rs, .int rv, .int rk, .int rp])), (h2, .inr (6, [.ref b2, .int nn])), (b2, .inl (cb, 400, .inl f))] sz)) 0 0 (va_A [(h, .inr (9, [.ref d, .ref t, .int rh, .int rt, .int rs, .int rv, .int rk, .int rp])), (h2, .inr (6, [.ref b2, .int nn])), (b2, .inl (cb, 400, .inl f))] sz) := by
  refine ofC_v (cc := cX9_readNumber) (maxL := 2) (ret := none) (by decide) rfl (Nat.le_of_ble_eq_true rfl) ?_
  intro p e s m args below meth c A ls Q F hr hin hlk St hl hQ
  have hx := F.1
  have hb := F.2.1
  have hl : lv_has ls 2 [(0, .ref h), (1, .ref h2)] := hl
  have St : cS G k [(h, .inr (9, [.ref d, .ref t, .int rh, .int rt, .int rs, .int rv, .int rk, .int rp])), (h2, .inr (6, [.ref b2, .int nn])), (b2, .inl (cb, 400, .inl f))] [(cb, .byte)] A s s.heap [] := St
  refine lv_aload_n hx hb dX9_readNumber_0 rfl (lv_at hl 0 rfl) ?_
  refine lv_iconst (v := 0) hx hb dX9_readNumber_1 (by decide) ?_
  refine cs_put F St 0 rfl rfl inX9 tyX9_ok nmX9 5 (by decide) kf_X9_73 rfl rfl rfl (Nat.le_of_ble_eq_true rfl) (w' := [(h, .inr (9, [.ref d, .ref t, .int rh, .int rt, .int rs, .int 0, .int rk, .int rp])), (h2, .inr (6, [.ref b2, .int nn])), (b2, .inl (cb, 400, .inl f))]) rfl dX9_readNumber_2 (fun H locs St => ?_)
  have lp5 : ∀ (n : Nat) (bh : Int32) (vl : Int32) (H : Heap) (locs : List Loc) (ls : Array Slot), (True) → ((nn.toInt - bh.toInt).toNat) < n → cS G k [(h, .inr (9, [.ref d, .ref t, .int bh, .int rt, .int rs, .int vl, .int rk, .int rp])), (h2, .inr (6, [.ref b2, .int nn])), (b2, .inl (cb, 400, .inl f))] [(cb, .byte)] A s H locs → lv_has ls 2 [(0, .ref h), (1, .ref h2)] → W p l e ({ frames := 1, cells := 0, slots := 0, locals := 21 } : Room) s m args below meth c H locs 0 0 Q (F0 m 5 ls []) := by
    intro n
    induction n with
    | zero => intro bh vl H locs ls hI hn; exact absurd hn (Nat.not_lt_zero _)
    | succ n ih =>
      intro bh vl H locs ls hI hn St hl
      have rgb := ci_rng nn
      refine lv_aload_n hx hb dX9_readNumber_5 rfl (lv_at hl 0 rfl) ?_
      refine cs_get F St 0 rfl rfl inX9 2 (by decide) kf_X9_45 rfl dX9_readNumber_6 ?_
      refine lv_aload_n hx hb dX9_readNumber_9 rfl (lv_at hl 1 rfl) ?_
      refine cs_i St [1] [0, 2] (wc := [(h2, .inr (6, [.ref b2, .int nn]))]) (wr := [(h, .inr (9, [.ref d, .ref t, .int bh, .int rt, .int rs, .int vl, .int rk, .int rp])), (b2, .inl (cb, 400, .inl f))]) rfl rfl (by decide) (by decide) (va_runV (As := []) (rest := [.int bh]) F (x6_length l G k _ h2 b2 nn) (cwVt F mf_X6_length km_X9_126 rfl rfl ⟨Nat.le_of_ble_eq_true rfl, Nat.le_of_ble_eq_true rfl⟩) (cs_preV St [1] rfl (by decide) [] rfl (ci := 6) (q0 := 1) rfl rfl) rfl rfl hl.1 rfl (lv_room (Nat.le_of_ble_eq_true rfl)) dX9_readNumber_10 ⟨Nat.le_of_ble_eq_true rfl, Nat.le_of_ble_eq_true rfl⟩) (fun r_1 u_2 H locs hw St => ?_)
      try dsimp only at hw
      have z_3 := hw
      subst r_1
      have St : cS G k [(h, .inr (9, [.ref d, .ref t, .int bh, .int rt, .int rs, .int vl, .int rk, .int rp])), (b2, .inl (cb, 400, .inl f)), (h2, .inr (6, [.ref b2, .int nn]))] [(cb, .byte)] A s H locs := St
      refine lv_icmp_ge (tgt := 80) hx hb dX9_readNumber_13 (by decide) (fun c13 => ?_) (fun c13 => ?_)
      ·
        have i13 := ci_le (x := nn) (y := bh) rfl rfl c13
        refine lv_aload_n hx hb dX9_readNumber_80 rfl (lv_at hl 0 rfl) ?_
        refine lv_aload_n hx hb dX9_readNumber_81 rfl (lv_at hl 0 rfl) ?_
        refine cs_get F St 0 rfl rfl inX9 2 (by decide) kf_X9_45 rfl dX9_readNumber_82 ?_
        refine lv_aload_n hx hb dX9_readNumber_85 rfl (lv_at hl 0 rfl) ?_
        refine cs_get F St 0 rfl rfl inX9 4 (by decide) kf_X9_48 rfl dX9_readNumber_86 ?_
        refine lv_isub hx hb dX9_readNumber_89 ?_
        refine lv_topi (fun y_4 ey_4 => ?_)
        first | have jy_4 : y_4.toInt = bh.toInt - rs.toInt := (by have q9 := ci_sub (x := bh) (y := rs) rfl rfl ey_4; omega) | have jy_4 := ci_sub (x := bh) (y := rs) rfl rfl ey_4
        refine lv_bipush (v := 6) hx hb dX9_readNumber_90 (by decide) ?_
        refine lv_icmp_gt (tgt := 99) hx hb dX9_readNumber_92 (by decide) (fun c92 => ?_) (fun c92 => ?_)
        ·
          have i92 := ci_lt (x := 6) (y := y_4) (show (6 : Int32).toInt = 6 by decide) rfl c92
          refine lv_iconst (v := 4) hx hb dX9_readNumber_99 (by decide) ?_
          refine cs_put F St 0 rfl rfl inX9 tyX9_ok nmX9 3 (by decide) kf_X9_36 rfl rfl rfl (Nat.le_of_ble_eq_true rfl) (w' := [(h, .inr (9, [.ref d, .ref t, .int bh, .int 4, .int rs, .int vl, .int rk, .int rp])), (b2, .inl (cb, 400, .inl f)), (h2, .inr (6, [.ref b2, .int nn]))]) rfl dX9_readNumber_100 (fun H locs St => ?_)
          exact cs_vret F hr hlk hQ St (bh, 4, rs, vl, rk, rp) (by trivial) [0, 2, 1] rfl (by decide) [] rfl (by decide) (by decide) dX9_readNumber_103
        ·
          have i92 := ci_nlt (x := 6) (y := y_4) (show (6 : Int32).toInt = 6 by decide) rfl c92
          refine lv_iconst (v := 2) hx hb dX9_readNumber_95 (by decide) ?_
          refine lv_goto (tgt := 100) hx hb dX9_readNumber_96 (by decide) ?_
          refine cs_put F St 0 rfl rfl inX9 tyX9_ok nmX9 3 (by decide) kf_X9_36 rfl rfl rfl (Nat.le_of_ble_eq_true rfl) (w' := [(h, .inr (9, [.ref d, .ref t, .int bh, .int 2, .int rs, .int vl, .int rk, .int rp])), (b2, .inl (cb, 400, .inl f)), (h2, .inr (6, [.ref b2, .int nn]))]) rfl dX9_readNumber_100 (fun H locs St => ?_)
          exact cs_vret F hr hlk hQ St (bh, 2, rs, vl, rk, rp) (by trivial) [0, 2, 1] rfl (by decide) [] rfl (by decide) (by decide) dX9_readNumber_103
      ·
        have i13 := ci_nle (x := nn) (y := bh) rfl rfl c13
        refine lv_aload_n hx hb dX9_readNumber_16 rfl (lv_at hl 1 rfl) ?_
        refine lv_aload_n hx hb dX9_readNumber_17 rfl (lv_at hl 0 rfl) ?_
        refine cs_get F St 0 rfl rfl inX9 2 (by decide) kf_X9_45 rfl dX9_readNumber_18 ?_
        refine cs_i St [2, 1] [0] (wc := [(h2, .inr (6, [.ref b2, .int nn])), (b2, .inl (cb, 400, .inl f))]) (wr := [(h, .inr (9, [.ref d, .ref t, .int bh, .int rt, .int rs, .int vl, .int rk, .int rp]))]) rfl rfl (by decide) (by decide) (va_runV (As := [.int bh]) (rest := []) F (x6_at l G k _ h2 b2 cb nn f bh) (cwVt F mf_X6_at km_X9_116 rfl rfl ⟨Nat.le_of_ble_eq_true rfl, Nat.le_of_ble_eq_true rfl⟩) (cs_preV St [2, 1] rfl (by decide) [0] rfl (ci := 6) (q0 := 2) rfl rfl) rfl rfl hl.1 rfl (lv_room (Nat.le_of_ble_eq_true rfl)) dX9_readNumber_21 ⟨Nat.le_of_ble_eq_true rfl, Nat.le_of_ble_eq_true rfl⟩) (fun r_5 u_6 H locs hw St => ?_)
        try dsimp only at hw
        have St : cS G k [(h, .inr (9, [.ref d, .ref t, .int bh, .int rt, .int rs, .int vl, .int rk, .int rp])), (h2, .inr (6, [.ref b2, .int nn])), (b2, .inl (cb, 400, .inl f))] [(cb, .byte)] A s H locs := St
        refine cs_i St [] [0, 1, 2] (wc := []) (wr := [(h, .inr (9, [.ref d, .ref t, .int bh, .int rt, .int rs, .int vl, .int rk, .int rp])), (h2, .inr (6, [.ref b2, .int nn])), (b2, .inl (cb, 400, .inl f))]) rfl rfl (by decide) (by decide) (va_runS (As := [.int r_5]) (rest := []) F (x9_isDigit l G k _ r_5) (cwSt F mf_X9_isDigit km_X9_137 rfl rfl ⟨Nat.le_of_ble_eq_true rfl, Nat.le_of_ble_eq_true rfl⟩) (cs_pre St [] rfl (by decide) [] rfl) rfl rfl hl.1 rfl (lv_room (Nat.le_of_ble_eq_true rfl)) dX9_readNumber_24 ⟨Nat.le_of_ble_eq_true rfl, Nat.le_of_ble_eq_true rfl⟩) (fun r_7 u_8 H locs hw St => ?_)
        try dsimp only at hw
        rcases hw with z_9 | z_10
        ·
          subst r_7
          have St : cS G k [(h, .inr (9, [.ref d, .ref t, .int bh, .int rt, .int rs, .int vl, .int rk, .int rp])), (h2, .inr (6, [.ref b2, .int nn])), (b2, .inl (cb, 400, .inl f))] [(cb, .byte)] A s H locs := St
          refine lv_if_eq (tgt := 80) hx hb dX9_readNumber_27 (by decide) (fun c27 => ?_) (fun c27 => ?_)
          · exact absurd c27 (by decide)
          refine lv_aload_n hx hb dX9_readNumber_30 rfl (lv_at hl 0 rfl) ?_
          refine cs_get F St 0 rfl rfl inX9 2 (by decide) kf_X9_45 rfl dX9_readNumber_31 ?_
          refine lv_aload_n hx hb dX9_readNumber_34 rfl (lv_at hl 0 rfl) ?_
          refine cs_get F St 0 rfl rfl inX9 4 (by decide) kf_X9_48 rfl dX9_readNumber_35 ?_
          refine lv_isub hx hb dX9_readNumber_38 ?_
          refine lv_topi (fun y_11 ey_11 => ?_)
          first | have jy_11 : y_11.toInt = bh.toInt - rs.toInt := (by have q9 := ci_sub (x := bh) (y := rs) rfl rfl ey_11; omega) | have jy_11 := ci_sub (x := bh) (y := rs) rfl rfl ey_11
          refine lv_bipush (v := 6) hx hb dX9_readNumber_39 (by decide) ?_
          refine lv_icmp_ge (tgt := 67) hx hb dX9_readNumber_41 (by decide) (fun c41 => ?_) (fun c41 => ?_)
          ·
            have i41 := ci_le (x := 6) (y := y_11) (show (6 : Int32).toInt = 6 by decide) rfl c41
            refine lv_aload_n hx hb dX9_readNumber_67 rfl (lv_at hl 0 rfl) ?_
            refine lv_dup hx hb dX9_readNumber_68 rfl ?_
            refine cs_get F St 0 rfl rfl inX9 2 (by decide) kf_X9_45 rfl dX9_readNumber_69 ?_
            refine lv_iconst (v := 1) hx hb dX9_readNumber_72 (by decide) ?_
            refine lv_iadd hx hb dX9_readNumber_73 ?_
            refine lv_topi (fun y_12 ey_12 => ?_)
            first | have jy_12 : y_12.toInt = bh.toInt + 1 := (by have q9 := ci_add (x := bh) (y := 1) rfl (show (1 : Int32).toInt = 1 by decide) ey_12; omega) | have jy_12 := ci_add (x := bh) (y := 1) rfl (show (1 : Int32).toInt = 1 by decide) ey_12
            refine cs_put F St 0 rfl rfl inX9 tyX9_ok nmX9 2 (by decide) kf_X9_45 rfl rfl rfl (Nat.le_of_ble_eq_true rfl) (w' := [(h, .inr (9, [.ref d, .ref t, .int y_12, .int rt, .int rs, .int vl, .int rk, .int rp])), (h2, .inr (6, [.ref b2, .int nn])), (b2, .inl (cb, 400, .inl f))]) rfl dX9_readNumber_74 (fun H locs St => ?_)
            refine lv_goto (tgt := 5) hx hb dX9_readNumber_77 (by decide) ?_
            exact ih y_12 vl _ _ _ trivial (by omega) St (lv_sub hl [0, 1] rfl)
          ·
            have i41 := ci_nle (x := 6) (y := y_11) (show (6 : Int32).toInt = 6 by decide) rfl c41
            refine lv_aload_n hx hb dX9_readNumber_44 rfl (lv_at hl 0 rfl) ?_
            refine lv_aload_n hx hb dX9_readNumber_45 rfl (lv_at hl 0 rfl) ?_
            refine cs_get F St 0 rfl rfl inX9 5 (by decide) kf_X9_73 rfl dX9_readNumber_46 ?_
            refine lv_bipush (v := 10) hx hb dX9_readNumber_49 (by decide) ?_
            refine lv_imul hx hb dX9_readNumber_51 ?_
            refine lv_topi (fun y_13 ey_13 => ?_)
            first | have jy_13 : y_13.toInt = vl.toInt * 10 := (by have q9 := ci_mul (x := vl) (y := 10) rfl (show (10 : Int32).toInt = 10 by decide) ey_13; omega) | have jy_13 := ci_mul (x := vl) (y := 10) rfl (show (10 : Int32).toInt = 10 by decide) ey_13
            refine lv_aload_n hx hb dX9_readNumber_52 rfl (lv_at hl 1 rfl) ?_
            refine lv_aload_n hx hb dX9_readNumber_53 rfl (lv_at hl 0 rfl) ?_
            refine cs_get F St 0 rfl rfl inX9 2 (by decide) kf_X9_45 rfl dX9_readNumber_54 ?_
            refine cs_i St [1, 2] [0] (wc := [(h2, .inr (6, [.ref b2, .int nn])), (b2, .inl (cb, 400, .inl f))]) (wr := [(h, .inr (9, [.ref d, .ref t, .int bh, .int rt, .int rs, .int vl, .int rk, .int rp]))]) rfl rfl (by decide) (by decide) (va_runV (As := [.int bh]) (rest := [.int y_13, .ref h]) F (x6_at l G k _ h2 b2 cb nn f bh) (cwVt F mf_X6_at km_X9_116 rfl rfl ⟨Nat.le_of_ble_eq_true rfl, Nat.le_of_ble_eq_true rfl⟩) (cs_preV St [1, 2] rfl (by decide) [0] rfl (ci := 6) (q0 := 1) rfl rfl) rfl rfl hl.1 rfl (lv_room (Nat.le_of_ble_eq_true rfl)) dX9_readNumber_57 ⟨Nat.le_of_ble_eq_true rfl, Nat.le_of_ble_eq_true rfl⟩) (fun r_14 u_15 H locs hw St => ?_)
            try dsimp only at hw
            have St : cS G k [(h, .inr (9, [.ref d, .ref t, .int bh, .int rt, .int rs, .int vl, .int rk, .int rp])), (h2, .inr (6, [.ref b2, .int nn])), (b2, .inl (cb, 400, .inl f))] [(cb, .byte)] A s H locs := St
            refine lv_iadd hx hb dX9_readNumber_60 ?_
            refine lv_topi (fun y_16 ey_16 => ?_)
            first | have jy_16 : y_16.toInt = y_13.toInt + r_14.toInt := (by have q9 := ci_add (x := y_13) (y := r_14) rfl rfl ey_16; omega) | have jy_16 := ci_add (x := y_13) (y := r_14) rfl rfl ey_16
            refine lv_bipush (v := 48) hx hb dX9_readNumber_61 (by decide) ?_
            refine lv_isub hx hb dX9_readNumber_63 ?_
            refine lv_topi (fun y_17 ey_17 => ?_)
            first | have jy_17 : y_17.toInt = y_16.toInt - 48 := (by have q9 := ci_sub (x := y_16) (y := 48) rfl (show (48 : Int32).toInt = 48 by decide) ey_17; omega) | have jy_17 := ci_sub (x := y_16) (y := 48) rfl (show (48 : Int32).toInt = 48 by decide) ey_17
            refine cs_put F St 0 rfl rfl inX9 tyX9_ok nmX9 5 (by decide) kf_X9_73 rfl rfl rfl (Nat.le_of_ble_eq_true rfl) (w' := [(h, .inr (9, [.ref d, .ref t, .int bh, .int rt, .int rs, .int y_17, .int rk, .int rp])), (h2, .inr (6, [.ref b2, .int nn])), (b2, .inl (cb, 400, .inl f))]) rfl dX9_readNumber_64 (fun H locs St => ?_)
            refine lv_aload_n hx hb dX9_readNumber_67 rfl (lv_at hl 0 rfl) ?_
            refine lv_dup hx hb dX9_readNumber_68 rfl ?_
            refine cs_get F St 0 rfl rfl inX9 2 (by decide) kf_X9_45 rfl dX9_readNumber_69 ?_
            refine lv_iconst (v := 1) hx hb dX9_readNumber_72 (by decide) ?_
            refine lv_iadd hx hb dX9_readNumber_73 ?_
            refine lv_topi (fun y_18 ey_18 => ?_)
            first | have jy_18 : y_18.toInt = bh.toInt + 1 := (by have q9 := ci_add (x := bh) (y := 1) rfl (show (1 : Int32).toInt = 1 by decide) ey_18; omega) | have jy_18 := ci_add (x := bh) (y := 1) rfl (show (1 : Int32).toInt = 1 by decide) ey_18
            refine cs_put F St 0 rfl rfl inX9 tyX9_ok nmX9 2 (by decide) kf_X9_45 rfl rfl rfl (Nat.le_of_ble_eq_true rfl) (w' := [(h, .inr (9, [.ref d, .ref t, .int y_18, .int rt, .int rs, .int y_17, .int rk, .int rp])), (h2, .inr (6, [.ref b2, .int nn])), (b2, .inl (cb, 400, .inl f))]) rfl dX9_readNumber_74 (fun H locs St => ?_)
            refine lv_goto (tgt := 5) hx hb dX9_readNumber_77 (by decide) ?_
            exact ih y_18 y_17 _ _ _ trivial (by omega) St (lv_sub hl [0, 1] rfl)
        ·
          subst r_7
          have St : cS G k [(h, .inr (9, [.ref d, .ref t, .int bh, .int rt, .int rs, .int vl, .int rk, .int rp])), (h2, .inr (6, [.ref b2, .int nn])), (b2, .inl (cb, 400, .inl f))] [(cb, .byte)] A s H locs := St
          refine lv_if_eq (tgt := 80) hx hb dX9_readNumber_27 (by decide) (fun c27 => ?_) (fun c27 => ?_)
          rotate_left
          · exact absurd (by decide) c27
          refine lv_aload_n hx hb dX9_readNumber_80 rfl (lv_at hl 0 rfl) ?_
          refine lv_aload_n hx hb dX9_readNumber_81 rfl (lv_at hl 0 rfl) ?_
          refine cs_get F St 0 rfl rfl inX9 2 (by decide) kf_X9_45 rfl dX9_readNumber_82 ?_
          refine lv_aload_n hx hb dX9_readNumber_85 rfl (lv_at hl 0 rfl) ?_
          refine cs_get F St 0 rfl rfl inX9 4 (by decide) kf_X9_48 rfl dX9_readNumber_86 ?_
          refine lv_isub hx hb dX9_readNumber_89 ?_
          refine lv_topi (fun y_19 ey_19 => ?_)
          first | have jy_19 : y_19.toInt = bh.toInt - rs.toInt := (by have q9 := ci_sub (x := bh) (y := rs) rfl rfl ey_19; omega) | have jy_19 := ci_sub (x := bh) (y := rs) rfl rfl ey_19
          refine lv_bipush (v := 6) hx hb dX9_readNumber_90 (by decide) ?_
          refine lv_icmp_gt (tgt := 99) hx hb dX9_readNumber_92 (by decide) (fun c92 => ?_) (fun c92 => ?_)
          ·
            have i92 := ci_lt (x := 6) (y := y_19) (show (6 : Int32).toInt = 6 by decide) rfl c92
            refine lv_iconst (v := 4) hx hb dX9_readNumber_99 (by decide) ?_
            refine cs_put F St 0 rfl rfl inX9 tyX9_ok nmX9 3 (by decide) kf_X9_36 rfl rfl rfl (Nat.le_of_ble_eq_true rfl) (w' := [(h, .inr (9, [.ref d, .ref t, .int bh, .int 4, .int rs, .int vl, .int rk, .int rp])), (h2, .inr (6, [.ref b2, .int nn])), (b2, .inl (cb, 400, .inl f))]) rfl dX9_readNumber_100 (fun H locs St => ?_)
            exact cs_vret F hr hlk hQ St (bh, 4, rs, vl, rk, rp) (by trivial) [0, 1, 2] rfl (by decide) [] rfl (by decide) (by decide) dX9_readNumber_103
          ·
            have i92 := ci_nlt (x := 6) (y := y_19) (show (6 : Int32).toInt = 6 by decide) rfl c92
            refine lv_iconst (v := 2) hx hb dX9_readNumber_95 (by decide) ?_
            refine lv_goto (tgt := 100) hx hb dX9_readNumber_96 (by decide) ?_
            refine cs_put F St 0 rfl rfl inX9 tyX9_ok nmX9 3 (by decide) kf_X9_36 rfl rfl rfl (Nat.le_of_ble_eq_true rfl) (w' := [(h, .inr (9, [.ref d, .ref t, .int bh, .int 2, .int rs, .int vl, .int rk, .int rp])), (h2, .inr (6, [.ref b2, .int nn])), (b2, .inl (cb, 400, .inl f))]) rfl dX9_readNumber_100 (fun H locs St => ?_)
            exact cs_vret F hr hlk hQ St (bh, 2, rs, vl, rk, rp) (by trivial) [0, 1, 2] rfl (by decide) [] rfl (by decide) (by decide) dX9_readNumber_103
  exact lp5 ((nn.toInt - rh.toInt).toNat + 1) rh 0 _ _ _ trivial (Nat.lt_succ_self _) St (lv_sub hl [0, 1] rfl)
set_option maxHeartbeats 4000000 in
set_option maxRecDepth 100000 in
theorem x9_readToken (l : Launch) (G : va_G) (k : Nat → Nat) (sz : Nat) (h : Nat) (d : Nat) (t : Nat) (rh : Int32) (rt : Int32) (rs : Int32) (rv : Int32) (rk : Int32) (rp : Int32) (h2 : Nat) (b2 : Nat) (cb : ClassId) (nn : Int32) (f : Nat → Int32) : Met l yX9_readToken (Cond.code yX9_readToken cX9_readToken 3 none :: tb) ({ frames := 2, cells := 0, slots := 0, locals := 42 } : Room) (va_Pc [.ref h, .ref h2] (cP G k [(h, .inr (9, [.ref d, .ref t, .int rh, .int rt, .int rs, .int rv, .int rk, .int rp])), (h2, .inr (6, [.ref b2, .int nn])), (b2, .inl (cb, 400, .inl f))] [(cb, .byte)] sz)) (va_Qv (fun (u : Int32 × Int32 × Int32 × Int32 × Int32 × Int32) => match u with | (rh2, rt2, rs2, rv2, rk2, rp2) => True) (cB G (fun u => match u with | (rh2, rt2, rs2, rv2, rk2, rp2) => [(h, .inr (9, [.ref d, .ref t, .int rh2, .int rt2, .int rs2, .int rv2, .int rk2, .int rp2])), (h2, .inr (6, [.ref b2, .int nn])), (b2, .inl (cb, 400, .inl f))]) (fun u => match u with | (rh2, rt2, rs2, rv2, rk2, rp2) => []) (va_A [(h, .inr (9, [.ref d, .ref t, .int rh, .int rt, .int rs, .int rv, .int rk, .int rp])), (h2, .inr (6, [.ref b2, .int nn])), (b2, .inl (cb, 400, .inl f))] sz)) (va_A [(h, .inr (9, [.ref d, .ref t, .int rh, .int rt, .int rs, .int rv, .int rk, .int rp])), (h2, .inr (6, [.ref b2, .int nn])), (b2, .inl (cb, 400, .inl f))] sz)) 0 0 (va_A [(h, .inr (9, [.ref d, .ref t, .int rh, .int rt, .int rs, .int rv, .int rk, .int rp])), (h2, .inr (6, [.ref b2, .int nn])), (b2, .inl (cb, 400, .inl f))] sz) := by
  refine ofC_v (cc := cX9_readToken) (maxL := 3) (ret := none) (by decide) rfl (Nat.le_of_ble_eq_true rfl) ?_
  intro p e s m args below meth c A ls Q F hr hin hlk St hl hQ
  have hx := F.1
  have hb := F.2.1
  have hl : lv_has ls 3 [(0, .ref h), (1, .ref h2)] := hl
  have St : cS G k [(h, .inr (9, [.ref d, .ref t, .int rh, .int rt, .int rs, .int rv, .int rk, .int rp])), (h2, .inr (6, [.ref b2, .int nn])), (b2, .inl (cb, 400, .inl f))] [(cb, .byte)] A s s.heap [] := St
  have lp0 : ∀ (n : Nat) (bh : Int32) (H : Heap) (locs : List Loc) (ls : Array Slot), (True) → ((nn.toInt - bh.toInt).toNat) < n → cS G k [(h, .inr (9, [.ref d, .ref t, .int bh, .int rt, .int rs, .int rv, .int rk, .int rp])), (h2, .inr (6, [.ref b2, .int nn])), (b2, .inl (cb, 400, .inl f))] [(cb, .byte)] A s H locs → lv_has ls 3 [(0, .ref h), (1, .ref h2)] → W p l e ({ frames := 2, cells := 0, slots := 0, locals := 42 } : Room) s m args below meth c H locs 0 0 Q (F0 m 0 ls []) := by
    intro n
    induction n with
    | zero => intro bh H locs ls hI hn; exact absurd hn (Nat.not_lt_zero _)
    | succ n ih =>
      intro bh H locs ls hI hn St hl
      have rgb := ci_rng nn
      refine lv_aload_n hx hb dX9_readToken_0 rfl (lv_at hl 0 rfl) ?_
      refine cs_get F St 0 rfl rfl inX9 2 (by decide) kf_X9_45 rfl dX9_readToken_1 ?_
      refine lv_aload_n hx hb dX9_readToken_4 rfl (lv_at hl 1 rfl) ?_
      refine cs_i St [1] [0, 2] (wc := [(h2, .inr (6, [.ref b2, .int nn]))]) (wr := [(h, .inr (9, [.ref d, .ref t, .int bh, .int rt, .int rs, .int rv, .int rk, .int rp])), (b2, .inl (cb, 400, .inl f))]) rfl rfl (by decide) (by decide) (va_runV (As := []) (rest := [.int bh]) F (x6_length l G k _ h2 b2 nn) (cwVt F mf_X6_length km_X9_126 rfl rfl ⟨Nat.le_of_ble_eq_true rfl, Nat.le_of_ble_eq_true rfl⟩) (cs_preV St [1] rfl (by decide) [] rfl (ci := 6) (q0 := 1) rfl rfl) rfl rfl hl.1 rfl (lv_room (Nat.le_of_ble_eq_true rfl)) dX9_readToken_5 ⟨Nat.le_of_ble_eq_true rfl, Nat.le_of_ble_eq_true rfl⟩) (fun r_1 u_2 H locs hw St => ?_)
      try dsimp only at hw
      have z_3 := hw
      subst r_1
      have St : cS G k [(h, .inr (9, [.ref d, .ref t, .int bh, .int rt, .int rs, .int rv, .int rk, .int rp])), (b2, .inl (cb, 400, .inl f)), (h2, .inr (6, [.ref b2, .int nn]))] [(cb, .byte)] A s H locs := St
      refine lv_icmp_ge (tgt := 38) hx hb dX9_readToken_8 (by decide) (fun c8 => ?_) (fun c8 => ?_)
      ·
        have i8 := ci_le (x := nn) (y := bh) rfl rfl c8
        refine lv_aload_n hx hb dX9_readToken_38 rfl (lv_at hl 0 rfl) ?_
        refine lv_aload_n hx hb dX9_readToken_39 rfl (lv_at hl 0 rfl) ?_
        refine cs_get F St 0 rfl rfl inX9 2 (by decide) kf_X9_45 rfl dX9_readToken_40 ?_
        refine cs_put F St 0 rfl rfl inX9 tyX9_ok nmX9 4 (by decide) kf_X9_48 rfl rfl rfl (Nat.le_of_ble_eq_true rfl) (w' := [(h, .inr (9, [.ref d, .ref t, .int bh, .int rt, .int bh, .int rv, .int rk, .int rp])), (b2, .inl (cb, 400, .inl f)), (h2, .inr (6, [.ref b2, .int nn]))]) rfl dX9_readToken_43 (fun H locs St => ?_)
        refine lv_aload_n hx hb dX9_readToken_46 rfl (lv_at hl 1 rfl) ?_
        refine lv_aload_n hx hb dX9_readToken_47 rfl (lv_at hl 0 rfl) ?_
        refine cs_get F St 0 rfl rfl inX9 2 (by decide) kf_X9_45 rfl dX9_readToken_48 ?_
        refine cs_i St [2, 1] [0] (wc := [(h2, .inr (6, [.ref b2, .int nn])), (b2, .inl (cb, 400, .inl f))]) (wr := [(h, .inr (9, [.ref d, .ref t, .int bh, .int rt, .int bh, .int rv, .int rk, .int rp]))]) rfl rfl (by decide) (by decide) (va_runV (As := [.int bh]) (rest := []) F (x6_at l G k _ h2 b2 cb nn f bh) (cwVt F mf_X6_at km_X9_116 rfl rfl ⟨Nat.le_of_ble_eq_true rfl, Nat.le_of_ble_eq_true rfl⟩) (cs_preV St [2, 1] rfl (by decide) [0] rfl (ci := 6) (q0 := 2) rfl rfl) rfl rfl hl.1 rfl (lv_room (Nat.le_of_ble_eq_true rfl)) dX9_readToken_51 ⟨Nat.le_of_ble_eq_true rfl, Nat.le_of_ble_eq_true rfl⟩) (fun r_4 u_5 H locs hw St => ?_)
        try dsimp only at hw
        have St : cS G k [(h, .inr (9, [.ref d, .ref t, .int bh, .int rt, .int bh, .int rv, .int rk, .int rp])), (h2, .inr (6, [.ref b2, .int nn])), (b2, .inl (cb, 400, .inl f))] [(cb, .byte)] A s H locs := St
        refine lv_istore_n (lv' := [(2, .int r_4), (0, .ref h), (1, .ref h2)]) hx hb dX9_readToken_54 rfl hl (by decide) rfl (fun ls hl => ?_)
        refine lv_iload_n hx hb dX9_readToken_55 rfl (lv_at hl 0 rfl) ?_
        refine lv_iconst (v := (-1)) hx hb dX9_readToken_56 (by decide) ?_
        refine lv_icmp_ne (tgt := 68) hx hb dX9_readToken_57 (by decide) (fun c57 => ?_) (fun c57 => ?_)
        ·
          have i57 := ci_ne (x := r_4) (y := (-1)) rfl (show ((-1) : Int32).toInt = -1 by decide) c57
          refine lv_iload_n hx hb dX9_readToken_68 rfl (lv_at hl 0 rfl) ?_
          refine cs_i St [] [0, 1, 2] (wc := []) (wr := [(h, .inr (9, [.ref d, .ref t, .int bh, .int rt, .int bh, .int rv, .int rk, .int rp])), (h2, .inr (6, [.ref b2, .int nn])), (b2, .inl (cb, 400, .inl f))]) rfl rfl (by decide) (by decide) (va_runS (As := [.int r_4]) (rest := []) F (x9_isLetter l G k _ r_4) (cwSt F mf_X9_isLetter km_X9_131 rfl rfl ⟨Nat.le_of_ble_eq_true rfl, Nat.le_of_ble_eq_true rfl⟩) (cs_pre St [] rfl (by decide) [] rfl) rfl rfl hl.1 rfl (lv_room (Nat.le_of_ble_eq_true rfl)) dX9_readToken_69 ⟨Nat.le_of_ble_eq_true rfl, Nat.le_of_ble_eq_true rfl⟩) (fun r_6 u_7 H locs hw St => ?_)
          try dsimp only at hw
          rcases hw with z_8 | z_9
          ·
            subst r_6
            have St : cS G k [(h, .inr (9, [.ref d, .ref t, .int bh, .int rt, .int bh, .int rv, .int rk, .int rp])), (h2, .inr (6, [.ref b2, .int nn])), (b2, .inl (cb, 400, .inl f))] [(cb, .byte)] A s H locs := St
            refine lv_if_eq (tgt := 83) hx hb dX9_readToken_72 (by decide) (fun c72 => ?_) (fun c72 => ?_)
            · exact absurd c72 (by decide)
            refine lv_aload_n hx hb dX9_readToken_75 rfl (lv_at hl 1 rfl) ?_
            refine lv_aload_n hx hb dX9_readToken_76 rfl (lv_at hl 2 rfl) ?_
            refine cs_v St [0, 1, 2] [] (wc := [(h, .inr (9, [.ref d, .ref t, .int bh, .int rt, .int bh, .int rv, .int rk, .int rp])), (h2, .inr (6, [.ref b2, .int nn])), (b2, .inl (cb, 400, .inl f))]) (wr := []) rfl rfl (by decide) (by decide) (va_runV (As := [.ref h2]) (rest := []) F (x9_readWord l G k _ h d t bh rt bh rv rk rp h2 b2 cb nn f) (cwVt F mf_X9_readWord km_X9_134 rfl rfl ⟨Nat.le_of_ble_eq_true rfl, Nat.le_of_ble_eq_true rfl⟩) (cs_preV St [0, 1, 2] rfl (by decide) [0] rfl (ci := 9) (q0 := 0) rfl rfl) rfl rfl hl.1 rfl (lv_room (Nat.le_of_ble_eq_true rfl)) dX9_readToken_77 ⟨Nat.le_of_ble_eq_true rfl, Nat.le_of_ble_eq_true rfl⟩) (fun u_11 H locs hw St => ?_)
            obtain ⟨rh2_12, rt2_13, rs2_14, rv2_15, rk2_16, rp2_17⟩ := u_11
            try dsimp only at hw
            have St : cS G k [(h, .inr (9, [.ref d, .ref t, .int rh2_12, .int rt2_13, .int rs2_14, .int rv2_15, .int rk2_16, .int rp2_17])), (h2, .inr (6, [.ref b2, .int nn])), (b2, .inl (cb, 400, .inl f))] [(cb, .byte)] A s H locs := St
            refine lv_goto (tgt := 123) hx hb dX9_readToken_80 (by decide) ?_
            exact cs_vret F hr hlk hQ St (rh2_12, rt2_13, rs2_14, rv2_15, rk2_16, rp2_17) (by trivial) [0, 1, 2] rfl (by decide) [] rfl (by decide) (by decide) dX9_readToken_123
          ·
            subst r_6
            have St : cS G k [(h, .inr (9, [.ref d, .ref t, .int bh, .int rt, .int bh, .int rv, .int rk, .int rp])), (h2, .inr (6, [.ref b2, .int nn])), (b2, .inl (cb, 400, .inl f))] [(cb, .byte)] A s H locs := St
            refine lv_if_eq (tgt := 83) hx hb dX9_readToken_72 (by decide) (fun c72 => ?_) (fun c72 => ?_)
            rotate_left
            · exact absurd (by decide) c72
            refine lv_iload_n hx hb dX9_readToken_83 rfl (lv_at hl 0 rfl) ?_
            refine cs_i St [] [0, 1, 2] (wc := []) (wr := [(h, .inr (9, [.ref d, .ref t, .int bh, .int rt, .int bh, .int rv, .int rk, .int rp])), (h2, .inr (6, [.ref b2, .int nn])), (b2, .inl (cb, 400, .inl f))]) rfl rfl (by decide) (by decide) (va_runS (As := [.int r_4]) (rest := []) F (x9_isDigit l G k _ r_4) (cwSt F mf_X9_isDigit km_X9_137 rfl rfl ⟨Nat.le_of_ble_eq_true rfl, Nat.le_of_ble_eq_true rfl⟩) (cs_pre St [] rfl (by decide) [] rfl) rfl rfl hl.1 rfl (lv_room (Nat.le_of_ble_eq_true rfl)) dX9_readToken_84 ⟨Nat.le_of_ble_eq_true rfl, Nat.le_of_ble_eq_true rfl⟩) (fun r_18 u_19 H locs hw St => ?_)
            try dsimp only at hw
            rcases hw with z_20 | z_21
            ·
              subst r_18
              have St : cS G k [(h, .inr (9, [.ref d, .ref t, .int bh, .int rt, .int bh, .int rv, .int rk, .int rp])), (h2, .inr (6, [.ref b2, .int nn])), (b2, .inl (cb, 400, .inl f))] [(cb, .byte)] A s H locs := St
              refine lv_if_eq (tgt := 98) hx hb dX9_readToken_87 (by decide) (fun c87 => ?_) (fun c87 => ?_)
              · exact absurd c87 (by decide)
              refine lv_aload_n hx hb dX9_readToken_90 rfl (lv_at hl 1 rfl) ?_
              refine lv_aload_n hx hb dX9_readToken_91 rfl (lv_at hl 2 rfl) ?_
              refine cs_v St [0, 1, 2] [] (wc := [(h, .inr (9, [.ref d, .ref t, .int bh, .int rt, .int bh, .int rv, .int rk, .int rp])), (h2, .inr (6, [.ref b2, .int nn])), (b2, .inl (cb, 400, .inl f))]) (wr := []) rfl rfl (by decide) (by decide) (va_runV (As := [.ref h2]) (rest := []) F (x9_readNumber l G k _ h d t bh rt bh rv rk rp h2 b2 cb nn f) (cwVt F mf_X9_readNumber km_X9_140 rfl rfl ⟨Nat.le_of_ble_eq_true rfl, Nat.le_of_ble_eq_true rfl⟩) (cs_preV St [0, 1, 2] rfl (by decide) [0] rfl (ci := 9) (q0 := 0) rfl rfl) rfl rfl hl.1 rfl (lv_room (Nat.le_of_ble_eq_true rfl)) dX9_readToken_92 ⟨Nat.le_of_ble_eq_true rfl, Nat.le_of_ble_eq_true rfl⟩) (fun u_23 H locs hw St => ?_)
              obtain ⟨rh2_24, rt2_25, rs2_26, rv2_27, rk2_28, rp2_29⟩ := u_23
              try dsimp only at hw
              have St : cS G k [(h, .inr (9, [.ref d, .ref t, .int rh2_24, .int rt2_25, .int rs2_26, .int rv2_27, .int rk2_28, .int rp2_29])), (h2, .inr (6, [.ref b2, .int nn])), (b2, .inl (cb, 400, .inl f))] [(cb, .byte)] A s H locs := St
              refine lv_goto (tgt := 123) hx hb dX9_readToken_95 (by decide) ?_
              exact cs_vret F hr hlk hQ St (rh2_24, rt2_25, rs2_26, rv2_27, rk2_28, rp2_29) (by trivial) [0, 1, 2] rfl (by decide) [] rfl (by decide) (by decide) dX9_readToken_123
            ·
              subst r_18
              have St : cS G k [(h, .inr (9, [.ref d, .ref t, .int bh, .int rt, .int bh, .int rv, .int rk, .int rp])), (h2, .inr (6, [.ref b2, .int nn])), (b2, .inl (cb, 400, .inl f))] [(cb, .byte)] A s H locs := St
              refine lv_if_eq (tgt := 98) hx hb dX9_readToken_87 (by decide) (fun c87 => ?_) (fun c87 => ?_)
              rotate_left
              · exact absurd (by decide) c87
              refine lv_aload_n hx hb dX9_readToken_98 rfl (lv_at hl 1 rfl) ?_
              refine lv_dup hx hb dX9_readToken_99 rfl ?_
              refine cs_get F St 0 rfl rfl inX9 2 (by decide) kf_X9_45 rfl dX9_readToken_100 ?_
              refine lv_iconst (v := 1) hx hb dX9_readToken_103 (by decide) ?_
              refine lv_iadd hx hb dX9_readToken_104 ?_
              refine lv_topi (fun y_30 ey_30 => ?_)
              first | have jy_30 : y_30.toInt = bh.toInt + 1 := (by have q9 := ci_add (x := bh) (y := 1) rfl (show (1 : Int32).toInt = 1 by decide) ey_30; omega) | have jy_30 := ci_add (x := bh) (y := 1) rfl (show (1 : Int32).toInt = 1 by decide) ey_30
              refine cs_put F St 0 rfl rfl inX9 tyX9_ok nmX9 2 (by decide) kf_X9_45 rfl rfl rfl (Nat.le_of_ble_eq_true rfl) (w' := [(h, .inr (9, [.ref d, .ref t, .int y_30, .int rt, .int bh, .int rv, .int rk, .int rp])), (h2, .inr (6, [.ref b2, .int nn])), (b2, .inl (cb, 400, .inl f))]) rfl dX9_readToken_105 (fun H locs St => ?_)
              refine lv_aload_n hx hb dX9_readToken_108 rfl (lv_at hl 1 rfl) ?_
              refine lv_iload_n hx hb dX9_readToken_109 rfl (lv_at hl 0 rfl) ?_
              refine lv_bipush (v := 59) hx hb dX9_readToken_110 (by decide) ?_
              refine lv_icmp_ne (tgt := 119) hx hb dX9_readToken_112 (by decide) (fun c112 => ?_) (fun c112 => ?_)
              ·
                have i112 := ci_ne (x := r_4) (y := 59) rfl (show (59 : Int32).toInt = 59 by decide) c112
                refine lv_iconst (v := 4) hx hb dX9_readToken_119 (by decide) ?_
                refine cs_put F St 0 rfl rfl inX9 tyX9_ok nmX9 3 (by decide) kf_X9_36 rfl rfl rfl (Nat.le_of_ble_eq_true rfl) (w' := [(h, .inr (9, [.ref d, .ref t, .int y_30, .int 4, .int bh, .int rv, .int rk, .int rp])), (h2, .inr (6, [.ref b2, .int nn])), (b2, .inl (cb, 400, .inl f))]) rfl dX9_readToken_120 (fun H locs St => ?_)
                exact cs_vret F hr hlk hQ St (y_30, 4, bh, rv, rk, rp) (by trivial) [0, 1, 2] rfl (by decide) [] rfl (by decide) (by decide) dX9_readToken_123
              ·
                have i112 := ci_eq (x := r_4) (y := 59) rfl (show (59 : Int32).toInt = 59 by decide) c112
                refine lv_iconst (v := 3) hx hb dX9_readToken_115 (by decide) ?_
                refine lv_goto (tgt := 120) hx hb dX9_readToken_116 (by decide) ?_
                refine cs_put F St 0 rfl rfl inX9 tyX9_ok nmX9 3 (by decide) kf_X9_36 rfl rfl rfl (Nat.le_of_ble_eq_true rfl) (w' := [(h, .inr (9, [.ref d, .ref t, .int y_30, .int 3, .int bh, .int rv, .int rk, .int rp])), (h2, .inr (6, [.ref b2, .int nn])), (b2, .inl (cb, 400, .inl f))]) rfl dX9_readToken_120 (fun H locs St => ?_)
                exact cs_vret F hr hlk hQ St (y_30, 3, bh, rv, rk, rp) (by trivial) [0, 1, 2] rfl (by decide) [] rfl (by decide) (by decide) dX9_readToken_123
        ·
          have i57 := ci_eq (x := r_4) (y := (-1)) rfl (show ((-1) : Int32).toInt = -1 by decide) c57
          refine lv_aload_n hx hb dX9_readToken_60 rfl (lv_at hl 1 rfl) ?_
          refine lv_iconst (v := 0) hx hb dX9_readToken_61 (by decide) ?_
          refine cs_put F St 0 rfl rfl inX9 tyX9_ok nmX9 3 (by decide) kf_X9_36 rfl rfl rfl (Nat.le_of_ble_eq_true rfl) (w' := [(h, .inr (9, [.ref d, .ref t, .int bh, .int 0, .int bh, .int rv, .int rk, .int rp])), (h2, .inr (6, [.ref b2, .int nn])), (b2, .inl (cb, 400, .inl f))]) rfl dX9_readToken_62 (fun H locs St => ?_)
          refine lv_goto (tgt := 123) hx hb dX9_readToken_65 (by decide) ?_
          exact cs_vret F hr hlk hQ St (bh, 0, bh, rv, rk, rp) (by trivial) [0, 1, 2] rfl (by decide) [] rfl (by decide) (by decide) dX9_readToken_123
      ·
        have i8 := ci_nle (x := nn) (y := bh) rfl rfl c8
        refine lv_aload_n hx hb dX9_readToken_11 rfl (lv_at hl 1 rfl) ?_
        refine lv_aload_n hx hb dX9_readToken_12 rfl (lv_at hl 0 rfl) ?_
        refine cs_get F St 0 rfl rfl inX9 2 (by decide) kf_X9_45 rfl dX9_readToken_13 ?_
        refine cs_i St [2, 1] [0] (wc := [(h2, .inr (6, [.ref b2, .int nn])), (b2, .inl (cb, 400, .inl f))]) (wr := [(h, .inr (9, [.ref d, .ref t, .int bh, .int rt, .int rs, .int rv, .int rk, .int rp]))]) rfl rfl (by decide) (by decide) (va_runV (As := [.int bh]) (rest := []) F (x6_at l G k _ h2 b2 cb nn f bh) (cwVt F mf_X6_at km_X9_116 rfl rfl ⟨Nat.le_of_ble_eq_true rfl, Nat.le_of_ble_eq_true rfl⟩) (cs_preV St [2, 1] rfl (by decide) [0] rfl (ci := 6) (q0 := 2) rfl rfl) rfl rfl hl.1 rfl (lv_room (Nat.le_of_ble_eq_true rfl)) dX9_readToken_16 ⟨Nat.le_of_ble_eq_true rfl, Nat.le_of_ble_eq_true rfl⟩) (fun r_31 u_32 H locs hw St => ?_)
        try dsimp only at hw
        have St : cS G k [(h, .inr (9, [.ref d, .ref t, .int bh, .int rt, .int rs, .int rv, .int rk, .int rp])), (h2, .inr (6, [.ref b2, .int nn])), (b2, .inl (cb, 400, .inl f))] [(cb, .byte)] A s H locs := St
        refine cs_i St [] [0, 1, 2] (wc := []) (wr := [(h, .inr (9, [.ref d, .ref t, .int bh, .int rt, .int rs, .int rv, .int rk, .int rp])), (h2, .inr (6, [.ref b2, .int nn])), (b2, .inl (cb, 400, .inl f))]) rfl rfl (by decide) (by decide) (va_runS (As := [.int r_31]) (rest := []) F (x9_isBlank l G k _ r_31) (cwSt F mf_X9_isBlank km_X9_127 rfl rfl ⟨Nat.le_of_ble_eq_true rfl, Nat.le_of_ble_eq_true rfl⟩) (cs_pre St [] rfl (by decide) [] rfl) rfl rfl hl.1 rfl (lv_room (Nat.le_of_ble_eq_true rfl)) dX9_readToken_19 ⟨Nat.le_of_ble_eq_true rfl, Nat.le_of_ble_eq_true rfl⟩) (fun r_33 u_34 H locs hw St => ?_)
        try dsimp only at hw
        rcases hw with z_35 | z_36
        ·
          subst r_33
          have St : cS G k [(h, .inr (9, [.ref d, .ref t, .int bh, .int rt, .int rs, .int rv, .int rk, .int rp])), (h2, .inr (6, [.ref b2, .int nn])), (b2, .inl (cb, 400, .inl f))] [(cb, .byte)] A s H locs := St
          refine lv_if_eq (tgt := 38) hx hb dX9_readToken_22 (by decide) (fun c22 => ?_) (fun c22 => ?_)
          · exact absurd c22 (by decide)
          refine lv_aload_n hx hb dX9_readToken_25 rfl (lv_at hl 0 rfl) ?_
          refine lv_dup hx hb dX9_readToken_26 rfl ?_
          refine cs_get F St 0 rfl rfl inX9 2 (by decide) kf_X9_45 rfl dX9_readToken_27 ?_
          refine lv_iconst (v := 1) hx hb dX9_readToken_30 (by decide) ?_
          refine lv_iadd hx hb dX9_readToken_31 ?_
          refine lv_topi (fun y_37 ey_37 => ?_)
          first | have jy_37 : y_37.toInt = bh.toInt + 1 := (by have q9 := ci_add (x := bh) (y := 1) rfl (show (1 : Int32).toInt = 1 by decide) ey_37; omega) | have jy_37 := ci_add (x := bh) (y := 1) rfl (show (1 : Int32).toInt = 1 by decide) ey_37
          refine cs_put F St 0 rfl rfl inX9 tyX9_ok nmX9 2 (by decide) kf_X9_45 rfl rfl rfl (Nat.le_of_ble_eq_true rfl) (w' := [(h, .inr (9, [.ref d, .ref t, .int y_37, .int rt, .int rs, .int rv, .int rk, .int rp])), (h2, .inr (6, [.ref b2, .int nn])), (b2, .inl (cb, 400, .inl f))]) rfl dX9_readToken_32 (fun H locs St => ?_)
          refine lv_goto (tgt := 0) hx hb dX9_readToken_35 (by decide) ?_
          exact ih y_37 _ _ _ trivial (by omega) St (lv_sub hl [0, 1] rfl)
        ·
          subst r_33
          have St : cS G k [(h, .inr (9, [.ref d, .ref t, .int bh, .int rt, .int rs, .int rv, .int rk, .int rp])), (h2, .inr (6, [.ref b2, .int nn])), (b2, .inl (cb, 400, .inl f))] [(cb, .byte)] A s H locs := St
          refine lv_if_eq (tgt := 38) hx hb dX9_readToken_22 (by decide) (fun c22 => ?_) (fun c22 => ?_)
          rotate_left
          · exact absurd (by decide) c22
          refine lv_aload_n hx hb dX9_readToken_38 rfl (lv_at hl 0 rfl) ?_
          refine lv_aload_n hx hb dX9_readToken_39 rfl (lv_at hl 0 rfl) ?_
          refine cs_get F St 0 rfl rfl inX9 2 (by decide) kf_X9_45 rfl dX9_readToken_40 ?_
          refine cs_put F St 0 rfl rfl inX9 tyX9_ok nmX9 4 (by decide) kf_X9_48 rfl rfl rfl (Nat.le_of_ble_eq_true rfl) (w' := [(h, .inr (9, [.ref d, .ref t, .int bh, .int rt, .int bh, .int rv, .int rk, .int rp])), (h2, .inr (6, [.ref b2, .int nn])), (b2, .inl (cb, 400, .inl f))]) rfl dX9_readToken_43 (fun H locs St => ?_)
          refine lv_aload_n hx hb dX9_readToken_46 rfl (lv_at hl 1 rfl) ?_
          refine lv_aload_n hx hb dX9_readToken_47 rfl (lv_at hl 0 rfl) ?_
          refine cs_get F St 0 rfl rfl inX9 2 (by decide) kf_X9_45 rfl dX9_readToken_48 ?_
          refine cs_i St [1, 2] [0] (wc := [(h2, .inr (6, [.ref b2, .int nn])), (b2, .inl (cb, 400, .inl f))]) (wr := [(h, .inr (9, [.ref d, .ref t, .int bh, .int rt, .int bh, .int rv, .int rk, .int rp]))]) rfl rfl (by decide) (by decide) (va_runV (As := [.int bh]) (rest := []) F (x6_at l G k _ h2 b2 cb nn f bh) (cwVt F mf_X6_at km_X9_116 rfl rfl ⟨Nat.le_of_ble_eq_true rfl, Nat.le_of_ble_eq_true rfl⟩) (cs_preV St [1, 2] rfl (by decide) [0] rfl (ci := 6) (q0 := 1) rfl rfl) rfl rfl hl.1 rfl (lv_room (Nat.le_of_ble_eq_true rfl)) dX9_readToken_51 ⟨Nat.le_of_ble_eq_true rfl, Nat.le_of_ble_eq_true rfl⟩) (fun r_38 u_39 H locs hw St => ?_)
          try dsimp only at hw
          have St : cS G k [(h, .inr (9, [.ref d, .ref t, .int bh, .int rt, .int bh, .int rv, .int rk, .int rp])), (h2, .inr (6, [.ref b2, .int nn])), (b2, .inl (cb, 400, .inl f))] [(cb, .byte)] A s H locs := St
          refine lv_istore_n (lv' := [(2, .int r_38), (0, .ref h), (1, .ref h2)]) hx hb dX9_readToken_54 rfl hl (by decide) rfl (fun ls hl => ?_)
          refine lv_iload_n hx hb dX9_readToken_55 rfl (lv_at hl 0 rfl) ?_
          refine lv_iconst (v := (-1)) hx hb dX9_readToken_56 (by decide) ?_
          refine lv_icmp_ne (tgt := 68) hx hb dX9_readToken_57 (by decide) (fun c57 => ?_) (fun c57 => ?_)
          ·
            have i57 := ci_ne (x := r_38) (y := (-1)) rfl (show ((-1) : Int32).toInt = -1 by decide) c57
            refine lv_iload_n hx hb dX9_readToken_68 rfl (lv_at hl 0 rfl) ?_
            refine cs_i St [] [0, 1, 2] (wc := []) (wr := [(h, .inr (9, [.ref d, .ref t, .int bh, .int rt, .int bh, .int rv, .int rk, .int rp])), (h2, .inr (6, [.ref b2, .int nn])), (b2, .inl (cb, 400, .inl f))]) rfl rfl (by decide) (by decide) (va_runS (As := [.int r_38]) (rest := []) F (x9_isLetter l G k _ r_38) (cwSt F mf_X9_isLetter km_X9_131 rfl rfl ⟨Nat.le_of_ble_eq_true rfl, Nat.le_of_ble_eq_true rfl⟩) (cs_pre St [] rfl (by decide) [] rfl) rfl rfl hl.1 rfl (lv_room (Nat.le_of_ble_eq_true rfl)) dX9_readToken_69 ⟨Nat.le_of_ble_eq_true rfl, Nat.le_of_ble_eq_true rfl⟩) (fun r_40 u_41 H locs hw St => ?_)
            try dsimp only at hw
            rcases hw with z_42 | z_43
            ·
              subst r_40
              have St : cS G k [(h, .inr (9, [.ref d, .ref t, .int bh, .int rt, .int bh, .int rv, .int rk, .int rp])), (h2, .inr (6, [.ref b2, .int nn])), (b2, .inl (cb, 400, .inl f))] [(cb, .byte)] A s H locs := St
              refine lv_if_eq (tgt := 83) hx hb dX9_readToken_72 (by decide) (fun c72 => ?_) (fun c72 => ?_)
              · exact absurd c72 (by decide)
              refine lv_aload_n hx hb dX9_readToken_75 rfl (lv_at hl 1 rfl) ?_
              refine lv_aload_n hx hb dX9_readToken_76 rfl (lv_at hl 2 rfl) ?_
              refine cs_v St [0, 1, 2] [] (wc := [(h, .inr (9, [.ref d, .ref t, .int bh, .int rt, .int bh, .int rv, .int rk, .int rp])), (h2, .inr (6, [.ref b2, .int nn])), (b2, .inl (cb, 400, .inl f))]) (wr := []) rfl rfl (by decide) (by decide) (va_runV (As := [.ref h2]) (rest := []) F (x9_readWord l G k _ h d t bh rt bh rv rk rp h2 b2 cb nn f) (cwVt F mf_X9_readWord km_X9_134 rfl rfl ⟨Nat.le_of_ble_eq_true rfl, Nat.le_of_ble_eq_true rfl⟩) (cs_preV St [0, 1, 2] rfl (by decide) [0] rfl (ci := 9) (q0 := 0) rfl rfl) rfl rfl hl.1 rfl (lv_room (Nat.le_of_ble_eq_true rfl)) dX9_readToken_77 ⟨Nat.le_of_ble_eq_true rfl, Nat.le_of_ble_eq_true rfl⟩) (fun u_45 H locs hw St => ?_)
              obtain ⟨rh2_46, rt2_47, rs2_48, rv2_49, rk2_50, rp2_51⟩ := u_45
              try dsimp only at hw
              have St : cS G k [(h, .inr (9, [.ref d, .ref t, .int rh2_46, .int rt2_47, .int rs2_48, .int rv2_49, .int rk2_50, .int rp2_51])), (h2, .inr (6, [.ref b2, .int nn])), (b2, .inl (cb, 400, .inl f))] [(cb, .byte)] A s H locs := St
              refine lv_goto (tgt := 123) hx hb dX9_readToken_80 (by decide) ?_
              exact cs_vret F hr hlk hQ St (rh2_46, rt2_47, rs2_48, rv2_49, rk2_50, rp2_51) (by trivial) [0, 1, 2] rfl (by decide) [] rfl (by decide) (by decide) dX9_readToken_123
            ·
              subst r_40
              have St : cS G k [(h, .inr (9, [.ref d, .ref t, .int bh, .int rt, .int bh, .int rv, .int rk, .int rp])), (h2, .inr (6, [.ref b2, .int nn])), (b2, .inl (cb, 400, .inl f))] [(cb, .byte)] A s H locs := St
              refine lv_if_eq (tgt := 83) hx hb dX9_readToken_72 (by decide) (fun c72 => ?_) (fun c72 => ?_)
              rotate_left
              · exact absurd (by decide) c72
              refine lv_iload_n hx hb dX9_readToken_83 rfl (lv_at hl 0 rfl) ?_
              refine cs_i St [] [0, 1, 2] (wc := []) (wr := [(h, .inr (9, [.ref d, .ref t, .int bh, .int rt, .int bh, .int rv, .int rk, .int rp])), (h2, .inr (6, [.ref b2, .int nn])), (b2, .inl (cb, 400, .inl f))]) rfl rfl (by decide) (by decide) (va_runS (As := [.int r_38]) (rest := []) F (x9_isDigit l G k _ r_38) (cwSt F mf_X9_isDigit km_X9_137 rfl rfl ⟨Nat.le_of_ble_eq_true rfl, Nat.le_of_ble_eq_true rfl⟩) (cs_pre St [] rfl (by decide) [] rfl) rfl rfl hl.1 rfl (lv_room (Nat.le_of_ble_eq_true rfl)) dX9_readToken_84 ⟨Nat.le_of_ble_eq_true rfl, Nat.le_of_ble_eq_true rfl⟩) (fun r_52 u_53 H locs hw St => ?_)
              try dsimp only at hw
              rcases hw with z_54 | z_55
              ·
                subst r_52
                have St : cS G k [(h, .inr (9, [.ref d, .ref t, .int bh, .int rt, .int bh, .int rv, .int rk, .int rp])), (h2, .inr (6, [.ref b2, .int nn])), (b2, .inl (cb, 400, .inl f))] [(cb, .byte)] A s H locs := St
                refine lv_if_eq (tgt := 98) hx hb dX9_readToken_87 (by decide) (fun c87 => ?_) (fun c87 => ?_)
                · exact absurd c87 (by decide)
                refine lv_aload_n hx hb dX9_readToken_90 rfl (lv_at hl 1 rfl) ?_
                refine lv_aload_n hx hb dX9_readToken_91 rfl (lv_at hl 2 rfl) ?_
                refine cs_v St [0, 1, 2] [] (wc := [(h, .inr (9, [.ref d, .ref t, .int bh, .int rt, .int bh, .int rv, .int rk, .int rp])), (h2, .inr (6, [.ref b2, .int nn])), (b2, .inl (cb, 400, .inl f))]) (wr := []) rfl rfl (by decide) (by decide) (va_runV (As := [.ref h2]) (rest := []) F (x9_readNumber l G k _ h d t bh rt bh rv rk rp h2 b2 cb nn f) (cwVt F mf_X9_readNumber km_X9_140 rfl rfl ⟨Nat.le_of_ble_eq_true rfl, Nat.le_of_ble_eq_true rfl⟩) (cs_preV St [0, 1, 2] rfl (by decide) [0] rfl (ci := 9) (q0 := 0) rfl rfl) rfl rfl hl.1 rfl (lv_room (Nat.le_of_ble_eq_true rfl)) dX9_readToken_92 ⟨Nat.le_of_ble_eq_true rfl, Nat.le_of_ble_eq_true rfl⟩) (fun u_57 H locs hw St => ?_)
                obtain ⟨rh2_58, rt2_59, rs2_60, rv2_61, rk2_62, rp2_63⟩ := u_57
                try dsimp only at hw
                have St : cS G k [(h, .inr (9, [.ref d, .ref t, .int rh2_58, .int rt2_59, .int rs2_60, .int rv2_61, .int rk2_62, .int rp2_63])), (h2, .inr (6, [.ref b2, .int nn])), (b2, .inl (cb, 400, .inl f))] [(cb, .byte)] A s H locs := St
                refine lv_goto (tgt := 123) hx hb dX9_readToken_95 (by decide) ?_
                exact cs_vret F hr hlk hQ St (rh2_58, rt2_59, rs2_60, rv2_61, rk2_62, rp2_63) (by trivial) [0, 1, 2] rfl (by decide) [] rfl (by decide) (by decide) dX9_readToken_123
              ·
                subst r_52
                have St : cS G k [(h, .inr (9, [.ref d, .ref t, .int bh, .int rt, .int bh, .int rv, .int rk, .int rp])), (h2, .inr (6, [.ref b2, .int nn])), (b2, .inl (cb, 400, .inl f))] [(cb, .byte)] A s H locs := St
                refine lv_if_eq (tgt := 98) hx hb dX9_readToken_87 (by decide) (fun c87 => ?_) (fun c87 => ?_)
                rotate_left
                · exact absurd (by decide) c87
                refine lv_aload_n hx hb dX9_readToken_98 rfl (lv_at hl 1 rfl) ?_
                refine lv_dup hx hb dX9_readToken_99 rfl ?_
                refine cs_get F St 0 rfl rfl inX9 2 (by decide) kf_X9_45 rfl dX9_readToken_100 ?_
                refine lv_iconst (v := 1) hx hb dX9_readToken_103 (by decide) ?_
                refine lv_iadd hx hb dX9_readToken_104 ?_
                refine lv_topi (fun y_64 ey_64 => ?_)
                first | have jy_64 : y_64.toInt = bh.toInt + 1 := (by have q9 := ci_add (x := bh) (y := 1) rfl (show (1 : Int32).toInt = 1 by decide) ey_64; omega) | have jy_64 := ci_add (x := bh) (y := 1) rfl (show (1 : Int32).toInt = 1 by decide) ey_64
                refine cs_put F St 0 rfl rfl inX9 tyX9_ok nmX9 2 (by decide) kf_X9_45 rfl rfl rfl (Nat.le_of_ble_eq_true rfl) (w' := [(h, .inr (9, [.ref d, .ref t, .int y_64, .int rt, .int bh, .int rv, .int rk, .int rp])), (h2, .inr (6, [.ref b2, .int nn])), (b2, .inl (cb, 400, .inl f))]) rfl dX9_readToken_105 (fun H locs St => ?_)
                refine lv_aload_n hx hb dX9_readToken_108 rfl (lv_at hl 1 rfl) ?_
                refine lv_iload_n hx hb dX9_readToken_109 rfl (lv_at hl 0 rfl) ?_
                refine lv_bipush (v := 59) hx hb dX9_readToken_110 (by decide) ?_
                refine lv_icmp_ne (tgt := 119) hx hb dX9_readToken_112 (by decide) (fun c112 => ?_) (fun c112 => ?_)
                ·
                  have i112 := ci_ne (x := r_38) (y := 59) rfl (show (59 : Int32).toInt = 59 by decide) c112
                  refine lv_iconst (v := 4) hx hb dX9_readToken_119 (by decide) ?_
                  refine cs_put F St 0 rfl rfl inX9 tyX9_ok nmX9 3 (by decide) kf_X9_36 rfl rfl rfl (Nat.le_of_ble_eq_true rfl) (w' := [(h, .inr (9, [.ref d, .ref t, .int y_64, .int 4, .int bh, .int rv, .int rk, .int rp])), (h2, .inr (6, [.ref b2, .int nn])), (b2, .inl (cb, 400, .inl f))]) rfl dX9_readToken_120 (fun H locs St => ?_)
                  exact cs_vret F hr hlk hQ St (y_64, 4, bh, rv, rk, rp) (by trivial) [0, 1, 2] rfl (by decide) [] rfl (by decide) (by decide) dX9_readToken_123
                ·
                  have i112 := ci_eq (x := r_38) (y := 59) rfl (show (59 : Int32).toInt = 59 by decide) c112
                  refine lv_iconst (v := 3) hx hb dX9_readToken_115 (by decide) ?_
                  refine lv_goto (tgt := 120) hx hb dX9_readToken_116 (by decide) ?_
                  refine cs_put F St 0 rfl rfl inX9 tyX9_ok nmX9 3 (by decide) kf_X9_36 rfl rfl rfl (Nat.le_of_ble_eq_true rfl) (w' := [(h, .inr (9, [.ref d, .ref t, .int y_64, .int 3, .int bh, .int rv, .int rk, .int rp])), (h2, .inr (6, [.ref b2, .int nn])), (b2, .inl (cb, 400, .inl f))]) rfl dX9_readToken_120 (fun H locs St => ?_)
                  exact cs_vret F hr hlk hQ St (y_64, 3, bh, rv, rk, rp) (by trivial) [0, 1, 2] rfl (by decide) [] rfl (by decide) (by decide) dX9_readToken_123
          ·
            have i57 := ci_eq (x := r_38) (y := (-1)) rfl (show ((-1) : Int32).toInt = -1 by decide) c57
            refine lv_aload_n hx hb dX9_readToken_60 rfl (lv_at hl 1 rfl) ?_
            refine lv_iconst (v := 0) hx hb dX9_readToken_61 (by decide) ?_
            refine cs_put F St 0 rfl rfl inX9 tyX9_ok nmX9 3 (by decide) kf_X9_36 rfl rfl rfl (Nat.le_of_ble_eq_true rfl) (w' := [(h, .inr (9, [.ref d, .ref t, .int bh, .int 0, .int bh, .int rv, .int rk, .int rp])), (h2, .inr (6, [.ref b2, .int nn])), (b2, .inl (cb, 400, .inl f))]) rfl dX9_readToken_62 (fun H locs St => ?_)
            refine lv_goto (tgt := 123) hx hb dX9_readToken_65 (by decide) ?_
            exact cs_vret F hr hlk hQ St (bh, 0, bh, rv, rk, rp) (by trivial) [0, 1, 2] rfl (by decide) [] rfl (by decide) (by decide) dX9_readToken_123
  exact lp0 ((nn.toInt - rh.toInt).toNat + 1) rh _ _ _ trivial (Nat.lt_succ_self _) St (lv_sub hl [0, 1] rfl)
set_option maxHeartbeats 4000000 in
set_option maxRecDepth 100000 in
theorem x9_isWord (l : Launch) (G : va_G) (k : Nat → Nat) (sz : Nat) (h : Nat) (d : Nat) (t : Nat) (rh : Int32) (rt : Int32) (rs : Int32) (rv : Int32) (rk : Int32) (rp : Int32) (h2 : Nat) (b2 : Nat) (cb : ClassId) (nn : Int32) (f : Nat → Int32) (i : Nat) (hi : i < 8) : Met l yX9_isWord (Cond.code yX9_isWord cX9_isWord 4 (some .boolean) :: tb) ({ frames := 4, cells := 0, slots := 0, locals := 85 } : Room) (va_Pc [.ref h, .ref h2, .ref (k (10 + i))] (cP G k [(h, .inr (9, [.ref d, .ref t, .int rh, .int rt, .int rs, .int rv, .int rk, .int rp])), (h2, .inr (6, [.ref b2, .int nn])), (b2, .inl (cb, 400, .inl f))] [(cb, .byte)] sz)) (va_Qi (fun (r : Int32) (_ : Unit) => ((r = 1)) ∨ ((r = 0))) (cB G (fun (_ : Unit) => [(h, .inr (9, [.ref d, .ref t, .int rh, .int rt, .int rs, .int rv, .int rk, .int rp])), (h2, .inr (6, [.ref b2, .int nn])), (b2, .inl (cb, 400, .inl f))]) (fun (_ : Unit) => []) (va_A [(h, .inr (9, [.ref d, .ref t, .int rh, .int rt, .int rs, .int rv, .int rk, .int rp])), (h2, .inr (6, [.ref b2, .int nn])), (b2, .inl (cb, 400, .inl f))] sz)) (va_A [(h, .inr (9, [.ref d, .ref t, .int rh, .int rt, .int rs, .int rv, .int rk, .int rp])), (h2, .inr (6, [.ref b2, .int nn])), (b2, .inl (cb, 400, .inl f))] sz)) 0 0 (va_A [(h, .inr (9, [.ref d, .ref t, .int rh, .int rt, .int rs, .int rv, .int rk, .int rp])), (h2, .inr (6, [.ref b2, .int nn])), (b2, .inl (cb, 400, .inl f))] sz) := by
  refine ofC_i (cc := cX9_isWord) (maxL := 4) (ret := (some .boolean)) (by decide) rfl (Nat.le_of_ble_eq_true rfl) ?_
  intro p e s m args below meth c A ls Q F hr hin hlk St hl hQ
  have hx := F.1
  have hb := F.2.1
  have hl : lv_has ls 4 [(0, .ref h), (1, .ref h2), (2, .ref (k (10 + i)))] := hl
  have St : cS G k [(h, .inr (9, [.ref d, .ref t, .int rh, .int rt, .int rs, .int rv, .int rk, .int rp])), (h2, .inr (6, [.ref b2, .int nn])), (b2, .inl (cb, 400, .inl f))] [(cb, .byte)] A s s.heap [] := St
  have hs := sL_i i hi
  have y0 : (0 : Int32).toInt = 0 := by decide
  refine lv_aload_n hx hb dX9_isWord_0 rfl (lv_at hl 0 rfl) ?_
  refine cs_get F St 0 rfl rfl inX9 2 (by decide) kf_X9_45 rfl dX9_isWord_1 ?_
  refine lv_aload_n hx hb dX9_isWord_4 rfl (lv_at hl 0 rfl) ?_
  refine cs_get F St 0 rfl rfl inX9 4 (by decide) kf_X9_48 rfl dX9_isWord_5 ?_
  refine lv_isub hx hb dX9_isWord_8 ?_
  refine lv_topi (fun y_1 ey_1 => ?_)
  first | have jy_1 : y_1.toInt = rh.toInt - rs.toInt := (by have q9 := ci_sub (x := rh) (y := rs) rfl rfl ey_1; omega) | have jy_1 := ci_sub (x := rh) (y := rs) rfl rfl ey_1
  refine lv_aload_n hx hb dX9_isWord_9 rfl (lv_at hl 2 rfl) ?_
  refine cs_i St [] [0, 1, 2] (wc := []) (wr := [(h, .inr (9, [.ref d, .ref t, .int rh, .int rt, .int rs, .int rv, .int rk, .int rp])), (h2, .inr (6, [.ref b2, .int nn])), (b2, .inl (cb, 400, .inl f))]) rfl rfl (by decide) (by decide) (va_runV (As := []) (rest := [.int y_1]) F (cJ_length l G k _ i (by first | assumption | decide)) (cwVt F mf_J0_length_8abf5 km_X9_110 rfl rfl ⟨Nat.le_of_ble_eq_true rfl, Nat.le_of_ble_eq_true rfl⟩) (cs_preVS St hi [] rfl) rfl rfl hl.1 rfl (lv_room (Nat.le_of_ble_eq_true rfl)) dX9_isWord_10 ⟨Nat.le_of_ble_eq_true rfl, Nat.le_of_ble_eq_true rfl⟩) (fun r_2 u_3 H locs hw St => ?_)
  try dsimp only at hw
  have z_4 := hw
  have St : cS G k [(h, .inr (9, [.ref d, .ref t, .int rh, .int rt, .int rs, .int rv, .int rk, .int rp])), (h2, .inr (6, [.ref b2, .int nn])), (b2, .inl (cb, 400, .inl f))] [(cb, .byte)] A s H locs := St
  have hnz_4 := (congrArg Int32.toInt z_4).trans hs.1
  refine lv_icmp_eq (tgt := 18) hx hb dX9_isWord_13 (by decide) (fun c13 => ?_) (fun c13 => ?_)
  ·
    have i13 := ci_eq (x := y_1) (y := r_2) rfl rfl c13
    refine lv_iconst (v := 0) hx hb dX9_isWord_18 (by decide) ?_
    refine lv_istore_n (lv' := [(3, .int 0), (0, .ref h), (1, .ref h2), (2, .ref (k (10 + i)))]) hx hb dX9_isWord_19 rfl hl (by decide) rfl (fun ls hl => ?_)
    have lp20 : ∀ (n : Nat) (kk : Int32) (H : Heap) (locs : List Loc) (ls : Array Slot), (0 ≤ kk.toInt ∧ kk.toInt ≤ sLen i) → ((10 - kk.toInt).toNat) < n → cS G k [(h, .inr (9, [.ref d, .ref t, .int rh, .int rt, .int rs, .int rv, .int rk, .int rp])), (h2, .inr (6, [.ref b2, .int nn])), (b2, .inl (cb, 400, .inl f))] [(cb, .byte)] A s H locs → lv_has ls 4 [(3, .int kk), (0, .ref h), (1, .ref h2), (2, .ref (k (10 + i)))] → W p l e ({ frames := 4, cells := 0, slots := 0, locals := 85 } : Room) s m args below meth c H locs 0 0 Q (F0 m 20 ls []) := by
      intro n
      induction n with
      | zero => intro kk H locs ls hI hn; exact absurd hn (Nat.not_lt_zero _)
      | succ n ih =>
        intro kk H locs ls hI hn St hl
        obtain ⟨hI0, hI1⟩ := hI
        refine lv_iload_n hx hb dX9_isWord_20 rfl (lv_at hl 0 rfl) ?_
        refine lv_aload_n hx hb dX9_isWord_21 rfl (lv_at hl 3 rfl) ?_
        refine cs_i St [] [0, 1, 2] (wc := []) (wr := [(h, .inr (9, [.ref d, .ref t, .int rh, .int rt, .int rs, .int rv, .int rk, .int rp])), (h2, .inr (6, [.ref b2, .int nn])), (b2, .inl (cb, 400, .inl f))]) rfl rfl (by decide) (by decide) (va_runV (As := []) (rest := [.int kk]) F (cJ_length l G k _ i (by first | assumption | decide)) (cwVt F mf_J0_length_8abf5 km_X9_110 rfl rfl ⟨Nat.le_of_ble_eq_true rfl, Nat.le_of_ble_eq_true rfl⟩) (cs_preVS St hi [] rfl) rfl rfl hl.1 rfl (lv_room (Nat.le_of_ble_eq_true rfl)) dX9_isWord_22 ⟨Nat.le_of_ble_eq_true rfl, Nat.le_of_ble_eq_true rfl⟩) (fun r_5 u_6 H locs hw St => ?_)
        try dsimp only at hw
        have z_7 := hw
        have St : cS G k [(h, .inr (9, [.ref d, .ref t, .int rh, .int rt, .int rs, .int rv, .int rk, .int rp])), (h2, .inr (6, [.ref b2, .int nn])), (b2, .inl (cb, 400, .inl f))] [(cb, .byte)] A s H locs := St
        have hnz_7 := (congrArg Int32.toInt z_7).trans hs.1
        refine lv_icmp_ge (tgt := 54) hx hb dX9_isWord_25 (by decide) (fun c25 => ?_) (fun c25 => ?_)
        ·
          have i25 := ci_le (x := r_5) (y := kk) rfl rfl c25
          refine lv_iconst (v := 1) hx hb dX9_isWord_54 (by decide) ?_
          exact cs_zret F hr hlk hQ St () (r := 1) rfl (Or.inl rfl) [0, 1, 2] rfl (by decide) [] rfl (by decide) (by decide) dX9_isWord_55
        ·
          have i25 := ci_nle (x := r_5) (y := kk) rfl rfl c25
          refine lv_aload_n hx hb dX9_isWord_28 rfl (lv_at hl 2 rfl) ?_
          refine lv_aload_n hx hb dX9_isWord_29 rfl (lv_at hl 1 rfl) ?_
          refine cs_get F St 0 rfl rfl inX9 4 (by decide) kf_X9_48 rfl dX9_isWord_30 ?_
          refine lv_iload_n hx hb dX9_isWord_33 rfl (lv_at hl 0 rfl) ?_
          refine lv_iadd hx hb dX9_isWord_34 ?_
          refine lv_topi (fun y_8 ey_8 => ?_)
          first | have jy_8 : y_8.toInt = rs.toInt + kk.toInt := (by have q9 := ci_add (x := rs) (y := kk) rfl rfl ey_8; omega) | have jy_8 := ci_add (x := rs) (y := kk) rfl rfl ey_8
          refine cs_i St [1, 2] [0] (wc := [(h2, .inr (6, [.ref b2, .int nn])), (b2, .inl (cb, 400, .inl f))]) (wr := [(h, .inr (9, [.ref d, .ref t, .int rh, .int rt, .int rs, .int rv, .int rk, .int rp]))]) rfl rfl (by decide) (by decide) (va_runV (As := [.int y_8]) (rest := []) F (x6_at l G k _ h2 b2 cb nn f y_8) (cwVt F mf_X6_at km_X9_116 rfl rfl ⟨Nat.le_of_ble_eq_true rfl, Nat.le_of_ble_eq_true rfl⟩) (cs_preV St [1, 2] rfl (by decide) [0] rfl (ci := 6) (q0 := 1) rfl rfl) rfl rfl hl.1 rfl (lv_room (Nat.le_of_ble_eq_true rfl)) dX9_isWord_35 ⟨Nat.le_of_ble_eq_true rfl, Nat.le_of_ble_eq_true rfl⟩) (fun r_9 u_10 H locs hw St => ?_)
          try dsimp only at hw
          have St : cS G k [(h, .inr (9, [.ref d, .ref t, .int rh, .int rt, .int rs, .int rv, .int rk, .int rp])), (h2, .inr (6, [.ref b2, .int nn])), (b2, .inl (cb, 400, .inl f))] [(cb, .byte)] A s H locs := St
          refine lv_aload_n hx hb dX9_isWord_38 rfl (lv_at hl 3 rfl) ?_
          refine lv_iload_n hx hb dX9_isWord_39 rfl (lv_at hl 0 rfl) ?_
          refine cs_i St [] [0, 1, 2] (wc := []) (wr := [(h, .inr (9, [.ref d, .ref t, .int rh, .int rt, .int rs, .int rv, .int rk, .int rp])), (h2, .inr (6, [.ref b2, .int nn])), (b2, .inl (cb, 400, .inl f))]) rfl rfl (by decide) (by decide) (va_runV (As := [.int kk]) (rest := [.int r_9]) F (cJ_charAt l G k _ i (by first | assumption | decide) kk (by omega) (by omega)) (cwVt F mf_J0_charAt_5068e km_X9_122 rfl rfl ⟨Nat.le_of_ble_eq_true rfl, Nat.le_of_ble_eq_true rfl⟩) (cs_preVS St hi [] rfl) rfl rfl hl.1 rfl (lv_room (Nat.le_of_ble_eq_true rfl)) dX9_isWord_40 ⟨Nat.le_of_ble_eq_true rfl, Nat.le_of_ble_eq_true rfl⟩) (fun r_11 u_12 H locs hw St => ?_)
          try dsimp only at hw
          have z_13 := hw
          have St : cS G k [(h, .inr (9, [.ref d, .ref t, .int rh, .int rt, .int rs, .int rv, .int rk, .int rp])), (h2, .inr (6, [.ref b2, .int nn])), (b2, .inl (cb, 400, .inl f))] [(cb, .byte)] A s H locs := St
          refine lv_icmp_eq (tgt := 48) hx hb dX9_isWord_43 (by decide) (fun c43 => ?_) (fun c43 => ?_)
          ·
            have i43 := ci_eq (x := r_9) (y := r_11) rfl rfl c43
            obtain ⟨y_14, ey_14⟩ : ∃ zz : Int32, zz = kk + 1 := ⟨_, rfl⟩
            first | have jy_14 : y_14.toInt = kk.toInt + 1 := (by have q9 := ci_add (x := kk) rfl (show (1 : Int32).toInt = 1 by decide) ey_14; omega) | have jy_14 := ci_add (x := kk) rfl (show (1 : Int32).toInt = 1 by decide) ey_14
            refine lv_iinc (v := y_14) (lv' := [(3, .int y_14), (0, .ref h), (1, .ref h2), (2, .ref (k (10 + i)))]) hx hb dX9_isWord_48 hl (k := 0) rfl (by rw [ey_14]; rfl) (by decide) rfl (fun ls hl => ?_)
            refine lv_goto (tgt := 20) hx hb dX9_isWord_51 (by decide) ?_
            exact ih y_14 _ _ _ ⟨by omega, by omega⟩ (by omega) St (lv_sub hl [0, 1, 2, 3] rfl)
          ·
            have i43 := ci_ne (x := r_9) (y := r_11) rfl rfl c43
            refine lv_iconst (v := 0) hx hb dX9_isWord_46 (by decide) ?_
            exact cs_zret F hr hlk hQ St () (r := 0) rfl (Or.inr rfl) [0, 1, 2] rfl (by decide) [] rfl (by decide) (by decide) dX9_isWord_47
    exact lp20 11 0 _ _ _ ⟨by omega, by omega⟩ (by omega) St (lv_sub hl [0, 1, 2, 3] rfl)
  ·
    have i13 := ci_ne (x := y_1) (y := r_2) rfl rfl c13
    refine lv_iconst (v := 0) hx hb dX9_isWord_16 (by decide) ?_
    exact cs_zret F hr hlk hQ St () (r := 0) rfl (Or.inr rfl) [0, 1, 2] rfl (by decide) [] rfl (by decide) (by decide) dX9_isWord_17
set_option maxHeartbeats 4000000 in
set_option maxRecDepth 100000 in
theorem x9_lineOfWord (l : Launch) (G : va_G) (k : Nat → Nat) (sz : Nat) (h : Nat) (d : Nat) (t : Nat) (rh : Int32) (rt : Int32) (rs : Int32) (rv : Int32) (rk : Int32) (rp : Int32) (h2 : Nat) (b2 : Nat) (cb : ClassId) (nn : Int32) (f : Nat → Int32) : Met l yX9_lineOfWord (Cond.code yX9_lineOfWord cX9_lineOfWord 2 (some .int) :: tb) ({ frames := 5, cells := 0, slots := 0, locals := 108 } : Room) (va_Pc [.ref h, .ref h2] (cP G k [(h, .inr (9, [.ref d, .ref t, .int rh, .int rt, .int rs, .int rv, .int rk, .int rp])), (h2, .inr (6, [.ref b2, .int nn])), (b2, .inl (cb, 400, .inl f))] [(cb, .byte)] sz)) (va_Qi (fun (r : Int32) (_ : Unit) => ((-1) ≤ r.toInt ∧ r.toInt ≤ 5)) (cB G (fun (_ : Unit) => [(h, .inr (9, [.ref d, .ref t, .int rh, .int rt, .int rs, .int rv, .int rk, .int rp])), (h2, .inr (6, [.ref b2, .int nn])), (b2, .inl (cb, 400, .inl f))]) (fun (_ : Unit) => []) (va_A [(h, .inr (9, [.ref d, .ref t, .int rh, .int rt, .int rs, .int rv, .int rk, .int rp])), (h2, .inr (6, [.ref b2, .int nn])), (b2, .inl (cb, 400, .inl f))] sz)) (va_A [(h, .inr (9, [.ref d, .ref t, .int rh, .int rt, .int rs, .int rv, .int rk, .int rp])), (h2, .inr (6, [.ref b2, .int nn])), (b2, .inl (cb, 400, .inl f))] sz)) 0 0 (va_A [(h, .inr (9, [.ref d, .ref t, .int rh, .int rt, .int rs, .int rv, .int rk, .int rp])), (h2, .inr (6, [.ref b2, .int nn])), (b2, .inl (cb, 400, .inl f))] sz) := by
  refine ofC_i (cc := cX9_lineOfWord) (maxL := 2) (ret := (some .int)) (by decide) rfl (Nat.le_of_ble_eq_true rfl) ?_
  intro p e s m args below meth c A ls Q F hr hin hlk St hl hQ
  have hx := F.1
  have hb := F.2.1
  have hl : lv_has ls 2 [(0, .ref h), (1, .ref h2)] := hl
  have St : cS G k [(h, .inr (9, [.ref d, .ref t, .int rh, .int rt, .int rs, .int rv, .int rk, .int rp])), (h2, .inr (6, [.ref b2, .int nn])), (b2, .inl (cb, 400, .inl f))] [(cb, .byte)] A s s.heap [] := St
  refine lv_aload_n hx hb dX9_lineOfWord_0 rfl (lv_at hl 0 rfl) ?_
  refine lv_aload_n hx hb dX9_lineOfWord_1 rfl (lv_at hl 1 rfl) ?_
  refine va_ldcS hx hb F.2.2.2.1 St.2.2.2.2.2.1.2.2.2.2.2.2.2.2.2.1 dX9_lineOfWord_2 ?_
  refine cs_i St [0, 1, 2] [] (wc := [(h, .inr (9, [.ref d, .ref t, .int rh, .int rt, .int rs, .int rv, .int rk, .int rp])), (h2, .inr (6, [.ref b2, .int nn])), (b2, .inl (cb, 400, .inl f))]) (wr := []) rfl rfl (by decide) (by decide) (va_runV (As := [.ref h2, .ref (k 10)]) (rest := []) F (x9_isWord l G k _ h d t rh rt rs rv rk rp h2 b2 cb nn f 0 (by first | assumption | decide)) (cwVt F mf_X9_isWord km_X9_92 rfl rfl ⟨Nat.le_of_ble_eq_true rfl, Nat.le_of_ble_eq_true rfl⟩) (cs_preV St [0, 1, 2] rfl (by decide) [0] rfl (ci := 9) (q0 := 0) rfl rfl) rfl rfl hl.1 rfl (lv_room (Nat.le_of_ble_eq_true rfl)) dX9_lineOfWord_4 ⟨Nat.le_of_ble_eq_true rfl, Nat.le_of_ble_eq_true rfl⟩) (fun r_1 u_2 H locs hw St => ?_)
  try dsimp only at hw
  rcases hw with z_3 | z_4
  ·
    subst r_1
    have St : cS G k [(h, .inr (9, [.ref d, .ref t, .int rh, .int rt, .int rs, .int rv, .int rk, .int rp])), (h2, .inr (6, [.ref b2, .int nn])), (b2, .inl (cb, 400, .inl f))] [(cb, .byte)] A s H locs := St
    refine lv_if_eq (tgt := 12) hx hb dX9_lineOfWord_7 (by decide) (fun c7 => ?_) (fun c7 => ?_)
    · exact absurd c7 (by decide)
    refine lv_iconst (v := 0) hx hb dX9_lineOfWord_10 (by decide) ?_
    exact cs_iret F hr hlk hQ St () (r := 0) ⟨by decide, by decide⟩ [0, 1, 2] rfl (by decide) [] rfl (by decide) (by decide) dX9_lineOfWord_11
  ·
    subst r_1
    have St : cS G k [(h, .inr (9, [.ref d, .ref t, .int rh, .int rt, .int rs, .int rv, .int rk, .int rp])), (h2, .inr (6, [.ref b2, .int nn])), (b2, .inl (cb, 400, .inl f))] [(cb, .byte)] A s H locs := St
    refine lv_if_eq (tgt := 12) hx hb dX9_lineOfWord_7 (by decide) (fun c7 => ?_) (fun c7 => ?_)
    rotate_left
    · exact absurd (by decide) c7
    refine lv_aload_n hx hb dX9_lineOfWord_12 rfl (lv_at hl 0 rfl) ?_
    refine lv_aload_n hx hb dX9_lineOfWord_13 rfl (lv_at hl 1 rfl) ?_
    refine va_ldcS hx hb F.2.2.2.1 St.2.2.2.2.2.1.2.2.2.2.2.2.2.2.2.2.1 dX9_lineOfWord_14 ?_
    refine cs_i St [0, 1, 2] [] (wc := [(h, .inr (9, [.ref d, .ref t, .int rh, .int rt, .int rs, .int rv, .int rk, .int rp])), (h2, .inr (6, [.ref b2, .int nn])), (b2, .inl (cb, 400, .inl f))]) (wr := []) rfl rfl (by decide) (by decide) (va_runV (As := [.ref h2, .ref (k 11)]) (rest := []) F (x9_isWord l G k _ h d t rh rt rs rv rk rp h2 b2 cb nn f 1 (by first | assumption | decide)) (cwVt F mf_X9_isWord km_X9_92 rfl rfl ⟨Nat.le_of_ble_eq_true rfl, Nat.le_of_ble_eq_true rfl⟩) (cs_preV St [0, 1, 2] rfl (by decide) [0] rfl (ci := 9) (q0 := 0) rfl rfl) rfl rfl hl.1 rfl (lv_room (Nat.le_of_ble_eq_true rfl)) dX9_lineOfWord_16 ⟨Nat.le_of_ble_eq_true rfl, Nat.le_of_ble_eq_true rfl⟩) (fun r_5 u_6 H locs hw St => ?_)
    try dsimp only at hw
    rcases hw with z_7 | z_8
    ·
      subst r_5
      have St : cS G k [(h, .inr (9, [.ref d, .ref t, .int rh, .int rt, .int rs, .int rv, .int rk, .int rp])), (h2, .inr (6, [.ref b2, .int nn])), (b2, .inl (cb, 400, .inl f))] [(cb, .byte)] A s H locs := St
      refine lv_if_eq (tgt := 24) hx hb dX9_lineOfWord_19 (by decide) (fun c19 => ?_) (fun c19 => ?_)
      · exact absurd c19 (by decide)
      refine lv_iconst (v := 1) hx hb dX9_lineOfWord_22 (by decide) ?_
      exact cs_iret F hr hlk hQ St () (r := 1) ⟨by decide, by decide⟩ [0, 1, 2] rfl (by decide) [] rfl (by decide) (by decide) dX9_lineOfWord_23
    ·
      subst r_5
      have St : cS G k [(h, .inr (9, [.ref d, .ref t, .int rh, .int rt, .int rs, .int rv, .int rk, .int rp])), (h2, .inr (6, [.ref b2, .int nn])), (b2, .inl (cb, 400, .inl f))] [(cb, .byte)] A s H locs := St
      refine lv_if_eq (tgt := 24) hx hb dX9_lineOfWord_19 (by decide) (fun c19 => ?_) (fun c19 => ?_)
      rotate_left
      · exact absurd (by decide) c19
      refine lv_aload_n hx hb dX9_lineOfWord_24 rfl (lv_at hl 0 rfl) ?_
      refine lv_aload_n hx hb dX9_lineOfWord_25 rfl (lv_at hl 1 rfl) ?_
      refine va_ldcS hx hb F.2.2.2.1 St.2.2.2.2.2.1.2.2.2.2.2.2.2.2.2.2.2.1 dX9_lineOfWord_26 ?_
      refine cs_i St [0, 1, 2] [] (wc := [(h, .inr (9, [.ref d, .ref t, .int rh, .int rt, .int rs, .int rv, .int rk, .int rp])), (h2, .inr (6, [.ref b2, .int nn])), (b2, .inl (cb, 400, .inl f))]) (wr := []) rfl rfl (by decide) (by decide) (va_runV (As := [.ref h2, .ref (k 12)]) (rest := []) F (x9_isWord l G k _ h d t rh rt rs rv rk rp h2 b2 cb nn f 2 (by first | assumption | decide)) (cwVt F mf_X9_isWord km_X9_92 rfl rfl ⟨Nat.le_of_ble_eq_true rfl, Nat.le_of_ble_eq_true rfl⟩) (cs_preV St [0, 1, 2] rfl (by decide) [0] rfl (ci := 9) (q0 := 0) rfl rfl) rfl rfl hl.1 rfl (lv_room (Nat.le_of_ble_eq_true rfl)) dX9_lineOfWord_28 ⟨Nat.le_of_ble_eq_true rfl, Nat.le_of_ble_eq_true rfl⟩) (fun r_9 u_10 H locs hw St => ?_)
      try dsimp only at hw
      rcases hw with z_11 | z_12
      ·
        subst r_9
        have St : cS G k [(h, .inr (9, [.ref d, .ref t, .int rh, .int rt, .int rs, .int rv, .int rk, .int rp])), (h2, .inr (6, [.ref b2, .int nn])), (b2, .inl (cb, 400, .inl f))] [(cb, .byte)] A s H locs := St
        refine lv_if_eq (tgt := 36) hx hb dX9_lineOfWord_31 (by decide) (fun c31 => ?_) (fun c31 => ?_)
        · exact absurd c31 (by decide)
        refine lv_iconst (v := 2) hx hb dX9_lineOfWord_34 (by decide) ?_
        exact cs_iret F hr hlk hQ St () (r := 2) ⟨by decide, by decide⟩ [0, 1, 2] rfl (by decide) [] rfl (by decide) (by decide) dX9_lineOfWord_35
      ·
        subst r_9
        have St : cS G k [(h, .inr (9, [.ref d, .ref t, .int rh, .int rt, .int rs, .int rv, .int rk, .int rp])), (h2, .inr (6, [.ref b2, .int nn])), (b2, .inl (cb, 400, .inl f))] [(cb, .byte)] A s H locs := St
        refine lv_if_eq (tgt := 36) hx hb dX9_lineOfWord_31 (by decide) (fun c31 => ?_) (fun c31 => ?_)
        rotate_left
        · exact absurd (by decide) c31
        refine lv_aload_n hx hb dX9_lineOfWord_36 rfl (lv_at hl 0 rfl) ?_
        refine lv_aload_n hx hb dX9_lineOfWord_37 rfl (lv_at hl 1 rfl) ?_
        refine va_ldcS hx hb F.2.2.2.1 St.2.2.2.2.2.1.2.2.2.2.2.2.2.2.2.2.2.2.1 dX9_lineOfWord_38 ?_
        refine cs_i St [0, 1, 2] [] (wc := [(h, .inr (9, [.ref d, .ref t, .int rh, .int rt, .int rs, .int rv, .int rk, .int rp])), (h2, .inr (6, [.ref b2, .int nn])), (b2, .inl (cb, 400, .inl f))]) (wr := []) rfl rfl (by decide) (by decide) (va_runV (As := [.ref h2, .ref (k 13)]) (rest := []) F (x9_isWord l G k _ h d t rh rt rs rv rk rp h2 b2 cb nn f 3 (by first | assumption | decide)) (cwVt F mf_X9_isWord km_X9_92 rfl rfl ⟨Nat.le_of_ble_eq_true rfl, Nat.le_of_ble_eq_true rfl⟩) (cs_preV St [0, 1, 2] rfl (by decide) [0] rfl (ci := 9) (q0 := 0) rfl rfl) rfl rfl hl.1 rfl (lv_room (Nat.le_of_ble_eq_true rfl)) dX9_lineOfWord_40 ⟨Nat.le_of_ble_eq_true rfl, Nat.le_of_ble_eq_true rfl⟩) (fun r_13 u_14 H locs hw St => ?_)
        try dsimp only at hw
        rcases hw with z_15 | z_16
        ·
          subst r_13
          have St : cS G k [(h, .inr (9, [.ref d, .ref t, .int rh, .int rt, .int rs, .int rv, .int rk, .int rp])), (h2, .inr (6, [.ref b2, .int nn])), (b2, .inl (cb, 400, .inl f))] [(cb, .byte)] A s H locs := St
          refine lv_if_eq (tgt := 48) hx hb dX9_lineOfWord_43 (by decide) (fun c43 => ?_) (fun c43 => ?_)
          · exact absurd c43 (by decide)
          refine lv_iconst (v := 3) hx hb dX9_lineOfWord_46 (by decide) ?_
          exact cs_iret F hr hlk hQ St () (r := 3) ⟨by decide, by decide⟩ [0, 1, 2] rfl (by decide) [] rfl (by decide) (by decide) dX9_lineOfWord_47
        ·
          subst r_13
          have St : cS G k [(h, .inr (9, [.ref d, .ref t, .int rh, .int rt, .int rs, .int rv, .int rk, .int rp])), (h2, .inr (6, [.ref b2, .int nn])), (b2, .inl (cb, 400, .inl f))] [(cb, .byte)] A s H locs := St
          refine lv_if_eq (tgt := 48) hx hb dX9_lineOfWord_43 (by decide) (fun c43 => ?_) (fun c43 => ?_)
          rotate_left
          · exact absurd (by decide) c43
          refine lv_aload_n hx hb dX9_lineOfWord_48 rfl (lv_at hl 0 rfl) ?_
          refine lv_aload_n hx hb dX9_lineOfWord_49 rfl (lv_at hl 1 rfl) ?_
          refine va_ldcS hx hb F.2.2.2.1 St.2.2.2.2.2.1.2.2.2.2.2.2.2.2.2.2.2.2.2.1 dX9_lineOfWord_50 ?_
          refine cs_i St [0, 1, 2] [] (wc := [(h, .inr (9, [.ref d, .ref t, .int rh, .int rt, .int rs, .int rv, .int rk, .int rp])), (h2, .inr (6, [.ref b2, .int nn])), (b2, .inl (cb, 400, .inl f))]) (wr := []) rfl rfl (by decide) (by decide) (va_runV (As := [.ref h2, .ref (k 14)]) (rest := []) F (x9_isWord l G k _ h d t rh rt rs rv rk rp h2 b2 cb nn f 4 (by first | assumption | decide)) (cwVt F mf_X9_isWord km_X9_92 rfl rfl ⟨Nat.le_of_ble_eq_true rfl, Nat.le_of_ble_eq_true rfl⟩) (cs_preV St [0, 1, 2] rfl (by decide) [0] rfl (ci := 9) (q0 := 0) rfl rfl) rfl rfl hl.1 rfl (lv_room (Nat.le_of_ble_eq_true rfl)) dX9_lineOfWord_52 ⟨Nat.le_of_ble_eq_true rfl, Nat.le_of_ble_eq_true rfl⟩) (fun r_17 u_18 H locs hw St => ?_)
          try dsimp only at hw
          rcases hw with z_19 | z_20
          ·
            subst r_17
            have St : cS G k [(h, .inr (9, [.ref d, .ref t, .int rh, .int rt, .int rs, .int rv, .int rk, .int rp])), (h2, .inr (6, [.ref b2, .int nn])), (b2, .inl (cb, 400, .inl f))] [(cb, .byte)] A s H locs := St
            refine lv_if_eq (tgt := 60) hx hb dX9_lineOfWord_55 (by decide) (fun c55 => ?_) (fun c55 => ?_)
            · exact absurd c55 (by decide)
            refine lv_iconst (v := 4) hx hb dX9_lineOfWord_58 (by decide) ?_
            exact cs_iret F hr hlk hQ St () (r := 4) ⟨by decide, by decide⟩ [0, 1, 2] rfl (by decide) [] rfl (by decide) (by decide) dX9_lineOfWord_59
          ·
            subst r_17
            have St : cS G k [(h, .inr (9, [.ref d, .ref t, .int rh, .int rt, .int rs, .int rv, .int rk, .int rp])), (h2, .inr (6, [.ref b2, .int nn])), (b2, .inl (cb, 400, .inl f))] [(cb, .byte)] A s H locs := St
            refine lv_if_eq (tgt := 60) hx hb dX9_lineOfWord_55 (by decide) (fun c55 => ?_) (fun c55 => ?_)
            rotate_left
            · exact absurd (by decide) c55
            refine lv_aload_n hx hb dX9_lineOfWord_60 rfl (lv_at hl 0 rfl) ?_
            refine lv_aload_n hx hb dX9_lineOfWord_61 rfl (lv_at hl 1 rfl) ?_
            refine va_ldcS hx hb F.2.2.2.1 St.2.2.2.2.2.1.2.2.2.2.2.2.2.2.2.2.2.2.2.2.1 dX9_lineOfWord_62 ?_
            refine cs_i St [0, 1, 2] [] (wc := [(h, .inr (9, [.ref d, .ref t, .int rh, .int rt, .int rs, .int rv, .int rk, .int rp])), (h2, .inr (6, [.ref b2, .int nn])), (b2, .inl (cb, 400, .inl f))]) (wr := []) rfl rfl (by decide) (by decide) (va_runV (As := [.ref h2, .ref (k 15)]) (rest := []) F (x9_isWord l G k _ h d t rh rt rs rv rk rp h2 b2 cb nn f 5 (by first | assumption | decide)) (cwVt F mf_X9_isWord km_X9_92 rfl rfl ⟨Nat.le_of_ble_eq_true rfl, Nat.le_of_ble_eq_true rfl⟩) (cs_preV St [0, 1, 2] rfl (by decide) [0] rfl (ci := 9) (q0 := 0) rfl rfl) rfl rfl hl.1 rfl (lv_room (Nat.le_of_ble_eq_true rfl)) dX9_lineOfWord_64 ⟨Nat.le_of_ble_eq_true rfl, Nat.le_of_ble_eq_true rfl⟩) (fun r_21 u_22 H locs hw St => ?_)
            try dsimp only at hw
            rcases hw with z_23 | z_24
            ·
              subst r_21
              have St : cS G k [(h, .inr (9, [.ref d, .ref t, .int rh, .int rt, .int rs, .int rv, .int rk, .int rp])), (h2, .inr (6, [.ref b2, .int nn])), (b2, .inl (cb, 400, .inl f))] [(cb, .byte)] A s H locs := St
              refine lv_if_eq (tgt := 74) hx hb dX9_lineOfWord_67 (by decide) (fun c67 => ?_) (fun c67 => ?_)
              · exact absurd c67 (by decide)
              refine lv_iconst (v := 5) hx hb dX9_lineOfWord_70 (by decide) ?_
              refine lv_goto (tgt := 75) hx hb dX9_lineOfWord_71 (by decide) ?_
              exact cs_iret F hr hlk hQ St () (r := 5) ⟨by decide, by decide⟩ [0, 1, 2] rfl (by decide) [] rfl (by decide) (by decide) dX9_lineOfWord_75
            ·
              subst r_21
              have St : cS G k [(h, .inr (9, [.ref d, .ref t, .int rh, .int rt, .int rs, .int rv, .int rk, .int rp])), (h2, .inr (6, [.ref b2, .int nn])), (b2, .inl (cb, 400, .inl f))] [(cb, .byte)] A s H locs := St
              refine lv_if_eq (tgt := 74) hx hb dX9_lineOfWord_67 (by decide) (fun c67 => ?_) (fun c67 => ?_)
              rotate_left
              · exact absurd (by decide) c67
              refine lv_iconst (v := (-1)) hx hb dX9_lineOfWord_74 (by decide) ?_
              exact cs_iret F hr hlk hQ St () (r := (-1)) ⟨by decide, by decide⟩ [0, 1, 2] rfl (by decide) [] rfl (by decide) (by decide) dX9_lineOfWord_75
set_option maxHeartbeats 4000000 in
set_option maxRecDepth 100000 in
theorem x9_readStop (l : Launch) (G : va_G) (k : Nat → Nat) (sz : Nat) (h : Nat) (d : Nat) (dr : Nat) (t : Nat) (cd : ClassId) (ce : ClassId) (rh : Int32) (rt : Int32) (rs : Int32) (rv : Int32) (rk : Int32) (rp : Int32) (fd : Nat → Int32) (ft : Nat → Int32) (h2 : Nat) (b2 : Nat) (cb : ClassId) (nn : Int32) (f : Nat → Int32) : Met l yX9_readStop (Cond.code yX9_readStop cX9_readStop 2 none :: tb) ({ frames := 5, cells := 0, slots := 0, locals := 108 } : Room) (va_Pc [.ref h, .ref h2] (cP G k [(h, .inr (9, [.ref d, .ref t, .int rh, .int rt, .int rs, .int rv, .int rk, .int rp])), (d, .inr (8, [.ref dr])), (dr, .inl (cd, 9, .inl fd)), (t, .inl (ce, 6, .inl ft)), (h2, .inr (6, [.ref b2, .int nn])), (b2, .inl (cb, 400, .inl f))] [(cd, .int), (ce, .boolean), (cb, .byte)] sz)) (va_Qv (fun (u : Int32 × Int32 × Int32 × Int32 × Int32 × Int32 × (Nat → Int32)) => match u with | (rh2, rt2, rs2, rv2, rk2, rp2, fd2) => True) (cB G (fun u => match u with | (rh2, rt2, rs2, rv2, rk2, rp2, fd2) => [(h, .inr (9, [.ref d, .ref t, .int rh2, .int rt2, .int rs2, .int rv2, .int rk2, .int rp2])), (d, .inr (8, [.ref dr])), (dr, .inl (cd, 9, .inl fd2)), (t, .inl (ce, 6, .inl ft)), (h2, .inr (6, [.ref b2, .int nn])), (b2, .inl (cb, 400, .inl f))]) (fun u => match u with | (rh2, rt2, rs2, rv2, rk2, rp2, fd2) => []) (va_A [(h, .inr (9, [.ref d, .ref t, .int rh, .int rt, .int rs, .int rv, .int rk, .int rp])), (d, .inr (8, [.ref dr])), (dr, .inl (cd, 9, .inl fd)), (t, .inl (ce, 6, .inl ft)), (h2, .inr (6, [.ref b2, .int nn])), (b2, .inl (cb, 400, .inl f))] sz)) (va_A [(h, .inr (9, [.ref d, .ref t, .int rh, .int rt, .int rs, .int rv, .int rk, .int rp])), (d, .inr (8, [.ref dr])), (dr, .inl (cd, 9, .inl fd)), (t, .inl (ce, 6, .inl ft)), (h2, .inr (6, [.ref b2, .int nn])), (b2, .inl (cb, 400, .inl f))] sz)) 0 0 (va_A [(h, .inr (9, [.ref d, .ref t, .int rh, .int rt, .int rs, .int rv, .int rk, .int rp])), (d, .inr (8, [.ref dr])), (dr, .inl (cd, 9, .inl fd)), (t, .inl (ce, 6, .inl ft)), (h2, .inr (6, [.ref b2, .int nn])), (b2, .inl (cb, 400, .inl f))] sz) := by
  refine ofC_v (cc := cX9_readStop) (maxL := 2) (ret := none) (by decide) rfl (Nat.le_of_ble_eq_true rfl) ?_
  intro p e s m args below meth c A ls Q F hr hin hlk St hl hQ
  have hx := F.1
  have hb := F.2.1
  have hl : lv_has ls 2 [(0, .ref h), (1, .ref h2)] := hl
  have St : cS G k [(h, .inr (9, [.ref d, .ref t, .int rh, .int rt, .int rs, .int rv, .int rk, .int rp])), (d, .inr (8, [.ref dr])), (dr, .inl (cd, 9, .inl fd)), (t, .inl (ce, 6, .inl ft)), (h2, .inr (6, [.ref b2, .int nn])), (b2, .inl (cb, 400, .inl f))] [(cd, .int), (ce, .boolean), (cb, .byte)] A s s.heap [] := St
  refine lv_aload_n hx hb dX9_readStop_0 rfl (lv_at hl 0 rfl) ?_
  refine lv_aload_n hx hb dX9_readStop_1 rfl (lv_at hl 1 rfl) ?_
  refine cs_v St [0, 4, 5] [1, 2, 3] (wc := [(h, .inr (9, [.ref d, .ref t, .int rh, .int rt, .int rs, .int rv, .int rk, .int rp])), (h2, .inr (6, [.ref b2, .int nn])), (b2, .inl (cb, 400, .inl f))]) (wr := [(d, .inr (8, [.ref dr])), (dr, .inl (cd, 9, .inl fd)), (t, .inl (ce, 6, .inl ft))]) rfl rfl (by decide) (by decide) (va_runV (As := [.ref h2]) (rest := []) F (x9_readToken l G k _ h d t rh rt rs rv rk rp h2 b2 cb nn f) (cwVt F mf_X9_readToken km_X9_32 rfl rfl ⟨Nat.le_of_ble_eq_true rfl, Nat.le_of_ble_eq_true rfl⟩) (cs_preV St [0, 4, 5] rfl (by decide) [2] rfl (ci := 9) (q0 := 0) rfl rfl) rfl rfl hl.1 rfl (lv_room (Nat.le_of_ble_eq_true rfl)) dX9_readStop_2 ⟨Nat.le_of_ble_eq_true rfl, Nat.le_of_ble_eq_true rfl⟩) (fun u_2 H locs hw St => ?_)
  obtain ⟨rh2_3, rt2_4, rs2_5, rv2_6, rk2_7, rp2_8⟩ := u_2
  try dsimp only at hw
  have St : cS G k [(d, .inr (8, [.ref dr])), (dr, .inl (cd, 9, .inl fd)), (t, .inl (ce, 6, .inl ft)), (h, .inr (9, [.ref d, .ref t, .int rh2_3, .int rt2_4, .int rs2_5, .int rv2_6, .int rk2_7, .int rp2_8])), (h2, .inr (6, [.ref b2, .int nn])), (b2, .inl (cb, 400, .inl f))] [(cd, .int), (ce, .boolean), (cb, .byte)] A s H locs := St
  refine lv_aload_n hx hb dX9_readStop_5 rfl (lv_at hl 0 rfl) ?_
  refine cs_get F St 3 rfl rfl inX9 3 (by decide) kf_X9_36 rfl dX9_readStop_6 ?_
  refine lv_iconst (v := 1) hx hb dX9_readStop_9 (by decide) ?_
  refine lv_icmp_ne (tgt := 36) hx hb dX9_readStop_10 (by decide) (fun c10 => ?_) (fun c10 => ?_)
  ·
    have i10 := ci_ne (x := rt2_4) (y := 1) rfl (show (1 : Int32).toInt = 1 by decide) c10
    refine lv_aload_n hx hb dX9_readStop_36 rfl (lv_at hl 0 rfl) ?_
    refine cs_get F St 3 rfl rfl inX9 3 (by decide) kf_X9_36 rfl dX9_readStop_37 ?_
    refine lv_iconst (v := 1) hx hb dX9_readStop_40 (by decide) ?_
    refine lv_icmp_ne (tgt := 67) hx hb dX9_readStop_41 (by decide) (fun c41 => ?_) (fun c41 => ?_)
    ·
      have i41 := ci_ne (x := rt2_4) (y := 1) rfl (show (1 : Int32).toInt = 1 by decide) c41
      refine lv_aload_n hx hb dX9_readStop_67 rfl (lv_at hl 0 rfl) ?_
      refine lv_iconst (v := 1) hx hb dX9_readStop_68 (by decide) ?_
      refine cs_v St [3] [0, 1, 2, 4, 5] (wc := [(h, .inr (9, [.ref d, .ref t, .int rh2_3, .int rt2_4, .int rs2_5, .int rv2_6, .int rk2_7, .int rp2_8]))]) (wr := [(d, .inr (8, [.ref dr])), (dr, .inl (cd, 9, .inl fd)), (t, .inl (ce, 6, .inl ft)), (h2, .inr (6, [.ref b2, .int nn])), (b2, .inl (cb, 400, .inl f))]) rfl rfl (by decide) (by decide) (va_runV (As := [.int 1]) (rest := []) F (x9_refuse l G k _ h d t rh2_3 rt2_4 rs2_5 rv2_6 rk2_7 rp2_8 1) (cwVt F mf_X9_refuse km_X9_55 rfl rfl ⟨Nat.le_of_ble_eq_true rfl, Nat.le_of_ble_eq_true rfl⟩) (cs_preV St [3] rfl (by decide) [] rfl (ci := 9) (q0 := 3) rfl rfl) rfl rfl hl.1 rfl (lv_room (Nat.le_of_ble_eq_true rfl)) dX9_readStop_69 ⟨Nat.le_of_ble_eq_true rfl, Nat.le_of_ble_eq_true rfl⟩) (fun u_10 H locs hw St => ?_)
      try dsimp only at hw
      have St : cS G k [(d, .inr (8, [.ref dr])), (dr, .inl (cd, 9, .inl fd)), (t, .inl (ce, 6, .inl ft)), (h2, .inr (6, [.ref b2, .int nn])), (b2, .inl (cb, 400, .inl f)), (h, .inr (9, [.ref d, .ref t, .int rh2_3, .int rt2_4, .int rs2_5, .int rv2_6, .int 1, .int rs2_5]))] [(cd, .int), (ce, .boolean), (cb, .byte)] A s H locs := St
      exact cs_vret F hr hlk hQ St (rh2_3, rt2_4, rs2_5, rv2_6, 1, rs2_5, fd) (by trivial) [5, 0, 1, 2, 3, 4] rfl (by decide) [] rfl (by decide) (by decide) dX9_readStop_72
    ·
      have i41 := ci_eq (x := rt2_4) (y := 1) rfl (show (1 : Int32).toInt = 1 by decide) c41
      refine lv_aload_n hx hb dX9_readStop_44 rfl (lv_at hl 0 rfl) ?_
      refine lv_aload_n hx hb dX9_readStop_45 rfl (lv_at hl 1 rfl) ?_
      refine va_ldcS hx hb F.2.2.2.1 St.2.2.2.2.2.1.2.2.2.2.2.2.2.2.2.2.2.2.2.2.2.2.1 dX9_readStop_46 ?_
      refine cs_i St [3, 4, 5] [0, 1, 2] (wc := [(h, .inr (9, [.ref d, .ref t, .int rh2_3, .int rt2_4, .int rs2_5, .int rv2_6, .int rk2_7, .int rp2_8])), (h2, .inr (6, [.ref b2, .int nn])), (b2, .inl (cb, 400, .inl f))]) (wr := [(d, .inr (8, [.ref dr])), (dr, .inl (cd, 9, .inl fd)), (t, .inl (ce, 6, .inl ft))]) rfl rfl (by decide) (by decide) (va_runV (As := [.ref h2, .ref (k 17)]) (rest := []) F (x9_isWord l G k _ h d t rh2_3 rt2_4 rs2_5 rv2_6 rk2_7 rp2_8 h2 b2 cb nn f 7 (by first | assumption | decide)) (cwVt F mf_X9_isWord km_X9_92 rfl rfl ⟨Nat.le_of_ble_eq_true rfl, Nat.le_of_ble_eq_true rfl⟩) (cs_preV St [3, 4, 5] rfl (by decide) [2] rfl (ci := 9) (q0 := 3) rfl rfl) rfl rfl hl.1 rfl (lv_room (Nat.le_of_ble_eq_true rfl)) dX9_readStop_48 ⟨Nat.le_of_ble_eq_true rfl, Nat.le_of_ble_eq_true rfl⟩) (fun r_11 u_12 H locs hw St => ?_)
      try dsimp only at hw
      rcases hw with z_13 | z_14
      ·
        subst r_11
        have St : cS G k [(d, .inr (8, [.ref dr])), (dr, .inl (cd, 9, .inl fd)), (t, .inl (ce, 6, .inl ft)), (h, .inr (9, [.ref d, .ref t, .int rh2_3, .int rt2_4, .int rs2_5, .int rv2_6, .int rk2_7, .int rp2_8])), (h2, .inr (6, [.ref b2, .int nn])), (b2, .inl (cb, 400, .inl f))] [(cd, .int), (ce, .boolean), (cb, .byte)] A s H locs := St
        refine lv_if_eq (tgt := 67) hx hb dX9_readStop_51 (by decide) (fun c51 => ?_) (fun c51 => ?_)
        · exact absurd c51 (by decide)
        refine lv_aload_n hx hb dX9_readStop_54 rfl (lv_at hl 0 rfl) ?_
        refine cs_get F St 3 rfl rfl inX9 0 (by decide) kf_X9_12 rfl dX9_readStop_55 ?_
        refine lv_bipush (v := 8) hx hb dX9_readStop_58 (by decide) ?_
        refine lv_iconst (v := 0) hx hb dX9_readStop_60 (by decide) ?_
        refine cs_v St [0, 1] [2, 3, 4, 5] (wc := [(d, .inr (8, [.ref dr])), (dr, .inl (cd, 9, .inl fd))]) (wr := [(t, .inl (ce, 6, .inl ft)), (h, .inr (9, [.ref d, .ref t, .int rh2_3, .int rt2_4, .int rs2_5, .int rv2_6, .int rk2_7, .int rp2_8])), (h2, .inr (6, [.ref b2, .int nn])), (b2, .inl (cb, 400, .inl f))]) rfl rfl (by decide) (by decide) (va_runV (As := [.int 8, .int 0]) (rest := []) F (x8_put l G k _ d dr cd fd 8 0) (cwVt F mf_X8_put km_X9_80 rfl rfl ⟨Nat.le_of_ble_eq_true rfl, Nat.le_of_ble_eq_true rfl⟩) (cs_preV St [0, 1] rfl (by decide) [0] rfl (ci := 8) (q0 := 0) rfl rfl) rfl rfl hl.1 rfl (lv_room (Nat.le_of_ble_eq_true rfl)) dX9_readStop_61 ⟨Nat.le_of_ble_eq_true rfl, Nat.le_of_ble_eq_true rfl⟩) (fun u_16 H locs hw St => ?_)
        obtain ⟨f2_17, rfl⟩ : ∃ z, z = u_16 := ⟨_, rfl⟩
        try dsimp only at hw
        have St : cS G k [(t, .inl (ce, 6, .inl ft)), (h, .inr (9, [.ref d, .ref t, .int rh2_3, .int rt2_4, .int rs2_5, .int rv2_6, .int rk2_7, .int rp2_8])), (h2, .inr (6, [.ref b2, .int nn])), (b2, .inl (cb, 400, .inl f)), (d, .inr (8, [.ref dr])), (dr, .inl (cd, 9, .inl f2_17))] [(cd, .int), (ce, .boolean), (cb, .byte)] A s H locs := St
        refine lv_goto (tgt := 72) hx hb dX9_readStop_64 (by decide) ?_
        exact cs_vret F hr hlk hQ St (rh2_3, rt2_4, rs2_5, rv2_6, rk2_7, rp2_8, f2_17) (by trivial) [1, 4, 5, 0, 2, 3] rfl (by decide) [] rfl (by decide) (by decide) dX9_readStop_72
      ·
        subst r_11
        have St : cS G k [(d, .inr (8, [.ref dr])), (dr, .inl (cd, 9, .inl fd)), (t, .inl (ce, 6, .inl ft)), (h, .inr (9, [.ref d, .ref t, .int rh2_3, .int rt2_4, .int rs2_5, .int rv2_6, .int rk2_7, .int rp2_8])), (h2, .inr (6, [.ref b2, .int nn])), (b2, .inl (cb, 400, .inl f))] [(cd, .int), (ce, .boolean), (cb, .byte)] A s H locs := St
        refine lv_if_eq (tgt := 67) hx hb dX9_readStop_51 (by decide) (fun c51 => ?_) (fun c51 => ?_)
        rotate_left
        · exact absurd (by decide) c51
        refine lv_aload_n hx hb dX9_readStop_67 rfl (lv_at hl 0 rfl) ?_
        refine lv_iconst (v := 1) hx hb dX9_readStop_68 (by decide) ?_
        refine cs_v St [3] [0, 1, 2, 4, 5] (wc := [(h, .inr (9, [.ref d, .ref t, .int rh2_3, .int rt2_4, .int rs2_5, .int rv2_6, .int rk2_7, .int rp2_8]))]) (wr := [(d, .inr (8, [.ref dr])), (dr, .inl (cd, 9, .inl fd)), (t, .inl (ce, 6, .inl ft)), (h2, .inr (6, [.ref b2, .int nn])), (b2, .inl (cb, 400, .inl f))]) rfl rfl (by decide) (by decide) (va_runV (As := [.int 1]) (rest := []) F (x9_refuse l G k _ h d t rh2_3 rt2_4 rs2_5 rv2_6 rk2_7 rp2_8 1) (cwVt F mf_X9_refuse km_X9_55 rfl rfl ⟨Nat.le_of_ble_eq_true rfl, Nat.le_of_ble_eq_true rfl⟩) (cs_preV St [3] rfl (by decide) [] rfl (ci := 9) (q0 := 3) rfl rfl) rfl rfl hl.1 rfl (lv_room (Nat.le_of_ble_eq_true rfl)) dX9_readStop_69 ⟨Nat.le_of_ble_eq_true rfl, Nat.le_of_ble_eq_true rfl⟩) (fun u_19 H locs hw St => ?_)
        try dsimp only at hw
        have St : cS G k [(d, .inr (8, [.ref dr])), (dr, .inl (cd, 9, .inl fd)), (t, .inl (ce, 6, .inl ft)), (h2, .inr (6, [.ref b2, .int nn])), (b2, .inl (cb, 400, .inl f)), (h, .inr (9, [.ref d, .ref t, .int rh2_3, .int rt2_4, .int rs2_5, .int rv2_6, .int 1, .int rs2_5]))] [(cd, .int), (ce, .boolean), (cb, .byte)] A s H locs := St
        exact cs_vret F hr hlk hQ St (rh2_3, rt2_4, rs2_5, rv2_6, 1, rs2_5, fd) (by trivial) [5, 0, 1, 2, 3, 4] rfl (by decide) [] rfl (by decide) (by decide) dX9_readStop_72
  ·
    have i10 := ci_eq (x := rt2_4) (y := 1) rfl (show (1 : Int32).toInt = 1 by decide) c10
    refine lv_aload_n hx hb dX9_readStop_13 rfl (lv_at hl 0 rfl) ?_
    refine lv_aload_n hx hb dX9_readStop_14 rfl (lv_at hl 1 rfl) ?_
    refine va_ldcS hx hb F.2.2.2.1 St.2.2.2.2.2.1.2.2.2.2.2.2.2.2.2.2.2.2.2.2.2.1 dX9_readStop_15 ?_
    refine cs_i St [3, 4, 5] [0, 1, 2] (wc := [(h, .inr (9, [.ref d, .ref t, .int rh2_3, .int rt2_4, .int rs2_5, .int rv2_6, .int rk2_7, .int rp2_8])), (h2, .inr (6, [.ref b2, .int nn])), (b2, .inl (cb, 400, .inl f))]) (wr := [(d, .inr (8, [.ref dr])), (dr, .inl (cd, 9, .inl fd)), (t, .inl (ce, 6, .inl ft))]) rfl rfl (by decide) (by decide) (va_runV (As := [.ref h2, .ref (k 16)]) (rest := []) F (x9_isWord l G k _ h d t rh2_3 rt2_4 rs2_5 rv2_6 rk2_7 rp2_8 h2 b2 cb nn f 6 (by first | assumption | decide)) (cwVt F mf_X9_isWord km_X9_92 rfl rfl ⟨Nat.le_of_ble_eq_true rfl, Nat.le_of_ble_eq_true rfl⟩) (cs_preV St [3, 4, 5] rfl (by decide) [2] rfl (ci := 9) (q0 := 3) rfl rfl) rfl rfl hl.1 rfl (lv_room (Nat.le_of_ble_eq_true rfl)) dX9_readStop_17 ⟨Nat.le_of_ble_eq_true rfl, Nat.le_of_ble_eq_true rfl⟩) (fun r_20 u_21 H locs hw St => ?_)
    try dsimp only at hw
    rcases hw with z_22 | z_23
    ·
      subst r_20
      have St : cS G k [(d, .inr (8, [.ref dr])), (dr, .inl (cd, 9, .inl fd)), (t, .inl (ce, 6, .inl ft)), (h, .inr (9, [.ref d, .ref t, .int rh2_3, .int rt2_4, .int rs2_5, .int rv2_6, .int rk2_7, .int rp2_8])), (h2, .inr (6, [.ref b2, .int nn])), (b2, .inl (cb, 400, .inl f))] [(cd, .int), (ce, .boolean), (cb, .byte)] A s H locs := St
      refine lv_if_eq (tgt := 36) hx hb dX9_readStop_20 (by decide) (fun c20 => ?_) (fun c20 => ?_)
      · exact absurd c20 (by decide)
      refine lv_aload_n hx hb dX9_readStop_23 rfl (lv_at hl 0 rfl) ?_
      refine cs_get F St 3 rfl rfl inX9 0 (by decide) kf_X9_12 rfl dX9_readStop_24 ?_
      refine lv_bipush (v := 8) hx hb dX9_readStop_27 (by decide) ?_
      refine lv_iconst (v := 1) hx hb dX9_readStop_29 (by decide) ?_
      refine cs_v St [0, 1] [2, 3, 4, 5] (wc := [(d, .inr (8, [.ref dr])), (dr, .inl (cd, 9, .inl fd))]) (wr := [(t, .inl (ce, 6, .inl ft)), (h, .inr (9, [.ref d, .ref t, .int rh2_3, .int rt2_4, .int rs2_5, .int rv2_6, .int rk2_7, .int rp2_8])), (h2, .inr (6, [.ref b2, .int nn])), (b2, .inl (cb, 400, .inl f))]) rfl rfl (by decide) (by decide) (va_runV (As := [.int 8, .int 1]) (rest := []) F (x8_put l G k _ d dr cd fd 8 1) (cwVt F mf_X8_put km_X9_80 rfl rfl ⟨Nat.le_of_ble_eq_true rfl, Nat.le_of_ble_eq_true rfl⟩) (cs_preV St [0, 1] rfl (by decide) [0] rfl (ci := 8) (q0 := 0) rfl rfl) rfl rfl hl.1 rfl (lv_room (Nat.le_of_ble_eq_true rfl)) dX9_readStop_30 ⟨Nat.le_of_ble_eq_true rfl, Nat.le_of_ble_eq_true rfl⟩) (fun u_25 H locs hw St => ?_)
      obtain ⟨f2_26, rfl⟩ : ∃ z, z = u_25 := ⟨_, rfl⟩
      try dsimp only at hw
      have St : cS G k [(t, .inl (ce, 6, .inl ft)), (h, .inr (9, [.ref d, .ref t, .int rh2_3, .int rt2_4, .int rs2_5, .int rv2_6, .int rk2_7, .int rp2_8])), (h2, .inr (6, [.ref b2, .int nn])), (b2, .inl (cb, 400, .inl f)), (d, .inr (8, [.ref dr])), (dr, .inl (cd, 9, .inl f2_26))] [(cd, .int), (ce, .boolean), (cb, .byte)] A s H locs := St
      refine lv_goto (tgt := 72) hx hb dX9_readStop_33 (by decide) ?_
      exact cs_vret F hr hlk hQ St (rh2_3, rt2_4, rs2_5, rv2_6, rk2_7, rp2_8, f2_26) (by trivial) [1, 4, 5, 0, 2, 3] rfl (by decide) [] rfl (by decide) (by decide) dX9_readStop_72
    ·
      subst r_20
      have St : cS G k [(d, .inr (8, [.ref dr])), (dr, .inl (cd, 9, .inl fd)), (t, .inl (ce, 6, .inl ft)), (h, .inr (9, [.ref d, .ref t, .int rh2_3, .int rt2_4, .int rs2_5, .int rv2_6, .int rk2_7, .int rp2_8])), (h2, .inr (6, [.ref b2, .int nn])), (b2, .inl (cb, 400, .inl f))] [(cd, .int), (ce, .boolean), (cb, .byte)] A s H locs := St
      refine lv_if_eq (tgt := 36) hx hb dX9_readStop_20 (by decide) (fun c20 => ?_) (fun c20 => ?_)
      rotate_left
      · exact absurd (by decide) c20
      refine lv_aload_n hx hb dX9_readStop_36 rfl (lv_at hl 0 rfl) ?_
      refine cs_get F St 3 rfl rfl inX9 3 (by decide) kf_X9_36 rfl dX9_readStop_37 ?_
      refine lv_iconst (v := 1) hx hb dX9_readStop_40 (by decide) ?_
      refine lv_icmp_ne (tgt := 67) hx hb dX9_readStop_41 (by decide) (fun c41 => ?_) (fun c41 => ?_)
      ·
        have i41 := ci_ne (x := rt2_4) (y := 1) rfl (show (1 : Int32).toInt = 1 by decide) c41
        refine lv_aload_n hx hb dX9_readStop_67 rfl (lv_at hl 0 rfl) ?_
        refine lv_iconst (v := 1) hx hb dX9_readStop_68 (by decide) ?_
        refine cs_v St [3] [0, 1, 2, 4, 5] (wc := [(h, .inr (9, [.ref d, .ref t, .int rh2_3, .int rt2_4, .int rs2_5, .int rv2_6, .int rk2_7, .int rp2_8]))]) (wr := [(d, .inr (8, [.ref dr])), (dr, .inl (cd, 9, .inl fd)), (t, .inl (ce, 6, .inl ft)), (h2, .inr (6, [.ref b2, .int nn])), (b2, .inl (cb, 400, .inl f))]) rfl rfl (by decide) (by decide) (va_runV (As := [.int 1]) (rest := []) F (x9_refuse l G k _ h d t rh2_3 rt2_4 rs2_5 rv2_6 rk2_7 rp2_8 1) (cwVt F mf_X9_refuse km_X9_55 rfl rfl ⟨Nat.le_of_ble_eq_true rfl, Nat.le_of_ble_eq_true rfl⟩) (cs_preV St [3] rfl (by decide) [] rfl (ci := 9) (q0 := 3) rfl rfl) rfl rfl hl.1 rfl (lv_room (Nat.le_of_ble_eq_true rfl)) dX9_readStop_69 ⟨Nat.le_of_ble_eq_true rfl, Nat.le_of_ble_eq_true rfl⟩) (fun u_28 H locs hw St => ?_)
        try dsimp only at hw
        have St : cS G k [(d, .inr (8, [.ref dr])), (dr, .inl (cd, 9, .inl fd)), (t, .inl (ce, 6, .inl ft)), (h2, .inr (6, [.ref b2, .int nn])), (b2, .inl (cb, 400, .inl f)), (h, .inr (9, [.ref d, .ref t, .int rh2_3, .int rt2_4, .int rs2_5, .int rv2_6, .int 1, .int rs2_5]))] [(cd, .int), (ce, .boolean), (cb, .byte)] A s H locs := St
        exact cs_vret F hr hlk hQ St (rh2_3, rt2_4, rs2_5, rv2_6, 1, rs2_5, fd) (by trivial) [5, 0, 1, 2, 3, 4] rfl (by decide) [] rfl (by decide) (by decide) dX9_readStop_72
      ·
        have i41 := ci_eq (x := rt2_4) (y := 1) rfl (show (1 : Int32).toInt = 1 by decide) c41
        refine lv_aload_n hx hb dX9_readStop_44 rfl (lv_at hl 0 rfl) ?_
        refine lv_aload_n hx hb dX9_readStop_45 rfl (lv_at hl 1 rfl) ?_
        refine va_ldcS hx hb F.2.2.2.1 St.2.2.2.2.2.1.2.2.2.2.2.2.2.2.2.2.2.2.2.2.2.2.1 dX9_readStop_46 ?_
        refine cs_i St [3, 4, 5] [0, 1, 2] (wc := [(h, .inr (9, [.ref d, .ref t, .int rh2_3, .int rt2_4, .int rs2_5, .int rv2_6, .int rk2_7, .int rp2_8])), (h2, .inr (6, [.ref b2, .int nn])), (b2, .inl (cb, 400, .inl f))]) (wr := [(d, .inr (8, [.ref dr])), (dr, .inl (cd, 9, .inl fd)), (t, .inl (ce, 6, .inl ft))]) rfl rfl (by decide) (by decide) (va_runV (As := [.ref h2, .ref (k 17)]) (rest := []) F (x9_isWord l G k _ h d t rh2_3 rt2_4 rs2_5 rv2_6 rk2_7 rp2_8 h2 b2 cb nn f 7 (by first | assumption | decide)) (cwVt F mf_X9_isWord km_X9_92 rfl rfl ⟨Nat.le_of_ble_eq_true rfl, Nat.le_of_ble_eq_true rfl⟩) (cs_preV St [3, 4, 5] rfl (by decide) [2] rfl (ci := 9) (q0 := 3) rfl rfl) rfl rfl hl.1 rfl (lv_room (Nat.le_of_ble_eq_true rfl)) dX9_readStop_48 ⟨Nat.le_of_ble_eq_true rfl, Nat.le_of_ble_eq_true rfl⟩) (fun r_29 u_30 H locs hw St => ?_)
        try dsimp only at hw
        rcases hw with z_31 | z_32
        ·
          subst r_29
          have St : cS G k [(d, .inr (8, [.ref dr])), (dr, .inl (cd, 9, .inl fd)), (t, .inl (ce, 6, .inl ft)), (h, .inr (9, [.ref d, .ref t, .int rh2_3, .int rt2_4, .int rs2_5, .int rv2_6, .int rk2_7, .int rp2_8])), (h2, .inr (6, [.ref b2, .int nn])), (b2, .inl (cb, 400, .inl f))] [(cd, .int), (ce, .boolean), (cb, .byte)] A s H locs := St
          refine lv_if_eq (tgt := 67) hx hb dX9_readStop_51 (by decide) (fun c51 => ?_) (fun c51 => ?_)
          · exact absurd c51 (by decide)
          refine lv_aload_n hx hb dX9_readStop_54 rfl (lv_at hl 0 rfl) ?_
          refine cs_get F St 3 rfl rfl inX9 0 (by decide) kf_X9_12 rfl dX9_readStop_55 ?_
          refine lv_bipush (v := 8) hx hb dX9_readStop_58 (by decide) ?_
          refine lv_iconst (v := 0) hx hb dX9_readStop_60 (by decide) ?_
          refine cs_v St [0, 1] [2, 3, 4, 5] (wc := [(d, .inr (8, [.ref dr])), (dr, .inl (cd, 9, .inl fd))]) (wr := [(t, .inl (ce, 6, .inl ft)), (h, .inr (9, [.ref d, .ref t, .int rh2_3, .int rt2_4, .int rs2_5, .int rv2_6, .int rk2_7, .int rp2_8])), (h2, .inr (6, [.ref b2, .int nn])), (b2, .inl (cb, 400, .inl f))]) rfl rfl (by decide) (by decide) (va_runV (As := [.int 8, .int 0]) (rest := []) F (x8_put l G k _ d dr cd fd 8 0) (cwVt F mf_X8_put km_X9_80 rfl rfl ⟨Nat.le_of_ble_eq_true rfl, Nat.le_of_ble_eq_true rfl⟩) (cs_preV St [0, 1] rfl (by decide) [0] rfl (ci := 8) (q0 := 0) rfl rfl) rfl rfl hl.1 rfl (lv_room (Nat.le_of_ble_eq_true rfl)) dX9_readStop_61 ⟨Nat.le_of_ble_eq_true rfl, Nat.le_of_ble_eq_true rfl⟩) (fun u_34 H locs hw St => ?_)
          obtain ⟨f2_35, rfl⟩ : ∃ z, z = u_34 := ⟨_, rfl⟩
          try dsimp only at hw
          have St : cS G k [(t, .inl (ce, 6, .inl ft)), (h, .inr (9, [.ref d, .ref t, .int rh2_3, .int rt2_4, .int rs2_5, .int rv2_6, .int rk2_7, .int rp2_8])), (h2, .inr (6, [.ref b2, .int nn])), (b2, .inl (cb, 400, .inl f)), (d, .inr (8, [.ref dr])), (dr, .inl (cd, 9, .inl f2_35))] [(cd, .int), (ce, .boolean), (cb, .byte)] A s H locs := St
          refine lv_goto (tgt := 72) hx hb dX9_readStop_64 (by decide) ?_
          exact cs_vret F hr hlk hQ St (rh2_3, rt2_4, rs2_5, rv2_6, rk2_7, rp2_8, f2_35) (by trivial) [1, 4, 5, 0, 2, 3] rfl (by decide) [] rfl (by decide) (by decide) dX9_readStop_72
        ·
          subst r_29
          have St : cS G k [(d, .inr (8, [.ref dr])), (dr, .inl (cd, 9, .inl fd)), (t, .inl (ce, 6, .inl ft)), (h, .inr (9, [.ref d, .ref t, .int rh2_3, .int rt2_4, .int rs2_5, .int rv2_6, .int rk2_7, .int rp2_8])), (h2, .inr (6, [.ref b2, .int nn])), (b2, .inl (cb, 400, .inl f))] [(cd, .int), (ce, .boolean), (cb, .byte)] A s H locs := St
          refine lv_if_eq (tgt := 67) hx hb dX9_readStop_51 (by decide) (fun c51 => ?_) (fun c51 => ?_)
          rotate_left
          · exact absurd (by decide) c51
          refine lv_aload_n hx hb dX9_readStop_67 rfl (lv_at hl 0 rfl) ?_
          refine lv_iconst (v := 1) hx hb dX9_readStop_68 (by decide) ?_
          refine cs_v St [3] [0, 1, 2, 4, 5] (wc := [(h, .inr (9, [.ref d, .ref t, .int rh2_3, .int rt2_4, .int rs2_5, .int rv2_6, .int rk2_7, .int rp2_8]))]) (wr := [(d, .inr (8, [.ref dr])), (dr, .inl (cd, 9, .inl fd)), (t, .inl (ce, 6, .inl ft)), (h2, .inr (6, [.ref b2, .int nn])), (b2, .inl (cb, 400, .inl f))]) rfl rfl (by decide) (by decide) (va_runV (As := [.int 1]) (rest := []) F (x9_refuse l G k _ h d t rh2_3 rt2_4 rs2_5 rv2_6 rk2_7 rp2_8 1) (cwVt F mf_X9_refuse km_X9_55 rfl rfl ⟨Nat.le_of_ble_eq_true rfl, Nat.le_of_ble_eq_true rfl⟩) (cs_preV St [3] rfl (by decide) [] rfl (ci := 9) (q0 := 3) rfl rfl) rfl rfl hl.1 rfl (lv_room (Nat.le_of_ble_eq_true rfl)) dX9_readStop_69 ⟨Nat.le_of_ble_eq_true rfl, Nat.le_of_ble_eq_true rfl⟩) (fun u_37 H locs hw St => ?_)
          try dsimp only at hw
          have St : cS G k [(d, .inr (8, [.ref dr])), (dr, .inl (cd, 9, .inl fd)), (t, .inl (ce, 6, .inl ft)), (h2, .inr (6, [.ref b2, .int nn])), (b2, .inl (cb, 400, .inl f)), (h, .inr (9, [.ref d, .ref t, .int rh2_3, .int rt2_4, .int rs2_5, .int rv2_6, .int 1, .int rs2_5]))] [(cd, .int), (ce, .boolean), (cb, .byte)] A s H locs := St
          exact cs_vret F hr hlk hQ St (rh2_3, rt2_4, rs2_5, rv2_6, 1, rs2_5, fd) (by trivial) [5, 0, 1, 2, 3, 4] rfl (by decide) [] rfl (by decide) (by decide) dX9_readStop_72
set_option maxHeartbeats 4000000 in
set_option maxRecDepth 100000 in
theorem x9_readNumbers (l : Launch) (G : va_G) (k : Nat → Nat) (sz : Nat) (h : Nat) (d : Nat) (dr : Nat) (t : Nat) (cd : ClassId) (ce : ClassId) (rh : Int32) (rt : Int32) (rs : Int32) (rv : Int32) (rk : Int32) (rp : Int32) (fd : Nat → Int32) (ft : Nat → Int32) (h2 : Nat) (b2 : Nat) (cb : ClassId) (nn : Int32) (f : Nat → Int32) (x : Int32) : Met l yX9_readNumbers (Cond.code yX9_readNumbers cX9_readNumbers 6 none :: tb) ({ frames := 3, cells := 0, slots := 0, locals := 64 } : Room) (va_Pc [.ref h, .ref h2, .int x] (cP G k [(h, .inr (9, [.ref d, .ref t, .int rh, .int rt, .int rs, .int rv, .int rk, .int rp])), (d, .inr (8, [.ref dr])), (dr, .inl (cd, 9, .inl fd)), (t, .inl (ce, 6, .inl ft)), (h2, .inr (6, [.ref b2, .int nn])), (b2, .inl (cb, 400, .inl f))] [(cd, .int), (ce, .boolean), (cb, .byte)] sz)) (va_Qv (fun (u : Int32 × Int32 × Int32 × Int32 × Int32 × Int32 × (Nat → Int32)) => match u with | (rh2, rt2, rs2, rv2, rk2, rp2, fd2) => True) (cB G (fun u => match u with | (rh2, rt2, rs2, rv2, rk2, rp2, fd2) => [(h, .inr (9, [.ref d, .ref t, .int rh2, .int rt2, .int rs2, .int rv2, .int rk2, .int rp2])), (d, .inr (8, [.ref dr])), (dr, .inl (cd, 9, .inl fd2)), (t, .inl (ce, 6, .inl ft)), (h2, .inr (6, [.ref b2, .int nn])), (b2, .inl (cb, 400, .inl f))]) (fun u => match u with | (rh2, rt2, rs2, rv2, rk2, rp2, fd2) => []) (va_A [(h, .inr (9, [.ref d, .ref t, .int rh, .int rt, .int rs, .int rv, .int rk, .int rp])), (d, .inr (8, [.ref dr])), (dr, .inl (cd, 9, .inl fd)), (t, .inl (ce, 6, .inl ft)), (h2, .inr (6, [.ref b2, .int nn])), (b2, .inl (cb, 400, .inl f))] sz)) (va_A [(h, .inr (9, [.ref d, .ref t, .int rh, .int rt, .int rs, .int rv, .int rk, .int rp])), (d, .inr (8, [.ref dr])), (dr, .inl (cd, 9, .inl fd)), (t, .inl (ce, 6, .inl ft)), (h2, .inr (6, [.ref b2, .int nn])), (b2, .inl (cb, 400, .inl f))] sz)) 0 0 (va_A [(h, .inr (9, [.ref d, .ref t, .int rh, .int rt, .int rs, .int rv, .int rk, .int rp])), (d, .inr (8, [.ref dr])), (dr, .inl (cd, 9, .inl fd)), (t, .inl (ce, 6, .inl ft)), (h2, .inr (6, [.ref b2, .int nn])), (b2, .inl (cb, 400, .inl f))] sz) := by
  refine ofC_v (cc := cX9_readNumbers) (maxL := 6) (ret := none) (by decide) rfl (Nat.le_of_ble_eq_true rfl) ?_
  intro p e s m args below meth c A ls Q F hr hin hlk St hl hQ
  have hx := F.1
  have hb := F.2.1
  have hl : lv_has ls 6 [(0, .ref h), (1, .ref h2), (2, .int x)] := hl
  have St : cS G k [(h, .inr (9, [.ref d, .ref t, .int rh, .int rt, .int rs, .int rv, .int rk, .int rp])), (d, .inr (8, [.ref dr])), (dr, .inl (cd, 9, .inl fd)), (t, .inl (ce, 6, .inl ft)), (h2, .inr (6, [.ref b2, .int nn])), (b2, .inl (cb, 400, .inl f))] [(cd, .int), (ce, .boolean), (cb, .byte)] A s s.heap [] := St
  refine lv_iload_n hx hb dX9_readNumbers_0 rfl (lv_at hl 2 rfl) ?_
  refine lv_if_lt (tgt := 20) hx hb dX9_readNumbers_1 (by decide) (fun c1 => ?_) (fun c1 => ?_)
  ·
    have i1 := ci_lt (x := x) (y := 0) rfl (show (0 : Int32).toInt = 0 by decide) c1
    exact cs_vret F hr hlk hQ St (rh, rt, rs, rv, rk, rp, fd) (by trivial) [0, 1, 2, 3, 4, 5] rfl (by decide) [] rfl (by decide) (by decide) dX9_readNumbers_20
  ·
    have i1 := ci_nlt (x := x) (y := 0) rfl (show (0 : Int32).toInt = 0 by decide) c1
    refine lv_iload_n hx hb dX9_readNumbers_4 rfl (lv_at hl 2 rfl) ?_
    refine va_gets hx hb (St.2.2.2.2.2.2.2.2.2.2.2.2.1) St.toS F.2.2.2.1 (F.2.2.2.2 _ kf_X9_66) (fun _ h => h) dX9_readNumbers_5 ?_
    refine va_tlen hx hb (St.2.2.2.2.2.2.2.2.2.2.2.2.2.1) St.toS (v := 5) rfl dX9_readNumbers_8 ?_
    refine lv_icmp_ge (tgt := 20) hx hb dX9_readNumbers_9 (by decide) (fun c9 => ?_) (fun c9 => ?_)
    ·
      have i9 := ci_le (x := 5) (y := x) (show (5 : Int32).toInt = 5 by decide) rfl c9
      exact cs_vret F hr hlk hQ St (rh, rt, rs, rv, rk, rp, fd) (by trivial) [0, 1, 2, 3, 4, 5] rfl (by decide) [] rfl (by decide) (by decide) dX9_readNumbers_20
    ·
      have i9 := ci_nle (x := 5) (y := x) (show (5 : Int32).toInt = 5 by decide) rfl c9
      refine lv_iload_n hx hb dX9_readNumbers_12 rfl (lv_at hl 2 rfl) ?_
      refine va_gets hx hb (St.2.2.2.2.2.2.2.2.2.2.2.2.2.2.1) St.toS F.2.2.2.1 (F.2.2.2.2 _ kf_X9_70) (fun _ h => h) dX9_readNumbers_13 ?_
      refine va_tlen hx hb (St.2.2.2.2.2.2.2.2.2.2.2.2.2.2.2.1) St.toS (v := 5) rfl dX9_readNumbers_16 ?_
      refine lv_icmp_lt (tgt := 21) hx hb dX9_readNumbers_17 (by decide) (fun c17 => ?_) (fun c17 => ?_)
      ·
        have i17 := ci_lt (x := x) (y := 5) rfl (show (5 : Int32).toInt = 5 by decide) c17
        refine va_gets hx hb (St.2.2.2.2.2.2.2.2.2.2.2.2.1) St.toS F.2.2.2.1 (F.2.2.2.2 _ kf_X9_66) (fun _ h => h) dX9_readNumbers_21 ?_
        refine lv_iload_n hx hb dX9_readNumbers_24 rfl (lv_at hl 2 rfl) ?_
        refine va_ti hx hb (St.2.2.2.2.2.2.2.2.2.2.2.2.2.1) St.toS (vp_in_iff.mpr ⟨by omega, by omega⟩) (v := .int (tFirst (x : Int32).toNatClampNeg)) rfl dX9_readNumbers_25 ?_
        refine lv_topi (fun y_1 ey_1 => ?_)
        refine lv_istore_n (lv' := [(3, .int y_1), (0, .ref h), (1, .ref h2), (2, .int x)]) hx hb dX9_readNumbers_26 rfl hl (by decide) rfl (fun ls hl => ?_)
        refine lv_iload_n hx hb dX9_readNumbers_27 rfl (lv_at hl 0 rfl) ?_
        refine va_gets hx hb (St.2.2.2.2.2.2.2.2.2.2.2.2.2.2.1) St.toS F.2.2.2.1 (F.2.2.2.2 _ kf_X9_70) (fun _ h => h) dX9_readNumbers_28 ?_
        refine lv_iload_n hx hb dX9_readNumbers_31 rfl (lv_at hl 3 rfl) ?_
        refine va_ti hx hb (St.2.2.2.2.2.2.2.2.2.2.2.2.2.2.2.1) St.toS (vp_in_iff.mpr ⟨by omega, by omega⟩) (v := .int (tNums (x : Int32).toNatClampNeg)) rfl dX9_readNumbers_32 ?_
        refine lv_topi (fun y_2 ey_2 => ?_)
        refine lv_iadd hx hb dX9_readNumbers_33 ?_
        refine lv_topi (fun y_3 ey_3 => ?_)
        first | have jy_3 : y_3.toInt = y_1.toInt + y_2.toInt := (by have q9 := ci_add (x := y_1) (y := y_2) rfl rfl ey_3; omega) | have jy_3 := ci_add (x := y_1) (y := y_2) rfl rfl ey_3
        refine lv_istore (lv' := [(4, .int y_3), (3, .int y_1), (0, .ref h), (1, .ref h2), (2, .int x)]) hx hb dX9_readNumbers_34 hl (by decide) rfl (fun ls hl => ?_)
        refine lv_iload_n hx hb dX9_readNumbers_36 rfl (lv_at hl 1 rfl) ?_
        refine lv_istore (lv' := [(5, .int y_1), (4, .int y_3), (3, .int y_1), (0, .ref h), (1, .ref h2), (2, .int x)]) hx hb dX9_readNumbers_37 hl (by decide) rfl (fun ls hl => ?_)
        have lp39 : ∀ (n : Nat) (kk : Int32) (q0 : Int32) (q1 : Int32) (q2 : Int32) (q3 : Int32) (q4 : Int32) (q5 : Int32) (fdq : Nat → Int32) (H : Heap) (locs : List Loc) (ls : Array Slot), (True) → ((y_3.toInt - kk.toInt).toNat) < n → cS G k [(h, .inr (9, [.ref d, .ref t, .int q0, .int q1, .int q2, .int q3, .int q4, .int q5])), (d, .inr (8, [.ref dr])), (dr, .inl (cd, 9, .inl fdq)), (t, .inl (ce, 6, .inl ft)), (h2, .inr (6, [.ref b2, .int nn])), (b2, .inl (cb, 400, .inl f))] [(cd, .int), (ce, .boolean), (cb, .byte)] A s H locs → lv_has ls 6 [(5, .int kk), (4, .int y_3), (3, .int y_1), (0, .ref h), (1, .ref h2), (2, .int x)] → W p l e ({ frames := 3, cells := 0, slots := 0, locals := 64 } : Room) s m args below meth c H locs 0 0 Q (F0 m 39 ls []) := by
          intro n
          induction n with
          | zero => intro kk q0 q1 q2 q3 q4 q5 fdq H locs ls hI hn; exact absurd hn (Nat.not_lt_zero _)
          | succ n ih =>
            intro kk q0 q1 q2 q3 q4 q5 fdq H locs ls hI hn St hl
            have rgb := ci_rng y_3
            refine lv_iload hx hb dX9_readNumbers_39 (lv_at hl 0 rfl) ?_
            refine lv_iload hx hb dX9_readNumbers_41 (lv_at hl 1 rfl) ?_
            refine lv_icmp_ge (tgt := 113) hx hb dX9_readNumbers_43 (by decide) (fun c43 => ?_) (fun c43 => ?_)
            ·
              have i43 := ci_le (x := y_3) (y := kk) rfl rfl c43
              exact cs_vret F hr hlk hQ St (q0, q1, q2, q3, q4, q5, fdq) (by trivial) [0, 1, 2, 3, 4, 5] rfl (by decide) [] rfl (by decide) (by decide) dX9_readNumbers_113
            ·
              have i43 := ci_nle (x := y_3) (y := kk) rfl rfl c43
              refine lv_aload_n hx hb dX9_readNumbers_46 rfl (lv_at hl 3 rfl) ?_
              refine cs_get F St 0 rfl rfl inX9 6 (by decide) kf_X9_26 rfl dX9_readNumbers_47 ?_
              refine lv_if_ne (tgt := 113) hx hb dX9_readNumbers_50 (by decide) (fun c50 => ?_) (fun c50 => ?_)
              ·
                have i50 := ci_ne (x := q4) (y := 0) rfl (show (0 : Int32).toInt = 0 by decide) c50
                exact cs_vret F hr hlk hQ St (q0, q1, q2, q3, q4, q5, fdq) (by trivial) [0, 1, 2, 3, 4, 5] rfl (by decide) [] rfl (by decide) (by decide) dX9_readNumbers_113
              ·
                have i50 := ci_eq (x := q4) (y := 0) rfl (show (0 : Int32).toInt = 0 by decide) c50
                refine lv_aload_n hx hb dX9_readNumbers_53 rfl (lv_at hl 3 rfl) ?_
                refine lv_aload_n hx hb dX9_readNumbers_54 rfl (lv_at hl 4 rfl) ?_
                refine cs_v St [0, 4, 5] [1, 2, 3] (wc := [(h, .inr (9, [.ref d, .ref t, .int q0, .int q1, .int q2, .int q3, .int q4, .int q5])), (h2, .inr (6, [.ref b2, .int nn])), (b2, .inl (cb, 400, .inl f))]) (wr := [(d, .inr (8, [.ref dr])), (dr, .inl (cd, 9, .inl fdq)), (t, .inl (ce, 6, .inl ft))]) rfl rfl (by decide) (by decide) (va_runV (As := [.ref h2]) (rest := []) F (x9_readToken l G k _ h d t q0 q1 q2 q3 q4 q5 h2 b2 cb nn f) (cwVt F mf_X9_readToken km_X9_32 rfl rfl ⟨Nat.le_of_ble_eq_true rfl, Nat.le_of_ble_eq_true rfl⟩) (cs_preV St [0, 4, 5] rfl (by decide) [2] rfl (ci := 9) (q0 := 0) rfl rfl) rfl rfl hl.1 rfl (lv_room (Nat.le_of_ble_eq_true rfl)) dX9_readNumbers_55 ⟨Nat.le_of_ble_eq_true rfl, Nat.le_of_ble_eq_true rfl⟩) (fun u_5 H locs hw St => ?_)
                obtain ⟨rh2_6, rt2_7, rs2_8, rv2_9, rk2_10, rp2_11⟩ := u_5
                try dsimp only at hw
                have St : cS G k [(d, .inr (8, [.ref dr])), (dr, .inl (cd, 9, .inl fdq)), (t, .inl (ce, 6, .inl ft)), (h, .inr (9, [.ref d, .ref t, .int rh2_6, .int rt2_7, .int rs2_8, .int rv2_9, .int rk2_10, .int rp2_11])), (h2, .inr (6, [.ref b2, .int nn])), (b2, .inl (cb, 400, .inl f))] [(cd, .int), (ce, .boolean), (cb, .byte)] A s H locs := St
                refine lv_aload_n hx hb dX9_readNumbers_58 rfl (lv_at hl 3 rfl) ?_
                refine cs_get F St 3 rfl rfl inX9 3 (by decide) kf_X9_36 rfl dX9_readNumbers_59 ?_
                refine lv_iconst (v := 2) hx hb dX9_readNumbers_62 (by decide) ?_
                refine lv_icmp_eq (tgt := 74) hx hb dX9_readNumbers_63 (by decide) (fun c63 => ?_) (fun c63 => ?_)
                ·
                  have i63 := ci_eq (x := rt2_7) (y := 2) rfl (show (2 : Int32).toInt = 2 by decide) c63
                  refine lv_iload hx hb dX9_readNumbers_74 (lv_at hl 0 rfl) ?_
                  refine lv_aload_n hx hb dX9_readNumbers_76 rfl (lv_at hl 3 rfl) ?_
                  refine cs_get F St 3 rfl rfl inX9 5 (by decide) kf_X9_73 rfl dX9_readNumbers_77 ?_
                  refine cs_i St [] [0, 1, 2, 3, 4, 5] (wc := []) (wr := [(d, .inr (8, [.ref dr])), (dr, .inl (cd, 9, .inl fdq)), (t, .inl (ce, 6, .inl ft)), (h, .inr (9, [.ref d, .ref t, .int rh2_6, .int rt2_7, .int rs2_8, .int rv2_9, .int rk2_10, .int rp2_11])), (h2, .inr (6, [.ref b2, .int nn])), (b2, .inl (cb, 400, .inl f))]) rfl rfl (by decide) (by decide) (va_runS (As := [.int kk, .int rv2_9]) (rest := []) F (x9_isInBounds l G k _ kk rv2_9) (cwSt F mf_X9_isInBounds km_X9_76 rfl rfl ⟨Nat.le_of_ble_eq_true rfl, Nat.le_of_ble_eq_true rfl⟩) (cs_pre St [] rfl (by decide) [] rfl) rfl rfl hl.1 rfl (lv_room (Nat.le_of_ble_eq_true rfl)) dX9_readNumbers_80 ⟨Nat.le_of_ble_eq_true rfl, Nat.le_of_ble_eq_true rfl⟩) (fun r_12 u_13 H locs hw St => ?_)
                  try dsimp only at hw
                  rcases hw with z_14 | z_15
                  ·
                    subst r_12
                    have St : cS G k [(d, .inr (8, [.ref dr])), (dr, .inl (cd, 9, .inl fdq)), (t, .inl (ce, 6, .inl ft)), (h, .inr (9, [.ref d, .ref t, .int rh2_6, .int rt2_7, .int rs2_8, .int rv2_9, .int rk2_10, .int rp2_11])), (h2, .inr (6, [.ref b2, .int nn])), (b2, .inl (cb, 400, .inl f))] [(cd, .int), (ce, .boolean), (cb, .byte)] A s H locs := St
                    refine lv_if_ne (tgt := 94) hx hb dX9_readNumbers_83 (by decide) (fun c83 => ?_) (fun c83 => ?_)
                    rotate_left
                    · exact absurd c83 (by decide)
                    refine lv_aload_n hx hb dX9_readNumbers_94 rfl (lv_at hl 3 rfl) ?_
                    refine cs_get F St 3 rfl rfl inX9 0 (by decide) kf_X9_12 rfl dX9_readNumbers_95 ?_
                    refine lv_iload hx hb dX9_readNumbers_98 (lv_at hl 0 rfl) ?_
                    refine lv_aload_n hx hb dX9_readNumbers_100 rfl (lv_at hl 3 rfl) ?_
                    refine cs_get F St 3 rfl rfl inX9 5 (by decide) kf_X9_73 rfl dX9_readNumbers_101 ?_
                    refine cs_v St [0, 1] [2, 3, 4, 5] (wc := [(d, .inr (8, [.ref dr])), (dr, .inl (cd, 9, .inl fdq))]) (wr := [(t, .inl (ce, 6, .inl ft)), (h, .inr (9, [.ref d, .ref t, .int rh2_6, .int rt2_7, .int rs2_8, .int rv2_9, .int rk2_10, .int rp2_11])), (h2, .inr (6, [.ref b2, .int nn])), (b2, .inl (cb, 400, .inl f))]) rfl rfl (by decide) (by decide) (va_runV (As := [.int kk, .int rv2_9]) (rest := []) F (x8_put l G k _ d dr cd fdq kk rv2_9) (cwVt F mf_X8_put km_X9_80 rfl rfl ⟨Nat.le_of_ble_eq_true rfl, Nat.le_of_ble_eq_true rfl⟩) (cs_preV St [0, 1] rfl (by decide) [0] rfl (ci := 8) (q0 := 0) rfl rfl) rfl rfl hl.1 rfl (lv_room (Nat.le_of_ble_eq_true rfl)) dX9_readNumbers_104 ⟨Nat.le_of_ble_eq_true rfl, Nat.le_of_ble_eq_true rfl⟩) (fun u_17 H locs hw St => ?_)
                    obtain ⟨f2_18, rfl⟩ : ∃ z, z = u_17 := ⟨_, rfl⟩
                    try dsimp only at hw
                    have St : cS G k [(t, .inl (ce, 6, .inl ft)), (h, .inr (9, [.ref d, .ref t, .int rh2_6, .int rt2_7, .int rs2_8, .int rv2_9, .int rk2_10, .int rp2_11])), (h2, .inr (6, [.ref b2, .int nn])), (b2, .inl (cb, 400, .inl f)), (d, .inr (8, [.ref dr])), (dr, .inl (cd, 9, .inl f2_18))] [(cd, .int), (ce, .boolean), (cb, .byte)] A s H locs := St
                    obtain ⟨y_19, ey_19⟩ : ∃ zz : Int32, zz = kk + 1 := ⟨_, rfl⟩
                    first | have jy_19 : y_19.toInt = kk.toInt + 1 := (by have q9 := ci_add (x := kk) rfl (show (1 : Int32).toInt = 1 by decide) ey_19; omega) | have jy_19 := ci_add (x := kk) rfl (show (1 : Int32).toInt = 1 by decide) ey_19
                    refine lv_iinc (v := y_19) (lv' := [(5, .int y_19), (4, .int y_3), (3, .int y_1), (0, .ref h), (1, .ref h2), (2, .int x)]) hx hb dX9_readNumbers_107 hl (k := 0) rfl (by rw [ey_19]; rfl) (by decide) rfl (fun ls hl => ?_)
                    refine lv_goto (tgt := 39) hx hb dX9_readNumbers_110 (by decide) ?_
                    exact ih y_19 rh2_6 rt2_7 rs2_8 rv2_9 rk2_10 rp2_11 f2_18 _ _ _ trivial (by omega) (cs_pick St [1, 4, 5, 0, 2, 3] rfl (by decide) [0, 1, 2] rfl) (lv_sub hl [0, 1, 2, 3, 4, 5] rfl)
                  ·
                    subst r_12
                    have St : cS G k [(d, .inr (8, [.ref dr])), (dr, .inl (cd, 9, .inl fdq)), (t, .inl (ce, 6, .inl ft)), (h, .inr (9, [.ref d, .ref t, .int rh2_6, .int rt2_7, .int rs2_8, .int rv2_9, .int rk2_10, .int rp2_11])), (h2, .inr (6, [.ref b2, .int nn])), (b2, .inl (cb, 400, .inl f))] [(cd, .int), (ce, .boolean), (cb, .byte)] A s H locs := St
                    refine lv_if_ne (tgt := 94) hx hb dX9_readNumbers_83 (by decide) (fun c83 => ?_) (fun c83 => ?_)
                    · exact absurd c83 (by decide)
                    refine lv_aload_n hx hb dX9_readNumbers_86 rfl (lv_at hl 3 rfl) ?_
                    refine lv_iconst (v := 2) hx hb dX9_readNumbers_87 (by decide) ?_
                    refine cs_v St [3] [0, 1, 2, 4, 5] (wc := [(h, .inr (9, [.ref d, .ref t, .int rh2_6, .int rt2_7, .int rs2_8, .int rv2_9, .int rk2_10, .int rp2_11]))]) (wr := [(d, .inr (8, [.ref dr])), (dr, .inl (cd, 9, .inl fdq)), (t, .inl (ce, 6, .inl ft)), (h2, .inr (6, [.ref b2, .int nn])), (b2, .inl (cb, 400, .inl f))]) rfl rfl (by decide) (by decide) (va_runV (As := [.int 2]) (rest := []) F (x9_refuse l G k _ h d t rh2_6 rt2_7 rs2_8 rv2_9 rk2_10 rp2_11 2) (cwVt F mf_X9_refuse km_X9_55 rfl rfl ⟨Nat.le_of_ble_eq_true rfl, Nat.le_of_ble_eq_true rfl⟩) (cs_preV St [3] rfl (by decide) [] rfl (ci := 9) (q0 := 3) rfl rfl) rfl rfl hl.1 rfl (lv_room (Nat.le_of_ble_eq_true rfl)) dX9_readNumbers_88 ⟨Nat.le_of_ble_eq_true rfl, Nat.le_of_ble_eq_true rfl⟩) (fun u_21 H locs hw St => ?_)
                    try dsimp only at hw
                    have St : cS G k [(d, .inr (8, [.ref dr])), (dr, .inl (cd, 9, .inl fdq)), (t, .inl (ce, 6, .inl ft)), (h2, .inr (6, [.ref b2, .int nn])), (b2, .inl (cb, 400, .inl f)), (h, .inr (9, [.ref d, .ref t, .int rh2_6, .int rt2_7, .int rs2_8, .int rv2_9, .int 2, .int rs2_8]))] [(cd, .int), (ce, .boolean), (cb, .byte)] A s H locs := St
                    refine lv_goto (tgt := 107) hx hb dX9_readNumbers_91 (by decide) ?_
                    obtain ⟨y_22, ey_22⟩ : ∃ zz : Int32, zz = kk + 1 := ⟨_, rfl⟩
                    first | have jy_22 : y_22.toInt = kk.toInt + 1 := (by have q9 := ci_add (x := kk) rfl (show (1 : Int32).toInt = 1 by decide) ey_22; omega) | have jy_22 := ci_add (x := kk) rfl (show (1 : Int32).toInt = 1 by decide) ey_22
                    refine lv_iinc (v := y_22) (lv' := [(5, .int y_22), (4, .int y_3), (3, .int y_1), (0, .ref h), (1, .ref h2), (2, .int x)]) hx hb dX9_readNumbers_107 hl (k := 0) rfl (by rw [ey_22]; rfl) (by decide) rfl (fun ls hl => ?_)
                    refine lv_goto (tgt := 39) hx hb dX9_readNumbers_110 (by decide) ?_
                    exact ih y_22 rh2_6 rt2_7 rs2_8 rv2_9 2 rs2_8 fdq _ _ _ trivial (by omega) (cs_pick St [5, 0, 1, 2, 3, 4] rfl (by decide) [0, 1, 2] rfl) (lv_sub hl [0, 1, 2, 3, 4, 5] rfl)
                ·
                  have i63 := ci_ne (x := rt2_7) (y := 2) rfl (show (2 : Int32).toInt = 2 by decide) c63
                  refine lv_aload_n hx hb dX9_readNumbers_66 rfl (lv_at hl 3 rfl) ?_
                  refine lv_iconst (v := 1) hx hb dX9_readNumbers_67 (by decide) ?_
                  refine cs_v St [3] [0, 1, 2, 4, 5] (wc := [(h, .inr (9, [.ref d, .ref t, .int rh2_6, .int rt2_7, .int rs2_8, .int rv2_9, .int rk2_10, .int rp2_11]))]) (wr := [(d, .inr (8, [.ref dr])), (dr, .inl (cd, 9, .inl fdq)), (t, .inl (ce, 6, .inl ft)), (h2, .inr (6, [.ref b2, .int nn])), (b2, .inl (cb, 400, .inl f))]) rfl rfl (by decide) (by decide) (va_runV (As := [.int 1]) (rest := []) F (x9_refuse l G k _ h d t rh2_6 rt2_7 rs2_8 rv2_9 rk2_10 rp2_11 1) (cwVt F mf_X9_refuse km_X9_55 rfl rfl ⟨Nat.le_of_ble_eq_true rfl, Nat.le_of_ble_eq_true rfl⟩) (cs_preV St [3] rfl (by decide) [] rfl (ci := 9) (q0 := 3) rfl rfl) rfl rfl hl.1 rfl (lv_room (Nat.le_of_ble_eq_true rfl)) dX9_readNumbers_68 ⟨Nat.le_of_ble_eq_true rfl, Nat.le_of_ble_eq_true rfl⟩) (fun u_24 H locs hw St => ?_)
                  try dsimp only at hw
                  have St : cS G k [(d, .inr (8, [.ref dr])), (dr, .inl (cd, 9, .inl fdq)), (t, .inl (ce, 6, .inl ft)), (h2, .inr (6, [.ref b2, .int nn])), (b2, .inl (cb, 400, .inl f)), (h, .inr (9, [.ref d, .ref t, .int rh2_6, .int rt2_7, .int rs2_8, .int rv2_9, .int 1, .int rs2_8]))] [(cd, .int), (ce, .boolean), (cb, .byte)] A s H locs := St
                  refine lv_goto (tgt := 107) hx hb dX9_readNumbers_71 (by decide) ?_
                  obtain ⟨y_25, ey_25⟩ : ∃ zz : Int32, zz = kk + 1 := ⟨_, rfl⟩
                  first | have jy_25 : y_25.toInt = kk.toInt + 1 := (by have q9 := ci_add (x := kk) rfl (show (1 : Int32).toInt = 1 by decide) ey_25; omega) | have jy_25 := ci_add (x := kk) rfl (show (1 : Int32).toInt = 1 by decide) ey_25
                  refine lv_iinc (v := y_25) (lv' := [(5, .int y_25), (4, .int y_3), (3, .int y_1), (0, .ref h), (1, .ref h2), (2, .int x)]) hx hb dX9_readNumbers_107 hl (k := 0) rfl (by rw [ey_25]; rfl) (by decide) rfl (fun ls hl => ?_)
                  refine lv_goto (tgt := 39) hx hb dX9_readNumbers_110 (by decide) ?_
                  exact ih y_25 rh2_6 rt2_7 rs2_8 rv2_9 1 rs2_8 fdq _ _ _ trivial (by omega) (cs_pick St [5, 0, 1, 2, 3, 4] rfl (by decide) [0, 1, 2] rfl) (lv_sub hl [0, 1, 2, 3, 4, 5] rfl)
        exact lp39 ((y_3.toInt - y_1.toInt).toNat + 1) y_1 rh rt rs rv rk rp fd _ _ _ trivial (Nat.lt_succ_self _) St (lv_sub hl [0, 1, 2, 3, 4, 5] rfl)
      ·
        have i17 := ci_nlt (x := x) (y := 5) rfl (show (5 : Int32).toInt = 5 by decide) c17
        exact cs_vret F hr hlk hQ St (rh, rt, rs, rv, rk, rp, fd) (by trivial) [0, 1, 2, 3, 4, 5] rfl (by decide) [] rfl (by decide) (by decide) dX9_readNumbers_20
