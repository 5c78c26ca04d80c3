set_option maxHeartbeats 4000000 in
set_option maxRecDepth 100000 in
theorem r6_putFour (l : Launch) (G : va_G) (k : Nat → Nat) (sz : Nat) (h : Nat) (b : Nat) (cb : ClassId) (nn : Int32) (f : Nat → Int32) (x : Int32) (h0 : 0 ≤ nn.toInt) (h1 : nn.toInt ≤ 396) : Met l yX6_putFour (Cond.code yX6_putFour cX6_putFour 3 none :: tb) ({ frames := 0, cells := 0, slots := 0, locals := 0 } : Room) (va_Pc [.ref h, .int x] (cP G k [(qAI h 6 b nn), (qarI b cb 400 f)] [(cb, .byte)] sz)) (va_Qv (fun (u : Int32 × (Nat → Int32)) => match u with | (n2, f2) => (n2.toInt = nn.toInt + 4) ∧ (f2 = lay4 f nn.toNatClampNeg x)) (cB G (fun u => match u with | (n2, f2) => [(qAI h 6 b n2), (qarI b cb 400 f2)]) (fun u => match u with | (n2, f2) => []) (va_A [(qAI h 6 b nn), (qarI b cb 400 f)] sz)) (va_A [(qAI h 6 b nn), (qarI b cb 400 f)] sz)) 0 0 (va_A [(qAI h 6 b nn), (qarI b cb 400 f)] sz) := by
  refine ofC_v (cc := cX6_putFour) (maxL := 3) (ret := none) (by decide) rfl (Nat.le_of_ble_eq_true rfl) ?_
  intro p e s m args below meth c A ls Q F hr hin hlk St hl hQ
  have hx := F.1
  have hb := F.2.1
  have hl : lv_has ls 3 [(0, .ref h), (1, .int x)] := hl
  have St : cS G k [(qAI h 6 b nn), (qarI b cb 400 f)] [(cb, .byte)] A s s.heap [] := St
  refine lv_bipush (v := 24) hx hb dX6_putFour_0 (by decide) ?_
  refine lv_istore_n (lv' := [(2, .int 24), (0, .ref h), (1, .int x)]) hx hb dX6_putFour_2 rfl hl (by decide) rfl (fun ls hl => ?_)
  refine lv_iload_n hx hb dX6_putFour_3 rfl (lv_at hl 0 rfl) ?_
  refine lv_if_lt (tgt := 53) hx hb dX6_putFour_4 (by decide) (fun c4 => ?_) (fun c4 => ?_)
  · exact absurd c4 (by decide)
  refine lv_aload_n hx hb dX6_putFour_7 rfl (lv_at hl 1 rfl) ?_
  refine cs_get F St 0 rfl rfl inX6 1 (by decide) kf_X6_15 rfl dX6_putFour_8 ?_
  refine lv_if_lt (tgt := 47) hx hb dX6_putFour_11 (by decide) (fun c11 => ?_) (fun c11 => ?_)
  · have i11 := ci_lt (x := nn) (y := 0) rfl (show (0 : Int32).toInt = 0 by decide) c11; exact False.elim (by omega)
  have i11 := ci_nlt (x := nn) (y := 0) rfl (show (0 : Int32).toInt = 0 by decide) c11
  refine lv_aload_n hx hb dX6_putFour_14 rfl (lv_at hl 1 rfl) ?_
  refine cs_get F St 0 rfl rfl inX6 1 (by decide) kf_X6_15 rfl dX6_putFour_15 ?_
  refine lv_sipush (v := 400) hx hb dX6_putFour_18 (by decide) ?_
  refine lv_icmp_ge (tgt := 47) hx hb dX6_putFour_21 (by decide) (fun c21 => ?_) (fun c21 => ?_)
  · have i21 := ci_le (x := 400) (y := nn) (show (400 : Int32).toInt = 400 by decide) rfl c21; exact False.elim (by omega)
  have i21 := ci_nle (x := 400) (y := nn) (show (400 : Int32).toInt = 400 by decide) rfl c21
  refine lv_aload_n hx hb dX6_putFour_24 rfl (lv_at hl 1 rfl) ?_
  refine cs_get F St 0 rfl rfl inX6 0 (by decide) kf_X6_11 rfl dX6_putFour_25 ?_
  refine lv_aload_n hx hb dX6_putFour_28 rfl (lv_at hl 1 rfl) ?_
  refine cs_get F St 0 rfl rfl inX6 1 (by decide) kf_X6_15 rfl dX6_putFour_29 ?_
  refine lv_iload_n hx hb dX6_putFour_32 rfl (lv_at hl 2 rfl) ?_
  refine lv_iload_n hx hb dX6_putFour_33 rfl (lv_at hl 0 rfl) ?_
  refine lv_iushr hx hb dX6_putFour_34 rfl ?_
  refine lv_topi (fun y_1 ey_1 => ?_)
  refine lv_i2b (v := y_1.toInt8.toInt32) hx hb dX6_putFour_35 rfl ?_
  skip
  refine cs_bst F St 1 0 rfl rfl (vp_in_iff.mpr ⟨by omega, by omega⟩) (w' := [(qAI h 6 b nn), (qarI b cb 400 (upd f (nn : Int32).toNatClampNeg (vp_nar .byte y_1.toInt8.toInt32)))]) rfl dX6_putFour_36 (fun H locs St => ?_)
  obtain ⟨f_2, ef_2⟩ : ∃ zz : Nat → Int32, zz = upd f (nn : Int32).toNatClampNeg (vp_nar .byte y_1.toInt8.toInt32) := ⟨_, rfl⟩
  rw [← ef_2] at St
  skip
  refine lv_aload_n hx hb dX6_putFour_37 rfl (lv_at hl 1 rfl) ?_
  refine lv_dup hx hb dX6_putFour_38 rfl ?_
  refine cs_get F St 0 rfl rfl inX6 1 (by decide) kf_X6_15 rfl dX6_putFour_39 ?_
  refine lv_iconst (v := 1) hx hb dX6_putFour_42 (by decide) ?_
  refine lv_iadd hx hb dX6_putFour_43 ?_
  refine lv_topi (fun y_3 ey_3 => ?_)
  first | have jy_3 : y_3.toInt = nn.toInt + 1 := (by have q9 := ci_add (x := nn) (y := 1) rfl (show (1 : Int32).toInt = 1 by decide) ey_3; omega) | have jy_3 := ci_add (x := nn) (y := 1) rfl (show (1 : Int32).toInt = 1 by decide) ey_3
  refine cs_put F St 0 rfl rfl inX6 tyX6_ok nmX6 1 (by decide) kf_X6_15 rfl rfl rfl (Nat.le_of_ble_eq_true rfl) (w' := [(qAI h 6 b y_3), (qarI b cb 400 f_2)]) rfl dX6_putFour_44 (fun H locs St => ?_)
  refine lv_iinc (v := 16) (lv' := [(2, .int 16), (0, .ref h), (1, .int x)]) hx hb dX6_putFour_47 hl (k := 0) rfl (by decide) (by decide) rfl (fun ls hl => ?_)
  refine lv_goto (tgt := 3) hx hb dX6_putFour_50 (by decide) ?_
  refine lv_iload_n hx hb dX6_putFour_3 rfl (lv_at hl 0 rfl) ?_
  refine lv_if_lt (tgt := 53) hx hb dX6_putFour_4 (by decide) (fun c4 => ?_) (fun c4 => ?_)
  · exact absurd c4 (by decide)
  refine lv_aload_n hx hb dX6_putFour_7 rfl (lv_at hl 1 rfl) ?_
  refine cs_get F St 0 rfl rfl inX6 1 (by decide) kf_X6_15 rfl dX6_putFour_8 ?_
  refine lv_if_lt (tgt := 47) hx hb dX6_putFour_11 (by decide) (fun c11 => ?_) (fun c11 => ?_)
  · have i11 := ci_lt (x := y_3) (y := 0) rfl (show (0 : Int32).toInt = 0 by decide) c11; exact False.elim (by omega)
  have i11 := ci_nlt (x := y_3) (y := 0) rfl (show (0 : Int32).toInt = 0 by decide) c11
  refine lv_aload_n hx hb dX6_putFour_14 rfl (lv_at hl 1 rfl) ?_
  refine cs_get F St 0 rfl rfl inX6 1 (by decide) kf_X6_15 rfl dX6_putFour_15 ?_
  refine lv_sipush (v := 400) hx hb dX6_putFour_18 (by decide) ?_
  refine lv_icmp_ge (tgt := 47) hx hb dX6_putFour_21 (by decide) (fun c21 => ?_) (fun c21 => ?_)
  · have i21 := ci_le (x := 400) (y := y_3) (show (400 : Int32).toInt = 400 by decide) rfl c21; exact False.elim (by omega)
  have i21 := ci_nle (x := 400) (y := y_3) (show (400 : Int32).toInt = 400 by decide) rfl c21
  refine lv_aload_n hx hb dX6_putFour_24 rfl (lv_at hl 1 rfl) ?_
  refine cs_get F St 0 rfl rfl inX6 0 (by decide) kf_X6_11 rfl dX6_putFour_25 ?_
  refine lv_aload_n hx hb dX6_putFour_28 rfl (lv_at hl 1 rfl) ?_
  refine cs_get F St 0 rfl rfl inX6 1 (by decide) kf_X6_15 rfl dX6_putFour_29 ?_
  refine lv_iload_n hx hb dX6_putFour_32 rfl (lv_at hl 2 rfl) ?_
  refine lv_iload_n hx hb dX6_putFour_33 rfl (lv_at hl 0 rfl) ?_
  refine lv_iushr hx hb dX6_putFour_34 rfl ?_
  refine lv_topi (fun y_4 ey_4 => ?_)
  refine lv_i2b (v := y_4.toInt8.toInt32) hx hb dX6_putFour_35 rfl ?_
  skip
  refine cs_bst F St 1 0 rfl rfl (vp_in_iff.mpr ⟨by omega, by omega⟩) (w' := [(qAI h 6 b y_3), (qarI b cb 400 (upd f_2 (y_3 : Int32).toNatClampNeg (vp_nar .byte y_4.toInt8.toInt32)))]) rfl dX6_putFour_36 (fun H locs St => ?_)
  obtain ⟨f_5, ef_5⟩ : ∃ zz : Nat → Int32, zz = upd f_2 (y_3 : Int32).toNatClampNeg (vp_nar .byte y_4.toInt8.toInt32) := ⟨_, rfl⟩
  rw [← ef_5] at St
  skip
  refine lv_aload_n hx hb dX6_putFour_37 rfl (lv_at hl 1 rfl) ?_
  refine lv_dup hx hb dX6_putFour_38 rfl ?_
  refine cs_get F St 0 rfl rfl inX6 1 (by decide) kf_X6_15 rfl dX6_putFour_39 ?_
  refine lv_iconst (v := 1) hx hb dX6_putFour_42 (by decide) ?_
  refine lv_iadd hx hb dX6_putFour_43 ?_
  refine lv_topi (fun y_6 ey_6 => ?_)
  first | have jy_6 : y_6.toInt = y_3.toInt + 1 := (by have q9 := ci_add (x := y_3) (y := 1) rfl (show (1 : Int32).toInt = 1 by decide) ey_6; omega) | have jy_6 := ci_add (x := y_3) (y := 1) rfl (show (1 : Int32).toInt = 1 by decide) ey_6
  refine cs_put F St 0 rfl rfl inX6 tyX6_ok nmX6 1 (by decide) kf_X6_15 rfl rfl rfl (Nat.le_of_ble_eq_true rfl) (w' := [(qAI h 6 b y_6), (qarI b cb 400 f_5)]) rfl dX6_putFour_44 (fun H locs St => ?_)
  refine lv_iinc (v := 8) (lv' := [(2, .int 8), (0, .ref h), (1, .int x)]) hx hb dX6_putFour_47 hl (k := 0) rfl (by decide) (by decide) rfl (fun ls hl => ?_)
  refine lv_goto (tgt := 3) hx hb dX6_putFour_50 (by decide) ?_
  refine lv_iload_n hx hb dX6_putFour_3 rfl (lv_at hl 0 rfl) ?_
  refine lv_if_lt (tgt := 53) hx hb dX6_putFour_4 (by decide) (fun c4 => ?_) (fun c4 => ?_)
  · exact absurd c4 (by decide)
  refine lv_aload_n hx hb dX6_putFour_7 rfl (lv_at hl 1 rfl) ?_
  refine cs_get F St 0 rfl rfl inX6 1 (by decide) kf_X6_15 rfl dX6_putFour_8 ?_
  refine lv_if_lt (tgt := 47) hx hb dX6_putFour_11 (by decide) (fun c11 => ?_) (fun c11 => ?_)
  · have i11 := ci_lt (x := y_6) (y := 0) rfl (show (0 : Int32).toInt = 0 by decide) c11; exact False.elim (by omega)
  have i11 := ci_nlt (x := y_6) (y := 0) rfl (show (0 : Int32).toInt = 0 by decide) c11
  refine lv_aload_n hx hb dX6_putFour_14 rfl (lv_at hl 1 rfl) ?_
  refine cs_get F St 0 rfl rfl inX6 1 (by decide) kf_X6_15 rfl dX6_putFour_15 ?_
  refine lv_sipush (v := 400) hx hb dX6_putFour_18 (by decide) ?_
  refine lv_icmp_ge (tgt := 47) hx hb dX6_putFour_21 (by decide) (fun c21 => ?_) (fun c21 => ?_)
  · have i21 := ci_le (x := 400) (y := y_6) (show (400 : Int32).toInt = 400 by decide) rfl c21; exact False.elim (by omega)
  have i21 := ci_nle (x := 400) (y := y_6) (show (400 : Int32).toInt = 400 by decide) rfl c21
  refine lv_aload_n hx hb dX6_putFour_24 rfl (lv_at hl 1 rfl) ?_
  refine cs_get F St 0 rfl rfl inX6 0 (by decide) kf_X6_11 rfl dX6_putFour_25 ?_
  refine lv_aload_n hx hb dX6_putFour_28 rfl (lv_at hl 1 rfl) ?_
  refine cs_get F St 0 rfl rfl inX6 1 (by decide) kf_X6_15 rfl dX6_putFour_29 ?_
  refine lv_iload_n hx hb dX6_putFour_32 rfl (lv_at hl 2 rfl) ?_
  refine lv_iload_n hx hb dX6_putFour_33 rfl (lv_at hl 0 rfl) ?_
  refine lv_iushr hx hb dX6_putFour_34 rfl ?_
  refine lv_topi (fun y_7 ey_7 => ?_)
  refine lv_i2b (v := y_7.toInt8.toInt32) hx hb dX6_putFour_35 rfl ?_
  skip
  refine cs_bst F St 1 0 rfl rfl (vp_in_iff.mpr ⟨by omega, by omega⟩) (w' := [(qAI h 6 b y_6), (qarI b cb 400 (upd f_5 (y_6 : Int32).toNatClampNeg (vp_nar .byte y_7.toInt8.toInt32)))]) rfl dX6_putFour_36 (fun H locs St => ?_)
  obtain ⟨f_8, ef_8⟩ : ∃ zz : Nat → Int32, zz = upd f_5 (y_6 : Int32).toNatClampNeg (vp_nar .byte y_7.toInt8.toInt32) := ⟨_, rfl⟩
  rw [← ef_8] at St
  skip
  refine lv_aload_n hx hb dX6_putFour_37 rfl (lv_at hl 1 rfl) ?_
  refine lv_dup hx hb dX6_putFour_38 rfl ?_
  refine cs_get F St 0 rfl rfl inX6 1 (by decide) kf_X6_15 rfl dX6_putFour_39 ?_
  refine lv_iconst (v := 1) hx hb dX6_putFour_42 (by decide) ?_
  refine lv_iadd hx hb dX6_putFour_43 ?_
  refine lv_topi (fun y_9 ey_9 => ?_)
  first | have jy_9 : y_9.toInt = y_6.toInt + 1 := (by have q9 := ci_add (x := y_6) (y := 1) rfl (show (1 : Int32).toInt = 1 by decide) ey_9; omega) | have jy_9 := ci_add (x := y_6) (y := 1) rfl (show (1 : Int32).toInt = 1 by decide) ey_9
  refine cs_put F St 0 rfl rfl inX6 tyX6_ok nmX6 1 (by decide) kf_X6_15 rfl rfl rfl (Nat.le_of_ble_eq_true rfl) (w' := [(qAI h 6 b y_9), (qarI b cb 400 f_8)]) rfl dX6_putFour_44 (fun H locs St => ?_)
  refine lv_iinc (v := 0) (lv' := [(2, .int 0), (0, .ref h), (1, .int x)]) hx hb dX6_putFour_47 hl (k := 0) rfl (by decide) (by decide) rfl (fun ls hl => ?_)
  refine lv_goto (tgt := 3) hx hb dX6_putFour_50 (by decide) ?_
  refine lv_iload_n hx hb dX6_putFour_3 rfl (lv_at hl 0 rfl) ?_
  refine lv_if_lt (tgt := 53) hx hb dX6_putFour_4 (by decide) (fun c4 => ?_) (fun c4 => ?_)
  · exact absurd c4 (by decide)
  refine lv_aload_n hx hb dX6_putFour_7 rfl (lv_at hl 1 rfl) ?_
  refine cs_get F St 0 rfl rfl inX6 1 (by decide) kf_X6_15 rfl dX6_putFour_8 ?_
  refine lv_if_lt (tgt := 47) hx hb dX6_putFour_11 (by decide) (fun c11 => ?_) (fun c11 => ?_)
  · have i11 := ci_lt (x := y_9) (y := 0) rfl (show (0 : Int32).toInt = 0 by decide) c11; exact False.elim (by omega)
  have i11 := ci_nlt (x := y_9) (y := 0) rfl (show (0 : Int32).toInt = 0 by decide) c11
  refine lv_aload_n hx hb dX6_putFour_14 rfl (lv_at hl 1 rfl) ?_
  refine cs_get F St 0 rfl rfl inX6 1 (by decide) kf_X6_15 rfl dX6_putFour_15 ?_
  refine lv_sipush (v := 400) hx hb dX6_putFour_18 (by decide) ?_
  refine lv_icmp_ge (tgt := 47) hx hb dX6_putFour_21 (by decide) (fun c21 => ?_) (fun c21 => ?_)
  · have i21 := ci_le (x := 400) (y := y_9) (show (400 : Int32).toInt = 400 by decide) rfl c21; exact False.elim (by omega)
  have i21 := ci_nle (x := 400) (y := y_9) (show (400 : Int32).toInt = 400 by decide) rfl c21
  refine lv_aload_n hx hb dX6_putFour_24 rfl (lv_at hl 1 rfl) ?_
  refine cs_get F St 0 rfl rfl inX6 0 (by decide) kf_X6_11 rfl dX6_putFour_25 ?_
  refine lv_aload_n hx hb dX6_putFour_28 rfl (lv_at hl 1 rfl) ?_
  refine cs_get F St 0 rfl rfl inX6 1 (by decide) kf_X6_15 rfl dX6_putFour_29 ?_
  refine lv_iload_n hx hb dX6_putFour_32 rfl (lv_at hl 2 rfl) ?_
  refine lv_iload_n hx hb dX6_putFour_33 rfl (lv_at hl 0 rfl) ?_
  refine lv_iushr hx hb dX6_putFour_34 rfl ?_
  refine lv_topi (fun y_10 ey_10 => ?_)
  refine lv_i2b (v := y_10.toInt8.toInt32) hx hb dX6_putFour_35 rfl ?_
  skip
  refine cs_bst F St 1 0 rfl rfl (vp_in_iff.mpr ⟨by omega, by omega⟩) (w' := [(qAI h 6 b y_9), (qarI b cb 400 (upd f_8 (y_9 : Int32).toNatClampNeg (vp_nar .byte y_10.toInt8.toInt32)))]) rfl dX6_putFour_36 (fun H locs St => ?_)
  obtain ⟨f_11, ef_11⟩ : ∃ zz : Nat → Int32, zz = upd f_8 (y_9 : Int32).toNatClampNeg (vp_nar .byte y_10.toInt8.toInt32) := ⟨_, rfl⟩
  rw [← ef_11] at St
  skip
  refine lv_aload_n hx hb dX6_putFour_37 rfl (lv_at hl 1 rfl) ?_
  refine lv_dup hx hb dX6_putFour_38 rfl ?_
  refine cs_get F St 0 rfl rfl inX6 1 (by decide) kf_X6_15 rfl dX6_putFour_39 ?_
  refine lv_iconst (v := 1) hx hb dX6_putFour_42 (by decide) ?_
  refine lv_iadd hx hb dX6_putFour_43 ?_
  refine lv_topi (fun y_12 ey_12 => ?_)
  first | have jy_12 : y_12.toInt = y_9.toInt + 1 := (by have q9 := ci_add (x := y_9) (y := 1) rfl (show (1 : Int32).toInt = 1 by decide) ey_12; omega) | have jy_12 := ci_add (x := y_9) (y := 1) rfl (show (1 : Int32).toInt = 1 by decide) ey_12
  refine cs_put F St 0 rfl rfl inX6 tyX6_ok nmX6 1 (by decide) kf_X6_15 rfl rfl rfl (Nat.le_of_ble_eq_true rfl) (w' := [(qAI h 6 b y_12), (qarI b cb 400 f_11)]) rfl dX6_putFour_44 (fun H locs St => ?_)
  refine lv_iinc (v := (-8)) (lv' := [(2, .int (-8)), (0, .ref h), (1, .int x)]) hx hb dX6_putFour_47 hl (k := 0) rfl (by decide) (by decide) rfl (fun ls hl => ?_)
  refine lv_goto (tgt := 3) hx hb dX6_putFour_50 (by decide) ?_
  refine lv_iload_n hx hb dX6_putFour_3 rfl (lv_at hl 0 rfl) ?_
  refine lv_if_lt (tgt := 53) hx hb dX6_putFour_4 (by decide) (fun c4 => ?_) (fun c4 => ?_)
  rotate_left
  · exact absurd (by decide) c4
  exact cs_vret F hr hlk hQ St (y_12, f_11) ⟨by omega, lay4_of (n1 := y_3) (n2 := y_6) (n3 := y_9) h0 (by omega) (by omega) (by omega) ef_2 ef_5 ef_8 ef_11 (by rw [ey_1]; rfl) (by rw [ey_4]; rfl) (by rw [ey_7]; rfl) (by rw [ey_10]; rfl)⟩ [0, 1] rfl (by decide) [] rfl (by decide) (by decide) dX6_putFour_53
set_option maxHeartbeats 4000000 in
set_option maxRecDepth 100000 in
theorem r8_at (l : Launch) (G : va_G) (k : Nat → Nat) (sz : Nat) (h : Nat) (b : Nat) (cb : ClassId) (f : Nat → Int32) (x : Int32) (h0 : 0 ≤ x.toInt) (h9 : x.toInt < 9) : Met l yX8_at (Cond.code yX8_at cX8_at 2 (some .int) :: tb) ({ frames := 0, cells := 0, slots := 0, locals := 0 } : Room) (va_Pc [.ref h, .int x] (cP G k [(qA h 8 b), (qarI b cb 9 f)] [(cb, .int)] sz)) (va_Qi (fun (r : Int32) (_ : Unit) => (r = f x.toNatClampNeg)) (cB G (fun (_ : Unit) => [(qA h 8 b), (qarI b cb 9 f)]) (fun (_ : Unit) => []) (va_A [(qA h 8 b), (qarI b cb 9 f)] sz)) (va_A [(qA h 8 b), (qarI b cb 9 f)] sz)) 0 0 (va_A [(qA h 8 b), (qarI b cb 9 f)] sz) := by
  refine ofC_i (cc := cX8_at) (maxL := 2) (ret := (some .int)) (by decide) rfl (Nat.le_of_ble_eq_true rfl) ?_
  intro p e s m args below meth c A ls Q F hr hin hlk St hl hQ
  have hx := F.1
  have hb := F.2.1
  have hl : lv_has ls 2 [(0, .ref h), (1, .int x)] := hl
  have St : cS G k [(qA h 8 b), (qarI b cb 9 f)] [(cb, .int)] A s s.heap [] := St
  refine lv_iload_n hx hb dX8_at_0 rfl (lv_at hl 1 rfl) ?_
  refine lv_if_lt (tgt := 19) hx hb dX8_at_1 (by decide) (fun c1 => ?_) (fun c1 => ?_)
  · have i1 := ci_lt (x := x) (y := 0) rfl (show (0 : Int32).toInt = 0 by decide) c1; exact False.elim (by omega)
  have i1 := ci_nlt (x := x) (y := 0) rfl (show (0 : Int32).toInt = 0 by decide) c1
  refine lv_iload_n hx hb dX8_at_4 rfl (lv_at hl 1 rfl) ?_
  refine lv_bipush (v := 9) hx hb dX8_at_5 (by decide) ?_
  refine lv_icmp_ge (tgt := 19) hx hb dX8_at_7 (by decide) (fun c7 => ?_) (fun c7 => ?_)
  · have i7 := ci_le (x := 9) (y := x) (show (9 : Int32).toInt = 9 by decide) rfl c7; exact False.elim (by omega)
  have i7 := ci_nle (x := 9) (y := x) (show (9 : Int32).toInt = 9 by decide) rfl c7
  refine lv_aload_n hx hb dX8_at_10 rfl (lv_at hl 0 rfl) ?_
  refine cs_get F St 0 rfl rfl inX8 0 (by decide) kf_X8_11 rfl dX8_at_11 ?_
  refine lv_iload_n hx hb dX8_at_14 rfl (lv_at hl 1 rfl) ?_
  refine cs_ild F St 1 0 rfl rfl (vp_in_iff.mpr ⟨by omega, by omega⟩) dX8_at_15 ?_
  refine lv_topi (fun y_1 ey_1 => ?_)
  refine lv_goto (tgt := 20) hx hb dX8_at_16 (by decide) ?_
  exact cs_iret F hr hlk hQ St () (r := y_1) ey_1 [0, 1] rfl (by decide) [] rfl (by decide) (by decide) dX8_at_20
set_option maxHeartbeats 4000000 in
set_option maxRecDepth 100000 in
theorem r9_faultKind (l : Launch) (G : va_G) (k : Nat → Nat) (sz : Nat) (h : Nat) (d : Nat) (t : Nat) (rh : Int32) (rt : Int32) (rs : Int32) (rv : Int32) (rk : Int32) (rp : Int32) : Met l yX9_faultKind (Cond.code yX9_faultKind cX9_faultKind 1 (some .int) :: tb) ({ frames := 0, cells := 0, slots := 0, locals := 0 } : Room) (va_Pc [.ref h] (cP G k [(qAAIIIIII h 9 d t rh rt rs rv rk rp)] [] sz)) (va_Qi (fun (r : Int32) (_ : Unit) => (r = rk)) (cB G (fun (_ : Unit) => [(qAAIIIIII h 9 d t rh rt rs rv rk rp)]) (fun (_ : Unit) => []) (va_A [(qAAIIIIII h 9 d t rh rt rs rv rk rp)] sz)) (va_A [(qAAIIIIII h 9 d t rh rt rs rv rk rp)] sz)) 0 0 (va_A [(qAAIIIIII h 9 d t rh rt rs rv rk rp)] sz) := by
  refine ofC_i (cc := cX9_faultKind) (maxL := 1) (ret := (some .int)) (by decide) rfl (Nat.le_of_ble_eq_true rfl) ?_
  intro p e s m args below meth c A ls Q F hr hin hlk St hl hQ
  have hx := F.1
  have hb := F.2.1
  have hl : lv_has ls 1 [(0, .ref h)] := hl
  have St : cS G k [(qAAIIIIII h 9 d t rh rt rs rv rk rp)] [] A s s.heap [] := St
  refine lv_aload_n hx hb dX9_faultKind_0 rfl (lv_at hl 0 rfl) ?_
  refine cs_get F St 0 rfl rfl inX9 6 (by decide) kf_X9_26 rfl dX9_faultKind_1 ?_
  exact cs_iret F hr hlk hQ St () (r := rk) rfl [0] rfl (by decide) [] rfl (by decide) (by decide) dX9_faultKind_4
set_option maxHeartbeats 4000000 in
set_option maxRecDepth 100000 in
theorem r9_faultPlace (l : Launch) (G : va_G) (k : Nat → Nat) (sz : Nat) (h : Nat) (d : Nat) (t : Nat) (rh : Int32) (rt : Int32) (rs : Int32) (rv : Int32) (rk : Int32) (rp : Int32) : Met l yX9_faultPlace (Cond.code yX9_faultPlace cX9_faultPlace 1 (some .int) :: tb) ({ frames := 0, cells := 0, slots := 0, locals := 0 } : Room) (va_Pc [.ref h] (cP G k [(qAAIIIIII h 9 d t rh rt rs rv rk rp)] [] sz)) (va_Qi (fun (r : Int32) (_ : Unit) => (r = rp)) (cB G (fun (_ : Unit) => [(qAAIIIIII h 9 d t rh rt rs rv rk rp)]) (fun (_ : Unit) => []) (va_A [(qAAIIIIII h 9 d t rh rt rs rv rk rp)] sz)) (va_A [(qAAIIIIII h 9 d t rh rt rs rv rk rp)] sz)) 0 0 (va_A [(qAAIIIIII h 9 d t rh rt rs rv rk rp)] sz) := by
  refine ofC_i (cc := cX9_faultPlace) (maxL := 1) (ret := (some .int)) (by decide) rfl (Nat.le_of_ble_eq_true rfl) ?_
  intro p e s m args below meth c A ls Q F hr hin hlk St hl hQ
  have hx := F.1
  have hb := F.2.1
  have hl : lv_has ls 1 [(0, .ref h)] := hl
  have St : cS G k [(qAAIIIIII h 9 d t rh rt rs rv rk rp)] [] A s s.heap [] := St
  refine lv_aload_n hx hb dX9_faultPlace_0 rfl (lv_at hl 0 rfl) ?_
  refine cs_get F St 0 rfl rfl inX9 7 (by decide) kf_X9_22 rfl dX9_faultPlace_1 ?_
  exact cs_iret F hr hlk hQ St () (r := rp) rfl [0] rfl (by decide) [] rfl (by decide) (by decide) dX9_faultPlace_4

