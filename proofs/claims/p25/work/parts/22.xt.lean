set_option maxHeartbeats 4000000 in
set_option maxRecDepth 100000 in
theorem x2_add (l : Launch) (G : va_G) (k : Nat → Nat) (sz : Nat) (h : Nat) (b : Nat) (ce : ClassId) (bn : Int32) (fa : Nat → Option Nat) (pv : Nat) (o0 : Nat) (o1 : Nat) (o2 : Nat) (pg : Int32) (pf : Int32) (pe : Int32) (pz : Int32) (pp : Int32) (pa : Int32) (pl : Int32) (pk : Int32) (pb : Int32) (hb0 : 0 ≤ bn.toInt) (hb1 : bn.toInt < 60) : Met l yX2_add (Cond.code yX2_add cX2_add 2 (some .int) :: tb) ({ frames := 0, cells := 0, slots := 0, locals := 0 } : Room) (va_Pc [.ref h, .ref pv] (cP G k [(h, .inr (2, [.ref b, .int bn])), (b, .inl (ce, 60, .inr (.inr (.inr (.inr fa))))), (pv, .inr (1, [.int pg, .int pf, .int pe, .int pz, .ref o0, .ref o1, .ref o2, .int pp, .int pa, .int pl, .int pk, .int pb]))] [(ce, .object "TowerAppeal$Pledge")] sz)) (va_Qi (fun (r : Int32) (u : Int32 × (Nat → Option Nat)) => match u with | (bn2, fa2) => (r = bn) ∧ (bn2.toInt = bn.toInt + 1) ∧ (fa2 = va_up fa bn.toNatClampNeg (some pv))) (cB G (fun u => match u with | (bn2, fa2) => [(h, .inr (2, [.ref b, .int bn2])), (b, .inl (ce, 60, .inr (.inr (.inr (.inr fa2))))), (pv, .inr (1, [.int pg, .int pf, .int pe, .int pz, .ref o0, .ref o1, .ref o2, .int pp, .int pa, .int pl, .int pk, .int pb]))]) (fun u => match u with | (bn2, fa2) => []) (va_A [(h, .inr (2, [.ref b, .int bn])), (b, .inl (ce, 60, .inr (.inr (.inr (.inr fa))))), (pv, .inr (1, [.int pg, .int pf, .int pe, .int pz, .ref o0, .ref o1, .ref o2, .int pp, .int pa, .int pl, .int pk, .int pb]))] sz)) (va_A [(h, .inr (2, [.ref b, .int bn])), (b, .inl (ce, 60, .inr (.inr (.inr (.inr fa))))), (pv, .inr (1, [.int pg, .int pf, .int pe, .int pz, .ref o0, .ref o1, .ref o2, .int pp, .int pa, .int pl, .int pk, .int pb]))] sz)) 0 0 (va_A [(h, .inr (2, [.ref b, .int bn])), (b, .inl (ce, 60, .inr (.inr (.inr (.inr fa))))), (pv, .inr (1, [.int pg, .int pf, .int pe, .int pz, .ref o0, .ref o1, .ref o2, .int pp, .int pa, .int pl, .int pk, .int pb]))] sz) := by
  refine ofC_i (cc := cX2_add) (maxL := 2) (ret := (some .int)) (by decide) rfl (Nat.le_of_ble_eq_true rfl) ?_
  intro p e s m args below meth c A ls Q F hr hin hlk St hl hQ
  have hx := F.1
  have hb := F.2.1
  have hl : lv_has ls 2 [(0, .ref h), (1, .ref pv)] := hl
  have St : cS G k [(h, .inr (2, [.ref b, .int bn])), (b, .inl (ce, 60, .inr (.inr (.inr (.inr fa))))), (pv, .inr (1, [.int pg, .int pf, .int pe, .int pz, .ref o0, .ref o1, .ref o2, .int pp, .int pa, .int pl, .int pk, .int pb]))] [(ce, .object "TowerAppeal$Pledge")] A s s.heap [] := St
  refine lv_aload_n hx hb dX2_add_0 rfl (lv_at hl 0 rfl) ?_
  refine cs_get F St 0 rfl rfl inX2 1 (by decide) kf_X2_17 rfl dX2_add_1 ?_
  refine lv_if_lt (tgt := 16) hx hb dX2_add_4 (by decide) (fun c4 => ?_) (fun c4 => ?_)
  · have i4 := ci_lt (x := bn) (y := 0) rfl (show (0 : Int32).toInt = 0 by decide) c4; exact False.elim (by omega)
  have i4 := ci_nlt (x := bn) (y := 0) rfl (show (0 : Int32).toInt = 0 by decide) c4
  refine lv_aload_n hx hb dX2_add_7 rfl (lv_at hl 0 rfl) ?_
  refine cs_get F St 0 rfl rfl inX2 1 (by decide) kf_X2_17 rfl dX2_add_8 ?_
  refine lv_bipush (v := 60) hx hb dX2_add_11 (by decide) ?_
  refine lv_icmp_lt (tgt := 19) hx hb dX2_add_13 (by decide) (fun c13 => ?_) (fun c13 => ?_)
  rotate_left
  · have i13 := ci_nlt (x := bn) (y := 60) rfl (show (60 : Int32).toInt = 60 by decide) c13; exact False.elim (by omega)
  have i13 := ci_lt (x := bn) (y := 60) rfl (show (60 : Int32).toInt = 60 by decide) c13
  refine lv_aload_n hx hb dX2_add_19 rfl (lv_at hl 0 rfl) ?_
  refine cs_get F St 0 rfl rfl inX2 0 (by decide) kf_X2_11 rfl dX2_add_20 ?_
  refine lv_aload_n hx hb dX2_add_23 rfl (lv_at hl 0 rfl) ?_
  refine cs_get F St 0 rfl rfl inX2 1 (by decide) kf_X2_17 rfl dX2_add_24 ?_
  refine lv_aload_n hx hb dX2_add_27 rfl (lv_at hl 1 rfl) ?_
  refine cs_astq F St 1 0 2 1 rfl rfl rfl rfl (vp_in_iff.mpr ⟨by omega, by omega⟩) (w' := [(h, .inr (2, [.ref b, .int bn])), (b, .inl (ce, 60, .inr (.inr (.inr (.inr (va_up fa (bn : Int32).toNatClampNeg (some pv))))))), (pv, .inr (1, [.int pg, .int pf, .int pe, .int pz, .ref o0, .ref o1, .ref o2, .int pp, .int pa, .int pl, .int pk, .int pb]))]) rfl dX2_add_28 (fun H locs St => ?_)
  refine lv_aload_n hx hb dX2_add_29 rfl (lv_at hl 0 rfl) ?_
  refine lv_dup hx hb dX2_add_30 rfl ?_
  refine cs_get F St 0 rfl rfl inX2 1 (by decide) kf_X2_17 rfl dX2_add_31 ?_
  refine lv_iconst (v := 1) hx hb dX2_add_34 (by decide) ?_
  refine lv_iadd hx hb dX2_add_35 ?_
  refine lv_topi (fun y_1 ey_1 => ?_)
  first | have jy_1 : y_1.toInt = bn.toInt + 1 := (by have q9 := ci_add (x := bn) (y := 1) rfl (show (1 : Int32).toInt = 1 by decide) ey_1; omega) | have jy_1 := ci_add (x := bn) (y := 1) rfl (show (1 : Int32).toInt = 1 by decide) ey_1
  refine cs_put F St 0 rfl rfl inX2 tyX2_ok nmX2 1 (by decide) kf_X2_17 rfl rfl rfl (Nat.le_of_ble_eq_true rfl) (w' := [(h, .inr (2, [.ref b, .int y_1])), (b, .inl (ce, 60, .inr (.inr (.inr (.inr (va_up fa (bn : Int32).toNatClampNeg (some pv))))))), (pv, .inr (1, [.int pg, .int pf, .int pe, .int pz, .ref o0, .ref o1, .ref o2, .int pp, .int pa, .int pl, .int pk, .int pb]))]) rfl dX2_add_36 (fun H locs St => ?_)
  refine lv_aload_n hx hb dX2_add_39 rfl (lv_at hl 0 rfl) ?_
  refine cs_get F St 0 rfl rfl inX2 1 (by decide) kf_X2_17 rfl dX2_add_40 ?_
  refine lv_iconst (v := 1) hx hb dX2_add_43 (by decide) ?_
  refine lv_isub hx hb dX2_add_44 ?_
  refine lv_topi (fun y_2 ey_2 => ?_)
  first | have jy_2 : y_2.toInt = y_1.toInt - 1 := (by have q9 := ci_sub (x := y_1) (y := 1) rfl (show (1 : Int32).toInt = 1 by decide) ey_2; omega) | have jy_2 := ci_sub (x := y_1) (y := 1) rfl (show (1 : Int32).toInt = 1 by decide) ey_2
  exact cs_iret F hr hlk hQ St (y_1, va_up fa (bn : Int32).toNatClampNeg (some pv)) (r := y_2) ⟨Int32.toInt_inj.mp (by omega), by omega, rfl⟩ [0, 1, 2] rfl (by decide) [] rfl (by decide) (by decide) dX2_add_45
set_option maxHeartbeats 4000000 in
set_option maxRecDepth 100000 in
theorem x7_add (l : Launch) (G : va_G) (k : Nat → Nat) (sz : Nat) (h : Nat) (b : Nat) (cf : ClassId) (tn : Int32) (td : Int32) (fs : Nat → Option Nat) (pv : Nat) (s0 : Int32) (s1 : Int32) (s2 : Int32) (s3 : Int32) (s4 : Int32) (s5 : Int32) (hb0 : 0 ≤ tn.toInt) (hb1 : tn.toInt < 8) : Met l yX7_add (Cond.code yX7_add cX7_add 2 (some .int) :: tb) ({ frames := 0, cells := 0, slots := 0, locals := 0 } : Room) (va_Pc [.ref h, .ref pv] (cP G k [(h, .inr (7, [.ref b, .int tn, .int td])), (b, .inl (cf, 8, .inr (.inr (.inr (.inr fs))))), (pv, .inr (4, [.int s0, .int s1, .int s2, .int s3, .int s4, .int s5]))] [(cf, .object "TowerAppeal$Stage")] sz)) (va_Qi (fun (r : Int32) (u : Int32 × (Nat → Option Nat)) => match u with | (tn2, fs2) => (r = tn) ∧ (tn2.toInt = tn.toInt + 1) ∧ (fs2 = va_up fs tn.toNatClampNeg (some pv))) (cB G (fun u => match u with | (tn2, fs2) => [(h, .inr (7, [.ref b, .int tn2, .int td])), (b, .inl (cf, 8, .inr (.inr (.inr (.inr fs2))))), (pv, .inr (4, [.int s0, .int s1, .int s2, .int s3, .int s4, .int s5]))]) (fun u => match u with | (tn2, fs2) => []) (va_A [(h, .inr (7, [.ref b, .int tn, .int td])), (b, .inl (cf, 8, .inr (.inr (.inr (.inr fs))))), (pv, .inr (4, [.int s0, .int s1, .int s2, .int s3, .int s4, .int s5]))] sz)) (va_A [(h, .inr (7, [.ref b, .int tn, .int td])), (b, .inl (cf, 8, .inr (.inr (.inr (.inr fs))))), (pv, .inr (4, [.int s0, .int s1, .int s2, .int s3, .int s4, .int s5]))] sz)) 0 0 (va_A [(h, .inr (7, [.ref b, .int tn, .int td])), (b, .inl (cf, 8, .inr (.inr (.inr (.inr fs))))), (pv, .inr (4, [.int s0, .int s1, .int s2, .int s3, .int s4, .int s5]))] sz) := by
  refine ofC_i (cc := cX7_add) (maxL := 2) (ret := (some .int)) (by decide) rfl (Nat.le_of_ble_eq_true rfl) ?_
  intro p e s m args below meth c A ls Q F hr hin hlk St hl hQ
  have hx := F.1
  have hb := F.2.1
  have hl : lv_has ls 2 [(0, .ref h), (1, .ref pv)] := hl
  have St : cS G k [(h, .inr (7, [.ref b, .int tn, .int td])), (b, .inl (cf, 8, .inr (.inr (.inr (.inr fs))))), (pv, .inr (4, [.int s0, .int s1, .int s2, .int s3, .int s4, .int s5]))] [(cf, .object "TowerAppeal$Stage")] A s s.heap [] := St
  refine lv_aload_n hx hb dX7_add_0 rfl (lv_at hl 0 rfl) ?_
  refine cs_get F St 0 rfl rfl inX7 1 (by decide) kf_X7_17 rfl dX7_add_1 ?_
  refine lv_if_lt (tgt := 16) hx hb dX7_add_4 (by decide) (fun c4 => ?_) (fun c4 => ?_)
  · have i4 := ci_lt (x := tn) (y := 0) rfl (show (0 : Int32).toInt = 0 by decide) c4; exact False.elim (by omega)
  have i4 := ci_nlt (x := tn) (y := 0) rfl (show (0 : Int32).toInt = 0 by decide) c4
  refine lv_aload_n hx hb dX7_add_7 rfl (lv_at hl 0 rfl) ?_
  refine cs_get F St 0 rfl rfl inX7 1 (by decide) kf_X7_17 rfl dX7_add_8 ?_
  refine lv_bipush (v := 8) hx hb dX7_add_11 (by decide) ?_
  refine lv_icmp_lt (tgt := 19) hx hb dX7_add_13 (by decide) (fun c13 => ?_) (fun c13 => ?_)
  rotate_left
  · have i13 := ci_nlt (x := tn) (y := 8) rfl (show (8 : Int32).toInt = 8 by decide) c13; exact False.elim (by omega)
  have i13 := ci_lt (x := tn) (y := 8) rfl (show (8 : Int32).toInt = 8 by decide) c13
  refine lv_aload_n hx hb dX7_add_19 rfl (lv_at hl 0 rfl) ?_
  refine cs_get F St 0 rfl rfl inX7 0 (by decide) kf_X7_11 rfl dX7_add_20 ?_
  refine lv_aload_n hx hb dX7_add_23 rfl (lv_at hl 0 rfl) ?_
  refine cs_get F St 0 rfl rfl inX7 1 (by decide) kf_X7_17 rfl dX7_add_24 ?_
  refine lv_aload_n hx hb dX7_add_27 rfl (lv_at hl 1 rfl) ?_
  refine cs_astq F St 1 0 2 4 rfl rfl rfl rfl (vp_in_iff.mpr ⟨by omega, by omega⟩) (w' := [(h, .inr (7, [.ref b, .int tn, .int td])), (b, .inl (cf, 8, .inr (.inr (.inr (.inr (va_up fs (tn : Int32).toNatClampNeg (some pv))))))), (pv, .inr (4, [.int s0, .int s1, .int s2, .int s3, .int s4, .int s5]))]) rfl dX7_add_28 (fun H locs St => ?_)
  refine lv_aload_n hx hb dX7_add_29 rfl (lv_at hl 0 rfl) ?_
  refine lv_dup hx hb dX7_add_30 rfl ?_
  refine cs_get F St 0 rfl rfl inX7 1 (by decide) kf_X7_17 rfl dX7_add_31 ?_
  refine lv_iconst (v := 1) hx hb dX7_add_34 (by decide) ?_
  refine lv_iadd hx hb dX7_add_35 ?_
  refine lv_topi (fun y_1 ey_1 => ?_)
  first | have jy_1 : y_1.toInt = tn.toInt + 1 := (by have q9 := ci_add (x := tn) (y := 1) rfl (show (1 : Int32).toInt = 1 by decide) ey_1; omega) | have jy_1 := ci_add (x := tn) (y := 1) rfl (show (1 : Int32).toInt = 1 by decide) ey_1
  refine cs_put F St 0 rfl rfl inX7 tyX7_ok nmX7 1 (by decide) kf_X7_17 rfl rfl rfl (Nat.le_of_ble_eq_true rfl) (w' := [(h, .inr (7, [.ref b, .int y_1, .int td])), (b, .inl (cf, 8, .inr (.inr (.inr (.inr (va_up fs (tn : Int32).toNatClampNeg (some pv))))))), (pv, .inr (4, [.int s0, .int s1, .int s2, .int s3, .int s4, .int s5]))]) rfl dX7_add_36 (fun H locs St => ?_)
  refine lv_aload_n hx hb dX7_add_39 rfl (lv_at hl 0 rfl) ?_
  refine cs_get F St 0 rfl rfl inX7 1 (by decide) kf_X7_17 rfl dX7_add_40 ?_
  refine lv_iconst (v := 1) hx hb dX7_add_43 (by decide) ?_
  refine lv_isub hx hb dX7_add_44 ?_
  refine lv_topi (fun y_2 ey_2 => ?_)
  first | have jy_2 : y_2.toInt = y_1.toInt - 1 := (by have q9 := ci_sub (x := y_1) (y := 1) rfl (show (1 : Int32).toInt = 1 by decide) ey_2; omega) | have jy_2 := ci_sub (x := y_1) (y := 1) rfl (show (1 : Int32).toInt = 1 by decide) ey_2
  exact cs_iret F hr hlk hQ St (y_1, va_up fs (tn : Int32).toNatClampNeg (some pv)) (r := y_2) ⟨Int32.toInt_inj.mp (by omega), by omega, rfl⟩ [0, 1, 2] rfl (by decide) [] rfl (by decide) (by decide) dX7_add_45
