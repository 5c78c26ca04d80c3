set_option maxHeartbeats 4000000 in
set_option maxRecDepth 100000 in
theorem x6_length (l : Launch) (G : va_G) (k : Nat → Nat) (sz : Nat) (h : Nat) (b : Nat) (nn : Int32) : Met l yX6_length (Cond.code yX6_length cX6_length 1 (some .int) :: tb) ({ frames := 0, cells := 0, slots := 0, locals := 0 } : Room) (va_Pc [.ref h] (cP G k [(h, .inr (6, [.ref b, .int nn]))] [] sz)) (va_Qi (fun (r : Int32) (_ : Unit) => (r = nn)) (cB G (fun (_ : Unit) => [(h, .inr (6, [.ref b, .int nn]))]) (fun (_ : Unit) => []) (va_A [(h, .inr (6, [.ref b, .int nn]))] sz)) (va_A [(h, .inr (6, [.ref b, .int nn]))] sz)) 0 0 (va_A [(h, .inr (6, [.ref b, .int nn]))] sz) := by
  refine ofC_i (cc := cX6_length) (maxL := 1) (ret := (some .int)) (by decide) rfl (Nat.le_of_ble_eq_true rfl) ?_
  intro p e s m args below meth c A ls Q F hr hin hlk St hl hQ
  have hx := F.1
  have hb := F.2.1
  have hl : lv_has ls 1 [(0, .ref h)] := hl
  have St : cS G k [(h, .inr (6, [.ref b, .int nn]))] [] A s s.heap [] := St
  refine lv_aload_n hx hb dX6_length_0 rfl (lv_at hl 0 rfl) ?_
  refine cs_get F St 0 rfl rfl inX6 1 (by decide) kf_X6_15 rfl dX6_length_1 ?_
  exact cs_iret F hr hlk hQ St () (r := nn) rfl [0] rfl (by decide) [] rfl (by decide) (by decide) dX6_length_4
set_option maxHeartbeats 4000000 in
set_option maxRecDepth 100000 in
theorem x6_has (l : Launch) (G : va_G) (k : Nat → Nat) (sz : Nat) (h : Nat) (b : Nat) (nn : Int32) : Met l yX6_hasRoomForTwenty (Cond.code yX6_hasRoomForTwenty cX6_hasRoomForTwenty 1 (some .boolean) :: tb) ({ frames := 0, cells := 0, slots := 0, locals := 0 } : Room) (va_Pc [.ref h] (cP G k [(h, .inr (6, [.ref b, .int nn]))] [] sz)) (va_Qi (fun (r : Int32) (_ : Unit) => ((r = 1) ∧ (nn.toInt ≤ 380)) ∨ ((r = 0) ∧ (¬ (nn.toInt ≤ 380)))) (cB G (fun (_ : Unit) => [(h, .inr (6, [.ref b, .int nn]))]) (fun (_ : Unit) => []) (va_A [(h, .inr (6, [.ref b, .int nn]))] sz)) (va_A [(h, .inr (6, [.ref b, .int nn]))] sz)) 0 0 (va_A [(h, .inr (6, [.ref b, .int nn]))] sz) := by
  refine ofC_i (cc := cX6_hasRoomForTwenty) (maxL := 1) (ret := (some .boolean)) (by decide) rfl (Nat.le_of_ble_eq_true rfl) ?_
  intro p e s m args below meth c A ls Q F hr hin hlk St hl hQ
  have hx := F.1
  have hb := F.2.1
  have hl : lv_has ls 1 [(0, .ref h)] := hl
  have St : cS G k [(h, .inr (6, [.ref b, .int nn]))] [] A s s.heap [] := St
  refine lv_aload_n hx hb dX6_hasRoomForTwenty_0 rfl (lv_at hl 0 rfl) ?_
  refine cs_get F St 0 rfl rfl inX6 1 (by decide) kf_X6_15 rfl dX6_hasRoomForTwenty_1 ?_
  refine lv_sipush (v := 380) hx hb dX6_hasRoomForTwenty_4 (by decide) ?_
  refine lv_icmp_gt (tgt := 14) hx hb dX6_hasRoomForTwenty_7 (by decide) (fun c7 => ?_) (fun c7 => ?_)
  ·
    have i7 := ci_lt (x := 380) (y := nn) (show (380 : Int32).toInt = 380 by decide) rfl c7
    refine lv_iconst (v := 0) hx hb dX6_hasRoomForTwenty_14 (by decide) ?_
    exact cs_zret F hr hlk hQ St () (r := 0) rfl (Or.inr ⟨rfl, by omega⟩) [0] rfl (by decide) [] rfl (by decide) (by decide) dX6_hasRoomForTwenty_15
  ·
    have i7 := ci_nlt (x := 380) (y := nn) (show (380 : Int32).toInt = 380 by decide) rfl c7
    refine lv_iconst (v := 1) hx hb dX6_hasRoomForTwenty_10 (by decide) ?_
    refine lv_goto (tgt := 15) hx hb dX6_hasRoomForTwenty_11 (by decide) ?_
    exact cs_zret F hr hlk hQ St () (r := 1) rfl (Or.inl ⟨rfl, by omega⟩) [0] rfl (by decide) [] rfl (by decide) (by decide) dX6_hasRoomForTwenty_15
set_option maxHeartbeats 4000000 in
set_option maxRecDepth 100000 in
theorem x6_cutTo (l : Launch) (G : va_G) (k : Nat → Nat) (sz : Nat) (h : Nat) (b : Nat) (nn : Int32) (x : Int32) : Met l yX6_cutTo (Cond.code yX6_cutTo cX6_cutTo 2 none :: tb) ({ frames := 0, cells := 0, slots := 0, locals := 0 } : Room) (va_Pc [.ref h, .int x] (cP G k [(h, .inr (6, [.ref b, .int nn]))] [] sz)) (va_Qv (fun (_ : Unit) => True) (cB G (fun (_ : Unit) => [(h, .inr (6, [.ref b, .int x]))]) (fun (_ : Unit) => []) (va_A [(h, .inr (6, [.ref b, .int nn]))] sz)) (va_A [(h, .inr (6, [.ref b, .int nn]))] sz)) 0 0 (va_A [(h, .inr (6, [.ref b, .int nn]))] sz) := by
  refine ofC_v (cc := cX6_cutTo) (maxL := 2) (ret := none) (by decide) rfl (Nat.le_of_ble_eq_true rfl) ?_
  intro p e s m args below meth c A ls Q F hr hin hlk St hl hQ
  have hx := F.1
  have hb := F.2.1
  have hl : lv_has ls 2 [(0, .ref h), (1, .int x)] := hl
  have St : cS G k [(h, .inr (6, [.ref b, .int nn]))] [] A s s.heap [] := St
  refine lv_aload_n hx hb dX6_cutTo_0 rfl (lv_at hl 0 rfl) ?_
  refine lv_iload_n hx hb dX6_cutTo_1 rfl (lv_at hl 1 rfl) ?_
  refine cs_put F St 0 rfl rfl inX6 tyX6_ok nmX6 1 (by decide) kf_X6_15 rfl rfl rfl (Nat.le_of_ble_eq_true rfl) (w' := [(h, .inr (6, [.ref b, .int x]))]) rfl dX6_cutTo_2 (fun H locs St => ?_)
  exact cs_vret F hr hlk hQ St () (by trivial) [0] rfl (by decide) [] rfl (by decide) (by decide) dX6_cutTo_5
set_option maxHeartbeats 4000000 in
set_option maxRecDepth 100000 in
theorem x9_draft (l : Launch) (G : va_G) (k : Nat → Nat) (sz : Nat) (h : Nat) (d : Nat) (t : Nat) (rh : Int32) (rt : Int32) (rs : Int32) (rv : Int32) (rk : Int32) (rp : Int32) : Met l yX9_draft (Cond.code yX9_draft cX9_draft 1 (some (.object "TowerAppeal$Trust")) :: tb) ({ frames := 0, cells := 0, slots := 0, locals := 0 } : Room) (va_Pc [.ref h] (cP G k [(h, .inr (9, [.ref d, .ref t, .int rh, .int rt, .int rs, .int rv, .int rk, .int rp]))] [] sz)) (va_Qq (fun (r : Option Nat) (_ : Unit) => (r = some d)) (cB G (fun (_ : Unit) => [(h, .inr (9, [.ref d, .ref t, .int rh, .int rt, .int rs, .int rv, .int rk, .int rp]))]) (fun (_ : Unit) => []) (va_A [(h, .inr (9, [.ref d, .ref t, .int rh, .int rt, .int rs, .int rv, .int rk, .int rp]))] sz)) (va_A [(h, .inr (9, [.ref d, .ref t, .int rh, .int rt, .int rs, .int rv, .int rk, .int rp]))] sz)) 0 0 (va_A [(h, .inr (9, [.ref d, .ref t, .int rh, .int rt, .int rs, .int rv, .int rk, .int rp]))] sz) := by
  refine ofC_q (cc := cX9_draft) (maxL := 1) (ret := (some (.object "TowerAppeal$Trust"))) (by decide) rfl (Nat.le_of_ble_eq_true rfl) ?_
  intro p e s m args below meth c A ls Q F hr hin hlk St hl hQ
  have hx := F.1
  have hb := F.2.1
  have hl : lv_has ls 1 [(0, .ref h)] := hl
  have St : cS G k [(h, .inr (9, [.ref d, .ref t, .int rh, .int rt, .int rs, .int rv, .int rk, .int rp]))] [] A s s.heap [] := St
  refine lv_aload_n hx hb dX9_draft_0 rfl (lv_at hl 0 rfl) ?_
  refine cs_get F St 0 rfl rfl inX9 0 (by decide) kf_X9_12 rfl dX9_draft_1 ?_
  exact cs_qret F hr (Or.inl ⟨_, rfl⟩) hlk hQ St () (some d) rfl rfl [0] rfl (by decide) [] rfl (by decide) (by decide) dX9_draft_4
set_option maxHeartbeats 4000000 in
set_option maxRecDepth 100000 in
theorem x9_refuse (l : Launch) (G : va_G) (k : Nat → Nat) (sz : Nat) (h : Nat) (d : Nat) (t : Nat) (rh : Int32) (rt : Int32) (rs : Int32) (rv : Int32) (rk : Int32) (rp : Int32) (x : Int32) : Met l yX9_refuse (Cond.code yX9_refuse cX9_refuse 2 none :: tb) ({ frames := 0, cells := 0, slots := 0, locals := 0 } : Room) (va_Pc [.ref h, .int x] (cP G k [(h, .inr (9, [.ref d, .ref t, .int rh, .int rt, .int rs, .int rv, .int rk, .int rp]))] [] sz)) (va_Qv (fun (_ : Unit) => True) (cB G (fun (_ : Unit) => [(h, .inr (9, [.ref d, .ref t, .int rh, .int rt, .int rs, .int rv, .int x, .int rs]))]) (fun (_ : Unit) => []) (va_A [(h, .inr (9, [.ref d, .ref t, .int rh, .int rt, .int rs, .int rv, .int rk, .int rp]))] sz)) (va_A [(h, .inr (9, [.ref d, .ref t, .int rh, .int rt, .int rs, .int rv, .int rk, .int rp]))] sz)) 0 0 (va_A [(h, .inr (9, [.ref d, .ref t, .int rh, .int rt, .int rs, .int rv, .int rk, .int rp]))] sz) := by
  refine ofC_v (cc := cX9_refuse) (maxL := 2) (ret := none) (by decide) rfl (Nat.le_of_ble_eq_true rfl) ?_
  intro p e s m args below meth c A ls Q F hr hin hlk St hl hQ
  have hx := F.1
  have hb := F.2.1
  have hl : lv_has ls 2 [(0, .ref h), (1, .int x)] := hl
  have St : cS G k [(h, .inr (9, [.ref d, .ref t, .int rh, .int rt, .int rs, .int rv, .int rk, .int rp]))] [] A s s.heap [] := St
  refine lv_aload_n hx hb dX9_refuse_0 rfl (lv_at hl 0 rfl) ?_
  refine lv_iload_n hx hb dX9_refuse_1 rfl (lv_at hl 1 rfl) ?_
  refine cs_put F St 0 rfl rfl inX9 tyX9_ok nmX9 6 (by decide) kf_X9_26 rfl rfl rfl (Nat.le_of_ble_eq_true rfl) (w' := [(h, .inr (9, [.ref d, .ref t, .int rh, .int rt, .int rs, .int rv, .int x, .int rp]))]) rfl dX9_refuse_2 (fun H locs St => ?_)
  refine lv_aload_n hx hb dX9_refuse_5 rfl (lv_at hl 0 rfl) ?_
  refine lv_aload_n hx hb dX9_refuse_6 rfl (lv_at hl 0 rfl) ?_
  refine cs_get F St 0 rfl rfl inX9 4 (by decide) kf_X9_48 rfl dX9_refuse_7 ?_
  refine cs_put F St 0 rfl rfl inX9 tyX9_ok nmX9 7 (by decide) kf_X9_22 rfl rfl rfl (Nat.le_of_ble_eq_true rfl) (w' := [(h, .inr (9, [.ref d, .ref t, .int rh, .int rt, .int rs, .int rv, .int x, .int rs]))]) rfl dX9_refuse_10 (fun H locs St => ?_)
  exact cs_vret F hr hlk hQ St () (by trivial) [0] rfl (by decide) [] rfl (by decide) (by decide) dX9_refuse_13
