set_option maxHeartbeats 4000000 in
set_option maxRecDepth 100000 in
/-- Trust() -/
theorem c8_init (l : Launch) (G : va_G) (k : Nat → Nat) (sz : Nat) (h : Nat) : Met l yX8_init (Cond.code yX8_init cX8_init 1 none :: tb) ({ frames := 1, cells := 1, slots := 9, locals := 60 } : Room) (va_Pc [.ref h] (cP G k [(h, .inr (8, [.null]))] [] sz)) (va_Qv (fun (u : Nat × ClassId) => match u with | (b, cb) => True) (cB G (fun u => match u with | (b, cb) => [(h, .inr (8, [.ref b])), (b, .inl (cb, 9, .inl untold))]) (fun u => match u with | (b, cb) => [(cb, .int)]) (va_A [(h, .inr (8, [.null]))] sz)) (va_A [(h, .inr (8, [.null]))] sz)) 1 9 (va_A [(h, .inr (8, [.null]))] sz) := by
  refine ofC_v (cc := cX8_init) (maxL := 1) (ret := none) (by decide) rfl (Nat.le_of_ble_eq_true rfl) ?_
  intro p e s m args below meth c A ls Q F hr hin hlk St hl hQ
  have hx := F.1
  have hb := F.2.1
  have hl : lv_has ls 1 [(0, .ref h)] := hl
  have St : cS G k [(h, .inr (8, [.null]))] [] A s s.heap [] := St
  refine lv_aload_n hx hb dX8_init_0 rfl (lv_at hl 0 rfl) ?_
  refine W.objInit hx hb F.2.2.2.1 (F.2.2.2.2 _ km_X8_3) (F.2.2.2.2 _ kj_objectInit) (F.2.2.2.2 _ kd_objectInit) rfl (by rw [F.2.2.1]; exact hl.1) rfl dX8_init_1 (Nat.le_of_ble_eq_true rfl) (Nat.le_of_ble_eq_true rfl) ?_
  refine W.eq (g2 := F0 m 4 ls []) rfl ?_
  refine lv_aload_n hx hb dX8_init_4 rfl (lv_at hl 0 rfl) ?_
  refine lv_bipush (v := 9) hx hb dX8_init_5 (by decide) ?_
  refine cs_newa F St (atype := .int) ka_int rfl (N' := 9) (a0 := (9, .inl (fun _ => 0))) (fun _ => rfl) (by decide) (by decide) (by decide) (Nat.le_of_ble_eq_true rfl) (Nat.le_of_ble_eq_true rfl) dX8_init_7 (fun q_1 d_2 H St => ?_)
  refine W.widen (k := 1) (n := 9) (by decide) (by decide) ?_
  have St : cS G k [(h, .inr (8, [.null])), (q_1, .inl (d_2, 9, .inl (fun _ => 0)))] [(d_2, .int)] A s H _ := St
  refine cs_putF F hin St 0 rfl rfl inX8 tyX8_ok nmX8 0 (by decide) kf_X8_11 rfl rfl rfl rfl (Nat.le_of_ble_eq_true rfl) (w' := [(h, .inr (8, [.ref q_1])), (q_1, .inl (d_2, 9, .inl (fun _ => 0)))]) rfl dX8_init_9 (fun H locs St => ?_)
  refine va_gets hx hb (St.2.2.2.2.2.2.1) St.toS F.2.2.2.1 (F.2.2.2.2 _ kf_X8_15) (fun _ h => h) dX8_init_12 ?_
  refine lv_iconst (v := 0) hx hb dX8_init_15 (by decide) ?_
  refine lv_aload_n hx hb dX8_init_16 rfl (lv_at hl 0 rfl) ?_
  refine cs_get F St 0 rfl rfl inX8 0 (by decide) kf_X8_11 rfl dX8_init_17 ?_
  refine lv_iconst (v := 0) hx hb dX8_init_20 (by decide) ?_
  refine lv_bipush (v := 9) hx hb dX8_init_21 (by decide) ?_
  refine cs_cpT F hl St (St.2.2.2.2.2.2.2.1) 1 0 rfl rfl km_X8_18 (Nat.le_of_ble_eq_true rfl) (Nat.le_of_ble_eq_true rfl) (Nat.le_of_ble_eq_true rfl) (w' := [(h, .inr (8, [.ref q_1])), (q_1, .inl (d_2, 9, .inl (va_cpy untold (fun _ => 0) 0 0 9)))]) rfl dX8_init_23 (fun H locs St => ?_)
  rw [cpy_untold] at St
  exact cs_vret F hr hlk hQ St (q_1, d_2) (by trivial) [0, 1] rfl (by decide) [0] rfl (by decide) (by decide) dX8_init_26
set_option maxHeartbeats 4000000 in
set_option maxRecDepth 100000 in
theorem c8_forget (l : Launch) (G : va_G) (k : Nat → Nat) (sz : Nat) (h : Nat) (b : Nat) (cb : ClassId) : Met l yX8_forget (Cond.code yX8_forget cX8_forget 1 none :: tb) ({ frames := 1, cells := 0, slots := 0, locals := 60 } : Room) (va_Pc [.ref h] (cP G k [(h, .inr (8, [.ref b])), (b, .inl (cb, 9, .inl untold))] [(cb, .int)] sz)) (va_Qv (fun (_ : Unit) => True) (cB G (fun (_ : Unit) => [(h, .inr (8, [.ref b])), (b, .inl (cb, 9, .inl untold))]) (fun (_ : Unit) => []) (va_A [(h, .inr (8, [.ref b])), (b, .inl (cb, 9, .inl untold))] sz)) (va_A [(h, .inr (8, [.ref b])), (b, .inl (cb, 9, .inl untold))] sz)) 0 0 (va_A [(h, .inr (8, [.ref b])), (b, .inl (cb, 9, .inl untold))] sz) := by
  refine ofC_v (cc := cX8_forget) (maxL := 1) (ret := none) (by decide) rfl (Nat.le_of_ble_eq_true rfl) ?_
  intro p e s m args below meth c A ls Q F hr hin hlk St hl hQ
  have hx := F.1
  have hb := F.2.1
  have hl : lv_has ls 1 [(0, .ref h)] := hl
  have St : cS G k [(h, .inr (8, [.ref b])), (b, .inl (cb, 9, .inl untold))] [(cb, .int)] A s s.heap [] := St
  refine va_gets hx hb (St.2.2.2.2.2.2.1) St.toS F.2.2.2.1 (F.2.2.2.2 _ kf_X8_15) (fun _ h => h) dX8_forget_0 ?_
  refine lv_iconst (v := 0) hx hb dX8_forget_3 (by decide) ?_
  refine lv_aload_n hx hb dX8_forget_4 rfl (lv_at hl 0 rfl) ?_
  refine cs_get F St 0 rfl rfl inX8 0 (by decide) kf_X8_11 rfl dX8_forget_5 ?_
  refine lv_iconst (v := 0) hx hb dX8_forget_8 (by decide) ?_
  refine lv_bipush (v := 9) hx hb dX8_forget_9 (by decide) ?_
  refine cs_cpT F hl St (St.2.2.2.2.2.2.2.1) 1 0 rfl rfl km_X8_18 (Nat.le_of_ble_eq_true rfl) (Nat.le_of_ble_eq_true rfl) (Nat.le_of_ble_eq_true rfl) (w' := [(h, .inr (8, [.ref b])), (b, .inl (cb, 9, .inl (va_cpy untold untold 0 0 9)))]) rfl dX8_forget_11 (fun H locs St => ?_)
  rw [cpy_untold2] at St
  exact cs_vret F hr hlk hQ St () (by trivial) [0, 1] rfl (by decide) [] rfl (by decide) (by decide) dX8_forget_14
set_option maxHeartbeats 4000000 in
set_option maxRecDepth 100000 in
theorem c8_takeOver (l : Launch) (G : va_G) (k : Nat → Nat) (sz : Nat) (h : Nat) (b : Nat) (h2 : Nat) (b2 : Nat) (cb : ClassId) (cb2 : ClassId) : Met l yX8_takeOver (Cond.code yX8_takeOver cX8_takeOver 2 none :: tb) ({ frames := 1, cells := 0, slots := 0, locals := 60 } : Room) (va_Pc [.ref h, .ref h2] (cP G k [(h, .inr (8, [.ref b])), (b, .inl (cb, 9, .inl untold)), (h2, .inr (8, [.ref b2])), (b2, .inl (cb2, 9, .inl untold))] [(cb, .int), (cb2, .int)] sz)) (va_Qv (fun (_ : Unit) => True) (cB G (fun (_ : Unit) => [(h, .inr (8, [.ref b])), (b, .inl (cb, 9, .inl untold)), (h2, .inr (8, [.ref b2])), (b2, .inl (cb2, 9, .inl untold))]) (fun (_ : Unit) => []) (va_A [(h, .inr (8, [.ref b])), (b, .inl (cb, 9, .inl untold)), (h2, .inr (8, [.ref b2])), (b2, .inl (cb2, 9, .inl untold))] sz)) (va_A [(h, .inr (8, [.ref b])), (b, .inl (cb, 9, .inl untold)), (h2, .inr (8, [.ref b2])), (b2, .inl (cb2, 9, .inl untold))] sz)) 0 0 (va_A [(h, .inr (8, [.ref b])), (b, .inl (cb, 9, .inl untold)), (h2, .inr (8, [.ref b2])), (b2, .inl (cb2, 9, .inl untold))] sz) := by
  refine ofC_v (cc := cX8_takeOver) (maxL := 2) (ret := none) (by decide) rfl (Nat.le_of_ble_eq_true rfl) ?_
  intro p e s m args below meth c A ls Q F hr hin hlk St hl hQ
  have hx := F.1
  have hb := F.2.1
  have hl : lv_has ls 2 [(0, .ref h), (1, .ref h2)] := hl
  have St : cS G k [(h, .inr (8, [.ref b])), (b, .inl (cb, 9, .inl untold)), (h2, .inr (8, [.ref b2])), (b2, .inl (cb2, 9, .inl untold))] [(cb, .int), (cb2, .int)] A s s.heap [] := St
  refine lv_aload_n hx hb dX8_takeOver_0 rfl (lv_at hl 1 rfl) ?_
  refine cs_get F St 2 rfl rfl inX8 0 (by decide) kf_X8_11 rfl dX8_takeOver_1 ?_
  refine lv_iconst (v := 0) hx hb dX8_takeOver_4 (by decide) ?_
  refine lv_aload_n hx hb dX8_takeOver_5 rfl (lv_at hl 0 rfl) ?_
  refine cs_get F St 0 rfl rfl inX8 0 (by decide) kf_X8_11 rfl dX8_takeOver_6 ?_
  refine lv_iconst (v := 0) hx hb dX8_takeOver_9 (by decide) ?_
  refine lv_bipush (v := 9) hx hb dX8_takeOver_10 (by decide) ?_
  refine cs_cp F hl St 3 1 1 0 rfl rfl rfl rfl km_X8_18 (Nat.le_of_ble_eq_true rfl) (Nat.le_of_ble_eq_true rfl) (Nat.le_of_ble_eq_true rfl) (w' := [(h, .inr (8, [.ref b])), (b, .inl (cb, 9, .inl (va_cpy untold untold 0 0 9))), (h2, .inr (8, [.ref b2])), (b2, .inl (cb2, 9, .inl untold))]) rfl dX8_takeOver_12 (fun H locs St => ?_)
  rw [cpy_untold2] at St
  exact cs_vret F hr hlk hQ St () (by trivial) [0, 1, 2, 3] rfl (by decide) [] rfl (by decide) (by decide) dX8_takeOver_15
set_option maxHeartbeats 4000000 in
set_option maxRecDepth 100000 in
theorem c8_matchHundredths (l : Launch) (G : va_G) (k : Nat → Nat) (sz : Nat) (h : Nat) (b : Nat) (cb : ClassId) : Met l yX8_matchHundredths (Cond.code yX8_matchHundredths cX8_matchHundredths 1 (some .int) :: tb) ({ frames := 0, cells := 0, slots := 0, locals := 0 } : Room) (va_Pc [.ref h] (cP G k [(h, .inr (8, [.ref b])), (b, .inl (cb, 9, .inl untold))] [(cb, .int)] sz)) (va_Qi (fun (r : Int32) (_ : Unit) => (r = 0)) (cB G (fun (_ : Unit) => [(h, .inr (8, [.ref b])), (b, .inl (cb, 9, .inl untold))]) (fun (_ : Unit) => []) (va_A [(h, .inr (8, [.ref b])), (b, .inl (cb, 9, .inl untold))] sz)) (va_A [(h, .inr (8, [.ref b])), (b, .inl (cb, 9, .inl untold))] sz)) 0 0 (va_A [(h, .inr (8, [.ref b])), (b, .inl (cb, 9, .inl untold))] sz) := by
  refine ofC_i (cc := cX8_matchHundredths) (maxL := 1) (ret := (some .int)) (by decide) rfl (Nat.le_of_ble_eq_true rfl) ?_
  intro p e s m args below meth c A ls Q F hr hin hlk St hl hQ
  have hx := F.1
  have hb := F.2.1
  have hl : lv_has ls 1 [(0, .ref h)] := hl
  have St : cS G k [(h, .inr (8, [.ref b])), (b, .inl (cb, 9, .inl untold))] [(cb, .int)] A s s.heap [] := St
  refine lv_aload_n hx hb dX8_matchHundredths_0 rfl (lv_at hl 0 rfl) ?_
  refine cs_get F St 0 rfl rfl inX8 0 (by decide) kf_X8_11 rfl dX8_matchHundredths_1 ?_
  refine lv_iconst (v := 0) hx hb dX8_matchHundredths_4 (by decide) ?_
  refine cs_ild F St 1 0 rfl rfl (vp_in_iff.mpr (by decide)) dX8_matchHundredths_5 ?_
  refine top_i (y := 0) (by decide) ?_
  exact cs_iret F hr hlk hQ St () (r := 0) rfl [0, 1] rfl (by decide) [] rfl (by decide) (by decide) dX8_matchHundredths_6
set_option maxHeartbeats 4000000 in
set_option maxRecDepth 100000 in
theorem c8_matchCapPence (l : Launch) (G : va_G) (k : Nat → Nat) (sz : Nat) (h : Nat) (b : Nat) (cb : ClassId) : Met l yX8_matchCapPence (Cond.code yX8_matchCapPence cX8_matchCapPence 1 (some .int) :: tb) ({ frames := 0, cells := 0, slots := 0, locals := 0 } : Room) (va_Pc [.ref h] (cP G k [(h, .inr (8, [.ref b])), (b, .inl (cb, 9, .inl untold))] [(cb, .int)] sz)) (va_Qi (fun (r : Int32) (_ : Unit) => (r = 0)) (cB G (fun (_ : Unit) => [(h, .inr (8, [.ref b])), (b, .inl (cb, 9, .inl untold))]) (fun (_ : Unit) => []) (va_A [(h, .inr (8, [.ref b])), (b, .inl (cb, 9, .inl untold))] sz)) (va_A [(h, .inr (8, [.ref b])), (b, .inl (cb, 9, .inl untold))] sz)) 0 0 (va_A [(h, .inr (8, [.ref b])), (b, .inl (cb, 9, .inl untold))] sz) := by
  refine ofC_i (cc := cX8_matchCapPence) (maxL := 1) (ret := (some .int)) (by decide) rfl (Nat.le_of_ble_eq_true rfl) ?_
  intro p e s m args below meth c A ls Q F hr hin hlk St hl hQ
  have hx := F.1
  have hb := F.2.1
  have hl : lv_has ls 1 [(0, .ref h)] := hl
  have St : cS G k [(h, .inr (8, [.ref b])), (b, .inl (cb, 9, .inl untold))] [(cb, .int)] A s s.heap [] := St
  refine lv_aload_n hx hb dX8_matchCapPence_0 rfl (lv_at hl 0 rfl) ?_
  refine cs_get F St 0 rfl rfl inX8 0 (by decide) kf_X8_11 rfl dX8_matchCapPence_1 ?_
  refine lv_iconst (v := 1) hx hb dX8_matchCapPence_4 (by decide) ?_
  refine cs_ild F St 1 0 rfl rfl (vp_in_iff.mpr (by decide)) dX8_matchCapPence_5 ?_
  refine top_i (y := 0) (by decide) ?_
  refine lv_bipush (v := 100) hx hb dX8_matchCapPence_6 (by decide) ?_
  refine lv_imul hx hb dX8_matchCapPence_8 ?_
  refine top_i (y := 0) (by decide) ?_
  exact cs_iret F hr hlk hQ St () (r := 0) rfl [0, 1] rfl (by decide) [] rfl (by decide) (by decide) dX8_matchCapPence_9
set_option maxHeartbeats 4000000 in
set_option maxRecDepth 100000 in
theorem c8_matchTill (l : Launch) (G : va_G) (k : Nat → Nat) (sz : Nat) (h : Nat) (b : Nat) (cb : ClassId) : Met l yX8_matchTill (Cond.code yX8_matchTill cX8_matchTill 1 (some .int) :: tb) ({ frames := 0, cells := 0, slots := 0, locals := 0 } : Room) (va_Pc [.ref h] (cP G k [(h, .inr (8, [.ref b])), (b, .inl (cb, 9, .inl untold))] [(cb, .int)] sz)) (va_Qi (fun (r : Int32) (_ : Unit) => (r = 0)) (cB G (fun (_ : Unit) => [(h, .inr (8, [.ref b])), (b, .inl (cb, 9, .inl untold))]) (fun (_ : Unit) => []) (va_A [(h, .inr (8, [.ref b])), (b, .inl (cb, 9, .inl untold))] sz)) (va_A [(h, .inr (8, [.ref b])), (b, .inl (cb, 9, .inl untold))] sz)) 0 0 (va_A [(h, .inr (8, [.ref b])), (b, .inl (cb, 9, .inl untold))] sz) := by
  refine ofC_i (cc := cX8_matchTill) (maxL := 1) (ret := (some .int)) (by decide) rfl (Nat.le_of_ble_eq_true rfl) ?_
  intro p e s m args below meth c A ls Q F hr hin hlk St hl hQ
  have hx := F.1
  have hb := F.2.1
  have hl : lv_has ls 1 [(0, .ref h)] := hl
  have St : cS G k [(h, .inr (8, [.ref b])), (b, .inl (cb, 9, .inl untold))] [(cb, .int)] A s s.heap [] := St
  refine lv_aload_n hx hb dX8_matchTill_0 rfl (lv_at hl 0 rfl) ?_
  refine cs_get F St 0 rfl rfl inX8 0 (by decide) kf_X8_11 rfl dX8_matchTill_1 ?_
  refine lv_iconst (v := 2) hx hb dX8_matchTill_4 (by decide) ?_
  refine cs_ild F St 1 0 rfl rfl (vp_in_iff.mpr (by decide)) dX8_matchTill_5 ?_
  refine top_i (y := 0) (by decide) ?_
  exact cs_iret F hr hlk hQ St () (r := 0) rfl [0, 1] rfl (by decide) [] rfl (by decide) (by decide) dX8_matchTill_6
set_option maxHeartbeats 4000000 in
set_option maxRecDepth 100000 in
theorem c8_taxHundredths (l : Launch) (G : va_G) (k : Nat → Nat) (sz : Nat) (h : Nat) (b : Nat) (cb : ClassId) : Met l yX8_taxHundredths (Cond.code yX8_taxHundredths cX8_taxHundredths 1 (some .int) :: tb) ({ frames := 0, cells := 0, slots := 0, locals := 0 } : Room) (va_Pc [.ref h] (cP G k [(h, .inr (8, [.ref b])), (b, .inl (cb, 9, .inl untold))] [(cb, .int)] sz)) (va_Qi (fun (r : Int32) (_ : Unit) => (r = 0)) (cB G (fun (_ : Unit) => [(h, .inr (8, [.ref b])), (b, .inl (cb, 9, .inl untold))]) (fun (_ : Unit) => []) (va_A [(h, .inr (8, [.ref b])), (b, .inl (cb, 9, .inl untold))] sz)) (va_A [(h, .inr (8, [.ref b])), (b, .inl (cb, 9, .inl untold))] sz)) 0 0 (va_A [(h, .inr (8, [.ref b])), (b, .inl (cb, 9, .inl untold))] sz) := by
  refine ofC_i (cc := cX8_taxHundredths) (maxL := 1) (ret := (some .int)) (by decide) rfl (Nat.le_of_ble_eq_true rfl) ?_
  intro p e s m args below meth c A ls Q F hr hin hlk St hl hQ
  have hx := F.1
  have hb := F.2.1
  have hl : lv_has ls 1 [(0, .ref h)] := hl
  have St : cS G k [(h, .inr (8, [.ref b])), (b, .inl (cb, 9, .inl untold))] [(cb, .int)] A s s.heap [] := St
  refine lv_aload_n hx hb dX8_taxHundredths_0 rfl (lv_at hl 0 rfl) ?_
  refine cs_get F St 0 rfl rfl inX8 0 (by decide) kf_X8_11 rfl dX8_taxHundredths_1 ?_
  refine lv_iconst (v := 3) hx hb dX8_taxHundredths_4 (by decide) ?_
  refine cs_ild F St 1 0 rfl rfl (vp_in_iff.mpr (by decide)) dX8_taxHundredths_5 ?_
  refine top_i (y := 0) (by decide) ?_
  exact cs_iret F hr hlk hQ St () (r := 0) rfl [0, 1] rfl (by decide) [] rfl (by decide) (by decide) dX8_taxHundredths_6
set_option maxHeartbeats 4000000 in
set_option maxRecDepth 100000 in
theorem c8_lapseDues (l : Launch) (G : va_G) (k : Nat → Nat) (sz : Nat) (h : Nat) (b : Nat) (cb : ClassId) : Met l yX8_lapseDues (Cond.code yX8_lapseDues cX8_lapseDues 1 (some .int) :: tb) ({ frames := 0, cells := 0, slots := 0, locals := 0 } : Room) (va_Pc [.ref h] (cP G k [(h, .inr (8, [.ref b])), (b, .inl (cb, 9, .inl untold))] [(cb, .int)] sz)) (va_Qi (fun (r : Int32) (_ : Unit) => (r = 3)) (cB G (fun (_ : Unit) => [(h, .inr (8, [.ref b])), (b, .inl (cb, 9, .inl untold))]) (fun (_ : Unit) => []) (va_A [(h, .inr (8, [.ref b])), (b, .inl (cb, 9, .inl untold))] sz)) (va_A [(h, .inr (8, [.ref b])), (b, .inl (cb, 9, .inl untold))] sz)) 0 0 (va_A [(h, .inr (8, [.ref b])), (b, .inl (cb, 9, .inl untold))] sz) := by
  refine ofC_i (cc := cX8_lapseDues) (maxL := 1) (ret := (some .int)) (by decide) rfl (Nat.le_of_ble_eq_true rfl) ?_
  intro p e s m args below meth c A ls Q F hr hin hlk St hl hQ
  have hx := F.1
  have hb := F.2.1
  have hl : lv_has ls 1 [(0, .ref h)] := hl
  have St : cS G k [(h, .inr (8, [.ref b])), (b, .inl (cb, 9, .inl untold))] [(cb, .int)] A s s.heap [] := St
  refine lv_aload_n hx hb dX8_lapseDues_0 rfl (lv_at hl 0 rfl) ?_
  refine cs_get F St 0 rfl rfl inX8 0 (by decide) kf_X8_11 rfl dX8_lapseDues_1 ?_
  refine lv_iconst (v := 4) hx hb dX8_lapseDues_4 (by decide) ?_
  refine cs_ild F St 1 0 rfl rfl (vp_in_iff.mpr (by decide)) dX8_lapseDues_5 ?_
  refine top_i (y := 3) (by decide) ?_
  exact cs_iret F hr hlk hQ St () (r := 3) rfl [0, 1] rfl (by decide) [] rfl (by decide) (by decide) dX8_lapseDues_6
set_option maxHeartbeats 4000000 in
set_option maxRecDepth 100000 in
theorem c8_loanPence (l : Launch) (G : va_G) (k : Nat → Nat) (sz : Nat) (h : Nat) (b : Nat) (cb : ClassId) : Met l yX8_loanPence (Cond.code yX8_loanPence cX8_loanPence 1 (some .int) :: tb) ({ frames := 0, cells := 0, slots := 0, locals := 0 } : Room) (va_Pc [.ref h] (cP G k [(h, .inr (8, [.ref b])), (b, .inl (cb, 9, .inl untold))] [(cb, .int)] sz)) (va_Qi (fun (r : Int32) (_ : Unit) => (r = 0)) (cB G (fun (_ : Unit) => [(h, .inr (8, [.ref b])), (b, .inl (cb, 9, .inl untold))]) (fun (_ : Unit) => []) (va_A [(h, .inr (8, [.ref b])), (b, .inl (cb, 9, .inl untold))] sz)) (va_A [(h, .inr (8, [.ref b])), (b, .inl (cb, 9, .inl untold))] sz)) 0 0 (va_A [(h, .inr (8, [.ref b])), (b, .inl (cb, 9, .inl untold))] sz) := by
  refine ofC_i (cc := cX8_loanPence) (maxL := 1) (ret := (some .int)) (by decide) rfl (Nat.le_of_ble_eq_true rfl) ?_
  intro p e s m args below meth c A ls Q F hr hin hlk St hl hQ
  have hx := F.1
  have hb := F.2.1
  have hl : lv_has ls 1 [(0, .ref h)] := hl
  have St : cS G k [(h, .inr (8, [.ref b])), (b, .inl (cb, 9, .inl untold))] [(cb, .int)] A s s.heap [] := St
  refine lv_aload_n hx hb dX8_loanPence_0 rfl (lv_at hl 0 rfl) ?_
  refine cs_get F St 0 rfl rfl inX8 0 (by decide) kf_X8_11 rfl dX8_loanPence_1 ?_
  refine lv_iconst (v := 5) hx hb dX8_loanPence_4 (by decide) ?_
  refine cs_ild F St 1 0 rfl rfl (vp_in_iff.mpr (by decide)) dX8_loanPence_5 ?_
  refine top_i (y := 0) (by decide) ?_
  refine lv_bipush (v := 100) hx hb dX8_loanPence_6 (by decide) ?_
  refine lv_imul hx hb dX8_loanPence_8 ?_
  refine top_i (y := 0) (by decide) ?_
  exact cs_iret F hr hlk hQ St () (r := 0) rfl [0, 1] rfl (by decide) [] rfl (by decide) (by decide) dX8_loanPence_9
set_option maxHeartbeats 4000000 in
set_option maxRecDepth 100000 in
theorem c8_loanThousandths (l : Launch) (G : va_G) (k : Nat → Nat) (sz : Nat) (h : Nat) (b : Nat) (cb : ClassId) : Met l yX8_loanThousandths (Cond.code yX8_loanThousandths cX8_loanThousandths 1 (some .int) :: tb) ({ frames := 0, cells := 0, slots := 0, locals := 0 } : Room) (va_Pc [.ref h] (cP G k [(h, .inr (8, [.ref b])), (b, .inl (cb, 9, .inl untold))] [(cb, .int)] sz)) (va_Qi (fun (r : Int32) (_ : Unit) => (r = 0)) (cB G (fun (_ : Unit) => [(h, .inr (8, [.ref b])), (b, .inl (cb, 9, .inl untold))]) (fun (_ : Unit) => []) (va_A [(h, .inr (8, [.ref b])), (b, .inl (cb, 9, .inl untold))] sz)) (va_A [(h, .inr (8, [.ref b])), (b, .inl (cb, 9, .inl untold))] sz)) 0 0 (va_A [(h, .inr (8, [.ref b])), (b, .inl (cb, 9, .inl untold))] sz) := by
  refine ofC_i (cc := cX8_loanThousandths) (maxL := 1) (ret := (some .int)) (by decide) rfl (Nat.le_of_ble_eq_true rfl) ?_
  intro p e s m args below meth c A ls Q F hr hin hlk St hl hQ
  have hx := F.1
  have hb := F.2.1
  have hl : lv_has ls 1 [(0, .ref h)] := hl
  have St : cS G k [(h, .inr (8, [.ref b])), (b, .inl (cb, 9, .inl untold))] [(cb, .int)] A s s.heap [] := St
  refine lv_aload_n hx hb dX8_loanThousandths_0 rfl (lv_at hl 0 rfl) ?_
  refine cs_get F St 0 rfl rfl inX8 0 (by decide) kf_X8_11 rfl dX8_loanThousandths_1 ?_
  refine lv_bipush (v := 6) hx hb dX8_loanThousandths_4 (by decide) ?_
  refine cs_ild F St 1 0 rfl rfl (vp_in_iff.mpr (by decide)) dX8_loanThousandths_6 ?_
  refine top_i (y := 0) (by decide) ?_
  exact cs_iret F hr hlk hQ St () (r := 0) rfl [0, 1] rfl (by decide) [] rfl (by decide) (by decide) dX8_loanThousandths_7
set_option maxHeartbeats 4000000 in
set_option maxRecDepth 100000 in
theorem c8_stonePence (l : Launch) (G : va_G) (k : Nat → Nat) (sz : Nat) (h : Nat) (b : Nat) (cb : ClassId) : Met l yX8_stonePence (Cond.code yX8_stonePence cX8_stonePence 1 (some .int) :: tb) ({ frames := 0, cells := 0, slots := 0, locals := 0 } : Room) (va_Pc [.ref h] (cP G k [(h, .inr (8, [.ref b])), (b, .inl (cb, 9, .inl untold))] [(cb, .int)] sz)) (va_Qi (fun (r : Int32) (_ : Unit) => (r = 100000)) (cB G (fun (_ : Unit) => [(h, .inr (8, [.ref b])), (b, .inl (cb, 9, .inl untold))]) (fun (_ : Unit) => []) (va_A [(h, .inr (8, [.ref b])), (b, .inl (cb, 9, .inl untold))] sz)) (va_A [(h, .inr (8, [.ref b])), (b, .inl (cb, 9, .inl untold))] sz)) 0 0 (va_A [(h, .inr (8, [.ref b])), (b, .inl (cb, 9, .inl untold))] sz) := by
  refine ofC_i (cc := cX8_stonePence) (maxL := 1) (ret := (some .int)) (by decide) rfl (Nat.le_of_ble_eq_true rfl) ?_
  intro p e s m args below meth c A ls Q F hr hin hlk St hl hQ
  have hx := F.1
  have hb := F.2.1
  have hl : lv_has ls 1 [(0, .ref h)] := hl
  have St : cS G k [(h, .inr (8, [.ref b])), (b, .inl (cb, 9, .inl untold))] [(cb, .int)] A s s.heap [] := St
  refine lv_aload_n hx hb dX8_stonePence_0 rfl (lv_at hl 0 rfl) ?_
  refine cs_get F St 0 rfl rfl inX8 0 (by decide) kf_X8_11 rfl dX8_stonePence_1 ?_
  refine lv_bipush (v := 7) hx hb dX8_stonePence_4 (by decide) ?_
  refine cs_ild F St 1 0 rfl rfl (vp_in_iff.mpr (by decide)) dX8_stonePence_6 ?_
  refine top_i (y := 1000) (by decide) ?_
  refine lv_bipush (v := 100) hx hb dX8_stonePence_7 (by decide) ?_
  refine lv_imul hx hb dX8_stonePence_9 ?_
  refine top_i (y := 100000) (by decide) ?_
  exact cs_iret F hr hlk hQ St () (r := 100000) rfl [0, 1] rfl (by decide) [] rfl (by decide) (by decide) dX8_stonePence_10
set_option maxHeartbeats 4000000 in
set_option maxRecDepth 100000 in
theorem c8_givesAllBack (l : Launch) (G : va_G) (k : Nat → Nat) (sz : Nat) (h : Nat) (b : Nat) (cb : ClassId) : Met l yX8_givesAllBack (Cond.code yX8_givesAllBack cX8_givesAllBack 1 (some .boolean) :: tb) ({ frames := 0, cells := 0, slots := 0, locals := 0 } : Room) (va_Pc [.ref h] (cP G k [(h, .inr (8, [.ref b])), (b, .inl (cb, 9, .inl untold))] [(cb, .int)] sz)) (va_Qi (fun (r : Int32) (_ : Unit) => (r = 0)) (cB G (fun (_ : Unit) => [(h, .inr (8, [.ref b])), (b, .inl (cb, 9, .inl untold))]) (fun (_ : Unit) => []) (va_A [(h, .inr (8, [.ref b])), (b, .inl (cb, 9, .inl untold))] sz)) (va_A [(h, .inr (8, [.ref b])), (b, .inl (cb, 9, .inl untold))] sz)) 0 0 (va_A [(h, .inr (8, [.ref b])), (b, .inl (cb, 9, .inl untold))] sz) := by
  refine ofC_i (cc := cX8_givesAllBack) (maxL := 1) (ret := (some .boolean)) (by decide) rfl (Nat.le_of_ble_eq_true rfl) ?_
  intro p e s m args below meth c A ls Q F hr hin hlk St hl hQ
  have hx := F.1
  have hb := F.2.1
  have hl : lv_has ls 1 [(0, .ref h)] := hl
  have St : cS G k [(h, .inr (8, [.ref b])), (b, .inl (cb, 9, .inl untold))] [(cb, .int)] A s s.heap [] := St
  refine lv_aload_n hx hb dX8_givesAllBack_0 rfl (lv_at hl 0 rfl) ?_
  refine cs_get F St 0 rfl rfl inX8 0 (by decide) kf_X8_11 rfl dX8_givesAllBack_1 ?_
  refine lv_bipush (v := 8) hx hb dX8_givesAllBack_4 (by decide) ?_
  refine cs_ild F St 1 0 rfl rfl (vp_in_iff.mpr (by decide)) dX8_givesAllBack_6 ?_
  refine top_i (y := 0) (by decide) ?_
  refine lv_iconst (v := 1) hx hb dX8_givesAllBack_7 (by decide) ?_
  refine lv_icmp_ne (tgt := 15) hx hb dX8_givesAllBack_8 (by decide) (fun c8 => ?_) (fun c8 => ?_)
  rotate_left
  · exact absurd c8 (by decide)
  refine lv_iconst (v := 0) hx hb dX8_givesAllBack_15 (by decide) ?_
  exact cs_zret F hr hlk hQ St () (r := 0) rfl rfl [0, 1] rfl (by decide) [] rfl (by decide) (by decide) dX8_givesAllBack_16
set_option maxHeartbeats 4000000 in
set_option maxRecDepth 100000 in
theorem c8_at (l : Launch) (G : va_G) (k : Nat → Nat) (sz : Nat) (h : Nat) (b : Nat) (cb : ClassId) (x : Int32) (h0 : 0 ≤ x.toInt) (h1 : x.toInt < 9) : Met l yX8_at (Cond.code yX8_at cX8_at 2 (some .int) :: tb) ({ frames := 0, cells := 0, slots := 0, locals := 0 } : Room) (va_Pc [.ref h, .int x] (cP G k [(h, .inr (8, [.ref b])), (b, .inl (cb, 9, .inl untold))] [(cb, .int)] sz)) (va_Qi (fun (r : Int32) (_ : Unit) => (r = untold (x : Int32).toNatClampNeg)) (cB G (fun (_ : Unit) => [(h, .inr (8, [.ref b])), (b, .inl (cb, 9, .inl untold))]) (fun (_ : Unit) => []) (va_A [(h, .inr (8, [.ref b])), (b, .inl (cb, 9, .inl untold))] sz)) (va_A [(h, .inr (8, [.ref b])), (b, .inl (cb, 9, .inl untold))] sz)) 0 0 (va_A [(h, .inr (8, [.ref b])), (b, .inl (cb, 9, .inl untold))] sz) := by
  refine ofC_i (cc := cX8_at) (maxL := 2) (ret := (some .int)) (by decide) rfl (Nat.le_of_ble_eq_true rfl) ?_
  intro p e s m args below meth c A ls Q F hr hin hlk St hl hQ
  have hx := F.1
  have hb := F.2.1
  have hl : lv_has ls 2 [(0, .ref h), (1, .int x)] := hl
  have St : cS G k [(h, .inr (8, [.ref b])), (b, .inl (cb, 9, .inl untold))] [(cb, .int)] A s s.heap [] := St
  refine lv_iload_n hx hb dX8_at_0 rfl (lv_at hl 1 rfl) ?_
  refine lv_if_lt (tgt := 19) hx hb dX8_at_1 (by decide) (fun c1 => ?_) (fun c1 => ?_)
  · have i1 := ci_lt (x := x) (y := 0) rfl (show (0 : Int32).toInt = 0 by decide) c1; exact False.elim (by omega)
  have i1 := ci_nlt (x := x) (y := 0) rfl (show (0 : Int32).toInt = 0 by decide) c1
  refine lv_iload_n hx hb dX8_at_4 rfl (lv_at hl 1 rfl) ?_
  refine lv_bipush (v := 9) hx hb dX8_at_5 (by decide) ?_
  refine lv_icmp_ge (tgt := 19) hx hb dX8_at_7 (by decide) (fun c7 => ?_) (fun c7 => ?_)
  · have i7 := ci_le (x := 9) (y := x) (show (9 : Int32).toInt = 9 by decide) rfl c7; exact False.elim (by omega)
  have i7 := ci_nle (x := 9) (y := x) (show (9 : Int32).toInt = 9 by decide) rfl c7
  refine lv_aload_n hx hb dX8_at_10 rfl (lv_at hl 0 rfl) ?_
  refine cs_get F St 0 rfl rfl inX8 0 (by decide) kf_X8_11 rfl dX8_at_11 ?_
  refine lv_iload_n hx hb dX8_at_14 rfl (lv_at hl 1 rfl) ?_
  refine cs_ild F St 1 0 rfl rfl (vp_in_iff.mpr ⟨by omega, by omega⟩) dX8_at_15 ?_
  refine lv_topi (fun y_1 ey_1 => ?_)
  refine lv_goto (tgt := 20) hx hb dX8_at_16 (by decide) ?_
  exact cs_iret F hr hlk hQ St () (r := y_1) ey_1 [0, 1] rfl (by decide) [] rfl (by decide) (by decide) dX8_at_20
