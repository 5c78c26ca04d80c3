set_option maxHeartbeats 4000000 in
set_option maxRecDepth 100000 in
/-- TrustReader() -/
theorem c9_init (l : Launch) (G : va_G) (k : Nat → Nat) (sz : Nat) (h : Nat) : Met l yX9_init (Cond.code yX9_init cX9_init 1 none :: tb) ({ frames := 2, cells := 3, slots := 16, locals := 80 } : Room) (va_Pc [.ref h] (cP G k [(h, .inr (9, [.null, .null, .int 0, .int 0, .int 0, .int 0, .int 0, .int 0]))] [] sz)) (va_Qv (fun (u : Nat × Nat × ClassId × Nat × ClassId) => match u with | (d, dr, cd, t, ct) => True) (cB G (fun u => match u with | (d, dr, cd, t, ct) => [(h, .inr (9, [.ref d, .ref t, .int 0, .int 0, .int 0, .int 0, .int 0, .int (-1)])), (d, .inr (8, [.ref dr])), (dr, .inl (cd, 9, .inl untold)), (t, .inl (ct, 6, .inl (fun _ => 0)))]) (fun u => match u with | (d, dr, cd, t, ct) => [(cd, .int), (ct, .boolean)]) (va_A [(h, .inr (9, [.null, .null, .int 0, .int 0, .int 0, .int 0, .int 0, .int 0]))] sz)) (va_A [(h, .inr (9, [.null, .null, .int 0, .int 0, .int 0, .int 0, .int 0, .int 0]))] sz)) 3 16 (va_A [(h, .inr (9, [.null, .null, .int 0, .int 0, .int 0, .int 0, .int 0, .int 0]))] sz) := by
  refine ofC_v (cc := cX9_init) (maxL := 1) (ret := none) (by decide) rfl (Nat.le_of_ble_eq_true rfl) ?_
  intro p e s m args below meth c A ls Q F hr hin hlk St hl hQ
  have hx := F.1
  have hb := F.2.1
  have hl : lv_has ls 1 [(0, .ref h)] := hl
  have St : cS G k [(h, .inr (9, [.null, .null, .int 0, .int 0, .int 0, .int 0, .int 0, .int 0]))] [] A s s.heap [] := St
  refine lv_aload_n hx hb dX9_init_0 rfl (lv_at hl 0 rfl) ?_
  refine W.objInit hx hb F.2.2.2.1 (F.2.2.2.2 _ km_X9_3) (F.2.2.2.2 _ kj_objectInit) (F.2.2.2.2 _ kd_objectInit) rfl (by rw [F.2.2.1]; exact hl.1) rfl dX9_init_1 (Nat.le_of_ble_eq_true rfl) (Nat.le_of_ble_eq_true rfl) ?_
  refine W.eq (g2 := F0 m 4 ls []) rfl ?_
  refine lv_aload_n hx hb dX9_init_4 rfl (lv_at hl 0 rfl) ?_
  refine cs_new F St (ci := 8) rfl inX8 tyX8_ok kc_X9_9 kn_X8 ki_X8 (fs := [.null]) (by decide +kernel) (Nat.le_of_ble_eq_true rfl) (Nat.le_of_ble_eq_true rfl) dX9_init_5 (fun q_1 H St => ?_)
  refine W.widen (k := 1) (n := 1) (by decide) (by decide) ?_
  have St : cS G k [(h, .inr (9, [.null, .null, .int 0, .int 0, .int 0, .int 0, .int 0, .int 0])), (q_1, .inr (8, [.null]))] [] A s H _ := St
  refine lv_dup hx hb dX9_init_8 rfl ?_
  refine cs_v St [1] [0] (wc := [(q_1, .inr (8, [.null]))]) (wr := [(h, .inr (9, [.null, .null, .int 0, .int 0, .int 0, .int 0, .int 0, .int 0]))]) rfl rfl (by decide) (by decide) (va_runI (As := []) (rest := [.ref q_1, .ref h]) F (c8_init l G k _ q_1) (cwIt F mf_X8_init km_X9_11 rfl rfl ⟨Nat.le_of_ble_eq_true rfl, Nat.le_of_ble_eq_true rfl⟩) (cs_pre St [1] rfl (by decide) [] rfl) rfl rfl hl.1 rfl (lv_room (Nat.le_of_ble_eq_true rfl)) dX9_init_9 ⟨Nat.le_of_ble_eq_true rfl, Nat.le_of_ble_eq_true rfl⟩) (fun u_3 H locs hw St => ?_)
  obtain ⟨b_4, cb_5⟩ := u_3
  try dsimp only at hw
  refine W.widen (k := 2) (n := 10) (by decide) (by decide) ?_
  have St : cS G k [(h, .inr (9, [.null, .null, .int 0, .int 0, .int 0, .int 0, .int 0, .int 0])), (q_1, .inr (8, [.ref b_4])), (b_4, .inl (cb_5, 9, .inl untold))] [(cb_5, .int)] A s H locs := St
  refine cs_putF F hin St 0 rfl rfl inX9 tyX9_ok nmX9 0 (by decide) kf_X9_12 rfl rfl rfl rfl (Nat.le_of_ble_eq_true rfl) (w' := [(h, .inr (9, [.ref q_1, .null, .int 0, .int 0, .int 0, .int 0, .int 0, .int 0])), (q_1, .inr (8, [.ref b_4])), (b_4, .inl (cb_5, 9, .inl untold))]) rfl dX9_init_12 (fun H locs St => ?_)
  refine lv_aload_n hx hb dX9_init_15 rfl (lv_at hl 0 rfl) ?_
  refine lv_bipush (v := 6) hx hb dX9_init_16 (by decide) ?_
  refine cs_newa F St (atype := .boolean) ka_boolean rfl (N' := 6) (a0 := (6, .inl (fun _ => 0))) (fun _ => rfl) (by decide) (by decide) (by decide) (Nat.le_of_ble_eq_true rfl) (Nat.le_of_ble_eq_true rfl) dX9_init_18 (fun q_6 d_7 H St => ?_)
  refine W.widen (k := 3) (n := 16) (by decide) (by decide) ?_
  have St : cS G k [(h, .inr (9, [.ref q_1, .null, .int 0, .int 0, .int 0, .int 0, .int 0, .int 0])), (q_1, .inr (8, [.ref b_4])), (b_4, .inl (cb_5, 9, .inl untold)), (q_6, .inl (d_7, 6, .inl (fun _ => 0)))] [(cb_5, .int), (d_7, .boolean)] A s H _ := St
  refine cs_putF F hin St 0 rfl rfl inX9 tyX9_ok nmX9 1 (by decide) kf_X9_18 rfl rfl rfl rfl (Nat.le_of_ble_eq_true rfl) (w' := [(h, .inr (9, [.ref q_1, .ref q_6, .int 0, .int 0, .int 0, .int 0, .int 0, .int 0])), (q_1, .inr (8, [.ref b_4])), (b_4, .inl (cb_5, 9, .inl untold)), (q_6, .inl (d_7, 6, .inl (fun _ => 0)))]) rfl dX9_init_20 (fun H locs St => ?_)
  refine lv_aload_n hx hb dX9_init_23 rfl (lv_at hl 0 rfl) ?_
  refine lv_iconst (v := (-1)) hx hb dX9_init_24 (by decide) ?_
  refine cs_put F St 0 rfl rfl inX9 tyX9_ok nmX9 7 (by decide) kf_X9_22 rfl rfl rfl (Nat.le_of_ble_eq_true rfl) (w' := [(h, .inr (9, [.ref q_1, .ref q_6, .int 0, .int 0, .int 0, .int 0, .int 0, .int (-1)])), (q_1, .inr (8, [.ref b_4])), (b_4, .inl (cb_5, 9, .inl untold)), (q_6, .inl (d_7, 6, .inl (fun _ => 0)))]) rfl dX9_init_25 (fun H locs St => ?_)
  exact cs_vret F hr hlk hQ St (q_1, b_4, cb_5, q_6, d_7) (by trivial) [0, 1, 2, 3] rfl (by decide) [0, 1] rfl (by decide) (by decide) dX9_init_28
set_option maxHeartbeats 4000000 in
set_option maxRecDepth 100000 in
theorem c9_startAnew (l : Launch) (G : va_G) (k : Nat → Nat) (sz : Nat) (h : Nat) (d : Nat) (dr : Nat) (t : Nat) (cd : ClassId) (ct : ClassId) (ft : Nat → Int32) : Met l yX9_startAnew (Cond.code yX9_startAnew cX9_startAnew 2 none :: tb) ({ frames := 2, cells := 0, slots := 0, locals := 80 } : Room) (va_Pc [.ref h] (cP G k [(h, .inr (9, [.ref d, .ref t, .int 0, .int 0, .int 0, .int 0, .int 0, .int (-1)])), (d, .inr (8, [.ref dr])), (dr, .inl (cd, 9, .inl untold)), (t, .inl (ct, 6, .inl ft))] [(cd, .int), (ct, .boolean)] sz)) (va_Qv (fun (f2 : (Nat → Int32)) => True) (cB G (fun (f2 : (Nat → Int32)) => [(h, .inr (9, [.ref d, .ref t, .int 0, .int 0, .int 0, .int 0, .int 0, .int (-1)])), (d, .inr (8, [.ref dr])), (dr, .inl (cd, 9, .inl untold)), (t, .inl (ct, 6, .inl f2))]) (fun (f2 : (Nat → Int32)) => []) (va_A [(h, .inr (9, [.ref d, .ref t, .int 0, .int 0, .int 0, .int 0, .int 0, .int (-1)])), (d, .inr (8, [.ref dr])), (dr, .inl (cd, 9, .inl untold)), (t, .inl (ct, 6, .inl ft))] sz)) (va_A [(h, .inr (9, [.ref d, .ref t, .int 0, .int 0, .int 0, .int 0, .int 0, .int (-1)])), (d, .inr (8, [.ref dr])), (dr, .inl (cd, 9, .inl untold)), (t, .inl (ct, 6, .inl ft))] sz)) 0 0 (va_A [(h, .inr (9, [.ref d, .ref t, .int 0, .int 0, .int 0, .int 0, .int 0, .int (-1)])), (d, .inr (8, [.ref dr])), (dr, .inl (cd, 9, .inl untold)), (t, .inl (ct, 6, .inl ft))] sz) := by
  refine ofC_v (cc := cX9_startAnew) (maxL := 2) (ret := none) (by decide) rfl (Nat.le_of_ble_eq_true rfl) ?_
  intro p e s m args below meth c A ls Q F hr hin hlk St hl hQ
  have hx := F.1
  have hb := F.2.1
  have hl : lv_has ls 2 [(0, .ref h)] := hl
  have St : cS G k [(h, .inr (9, [.ref d, .ref t, .int 0, .int 0, .int 0, .int 0, .int 0, .int (-1)])), (d, .inr (8, [.ref dr])), (dr, .inl (cd, 9, .inl untold)), (t, .inl (ct, 6, .inl ft))] [(cd, .int), (ct, .boolean)] A s s.heap [] := St
  refine lv_aload_n hx hb dX9_startAnew_0 rfl (lv_at hl 0 rfl) ?_
  refine cs_get F St 0 rfl rfl inX9 0 (by decide) kf_X9_12 rfl dX9_startAnew_1 ?_
  refine cs_v St [1, 2] [0, 3] (wc := [(d, .inr (8, [.ref dr])), (dr, .inl (cd, 9, .inl untold))]) (wr := [(h, .inr (9, [.ref d, .ref t, .int 0, .int 0, .int 0, .int 0, .int 0, .int (-1)])), (t, .inl (ct, 6, .inl ft))]) rfl rfl (by decide) (by decide) (va_runV (As := []) (rest := []) F (c8_forget l G k _ d dr cd) (cwVt F mf_X8_forget km_X9_42 rfl rfl ⟨Nat.le_of_ble_eq_true rfl, Nat.le_of_ble_eq_true rfl⟩) (cs_preV St [1, 2] rfl (by decide) [0] rfl (ci := 8) (q0 := 1) rfl rfl) rfl rfl hl.1 rfl (lv_room (Nat.le_of_ble_eq_true rfl)) dX9_startAnew_4 ⟨Nat.le_of_ble_eq_true rfl, Nat.le_of_ble_eq_true rfl⟩) (fun u_2 H locs hw St => ?_)
  try dsimp only at hw
  have St : cS G k [(h, .inr (9, [.ref d, .ref t, .int 0, .int 0, .int 0, .int 0, .int 0, .int (-1)])), (t, .inl (ct, 6, .inl ft)), (d, .inr (8, [.ref dr])), (dr, .inl (cd, 9, .inl untold))] [(cd, .int), (ct, .boolean)] A s H locs := St
  refine lv_iconst (v := 0) hx hb dX9_startAnew_7 (by decide) ?_
  refine lv_istore_n (lv' := [(1, .int 0), (0, .ref h)]) hx hb dX9_startAnew_8 rfl hl (by decide) rfl (fun ls hl => ?_)
  have lp9 : ∀ (n : Nat) (i : Int32) (f9 : Nat → Int32) (H : Heap) (locs : List Loc) (ls : Array Slot), (0 ≤ i.toInt ∧ i.toInt ≤ 6) → ((6 - i.toInt).toNat) < n → cS G k [(h, .inr (9, [.ref d, .ref t, .int 0, .int 0, .int 0, .int 0, .int 0, .int (-1)])), (t, .inl (ct, 6, .inl f9)), (d, .inr (8, [.ref dr])), (dr, .inl (cd, 9, .inl untold))] [(cd, .int), (ct, .boolean)] A s H locs → lv_has ls 2 [(1, .int i), (0, .ref h)] → W p l e ({ frames := 2, cells := 0, slots := 0, locals := 80 } : Room) s m args below meth c H locs 0 0 Q (F0 m 9 ls []) := by
    intro n
    induction n with
    | zero => intro i f9 H locs ls hI hn; exact absurd hn (Nat.not_lt_zero _)
    | succ n ih =>
      intro i f9 H locs ls hI hn St hl
      obtain ⟨hI0, hI1⟩ := hI
      refine lv_iload_n hx hb dX9_startAnew_9 rfl (lv_at hl 0 rfl) ?_
      refine lv_bipush (v := 6) hx hb dX9_startAnew_10 (by decide) ?_
      refine lv_icmp_ge (tgt := 28) hx hb dX9_startAnew_12 (by decide) (fun c12 => ?_) (fun c12 => ?_)
      ·
        have i12 := ci_le (x := 6) (y := i) (show (6 : Int32).toInt = 6 by decide) rfl c12
        refine lv_aload_n hx hb dX9_startAnew_28 rfl (lv_at hl 1 rfl) ?_
        refine lv_iconst (v := 0) hx hb dX9_startAnew_29 (by decide) ?_
        refine cs_put F St 0 rfl rfl inX9 tyX9_ok nmX9 2 (by decide) kf_X9_45 rfl rfl rfl (Nat.le_of_ble_eq_true rfl) (w' := [(h, .inr (9, [.ref d, .ref t, .int 0, .int 0, .int 0, .int 0, .int 0, .int (-1)])), (t, .inl (ct, 6, .inl f9)), (d, .inr (8, [.ref dr])), (dr, .inl (cd, 9, .inl untold))]) rfl dX9_startAnew_30 (fun H locs St => ?_)
        refine lv_aload_n hx hb dX9_startAnew_33 rfl (lv_at hl 1 rfl) ?_
        refine lv_iconst (v := 0) hx hb dX9_startAnew_34 (by decide) ?_
        refine cs_put F St 0 rfl rfl inX9 tyX9_ok nmX9 6 (by decide) kf_X9_26 rfl rfl rfl (Nat.le_of_ble_eq_true rfl) (w' := [(h, .inr (9, [.ref d, .ref t, .int 0, .int 0, .int 0, .int 0, .int 0, .int (-1)])), (t, .inl (ct, 6, .inl f9)), (d, .inr (8, [.ref dr])), (dr, .inl (cd, 9, .inl untold))]) rfl dX9_startAnew_35 (fun H locs St => ?_)
        refine lv_aload_n hx hb dX9_startAnew_38 rfl (lv_at hl 1 rfl) ?_
        refine lv_iconst (v := (-1)) hx hb dX9_startAnew_39 (by decide) ?_
        refine cs_put F St 0 rfl rfl inX9 tyX9_ok nmX9 7 (by decide) kf_X9_22 rfl rfl rfl (Nat.le_of_ble_eq_true rfl) (w' := [(h, .inr (9, [.ref d, .ref t, .int 0, .int 0, .int 0, .int 0, .int 0, .int (-1)])), (t, .inl (ct, 6, .inl f9)), (d, .inr (8, [.ref dr])), (dr, .inl (cd, 9, .inl untold))]) rfl dX9_startAnew_40 (fun H locs St => ?_)
        exact cs_vret F hr hlk hQ St f9 (by trivial) [0, 2, 3, 1] rfl (by decide) [] rfl (by decide) (by decide) dX9_startAnew_43
      ·
        have i12 := ci_nle (x := 6) (y := i) (show (6 : Int32).toInt = 6 by decide) rfl c12
        refine lv_aload_n hx hb dX9_startAnew_15 rfl (lv_at hl 1 rfl) ?_
        refine cs_get F St 0 rfl rfl inX9 1 (by decide) kf_X9_18 rfl dX9_startAnew_16 ?_
        refine lv_iload_n hx hb dX9_startAnew_19 rfl (lv_at hl 0 rfl) ?_
        refine lv_iconst (v := 0) hx hb dX9_startAnew_20 (by decide) ?_
        refine cs_zst F St 1 1 rfl rfl (vp_in_iff.mpr ⟨by omega, by omega⟩) (w' := [(h, .inr (9, [.ref d, .ref t, .int 0, .int 0, .int 0, .int 0, .int 0, .int (-1)])), (t, .inl (ct, 6, .inl (upd f9 (i : Int32).toNatClampNeg (vp_nar .boolean 0)))), (d, .inr (8, [.ref dr])), (dr, .inl (cd, 9, .inl untold))]) rfl dX9_startAnew_21 (fun H locs St => ?_)
        obtain ⟨f_3, ef_3⟩ : ∃ zz : Nat → Int32, zz = upd f9 (i : Int32).toNatClampNeg (vp_nar .boolean 0) := ⟨_, rfl⟩
        rw [← ef_3] at St
        obtain ⟨y_4, ey_4⟩ : ∃ zz : Int32, zz = i + 1 := ⟨_, rfl⟩
        have jy_4 := ci_add (x := i) rfl (show (1 : Int32).toInt = 1 by decide) ey_4
        refine lv_iinc (v := y_4) (lv' := [(1, .int y_4), (0, .ref h)]) hx hb dX9_startAnew_22 hl (k := 0) rfl (by rw [ey_4]; rfl) (by decide) rfl (fun ls hl => ?_)
        refine lv_goto (tgt := 9) hx hb dX9_startAnew_25 (by decide) ?_
        exact ih y_4 f_3 _ _ _ ⟨by omega, by omega⟩ (by omega) St (lv_sub hl [0, 1] rfl)
  exact lp9 7 0 ft _ _ _ ⟨by decide, by decide⟩ (by decide) St (lv_sub hl [0, 1] rfl)
set_option maxHeartbeats 4000000 in
set_option maxRecDepth 100000 in
/-- readToken of an empty tape: the end -/
theorem c9_readToken0 (l : Launch) (G : va_G) (k : Nat → Nat) (sz : Nat) (h : Nat) (d : Nat) (t : Nat) (h2 : Nat) (b2 : Nat) : Met l yX9_readToken (Cond.code yX9_readToken cX9_readToken 3 none :: tb) ({ frames := 1, cells := 0, slots := 0, locals := 21 } : Room) (va_Pc [.ref h, .ref h2] (cP G k [(h, .inr (9, [.ref d, .ref t, .int 0, .int 0, .int 0, .int 0, .int 0, .int (-1)])), (h2, .inr (6, [.ref b2, .int 0]))] [] sz)) (va_Qv (fun (_ : Unit) => True) (cB G (fun (_ : Unit) => [(h, .inr (9, [.ref d, .ref t, .int 0, .int 0, .int 0, .int 0, .int 0, .int (-1)])), (h2, .inr (6, [.ref b2, .int 0]))]) (fun (_ : Unit) => []) (va_A [(h, .inr (9, [.ref d, .ref t, .int 0, .int 0, .int 0, .int 0, .int 0, .int (-1)])), (h2, .inr (6, [.ref b2, .int 0]))] sz)) (va_A [(h, .inr (9, [.ref d, .ref t, .int 0, .int 0, .int 0, .int 0, .int 0, .int (-1)])), (h2, .inr (6, [.ref b2, .int 0]))] sz)) 0 0 (va_A [(h, .inr (9, [.ref d, .ref t, .int 0, .int 0, .int 0, .int 0, .int 0, .int (-1)])), (h2, .inr (6, [.ref b2, .int 0]))] sz) := by
  refine ofC_v (cc := cX9_readToken) (maxL := 3) (ret := none) (by decide) rfl (Nat.le_of_ble_eq_true rfl) ?_
  intro p e s m args below meth c A ls Q F hr hin hlk St hl hQ
  have hx := F.1
  have hb := F.2.1
  have hl : lv_has ls 3 [(0, .ref h), (1, .ref h2)] := hl
  have St : cS G k [(h, .inr (9, [.ref d, .ref t, .int 0, .int 0, .int 0, .int 0, .int 0, .int (-1)])), (h2, .inr (6, [.ref b2, .int 0]))] [] A s s.heap [] := St
  refine lv_aload_n hx hb dX9_readToken_0 rfl (lv_at hl 0 rfl) ?_
  refine cs_get F St 0 rfl rfl inX9 2 (by decide) kf_X9_45 rfl dX9_readToken_1 ?_
  refine lv_aload_n hx hb dX9_readToken_4 rfl (lv_at hl 1 rfl) ?_
  refine cs_i St [1] [0] (wc := [(h2, .inr (6, [.ref b2, .int 0]))]) (wr := [(h, .inr (9, [.ref d, .ref t, .int 0, .int 0, .int 0, .int 0, .int 0, .int (-1)]))]) rfl rfl (by decide) (by decide) (va_runV (As := []) (rest := [.int 0]) F (c6_length l G k _ h2 b2 0) (cwVt F mf_X6_length km_X9_126 rfl rfl ⟨Nat.le_of_ble_eq_true rfl, Nat.le_of_ble_eq_true rfl⟩) (cs_preV St [1] rfl (by decide) [] rfl (ci := 6) (q0 := 1) rfl rfl) rfl rfl hl.1 rfl (lv_room (Nat.le_of_ble_eq_true rfl)) dX9_readToken_5 ⟨Nat.le_of_ble_eq_true rfl, Nat.le_of_ble_eq_true rfl⟩) (fun r_1 u_2 H locs hw St => ?_)
  try dsimp only at hw
  have z_3 := hw
  subst r_1
  have St : cS G k [(h, .inr (9, [.ref d, .ref t, .int 0, .int 0, .int 0, .int 0, .int 0, .int (-1)])), (h2, .inr (6, [.ref b2, .int 0]))] [] A s H locs := St
  refine lv_icmp_ge (tgt := 38) hx hb dX9_readToken_8 (by decide) (fun c8 => ?_) (fun c8 => ?_)
  rotate_left
  · exact absurd (by decide) c8
  refine lv_aload_n hx hb dX9_readToken_38 rfl (lv_at hl 0 rfl) ?_
  refine lv_aload_n hx hb dX9_readToken_39 rfl (lv_at hl 0 rfl) ?_
  refine cs_get F St 0 rfl rfl inX9 2 (by decide) kf_X9_45 rfl dX9_readToken_40 ?_
  refine cs_put F St 0 rfl rfl inX9 tyX9_ok nmX9 4 (by decide) kf_X9_48 rfl rfl rfl (Nat.le_of_ble_eq_true rfl) (w' := [(h, .inr (9, [.ref d, .ref t, .int 0, .int 0, .int 0, .int 0, .int 0, .int (-1)])), (h2, .inr (6, [.ref b2, .int 0]))]) rfl dX9_readToken_43 (fun H locs St => ?_)
  refine lv_aload_n hx hb dX9_readToken_46 rfl (lv_at hl 1 rfl) ?_
  refine lv_aload_n hx hb dX9_readToken_47 rfl (lv_at hl 0 rfl) ?_
  refine cs_get F St 0 rfl rfl inX9 2 (by decide) kf_X9_45 rfl dX9_readToken_48 ?_
  refine cs_i St [1] [0] (wc := [(h2, .inr (6, [.ref b2, .int 0]))]) (wr := [(h, .inr (9, [.ref d, .ref t, .int 0, .int 0, .int 0, .int 0, .int 0, .int (-1)]))]) rfl rfl (by decide) (by decide) (va_runV (As := [.int 0]) (rest := []) F (c6_at0 l G k _ h2 b2 0) (cwVt F mf_X6_at km_X9_116 rfl rfl ⟨Nat.le_of_ble_eq_true rfl, Nat.le_of_ble_eq_true rfl⟩) (cs_preV St [1] rfl (by decide) [] rfl (ci := 6) (q0 := 1) rfl rfl) rfl rfl hl.1 rfl (lv_room (Nat.le_of_ble_eq_true rfl)) dX9_readToken_51 ⟨Nat.le_of_ble_eq_true rfl, Nat.le_of_ble_eq_true rfl⟩) (fun r_4 u_5 H locs hw St => ?_)
  try dsimp only at hw
  have z_6 := hw
  subst r_4
  have St : cS G k [(h, .inr (9, [.ref d, .ref t, .int 0, .int 0, .int 0, .int 0, .int 0, .int (-1)])), (h2, .inr (6, [.ref b2, .int 0]))] [] A s H locs := St
  refine lv_istore_n (lv' := [(2, .int (-1)), (0, .ref h), (1, .ref h2)]) hx hb dX9_readToken_54 rfl hl (by decide) rfl (fun ls hl => ?_)
  refine lv_iload_n hx hb dX9_readToken_55 rfl (lv_at hl 0 rfl) ?_
  refine lv_iconst (v := (-1)) hx hb dX9_readToken_56 (by decide) ?_
  refine lv_icmp_ne (tgt := 68) hx hb dX9_readToken_57 (by decide) (fun c57 => ?_) (fun c57 => ?_)
  · exact absurd c57 (by decide)
  refine lv_aload_n hx hb dX9_readToken_60 rfl (lv_at hl 1 rfl) ?_
  refine lv_iconst (v := 0) hx hb dX9_readToken_61 (by decide) ?_
  refine cs_put F St 0 rfl rfl inX9 tyX9_ok nmX9 3 (by decide) kf_X9_36 rfl rfl rfl (Nat.le_of_ble_eq_true rfl) (w' := [(h, .inr (9, [.ref d, .ref t, .int 0, .int 0, .int 0, .int 0, .int 0, .int (-1)])), (h2, .inr (6, [.ref b2, .int 0]))]) rfl dX9_readToken_62 (fun H locs St => ?_)
  refine lv_goto (tgt := 123) hx hb dX9_readToken_65 (by decide) ?_
  exact cs_vret F hr hlk hQ St () (by trivial) [0, 1] rfl (by decide) [] rfl (by decide) (by decide) dX9_readToken_123
set_option maxHeartbeats 4000000 in
set_option maxRecDepth 100000 in
theorem c9_read0 (l : Launch) (G : va_G) (k : Nat → Nat) (sz : Nat) (h : Nat) (d : Nat) (dr : Nat) (t : Nat) (cd : ClassId) (ct : ClassId) (ft : Nat → Int32) (h2 : Nat) (b2 : Nat) : Met l yX9_read (Cond.code yX9_read cX9_read 4 (some .int) :: tb) ({ frames := 3, cells := 0, slots := 0, locals := 101 } : Room) (va_Pc [.ref h, .ref h2] (cP G k [(h, .inr (9, [.ref d, .ref t, .int 0, .int 0, .int 0, .int 0, .int 0, .int (-1)])), (d, .inr (8, [.ref dr])), (dr, .inl (cd, 9, .inl untold)), (t, .inl (ct, 6, .inl ft)), (h2, .inr (6, [.ref b2, .int 0]))] [(cd, .int), (ct, .boolean)] sz)) (va_Qi (fun (r : Int32) (f2 : (Nat → Int32)) => (r = 0)) (cB G (fun (f2 : (Nat → Int32)) => [(h, .inr (9, [.ref d, .ref t, .int 0, .int 0, .int 0, .int 0, .int 0, .int (-1)])), (d, .inr (8, [.ref dr])), (dr, .inl (cd, 9, .inl untold)), (t, .inl (ct, 6, .inl f2)), (h2, .inr (6, [.ref b2, .int 0]))]) (fun (f2 : (Nat → Int32)) => []) (va_A [(h, .inr (9, [.ref d, .ref t, .int 0, .int 0, .int 0, .int 0, .int 0, .int (-1)])), (d, .inr (8, [.ref dr])), (dr, .inl (cd, 9, .inl untold)), (t, .inl (ct, 6, .inl ft)), (h2, .inr (6, [.ref b2, .int 0]))] sz)) (va_A [(h, .inr (9, [.ref d, .ref t, .int 0, .int 0, .int 0, .int 0, .int 0, .int (-1)])), (d, .inr (8, [.ref dr])), (dr, .inl (cd, 9, .inl untold)), (t, .inl (ct, 6, .inl ft)), (h2, .inr (6, [.ref b2, .int 0]))] sz)) 0 0 (va_A [(h, .inr (9, [.ref d, .ref t, .int 0, .int 0, .int 0, .int 0, .int 0, .int (-1)])), (d, .inr (8, [.ref dr])), (dr, .inl (cd, 9, .inl untold)), (t, .inl (ct, 6, .inl ft)), (h2, .inr (6, [.ref b2, .int 0]))] sz) := by
  refine ofC_i (cc := cX9_read) (maxL := 4) (ret := (some .int)) (by decide) rfl (Nat.le_of_ble_eq_true rfl) ?_
  intro p e s m args below meth c A ls Q F hr hin hlk St hl hQ
  have hx := F.1
  have hb := F.2.1
  have hl : lv_has ls 4 [(0, .ref h), (1, .ref h2)] := hl
  have St : cS G k [(h, .inr (9, [.ref d, .ref t, .int 0, .int 0, .int 0, .int 0, .int 0, .int (-1)])), (d, .inr (8, [.ref dr])), (dr, .inl (cd, 9, .inl untold)), (t, .inl (ct, 6, .inl ft)), (h2, .inr (6, [.ref b2, .int 0]))] [(cd, .int), (ct, .boolean)] A s s.heap [] := St
  refine lv_aload_n hx hb dX9_read_0 rfl (lv_at hl 0 rfl) ?_
  refine cs_v St [0, 1, 2, 3] [4] (wc := [(h, .inr (9, [.ref d, .ref t, .int 0, .int 0, .int 0, .int 0, .int 0, .int (-1)])), (d, .inr (8, [.ref dr])), (dr, .inl (cd, 9, .inl untold)), (t, .inl (ct, 6, .inl ft))]) (wr := [(h2, .inr (6, [.ref b2, .int 0]))]) rfl rfl (by decide) (by decide) (va_runV (As := []) (rest := []) F (c9_startAnew l G k _ h d dr t cd ct ft) (cwVt F mf_X9_startAnew km_X9_29 rfl rfl ⟨Nat.le_of_ble_eq_true rfl, Nat.le_of_ble_eq_true rfl⟩) (cs_preV St [0, 1, 2, 3] rfl (by decide) [0, 1] rfl (ci := 9) (q0 := 0) rfl rfl) rfl rfl hl.1 rfl (lv_room (Nat.le_of_ble_eq_true rfl)) dX9_read_1 ⟨Nat.le_of_ble_eq_true rfl, Nat.le_of_ble_eq_true rfl⟩) (fun u_2 H locs hw St => ?_)
  obtain ⟨f2_3, rfl⟩ : ∃ z, z = u_2 := ⟨_, rfl⟩
  try dsimp only at hw
  have St : cS G k [(h2, .inr (6, [.ref b2, .int 0])), (h, .inr (9, [.ref d, .ref t, .int 0, .int 0, .int 0, .int 0, .int 0, .int (-1)])), (d, .inr (8, [.ref dr])), (dr, .inl (cd, 9, .inl untold)), (t, .inl (ct, 6, .inl f2_3))] [(cd, .int), (ct, .boolean)] A s H locs := St
  refine lv_iconst (v := 0) hx hb dX9_read_4 (by decide) ?_
  refine lv_istore_n (lv' := [(2, .int 0), (0, .ref h), (1, .ref h2)]) hx hb dX9_read_5 rfl hl (by decide) rfl (fun ls hl => ?_)
  refine lv_iconst (v := 0) hx hb dX9_read_6 (by decide) ?_
  refine lv_istore_n (lv' := [(3, .int 0), (2, .int 0), (0, .ref h), (1, .ref h2)]) hx hb dX9_read_7 rfl hl (by decide) rfl (fun ls hl => ?_)
  refine lv_iload_n hx hb dX9_read_8 rfl (lv_at hl 0 rfl) ?_
  refine lv_bipush (v := 6) hx hb dX9_read_9 (by decide) ?_
  refine lv_icmp_gt (tgt := 51) hx hb dX9_read_11 (by decide) (fun c11 => ?_) (fun c11 => ?_)
  · exact absurd c11 (by decide)
  refine lv_aload_n hx hb dX9_read_14 rfl (lv_at hl 2 rfl) ?_
  refine lv_aload_n hx hb dX9_read_15 rfl (lv_at hl 3 rfl) ?_
  refine cs_v St [1, 0] [2, 3, 4] (wc := [(h, .inr (9, [.ref d, .ref t, .int 0, .int 0, .int 0, .int 0, .int 0, .int (-1)])), (h2, .inr (6, [.ref b2, .int 0]))]) (wr := [(d, .inr (8, [.ref dr])), (dr, .inl (cd, 9, .inl untold)), (t, .inl (ct, 6, .inl f2_3))]) rfl rfl (by decide) (by decide) (va_runV (As := [.ref h2]) (rest := []) F (c9_readToken0 l G k _ h d t h2 b2) (cwVt F mf_X9_readToken km_X9_32 rfl rfl ⟨Nat.le_of_ble_eq_true rfl, Nat.le_of_ble_eq_true rfl⟩) (cs_preV St [1, 0] rfl (by decide) [] rfl (ci := 9) (q0 := 1) rfl rfl) rfl rfl hl.1 rfl (lv_room (Nat.le_of_ble_eq_true rfl)) dX9_read_16 ⟨Nat.le_of_ble_eq_true rfl, Nat.le_of_ble_eq_true rfl⟩) (fun u_5 H locs hw St => ?_)
  try dsimp only at hw
  have St : cS G k [(d, .inr (8, [.ref dr])), (dr, .inl (cd, 9, .inl untold)), (t, .inl (ct, 6, .inl f2_3)), (h, .inr (9, [.ref d, .ref t, .int 0, .int 0, .int 0, .int 0, .int 0, .int (-1)])), (h2, .inr (6, [.ref b2, .int 0]))] [(cd, .int), (ct, .boolean)] A s H locs := St
  refine lv_aload_n hx hb dX9_read_19 rfl (lv_at hl 2 rfl) ?_
  refine cs_get F St 3 rfl rfl inX9 3 (by decide) kf_X9_36 rfl dX9_read_20 ?_
  refine lv_if_ne (tgt := 28) hx hb dX9_read_23 (by decide) (fun c23 => ?_) (fun c23 => ?_)
  · exact absurd c23 (by decide)
  refine lv_iload_n hx hb dX9_read_26 rfl (lv_at hl 1 rfl) ?_
  exact cs_iret F hr hlk hQ St f2_3 (r := 0) rfl [3, 0, 1, 2, 4] rfl (by decide) [] rfl (by decide) (by decide) dX9_read_27
set_option maxHeartbeats 4000000 in
set_option maxRecDepth 100000 in
theorem c9_draft (l : Launch) (G : va_G) (k : Nat → Nat) (sz : Nat) (h : Nat) (d : Nat) (t : Nat) : Met l yX9_draft (Cond.code yX9_draft cX9_draft 1 (some (.object "TowerAppeal$Trust")) :: tb) ({ frames := 0, cells := 0, slots := 0, locals := 0 } : Room) (va_Pc [.ref h] (cP G k [(h, .inr (9, [.ref d, .ref t, .int 0, .int 0, .int 0, .int 0, .int 0, .int (-1)]))] [] sz)) (va_Qq (fun (r : Option Nat) (_ : Unit) => (r = some d)) (cB G (fun (_ : Unit) => [(h, .inr (9, [.ref d, .ref t, .int 0, .int 0, .int 0, .int 0, .int 0, .int (-1)]))]) (fun (_ : Unit) => []) (va_A [(h, .inr (9, [.ref d, .ref t, .int 0, .int 0, .int 0, .int 0, .int 0, .int (-1)]))] sz)) (va_A [(h, .inr (9, [.ref d, .ref t, .int 0, .int 0, .int 0, .int 0, .int 0, .int (-1)]))] sz)) 0 0 (va_A [(h, .inr (9, [.ref d, .ref t, .int 0, .int 0, .int 0, .int 0, .int 0, .int (-1)]))] sz) := by
  refine ofC_q (cc := cX9_draft) (maxL := 1) (ret := (some (.object "TowerAppeal$Trust"))) (by decide) rfl (Nat.le_of_ble_eq_true rfl) ?_
  intro p e s m args below meth c A ls Q F hr hin hlk St hl hQ
  have hx := F.1
  have hb := F.2.1
  have hl : lv_has ls 1 [(0, .ref h)] := hl
  have St : cS G k [(h, .inr (9, [.ref d, .ref t, .int 0, .int 0, .int 0, .int 0, .int 0, .int (-1)]))] [] A s s.heap [] := St
  refine lv_aload_n hx hb dX9_draft_0 rfl (lv_at hl 0 rfl) ?_
  refine cs_get F St 0 rfl rfl inX9 0 (by decide) kf_X9_12 rfl dX9_draft_1 ?_
  exact cs_qret F hr (Or.inl ⟨_, rfl⟩) hlk hQ St () (some d) rfl rfl [0] rfl (by decide) [] rfl (by decide) (by decide) dX9_draft_4
set_option maxHeartbeats 4000000 in
set_option maxRecDepth 100000 in
theorem c9_faultKind (l : Launch) (G : va_G) (k : Nat → Nat) (sz : Nat) (h : Nat) (d : Nat) (t : Nat) : Met l yX9_faultKind (Cond.code yX9_faultKind cX9_faultKind 1 (some .int) :: tb) ({ frames := 0, cells := 0, slots := 0, locals := 0 } : Room) (va_Pc [.ref h] (cP G k [(h, .inr (9, [.ref d, .ref t, .int 0, .int 0, .int 0, .int 0, .int 0, .int (-1)]))] [] sz)) (va_Qi (fun (r : Int32) (_ : Unit) => (r = 0)) (cB G (fun (_ : Unit) => [(h, .inr (9, [.ref d, .ref t, .int 0, .int 0, .int 0, .int 0, .int 0, .int (-1)]))]) (fun (_ : Unit) => []) (va_A [(h, .inr (9, [.ref d, .ref t, .int 0, .int 0, .int 0, .int 0, .int 0, .int (-1)]))] sz)) (va_A [(h, .inr (9, [.ref d, .ref t, .int 0, .int 0, .int 0, .int 0, .int 0, .int (-1)]))] sz)) 0 0 (va_A [(h, .inr (9, [.ref d, .ref t, .int 0, .int 0, .int 0, .int 0, .int 0, .int (-1)]))] sz) := by
  refine ofC_i (cc := cX9_faultKind) (maxL := 1) (ret := (some .int)) (by decide) rfl (Nat.le_of_ble_eq_true rfl) ?_
  intro p e s m args below meth c A ls Q F hr hin hlk St hl hQ
  have hx := F.1
  have hb := F.2.1
  have hl : lv_has ls 1 [(0, .ref h)] := hl
  have St : cS G k [(h, .inr (9, [.ref d, .ref t, .int 0, .int 0, .int 0, .int 0, .int 0, .int (-1)]))] [] A s s.heap [] := St
  refine lv_aload_n hx hb dX9_faultKind_0 rfl (lv_at hl 0 rfl) ?_
  refine cs_get F St 0 rfl rfl inX9 6 (by decide) kf_X9_26 rfl dX9_faultKind_1 ?_
  exact cs_iret F hr hlk hQ St () (r := 0) rfl [0] rfl (by decide) [] rfl (by decide) (by decide) dX9_faultKind_4
set_option maxHeartbeats 4000000 in
set_option maxRecDepth 100000 in
theorem c9_faultPlace (l : Launch) (G : va_G) (k : Nat → Nat) (sz : Nat) (h : Nat) (d : Nat) (t : Nat) : Met l yX9_faultPlace (Cond.code yX9_faultPlace cX9_faultPlace 1 (some .int) :: tb) ({ frames := 0, cells := 0, slots := 0, locals := 0 } : Room) (va_Pc [.ref h] (cP G k [(h, .inr (9, [.ref d, .ref t, .int 0, .int 0, .int 0, .int 0, .int 0, .int (-1)]))] [] sz)) (va_Qi (fun (r : Int32) (_ : Unit) => (r = (-1))) (cB G (fun (_ : Unit) => [(h, .inr (9, [.ref d, .ref t, .int 0, .int 0, .int 0, .int 0, .int 0, .int (-1)]))]) (fun (_ : Unit) => []) (va_A [(h, .inr (9, [.ref d, .ref t, .int 0, .int 0, .int 0, .int 0, .int 0, .int (-1)]))] sz)) (va_A [(h, .inr (9, [.ref d, .ref t, .int 0, .int 0, .int 0, .int 0, .int 0, .int (-1)]))] sz)) 0 0 (va_A [(h, .inr (9, [.ref d, .ref t, .int 0, .int 0, .int 0, .int 0, .int 0, .int (-1)]))] sz) := by
  refine ofC_i (cc := cX9_faultPlace) (maxL := 1) (ret := (some .int)) (by decide) rfl (Nat.le_of_ble_eq_true rfl) ?_
  intro p e s m args below meth c A ls Q F hr hin hlk St hl hQ
  have hx := F.1
  have hb := F.2.1
  have hl : lv_has ls 1 [(0, .ref h)] := hl
  have St : cS G k [(h, .inr (9, [.ref d, .ref t, .int 0, .int 0, .int 0, .int 0, .int 0, .int (-1)]))] [] A s s.heap [] := St
  refine lv_aload_n hx hb dX9_faultPlace_0 rfl (lv_at hl 0 rfl) ?_
  refine cs_get F St 0 rfl rfl inX9 7 (by decide) kf_X9_22 rfl dX9_faultPlace_1 ?_
  exact cs_iret F hr hlk hQ St () (r := (-1)) rfl [0] rfl (by decide) [] rfl (by decide) (by decide) dX9_faultPlace_4
