set_option maxHeartbeats 4000000 in
set_option maxRecDepth 100000 in
theorem r9_readStop (l : Launch) (G : va_G) (k : Nat → Nat) (sz : Nat) (h : Nat) (d : Nat) (dr : Nat) (t : Nat) (cd : ClassId) (ce : ClassId) (rh : Int32) (rt : Int32) (rs : Int32) (rv : Int32) (rk : Int32) (rp : Int32) (fd : Nat → Int32) (ft : Nat → Int32) (h2 : Nat) (b2 : Nat) (cb : ClassId) (nn : Int32) (f : Nat → Int32) (hn0 : 0 ≤ nn.toInt) (hn1 : nn.toInt ≤ 400) (hh0 : 0 ≤ rh.toInt) (hh1 : rh.toInt ≤ nn.toInt) (hk0 : rk = 0) : Met l yX9_readStop (Cond.code yX9_readStop cX9_readStop 2 none :: tb) ({ frames := 5, cells := 0, slots := 0, locals := 108 } : Room) (va_Pc [.ref h, .ref h2] (cP G k [(qAAIIIIII h 9 d t rh rt rs rv rk rp), (qA d 8 dr), (qarI dr cd 9 fd), (qarI t ce 6 ft), (qAI h2 6 b2 nn), (qarI b2 cb 400 f)] [(cd, .int), (ce, .boolean), (cb, .byte)] sz)) (va_Qv (fun (u : Int32 × Int32 × Int32 × Int32 × Int32 × Int32 × (Nat → Int32)) => match u with | (rh2, rt2, rs2, rv2, rk2, rp2, fd2) => (LR (lnS f nn.toNatClampNeg 5 fd rh.toNatClampNeg) nn rp rk2 rp2 rh2 fd2)) (cB G (fun u => match u with | (rh2, rt2, rs2, rv2, rk2, rp2, fd2) => [(qAAIIIIII h 9 d t rh2 rt2 rs2 rv2 rk2 rp2), (qA d 8 dr), (qarI dr cd 9 fd2), (qarI t ce 6 ft), (qAI h2 6 b2 nn), (qarI b2 cb 400 f)]) (fun u => match u with | (rh2, rt2, rs2, rv2, rk2, rp2, fd2) => []) (va_A [(qAAIIIIII h 9 d t rh rt rs rv rk rp), (qA d 8 dr), (qarI dr cd 9 fd), (qarI t ce 6 ft), (qAI h2 6 b2 nn), (qarI b2 cb 400 f)] sz)) (va_A [(qAAIIIIII h 9 d t rh rt rs rv rk rp), (qA d 8 dr), (qarI dr cd 9 fd), (qarI t ce 6 ft), (qAI h2 6 b2 nn), (qarI b2 cb 400 f)] sz)) 0 0 (va_A [(qAAIIIIII h 9 d t rh rt rs rv rk rp), (qA d 8 dr), (qarI dr cd 9 fd), (qarI t ce 6 ft), (qAI h2 6 b2 nn), (qarI b2 cb 400 f)] sz) := by
  refine ofC_v (cc := cX9_readStop) (maxL := 2) (ret := none) (by decide) rfl (Nat.le_of_ble_eq_true rfl) ?_
  intro p e s m args below meth c A ls Q F hr hin hlk St hl hQ
  have hx := F.1
  have hb := F.2.1
  have hl : lv_has ls 2 [(0, .ref h), (1, .ref h2)] := hl
  have St : cS G k [(qAAIIIIII h 9 d t rh rt rs rv rk rp), (qA d 8 dr), (qarI dr cd 9 fd), (qarI t ce 6 ft), (qAI h2 6 b2 nn), (qarI b2 cb 400 f)] [(cd, .int), (ce, .boolean), (cb, .byte)] A s s.heap [] := St
  have y0 : (0 : Int32).toInt = 0 := by decide
  refine lv_aload_n hx hb dX9_readStop_0 rfl (lv_at hl 0 rfl) ?_
  refine lv_aload_n hx hb dX9_readStop_1 rfl (lv_at hl 1 rfl) ?_
  refine cs_v St [0, 4, 5] [1, 2, 3] (wc := [(qAAIIIIII h 9 d t rh rt rs rv rk rp), (qAI h2 6 b2 nn), (qarI b2 cb 400 f)]) (wr := [(qA d 8 dr), (qarI dr cd 9 fd), (qarI t ce 6 ft)]) rfl rfl (by decide) (by decide) (va_runV (As := [.ref h2]) (rest := []) F (r9_readToken l G k _ h d t rh rt rs rv rk rp h2 b2 cb nn f (by omega) (by omega) (by omega) (by omega)) (cwVt F mf_X9_readToken km_X9_32 rfl rfl ⟨Nat.le_of_ble_eq_true rfl, Nat.le_of_ble_eq_true rfl⟩) (cs_preV St [0, 4, 5] rfl (by decide) [2] rfl (ci := 9) (q0 := 0) rfl rfl) rfl rfl hl.1 rfl (lv_room (Nat.le_of_ble_eq_true rfl)) dX9_readStop_2 ⟨Nat.le_of_ble_eq_true rfl, Nat.le_of_ble_eq_true rfl⟩) (fun u_2 H locs hw St => ?_)
  obtain ⟨rh2_3, rt2_4, rs2_5, rv2_6⟩ := u_2
  try dsimp only at hw
  have ht_7 := hw
  have St : cS G k [(qA d 8 dr), (qarI dr cd 9 fd), (qarI t ce 6 ft), (qAAIIIIII h 9 d t rh2_3 rt2_4 rs2_5 rv2_6 rk rp), (qAI h2 6 b2 nn), (qarI b2 cb 400 f)] [(cd, .int), (ce, .boolean), (cb, .byte)] A s H locs := St
  have ht_7b := TK_le (by omega) (by omega) ht_7
  refine lv_aload_n hx hb dX9_readStop_5 rfl (lv_at hl 0 rfl) ?_
  refine cs_get F St 3 rfl rfl inX9 3 (by decide) kf_X9_36 rfl dX9_readStop_6 ?_
  refine lv_iconst (v := 1) hx hb dX9_readStop_9 (by decide) ?_
  refine lv_icmp_ne (tgt := 36) hx hb dX9_readStop_10 (by decide) (fun c10 => ?_) (fun c10 => ?_)
  ·
    have i10 := ci_ne (x := rt2_4) (y := 1) rfl (show (1 : Int32).toInt = 1 by decide) c10
    refine lv_aload_n hx hb dX9_readStop_36 rfl (lv_at hl 0 rfl) ?_
    refine cs_get F St 3 rfl rfl inX9 3 (by decide) kf_X9_36 rfl dX9_readStop_37 ?_
    refine lv_iconst (v := 1) hx hb dX9_readStop_40 (by decide) ?_
    refine lv_icmp_ne (tgt := 67) hx hb dX9_readStop_41 (by decide) (fun c41 => ?_) (fun c41 => ?_)
    rotate_left
    · have i41 := ci_eq (x := rt2_4) (y := 1) rfl (show (1 : Int32).toInt = 1 by decide) c41; exact False.elim (by omega)
    have i41 := ci_ne (x := rt2_4) (y := 1) rfl (show (1 : Int32).toInt = 1 by decide) c41
    refine lv_aload_n hx hb dX9_readStop_67 rfl (lv_at hl 0 rfl) ?_
    refine lv_iconst (v := 1) hx hb dX9_readStop_68 (by decide) ?_
    refine cs_v St [3] [0, 1, 2, 4, 5] (wc := [(qAAIIIIII h 9 d t rh2_3 rt2_4 rs2_5 rv2_6 rk rp)]) (wr := [(qA d 8 dr), (qarI dr cd 9 fd), (qarI t ce 6 ft), (qAI h2 6 b2 nn), (qarI b2 cb 400 f)]) rfl rfl (by decide) (by decide) (va_runV (As := [.int 1]) (rest := []) F (x9_refuse l G k _ h d t rh2_3 rt2_4 rs2_5 rv2_6 rk rp 1) (cwVt F mf_X9_refuse km_X9_55 rfl rfl ⟨Nat.le_of_ble_eq_true rfl, Nat.le_of_ble_eq_true rfl⟩) (cs_preV St [3] rfl (by decide) [] rfl (ci := 9) (q0 := 3) rfl rfl) rfl rfl hl.1 rfl (lv_room (Nat.le_of_ble_eq_true rfl)) dX9_readStop_69 ⟨Nat.le_of_ble_eq_true rfl, Nat.le_of_ble_eq_true rfl⟩) (fun u_9 H locs hw St => ?_)
    try dsimp only at hw
    have St : cS G k [(qA d 8 dr), (qarI dr cd 9 fd), (qarI t ce 6 ft), (qAI h2 6 b2 nn), (qarI b2 cb 400 f), (qAAIIIIII h 9 d t rh2_3 rt2_4 rs2_5 rv2_6 1 rs2_5)] [(cd, .int), (ce, .boolean), (cb, .byte)] A s H locs := St
    exact cs_vret F hr hlk hQ St (rh2_3, rt2_4, rs2_5, rv2_6, 1, rs2_5, fd) (Or.inl ⟨1, _, st_no1 ht_7 c10, by decide, rfl, by omega, rfl⟩) [5, 0, 1, 2, 3, 4] rfl (by decide) [] rfl (by decide) (by decide) dX9_readStop_72
  ·
    have i10 := ci_eq (x := rt2_4) (y := 1) rfl (show (1 : Int32).toInt = 1 by decide) c10
    refine lv_aload_n hx hb dX9_readStop_13 rfl (lv_at hl 0 rfl) ?_
    refine lv_aload_n hx hb dX9_readStop_14 rfl (lv_at hl 1 rfl) ?_
    refine va_ldcS hx hb F.2.2.2.1 St.2.2.2.2.2.1.2.2.2.2.2.2.2.2.2.2.2.2.2.2.2.1 dX9_readStop_15 ?_
    refine cs_i St [3, 4, 5] [0, 1, 2] (wc := [(qAAIIIIII h 9 d t rh2_3 rt2_4 rs2_5 rv2_6 rk rp), (qAI h2 6 b2 nn), (qarI b2 cb 400 f)]) (wr := [(qA d 8 dr), (qarI dr cd 9 fd), (qarI t ce 6 ft)]) rfl rfl (by decide) (by decide) (va_runV (As := [.ref h2, .ref (k 16)]) (rest := []) F (r9_isWord l G k _ h d t rh2_3 rt2_4 rs2_5 rv2_6 rk rp h2 b2 cb nn f 6 (by first | assumption | decide) (by omega) (by omega) (by omega) (by omega) (by omega) (by omega)) (cwVt F mf_X9_isWord km_X9_92 rfl rfl ⟨Nat.le_of_ble_eq_true rfl, Nat.le_of_ble_eq_true rfl⟩) (cs_preV St [3, 4, 5] rfl (by decide) [2] rfl (ci := 9) (q0 := 3) rfl rfl) rfl rfl hl.1 rfl (lv_room (Nat.le_of_ble_eq_true rfl)) dX9_readStop_17 ⟨Nat.le_of_ble_eq_true rfl, Nat.le_of_ble_eq_true rfl⟩) (fun r_10 u_11 H locs hw St => ?_)
    try dsimp only at hw
    rcases hw with ⟨z_12, hf_13⟩ | ⟨z_14, hf_15⟩
    ·
      subst r_10
      have St : cS G k [(qA d 8 dr), (qarI dr cd 9 fd), (qarI t ce 6 ft), (qAAIIIIII h 9 d t rh2_3 rt2_4 rs2_5 rv2_6 rk rp), (qAI h2 6 b2 nn), (qarI b2 cb 400 f)] [(cd, .int), (ce, .boolean), (cb, .byte)] A s H locs := St
      refine lv_if_eq (tgt := 36) hx hb dX9_readStop_20 (by decide) (fun c20 => ?_) (fun c20 => ?_)
      · exact absurd c20 (by decide)
      refine lv_aload_n hx hb dX9_readStop_23 rfl (lv_at hl 0 rfl) ?_
      refine cs_get F St 3 rfl rfl inX9 0 (by decide) kf_X9_12 rfl dX9_readStop_24 ?_
      refine lv_bipush (v := 8) hx hb dX9_readStop_27 (by decide) ?_
      refine lv_iconst (v := 1) hx hb dX9_readStop_29 (by decide) ?_
      refine cs_v St [0, 1] [2, 3, 4, 5] (wc := [(qA d 8 dr), (qarI dr cd 9 fd)]) (wr := [(qarI t ce 6 ft), (qAAIIIIII h 9 d t rh2_3 rt2_4 rs2_5 rv2_6 rk rp), (qAI h2 6 b2 nn), (qarI b2 cb 400 f)]) rfl rfl (by decide) (by decide) (va_runV (As := [.int 8, .int 1]) (rest := []) F (r8_put l G k _ d dr cd fd 8 1 (by first | omega | decide) (by first | omega | decide)) (cwVt F mf_X8_put km_X9_80 rfl rfl ⟨Nat.le_of_ble_eq_true rfl, Nat.le_of_ble_eq_true rfl⟩) (cs_preV St [0, 1] rfl (by decide) [0] rfl (ci := 8) (q0 := 0) rfl rfl) rfl rfl hl.1 rfl (lv_room (Nat.le_of_ble_eq_true rfl)) dX9_readStop_30 ⟨Nat.le_of_ble_eq_true rfl, Nat.le_of_ble_eq_true rfl⟩) (fun u_17 H locs hw St => ?_)
      obtain ⟨f2_18, rfl⟩ : ∃ z, z = u_17 := ⟨_, rfl⟩
      try dsimp only at hw
      have hp_19 := hw
      have St : cS G k [(qarI t ce 6 ft), (qAAIIIIII h 9 d t rh2_3 rt2_4 rs2_5 rv2_6 rk rp), (qAI h2 6 b2 nn), (qarI b2 cb 400 f), (qA d 8 dr), (qarI dr cd 9 f2_18)] [(cd, .int), (ce, .boolean), (cb, .byte)] A s H locs := St
      refine lv_goto (tgt := 72) hx hb dX9_readStop_33 (by decide) ?_
      exact cs_vret F hr hlk hQ St (rh2_3, rt2_4, rs2_5, rv2_6, rk, rp, f2_18) (Or.inr ⟨_, (st_all ht_7 c10 hf_13).trans (by rw [hp_19]; rfl), hk0, rfl, ⟨by omega, by omega⟩, rfl⟩) [1, 4, 5, 0, 2, 3] rfl (by decide) [] rfl (by decide) (by decide) dX9_readStop_72
    ·
      subst r_10
      have St : cS G k [(qA d 8 dr), (qarI dr cd 9 fd), (qarI t ce 6 ft), (qAAIIIIII h 9 d t rh2_3 rt2_4 rs2_5 rv2_6 rk rp), (qAI h2 6 b2 nn), (qarI b2 cb 400 f)] [(cd, .int), (ce, .boolean), (cb, .byte)] A s H locs := St
      refine lv_if_eq (tgt := 36) hx hb dX9_readStop_20 (by decide) (fun c20 => ?_) (fun c20 => ?_)
      rotate_left
      · exact absurd (by decide) c20
      refine lv_aload_n hx hb dX9_readStop_36 rfl (lv_at hl 0 rfl) ?_
      refine cs_get F St 3 rfl rfl inX9 3 (by decide) kf_X9_36 rfl dX9_readStop_37 ?_
      refine lv_iconst (v := 1) hx hb dX9_readStop_40 (by decide) ?_
      refine lv_icmp_ne (tgt := 67) hx hb dX9_readStop_41 (by decide) (fun c41 => ?_) (fun c41 => ?_)
      · have i41 := ci_ne (x := rt2_4) (y := 1) rfl (show (1 : Int32).toInt = 1 by decide) c41; exact False.elim (by omega)
      have i41 := ci_eq (x := rt2_4) (y := 1) rfl (show (1 : Int32).toInt = 1 by decide) c41
      refine lv_aload_n hx hb dX9_readStop_44 rfl (lv_at hl 0 rfl) ?_
      refine lv_aload_n hx hb dX9_readStop_45 rfl (lv_at hl 1 rfl) ?_
      refine va_ldcS hx hb F.2.2.2.1 St.2.2.2.2.2.1.2.2.2.2.2.2.2.2.2.2.2.2.2.2.2.2.1 dX9_readStop_46 ?_
      refine cs_i St [3, 4, 5] [0, 1, 2] (wc := [(qAAIIIIII h 9 d t rh2_3 rt2_4 rs2_5 rv2_6 rk rp), (qAI h2 6 b2 nn), (qarI b2 cb 400 f)]) (wr := [(qA d 8 dr), (qarI dr cd 9 fd), (qarI t ce 6 ft)]) rfl rfl (by decide) (by decide) (va_runV (As := [.ref h2, .ref (k 17)]) (rest := []) F (r9_isWord l G k _ h d t rh2_3 rt2_4 rs2_5 rv2_6 rk rp h2 b2 cb nn f 7 (by first | assumption | decide) (by omega) (by omega) (by omega) (by omega) (by omega) (by omega)) (cwVt F mf_X9_isWord km_X9_92 rfl rfl ⟨Nat.le_of_ble_eq_true rfl, Nat.le_of_ble_eq_true rfl⟩) (cs_preV St [3, 4, 5] rfl (by decide) [2] rfl (ci := 9) (q0 := 3) rfl rfl) rfl rfl hl.1 rfl (lv_room (Nat.le_of_ble_eq_true rfl)) dX9_readStop_48 ⟨Nat.le_of_ble_eq_true rfl, Nat.le_of_ble_eq_true rfl⟩) (fun r_20 u_21 H locs hw St => ?_)
      try dsimp only at hw
      rcases hw with ⟨z_22, hf_23⟩ | ⟨z_24, hf_25⟩
      ·
        subst r_20
        have St : cS G k [(qA d 8 dr), (qarI dr cd 9 fd), (qarI t ce 6 ft), (qAAIIIIII h 9 d t rh2_3 rt2_4 rs2_5 rv2_6 rk rp), (qAI h2 6 b2 nn), (qarI b2 cb 400 f)] [(cd, .int), (ce, .boolean), (cb, .byte)] A s H locs := St
        refine lv_if_eq (tgt := 67) hx hb dX9_readStop_51 (by decide) (fun c51 => ?_) (fun c51 => ?_)
        · exact absurd c51 (by decide)
        refine lv_aload_n hx hb dX9_readStop_54 rfl (lv_at hl 0 rfl) ?_
        refine cs_get F St 3 rfl rfl inX9 0 (by decide) kf_X9_12 rfl dX9_readStop_55 ?_
        refine lv_bipush (v := 8) hx hb dX9_readStop_58 (by decide) ?_
        refine lv_iconst (v := 0) hx hb dX9_readStop_60 (by decide) ?_
        refine cs_v St [0, 1] [2, 3, 4, 5] (wc := [(qA d 8 dr), (qarI dr cd 9 fd)]) (wr := [(qarI t ce 6 ft), (qAAIIIIII h 9 d t rh2_3 rt2_4 rs2_5 rv2_6 rk rp), (qAI h2 6 b2 nn), (qarI b2 cb 400 f)]) rfl rfl (by decide) (by decide) (va_runV (As := [.int 8, .int 0]) (rest := []) F (r8_put l G k _ d dr cd fd 8 0 (by first | omega | decide) (by first | omega | decide)) (cwVt F mf_X8_put km_X9_80 rfl rfl ⟨Nat.le_of_ble_eq_true rfl, Nat.le_of_ble_eq_true rfl⟩) (cs_preV St [0, 1] rfl (by decide) [0] rfl (ci := 8) (q0 := 0) rfl rfl) rfl rfl hl.1 rfl (lv_room (Nat.le_of_ble_eq_true rfl)) dX9_readStop_61 ⟨Nat.le_of_ble_eq_true rfl, Nat.le_of_ble_eq_true rfl⟩) (fun u_27 H locs hw St => ?_)
        obtain ⟨f2_28, rfl⟩ : ∃ z, z = u_27 := ⟨_, rfl⟩
        try dsimp only at hw
        have hp_29 := hw
        have St : cS G k [(qarI t ce 6 ft), (qAAIIIIII h 9 d t rh2_3 rt2_4 rs2_5 rv2_6 rk rp), (qAI h2 6 b2 nn), (qarI b2 cb 400 f), (qA d 8 dr), (qarI dr cd 9 f2_28)] [(cd, .int), (ce, .boolean), (cb, .byte)] A s H locs := St
        refine lv_goto (tgt := 72) hx hb dX9_readStop_64 (by decide) ?_
        exact cs_vret F hr hlk hQ St (rh2_3, rt2_4, rs2_5, rv2_6, rk, rp, f2_28) (Or.inr ⟨_, (st_left ht_7 c10 hf_15 hf_23).trans (by rw [hp_29]; rfl), hk0, rfl, ⟨by omega, by omega⟩, rfl⟩) [1, 4, 5, 0, 2, 3] rfl (by decide) [] rfl (by decide) (by decide) dX9_readStop_72
      ·
        subst r_20
        have St : cS G k [(qA d 8 dr), (qarI dr cd 9 fd), (qarI t ce 6 ft), (qAAIIIIII h 9 d t rh2_3 rt2_4 rs2_5 rv2_6 rk rp), (qAI h2 6 b2 nn), (qarI b2 cb 400 f)] [(cd, .int), (ce, .boolean), (cb, .byte)] A s H locs := St
        refine lv_if_eq (tgt := 67) hx hb dX9_readStop_51 (by decide) (fun c51 => ?_) (fun c51 => ?_)
        rotate_left
        · exact absurd (by decide) c51
        refine lv_aload_n hx hb dX9_readStop_67 rfl (lv_at hl 0 rfl) ?_
        refine lv_iconst (v := 1) hx hb dX9_readStop_68 (by decide) ?_
        refine cs_v St [3] [0, 1, 2, 4, 5] (wc := [(qAAIIIIII h 9 d t rh2_3 rt2_4 rs2_5 rv2_6 rk rp)]) (wr := [(qA d 8 dr), (qarI dr cd 9 fd), (qarI t ce 6 ft), (qAI h2 6 b2 nn), (qarI b2 cb 400 f)]) rfl rfl (by decide) (by decide) (va_runV (As := [.int 1]) (rest := []) F (x9_refuse l G k _ h d t rh2_3 rt2_4 rs2_5 rv2_6 rk rp 1) (cwVt F mf_X9_refuse km_X9_55 rfl rfl ⟨Nat.le_of_ble_eq_true rfl, Nat.le_of_ble_eq_true rfl⟩) (cs_preV St [3] rfl (by decide) [] rfl (ci := 9) (q0 := 3) rfl rfl) rfl rfl hl.1 rfl (lv_room (Nat.le_of_ble_eq_true rfl)) dX9_readStop_69 ⟨Nat.le_of_ble_eq_true rfl, Nat.le_of_ble_eq_true rfl⟩) (fun u_31 H locs hw St => ?_)
        try dsimp only at hw
        have St : cS G k [(qA d 8 dr), (qarI dr cd 9 fd), (qarI t ce 6 ft), (qAI h2 6 b2 nn), (qarI b2 cb 400 f), (qAAIIIIII h 9 d t rh2_3 rt2_4 rs2_5 rv2_6 1 rs2_5)] [(cd, .int), (ce, .boolean), (cb, .byte)] A s H locs := St
        exact cs_vret F hr hlk hQ St (rh2_3, rt2_4, rs2_5, rv2_6, 1, rs2_5, fd) (Or.inl ⟨1, _, st_no2 ht_7 hf_15 hf_25, by decide, rfl, by omega, rfl⟩) [5, 0, 1, 2, 3, 4] rfl (by decide) [] rfl (by decide) (by decide) dX9_readStop_72
set_option maxHeartbeats 4000000 in
set_option maxRecDepth 100000 in
theorem r9_readNumbers (l : Launch) (G : va_G) (k : Nat → Nat) (sz : Nat) (h : Nat) (d : Nat) (dr : Nat) (t : Nat) (cd : ClassId) (ce : ClassId) (rh : Int32) (rt : Int32) (rs : Int32) (rv : Int32) (rk : Int32) (rp : Int32) (fd : Nat → Int32) (ft : Nat → Int32) (h2 : Nat) (b2 : Nat) (cb : ClassId) (nn : Int32) (f : Nat → Int32) (x : Int32) (hn0 : 0 ≤ nn.toInt) (hn1 : nn.toInt ≤ 400) (hh0 : 0 ≤ rh.toInt) (hh1 : rh.toInt ≤ nn.toInt) (hk0 : rk = 0) (hx0 : 0 ≤ x.toInt) (hx1 : x.toInt ≤ 4) : Met l yX9_readNumbers (Cond.code yX9_readNumbers cX9_readNumbers 6 none :: tb) ({ frames := 3, cells := 0, slots := 0, locals := 64 } : Room) (va_Pc [.ref h, .ref h2, .int x] (cP G k [(qAAIIIIII h 9 d t rh rt rs rv rk rp), (qA d 8 dr), (qarI dr cd 9 fd), (qarI t ce 6 ft), (qAI h2 6 b2 nn), (qarI b2 cb 400 f)] [(cd, .int), (ce, .boolean), (cb, .byte)] sz)) (va_Qv (fun (u : Int32 × Int32 × Int32 × Int32 × Int32 × Int32 × (Nat → Int32)) => match u with | (rh2, rt2, rs2, rv2, rk2, rp2, fd2) => (LR (nums f nn.toNatClampNeg (tNums x.toNatClampNeg).toNatClampNeg (tFirst x.toNatClampNeg).toNatClampNeg fd rh.toNatClampNeg) nn rp rk2 rp2 rh2 fd2)) (cB G (fun u => match u with | (rh2, rt2, rs2, rv2, rk2, rp2, fd2) => [(qAAIIIIII h 9 d t rh2 rt2 rs2 rv2 rk2 rp2), (qA d 8 dr), (qarI dr cd 9 fd2), (qarI t ce 6 ft), (qAI h2 6 b2 nn), (qarI b2 cb 400 f)]) (fun u => match u with | (rh2, rt2, rs2, rv2, rk2, rp2, fd2) => []) (va_A [(qAAIIIIII h 9 d t rh rt rs rv rk rp), (qA d 8 dr), (qarI dr cd 9 fd), (qarI t ce 6 ft), (qAI h2 6 b2 nn), (qarI b2 cb 400 f)] sz)) (va_A [(qAAIIIIII h 9 d t rh rt rs rv rk rp), (qA d 8 dr), (qarI dr cd 9 fd), (qarI t ce 6 ft), (qAI h2 6 b2 nn), (qarI b2 cb 400 f)] sz)) 0 0 (va_A [(qAAIIIIII h 9 d t rh rt rs rv rk rp), (qA d 8 dr), (qarI dr cd 9 fd), (qarI t ce 6 ft), (qAI h2 6 b2 nn), (qarI b2 cb 400 f)] sz) := by
  refine ofC_v (cc := cX9_readNumbers) (maxL := 6) (ret := none) (by decide) rfl (Nat.le_of_ble_eq_true rfl) ?_
  intro p e s m args below meth c A ls Q F hr hin hlk St hl hQ
  have hx := F.1
  have hb := F.2.1
  have hl : lv_has ls 6 [(0, .ref h), (1, .ref h2), (2, .int x)] := hl
  have St : cS G k [(qAAIIIIII h 9 d t rh rt rs rv rk rp), (qA d 8 dr), (qarI dr cd 9 fd), (qarI t ce 6 ft), (qAI h2 6 b2 nn), (qarI b2 cb 400 f)] [(cd, .int), (ce, .boolean), (cb, .byte)] A s s.heap [] := St
  have y0 : (0 : Int32).toInt = 0 := by decide
  refine lv_iload_n hx hb dX9_readNumbers_0 rfl (lv_at hl 2 rfl) ?_
  refine lv_if_lt (tgt := 20) hx hb dX9_readNumbers_1 (by decide) (fun c1 => ?_) (fun c1 => ?_)
  · have i1 := ci_lt (x := x) (y := 0) rfl (show (0 : Int32).toInt = 0 by decide) c1; exact False.elim (by omega)
  have i1 := ci_nlt (x := x) (y := 0) rfl (show (0 : Int32).toInt = 0 by decide) c1
  refine lv_iload_n hx hb dX9_readNumbers_4 rfl (lv_at hl 2 rfl) ?_
  refine va_gets hx hb (St.2.2.2.2.2.2.2.2.2.2.2.2.1) St.toS F.2.2.2.1 (F.2.2.2.2 _ kf_X9_66) (fun _ h => h) dX9_readNumbers_5 ?_
  refine va_tlen hx hb (St.2.2.2.2.2.2.2.2.2.2.2.2.2.1) St.toS (v := 5) rfl dX9_readNumbers_8 ?_
  refine lv_icmp_ge (tgt := 20) hx hb dX9_readNumbers_9 (by decide) (fun c9 => ?_) (fun c9 => ?_)
  · have i9 := ci_le (x := 5) (y := x) (show (5 : Int32).toInt = 5 by decide) rfl c9; exact False.elim (by omega)
  have i9 := ci_nle (x := 5) (y := x) (show (5 : Int32).toInt = 5 by decide) rfl c9
  refine lv_iload_n hx hb dX9_readNumbers_12 rfl (lv_at hl 2 rfl) ?_
  refine va_gets hx hb (St.2.2.2.2.2.2.2.2.2.2.2.2.2.2.1) St.toS F.2.2.2.1 (F.2.2.2.2 _ kf_X9_70) (fun _ h => h) dX9_readNumbers_13 ?_
  refine va_tlen hx hb (St.2.2.2.2.2.2.2.2.2.2.2.2.2.2.2.1) St.toS (v := 5) rfl dX9_readNumbers_16 ?_
  refine lv_icmp_lt (tgt := 21) hx hb dX9_readNumbers_17 (by decide) (fun c17 => ?_) (fun c17 => ?_)
  rotate_left
  · have i17 := ci_nlt (x := x) (y := 5) rfl (show (5 : Int32).toInt = 5 by decide) c17; exact False.elim (by omega)
  have i17 := ci_lt (x := x) (y := 5) rfl (show (5 : Int32).toInt = 5 by decide) c17
  refine va_gets hx hb (St.2.2.2.2.2.2.2.2.2.2.2.2.1) St.toS F.2.2.2.1 (F.2.2.2.2 _ kf_X9_66) (fun _ h => h) dX9_readNumbers_21 ?_
  refine lv_iload_n hx hb dX9_readNumbers_24 rfl (lv_at hl 2 rfl) ?_
  refine va_ti hx hb (St.2.2.2.2.2.2.2.2.2.2.2.2.2.1) St.toS (vp_in_iff.mpr ⟨by omega, by omega⟩) (v := .int (tFirst (x : Int32).toNatClampNeg)) rfl dX9_readNumbers_25 ?_
  refine lv_topi (fun y_1 ey_1 => ?_)
  refine lv_istore_n (lv' := [(3, .int y_1), (0, .ref h), (1, .ref h2), (2, .int x)]) hx hb dX9_readNumbers_26 rfl hl (by decide) rfl (fun ls hl => ?_)
  refine lv_iload_n hx hb dX9_readNumbers_27 rfl (lv_at hl 0 rfl) ?_
  refine va_gets hx hb (St.2.2.2.2.2.2.2.2.2.2.2.2.2.2.1) St.toS F.2.2.2.1 (F.2.2.2.2 _ kf_X9_70) (fun _ h => h) dX9_readNumbers_28 ?_
  refine lv_iload_n hx hb dX9_readNumbers_31 rfl (lv_at hl 3 rfl) ?_
  refine va_ti hx hb (St.2.2.2.2.2.2.2.2.2.2.2.2.2.2.2.1) St.toS (vp_in_iff.mpr ⟨by omega, by omega⟩) (v := .int (tNums (x : Int32).toNatClampNeg)) rfl dX9_readNumbers_32 ?_
  refine lv_topi (fun y_2 ey_2 => ?_)
  have hT : 0 ≤ y_1.toInt ∧ y_1.toInt + y_2.toInt ≤ 8 ∧ 1 ≤ y_2.toInt := by rw [ey_1, ey_2]; exact tF_bd _ (by have := nc_int hx0; omega)
  refine lv_iadd hx hb dX9_readNumbers_33 ?_
  refine lv_topi (fun y_3 ey_3 => ?_)
  first | have jy_3 : y_3.toInt = y_1.toInt + y_2.toInt := (by have q9 := ci_add (x := y_1) (y := y_2) rfl rfl ey_3; omega) | have jy_3 := ci_add (x := y_1) (y := y_2) rfl rfl ey_3
  refine lv_istore (lv' := [(4, .int y_3), (3, .int y_1), (0, .ref h), (1, .ref h2), (2, .int x)]) hx hb dX9_readNumbers_34 hl (by decide) rfl (fun ls hl => ?_)
  refine lv_iload_n hx hb dX9_readNumbers_36 rfl (lv_at hl 1 rfl) ?_
  refine lv_istore (lv' := [(5, .int y_1), (4, .int y_3), (3, .int y_1), (0, .ref h), (1, .ref h2), (2, .int x)]) hx hb dX9_readNumbers_37 hl (by decide) rfl (fun ls hl => ?_)
  have lp39 : ∀ (n : Nat) (kk : Int32) (q0 : Int32) (q1 : Int32) (q2 : Int32) (q3 : Int32) (q4 : Int32) (q5 : Int32) (fdq : Nat → Int32) (H : Heap) (locs : List Loc) (ls : Array Slot), ((y_1.toInt ≤ kk.toInt ∧ kk.toInt ≤ y_3.toInt) ∧ NI (nums f nn.toNatClampNeg (tNums x.toNatClampNeg).toNatClampNeg (tFirst x.toNatClampNeg).toNatClampNeg fd rh.toNatClampNeg) f nn.toNatClampNeg (y_3.toInt - kk.toInt).toNat kk.toNatClampNeg fdq nn rp q0 q4 q5) → ((y_3.toInt - kk.toInt).toNat) < n → cS G k [(qAAIIIIII h 9 d t q0 q1 q2 q3 q4 q5), (qA d 8 dr), (qarI dr cd 9 fdq), (qarI t ce 6 ft), (qAI h2 6 b2 nn), (qarI b2 cb 400 f)] [(cd, .int), (ce, .boolean), (cb, .byte)] A s H locs → lv_has ls 6 [(5, .int kk), (4, .int y_3), (3, .int y_1), (0, .ref h), (1, .ref h2), (2, .int x)] → W p l e ({ frames := 3, cells := 0, slots := 0, locals := 64 } : Room) s m args below meth c H locs 0 0 Q (F0 m 39 ls []) := by
    intro n
    induction n with
    | zero => intro kk q0 q1 q2 q3 q4 q5 fdq H locs ls hI hn; exact absurd hn (Nat.not_lt_zero _)
    | succ n ih =>
      intro kk q0 q1 q2 q3 q4 q5 fdq H locs ls hI hn St hl
      obtain ⟨⟨hI0, hI1⟩, hI2⟩ := hI
      refine lv_iload hx hb dX9_readNumbers_39 (lv_at hl 0 rfl) ?_
      refine lv_iload hx hb dX9_readNumbers_41 (lv_at hl 1 rfl) ?_
      refine lv_icmp_ge (tgt := 113) hx hb dX9_readNumbers_43 (by decide) (fun c43 => ?_) (fun c43 => ?_)
      ·
        have i43 := ci_le (x := y_3) (y := kk) rfl rfl c43
        exact cs_vret F hr hlk hQ St (q0, q1, q2, q3, q4, q5, fdq) (nm_out hI2 (fun q => (by omega))) [0, 1, 2, 3, 4, 5] rfl (by decide) [] rfl (by decide) (by decide) dX9_readNumbers_113
      ·
        have i43 := ci_nle (x := y_3) (y := kk) rfl rfl c43
        refine lv_aload_n hx hb dX9_readNumbers_46 rfl (lv_at hl 3 rfl) ?_
        refine cs_get F St 0 rfl rfl inX9 6 (by decide) kf_X9_26 rfl dX9_readNumbers_47 ?_
        refine lv_if_ne (tgt := 113) hx hb dX9_readNumbers_50 (by decide) (fun c50 => ?_) (fun c50 => ?_)
        ·
          have i50 := ci_ne (x := q4) (y := 0) rfl (show (0 : Int32).toInt = 0 by decide) c50
          exact cs_vret F hr hlk hQ St (q0, q1, q2, q3, q4, q5, fdq) (nm_out hI2 (fun q => absurd q c50)) [0, 1, 2, 3, 4, 5] rfl (by decide) [] rfl (by decide) (by decide) dX9_readNumbers_113
        ·
          have i50 := ci_eq (x := q4) (y := 0) rfl (show (0 : Int32).toInt = 0 by decide) c50
          obtain ⟨hz0, hz1, ⟨hz2, hz3⟩, hz4⟩ := NI_0 hI2 c50
          obtain ⟨c9, hc9⟩ : ∃ c9 : Nat, (y_3.toInt - kk.toInt).toNat = c9 + 1 := ⟨(y_3.toInt - kk.toInt).toNat - 1, by omega⟩
          rw [hc9] at hz4
          refine lv_aload_n hx hb dX9_readNumbers_53 rfl (lv_at hl 3 rfl) ?_
          refine lv_aload_n hx hb dX9_readNumbers_54 rfl (lv_at hl 4 rfl) ?_
          refine cs_v St [0, 4, 5] [1, 2, 3] (wc := [(qAAIIIIII h 9 d t q0 q1 q2 q3 q4 q5), (qAI h2 6 b2 nn), (qarI b2 cb 400 f)]) (wr := [(qA d 8 dr), (qarI dr cd 9 fdq), (qarI t ce 6 ft)]) rfl rfl (by decide) (by decide) (va_runV (As := [.ref h2]) (rest := []) F (r9_readToken l G k _ h d t q0 q1 q2 q3 q4 q5 h2 b2 cb nn f (by omega) (by omega) (by omega) (by omega)) (cwVt F mf_X9_readToken km_X9_32 rfl rfl ⟨Nat.le_of_ble_eq_true rfl, Nat.le_of_ble_eq_true rfl⟩) (cs_preV St [0, 4, 5] rfl (by decide) [2] rfl (ci := 9) (q0 := 0) rfl rfl) rfl rfl hl.1 rfl (lv_room (Nat.le_of_ble_eq_true rfl)) dX9_readNumbers_55 ⟨Nat.le_of_ble_eq_true rfl, Nat.le_of_ble_eq_true rfl⟩) (fun u_5 H locs hw St => ?_)
          obtain ⟨rh2_6, rt2_7, rs2_8, rv2_9⟩ := u_5
          try dsimp only at hw
          have ht_10 := hw
          have St : cS G k [(qA d 8 dr), (qarI dr cd 9 fdq), (qarI t ce 6 ft), (qAAIIIIII h 9 d t rh2_6 rt2_7 rs2_8 rv2_9 q4 q5), (qAI h2 6 b2 nn), (qarI b2 cb 400 f)] [(cd, .int), (ce, .boolean), (cb, .byte)] A s H locs := St
          have ht_10b := TK_le (by omega) (by omega) ht_10
          refine lv_aload_n hx hb dX9_readNumbers_58 rfl (lv_at hl 3 rfl) ?_
          refine cs_get F St 3 rfl rfl inX9 3 (by decide) kf_X9_36 rfl dX9_readNumbers_59 ?_
          refine lv_iconst (v := 2) hx hb dX9_readNumbers_62 (by decide) ?_
          refine lv_icmp_eq (tgt := 74) hx hb dX9_readNumbers_63 (by decide) (fun c63 => ?_) (fun c63 => ?_)
          ·
            have i63 := ci_eq (x := rt2_7) (y := 2) rfl (show (2 : Int32).toInt = 2 by decide) c63
            refine lv_iload hx hb dX9_readNumbers_74 (lv_at hl 0 rfl) ?_
            refine lv_aload_n hx hb dX9_readNumbers_76 rfl (lv_at hl 3 rfl) ?_
            refine cs_get F St 3 rfl rfl inX9 5 (by decide) kf_X9_73 rfl dX9_readNumbers_77 ?_
            refine cs_i St [] [0, 1, 2, 3, 4, 5] (wc := []) (wr := [(qA d 8 dr), (qarI dr cd 9 fdq), (qarI t ce 6 ft), (qAAIIIIII h 9 d t rh2_6 rt2_7 rs2_8 rv2_9 q4 q5), (qAI h2 6 b2 nn), (qarI b2 cb 400 f)]) rfl rfl (by decide) (by decide) (va_runS (As := [.int kk, .int rv2_9]) (rest := []) F (r9_isInBounds l G k _ kk rv2_9 (by omega) (by omega)) (cwSt F mf_X9_isInBounds km_X9_76 rfl rfl ⟨Nat.le_of_ble_eq_true rfl, Nat.le_of_ble_eq_true rfl⟩) (cs_pre St [] rfl (by decide) [] rfl) rfl rfl hl.1 rfl (lv_room (Nat.le_of_ble_eq_true rfl)) dX9_readNumbers_80 ⟨Nat.le_of_ble_eq_true rfl, Nat.le_of_ble_eq_true rfl⟩) (fun r_11 u_12 H locs hw St => ?_)
            try dsimp only at hw
            rcases hw with ⟨z_13, hf_14⟩ | ⟨z_15, hf_16⟩
            ·
              subst r_11
              have St : cS G k [(qA d 8 dr), (qarI dr cd 9 fdq), (qarI t ce 6 ft), (qAAIIIIII h 9 d t rh2_6 rt2_7 rs2_8 rv2_9 q4 q5), (qAI h2 6 b2 nn), (qarI b2 cb 400 f)] [(cd, .int), (ce, .boolean), (cb, .byte)] A s H locs := St
              refine lv_if_ne (tgt := 94) hx hb dX9_readNumbers_83 (by decide) (fun c83 => ?_) (fun c83 => ?_)
              rotate_left
              · exact absurd c83 (by decide)
              refine lv_aload_n hx hb dX9_readNumbers_94 rfl (lv_at hl 3 rfl) ?_
              refine cs_get F St 3 rfl rfl inX9 0 (by decide) kf_X9_12 rfl dX9_readNumbers_95 ?_
              refine lv_iload hx hb dX9_readNumbers_98 (lv_at hl 0 rfl) ?_
              refine lv_aload_n hx hb dX9_readNumbers_100 rfl (lv_at hl 3 rfl) ?_
              refine cs_get F St 3 rfl rfl inX9 5 (by decide) kf_X9_73 rfl dX9_readNumbers_101 ?_
              refine cs_v St [0, 1] [2, 3, 4, 5] (wc := [(qA d 8 dr), (qarI dr cd 9 fdq)]) (wr := [(qarI t ce 6 ft), (qAAIIIIII h 9 d t rh2_6 rt2_7 rs2_8 rv2_9 q4 q5), (qAI h2 6 b2 nn), (qarI b2 cb 400 f)]) rfl rfl (by decide) (by decide) (va_runV (As := [.int kk, .int rv2_9]) (rest := []) F (r8_put l G k _ d dr cd fdq kk rv2_9 (by first | omega | decide) (by first | omega | decide)) (cwVt F mf_X8_put km_X9_80 rfl rfl ⟨Nat.le_of_ble_eq_true rfl, Nat.le_of_ble_eq_true rfl⟩) (cs_preV St [0, 1] rfl (by decide) [0] rfl (ci := 8) (q0 := 0) rfl rfl) rfl rfl hl.1 rfl (lv_room (Nat.le_of_ble_eq_true rfl)) dX9_readNumbers_104 ⟨Nat.le_of_ble_eq_true rfl, Nat.le_of_ble_eq_true rfl⟩) (fun u_18 H locs hw St => ?_)
              obtain ⟨f2_19, rfl⟩ : ∃ z, z = u_18 := ⟨_, rfl⟩
              try dsimp only at hw
              have hp_20 := hw
              have St : cS G k [(qarI t ce 6 ft), (qAAIIIIII h 9 d t rh2_6 rt2_7 rs2_8 rv2_9 q4 q5), (qAI h2 6 b2 nn), (qarI b2 cb 400 f), (qA d 8 dr), (qarI dr cd 9 f2_19)] [(cd, .int), (ce, .boolean), (cb, .byte)] A s H locs := St
              obtain ⟨y_21, ey_21⟩ : ∃ zz : Int32, zz = kk + 1 := ⟨_, rfl⟩
              first | have jy_21 : y_21.toInt = kk.toInt + 1 := (by have q9 := ci_add (x := kk) rfl (show (1 : Int32).toInt = 1 by decide) ey_21; omega) | have jy_21 := ci_add (x := kk) rfl (show (1 : Int32).toInt = 1 by decide) ey_21
              refine lv_iinc (v := y_21) (lv' := [(5, .int y_21), (4, .int y_3), (3, .int y_1), (0, .ref h), (1, .ref h2), (2, .int x)]) hx hb dX9_readNumbers_107 hl (k := 0) rfl (by rw [ey_21]; rfl) (by decide) rfl (fun ls hl => ?_)
              refine lv_goto (tgt := 39) hx hb dX9_readNumbers_110 (by decide) ?_
              exact ih y_21 rh2_6 rt2_7 rs2_8 rv2_9 q4 q5 f2_19 _ _ _ ⟨⟨by omega, by omega⟩, Or.inl ⟨hz0, hz1, ⟨by omega, by omega⟩, by rw [show (y_3.toInt - y_21.toInt).toNat = c9 from (by omega), nc_s (x := kk) (y := y_21) (by omega) (by omega), hp_20]; exact (nu_ok ht_10 c63 hf_14).symm.trans hz4⟩⟩ (by omega) (cs_pick St [1, 4, 5, 0, 2, 3] rfl (by decide) [0, 1, 2] rfl) (lv_sub hl [0, 1, 2, 3, 4, 5] rfl)
            ·
              subst r_11
              have St : cS G k [(qA d 8 dr), (qarI dr cd 9 fdq), (qarI t ce 6 ft), (qAAIIIIII h 9 d t rh2_6 rt2_7 rs2_8 rv2_9 q4 q5), (qAI h2 6 b2 nn), (qarI b2 cb 400 f)] [(cd, .int), (ce, .boolean), (cb, .byte)] A s H locs := St
              refine lv_if_ne (tgt := 94) hx hb dX9_readNumbers_83 (by decide) (fun c83 => ?_) (fun c83 => ?_)
              · exact absurd c83 (by decide)
              refine lv_aload_n hx hb dX9_readNumbers_86 rfl (lv_at hl 3 rfl) ?_
              refine lv_iconst (v := 2) hx hb dX9_readNumbers_87 (by decide) ?_
              refine cs_v St [3] [0, 1, 2, 4, 5] (wc := [(qAAIIIIII h 9 d t rh2_6 rt2_7 rs2_8 rv2_9 q4 q5)]) (wr := [(qA d 8 dr), (qarI dr cd 9 fdq), (qarI t ce 6 ft), (qAI h2 6 b2 nn), (qarI b2 cb 400 f)]) rfl rfl (by decide) (by decide) (va_runV (As := [.int 2]) (rest := []) F (x9_refuse l G k _ h d t rh2_6 rt2_7 rs2_8 rv2_9 q4 q5 2) (cwVt F mf_X9_refuse km_X9_55 rfl rfl ⟨Nat.le_of_ble_eq_true rfl, Nat.le_of_ble_eq_true rfl⟩) (cs_preV St [3] rfl (by decide) [] rfl (ci := 9) (q0 := 3) rfl rfl) rfl rfl hl.1 rfl (lv_room (Nat.le_of_ble_eq_true rfl)) dX9_readNumbers_88 ⟨Nat.le_of_ble_eq_true rfl, Nat.le_of_ble_eq_true rfl⟩) (fun u_23 H locs hw St => ?_)
              try dsimp only at hw
              have St : cS G k [(qA d 8 dr), (qarI dr cd 9 fdq), (qarI t ce 6 ft), (qAI h2 6 b2 nn), (qarI b2 cb 400 f), (qAAIIIIII h 9 d t rh2_6 rt2_7 rs2_8 rv2_9 2 rs2_8)] [(cd, .int), (ce, .boolean), (cb, .byte)] A s H locs := St
              refine lv_goto (tgt := 107) hx hb dX9_readNumbers_91 (by decide) ?_
              obtain ⟨y_24, ey_24⟩ : ∃ zz : Int32, zz = kk + 1 := ⟨_, rfl⟩
              first | have jy_24 : y_24.toInt = kk.toInt + 1 := (by have q9 := ci_add (x := kk) rfl (show (1 : Int32).toInt = 1 by decide) ey_24; omega) | have jy_24 := ci_add (x := kk) rfl (show (1 : Int32).toInt = 1 by decide) ey_24
              refine lv_iinc (v := y_24) (lv' := [(5, .int y_24), (4, .int y_3), (3, .int y_1), (0, .ref h), (1, .ref h2), (2, .int x)]) hx hb dX9_readNumbers_107 hl (k := 0) rfl (by rw [ey_24]; rfl) (by decide) rfl (fun ls hl => ?_)
              refine lv_goto (tgt := 39) hx hb dX9_readNumbers_110 (by decide) ?_
              exact ih y_24 rh2_6 rt2_7 rs2_8 rv2_9 2 rs2_8 fdq _ _ _ ⟨⟨by omega, by omega⟩, Or.inr ⟨2, _, hz4.symm.trans (nu_b ht_10 c63 hf_16), by decide, rfl, by omega, rfl⟩⟩ (by omega) (cs_pick St [5, 0, 1, 2, 3, 4] rfl (by decide) [0, 1, 2] rfl) (lv_sub hl [0, 1, 2, 3, 4, 5] rfl)
          ·
            have i63 := ci_ne (x := rt2_7) (y := 2) rfl (show (2 : Int32).toInt = 2 by decide) c63
            refine lv_aload_n hx hb dX9_readNumbers_66 rfl (lv_at hl 3 rfl) ?_
            refine lv_iconst (v := 1) hx hb dX9_readNumbers_67 (by decide) ?_
            refine cs_v St [3] [0, 1, 2, 4, 5] (wc := [(qAAIIIIII h 9 d t rh2_6 rt2_7 rs2_8 rv2_9 q4 q5)]) (wr := [(qA d 8 dr), (qarI dr cd 9 fdq), (qarI t ce 6 ft), (qAI h2 6 b2 nn), (qarI b2 cb 400 f)]) rfl rfl (by decide) (by decide) (va_runV (As := [.int 1]) (rest := []) F (x9_refuse l G k _ h d t rh2_6 rt2_7 rs2_8 rv2_9 q4 q5 1) (cwVt F mf_X9_refuse km_X9_55 rfl rfl ⟨Nat.le_of_ble_eq_true rfl, Nat.le_of_ble_eq_true rfl⟩) (cs_preV St [3] rfl (by decide) [] rfl (ci := 9) (q0 := 3) rfl rfl) rfl rfl hl.1 rfl (lv_room (Nat.le_of_ble_eq_true rfl)) dX9_readNumbers_68 ⟨Nat.le_of_ble_eq_true rfl, Nat.le_of_ble_eq_true rfl⟩) (fun u_26 H locs hw St => ?_)
            try dsimp only at hw
            have St : cS G k [(qA d 8 dr), (qarI dr cd 9 fdq), (qarI t ce 6 ft), (qAI h2 6 b2 nn), (qarI b2 cb 400 f), (qAAIIIIII h 9 d t rh2_6 rt2_7 rs2_8 rv2_9 1 rs2_8)] [(cd, .int), (ce, .boolean), (cb, .byte)] A s H locs := St
            refine lv_goto (tgt := 107) hx hb dX9_readNumbers_71 (by decide) ?_
            obtain ⟨y_27, ey_27⟩ : ∃ zz : Int32, zz = kk + 1 := ⟨_, rfl⟩
            first | have jy_27 : y_27.toInt = kk.toInt + 1 := (by have q9 := ci_add (x := kk) rfl (show (1 : Int32).toInt = 1 by decide) ey_27; omega) | have jy_27 := ci_add (x := kk) rfl (show (1 : Int32).toInt = 1 by decide) ey_27
            refine lv_iinc (v := y_27) (lv' := [(5, .int y_27), (4, .int y_3), (3, .int y_1), (0, .ref h), (1, .ref h2), (2, .int x)]) hx hb dX9_readNumbers_107 hl (k := 0) rfl (by rw [ey_27]; rfl) (by decide) rfl (fun ls hl => ?_)
            refine lv_goto (tgt := 39) hx hb dX9_readNumbers_110 (by decide) ?_
            exact ih y_27 rh2_6 rt2_7 rs2_8 rv2_9 1 rs2_8 fdq _ _ _ ⟨⟨by omega, by omega⟩, Or.inr ⟨1, _, hz4.symm.trans (nu_s ht_10 c63), by decide, rfl, by omega, rfl⟩⟩ (by omega) (cs_pick St [5, 0, 1, 2, 3, 4] rfl (by decide) [0, 1, 2] rfl) (lv_sub hl [0, 1, 2, 3, 4, 5] rfl)
  exact lp39 9 y_1 rh rt rs rv rk rp fd _ _ _ ⟨⟨by omega, by omega⟩, Or.inl ⟨hk0, rfl, ⟨by omega, by omega⟩, by rw [show (y_3.toInt - y_1.toInt).toNat = y_2.toNatClampNeg from (by have := nc_int (x := y_2) (by omega); omega), ey_1, ey_2]⟩⟩ (by omega) St (lv_sub hl [0, 1, 2, 3, 4, 5] rfl)
set_option maxHeartbeats 4000000 in
set_option maxRecDepth 100000 in
theorem r9_readLine (l : Launch) (G : va_G) (k : Nat → Nat) (sz : Nat) (h : Nat) (d : Nat) (dr : Nat) (t : Nat) (cd : ClassId) (ce : ClassId) (rh : Int32) (rt : Int32) (rs : Int32) (rv : Int32) (rk : Int32) (rp : Int32) (fd : Nat → Int32) (ft : Nat → Int32) (h2 : Nat) (b2 : Nat) (cb : ClassId) (nn : Int32) (f : Nat → Int32) (j0 : Int32) (hn0 : 0 ≤ nn.toInt) (hn1 : nn.toInt ≤ 400) (hh0 : 0 ≤ rh.toInt) (hh1 : rh.toInt ≤ nn.toInt) (hs0 : 0 ≤ rs.toInt) (hs1 : rs.toInt ≤ rh.toInt) (hk0 : rk = 0) (hj0 : 0 ≤ j0.toInt) (hj1 : j0.toInt ≤ nn.toInt) (ht0 : TK f nn j0 rt rs rh rv) : Met l yX9_readLine (Cond.code yX9_readLine cX9_readLine 3 none :: tb) ({ frames := 6, cells := 0, slots := 0, locals := 129 } : Room) (va_Pc [.ref h, .ref h2] (cP G k [(qAAIIIIII h 9 d t rh rt rs rv rk rp), (qA d 8 dr), (qarI dr cd 9 fd), (qarI t ce 6 ft), (qAI h2 6 b2 nn), (qarI b2 cb 400 f)] [(cd, .int), (ce, .boolean), (cb, .byte)] sz)) (va_Qv (fun (u : Int32 × Int32 × Int32 × Int32 × Int32 × Int32 × (Nat → Int32) × (Nat → Int32)) => match u with | (rh2, rt2, rs2, rv2, rk2, rp2, fd2, ft2) => (SR (stp f nn.toNatClampNeg ft fd j0.toNatClampNeg) nn rp rk2 rp2 rh2 ft2 fd2)) (cB G (fun u => match u with | (rh2, rt2, rs2, rv2, rk2, rp2, fd2, ft2) => [(qAAIIIIII h 9 d t rh2 rt2 rs2 rv2 rk2 rp2), (qA d 8 dr), (qarI dr cd 9 fd2), (qarI t ce 6 ft2), (qAI h2 6 b2 nn), (qarI b2 cb 400 f)]) (fun u => match u with | (rh2, rt2, rs2, rv2, rk2, rp2, fd2, ft2) => []) (va_A [(qAAIIIIII h 9 d t rh rt rs rv rk rp), (qA d 8 dr), (qarI dr cd 9 fd), (qarI t ce 6 ft), (qAI h2 6 b2 nn), (qarI b2 cb 400 f)] sz)) (va_A [(qAAIIIIII h 9 d t rh rt rs rv rk rp), (qA d 8 dr), (qarI dr cd 9 fd), (qarI t ce 6 ft), (qAI h2 6 b2 nn), (qarI b2 cb 400 f)] sz)) 0 0 (va_A [(qAAIIIIII h 9 d t rh rt rs rv rk rp), (qA d 8 dr), (qarI dr cd 9 fd), (qarI t ce 6 ft), (qAI h2 6 b2 nn), (qarI b2 cb 400 f)] sz) := by
  refine ofC_v (cc := cX9_readLine) (maxL := 3) (ret := none) (by decide) rfl (Nat.le_of_ble_eq_true rfl) ?_
  intro p e s m args below meth c A ls Q F hr hin hlk St hl hQ
  have hx := F.1
  have hb := F.2.1
  have hl : lv_has ls 3 [(0, .ref h), (1, .ref h2)] := hl
  have St : cS G k [(qAAIIIIII h 9 d t rh rt rs rv rk rp), (qA d 8 dr), (qarI dr cd 9 fd), (qarI t ce 6 ft), (qAI h2 6 b2 nn), (qarI b2 cb 400 f)] [(cd, .int), (ce, .boolean), (cb, .byte)] A s s.heap [] := St
  have y0 : (0 : Int32).toInt = 0 := by decide
  refine lv_aload_n hx hb dX9_readLine_0 rfl (lv_at hl 0 rfl) ?_
  refine cs_get F St 0 rfl rfl inX9 3 (by decide) kf_X9_36 rfl dX9_readLine_1 ?_
  refine lv_iconst (v := 1) hx hb dX9_readLine_4 (by decide) ?_
  refine lv_icmp_ne (tgt := 16) hx hb dX9_readLine_5 (by decide) (fun c5 => ?_) (fun c5 => ?_)
  ·
    have i5 := ci_ne (x := rt) (y := 1) rfl (show (1 : Int32).toInt = 1 by decide) c5
    refine lv_iconst (v := (-1)) hx hb dX9_readLine_16 (by decide) ?_
    refine lv_istore_n (lv' := [(2, .int (-1)), (0, .ref h), (1, .ref h2)]) hx hb dX9_readLine_17 rfl hl (by decide) rfl (fun ls hl => ?_)
    refine lv_iload_n hx hb dX9_readLine_18 rfl (lv_at hl 0 rfl) ?_
    refine lv_if_lt (tgt := 28) hx hb dX9_readLine_19 (by decide) (fun c19 => ?_) (fun c19 => ?_)
    rotate_left
    · exact absurd (by decide) c19
    refine lv_aload_n hx hb dX9_readLine_28 rfl (lv_at hl 1 rfl) ?_
    refine lv_iconst (v := 1) hx hb dX9_readLine_29 (by decide) ?_
    refine cs_v St [0] [1, 2, 3, 4, 5] (wc := [(qAAIIIIII h 9 d t rh rt rs rv rk rp)]) (wr := [(qA d 8 dr), (qarI dr cd 9 fd), (qarI t ce 6 ft), (qAI h2 6 b2 nn), (qarI b2 cb 400 f)]) rfl rfl (by decide) (by decide) (va_runV (As := [.int 1]) (rest := []) F (x9_refuse l G k _ h d t rh rt rs rv rk rp 1) (cwVt F mf_X9_refuse km_X9_55 rfl rfl ⟨Nat.le_of_ble_eq_true rfl, Nat.le_of_ble_eq_true rfl⟩) (cs_preV St [0] rfl (by decide) [] rfl (ci := 9) (q0 := 0) rfl rfl) rfl rfl hl.1 rfl (lv_room (Nat.le_of_ble_eq_true rfl)) dX9_readLine_30 ⟨Nat.le_of_ble_eq_true rfl, Nat.le_of_ble_eq_true rfl⟩) (fun u_2 H locs hw St => ?_)
    try dsimp only at hw
    have St : cS G k [(qA d 8 dr), (qarI dr cd 9 fd), (qarI t ce 6 ft), (qAI h2 6 b2 nn), (qarI b2 cb 400 f), (qAAIIIIII h 9 d t rh rt rs rv 1 rs)] [(cd, .int), (ce, .boolean), (cb, .byte)] A s H locs := St
    exact cs_vret F hr hlk hQ St (rh, rt, rs, rv, 1, rs, fd, ft) (Or.inl ⟨1, _, sp_no ht0 (fun q => c5 q.1), by decide, rfl, by omega, rfl⟩) [5, 0, 1, 2, 3, 4] rfl (by decide) [] rfl (by decide) (by decide) dX9_readLine_33
  ·
    have i5 := ci_eq (x := rt) (y := 1) rfl (show (1 : Int32).toInt = 1 by decide) c5
    refine lv_aload_n hx hb dX9_readLine_8 rfl (lv_at hl 0 rfl) ?_
    refine lv_aload_n hx hb dX9_readLine_9 rfl (lv_at hl 1 rfl) ?_
    refine cs_i St [0, 4, 5] [1, 2, 3] (wc := [(qAAIIIIII h 9 d t rh rt rs rv rk rp), (qAI h2 6 b2 nn), (qarI b2 cb 400 f)]) (wr := [(qA d 8 dr), (qarI dr cd 9 fd), (qarI t ce 6 ft)]) rfl rfl (by decide) (by decide) (va_runV (As := [.ref h2]) (rest := []) F (r9_lineOfWord l G k _ h d t rh rt rs rv rk rp h2 b2 cb nn f (by omega) (by omega) (by omega) (by omega) (by omega) (by omega)) (cwVt F mf_X9_lineOfWord km_X9_51 rfl rfl ⟨Nat.le_of_ble_eq_true rfl, Nat.le_of_ble_eq_true rfl⟩) (cs_preV St [0, 4, 5] rfl (by decide) [2] rfl (ci := 9) (q0 := 0) rfl rfl) rfl rfl hl.1 rfl (lv_room (Nat.le_of_ble_eq_true rfl)) dX9_readLine_10 ⟨Nat.le_of_ble_eq_true rfl, Nat.le_of_ble_eq_true rfl⟩) (fun r_3 u_4 H locs hw St => ?_)
    try dsimp only at hw
    have hk_5 := hw
    have St : cS G k [(qA d 8 dr), (qarI dr cd 9 fd), (qarI t ce 6 ft), (qAAIIIIII h 9 d t rh rt rs rv rk rp), (qAI h2 6 b2 nn), (qarI b2 cb 400 f)] [(cd, .int), (ce, .boolean), (cb, .byte)] A s H locs := St
    have hlb := lnO_bd f rs.toNatClampNeg rh.toNatClampNeg
    rw [← hk_5] at hlb
    have nl := nc_int (x := r_3)
    refine lv_goto (tgt := 17) hx hb dX9_readLine_13 (by decide) ?_
    refine lv_istore_n (lv' := [(2, .int r_3), (0, .ref h), (1, .ref h2)]) hx hb dX9_readLine_17 rfl hl (by decide) rfl (fun ls hl => ?_)
    refine lv_iload_n hx hb dX9_readLine_18 rfl (lv_at hl 0 rfl) ?_
    refine lv_if_lt (tgt := 28) hx hb dX9_readLine_19 (by decide) (fun c19 => ?_) (fun c19 => ?_)
    ·
      have i19 := ci_lt (x := r_3) (y := 0) rfl (show (0 : Int32).toInt = 0 by decide) c19
      refine lv_aload_n hx hb dX9_readLine_28 rfl (lv_at hl 1 rfl) ?_
      refine lv_iconst (v := 1) hx hb dX9_readLine_29 (by decide) ?_
      refine cs_v St [3] [0, 1, 2, 4, 5] (wc := [(qAAIIIIII h 9 d t rh rt rs rv rk rp)]) (wr := [(qA d 8 dr), (qarI dr cd 9 fd), (qarI t ce 6 ft), (qAI h2 6 b2 nn), (qarI b2 cb 400 f)]) rfl rfl (by decide) (by decide) (va_runV (As := [.int 1]) (rest := []) F (x9_refuse l G k _ h d t rh rt rs rv rk rp 1) (cwVt F mf_X9_refuse km_X9_55 rfl rfl ⟨Nat.le_of_ble_eq_true rfl, Nat.le_of_ble_eq_true rfl⟩) (cs_preV St [3] rfl (by decide) [] rfl (ci := 9) (q0 := 3) rfl rfl) rfl rfl hl.1 rfl (lv_room (Nat.le_of_ble_eq_true rfl)) dX9_readLine_30 ⟨Nat.le_of_ble_eq_true rfl, Nat.le_of_ble_eq_true rfl⟩) (fun u_7 H locs hw St => ?_)
      try dsimp only at hw
      have St : cS G k [(qA d 8 dr), (qarI dr cd 9 fd), (qarI t ce 6 ft), (qAI h2 6 b2 nn), (qarI b2 cb 400 f), (qAAIIIIII h 9 d t rh rt rs rv 1 rs)] [(cd, .int), (ce, .boolean), (cb, .byte)] A s H locs := St
      exact cs_vret F hr hlk hQ St (rh, rt, rs, rv, 1, rs, fd, ft) (Or.inl ⟨1, _, sp_no ht0 (fun q => q.2 (hk_5.symm.trans (i32_m1 (by omega) (by omega)))), by decide, rfl, by omega, rfl⟩) [5, 0, 1, 2, 3, 4] rfl (by decide) [] rfl (by decide) (by decide) dX9_readLine_33
    ·
      have i19 := ci_nlt (x := r_3) (y := 0) rfl (show (0 : Int32).toInt = 0 by decide) c19
      refine lv_iload_n hx hb dX9_readLine_22 rfl (lv_at hl 0 rfl) ?_
      refine lv_bipush (v := 6) hx hb dX9_readLine_23 (by decide) ?_
      refine lv_icmp_lt (tgt := 34) hx hb dX9_readLine_25 (by decide) (fun c25 => ?_) (fun c25 => ?_)
      rotate_left
      · have i25 := ci_nlt (x := r_3) (y := 6) rfl (show (6 : Int32).toInt = 6 by decide) c25; exact False.elim (by omega)
      have i25 := ci_lt (x := r_3) (y := 6) rfl (show (6 : Int32).toInt = 6 by decide) c25
      refine lv_aload_n hx hb dX9_readLine_34 rfl (lv_at hl 1 rfl) ?_
      refine cs_get F St 3 rfl rfl inX9 1 (by decide) kf_X9_18 rfl dX9_readLine_35 ?_
      refine lv_iload_n hx hb dX9_readLine_38 rfl (lv_at hl 0 rfl) ?_
      refine cs_zld F St 2 1 rfl rfl (vp_in_iff.mpr ⟨by omega, by omega⟩) dX9_readLine_39 ?_
      refine lv_topi (fun y_8 ey_8 => ?_)
      refine lv_if_eq (tgt := 49) hx hb dX9_readLine_40 (by decide) (fun c40 => ?_) (fun c40 => ?_)
      ·
        have i40 := ci_eq (x := y_8) (y := 0) rfl (show (0 : Int32).toInt = 0 by decide) c40
        have hT0 : ft r_3.toNatClampNeg = 0 := by rw [← ey_8]; exact c40
        refine lv_aload_n hx hb dX9_readLine_49 rfl (lv_at hl 1 rfl) ?_
        refine cs_get F St 3 rfl rfl inX9 1 (by decide) kf_X9_18 rfl dX9_readLine_50 ?_
        refine lv_iload_n hx hb dX9_readLine_53 rfl (lv_at hl 0 rfl) ?_
        refine lv_iconst (v := 1) hx hb dX9_readLine_54 (by decide) ?_
        refine cs_zst F St 2 1 rfl rfl (vp_in_iff.mpr ⟨by omega, by omega⟩) (w' := [(qA d 8 dr), (qarI dr cd 9 fd), (qarI t ce 6 (upd ft (r_3 : Int32).toNatClampNeg (vp_nar .boolean 1))), (qAAIIIIII h 9 d t rh rt rs rv rk rp), (qAI h2 6 b2 nn), (qarI b2 cb 400 f)]) rfl dX9_readLine_55 (fun H locs St => ?_)
        obtain ⟨f_9, ef_9⟩ : ∃ zz : Nat → Int32, zz = upd ft (r_3 : Int32).toNatClampNeg (vp_nar .boolean 1) := ⟨_, rfl⟩
        rw [← ef_9] at St
        refine lv_iload_n hx hb dX9_readLine_56 rfl (lv_at hl 0 rfl) ?_
        refine lv_iconst (v := 5) hx hb dX9_readLine_57 (by decide) ?_
        refine lv_icmp_ne (tgt := 69) hx hb dX9_readLine_58 (by decide) (fun c58 => ?_) (fun c58 => ?_)
        ·
          have i58 := ci_ne (x := r_3) (y := 5) rfl (show (5 : Int32).toInt = 5 by decide) c58
          refine lv_aload_n hx hb dX9_readLine_69 rfl (lv_at hl 1 rfl) ?_
          refine lv_aload_n hx hb dX9_readLine_70 rfl (lv_at hl 2 rfl) ?_
          refine lv_iload_n hx hb dX9_readLine_71 rfl (lv_at hl 0 rfl) ?_
          refine cs_v St [3, 0, 1, 2, 4, 5] [] (wc := [(qAAIIIIII h 9 d t rh rt rs rv rk rp), (qA d 8 dr), (qarI dr cd 9 fd), (qarI t ce 6 f_9), (qAI h2 6 b2 nn), (qarI b2 cb 400 f)]) (wr := []) rfl rfl (by decide) (by decide) (va_runV (As := [.ref h2, .int r_3]) (rest := []) F (r9_readNumbers l G k _ h d dr t cd ce rh rt rs rv rk rp fd f_9 h2 b2 cb nn f r_3 (by omega) (by omega) (by omega) (by omega) (by first | assumption | rfl) (by omega) (by omega)) (cwVt F mf_X9_readNumbers km_X9_62 rfl rfl ⟨Nat.le_of_ble_eq_true rfl, Nat.le_of_ble_eq_true rfl⟩) (cs_preV St [3, 0, 1, 2, 4, 5] rfl (by decide) [0, 1, 2] rfl (ci := 9) (q0 := 3) rfl rfl) rfl rfl hl.1 rfl (lv_room (Nat.le_of_ble_eq_true rfl)) dX9_readLine_72 ⟨Nat.le_of_ble_eq_true rfl, Nat.le_of_ble_eq_true rfl⟩) (fun u_11 H locs hw St => ?_)
          obtain ⟨rh2_12, rt2_13, rs2_14, rv2_15, rk2_16, rp2_17, fd2_18⟩ := u_11
          try dsimp only at hw
          have hL_19 := hw
          have St : cS G k [(qAAIIIIII h 9 d t rh2_12 rt2_13 rs2_14 rv2_15 rk2_16 rp2_17), (qA d 8 dr), (qarI dr cd 9 fd2_18), (qarI t ce 6 f_9), (qAI h2 6 b2 nn), (qarI b2 cb 400 f)] [(cd, .int), (ce, .boolean), (cb, .byte)] A s H locs := St
          have hS9 : LR (lnS f nn.toNatClampNeg r_3.toNatClampNeg fd rh.toNatClampNeg) nn rp rk2_16 rp2_17 rh2_12 fd2_18 := by rw [lnS_n (fun q => c58 (Int32.toInt_inj.mp (by rw [show (5 : Int32).toInt = 5 from by decide]; have := nl (by omega); omega)))]; exact hL_19
          refine lv_aload_n hx hb dX9_readLine_75 rfl (lv_at hl 1 rfl) ?_
          refine cs_get F St 0 rfl rfl inX9 6 (by decide) kf_X9_26 rfl dX9_readLine_76 ?_
          refine lv_if_ne (tgt := 100) hx hb dX9_readLine_79 (by decide) (fun c79 => ?_) (fun c79 => ?_)
          ·
            have i79 := ci_ne (x := rk2_16) (y := 0) rfl (show (0 : Int32).toInt = 0 by decide) c79
            exact cs_vret F hr hlk hQ St (rh2_12, rt2_13, rs2_14, rv2_15, rk2_16, rp2_17, fd2_18, f_9) (hS9.elim (fun ⟨q, p, a, b, d, r⟩ => Or.inl ⟨q, p, sp_bad ht0 c5 hk_5 (fun q => by rw [q, show (-1 : Int32).toInt = -1 from by decide] at i19; omega) hT0 a, b, d, r⟩) (fun ⟨_, _, a, _⟩ => absurd a c79)) [0, 1, 2, 3, 4, 5] rfl (by decide) [] rfl (by decide) (by decide) dX9_readLine_100
          ·
            have i79 := ci_eq (x := rk2_16) (y := 0) rfl (show (0 : Int32).toInt = 0 by decide) c79
            obtain ⟨j9, hS8, hz9, hp9, ⟨hb9, hb8⟩, hj9⟩ := hS9.resolve_left (fun ⟨q, p, _, a, b, _⟩ => a (b.symm.trans c79))
            subst hj9
            refine lv_aload_n hx hb dX9_readLine_82 rfl (lv_at hl 1 rfl) ?_
            refine lv_aload_n hx hb dX9_readLine_83 rfl (lv_at hl 2 rfl) ?_
            refine cs_v St [0, 4, 5] [1, 2, 3] (wc := [(qAAIIIIII h 9 d t rh2_12 rt2_13 rs2_14 rv2_15 rk2_16 rp2_17), (qAI h2 6 b2 nn), (qarI b2 cb 400 f)]) (wr := [(qA d 8 dr), (qarI dr cd 9 fd2_18), (qarI t ce 6 f_9)]) rfl rfl (by decide) (by decide) (va_runV (As := [.ref h2]) (rest := []) F (r9_readToken l G k _ h d t rh2_12 rt2_13 rs2_14 rv2_15 rk2_16 rp2_17 h2 b2 cb nn f (by omega) (by omega) (by omega) (by omega)) (cwVt F mf_X9_readToken km_X9_32 rfl rfl ⟨Nat.le_of_ble_eq_true rfl, Nat.le_of_ble_eq_true rfl⟩) (cs_preV St [0, 4, 5] rfl (by decide) [2] rfl (ci := 9) (q0 := 0) rfl rfl) rfl rfl hl.1 rfl (lv_room (Nat.le_of_ble_eq_true rfl)) dX9_readLine_84 ⟨Nat.le_of_ble_eq_true rfl, Nat.le_of_ble_eq_true rfl⟩) (fun u_21 H locs hw St => ?_)
            obtain ⟨rh2_22, rt2_23, rs2_24, rv2_25⟩ := u_21
            try dsimp only at hw
            have ht_26 := hw
            have St : cS G k [(qA d 8 dr), (qarI dr cd 9 fd2_18), (qarI t ce 6 f_9), (qAAIIIIII h 9 d t rh2_22 rt2_23 rs2_24 rv2_25 rk2_16 rp2_17), (qAI h2 6 b2 nn), (qarI b2 cb 400 f)] [(cd, .int), (ce, .boolean), (cb, .byte)] A s H locs := St
            have ht_26b := TK_le (by omega) (by omega) ht_26
            refine lv_aload_n hx hb dX9_readLine_87 rfl (lv_at hl 1 rfl) ?_
            refine cs_get F St 3 rfl rfl inX9 3 (by decide) kf_X9_36 rfl dX9_readLine_88 ?_
            refine lv_iconst (v := 3) hx hb dX9_readLine_91 (by decide) ?_
            refine lv_icmp_eq (tgt := 100) hx hb dX9_readLine_92 (by decide) (fun c92 => ?_) (fun c92 => ?_)
            ·
              have i92 := ci_eq (x := rt2_23) (y := 3) rfl (show (3 : Int32).toInt = 3 by decide) c92
              exact cs_vret F hr hlk hQ St (rh2_22, rt2_23, rs2_24, rv2_25, rk2_16, rp2_17, fd2_18, f_9) (Or.inr ⟨(sp_ok ht0 c5 hk_5 (fun q => by rw [q, show (-1 : Int32).toInt = -1 from by decide] at i19; omega) hT0 hS8 ht_26 c92).trans (by rw [ef_9, nar_z1]), hz9, hp9, ⟨by omega, by omega⟩⟩) [3, 0, 1, 2, 4, 5] rfl (by decide) [] rfl (by decide) (by decide) dX9_readLine_100
            ·
              have i92 := ci_ne (x := rt2_23) (y := 3) rfl (show (3 : Int32).toInt = 3 by decide) c92
              refine lv_aload_n hx hb dX9_readLine_95 rfl (lv_at hl 1 rfl) ?_
              refine lv_iconst (v := 1) hx hb dX9_readLine_96 (by decide) ?_
              refine cs_v St [3] [0, 1, 2, 4, 5] (wc := [(qAAIIIIII h 9 d t rh2_22 rt2_23 rs2_24 rv2_25 rk2_16 rp2_17)]) (wr := [(qA d 8 dr), (qarI dr cd 9 fd2_18), (qarI t ce 6 f_9), (qAI h2 6 b2 nn), (qarI b2 cb 400 f)]) rfl rfl (by decide) (by decide) (va_runV (As := [.int 1]) (rest := []) F (x9_refuse l G k _ h d t rh2_22 rt2_23 rs2_24 rv2_25 rk2_16 rp2_17 1) (cwVt F mf_X9_refuse km_X9_55 rfl rfl ⟨Nat.le_of_ble_eq_true rfl, Nat.le_of_ble_eq_true rfl⟩) (cs_preV St [3] rfl (by decide) [] rfl (ci := 9) (q0 := 3) rfl rfl) rfl rfl hl.1 rfl (lv_room (Nat.le_of_ble_eq_true rfl)) dX9_readLine_97 ⟨Nat.le_of_ble_eq_true rfl, Nat.le_of_ble_eq_true rfl⟩) (fun u_28 H locs hw St => ?_)
              try dsimp only at hw
              have St : cS G k [(qA d 8 dr), (qarI dr cd 9 fd2_18), (qarI t ce 6 f_9), (qAI h2 6 b2 nn), (qarI b2 cb 400 f), (qAAIIIIII h 9 d t rh2_22 rt2_23 rs2_24 rv2_25 1 rs2_24)] [(cd, .int), (ce, .boolean), (cb, .byte)] A s H locs := St
              exact cs_vret F hr hlk hQ St (rh2_22, rt2_23, rs2_24, rv2_25, 1, rs2_24, fd2_18, f_9) (Or.inl ⟨1, _, sp_semi ht0 c5 hk_5 (fun q => by rw [q, show (-1 : Int32).toInt = -1 from by decide] at i19; omega) hT0 hS8 ht_26 c92, by decide, rfl, by omega, rfl⟩) [5, 0, 1, 2, 3, 4] rfl (by decide) [] rfl (by decide) (by decide) dX9_readLine_100
        ·
          have i58 := ci_eq (x := r_3) (y := 5) rfl (show (5 : Int32).toInt = 5 by decide) c58
          refine lv_aload_n hx hb dX9_readLine_61 rfl (lv_at hl 1 rfl) ?_
          refine lv_aload_n hx hb dX9_readLine_62 rfl (lv_at hl 2 rfl) ?_
          refine cs_v St [3, 0, 1, 2, 4, 5] [] (wc := [(qAAIIIIII h 9 d t rh rt rs rv rk rp), (qA d 8 dr), (qarI dr cd 9 fd), (qarI t ce 6 f_9), (qAI h2 6 b2 nn), (qarI b2 cb 400 f)]) (wr := []) rfl rfl (by decide) (by decide) (va_runV (As := [.ref h2]) (rest := []) F (r9_readStop l G k _ h d dr t cd ce rh rt rs rv rk rp fd f_9 h2 b2 cb nn f (by omega) (by omega) (by omega) (by omega) (by first | assumption | rfl)) (cwVt F mf_X9_readStop km_X9_59 rfl rfl ⟨Nat.le_of_ble_eq_true rfl, Nat.le_of_ble_eq_true rfl⟩) (cs_preV St [3, 0, 1, 2, 4, 5] rfl (by decide) [0, 1, 2] rfl (ci := 9) (q0 := 3) rfl rfl) rfl rfl hl.1 rfl (lv_room (Nat.le_of_ble_eq_true rfl)) dX9_readLine_63 ⟨Nat.le_of_ble_eq_true rfl, Nat.le_of_ble_eq_true rfl⟩) (fun u_30 H locs hw St => ?_)
          obtain ⟨rh2_31, rt2_32, rs2_33, rv2_34, rk2_35, rp2_36, fd2_37⟩ := u_30
          try dsimp only at hw
          have hL_38 := hw
          have St : cS G k [(qAAIIIIII h 9 d t rh2_31 rt2_32 rs2_33 rv2_34 rk2_35 rp2_36), (qA d 8 dr), (qarI dr cd 9 fd2_37), (qarI t ce 6 f_9), (qAI h2 6 b2 nn), (qarI b2 cb 400 f)] [(cd, .int), (ce, .boolean), (cb, .byte)] A s H locs := St
          have hS9 : LR (lnS f nn.toNatClampNeg r_3.toNatClampNeg fd rh.toNatClampNeg) nn rp rk2_35 rp2_36 rh2_31 fd2_37 := by rw [show r_3.toNatClampNeg = 5 from (by rw [c58]; rfl)]; exact hL_38
          refine lv_goto (tgt := 75) hx hb dX9_readLine_66 (by decide) ?_
          refine lv_aload_n hx hb dX9_readLine_75 rfl (lv_at hl 1 rfl) ?_
          refine cs_get F St 0 rfl rfl inX9 6 (by decide) kf_X9_26 rfl dX9_readLine_76 ?_
          refine lv_if_ne (tgt := 100) hx hb dX9_readLine_79 (by decide) (fun c79 => ?_) (fun c79 => ?_)
          ·
            have i79 := ci_ne (x := rk2_35) (y := 0) rfl (show (0 : Int32).toInt = 0 by decide) c79
            exact cs_vret F hr hlk hQ St (rh2_31, rt2_32, rs2_33, rv2_34, rk2_35, rp2_36, fd2_37, f_9) (hS9.elim (fun ⟨q, p, a, b, d, r⟩ => Or.inl ⟨q, p, sp_bad ht0 c5 hk_5 (fun q => by rw [q, show (-1 : Int32).toInt = -1 from by decide] at i19; omega) hT0 a, b, d, r⟩) (fun ⟨_, _, a, _⟩ => absurd a c79)) [0, 1, 2, 3, 4, 5] rfl (by decide) [] rfl (by decide) (by decide) dX9_readLine_100
          ·
            have i79 := ci_eq (x := rk2_35) (y := 0) rfl (show (0 : Int32).toInt = 0 by decide) c79
            obtain ⟨j9, hS8, hz9, hp9, ⟨hb9, hb8⟩, hj9⟩ := hS9.resolve_left (fun ⟨q, p, _, a, b, _⟩ => a (b.symm.trans c79))
            subst hj9
            refine lv_aload_n hx hb dX9_readLine_82 rfl (lv_at hl 1 rfl) ?_
            refine lv_aload_n hx hb dX9_readLine_83 rfl (lv_at hl 2 rfl) ?_
            refine cs_v St [0, 4, 5] [1, 2, 3] (wc := [(qAAIIIIII h 9 d t rh2_31 rt2_32 rs2_33 rv2_34 rk2_35 rp2_36), (qAI h2 6 b2 nn), (qarI b2 cb 400 f)]) (wr := [(qA d 8 dr), (qarI dr cd 9 fd2_37), (qarI t ce 6 f_9)]) rfl rfl (by decide) (by decide) (va_runV (As := [.ref h2]) (rest := []) F (r9_readToken l G k _ h d t rh2_31 rt2_32 rs2_33 rv2_34 rk2_35 rp2_36 h2 b2 cb nn f (by omega) (by omega) (by omega) (by omega)) (cwVt F mf_X9_readToken km_X9_32 rfl rfl ⟨Nat.le_of_ble_eq_true rfl, Nat.le_of_ble_eq_true rfl⟩) (cs_preV St [0, 4, 5] rfl (by decide) [2] rfl (ci := 9) (q0 := 0) rfl rfl) rfl rfl hl.1 rfl (lv_room (Nat.le_of_ble_eq_true rfl)) dX9_readLine_84 ⟨Nat.le_of_ble_eq_true rfl, Nat.le_of_ble_eq_true rfl⟩) (fun u_40 H locs hw St => ?_)
            obtain ⟨rh2_41, rt2_42, rs2_43, rv2_44⟩ := u_40
            try dsimp only at hw
            have ht_45 := hw
            have St : cS G k [(qA d 8 dr), (qarI dr cd 9 fd2_37), (qarI t ce 6 f_9), (qAAIIIIII h 9 d t rh2_41 rt2_42 rs2_43 rv2_44 rk2_35 rp2_36), (qAI h2 6 b2 nn), (qarI b2 cb 400 f)] [(cd, .int), (ce, .boolean), (cb, .byte)] A s H locs := St
            have ht_45b := TK_le (by omega) (by omega) ht_45
            refine lv_aload_n hx hb dX9_readLine_87 rfl (lv_at hl 1 rfl) ?_
            refine cs_get F St 3 rfl rfl inX9 3 (by decide) kf_X9_36 rfl dX9_readLine_88 ?_
            refine lv_iconst (v := 3) hx hb dX9_readLine_91 (by decide) ?_
            refine lv_icmp_eq (tgt := 100) hx hb dX9_readLine_92 (by decide) (fun c92 => ?_) (fun c92 => ?_)
            ·
              have i92 := ci_eq (x := rt2_42) (y := 3) rfl (show (3 : Int32).toInt = 3 by decide) c92
              exact cs_vret F hr hlk hQ St (rh2_41, rt2_42, rs2_43, rv2_44, rk2_35, rp2_36, fd2_37, f_9) (Or.inr ⟨(sp_ok ht0 c5 hk_5 (fun q => by rw [q, show (-1 : Int32).toInt = -1 from by decide] at i19; omega) hT0 hS8 ht_45 c92).trans (by rw [ef_9, nar_z1]), hz9, hp9, ⟨by omega, by omega⟩⟩) [3, 0, 1, 2, 4, 5] rfl (by decide) [] rfl (by decide) (by decide) dX9_readLine_100
            ·
              have i92 := ci_ne (x := rt2_42) (y := 3) rfl (show (3 : Int32).toInt = 3 by decide) c92
              refine lv_aload_n hx hb dX9_readLine_95 rfl (lv_at hl 1 rfl) ?_
              refine lv_iconst (v := 1) hx hb dX9_readLine_96 (by decide) ?_
              refine cs_v St [3] [0, 1, 2, 4, 5] (wc := [(qAAIIIIII h 9 d t rh2_41 rt2_42 rs2_43 rv2_44 rk2_35 rp2_36)]) (wr := [(qA d 8 dr), (qarI dr cd 9 fd2_37), (qarI t ce 6 f_9), (qAI h2 6 b2 nn), (qarI b2 cb 400 f)]) rfl rfl (by decide) (by decide) (va_runV (As := [.int 1]) (rest := []) F (x9_refuse l G k _ h d t rh2_41 rt2_42 rs2_43 rv2_44 rk2_35 rp2_36 1) (cwVt F mf_X9_refuse km_X9_55 rfl rfl ⟨Nat.le_of_ble_eq_true rfl, Nat.le_of_ble_eq_true rfl⟩) (cs_preV St [3] rfl (by decide) [] rfl (ci := 9) (q0 := 3) rfl rfl) rfl rfl hl.1 rfl (lv_room (Nat.le_of_ble_eq_true rfl)) dX9_readLine_97 ⟨Nat.le_of_ble_eq_true rfl, Nat.le_of_ble_eq_true rfl⟩) (fun u_47 H locs hw St => ?_)
              try dsimp only at hw
              have St : cS G k [(qA d 8 dr), (qarI dr cd 9 fd2_37), (qarI t ce 6 f_9), (qAI h2 6 b2 nn), (qarI b2 cb 400 f), (qAAIIIIII h 9 d t rh2_41 rt2_42 rs2_43 rv2_44 1 rs2_43)] [(cd, .int), (ce, .boolean), (cb, .byte)] A s H locs := St
              exact cs_vret F hr hlk hQ St (rh2_41, rt2_42, rs2_43, rv2_44, 1, rs2_43, fd2_37, f_9) (Or.inl ⟨1, _, sp_semi ht0 c5 hk_5 (fun q => by rw [q, show (-1 : Int32).toInt = -1 from by decide] at i19; omega) hT0 hS8 ht_45 c92, by decide, rfl, by omega, rfl⟩) [5, 0, 1, 2, 3, 4] rfl (by decide) [] rfl (by decide) (by decide) dX9_readLine_100
      ·
        have i40 := ci_ne (x := y_8) (y := 0) rfl (show (0 : Int32).toInt = 0 by decide) c40
        refine lv_aload_n hx hb dX9_readLine_43 rfl (lv_at hl 1 rfl) ?_
        refine lv_iconst (v := 3) hx hb dX9_readLine_44 (by decide) ?_
        refine cs_v St [3] [0, 1, 2, 4, 5] (wc := [(qAAIIIIII h 9 d t rh rt rs rv rk rp)]) (wr := [(qA d 8 dr), (qarI dr cd 9 fd), (qarI t ce 6 ft), (qAI h2 6 b2 nn), (qarI b2 cb 400 f)]) rfl rfl (by decide) (by decide) (va_runV (As := [.int 3]) (rest := []) F (x9_refuse l G k _ h d t rh rt rs rv rk rp 3) (cwVt F mf_X9_refuse km_X9_55 rfl rfl ⟨Nat.le_of_ble_eq_true rfl, Nat.le_of_ble_eq_true rfl⟩) (cs_preV St [3] rfl (by decide) [] rfl (ci := 9) (q0 := 3) rfl rfl) rfl rfl hl.1 rfl (lv_room (Nat.le_of_ble_eq_true rfl)) dX9_readLine_45 ⟨Nat.le_of_ble_eq_true rfl, Nat.le_of_ble_eq_true rfl⟩) (fun u_49 H locs hw St => ?_)
        try dsimp only at hw
        have St : cS G k [(qA d 8 dr), (qarI dr cd 9 fd), (qarI t ce 6 ft), (qAI h2 6 b2 nn), (qarI b2 cb 400 f), (qAAIIIIII h 9 d t rh rt rs rv 3 rs)] [(cd, .int), (ce, .boolean), (cb, .byte)] A s H locs := St
        exact cs_vret F hr hlk hQ St (rh, rt, rs, rv, 3, rs, fd, ft) (Or.inl ⟨3, _, sp_twice ht0 c5 hk_5 (fun q => by rw [q, show (-1 : Int32).toInt = -1 from by decide] at i19; omega) (by rw [← ey_8]; exact c40), by decide, rfl, by omega, rfl⟩) [5, 0, 1, 2, 3, 4] rfl (by decide) [] rfl (by decide) (by decide) dX9_readLine_48

