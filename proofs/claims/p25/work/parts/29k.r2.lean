set_option maxHeartbeats 4000000 in
set_option maxRecDepth 100000 in
theorem r9_isWord (l : Launch) (G : va_G) (k : Nat → Nat) (sz : Nat) (h : Nat) (d : Nat) (t : Nat) (rh : Int32) (rt : Int32) (rs : Int32) (rv : Int32) (rk : Int32) (rp : Int32) (h2 : Nat) (b2 : Nat) (cb : ClassId) (nn : Int32) (f : Nat → Int32) (i : Nat) (hi : i < 8) (hn0 : 0 ≤ nn.toInt) (hn1 : nn.toInt ≤ 400) (hh0 : 0 ≤ rh.toInt) (hh1 : rh.toInt ≤ nn.toInt) (hs0 : 0 ≤ rs.toInt) (hs1 : rs.toInt ≤ rh.toInt) : Met l yX9_isWord (Cond.code yX9_isWord cX9_isWord 4 (some .boolean) :: tb) ({ frames := 4, cells := 0, slots := 0, locals := 85 } : Room) (va_Pc [.ref h, .ref h2, .ref (k (10 + i))] (cP G k [(qAAIIIIII h 9 d t rh rt rs rv rk rp), (qAI h2 6 b2 nn), (qarI b2 cb 400 f)] [(cb, .byte)] sz)) (va_Qi (fun (r : Int32) (_ : Unit) => ((r = 1) ∧ (wd f rs.toNatClampNeg rh.toNatClampNeg i = true)) ∨ ((r = 0) ∧ (¬ (wd f rs.toNatClampNeg rh.toNatClampNeg i = true)))) (cB G (fun (_ : Unit) => [(qAAIIIIII h 9 d t rh rt rs rv rk rp), (qAI h2 6 b2 nn), (qarI b2 cb 400 f)]) (fun (_ : Unit) => []) (va_A [(qAAIIIIII h 9 d t rh rt rs rv rk rp), (qAI h2 6 b2 nn), (qarI b2 cb 400 f)] sz)) (va_A [(qAAIIIIII h 9 d t rh rt rs rv rk rp), (qAI h2 6 b2 nn), (qarI b2 cb 400 f)] sz)) 0 0 (va_A [(qAAIIIIII h 9 d t rh rt rs rv rk rp), (qAI h2 6 b2 nn), (qarI b2 cb 400 f)] sz) := by
  refine ofC_i (cc := cX9_isWord) (maxL := 4) (ret := (some .boolean)) (by decide) rfl (Nat.le_of_ble_eq_true rfl) ?_
  intro p e s m args below meth c A ls Q F hr hin hlk St hl hQ
  have hx := F.1
  have hb := F.2.1
  have hl : lv_has ls 4 [(0, .ref h), (1, .ref h2), (2, .ref (k (10 + i)))] := hl
  have St : cS G k [(qAAIIIIII h 9 d t rh rt rs rv rk rp), (qAI h2 6 b2 nn), (qarI b2 cb 400 f)] [(cb, .byte)] A s s.heap [] := St
  have hs := sL_i i hi
  have y0 : (0 : Int32).toInt = 0 := by decide
  have ns := nc_int hs0
  have nh := nc_int hh0
  refine lv_aload_n hx hb dX9_isWord_0 rfl (lv_at hl 0 rfl) ?_
  refine cs_get F St 0 rfl rfl inX9 2 (by decide) kf_X9_45 rfl dX9_isWord_1 ?_
  refine lv_aload_n hx hb dX9_isWord_4 rfl (lv_at hl 0 rfl) ?_
  refine cs_get F St 0 rfl rfl inX9 4 (by decide) kf_X9_48 rfl dX9_isWord_5 ?_
  refine lv_isub hx hb dX9_isWord_8 ?_
  refine lv_topi (fun y_1 ey_1 => ?_)
  first | have jy_1 : y_1.toInt = rh.toInt - rs.toInt := (by have q9 := ci_sub (x := rh) (y := rs) rfl rfl ey_1; omega) | have jy_1 := ci_sub (x := rh) (y := rs) rfl rfl ey_1
  refine lv_aload_n hx hb dX9_isWord_9 rfl (lv_at hl 2 rfl) ?_
  refine cs_i St [] [0, 1, 2] (wc := []) (wr := [(qAAIIIIII h 9 d t rh rt rs rv rk rp), (qAI h2 6 b2 nn), (qarI b2 cb 400 f)]) rfl rfl (by decide) (by decide) (va_runV (As := []) (rest := [.int y_1]) F (cJ_length l G k _ i (by first | assumption | decide)) (cwVt F mf_J0_length_8abf5 km_X9_110 rfl rfl ⟨Nat.le_of_ble_eq_true rfl, Nat.le_of_ble_eq_true rfl⟩) (cs_preVS St hi [] rfl) rfl rfl hl.1 rfl (lv_room (Nat.le_of_ble_eq_true rfl)) dX9_isWord_10 ⟨Nat.le_of_ble_eq_true rfl, Nat.le_of_ble_eq_true rfl⟩) (fun r_2 u_3 H locs hw St => ?_)
  try dsimp only at hw
  have z_4 := hw
  have St : cS G k [(qAAIIIIII h 9 d t rh rt rs rv rk rp), (qAI h2 6 b2 nn), (qarI b2 cb 400 f)] [(cb, .byte)] A s H locs := St
  have hnz_4 := (congrArg Int32.toInt z_4).trans hs.1
  refine lv_icmp_eq (tgt := 18) hx hb dX9_isWord_13 (by decide) (fun c13 => ?_) (fun c13 => ?_)
  ·
    have i13 := ci_eq (x := y_1) (y := r_2) rfl rfl c13
    refine lv_iconst (v := 0) hx hb dX9_isWord_18 (by decide) ?_
    refine lv_istore_n (lv' := [(3, .int 0), (0, .ref h), (1, .ref h2), (2, .ref (k (10 + i)))]) hx hb dX9_isWord_19 rfl hl (by decide) rfl (fun ls hl => ?_)
    have lp20 : ∀ (n : Nat) (kk : Int32) (H : Heap) (locs : List Loc) (ls : Array Slot), ((0 ≤ kk.toInt ∧ kk.toInt ≤ sLen i) ∧ ∀ j : Nat, (j : Int) < kk.toInt → b8 f (rs.toNatClampNeg + j) = sB i j) → ((10 - kk.toInt).toNat) < n → cS G k [(qAAIIIIII h 9 d t rh rt rs rv rk rp), (qAI h2 6 b2 nn), (qarI b2 cb 400 f)] [(cb, .byte)] A s H locs → lv_has ls 4 [(3, .int kk), (0, .ref h), (1, .ref h2), (2, .ref (k (10 + i)))] → W p l e ({ frames := 4, cells := 0, slots := 0, locals := 85 } : Room) s m args below meth c H locs 0 0 Q (F0 m 20 ls []) := by
      intro n
      induction n with
      | zero => intro kk H locs ls hI hn; exact absurd hn (Nat.not_lt_zero _)
      | succ n ih =>
        intro kk H locs ls hI hn St hl
        obtain ⟨⟨hI0, hI1⟩, hJ⟩ := hI
        refine lv_iload_n hx hb dX9_isWord_20 rfl (lv_at hl 0 rfl) ?_
        refine lv_aload_n hx hb dX9_isWord_21 rfl (lv_at hl 3 rfl) ?_
        refine cs_i St [] [0, 1, 2] (wc := []) (wr := [(qAAIIIIII h 9 d t rh rt rs rv rk rp), (qAI h2 6 b2 nn), (qarI b2 cb 400 f)]) rfl rfl (by decide) (by decide) (va_runV (As := []) (rest := [.int kk]) F (cJ_length l G k _ i (by first | assumption | decide)) (cwVt F mf_J0_length_8abf5 km_X9_110 rfl rfl ⟨Nat.le_of_ble_eq_true rfl, Nat.le_of_ble_eq_true rfl⟩) (cs_preVS St hi [] rfl) rfl rfl hl.1 rfl (lv_room (Nat.le_of_ble_eq_true rfl)) dX9_isWord_22 ⟨Nat.le_of_ble_eq_true rfl, Nat.le_of_ble_eq_true rfl⟩) (fun r_5 u_6 H locs hw St => ?_)
        try dsimp only at hw
        have z_7 := hw
        have St : cS G k [(qAAIIIIII h 9 d t rh rt rs rv rk rp), (qAI h2 6 b2 nn), (qarI b2 cb 400 f)] [(cb, .byte)] A s H locs := St
        have hnz_7 := (congrArg Int32.toInt z_7).trans hs.1
        refine lv_icmp_ge (tgt := 54) hx hb dX9_isWord_25 (by decide) (fun c25 => ?_) (fun c25 => ?_)
        ·
          have i25 := ci_le (x := r_5) (y := kk) rfl rfl c25
          refine lv_iconst (v := 1) hx hb dX9_isWord_54 (by decide) ?_
          exact cs_zret F hr hlk hQ St () (r := 1) rfl (Or.inl ⟨rfl, wd_t (by omega) (fun j hj => hJ j (by omega))⟩) [0, 1, 2] rfl (by decide) [] rfl (by decide) (by decide) dX9_isWord_55
        ·
          have i25 := ci_nle (x := r_5) (y := kk) rfl rfl c25
          refine lv_aload_n hx hb dX9_isWord_28 rfl (lv_at hl 2 rfl) ?_
          refine lv_aload_n hx hb dX9_isWord_29 rfl (lv_at hl 1 rfl) ?_
          refine cs_get F St 0 rfl rfl inX9 4 (by decide) kf_X9_48 rfl dX9_isWord_30 ?_
          refine lv_iload_n hx hb dX9_isWord_33 rfl (lv_at hl 0 rfl) ?_
          refine lv_iadd hx hb dX9_isWord_34 ?_
          refine lv_topi (fun y_8 ey_8 => ?_)
          first | have jy_8 : y_8.toInt = rs.toInt + kk.toInt := (by have q9 := ci_add (x := rs) (y := kk) rfl rfl ey_8; omega) | have jy_8 := ci_add (x := rs) (y := kk) rfl rfl ey_8
          refine cs_i St [1, 2] [0] (wc := [(qAI h2 6 b2 nn), (qarI b2 cb 400 f)]) (wr := [(qAAIIIIII h 9 d t rh rt rs rv rk rp)]) rfl rfl (by decide) (by decide) (va_runV (As := [.int y_8]) (rest := []) F (r6_at l G k _ h2 b2 cb nn f y_8 (by omega)) (cwVt F mf_X6_at km_X9_116 rfl rfl ⟨Nat.le_of_ble_eq_true rfl, Nat.le_of_ble_eq_true rfl⟩) (cs_preV St [1, 2] rfl (by decide) [0] rfl (ci := 6) (q0 := 1) rfl rfl) rfl rfl hl.1 rfl (lv_room (Nat.le_of_ble_eq_true rfl)) dX9_isWord_35 ⟨Nat.le_of_ble_eq_true rfl, Nat.le_of_ble_eq_true rfl⟩) (fun r_9 u_10 H locs hw St => ?_)
          try dsimp only at hw
          rcases hw with ⟨z_11, hf_12⟩ | ⟨hf_13, hr_14, hq_15⟩
          ·
            exact False.elim (by omega)
          ·
            have St : cS G k [(qAAIIIIII h 9 d t rh rt rs rv rk rp), (qAI h2 6 b2 nn), (qarI b2 cb 400 f)] [(cb, .byte)] A s H locs := St
            have nk := nc_int (x := kk) (by omega)
            have ny := nc_int (x := y_8) (by omega)
            have nx : y_8.toNatClampNeg = rs.toNatClampNeg + kk.toNatClampNeg := by omega
            refine lv_aload_n hx hb dX9_isWord_38 rfl (lv_at hl 3 rfl) ?_
            refine lv_iload_n hx hb dX9_isWord_39 rfl (lv_at hl 0 rfl) ?_
            refine cs_i St [] [0, 1, 2] (wc := []) (wr := [(qAAIIIIII h 9 d t rh rt rs rv rk rp), (qAI h2 6 b2 nn), (qarI b2 cb 400 f)]) rfl rfl (by decide) (by decide) (va_runV (As := [.int kk]) (rest := [.int r_9]) F (cJ_charAt l G k _ i (by first | assumption | decide) kk (by omega) (by omega)) (cwVt F mf_J0_charAt_5068e km_X9_122 rfl rfl ⟨Nat.le_of_ble_eq_true rfl, Nat.le_of_ble_eq_true rfl⟩) (cs_preVS St hi [] rfl) rfl rfl hl.1 rfl (lv_room (Nat.le_of_ble_eq_true rfl)) dX9_isWord_40 ⟨Nat.le_of_ble_eq_true rfl, Nat.le_of_ble_eq_true rfl⟩) (fun r_16 u_17 H locs hw St => ?_)
            try dsimp only at hw
            have z_18 := hw
            have St : cS G k [(qAAIIIIII h 9 d t rh rt rs rv rk rp), (qAI h2 6 b2 nn), (qarI b2 cb 400 f)] [(cb, .byte)] A s H locs := St
            refine lv_icmp_eq (tgt := 48) hx hb dX9_isWord_43 (by decide) (fun c43 => ?_) (fun c43 => ?_)
            ·
              have i43 := ci_eq (x := r_9) (y := r_16) rfl rfl c43
              obtain ⟨y_19, ey_19⟩ : ∃ zz : Int32, zz = kk + 1 := ⟨_, rfl⟩
              first | have jy_19 : y_19.toInt = kk.toInt + 1 := (by have q9 := ci_add (x := kk) rfl (show (1 : Int32).toInt = 1 by decide) ey_19; omega) | have jy_19 := ci_add (x := kk) rfl (show (1 : Int32).toInt = 1 by decide) ey_19
              refine lv_iinc (v := y_19) (lv' := [(3, .int y_19), (0, .ref h), (1, .ref h2), (2, .ref (k (10 + i)))]) hx hb dX9_isWord_48 hl (k := 0) rfl (by rw [ey_19]; rfl) (by decide) rfl (fun ls hl => ?_)
              refine lv_goto (tgt := 20) hx hb dX9_isWord_51 (by decide) ?_
              exact ih y_19 _ _ _ ⟨⟨by omega, by omega⟩, wd_up (by omega) hJ (by omega) (by have q9 := c43; rw [hr_14, z_18, nx] at q9; exact q9)⟩ (by omega) St (lv_sub hl [0, 1, 2, 3] rfl)
            ·
              have i43 := ci_ne (x := r_9) (y := r_16) rfl rfl c43
              refine lv_iconst (v := 0) hx hb dX9_isWord_46 (by decide) ?_
              exact cs_zret F hr hlk hQ St () (r := 0) rfl (Or.inr ⟨rfl, wd_f2 (j := kk.toNatClampNeg) (by omega) (fun q => c43 (by rw [hr_14, z_18, nx]; exact q))⟩) [0, 1, 2] rfl (by decide) [] rfl (by decide) (by decide) dX9_isWord_47
    exact lp20 11 0 _ _ _ ⟨⟨by omega, by omega⟩, fun j q => absurd q (by omega)⟩ (by omega) St (lv_sub hl [0, 1, 2, 3] rfl)
  ·
    have i13 := ci_ne (x := y_1) (y := r_2) rfl rfl c13
    refine lv_iconst (v := 0) hx hb dX9_isWord_16 (by decide) ?_
    exact cs_zret F hr hlk hQ St () (r := 0) rfl (Or.inr ⟨rfl, wd_f1 (by omega)⟩) [0, 1, 2] rfl (by decide) [] rfl (by decide) (by decide) dX9_isWord_17
set_option maxHeartbeats 4000000 in
set_option maxRecDepth 100000 in
theorem r9_lineOfWord (l : Launch) (G : va_G) (k : Nat → Nat) (sz : Nat) (h : Nat) (d : Nat) (t : Nat) (rh : Int32) (rt : Int32) (rs : Int32) (rv : Int32) (rk : Int32) (rp : Int32) (h2 : Nat) (b2 : Nat) (cb : ClassId) (nn : Int32) (f : Nat → Int32) (hn0 : 0 ≤ nn.toInt) (hn1 : nn.toInt ≤ 400) (hh0 : 0 ≤ rh.toInt) (hh1 : rh.toInt ≤ nn.toInt) (hs0 : 0 ≤ rs.toInt) (hs1 : rs.toInt ≤ rh.toInt) : Met l yX9_lineOfWord (Cond.code yX9_lineOfWord cX9_lineOfWord 2 (some .int) :: tb) ({ frames := 5, cells := 0, slots := 0, locals := 108 } : Room) (va_Pc [.ref h, .ref h2] (cP G k [(qAAIIIIII h 9 d t rh rt rs rv rk rp), (qAI h2 6 b2 nn), (qarI b2 cb 400 f)] [(cb, .byte)] sz)) (va_Qi (fun (r : Int32) (_ : Unit) => (r = lnO f rs.toNatClampNeg rh.toNatClampNeg)) (cB G (fun (_ : Unit) => [(qAAIIIIII h 9 d t rh rt rs rv rk rp), (qAI h2 6 b2 nn), (qarI b2 cb 400 f)]) (fun (_ : Unit) => []) (va_A [(qAAIIIIII h 9 d t rh rt rs rv rk rp), (qAI h2 6 b2 nn), (qarI b2 cb 400 f)] sz)) (va_A [(qAAIIIIII h 9 d t rh rt rs rv rk rp), (qAI h2 6 b2 nn), (qarI b2 cb 400 f)] sz)) 0 0 (va_A [(qAAIIIIII h 9 d t rh rt rs rv rk rp), (qAI h2 6 b2 nn), (qarI b2 cb 400 f)] sz) := by
  refine ofC_i (cc := cX9_lineOfWord) (maxL := 2) (ret := (some .int)) (by decide) rfl (Nat.le_of_ble_eq_true rfl) ?_
  intro p e s m args below meth c A ls Q F hr hin hlk St hl hQ
  have hx := F.1
  have hb := F.2.1
  have hl : lv_has ls 2 [(0, .ref h), (1, .ref h2)] := hl
  have St : cS G k [(qAAIIIIII h 9 d t rh rt rs rv rk rp), (qAI h2 6 b2 nn), (qarI b2 cb 400 f)] [(cb, .byte)] A s s.heap [] := St
  refine lv_aload_n hx hb dX9_lineOfWord_0 rfl (lv_at hl 0 rfl) ?_
  refine lv_aload_n hx hb dX9_lineOfWord_1 rfl (lv_at hl 1 rfl) ?_
  refine va_ldcS hx hb F.2.2.2.1 St.2.2.2.2.2.1.2.2.2.2.2.2.2.2.2.1 dX9_lineOfWord_2 ?_
  refine cs_i St [0, 1, 2] [] (wc := [(qAAIIIIII h 9 d t rh rt rs rv rk rp), (qAI h2 6 b2 nn), (qarI b2 cb 400 f)]) (wr := []) rfl rfl (by decide) (by decide) (va_runV (As := [.ref h2, .ref (k 10)]) (rest := []) F (r9_isWord l G k _ h d t rh rt rs rv rk rp h2 b2 cb nn f 0 (by first | assumption | decide) (by omega) (by omega) (by omega) (by omega) (by omega) (by omega)) (cwVt F mf_X9_isWord km_X9_92 rfl rfl ⟨Nat.le_of_ble_eq_true rfl, Nat.le_of_ble_eq_true rfl⟩) (cs_preV St [0, 1, 2] rfl (by decide) [0] rfl (ci := 9) (q0 := 0) rfl rfl) rfl rfl hl.1 rfl (lv_room (Nat.le_of_ble_eq_true rfl)) dX9_lineOfWord_4 ⟨Nat.le_of_ble_eq_true rfl, Nat.le_of_ble_eq_true rfl⟩) (fun r_1 u_2 H locs hw St => ?_)
  try dsimp only at hw
  rcases hw with ⟨z_3, hf_4⟩ | ⟨z_5, hf_6⟩
  ·
    subst r_1
    have St : cS G k [(qAAIIIIII h 9 d t rh rt rs rv rk rp), (qAI h2 6 b2 nn), (qarI b2 cb 400 f)] [(cb, .byte)] A s H locs := St
    refine lv_if_eq (tgt := 12) hx hb dX9_lineOfWord_7 (by decide) (fun c7 => ?_) (fun c7 => ?_)
    · exact absurd c7 (by decide)
    refine lv_iconst (v := 0) hx hb dX9_lineOfWord_10 (by decide) ?_
    exact cs_iret F hr hlk hQ St () (r := 0) (by unfold lnO; rw [if_pos hf_4]) [0, 1, 2] rfl (by decide) [] rfl (by decide) (by decide) dX9_lineOfWord_11
  ·
    subst r_1
    have St : cS G k [(qAAIIIIII h 9 d t rh rt rs rv rk rp), (qAI h2 6 b2 nn), (qarI b2 cb 400 f)] [(cb, .byte)] A s H locs := St
    refine lv_if_eq (tgt := 12) hx hb dX9_lineOfWord_7 (by decide) (fun c7 => ?_) (fun c7 => ?_)
    rotate_left
    · exact absurd (by decide) c7
    refine lv_aload_n hx hb dX9_lineOfWord_12 rfl (lv_at hl 0 rfl) ?_
    refine lv_aload_n hx hb dX9_lineOfWord_13 rfl (lv_at hl 1 rfl) ?_
    refine va_ldcS hx hb F.2.2.2.1 St.2.2.2.2.2.1.2.2.2.2.2.2.2.2.2.2.1 dX9_lineOfWord_14 ?_
    refine cs_i St [0, 1, 2] [] (wc := [(qAAIIIIII h 9 d t rh rt rs rv rk rp), (qAI h2 6 b2 nn), (qarI b2 cb 400 f)]) (wr := []) rfl rfl (by decide) (by decide) (va_runV (As := [.ref h2, .ref (k 11)]) (rest := []) F (r9_isWord l G k _ h d t rh rt rs rv rk rp h2 b2 cb nn f 1 (by first | assumption | decide) (by omega) (by omega) (by omega) (by omega) (by omega) (by omega)) (cwVt F mf_X9_isWord km_X9_92 rfl rfl ⟨Nat.le_of_ble_eq_true rfl, Nat.le_of_ble_eq_true rfl⟩) (cs_preV St [0, 1, 2] rfl (by decide) [0] rfl (ci := 9) (q0 := 0) rfl rfl) rfl rfl hl.1 rfl (lv_room (Nat.le_of_ble_eq_true rfl)) dX9_lineOfWord_16 ⟨Nat.le_of_ble_eq_true rfl, Nat.le_of_ble_eq_true rfl⟩) (fun r_7 u_8 H locs hw St => ?_)
    try dsimp only at hw
    rcases hw with ⟨z_9, hf_10⟩ | ⟨z_11, hf_12⟩
    ·
      subst r_7
      have St : cS G k [(qAAIIIIII h 9 d t rh rt rs rv rk rp), (qAI h2 6 b2 nn), (qarI b2 cb 400 f)] [(cb, .byte)] A s H locs := St
      refine lv_if_eq (tgt := 24) hx hb dX9_lineOfWord_19 (by decide) (fun c19 => ?_) (fun c19 => ?_)
      · exact absurd c19 (by decide)
      refine lv_iconst (v := 1) hx hb dX9_lineOfWord_22 (by decide) ?_
      exact cs_iret F hr hlk hQ St () (r := 1) (by unfold lnO; rw [if_neg hf_6, if_pos hf_10]) [0, 1, 2] rfl (by decide) [] rfl (by decide) (by decide) dX9_lineOfWord_23
    ·
      subst r_7
      have St : cS G k [(qAAIIIIII h 9 d t rh rt rs rv rk rp), (qAI h2 6 b2 nn), (qarI b2 cb 400 f)] [(cb, .byte)] A s H locs := St
      refine lv_if_eq (tgt := 24) hx hb dX9_lineOfWord_19 (by decide) (fun c19 => ?_) (fun c19 => ?_)
      rotate_left
      · exact absurd (by decide) c19
      refine lv_aload_n hx hb dX9_lineOfWord_24 rfl (lv_at hl 0 rfl) ?_
      refine lv_aload_n hx hb dX9_lineOfWord_25 rfl (lv_at hl 1 rfl) ?_
      refine va_ldcS hx hb F.2.2.2.1 St.2.2.2.2.2.1.2.2.2.2.2.2.2.2.2.2.2.1 dX9_lineOfWord_26 ?_
      refine cs_i St [0, 1, 2] [] (wc := [(qAAIIIIII h 9 d t rh rt rs rv rk rp), (qAI h2 6 b2 nn), (qarI b2 cb 400 f)]) (wr := []) rfl rfl (by decide) (by decide) (va_runV (As := [.ref h2, .ref (k 12)]) (rest := []) F (r9_isWord l G k _ h d t rh rt rs rv rk rp h2 b2 cb nn f 2 (by first | assumption | decide) (by omega) (by omega) (by omega) (by omega) (by omega) (by omega)) (cwVt F mf_X9_isWord km_X9_92 rfl rfl ⟨Nat.le_of_ble_eq_true rfl, Nat.le_of_ble_eq_true rfl⟩) (cs_preV St [0, 1, 2] rfl (by decide) [0] rfl (ci := 9) (q0 := 0) rfl rfl) rfl rfl hl.1 rfl (lv_room (Nat.le_of_ble_eq_true rfl)) dX9_lineOfWord_28 ⟨Nat.le_of_ble_eq_true rfl, Nat.le_of_ble_eq_true rfl⟩) (fun r_13 u_14 H locs hw St => ?_)
      try dsimp only at hw
      rcases hw with ⟨z_15, hf_16⟩ | ⟨z_17, hf_18⟩
      ·
        subst r_13
        have St : cS G k [(qAAIIIIII h 9 d t rh rt rs rv rk rp), (qAI h2 6 b2 nn), (qarI b2 cb 400 f)] [(cb, .byte)] A s H locs := St
        refine lv_if_eq (tgt := 36) hx hb dX9_lineOfWord_31 (by decide) (fun c31 => ?_) (fun c31 => ?_)
        · exact absurd c31 (by decide)
        refine lv_iconst (v := 2) hx hb dX9_lineOfWord_34 (by decide) ?_
        exact cs_iret F hr hlk hQ St () (r := 2) (by unfold lnO; rw [if_neg hf_6, if_neg hf_12, if_pos hf_16]) [0, 1, 2] rfl (by decide) [] rfl (by decide) (by decide) dX9_lineOfWord_35
      ·
        subst r_13
        have St : cS G k [(qAAIIIIII h 9 d t rh rt rs rv rk rp), (qAI h2 6 b2 nn), (qarI b2 cb 400 f)] [(cb, .byte)] A s H locs := St
        refine lv_if_eq (tgt := 36) hx hb dX9_lineOfWord_31 (by decide) (fun c31 => ?_) (fun c31 => ?_)
        rotate_left
        · exact absurd (by decide) c31
        refine lv_aload_n hx hb dX9_lineOfWord_36 rfl (lv_at hl 0 rfl) ?_
        refine lv_aload_n hx hb dX9_lineOfWord_37 rfl (lv_at hl 1 rfl) ?_
        refine va_ldcS hx hb F.2.2.2.1 St.2.2.2.2.2.1.2.2.2.2.2.2.2.2.2.2.2.2.1 dX9_lineOfWord_38 ?_
        refine cs_i St [0, 1, 2] [] (wc := [(qAAIIIIII h 9 d t rh rt rs rv rk rp), (qAI h2 6 b2 nn), (qarI b2 cb 400 f)]) (wr := []) rfl rfl (by decide) (by decide) (va_runV (As := [.ref h2, .ref (k 13)]) (rest := []) F (r9_isWord l G k _ h d t rh rt rs rv rk rp h2 b2 cb nn f 3 (by first | assumption | decide) (by omega) (by omega) (by omega) (by omega) (by omega) (by omega)) (cwVt F mf_X9_isWord km_X9_92 rfl rfl ⟨Nat.le_of_ble_eq_true rfl, Nat.le_of_ble_eq_true rfl⟩) (cs_preV St [0, 1, 2] rfl (by decide) [0] rfl (ci := 9) (q0 := 0) rfl rfl) rfl rfl hl.1 rfl (lv_room (Nat.le_of_ble_eq_true rfl)) dX9_lineOfWord_40 ⟨Nat.le_of_ble_eq_true rfl, Nat.le_of_ble_eq_true rfl⟩) (fun r_19 u_20 H locs hw St => ?_)
        try dsimp only at hw
        rcases hw with ⟨z_21, hf_22⟩ | ⟨z_23, hf_24⟩
        ·
          subst r_19
          have St : cS G k [(qAAIIIIII h 9 d t rh rt rs rv rk rp), (qAI h2 6 b2 nn), (qarI b2 cb 400 f)] [(cb, .byte)] A s H locs := St
          refine lv_if_eq (tgt := 48) hx hb dX9_lineOfWord_43 (by decide) (fun c43 => ?_) (fun c43 => ?_)
          · exact absurd c43 (by decide)
          refine lv_iconst (v := 3) hx hb dX9_lineOfWord_46 (by decide) ?_
          exact cs_iret F hr hlk hQ St () (r := 3) (by unfold lnO; rw [if_neg hf_6, if_neg hf_12, if_neg hf_18, if_pos hf_22]) [0, 1, 2] rfl (by decide) [] rfl (by decide) (by decide) dX9_lineOfWord_47
        ·
          subst r_19
          have St : cS G k [(qAAIIIIII h 9 d t rh rt rs rv rk rp), (qAI h2 6 b2 nn), (qarI b2 cb 400 f)] [(cb, .byte)] A s H locs := St
          refine lv_if_eq (tgt := 48) hx hb dX9_lineOfWord_43 (by decide) (fun c43 => ?_) (fun c43 => ?_)
          rotate_left
          · exact absurd (by decide) c43
          refine lv_aload_n hx hb dX9_lineOfWord_48 rfl (lv_at hl 0 rfl) ?_
          refine lv_aload_n hx hb dX9_lineOfWord_49 rfl (lv_at hl 1 rfl) ?_
          refine va_ldcS hx hb F.2.2.2.1 St.2.2.2.2.2.1.2.2.2.2.2.2.2.2.2.2.2.2.2.1 dX9_lineOfWord_50 ?_
          refine cs_i St [0, 1, 2] [] (wc := [(qAAIIIIII h 9 d t rh rt rs rv rk rp), (qAI h2 6 b2 nn), (qarI b2 cb 400 f)]) (wr := []) rfl rfl (by decide) (by decide) (va_runV (As := [.ref h2, .ref (k 14)]) (rest := []) F (r9_isWord l G k _ h d t rh rt rs rv rk rp h2 b2 cb nn f 4 (by first | assumption | decide) (by omega) (by omega) (by omega) (by omega) (by omega) (by omega)) (cwVt F mf_X9_isWord km_X9_92 rfl rfl ⟨Nat.le_of_ble_eq_true rfl, Nat.le_of_ble_eq_true rfl⟩) (cs_preV St [0, 1, 2] rfl (by decide) [0] rfl (ci := 9) (q0 := 0) rfl rfl) rfl rfl hl.1 rfl (lv_room (Nat.le_of_ble_eq_true rfl)) dX9_lineOfWord_52 ⟨Nat.le_of_ble_eq_true rfl, Nat.le_of_ble_eq_true rfl⟩) (fun r_25 u_26 H locs hw St => ?_)
          try dsimp only at hw
          rcases hw with ⟨z_27, hf_28⟩ | ⟨z_29, hf_30⟩
          ·
            subst r_25
            have St : cS G k [(qAAIIIIII h 9 d t rh rt rs rv rk rp), (qAI h2 6 b2 nn), (qarI b2 cb 400 f)] [(cb, .byte)] A s H locs := St
            refine lv_if_eq (tgt := 60) hx hb dX9_lineOfWord_55 (by decide) (fun c55 => ?_) (fun c55 => ?_)
            · exact absurd c55 (by decide)
            refine lv_iconst (v := 4) hx hb dX9_lineOfWord_58 (by decide) ?_
            exact cs_iret F hr hlk hQ St () (r := 4) (by unfold lnO; rw [if_neg hf_6, if_neg hf_12, if_neg hf_18, if_neg hf_24, if_pos hf_28]) [0, 1, 2] rfl (by decide) [] rfl (by decide) (by decide) dX9_lineOfWord_59
          ·
            subst r_25
            have St : cS G k [(qAAIIIIII h 9 d t rh rt rs rv rk rp), (qAI h2 6 b2 nn), (qarI b2 cb 400 f)] [(cb, .byte)] A s H locs := St
            refine lv_if_eq (tgt := 60) hx hb dX9_lineOfWord_55 (by decide) (fun c55 => ?_) (fun c55 => ?_)
            rotate_left
            · exact absurd (by decide) c55
            refine lv_aload_n hx hb dX9_lineOfWord_60 rfl (lv_at hl 0 rfl) ?_
            refine lv_aload_n hx hb dX9_lineOfWord_61 rfl (lv_at hl 1 rfl) ?_
            refine va_ldcS hx hb F.2.2.2.1 St.2.2.2.2.2.1.2.2.2.2.2.2.2.2.2.2.2.2.2.2.1 dX9_lineOfWord_62 ?_
            refine cs_i St [0, 1, 2] [] (wc := [(qAAIIIIII h 9 d t rh rt rs rv rk rp), (qAI h2 6 b2 nn), (qarI b2 cb 400 f)]) (wr := []) rfl rfl (by decide) (by decide) (va_runV (As := [.ref h2, .ref (k 15)]) (rest := []) F (r9_isWord l G k _ h d t rh rt rs rv rk rp h2 b2 cb nn f 5 (by first | assumption | decide) (by omega) (by omega) (by omega) (by omega) (by omega) (by omega)) (cwVt F mf_X9_isWord km_X9_92 rfl rfl ⟨Nat.le_of_ble_eq_true rfl, Nat.le_of_ble_eq_true rfl⟩) (cs_preV St [0, 1, 2] rfl (by decide) [0] rfl (ci := 9) (q0 := 0) rfl rfl) rfl rfl hl.1 rfl (lv_room (Nat.le_of_ble_eq_true rfl)) dX9_lineOfWord_64 ⟨Nat.le_of_ble_eq_true rfl, Nat.le_of_ble_eq_true rfl⟩) (fun r_31 u_32 H locs hw St => ?_)
            try dsimp only at hw
            rcases hw with ⟨z_33, hf_34⟩ | ⟨z_35, hf_36⟩
            ·
              subst r_31
              have St : cS G k [(qAAIIIIII h 9 d t rh rt rs rv rk rp), (qAI h2 6 b2 nn), (qarI b2 cb 400 f)] [(cb, .byte)] A s H locs := St
              refine lv_if_eq (tgt := 74) hx hb dX9_lineOfWord_67 (by decide) (fun c67 => ?_) (fun c67 => ?_)
              · exact absurd c67 (by decide)
              refine lv_iconst (v := 5) hx hb dX9_lineOfWord_70 (by decide) ?_
              refine lv_goto (tgt := 75) hx hb dX9_lineOfWord_71 (by decide) ?_
              exact cs_iret F hr hlk hQ St () (r := 5) (by unfold lnO; rw [if_neg hf_6, if_neg hf_12, if_neg hf_18, if_neg hf_24, if_neg hf_30, if_pos hf_34]) [0, 1, 2] rfl (by decide) [] rfl (by decide) (by decide) dX9_lineOfWord_75
            ·
              subst r_31
              have St : cS G k [(qAAIIIIII h 9 d t rh rt rs rv rk rp), (qAI h2 6 b2 nn), (qarI b2 cb 400 f)] [(cb, .byte)] A s H locs := St
              refine lv_if_eq (tgt := 74) hx hb dX9_lineOfWord_67 (by decide) (fun c67 => ?_) (fun c67 => ?_)
              rotate_left
              · exact absurd (by decide) c67
              refine lv_iconst (v := (-1)) hx hb dX9_lineOfWord_74 (by decide) ?_
              exact cs_iret F hr hlk hQ St () (r := (-1)) (by unfold lnO; rw [if_neg hf_6, if_neg hf_12, if_neg hf_18, if_neg hf_24, if_neg hf_30, if_neg hf_36]) [0, 1, 2] rfl (by decide) [] rfl (by decide) (by decide) dX9_lineOfWord_75
set_option maxHeartbeats 4000000 in
set_option maxRecDepth 100000 in
theorem r9_isInBounds (l : Launch) (G : va_G) (k : Nat → Nat) (sz : Nat) (x : Int32) (y : Int32) (h0 : 0 ≤ x.toInt) (h8 : x.toInt < 8) : Met l yX9_isInBounds (Cond.code yX9_isInBounds cX9_isInBounds 2 (some .boolean) :: tb) ({ frames := 0, cells := 0, slots := 0, locals := 0 } : Room) (va_Pc [.int x, .int y] (cP G k [] [] sz)) (va_Qi (fun (r : Int32) (_ : Unit) => ((r = 1) ∧ ((tLeast x.toNatClampNeg).toInt ≤ y.toInt ∧ y.toInt ≤ (tMost x.toNatClampNeg).toInt)) ∨ ((r = 0) ∧ (¬ ((tLeast x.toNatClampNeg).toInt ≤ y.toInt ∧ y.toInt ≤ (tMost x.toNatClampNeg).toInt)))) (cB G (fun (_ : Unit) => []) (fun (_ : Unit) => []) (va_A [] sz)) (va_A [] sz)) 0 0 (va_A [] sz) := by
  refine ofC_i (cc := cX9_isInBounds) (maxL := 2) (ret := (some .boolean)) (by decide) rfl (Nat.le_of_ble_eq_true rfl) ?_
  intro p e s m args below meth c A ls Q F hr hin hlk St hl hQ
  have hx := F.1
  have hb := F.2.1
  have hl : lv_has ls 2 [(0, .int x), (1, .int y)] := hl
  have St : cS G k [] [] A s s.heap [] := St
  refine lv_iload_n hx hb dX9_isInBounds_0 rfl (lv_at hl 0 rfl) ?_
  refine lv_if_lt (tgt := 42) hx hb dX9_isInBounds_1 (by decide) (fun c1 => ?_) (fun c1 => ?_)
  · have i1 := ci_lt (x := x) (y := 0) rfl (show (0 : Int32).toInt = 0 by decide) c1; exact False.elim (by omega)
  have i1 := ci_nlt (x := x) (y := 0) rfl (show (0 : Int32).toInt = 0 by decide) c1
  refine lv_iload_n hx hb dX9_isInBounds_4 rfl (lv_at hl 0 rfl) ?_
  refine va_gets hx hb (St.2.2.2.2.2.2.2.2.2.2.2.2.2.2.2.2.1) St.toS F.2.2.2.1 (F.2.2.2.2 _ kf_X9_84) (fun _ h => h) dX9_isInBounds_5 ?_
  refine va_tlen hx hb (St.2.2.2.2.2.2.2.2.2.2.2.2.2.2.2.2.2.1) St.toS (v := 8) rfl dX9_isInBounds_8 ?_
  refine lv_icmp_ge (tgt := 42) hx hb dX9_isInBounds_9 (by decide) (fun c9 => ?_) (fun c9 => ?_)
  · have i9 := ci_le (x := 8) (y := x) (show (8 : Int32).toInt = 8 by decide) rfl c9; exact False.elim (by omega)
  have i9 := ci_nle (x := 8) (y := x) (show (8 : Int32).toInt = 8 by decide) rfl c9
  refine lv_iload_n hx hb dX9_isInBounds_12 rfl (lv_at hl 0 rfl) ?_
  refine va_gets hx hb (St.2.2.2.2.2.2.2.2.2.2.2.2.2.2.2.2.2.2.1) St.toS F.2.2.2.1 (F.2.2.2.2 _ kf_X9_87) (fun _ h => h) dX9_isInBounds_13 ?_
  refine va_tlen hx hb (St.2.2.2.2.2.2.2.2.2.2.2.2.2.2.2.2.2.2.2.1) St.toS (v := 8) rfl dX9_isInBounds_16 ?_
  refine lv_icmp_ge (tgt := 42) hx hb dX9_isInBounds_17 (by decide) (fun c17 => ?_) (fun c17 => ?_)
  · have i17 := ci_le (x := 8) (y := x) (show (8 : Int32).toInt = 8 by decide) rfl c17; exact False.elim (by omega)
  have i17 := ci_nle (x := 8) (y := x) (show (8 : Int32).toInt = 8 by decide) rfl c17
  refine lv_iload_n hx hb dX9_isInBounds_20 rfl (lv_at hl 1 rfl) ?_
  refine va_gets hx hb (St.2.2.2.2.2.2.2.2.2.2.2.2.2.2.2.2.1) St.toS F.2.2.2.1 (F.2.2.2.2 _ kf_X9_84) (fun _ h => h) dX9_isInBounds_21 ?_
  refine lv_iload_n hx hb dX9_isInBounds_24 rfl (lv_at hl 0 rfl) ?_
  refine va_ti hx hb (St.2.2.2.2.2.2.2.2.2.2.2.2.2.2.2.2.2.1) St.toS (vp_in_iff.mpr ⟨by omega, by omega⟩) (v := .int (tLeast (x : Int32).toNatClampNeg)) rfl dX9_isInBounds_25 ?_
  refine lv_topi (fun y_1 ey_1 => ?_)
  refine lv_icmp_lt (tgt := 42) hx hb dX9_isInBounds_26 (by decide) (fun c26 => ?_) (fun c26 => ?_)
  ·
    have i26 := ci_lt (x := y) (y := y_1) rfl rfl c26
    refine lv_iconst (v := 0) hx hb dX9_isInBounds_42 (by decide) ?_
    exact cs_zret F hr hlk hQ St () (r := 0) rfl (Or.inr ⟨rfl, by rw [← ey_1]; omega⟩) [] rfl (by decide) [] rfl (by decide) (by decide) dX9_isInBounds_43
  ·
    have i26 := ci_nlt (x := y) (y := y_1) rfl rfl c26
    refine lv_iload_n hx hb dX9_isInBounds_29 rfl (lv_at hl 1 rfl) ?_
    refine va_gets hx hb (St.2.2.2.2.2.2.2.2.2.2.2.2.2.2.2.2.2.2.1) St.toS F.2.2.2.1 (F.2.2.2.2 _ kf_X9_87) (fun _ h => h) dX9_isInBounds_30 ?_
    refine lv_iload_n hx hb dX9_isInBounds_33 rfl (lv_at hl 0 rfl) ?_
    refine va_ti hx hb (St.2.2.2.2.2.2.2.2.2.2.2.2.2.2.2.2.2.2.2.1) St.toS (vp_in_iff.mpr ⟨by omega, by omega⟩) (v := .int (tMost (x : Int32).toNatClampNeg)) rfl dX9_isInBounds_34 ?_
    refine lv_topi (fun y_2 ey_2 => ?_)
    refine lv_icmp_gt (tgt := 42) hx hb dX9_isInBounds_35 (by decide) (fun c35 => ?_) (fun c35 => ?_)
    ·
      have i35 := ci_lt (x := y_2) (y := y) rfl rfl c35
      refine lv_iconst (v := 0) hx hb dX9_isInBounds_42 (by decide) ?_
      exact cs_zret F hr hlk hQ St () (r := 0) rfl (Or.inr ⟨rfl, by rw [← ey_1, ← ey_2]; omega⟩) [] rfl (by decide) [] rfl (by decide) (by decide) dX9_isInBounds_43
    ·
      have i35 := ci_nlt (x := y_2) (y := y) rfl rfl c35
      refine lv_iconst (v := 1) hx hb dX9_isInBounds_38 (by decide) ?_
      refine lv_goto (tgt := 43) hx hb dX9_isInBounds_39 (by decide) ?_
      exact cs_zret F hr hlk hQ St () (r := 1) rfl (Or.inl ⟨rfl, by rw [← ey_1, ← ey_2]; omega⟩) [] rfl (by decide) [] rfl (by decide) (by decide) dX9_isInBounds_43
set_option maxHeartbeats 4000000 in
set_option maxRecDepth 100000 in
theorem r8_put (l : Launch) (G : va_G) (k : Nat → Nat) (sz : Nat) (h : Nat) (b : Nat) (cb : ClassId) (f : Nat → Int32) (x : Int32) (y : Int32) (h0 : 0 ≤ x.toInt) (h9 : x.toInt < 9) : Met l yX8_put (Cond.code yX8_put cX8_put 3 none :: tb) ({ frames := 0, cells := 0, slots := 0, locals := 0 } : Room) (va_Pc [.ref h, .int x, .int y] (cP G k [(qA h 8 b), (qarI b cb 9 f)] [(cb, .int)] sz)) (va_Qv (fun (f2 : (Nat → Int32)) => (f2 = upd f x.toNatClampNeg y)) (cB G (fun (f2 : (Nat → Int32)) => [(qA h 8 b), (qarI b cb 9 f2)]) (fun (f2 : (Nat → Int32)) => []) (va_A [(qA h 8 b), (qarI b cb 9 f)] sz)) (va_A [(qA h 8 b), (qarI b cb 9 f)] sz)) 0 0 (va_A [(qA h 8 b), (qarI b cb 9 f)] sz) := by
  refine ofC_v (cc := cX8_put) (maxL := 3) (ret := none) (by decide) rfl (Nat.le_of_ble_eq_true rfl) ?_
  intro p e s m args below meth c A ls Q F hr hin hlk St hl hQ
  have hx := F.1
  have hb := F.2.1
  have hl : lv_has ls 3 [(0, .ref h), (1, .int x), (2, .int y)] := hl
  have St : cS G k [(qA h 8 b), (qarI b cb 9 f)] [(cb, .int)] A s s.heap [] := St
  refine lv_iload_n hx hb dX8_put_0 rfl (lv_at hl 1 rfl) ?_
  refine lv_if_lt (tgt := 17) hx hb dX8_put_1 (by decide) (fun c1 => ?_) (fun c1 => ?_)
  · have i1 := ci_lt (x := x) (y := 0) rfl (show (0 : Int32).toInt = 0 by decide) c1; exact False.elim (by omega)
  have i1 := ci_nlt (x := x) (y := 0) rfl (show (0 : Int32).toInt = 0 by decide) c1
  refine lv_iload_n hx hb dX8_put_4 rfl (lv_at hl 1 rfl) ?_
  refine lv_bipush (v := 9) hx hb dX8_put_5 (by decide) ?_
  refine lv_icmp_ge (tgt := 17) hx hb dX8_put_7 (by decide) (fun c7 => ?_) (fun c7 => ?_)
  · have i7 := ci_le (x := 9) (y := x) (show (9 : Int32).toInt = 9 by decide) rfl c7; exact False.elim (by omega)
  have i7 := ci_nle (x := 9) (y := x) (show (9 : Int32).toInt = 9 by decide) rfl c7
  refine lv_aload_n hx hb dX8_put_10 rfl (lv_at hl 0 rfl) ?_
  refine cs_get F St 0 rfl rfl inX8 0 (by decide) kf_X8_11 rfl dX8_put_11 ?_
  refine lv_iload_n hx hb dX8_put_14 rfl (lv_at hl 1 rfl) ?_
  refine lv_iload_n hx hb dX8_put_15 rfl (lv_at hl 2 rfl) ?_
  refine cs_ist F St 1 0 rfl rfl (vp_in_iff.mpr ⟨by omega, by omega⟩) (w' := [(qA h 8 b), (qarI b cb 9 (upd f (x : Int32).toNatClampNeg y))]) rfl dX8_put_16 (fun H locs St => ?_)
  obtain ⟨f_1, ef_1⟩ : ∃ zz : Nat → Int32, zz = upd f (x : Int32).toNatClampNeg y := ⟨_, rfl⟩
  rw [← ef_1] at St
  exact cs_vret F hr hlk hQ St f_1 ef_1 [0, 1] rfl (by decide) [] rfl (by decide) (by decide) dX8_put_17
set_option maxHeartbeats 4000000 in
set_option maxRecDepth 100000 in
theorem r8_forget (l : Launch) (G : va_G) (k : Nat → Nat) (sz : Nat) (h : Nat) (b : Nat) (cb : ClassId) (f : Nat → Int32) : Met l yX8_forget (Cond.code yX8_forget cX8_forget 1 none :: tb) ({ frames := 1, cells := 0, slots := 0, locals := 60 } : Room) (va_Pc [.ref h] (cP G k [(qA h 8 b), (qarI b cb 9 f)] [(cb, .int)] sz)) (va_Qv (fun (_ : Unit) => True) (cB G (fun (_ : Unit) => [(qA h 8 b), (qarI b cb 9 untold)]) (fun (_ : Unit) => []) (va_A [(qA h 8 b), (qarI b cb 9 f)] sz)) (va_A [(qA h 8 b), (qarI b cb 9 f)] sz)) 0 0 (va_A [(qA h 8 b), (qarI b cb 9 f)] sz) := by
  refine ofC_v (cc := cX8_forget) (maxL := 1) (ret := none) (by decide) rfl (Nat.le_of_ble_eq_true rfl) ?_
  intro p e s m args below meth c A ls Q F hr hin hlk St hl hQ
  have hx := F.1
  have hb := F.2.1
  have hl : lv_has ls 1 [(0, .ref h)] := hl
  have St : cS G k [(qA h 8 b), (qarI b cb 9 f)] [(cb, .int)] A s s.heap [] := St
  refine va_gets hx hb (St.2.2.2.2.2.2.1) St.toS F.2.2.2.1 (F.2.2.2.2 _ kf_X8_15) (fun _ h => h) dX8_forget_0 ?_
  refine lv_iconst (v := 0) hx hb dX8_forget_3 (by decide) ?_
  refine lv_aload_n hx hb dX8_forget_4 rfl (lv_at hl 0 rfl) ?_
  refine cs_get F St 0 rfl rfl inX8 0 (by decide) kf_X8_11 rfl dX8_forget_5 ?_
  refine lv_iconst (v := 0) hx hb dX8_forget_8 (by decide) ?_
  refine lv_bipush (v := 9) hx hb dX8_forget_9 (by decide) ?_
  refine cs_cpT F hl St (St.2.2.2.2.2.2.2.1) 1 0 rfl rfl km_X8_18 (Nat.le_of_ble_eq_true rfl) (Nat.le_of_ble_eq_true rfl) (Nat.le_of_ble_eq_true rfl) (w' := [(qA h 8 b), (qarI b cb 9 (va_cpy untold f 0 0 9))]) rfl dX8_forget_11 (fun H locs St => ?_)
  have St : cS G k [(qA h 8 b), (qarI b cb 9 untold)] [(cb, .int)] A s H locs := cs_norm St 1 rfl (fun j hj => cpy9 hj) rfl
  exact cs_vret F hr hlk hQ St () (by trivial) [0, 1] rfl (by decide) [] rfl (by decide) (by decide) dX8_forget_14
set_option maxHeartbeats 4000000 in
set_option maxRecDepth 100000 in
theorem r8_takeOver (l : Launch) (G : va_G) (k : Nat → Nat) (sz : Nat) (h : Nat) (b : Nat) (h2 : Nat) (b2 : Nat) (cb : ClassId) (cb2 : ClassId) (f : Nat → Int32) (f3 : Nat → Int32) : Met l yX8_takeOver (Cond.code yX8_takeOver cX8_takeOver 2 none :: tb) ({ frames := 1, cells := 0, slots := 0, locals := 60 } : Room) (va_Pc [.ref h, .ref h2] (cP G k [(qA h 8 b), (qarI b cb 9 f), (qA h2 8 b2), (qarI b2 cb2 9 f3)] [(cb, .int), (cb2, .int)] sz)) (va_Qv (fun (_ : Unit) => True) (cB G (fun (_ : Unit) => [(qA h 8 b), (qarI b cb 9 f3), (qA h2 8 b2), (qarI b2 cb2 9 f3)]) (fun (_ : Unit) => []) (va_A [(qA h 8 b), (qarI b cb 9 f), (qA h2 8 b2), (qarI b2 cb2 9 f3)] sz)) (va_A [(qA h 8 b), (qarI b cb 9 f), (qA h2 8 b2), (qarI b2 cb2 9 f3)] sz)) 0 0 (va_A [(qA h 8 b), (qarI b cb 9 f), (qA h2 8 b2), (qarI b2 cb2 9 f3)] sz) := by
  refine ofC_v (cc := cX8_takeOver) (maxL := 2) (ret := none) (by decide) rfl (Nat.le_of_ble_eq_true rfl) ?_
  intro p e s m args below meth c A ls Q F hr hin hlk St hl hQ
  have hx := F.1
  have hb := F.2.1
  have hl : lv_has ls 2 [(0, .ref h), (1, .ref h2)] := hl
  have St : cS G k [(qA h 8 b), (qarI b cb 9 f), (qA h2 8 b2), (qarI b2 cb2 9 f3)] [(cb, .int), (cb2, .int)] A s s.heap [] := St
  refine lv_aload_n hx hb dX8_takeOver_0 rfl (lv_at hl 1 rfl) ?_
  refine cs_get F St 2 rfl rfl inX8 0 (by decide) kf_X8_11 rfl dX8_takeOver_1 ?_
  refine lv_iconst (v := 0) hx hb dX8_takeOver_4 (by decide) ?_
  refine lv_aload_n hx hb dX8_takeOver_5 rfl (lv_at hl 0 rfl) ?_
  refine cs_get F St 0 rfl rfl inX8 0 (by decide) kf_X8_11 rfl dX8_takeOver_6 ?_
  refine lv_iconst (v := 0) hx hb dX8_takeOver_9 (by decide) ?_
  refine lv_bipush (v := 9) hx hb dX8_takeOver_10 (by decide) ?_
  refine cs_cp F hl St 3 1 1 0 rfl rfl rfl rfl km_X8_18 (Nat.le_of_ble_eq_true rfl) (Nat.le_of_ble_eq_true rfl) (Nat.le_of_ble_eq_true rfl) (w' := [(qA h 8 b), (qarI b cb 9 (va_cpy f3 f 0 0 9)), (qA h2 8 b2), (qarI b2 cb2 9 f3)]) rfl dX8_takeOver_12 (fun H locs St => ?_)
  have St : cS G k [(qA h 8 b), (qarI b cb 9 f3), (qA h2 8 b2), (qarI b2 cb2 9 f3)] [(cb, .int), (cb2, .int)] A s H locs := cs_norm St 1 rfl (fun j hj => cpy9 hj) rfl
  exact cs_vret F hr hlk hQ St () (by trivial) [0, 1, 2, 3] rfl (by decide) [] rfl (by decide) (by decide) dX8_takeOver_15
set_option maxHeartbeats 4000000 in
set_option maxRecDepth 100000 in
theorem r9_startAnew (l : Launch) (G : va_G) (k : Nat → Nat) (sz : Nat) (h : Nat) (d : Nat) (dr : Nat) (t : Nat) (cd : ClassId) (ce : ClassId) (rh : Int32) (rt : Int32) (rs : Int32) (rv : Int32) (rk : Int32) (rp : Int32) (fd : Nat → Int32) (ft : Nat → Int32) : Met l yX9_startAnew (Cond.code yX9_startAnew cX9_startAnew 2 none :: tb) ({ frames := 2, cells := 0, slots := 0, locals := 80 } : Room) (va_Pc [.ref h] (cP G k [(qAAIIIIII h 9 d t rh rt rs rv rk rp), (qA d 8 dr), (qarI dr cd 9 fd), (qarI t ce 6 ft)] [(cd, .int), (ce, .boolean)] sz)) (va_Qv (fun (_ : Unit) => True) (cB G (fun (_ : Unit) => [(qAAIIIIII h 9 d t 0 rt rs rv 0 (-1)), (qA d 8 dr), (qarI dr cd 9 untold), (qarI t ce 6 (fun _ => 0))]) (fun (_ : Unit) => []) (va_A [(qAAIIIIII h 9 d t rh rt rs rv rk rp), (qA d 8 dr), (qarI dr cd 9 fd), (qarI t ce 6 ft)] sz)) (va_A [(qAAIIIIII h 9 d t rh rt rs rv rk rp), (qA d 8 dr), (qarI dr cd 9 fd), (qarI t ce 6 ft)] sz)) 0 0 (va_A [(qAAIIIIII h 9 d t rh rt rs rv rk rp), (qA d 8 dr), (qarI dr cd 9 fd), (qarI t ce 6 ft)] sz) := by
  refine ofC_v (cc := cX9_startAnew) (maxL := 2) (ret := none) (by decide) rfl (Nat.le_of_ble_eq_true rfl) ?_
  intro p e s m args below meth c A ls Q F hr hin hlk St hl hQ
  have hx := F.1
  have hb := F.2.1
  have hl : lv_has ls 2 [(0, .ref h)] := hl
  have St : cS G k [(qAAIIIIII h 9 d t rh rt rs rv rk rp), (qA d 8 dr), (qarI dr cd 9 fd), (qarI t ce 6 ft)] [(cd, .int), (ce, .boolean)] A s s.heap [] := St
  have y0 : (0 : Int32).toInt = 0 := by decide
  refine lv_aload_n hx hb dX9_startAnew_0 rfl (lv_at hl 0 rfl) ?_
  refine cs_get F St 0 rfl rfl inX9 0 (by decide) kf_X9_12 rfl dX9_startAnew_1 ?_
  refine cs_v St [1, 2] [0, 3] (wc := [(qA d 8 dr), (qarI dr cd 9 fd)]) (wr := [(qAAIIIIII h 9 d t rh rt rs rv rk rp), (qarI t ce 6 ft)]) rfl rfl (by decide) (by decide) (va_runV (As := []) (rest := []) F (r8_forget l G k _ d dr cd fd) (cwVt F mf_X8_forget km_X9_42 rfl rfl ⟨Nat.le_of_ble_eq_true rfl, Nat.le_of_ble_eq_true rfl⟩) (cs_preV St [1, 2] rfl (by decide) [0] rfl (ci := 8) (q0 := 1) rfl rfl) rfl rfl hl.1 rfl (lv_room (Nat.le_of_ble_eq_true rfl)) dX9_startAnew_4 ⟨Nat.le_of_ble_eq_true rfl, Nat.le_of_ble_eq_true rfl⟩) (fun u_2 H locs hw St => ?_)
  try dsimp only at hw
  have St : cS G k [(qAAIIIIII h 9 d t rh rt rs rv rk rp), (qarI t ce 6 ft), (qA d 8 dr), (qarI dr cd 9 untold)] [(cd, .int), (ce, .boolean)] A s H locs := St
  refine lv_iconst (v := 0) hx hb dX9_startAnew_7 (by decide) ?_
  refine lv_istore_n (lv' := [(1, .int 0), (0, .ref h)]) hx hb dX9_startAnew_8 rfl hl (by decide) rfl (fun ls hl => ?_)
  have lp9 : ∀ (n : Nat) (i : Int32) (f9 : Nat → Int32) (H : Heap) (locs : List Loc) (ls : Array Slot), ((0 ≤ i.toInt ∧ i.toInt ≤ 6) ∧ ∀ j : Nat, (j : Int) < i.toInt → f9 j = 0) → ((6 - i.toInt).toNat) < n → cS G k [(qAAIIIIII h 9 d t rh rt rs rv rk rp), (qarI t ce 6 f9), (qA d 8 dr), (qarI dr cd 9 untold)] [(cd, .int), (ce, .boolean)] A s H locs → lv_has ls 2 [(1, .int i), (0, .ref h)] → W p l e ({ frames := 2, cells := 0, slots := 0, locals := 80 } : Room) s m args below meth c H locs 0 0 Q (F0 m 9 ls []) := by
    intro n
    induction n with
    | zero => intro i f9 H locs ls hI hn; exact absurd hn (Nat.not_lt_zero _)
    | succ n ih =>
      intro i f9 H locs ls hI hn St hl
      obtain ⟨⟨hI0, hI1⟩, hJ⟩ := hI
      refine lv_iload_n hx hb dX9_startAnew_9 rfl (lv_at hl 0 rfl) ?_
      refine lv_bipush (v := 6) hx hb dX9_startAnew_10 (by decide) ?_
      refine lv_icmp_ge (tgt := 28) hx hb dX9_startAnew_12 (by decide) (fun c12 => ?_) (fun c12 => ?_)
      ·
        have i12 := ci_le (x := 6) (y := i) (show (6 : Int32).toInt = 6 by decide) rfl c12
        have St : cS G k [(qAAIIIIII h 9 d t rh rt rs rv rk rp), (qarI t ce 6 (fun _ => 0)), (qA d 8 dr), (qarI dr cd 9 untold)] [(cd, .int), (ce, .boolean)] A s H locs := cs_norm St 1 rfl (fun j hj => hJ j (by omega)) rfl
        refine lv_aload_n hx hb dX9_startAnew_28 rfl (lv_at hl 1 rfl) ?_
        refine lv_iconst (v := 0) hx hb dX9_startAnew_29 (by decide) ?_
        refine cs_put F St 0 rfl rfl inX9 tyX9_ok nmX9 2 (by decide) kf_X9_45 rfl rfl rfl (Nat.le_of_ble_eq_true rfl) (w' := [(qAAIIIIII h 9 d t 0 rt rs rv rk rp), (qarI t ce 6 (fun _ => 0)), (qA d 8 dr), (qarI dr cd 9 untold)]) rfl dX9_startAnew_30 (fun H locs St => ?_)
        refine lv_aload_n hx hb dX9_startAnew_33 rfl (lv_at hl 1 rfl) ?_
        refine lv_iconst (v := 0) hx hb dX9_startAnew_34 (by decide) ?_
        refine cs_put F St 0 rfl rfl inX9 tyX9_ok nmX9 6 (by decide) kf_X9_26 rfl rfl rfl (Nat.le_of_ble_eq_true rfl) (w' := [(qAAIIIIII h 9 d t 0 rt rs rv 0 rp), (qarI t ce 6 (fun _ => 0)), (qA d 8 dr), (qarI dr cd 9 untold)]) rfl dX9_startAnew_35 (fun H locs St => ?_)
        refine lv_aload_n hx hb dX9_startAnew_38 rfl (lv_at hl 1 rfl) ?_
        refine lv_iconst (v := (-1)) hx hb dX9_startAnew_39 (by decide) ?_
        refine cs_put F St 0 rfl rfl inX9 tyX9_ok nmX9 7 (by decide) kf_X9_22 rfl rfl rfl (Nat.le_of_ble_eq_true rfl) (w' := [(qAAIIIIII h 9 d t 0 rt rs rv 0 (-1)), (qarI t ce 6 (fun _ => 0)), (qA d 8 dr), (qarI dr cd 9 untold)]) rfl dX9_startAnew_40 (fun H locs St => ?_)
        exact cs_vret F hr hlk hQ St () (by trivial) [0, 2, 3, 1] rfl (by decide) [] rfl (by decide) (by decide) dX9_startAnew_43
      ·
        have i12 := ci_nle (x := 6) (y := i) (show (6 : Int32).toInt = 6 by decide) rfl c12
        refine lv_aload_n hx hb dX9_startAnew_15 rfl (lv_at hl 1 rfl) ?_
        refine cs_get F St 0 rfl rfl inX9 1 (by decide) kf_X9_18 rfl dX9_startAnew_16 ?_
        refine lv_iload_n hx hb dX9_startAnew_19 rfl (lv_at hl 0 rfl) ?_
        refine lv_iconst (v := 0) hx hb dX9_startAnew_20 (by decide) ?_
        refine cs_zst F St 1 1 rfl rfl (vp_in_iff.mpr ⟨by omega, by omega⟩) (w' := [(qAAIIIIII h 9 d t rh rt rs rv rk rp), (qarI t ce 6 (upd f9 (i : Int32).toNatClampNeg (vp_nar .boolean 0))), (qA d 8 dr), (qarI dr cd 9 untold)]) rfl dX9_startAnew_21 (fun H locs St => ?_)
        obtain ⟨f_3, ef_3⟩ : ∃ zz : Nat → Int32, zz = upd f9 (i : Int32).toNatClampNeg (vp_nar .boolean 0) := ⟨_, rfl⟩
        rw [← ef_3] at St
        obtain ⟨y_4, ey_4⟩ : ∃ zz : Int32, zz = i + 1 := ⟨_, rfl⟩
        first | have jy_4 : y_4.toInt = i.toInt + 1 := (by have q9 := ci_add (x := i) rfl (show (1 : Int32).toInt = 1 by decide) ey_4; omega) | have jy_4 := ci_add (x := i) rfl (show (1 : Int32).toInt = 1 by decide) ey_4
        refine lv_iinc (v := y_4) (lv' := [(1, .int y_4), (0, .ref h)]) hx hb dX9_startAnew_22 hl (k := 0) rfl (by rw [ey_4]; rfl) (by decide) rfl (fun ls hl => ?_)
        refine lv_goto (tgt := 9) hx hb dX9_startAnew_25 (by decide) ?_
        exact ih y_4 f_3 _ _ _ ⟨⟨by omega, by omega⟩, by rw [ef_3, nar_z0]; exact row_up0 hI0 hJ (by omega)⟩ (by omega) St (lv_sub hl [0, 1] rfl)
  exact lp9 7 0 ft _ _ _ ⟨⟨by omega, by omega⟩, fun j q => absurd q (by omega)⟩ (by decide) St (lv_sub hl [0, 1] rfl)

