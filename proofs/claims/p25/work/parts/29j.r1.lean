set_option maxHeartbeats 4000000 in
set_option maxRecDepth 100000 in
theorem r6_at (l : Launch) (G : va_G) (k : Nat → Nat) (sz : Nat) (h : Nat) (b : Nat) (cb : ClassId) (nn : Int32) (f : Nat → Int32) (x : Int32) (h1 : nn.toInt ≤ 400) : Met l yX6_at (Cond.code yX6_at cX6_at 2 (some .int) :: tb) ({ frames := 0, cells := 0, slots := 0, locals := 0 } : Room) (va_Pc [.ref h, .int x] (cP G k [(qAI h 6 b nn), (qarI b cb 400 f)] [(cb, .byte)] sz)) (va_Qi (fun (r : Int32) (_ : Unit) => ((r = (-1)) ∧ (¬ (0 ≤ x.toInt ∧ x.toInt < nn.toInt))) ∨ ((0 ≤ x.toInt ∧ x.toInt < nn.toInt) ∧ (r = b8 f x.toNatClampNeg) ∧ (0 ≤ r.toInt ∧ r.toInt ≤ 255))) (cB G (fun (_ : Unit) => [(qAI h 6 b nn), (qarI b cb 400 f)]) (fun (_ : Unit) => []) (va_A [(qAI h 6 b nn), (qarI b cb 400 f)] sz)) (va_A [(qAI h 6 b nn), (qarI b cb 400 f)] sz)) 0 0 (va_A [(qAI h 6 b nn), (qarI b cb 400 f)] sz) := by
  refine ofC_i (cc := cX6_at) (maxL := 2) (ret := (some .int)) (by decide) rfl (Nat.le_of_ble_eq_true rfl) ?_
  intro p e s m args below meth c A ls Q F hr hin hlk St hl hQ
  have hx := F.1
  have hb := F.2.1
  have hl : lv_has ls 2 [(0, .ref h), (1, .int x)] := hl
  have St : cS G k [(qAI h 6 b nn), (qarI b cb 400 f)] [(cb, .byte)] A s s.heap [] := St
  have y0 : (0 : Int32).toInt = 0 := by decide
  refine lv_iload_n hx hb dX6_at_0 rfl (lv_at hl 1 rfl) ?_
  refine lv_if_lt (tgt := 32) hx hb dX6_at_1 (by decide) (fun c1 => ?_) (fun c1 => ?_)
  ·
    have i1 := ci_lt (x := x) (y := 0) rfl (show (0 : Int32).toInt = 0 by decide) c1
    refine lv_iconst (v := (-1)) hx hb dX6_at_32 (by decide) ?_
    exact cs_iret F hr hlk hQ St () (r := (-1)) (Or.inl ⟨rfl, by omega⟩) [0, 1] rfl (by decide) [] rfl (by decide) (by decide) dX6_at_33
  ·
    have i1 := ci_nlt (x := x) (y := 0) rfl (show (0 : Int32).toInt = 0 by decide) c1
    refine lv_iload_n hx hb dX6_at_4 rfl (lv_at hl 1 rfl) ?_
    refine lv_aload_n hx hb dX6_at_5 rfl (lv_at hl 0 rfl) ?_
    refine cs_get F St 0 rfl rfl inX6 1 (by decide) kf_X6_15 rfl dX6_at_6 ?_
    refine lv_icmp_ge (tgt := 32) hx hb dX6_at_9 (by decide) (fun c9 => ?_) (fun c9 => ?_)
    ·
      have i9 := ci_le (x := nn) (y := x) rfl rfl c9
      refine lv_iconst (v := (-1)) hx hb dX6_at_32 (by decide) ?_
      exact cs_iret F hr hlk hQ St () (r := (-1)) (Or.inl ⟨rfl, by omega⟩) [0, 1] rfl (by decide) [] rfl (by decide) (by decide) dX6_at_33
    ·
      have i9 := ci_nle (x := nn) (y := x) rfl rfl c9
      refine lv_iload_n hx hb dX6_at_12 rfl (lv_at hl 1 rfl) ?_
      refine lv_sipush (v := 400) hx hb dX6_at_13 (by decide) ?_
      refine lv_icmp_ge (tgt := 32) hx hb dX6_at_16 (by decide) (fun c16 => ?_) (fun c16 => ?_)
      · have i16 := ci_le (x := 400) (y := x) (show (400 : Int32).toInt = 400 by decide) rfl c16; exact False.elim (by omega)
      have i16 := ci_nle (x := 400) (y := x) (show (400 : Int32).toInt = 400 by decide) rfl c16
      refine lv_aload_n hx hb dX6_at_19 rfl (lv_at hl 0 rfl) ?_
      refine cs_get F St 0 rfl rfl inX6 0 (by decide) kf_X6_11 rfl dX6_at_20 ?_
      refine lv_iload_n hx hb dX6_at_23 rfl (lv_at hl 1 rfl) ?_
      refine cs_bld F St 1 0 rfl rfl (vp_in_iff.mpr ⟨by omega, by omega⟩) dX6_at_24 ?_
      refine lv_topi (fun y_1 ey_1 => ?_)
      refine lv_sipush (v := 255) hx hb dX6_at_25 (by decide) ?_
      refine lv_iand hx hb dX6_at_28 ?_
      refine lv_topi (fun y_2 ey_2 => ?_)
      refine lv_goto (tgt := 33) hx hb dX6_at_29 (by decide) ?_
      have hbt : y_2 = b8 f x.toNatClampNeg := by rw [ey_2, ey_1]; rfl
      exact cs_iret F hr hlk hQ St () (r := y_2) (Or.inr ⟨by omega, hbt, b8_r hbt⟩) [0, 1] rfl (by decide) [] rfl (by decide) (by decide) dX6_at_33
set_option maxHeartbeats 4000000 in
set_option maxRecDepth 100000 in
theorem r9_isBlank (l : Launch) (G : va_G) (k : Nat → Nat) (sz : Nat) (x : Int32) : Met l yX9_isBlank (Cond.code yX9_isBlank cX9_isBlank 1 (some .boolean) :: tb) ({ frames := 0, cells := 0, slots := 0, locals := 0 } : Room) (va_Pc [.int x] (cP G k [] [] sz)) (va_Qi (fun (r : Int32) (_ : Unit) => ((r = 1) ∧ (x.toInt = 32 ∨ x.toInt = 10)) ∨ ((r = 0) ∧ (¬ (x.toInt = 32 ∨ x.toInt = 10)))) (cB G (fun (_ : Unit) => []) (fun (_ : Unit) => []) (va_A [] sz)) (va_A [] sz)) 0 0 (va_A [] sz) := by
  refine ofC_i (cc := cX9_isBlank) (maxL := 1) (ret := (some .boolean)) (by decide) rfl (Nat.le_of_ble_eq_true rfl) ?_
  intro p e s m args below meth c A ls Q F hr hin hlk St hl hQ
  have hx := F.1
  have hb := F.2.1
  have hl : lv_has ls 1 [(0, .int x)] := hl
  have St : cS G k [] [] A s s.heap [] := St
  refine lv_iload_n hx hb dX9_isBlank_0 rfl (lv_at hl 0 rfl) ?_
  refine lv_bipush (v := 32) hx hb dX9_isBlank_1 (by decide) ?_
  refine lv_icmp_eq (tgt := 12) hx hb dX9_isBlank_3 (by decide) (fun c3 => ?_) (fun c3 => ?_)
  ·
    have i3 := ci_eq (x := x) (y := 32) rfl (show (32 : Int32).toInt = 32 by decide) c3
    refine lv_iconst (v := 1) hx hb dX9_isBlank_12 (by decide) ?_
    refine lv_goto (tgt := 17) hx hb dX9_isBlank_13 (by decide) ?_
    exact cs_zret F hr hlk hQ St () (r := 1) rfl (Or.inl ⟨rfl, by omega⟩) [] rfl (by decide) [] rfl (by decide) (by decide) dX9_isBlank_17
  ·
    have i3 := ci_ne (x := x) (y := 32) rfl (show (32 : Int32).toInt = 32 by decide) c3
    refine lv_iload_n hx hb dX9_isBlank_6 rfl (lv_at hl 0 rfl) ?_
    refine lv_bipush (v := 10) hx hb dX9_isBlank_7 (by decide) ?_
    refine lv_icmp_ne (tgt := 16) hx hb dX9_isBlank_9 (by decide) (fun c9 => ?_) (fun c9 => ?_)
    ·
      have i9 := ci_ne (x := x) (y := 10) rfl (show (10 : Int32).toInt = 10 by decide) c9
      refine lv_iconst (v := 0) hx hb dX9_isBlank_16 (by decide) ?_
      exact cs_zret F hr hlk hQ St () (r := 0) rfl (Or.inr ⟨rfl, by omega⟩) [] rfl (by decide) [] rfl (by decide) (by decide) dX9_isBlank_17
    ·
      have i9 := ci_eq (x := x) (y := 10) rfl (show (10 : Int32).toInt = 10 by decide) c9
      refine lv_iconst (v := 1) hx hb dX9_isBlank_12 (by decide) ?_
      refine lv_goto (tgt := 17) hx hb dX9_isBlank_13 (by decide) ?_
      exact cs_zret F hr hlk hQ St () (r := 1) rfl (Or.inl ⟨rfl, by omega⟩) [] rfl (by decide) [] rfl (by decide) (by decide) dX9_isBlank_17
set_option maxHeartbeats 4000000 in
set_option maxRecDepth 100000 in
theorem r9_isLetter (l : Launch) (G : va_G) (k : Nat → Nat) (sz : Nat) (x : Int32) : Met l yX9_isLetter (Cond.code yX9_isLetter cX9_isLetter 1 (some .boolean) :: tb) ({ frames := 0, cells := 0, slots := 0, locals := 0 } : Room) (va_Pc [.int x] (cP G k [] [] sz)) (va_Qi (fun (r : Int32) (_ : Unit) => ((r = 1) ∧ (97 ≤ x.toInt ∧ x.toInt ≤ 122)) ∨ ((r = 0) ∧ (¬ (97 ≤ x.toInt ∧ x.toInt ≤ 122)))) (cB G (fun (_ : Unit) => []) (fun (_ : Unit) => []) (va_A [] sz)) (va_A [] sz)) 0 0 (va_A [] sz) := by
  refine ofC_i (cc := cX9_isLetter) (maxL := 1) (ret := (some .boolean)) (by decide) rfl (Nat.le_of_ble_eq_true rfl) ?_
  intro p e s m args below meth c A ls Q F hr hin hlk St hl hQ
  have hx := F.1
  have hb := F.2.1
  have hl : lv_has ls 1 [(0, .int x)] := hl
  have St : cS G k [] [] A s s.heap [] := St
  refine lv_iload_n hx hb dX9_isLetter_0 rfl (lv_at hl 0 rfl) ?_
  refine lv_bipush (v := 97) hx hb dX9_isLetter_1 (by decide) ?_
  refine lv_icmp_lt (tgt := 16) hx hb dX9_isLetter_3 (by decide) (fun c3 => ?_) (fun c3 => ?_)
  ·
    have i3 := ci_lt (x := x) (y := 97) rfl (show (97 : Int32).toInt = 97 by decide) c3
    refine lv_iconst (v := 0) hx hb dX9_isLetter_16 (by decide) ?_
    exact cs_zret F hr hlk hQ St () (r := 0) rfl (Or.inr ⟨rfl, by omega⟩) [] rfl (by decide) [] rfl (by decide) (by decide) dX9_isLetter_17
  ·
    have i3 := ci_nlt (x := x) (y := 97) rfl (show (97 : Int32).toInt = 97 by decide) c3
    refine lv_iload_n hx hb dX9_isLetter_6 rfl (lv_at hl 0 rfl) ?_
    refine lv_bipush (v := 122) hx hb dX9_isLetter_7 (by decide) ?_
    refine lv_icmp_gt (tgt := 16) hx hb dX9_isLetter_9 (by decide) (fun c9 => ?_) (fun c9 => ?_)
    ·
      have i9 := ci_lt (x := 122) (y := x) (show (122 : Int32).toInt = 122 by decide) rfl c9
      refine lv_iconst (v := 0) hx hb dX9_isLetter_16 (by decide) ?_
      exact cs_zret F hr hlk hQ St () (r := 0) rfl (Or.inr ⟨rfl, by omega⟩) [] rfl (by decide) [] rfl (by decide) (by decide) dX9_isLetter_17
    ·
      have i9 := ci_nlt (x := 122) (y := x) (show (122 : Int32).toInt = 122 by decide) rfl c9
      refine lv_iconst (v := 1) hx hb dX9_isLetter_12 (by decide) ?_
      refine lv_goto (tgt := 17) hx hb dX9_isLetter_13 (by decide) ?_
      exact cs_zret F hr hlk hQ St () (r := 1) rfl (Or.inl ⟨rfl, by omega⟩) [] rfl (by decide) [] rfl (by decide) (by decide) dX9_isLetter_17
set_option maxHeartbeats 4000000 in
set_option maxRecDepth 100000 in
theorem r9_isDigit (l : Launch) (G : va_G) (k : Nat → Nat) (sz : Nat) (x : Int32) : Met l yX9_isDigit (Cond.code yX9_isDigit cX9_isDigit 1 (some .boolean) :: tb) ({ frames := 0, cells := 0, slots := 0, locals := 0 } : Room) (va_Pc [.int x] (cP G k [] [] sz)) (va_Qi (fun (r : Int32) (_ : Unit) => ((r = 1) ∧ (48 ≤ x.toInt ∧ x.toInt ≤ 57)) ∨ ((r = 0) ∧ (¬ (48 ≤ x.toInt ∧ x.toInt ≤ 57)))) (cB G (fun (_ : Unit) => []) (fun (_ : Unit) => []) (va_A [] sz)) (va_A [] sz)) 0 0 (va_A [] sz) := by
  refine ofC_i (cc := cX9_isDigit) (maxL := 1) (ret := (some .boolean)) (by decide) rfl (Nat.le_of_ble_eq_true rfl) ?_
  intro p e s m args below meth c A ls Q F hr hin hlk St hl hQ
  have hx := F.1
  have hb := F.2.1
  have hl : lv_has ls 1 [(0, .int x)] := hl
  have St : cS G k [] [] A s s.heap [] := St
  refine lv_iload_n hx hb dX9_isDigit_0 rfl (lv_at hl 0 rfl) ?_
  refine lv_bipush (v := 48) hx hb dX9_isDigit_1 (by decide) ?_
  refine lv_icmp_lt (tgt := 16) hx hb dX9_isDigit_3 (by decide) (fun c3 => ?_) (fun c3 => ?_)
  ·
    have i3 := ci_lt (x := x) (y := 48) rfl (show (48 : Int32).toInt = 48 by decide) c3
    refine lv_iconst (v := 0) hx hb dX9_isDigit_16 (by decide) ?_
    exact cs_zret F hr hlk hQ St () (r := 0) rfl (Or.inr ⟨rfl, by omega⟩) [] rfl (by decide) [] rfl (by decide) (by decide) dX9_isDigit_17
  ·
    have i3 := ci_nlt (x := x) (y := 48) rfl (show (48 : Int32).toInt = 48 by decide) c3
    refine lv_iload_n hx hb dX9_isDigit_6 rfl (lv_at hl 0 rfl) ?_
    refine lv_bipush (v := 57) hx hb dX9_isDigit_7 (by decide) ?_
    refine lv_icmp_gt (tgt := 16) hx hb dX9_isDigit_9 (by decide) (fun c9 => ?_) (fun c9 => ?_)
    ·
      have i9 := ci_lt (x := 57) (y := x) (show (57 : Int32).toInt = 57 by decide) rfl c9
      refine lv_iconst (v := 0) hx hb dX9_isDigit_16 (by decide) ?_
      exact cs_zret F hr hlk hQ St () (r := 0) rfl (Or.inr ⟨rfl, by omega⟩) [] rfl (by decide) [] rfl (by decide) (by decide) dX9_isDigit_17
    ·
      have i9 := ci_nlt (x := 57) (y := x) (show (57 : Int32).toInt = 57 by decide) rfl c9
      refine lv_iconst (v := 1) hx hb dX9_isDigit_12 (by decide) ?_
      refine lv_goto (tgt := 17) hx hb dX9_isDigit_13 (by decide) ?_
      exact cs_zret F hr hlk hQ St () (r := 1) rfl (Or.inl ⟨rfl, by omega⟩) [] rfl (by decide) [] rfl (by decide) (by decide) dX9_isDigit_17
set_option maxHeartbeats 4000000 in
set_option maxRecDepth 100000 in
theorem r9_readWord (l : Launch) (G : va_G) (k : Nat → Nat) (sz : Nat) (h : Nat) (d : Nat) (t : Nat) (rh : Int32) (rt : Int32) (rs : Int32) (rv : Int32) (rk : Int32) (rp : Int32) (h2 : Nat) (b2 : Nat) (cb : ClassId) (nn : Int32) (f : Nat → Int32) (hn0 : 0 ≤ nn.toInt) (hn1 : nn.toInt ≤ 400) (hh0 : 0 ≤ rh.toInt) (hh1 : rh.toInt ≤ nn.toInt) : Met l yX9_readWord (Cond.code yX9_readWord cX9_readWord 2 none :: tb) ({ frames := 1, cells := 0, slots := 0, locals := 21 } : Room) (va_Pc [.ref h, .ref h2] (cP G k [(qAAIIIIII h 9 d t rh rt rs rv rk rp), (qAI h2 6 b2 nn), (qarI b2 cb 400 f)] [(cb, .byte)] sz)) (va_Qv (fun (rh2 : Int32) => (rh.toInt ≤ rh2.toInt) ∧ (rh2.toInt ≤ nn.toInt) ∧ (rh2.toNatClampNeg = rnE tL f nn.toNatClampNeg rh.toNatClampNeg)) (cB G (fun (rh2 : Int32) => [(qAAIIIIII h 9 d t rh2 1 rs rv rk rp), (qAI h2 6 b2 nn), (qarI b2 cb 400 f)]) (fun (rh2 : Int32) => []) (va_A [(qAAIIIIII h 9 d t rh rt rs rv rk rp), (qAI h2 6 b2 nn), (qarI b2 cb 400 f)] sz)) (va_A [(qAAIIIIII h 9 d t rh rt rs rv rk rp), (qAI h2 6 b2 nn), (qarI b2 cb 400 f)] sz)) 0 0 (va_A [(qAAIIIIII h 9 d t rh rt rs rv rk rp), (qAI h2 6 b2 nn), (qarI b2 cb 400 f)] sz) := by
  refine ofC_v (cc := cX9_readWord) (maxL := 2) (ret := none) (by decide) rfl (Nat.le_of_ble_eq_true rfl) ?_
  intro p e s m args below meth c A ls Q F hr hin hlk St hl hQ
  have hx := F.1
  have hb := F.2.1
  have hl : lv_has ls 2 [(0, .ref h), (1, .ref h2)] := hl
  have St : cS G k [(qAAIIIIII h 9 d t rh rt rs rv rk rp), (qAI h2 6 b2 nn), (qarI b2 cb 400 f)] [(cb, .byte)] A s s.heap [] := St
  have y0 : (0 : Int32).toInt = 0 := by decide
  have lp0 : ∀ (n : Nat) (bh : Int32) (H : Heap) (locs : List Loc) (ls : Array Slot), (Run tL f nn rh bh) → ((nn.toInt - bh.toInt).toNat) < n → cS G k [(qAAIIIIII h 9 d t bh rt rs rv rk rp), (qAI h2 6 b2 nn), (qarI b2 cb 400 f)] [(cb, .byte)] A s H locs → lv_has ls 2 [(0, .ref h), (1, .ref h2)] → W p l e ({ frames := 1, cells := 0, slots := 0, locals := 21 } : Room) s m args below meth c H locs 0 0 Q (F0 m 0 ls []) := by
    intro n
    induction n with
    | zero => intro bh H locs ls hI hn; exact absurd hn (Nat.not_lt_zero _)
    | succ n ih =>
      intro bh H locs ls hI hn St hl
      have hI0 := hI.1
      have hI1 := hI.2.1
      refine lv_aload_n hx hb dX9_readWord_0 rfl (lv_at hl 0 rfl) ?_
      refine cs_get F St 0 rfl rfl inX9 2 (by decide) kf_X9_45 rfl dX9_readWord_1 ?_
      refine lv_aload_n hx hb dX9_readWord_4 rfl (lv_at hl 1 rfl) ?_
      refine cs_i St [1] [0, 2] (wc := [(qAI h2 6 b2 nn)]) (wr := [(qAAIIIIII h 9 d t bh rt rs rv rk rp), (qarI b2 cb 400 f)]) rfl rfl (by decide) (by decide) (va_runV (As := []) (rest := [.int bh]) F (x6_length l G k _ h2 b2 nn) (cwVt F mf_X6_length km_X9_126 rfl rfl ⟨Nat.le_of_ble_eq_true rfl, Nat.le_of_ble_eq_true rfl⟩) (cs_preV St [1] rfl (by decide) [] rfl (ci := 6) (q0 := 1) rfl rfl) rfl rfl hl.1 rfl (lv_room (Nat.le_of_ble_eq_true rfl)) dX9_readWord_5 ⟨Nat.le_of_ble_eq_true rfl, Nat.le_of_ble_eq_true rfl⟩) (fun r_1 u_2 H locs hw St => ?_)
      try dsimp only at hw
      have z_3 := hw
      subst r_1
      have St : cS G k [(qAAIIIIII h 9 d t bh rt rs rv rk rp), (qarI b2 cb 400 f), (qAI h2 6 b2 nn)] [(cb, .byte)] A s H locs := St
      refine lv_icmp_ge (tgt := 38) hx hb dX9_readWord_8 (by decide) (fun c8 => ?_) (fun c8 => ?_)
      ·
        have i8 := ci_le (x := nn) (y := bh) rfl rfl c8
        refine lv_aload_n hx hb dX9_readWord_38 rfl (lv_at hl 0 rfl) ?_
        refine lv_iconst (v := 1) hx hb dX9_readWord_39 (by decide) ?_
        refine cs_put F St 0 rfl rfl inX9 tyX9_ok nmX9 3 (by decide) kf_X9_36 rfl rfl rfl (Nat.le_of_ble_eq_true rfl) (w' := [(qAAIIIIII h 9 d t bh 1 rs rv rk rp), (qarI b2 cb 400 f), (qAI h2 6 b2 nn)]) rfl dX9_readWord_40 (fun H locs St => ?_)
        exact cs_vret F hr hlk hQ St bh ⟨by omega, by omega, (Run_end hh0 hI (Or.inl (by omega))).symm⟩ [0, 2, 1] rfl (by decide) [] rfl (by decide) (by decide) dX9_readWord_43
      ·
        have i8 := ci_nle (x := nn) (y := bh) rfl rfl c8
        refine lv_aload_n hx hb dX9_readWord_11 rfl (lv_at hl 1 rfl) ?_
        refine lv_aload_n hx hb dX9_readWord_12 rfl (lv_at hl 0 rfl) ?_
        refine cs_get F St 0 rfl rfl inX9 2 (by decide) kf_X9_45 rfl dX9_readWord_13 ?_
        refine cs_i St [2, 1] [0] (wc := [(qAI h2 6 b2 nn), (qarI b2 cb 400 f)]) (wr := [(qAAIIIIII h 9 d t bh rt rs rv rk rp)]) rfl rfl (by decide) (by decide) (va_runV (As := [.int bh]) (rest := []) F (r6_at l G k _ h2 b2 cb nn f bh (by omega)) (cwVt F mf_X6_at km_X9_116 rfl rfl ⟨Nat.le_of_ble_eq_true rfl, Nat.le_of_ble_eq_true rfl⟩) (cs_preV St [2, 1] rfl (by decide) [0] rfl (ci := 6) (q0 := 2) rfl rfl) rfl rfl hl.1 rfl (lv_room (Nat.le_of_ble_eq_true rfl)) dX9_readWord_16 ⟨Nat.le_of_ble_eq_true rfl, Nat.le_of_ble_eq_true rfl⟩) (fun r_4 u_5 H locs hw St => ?_)
        try dsimp only at hw
        rcases hw with ⟨z_6, hf_7⟩ | ⟨hf_8, hr_9, hq_10⟩
        ·
          exact False.elim (by omega)
        ·
          have St : cS G k [(qAAIIIIII h 9 d t bh rt rs rv rk rp), (qAI h2 6 b2 nn), (qarI b2 cb 400 f)] [(cb, .byte)] A s H locs := St
          refine cs_i St [] [0, 1, 2] (wc := []) (wr := [(qAAIIIIII h 9 d t bh rt rs rv rk rp), (qAI h2 6 b2 nn), (qarI b2 cb 400 f)]) rfl rfl (by decide) (by decide) (va_runS (As := [.int r_4]) (rest := []) F (r9_isLetter l G k _ r_4) (cwSt F mf_X9_isLetter km_X9_131 rfl rfl ⟨Nat.le_of_ble_eq_true rfl, Nat.le_of_ble_eq_true rfl⟩) (cs_pre St [] rfl (by decide) [] rfl) rfl rfl hl.1 rfl (lv_room (Nat.le_of_ble_eq_true rfl)) dX9_readWord_19 ⟨Nat.le_of_ble_eq_true rfl, Nat.le_of_ble_eq_true rfl⟩) (fun r_11 u_12 H locs hw St => ?_)
          try dsimp only at hw
          rcases hw with ⟨z_13, hf_14⟩ | ⟨z_15, hf_16⟩
          ·
            subst r_11
            have St : cS G k [(qAAIIIIII h 9 d t bh rt rs rv rk rp), (qAI h2 6 b2 nn), (qarI b2 cb 400 f)] [(cb, .byte)] A s H locs := St
            refine lv_if_eq (tgt := 38) hx hb dX9_readWord_22 (by decide) (fun c22 => ?_) (fun c22 => ?_)
            · exact absurd c22 (by decide)
            refine lv_aload_n hx hb dX9_readWord_25 rfl (lv_at hl 0 rfl) ?_
            refine lv_dup hx hb dX9_readWord_26 rfl ?_
            refine cs_get F St 0 rfl rfl inX9 2 (by decide) kf_X9_45 rfl dX9_readWord_27 ?_
            refine lv_iconst (v := 1) hx hb dX9_readWord_30 (by decide) ?_
            refine lv_iadd hx hb dX9_readWord_31 ?_
            refine lv_topi (fun y_17 ey_17 => ?_)
            first | have jy_17 : y_17.toInt = bh.toInt + 1 := (by have q9 := ci_add (x := bh) (y := 1) rfl (show (1 : Int32).toInt = 1 by decide) ey_17; omega) | have jy_17 := ci_add (x := bh) (y := 1) rfl (show (1 : Int32).toInt = 1 by decide) ey_17
            refine cs_put F St 0 rfl rfl inX9 tyX9_ok nmX9 2 (by decide) kf_X9_45 rfl rfl rfl (Nat.le_of_ble_eq_true rfl) (w' := [(qAAIIIIII h 9 d t y_17 rt rs rv rk rp), (qAI h2 6 b2 nn), (qarI b2 cb 400 f)]) rfl dX9_readWord_32 (fun H locs St => ?_)
            refine lv_goto (tgt := 0) hx hb dX9_readWord_35 (by decide) ?_
            exact ih y_17 _ _ _ (Run_go hh0 hI (by omega) (tL_t hr_9 hf_14) (by omega)) (by omega) St (lv_sub hl [0, 1] rfl)
          ·
            subst r_11
            have St : cS G k [(qAAIIIIII h 9 d t bh rt rs rv rk rp), (qAI h2 6 b2 nn), (qarI b2 cb 400 f)] [(cb, .byte)] A s H locs := St
            refine lv_if_eq (tgt := 38) hx hb dX9_readWord_22 (by decide) (fun c22 => ?_) (fun c22 => ?_)
            rotate_left
            · exact absurd (by decide) c22
            refine lv_aload_n hx hb dX9_readWord_38 rfl (lv_at hl 0 rfl) ?_
            refine lv_iconst (v := 1) hx hb dX9_readWord_39 (by decide) ?_
            refine cs_put F St 0 rfl rfl inX9 tyX9_ok nmX9 3 (by decide) kf_X9_36 rfl rfl rfl (Nat.le_of_ble_eq_true rfl) (w' := [(qAAIIIIII h 9 d t bh 1 rs rv rk rp), (qAI h2 6 b2 nn), (qarI b2 cb 400 f)]) rfl dX9_readWord_40 (fun H locs St => ?_)
            exact cs_vret F hr hlk hQ St bh ⟨by omega, by omega, (Run_end hh0 hI (Or.inr (tL_f hr_9 hf_16))).symm⟩ [0, 1, 2] rfl (by decide) [] rfl (by decide) (by decide) dX9_readWord_43
  exact lp0 401 rh _ _ _ (Run_0 (by omega)) (by omega) St (lv_sub hl [0, 1] rfl)
set_option maxHeartbeats 4000000 in
set_option maxRecDepth 100000 in
theorem r9_readNumber (l : Launch) (G : va_G) (k : Nat → Nat) (sz : Nat) (h : Nat) (d : Nat) (t : Nat) (rh : Int32) (rt : Int32) (rv : Int32) (rk : Int32) (rp : Int32) (h2 : Nat) (b2 : Nat) (cb : ClassId) (nn : Int32) (f : Nat → Int32) (hn0 : 0 ≤ nn.toInt) (hn1 : nn.toInt ≤ 400) (hh0 : 0 ≤ rh.toInt) (hh1 : rh.toInt ≤ nn.toInt) : Met l yX9_readNumber (Cond.code yX9_readNumber cX9_readNumber 2 none :: tb) ({ frames := 1, cells := 0, slots := 0, locals := 21 } : Room) (va_Pc [.ref h, .ref h2] (cP G k [(qAAIIIIII h 9 d t rh rt rh rv rk rp), (qAI h2 6 b2 nn), (qarI b2 cb 400 f)] [(cb, .byte)] sz)) (va_Qv (fun (u : Int32 × Int32 × Int32) => match u with | (rh2, rt2, rv2) => (rh.toInt ≤ rh2.toInt) ∧ (rh2.toInt ≤ nn.toInt) ∧ (rh2.toNatClampNeg = rnE tD f nn.toNatClampNeg rh.toNatClampNeg) ∧ (rv2 = vl f rh.toNatClampNeg (rh2.toNatClampNeg - rh.toNatClampNeg)) ∧ ((rt2 = 2 ∧ rh2.toInt - rh.toInt ≤ 6) ∨ (rt2 = 4 ∧ ¬ rh2.toInt - rh.toInt ≤ 6))) (cB G (fun u => match u with | (rh2, rt2, rv2) => [(qAAIIIIII h 9 d t rh2 rt2 rh rv2 rk rp), (qAI h2 6 b2 nn), (qarI b2 cb 400 f)]) (fun u => match u with | (rh2, rt2, rv2) => []) (va_A [(qAAIIIIII h 9 d t rh rt rh rv rk rp), (qAI h2 6 b2 nn), (qarI b2 cb 400 f)] sz)) (va_A [(qAAIIIIII h 9 d t rh rt rh rv rk rp), (qAI h2 6 b2 nn), (qarI b2 cb 400 f)] sz)) 0 0 (va_A [(qAAIIIIII h 9 d t rh rt rh rv rk rp), (qAI h2 6 b2 nn), (qarI b2 cb 400 f)] sz) := by
  refine ofC_v (cc := cX9_readNumber) (maxL := 2) (ret := none) (by decide) rfl (Nat.le_of_ble_eq_true rfl) ?_
  intro p e s m args below meth c A ls Q F hr hin hlk St hl hQ
  have hx := F.1
  have hb := F.2.1
  have hl : lv_has ls 2 [(0, .ref h), (1, .ref h2)] := hl
  have St : cS G k [(qAAIIIIII h 9 d t rh rt rh rv rk rp), (qAI h2 6 b2 nn), (qarI b2 cb 400 f)] [(cb, .byte)] A s s.heap [] := St
  have y0 : (0 : Int32).toInt = 0 := by decide
  have nr := nc_int hh0
  refine lv_aload_n hx hb dX9_readNumber_0 rfl (lv_at hl 0 rfl) ?_
  refine lv_iconst (v := 0) hx hb dX9_readNumber_1 (by decide) ?_
  refine cs_put F St 0 rfl rfl inX9 tyX9_ok nmX9 5 (by decide) kf_X9_73 rfl rfl rfl (Nat.le_of_ble_eq_true rfl) (w' := [(qAAIIIIII h 9 d t rh rt rh 0 rk rp), (qAI h2 6 b2 nn), (qarI b2 cb 400 f)]) rfl dX9_readNumber_2 (fun H locs St => ?_)
  have lp5 : ∀ (n : Nat) (bh : Int32) (vv : Int32) (H : Heap) (locs : List Loc) (ls : Array Slot), (Run tD f nn rh bh ∧ vv = vl f rh.toNatClampNeg (bh.toNatClampNeg - rh.toNatClampNeg)) → ((nn.toInt - bh.toInt).toNat) < n → cS G k [(qAAIIIIII h 9 d t bh rt rh vv rk rp), (qAI h2 6 b2 nn), (qarI b2 cb 400 f)] [(cb, .byte)] A s H locs → lv_has ls 2 [(0, .ref h), (1, .ref h2)] → W p l e ({ frames := 1, cells := 0, slots := 0, locals := 21 } : Room) s m args below meth c H locs 0 0 Q (F0 m 5 ls []) := by
    intro n
    induction n with
    | zero => intro bh vv H locs ls hI hn; exact absurd hn (Nat.not_lt_zero _)
    | succ n ih =>
      intro bh vv H locs ls hI hn St hl
      obtain ⟨hR, hV⟩ := hI
      have hI0 := hR.1
      have hI1 := hR.2.1
      have nb := nc_int (x := bh) (by omega)
      refine lv_aload_n hx hb dX9_readNumber_5 rfl (lv_at hl 0 rfl) ?_
      refine cs_get F St 0 rfl rfl inX9 2 (by decide) kf_X9_45 rfl dX9_readNumber_6 ?_
      refine lv_aload_n hx hb dX9_readNumber_9 rfl (lv_at hl 1 rfl) ?_
      refine cs_i St [1] [0, 2] (wc := [(qAI h2 6 b2 nn)]) (wr := [(qAAIIIIII h 9 d t bh rt rh vv rk rp), (qarI b2 cb 400 f)]) rfl rfl (by decide) (by decide) (va_runV (As := []) (rest := [.int bh]) F (x6_length l G k _ h2 b2 nn) (cwVt F mf_X6_length km_X9_126 rfl rfl ⟨Nat.le_of_ble_eq_true rfl, Nat.le_of_ble_eq_true rfl⟩) (cs_preV St [1] rfl (by decide) [] rfl (ci := 6) (q0 := 1) rfl rfl) rfl rfl hl.1 rfl (lv_room (Nat.le_of_ble_eq_true rfl)) dX9_readNumber_10 ⟨Nat.le_of_ble_eq_true rfl, Nat.le_of_ble_eq_true rfl⟩) (fun r_1 u_2 H locs hw St => ?_)
      try dsimp only at hw
      have z_3 := hw
      subst r_1
      have St : cS G k [(qAAIIIIII h 9 d t bh rt rh vv rk rp), (qarI b2 cb 400 f), (qAI h2 6 b2 nn)] [(cb, .byte)] A s H locs := St
      refine lv_icmp_ge (tgt := 80) hx hb dX9_readNumber_13 (by decide) (fun c13 => ?_) (fun c13 => ?_)
      ·
        have i13 := ci_le (x := nn) (y := bh) rfl rfl c13
        refine lv_aload_n hx hb dX9_readNumber_80 rfl (lv_at hl 0 rfl) ?_
        refine lv_aload_n hx hb dX9_readNumber_81 rfl (lv_at hl 0 rfl) ?_
        refine cs_get F St 0 rfl rfl inX9 2 (by decide) kf_X9_45 rfl dX9_readNumber_82 ?_
        refine lv_aload_n hx hb dX9_readNumber_85 rfl (lv_at hl 0 rfl) ?_
        refine cs_get F St 0 rfl rfl inX9 4 (by decide) kf_X9_48 rfl dX9_readNumber_86 ?_
        refine lv_isub hx hb dX9_readNumber_89 ?_
        refine lv_topi (fun y_4 ey_4 => ?_)
        first | have jy_4 : y_4.toInt = bh.toInt - rh.toInt := (by have q9 := ci_sub (x := bh) (y := rh) rfl rfl ey_4; omega) | have jy_4 := ci_sub (x := bh) (y := rh) rfl rfl ey_4
        refine lv_bipush (v := 6) hx hb dX9_readNumber_90 (by decide) ?_
        refine lv_icmp_gt (tgt := 99) hx hb dX9_readNumber_92 (by decide) (fun c92 => ?_) (fun c92 => ?_)
        ·
          have i92 := ci_lt (x := 6) (y := y_4) (show (6 : Int32).toInt = 6 by decide) rfl c92
          refine lv_iconst (v := 4) hx hb dX9_readNumber_99 (by decide) ?_
          refine cs_put F St 0 rfl rfl inX9 tyX9_ok nmX9 3 (by decide) kf_X9_36 rfl rfl rfl (Nat.le_of_ble_eq_true rfl) (w' := [(qAAIIIIII h 9 d t bh 4 rh vv rk rp), (qarI b2 cb 400 f), (qAI h2 6 b2 nn)]) rfl dX9_readNumber_100 (fun H locs St => ?_)
          exact cs_vret F hr hlk hQ St (bh, 4, vv) ⟨by omega, by omega, (Run_end hh0 hR (Or.inl (by omega))).symm, hV, Or.inr ⟨rfl, by omega⟩⟩ [0, 2, 1] rfl (by decide) [] rfl (by decide) (by decide) dX9_readNumber_103
        ·
          have i92 := ci_nlt (x := 6) (y := y_4) (show (6 : Int32).toInt = 6 by decide) rfl c92
          refine lv_iconst (v := 2) hx hb dX9_readNumber_95 (by decide) ?_
          refine lv_goto (tgt := 100) hx hb dX9_readNumber_96 (by decide) ?_
          refine cs_put F St 0 rfl rfl inX9 tyX9_ok nmX9 3 (by decide) kf_X9_36 rfl rfl rfl (Nat.le_of_ble_eq_true rfl) (w' := [(qAAIIIIII h 9 d t bh 2 rh vv rk rp), (qarI b2 cb 400 f), (qAI h2 6 b2 nn)]) rfl dX9_readNumber_100 (fun H locs St => ?_)
          exact cs_vret F hr hlk hQ St (bh, 2, vv) ⟨by omega, by omega, (Run_end hh0 hR (Or.inl (by omega))).symm, hV, Or.inl ⟨rfl, by omega⟩⟩ [0, 2, 1] rfl (by decide) [] rfl (by decide) (by decide) dX9_readNumber_103
      ·
        have i13 := ci_nle (x := nn) (y := bh) rfl rfl c13
        refine lv_aload_n hx hb dX9_readNumber_16 rfl (lv_at hl 1 rfl) ?_
        refine lv_aload_n hx hb dX9_readNumber_17 rfl (lv_at hl 0 rfl) ?_
        refine cs_get F St 0 rfl rfl inX9 2 (by decide) kf_X9_45 rfl dX9_readNumber_18 ?_
        refine cs_i St [2, 1] [0] (wc := [(qAI h2 6 b2 nn), (qarI b2 cb 400 f)]) (wr := [(qAAIIIIII h 9 d t bh rt rh vv rk rp)]) rfl rfl (by decide) (by decide) (va_runV (As := [.int bh]) (rest := []) F (r6_at l G k _ h2 b2 cb nn f bh (by omega)) (cwVt F mf_X6_at km_X9_116 rfl rfl ⟨Nat.le_of_ble_eq_true rfl, Nat.le_of_ble_eq_true rfl⟩) (cs_preV St [2, 1] rfl (by decide) [0] rfl (ci := 6) (q0 := 2) rfl rfl) rfl rfl hl.1 rfl (lv_room (Nat.le_of_ble_eq_true rfl)) dX9_readNumber_21 ⟨Nat.le_of_ble_eq_true rfl, Nat.le_of_ble_eq_true rfl⟩) (fun r_5 u_6 H locs hw St => ?_)
        try dsimp only at hw
        rcases hw with ⟨z_7, hf_8⟩ | ⟨hf_9, hr_10, hq_11⟩
        ·
          exact False.elim (by omega)
        ·
          have St : cS G k [(qAAIIIIII h 9 d t bh rt rh vv rk rp), (qAI h2 6 b2 nn), (qarI b2 cb 400 f)] [(cb, .byte)] A s H locs := St
          refine cs_i St [] [0, 1, 2] (wc := []) (wr := [(qAAIIIIII h 9 d t bh rt rh vv rk rp), (qAI h2 6 b2 nn), (qarI b2 cb 400 f)]) rfl rfl (by decide) (by decide) (va_runS (As := [.int r_5]) (rest := []) F (r9_isDigit l G k _ r_5) (cwSt F mf_X9_isDigit km_X9_137 rfl rfl ⟨Nat.le_of_ble_eq_true rfl, Nat.le_of_ble_eq_true rfl⟩) (cs_pre St [] rfl (by decide) [] rfl) rfl rfl hl.1 rfl (lv_room (Nat.le_of_ble_eq_true rfl)) dX9_readNumber_24 ⟨Nat.le_of_ble_eq_true rfl, Nat.le_of_ble_eq_true rfl⟩) (fun r_12 u_13 H locs hw St => ?_)
          try dsimp only at hw
          rcases hw with ⟨z_14, hf_15⟩ | ⟨z_16, hf_17⟩
          ·
            subst r_12
            have St : cS G k [(qAAIIIIII h 9 d t bh rt rh vv rk rp), (qAI h2 6 b2 nn), (qarI b2 cb 400 f)] [(cb, .byte)] A s H locs := St
            refine lv_if_eq (tgt := 80) hx hb dX9_readNumber_27 (by decide) (fun c27 => ?_) (fun c27 => ?_)
            · exact absurd c27 (by decide)
            skip
            refine lv_aload_n hx hb dX9_readNumber_30 rfl (lv_at hl 0 rfl) ?_
            refine cs_get F St 0 rfl rfl inX9 2 (by decide) kf_X9_45 rfl dX9_readNumber_31 ?_
            refine lv_aload_n hx hb dX9_readNumber_34 rfl (lv_at hl 0 rfl) ?_
            refine cs_get F St 0 rfl rfl inX9 4 (by decide) kf_X9_48 rfl dX9_readNumber_35 ?_
            refine lv_isub hx hb dX9_readNumber_38 ?_
            refine lv_topi (fun y_18 ey_18 => ?_)
            first | have jy_18 : y_18.toInt = bh.toInt - rh.toInt := (by have q9 := ci_sub (x := bh) (y := rh) rfl rfl ey_18; omega) | have jy_18 := ci_sub (x := bh) (y := rh) rfl rfl ey_18
            refine lv_bipush (v := 6) hx hb dX9_readNumber_39 (by decide) ?_
            refine lv_icmp_ge (tgt := 67) hx hb dX9_readNumber_41 (by decide) (fun c41 => ?_) (fun c41 => ?_)
            ·
              have i41 := ci_le (x := 6) (y := y_18) (show (6 : Int32).toInt = 6 by decide) rfl c41
              refine lv_aload_n hx hb dX9_readNumber_67 rfl (lv_at hl 0 rfl) ?_
              refine lv_dup hx hb dX9_readNumber_68 rfl ?_
              refine cs_get F St 0 rfl rfl inX9 2 (by decide) kf_X9_45 rfl dX9_readNumber_69 ?_
              refine lv_iconst (v := 1) hx hb dX9_readNumber_72 (by decide) ?_
              refine lv_iadd hx hb dX9_readNumber_73 ?_
              refine lv_topi (fun y_19 ey_19 => ?_)
              first | have jy_19 : y_19.toInt = bh.toInt + 1 := (by have q9 := ci_add (x := bh) (y := 1) rfl (show (1 : Int32).toInt = 1 by decide) ey_19; omega) | have jy_19 := ci_add (x := bh) (y := 1) rfl (show (1 : Int32).toInt = 1 by decide) ey_19
              refine cs_put F St 0 rfl rfl inX9 tyX9_ok nmX9 2 (by decide) kf_X9_45 rfl rfl rfl (Nat.le_of_ble_eq_true rfl) (w' := [(qAAIIIIII h 9 d t y_19 rt rh vv rk rp), (qAI h2 6 b2 nn), (qarI b2 cb 400 f)]) rfl dX9_readNumber_74 (fun H locs St => ?_)
              refine lv_goto (tgt := 5) hx hb dX9_readNumber_77 (by decide) ?_
              exact ih y_19 vv _ _ _ ⟨Run_go hh0 hR (by omega) (tD_t hr_10 hf_15) (by omega), by rw [show y_19.toNatClampNeg - rh.toNatClampNeg = (bh.toNatClampNeg - rh.toNatClampNeg) + 1 from (by have := nc_s (x := bh) (y := y_19) (by omega) (by omega); omega)]; exact vl_keep hV (by omega)⟩ (by omega) St (lv_sub hl [0, 1] rfl)
            ·
              have i41 := ci_nle (x := 6) (y := y_18) (show (6 : Int32).toInt = 6 by decide) rfl c41
              refine lv_aload_n hx hb dX9_readNumber_44 rfl (lv_at hl 0 rfl) ?_
              refine lv_aload_n hx hb dX9_readNumber_45 rfl (lv_at hl 0 rfl) ?_
              refine cs_get F St 0 rfl rfl inX9 5 (by decide) kf_X9_73 rfl dX9_readNumber_46 ?_
              refine lv_bipush (v := 10) hx hb dX9_readNumber_49 (by decide) ?_
              refine lv_imul hx hb dX9_readNumber_51 ?_
              refine lv_topi (fun y_20 ey_20 => ?_)
              first | have jy_20 : y_20.toInt = vv.toInt * 10 := (by have q9 := ci_mul (x := vv) (y := 10) rfl (show (10 : Int32).toInt = 10 by decide) ey_20; omega) | have jy_20 := ci_mul (x := vv) (y := 10) rfl (show (10 : Int32).toInt = 10 by decide) ey_20
              refine lv_aload_n hx hb dX9_readNumber_52 rfl (lv_at hl 1 rfl) ?_
              refine lv_aload_n hx hb dX9_readNumber_53 rfl (lv_at hl 0 rfl) ?_
              refine cs_get F St 0 rfl rfl inX9 2 (by decide) kf_X9_45 rfl dX9_readNumber_54 ?_
              refine cs_i St [1, 2] [0] (wc := [(qAI h2 6 b2 nn), (qarI b2 cb 400 f)]) (wr := [(qAAIIIIII h 9 d t bh rt rh vv rk rp)]) rfl rfl (by decide) (by decide) (va_runV (As := [.int bh]) (rest := [.int y_20, .ref h]) F (r6_at l G k _ h2 b2 cb nn f bh (by omega)) (cwVt F mf_X6_at km_X9_116 rfl rfl ⟨Nat.le_of_ble_eq_true rfl, Nat.le_of_ble_eq_true rfl⟩) (cs_preV St [1, 2] rfl (by decide) [0] rfl (ci := 6) (q0 := 1) rfl rfl) rfl rfl hl.1 rfl (lv_room (Nat.le_of_ble_eq_true rfl)) dX9_readNumber_57 ⟨Nat.le_of_ble_eq_true rfl, Nat.le_of_ble_eq_true rfl⟩) (fun r_21 u_22 H locs hw St => ?_)
              try dsimp only at hw
              rcases hw with ⟨z_23, hf_24⟩ | ⟨hf_25, hr_26, hq_27⟩
              ·
                exact False.elim (by omega)
              ·
                have St : cS G k [(qAAIIIIII h 9 d t bh rt rh vv rk rp), (qAI h2 6 b2 nn), (qarI b2 cb 400 f)] [(cb, .byte)] A s H locs := St
                skip
                refine lv_iadd hx hb dX9_readNumber_60 ?_
                refine lv_topi (fun y_28 ey_28 => ?_)
                first | have jy_28 : y_28.toInt = y_20.toInt + r_21.toInt := (by have q9 := ci_add (x := y_20) (y := r_21) rfl rfl ey_28; omega) | have jy_28 := ci_add (x := y_20) (y := r_21) rfl rfl ey_28
                refine lv_bipush (v := 48) hx hb dX9_readNumber_61 (by decide) ?_
                skip
                refine lv_isub hx hb dX9_readNumber_63 ?_
                refine lv_topi (fun y_29 ey_29 => ?_)
                first | have jy_29 : y_29.toInt = y_28.toInt - 48 := (by have q9 := ci_sub (x := y_28) (y := 48) rfl (show (48 : Int32).toInt = 48 by decide) ey_29; omega) | have jy_29 := ci_sub (x := y_28) (y := 48) rfl (show (48 : Int32).toInt = 48 by decide) ey_29
                refine cs_put F St 0 rfl rfl inX9 tyX9_ok nmX9 5 (by decide) kf_X9_73 rfl rfl rfl (Nat.le_of_ble_eq_true rfl) (w' := [(qAAIIIIII h 9 d t bh rt rh y_29 rk rp), (qAI h2 6 b2 nn), (qarI b2 cb 400 f)]) rfl dX9_readNumber_64 (fun H locs St => ?_)
                refine lv_aload_n hx hb dX9_readNumber_67 rfl (lv_at hl 0 rfl) ?_
                refine lv_dup hx hb dX9_readNumber_68 rfl ?_
                refine cs_get F St 0 rfl rfl inX9 2 (by decide) kf_X9_45 rfl dX9_readNumber_69 ?_
                refine lv_iconst (v := 1) hx hb dX9_readNumber_72 (by decide) ?_
                refine lv_iadd hx hb dX9_readNumber_73 ?_
                refine lv_topi (fun y_30 ey_30 => ?_)
                first | have jy_30 : y_30.toInt = bh.toInt + 1 := (by have q9 := ci_add (x := bh) (y := 1) rfl (show (1 : Int32).toInt = 1 by decide) ey_30; omega) | have jy_30 := ci_add (x := bh) (y := 1) rfl (show (1 : Int32).toInt = 1 by decide) ey_30
                refine cs_put F St 0 rfl rfl inX9 tyX9_ok nmX9 2 (by decide) kf_X9_45 rfl rfl rfl (Nat.le_of_ble_eq_true rfl) (w' := [(qAAIIIIII h 9 d t y_30 rt rh y_29 rk rp), (qAI h2 6 b2 nn), (qarI b2 cb 400 f)]) rfl dX9_readNumber_74 (fun H locs St => ?_)
                refine lv_goto (tgt := 5) hx hb dX9_readNumber_77 (by decide) ?_
                exact ih y_30 y_29 _ _ _ ⟨Run_go hh0 hR (by omega) (tD_t hr_10 hf_15) (by omega), by rw [show y_30.toNatClampNeg - rh.toNatClampNeg = (bh.toNatClampNeg - rh.toNatClampNeg) + 1 from (by have := nc_s (x := bh) (y := y_30) (by omega) (by omega); omega)]; exact vl_up hV (by omega) (hr_26.trans (congrArg (b8 f) (show bh.toNatClampNeg = rh.toNatClampNeg + (bh.toNatClampNeg - rh.toNatClampNeg) by omega))) ey_20 ey_28 ey_29⟩ (by omega) St (lv_sub hl [0, 1] rfl)
          ·
            subst r_12
            have St : cS G k [(qAAIIIIII h 9 d t bh rt rh vv rk rp), (qAI h2 6 b2 nn), (qarI b2 cb 400 f)] [(cb, .byte)] A s H locs := St
            refine lv_if_eq (tgt := 80) hx hb dX9_readNumber_27 (by decide) (fun c27 => ?_) (fun c27 => ?_)
            rotate_left
            · exact absurd (by decide) c27
            refine lv_aload_n hx hb dX9_readNumber_80 rfl (lv_at hl 0 rfl) ?_
            refine lv_aload_n hx hb dX9_readNumber_81 rfl (lv_at hl 0 rfl) ?_
            refine cs_get F St 0 rfl rfl inX9 2 (by decide) kf_X9_45 rfl dX9_readNumber_82 ?_
            refine lv_aload_n hx hb dX9_readNumber_85 rfl (lv_at hl 0 rfl) ?_
            refine cs_get F St 0 rfl rfl inX9 4 (by decide) kf_X9_48 rfl dX9_readNumber_86 ?_
            refine lv_isub hx hb dX9_readNumber_89 ?_
            refine lv_topi (fun y_31 ey_31 => ?_)
            first | have jy_31 : y_31.toInt = bh.toInt - rh.toInt := (by have q9 := ci_sub (x := bh) (y := rh) rfl rfl ey_31; omega) | have jy_31 := ci_sub (x := bh) (y := rh) rfl rfl ey_31
            refine lv_bipush (v := 6) hx hb dX9_readNumber_90 (by decide) ?_
            refine lv_icmp_gt (tgt := 99) hx hb dX9_readNumber_92 (by decide) (fun c92 => ?_) (fun c92 => ?_)
            ·
              have i92 := ci_lt (x := 6) (y := y_31) (show (6 : Int32).toInt = 6 by decide) rfl c92
              refine lv_iconst (v := 4) hx hb dX9_readNumber_99 (by decide) ?_
              refine cs_put F St 0 rfl rfl inX9 tyX9_ok nmX9 3 (by decide) kf_X9_36 rfl rfl rfl (Nat.le_of_ble_eq_true rfl) (w' := [(qAAIIIIII h 9 d t bh 4 rh vv rk rp), (qAI h2 6 b2 nn), (qarI b2 cb 400 f)]) rfl dX9_readNumber_100 (fun H locs St => ?_)
              exact cs_vret F hr hlk hQ St (bh, 4, vv) ⟨by omega, by omega, (Run_end hh0 hR (Or.inr (tD_f hr_10 hf_17))).symm, hV, Or.inr ⟨rfl, by omega⟩⟩ [0, 1, 2] rfl (by decide) [] rfl (by decide) (by decide) dX9_readNumber_103
            ·
              have i92 := ci_nlt (x := 6) (y := y_31) (show (6 : Int32).toInt = 6 by decide) rfl c92
              refine lv_iconst (v := 2) hx hb dX9_readNumber_95 (by decide) ?_
              refine lv_goto (tgt := 100) hx hb dX9_readNumber_96 (by decide) ?_
              refine cs_put F St 0 rfl rfl inX9 tyX9_ok nmX9 3 (by decide) kf_X9_36 rfl rfl rfl (Nat.le_of_ble_eq_true rfl) (w' := [(qAAIIIIII h 9 d t bh 2 rh vv rk rp), (qAI h2 6 b2 nn), (qarI b2 cb 400 f)]) rfl dX9_readNumber_100 (fun H locs St => ?_)
              exact cs_vret F hr hlk hQ St (bh, 2, vv) ⟨by omega, by omega, (Run_end hh0 hR (Or.inr (tD_f hr_10 hf_17))).symm, hV, Or.inl ⟨rfl, by omega⟩⟩ [0, 1, 2] rfl (by decide) [] rfl (by decide) (by decide) dX9_readNumber_103
  exact lp5 401 rh 0 _ _ _ ⟨Run_0 (by omega), by rw [Nat.sub_self]; rfl⟩ (by omega) St (lv_sub hl [0, 1] rfl)
set_option maxHeartbeats 4000000 in
set_option maxRecDepth 100000 in
theorem r9_readToken (l : Launch) (G : va_G) (k : Nat → Nat) (sz : Nat) (h : Nat) (d : Nat) (t : Nat) (rh : Int32) (rt : Int32) (rs : Int32) (rv : Int32) (rk : Int32) (rp : Int32) (h2 : Nat) (b2 : Nat) (cb : ClassId) (nn : Int32) (f : Nat → Int32) (hn0 : 0 ≤ nn.toInt) (hn1 : nn.toInt ≤ 400) (hh0 : 0 ≤ rh.toInt) (hh1 : rh.toInt ≤ nn.toInt) : Met l yX9_readToken (Cond.code yX9_readToken cX9_readToken 3 none :: tb) ({ frames := 2, cells := 0, slots := 0, locals := 42 } : Room) (va_Pc [.ref h, .ref h2] (cP G k [(qAAIIIIII h 9 d t rh rt rs rv rk rp), (qAI h2 6 b2 nn), (qarI b2 cb 400 f)] [(cb, .byte)] sz)) (va_Qv (fun (u : Int32 × Int32 × Int32 × Int32) => match u with | (rh2, rt2, rs2, rv2) => (TK f nn rh rt2 rs2 rh2 rv2)) (cB G (fun u => match u with | (rh2, rt2, rs2, rv2) => [(qAAIIIIII h 9 d t rh2 rt2 rs2 rv2 rk rp), (qAI h2 6 b2 nn), (qarI b2 cb 400 f)]) (fun u => match u with | (rh2, rt2, rs2, rv2) => []) (va_A [(qAAIIIIII h 9 d t rh rt rs rv rk rp), (qAI h2 6 b2 nn), (qarI b2 cb 400 f)] sz)) (va_A [(qAAIIIIII h 9 d t rh rt rs rv rk rp), (qAI h2 6 b2 nn), (qarI b2 cb 400 f)] sz)) 0 0 (va_A [(qAAIIIIII h 9 d t rh rt rs rv rk rp), (qAI h2 6 b2 nn), (qarI b2 cb 400 f)] sz) := by
  refine ofC_v (cc := cX9_readToken) (maxL := 3) (ret := none) (by decide) rfl (Nat.le_of_ble_eq_true rfl) ?_
  intro p e s m args below meth c A ls Q F hr hin hlk St hl hQ
  have hx := F.1
  have hb := F.2.1
  have hl : lv_has ls 3 [(0, .ref h), (1, .ref h2)] := hl
  have St : cS G k [(qAAIIIIII h 9 d t rh rt rs rv rk rp), (qAI h2 6 b2 nn), (qarI b2 cb 400 f)] [(cb, .byte)] A s s.heap [] := St
  have y0 : (0 : Int32).toInt = 0 := by decide
  have lp0 : ∀ (n : Nat) (bh : Int32) (H : Heap) (locs : List Loc) (ls : Array Slot), (Run tS f nn rh bh) → ((nn.toInt - bh.toInt).toNat) < n → cS G k [(qAAIIIIII h 9 d t bh rt rs rv rk rp), (qAI h2 6 b2 nn), (qarI b2 cb 400 f)] [(cb, .byte)] A s H locs → lv_has ls 3 [(0, .ref h), (1, .ref h2)] → W p l e ({ frames := 2, cells := 0, slots := 0, locals := 42 } : Room) s m args below meth c H locs 0 0 Q (F0 m 0 ls []) := by
    intro n
    induction n with
    | zero => intro bh H locs ls hI hn; exact absurd hn (Nat.not_lt_zero _)
    | succ n ih =>
      intro bh H locs ls hI hn St hl
      have hI0 := hI.1
      have hI1 := hI.2.1
      refine lv_aload_n hx hb dX9_readToken_0 rfl (lv_at hl 0 rfl) ?_
      refine cs_get F St 0 rfl rfl inX9 2 (by decide) kf_X9_45 rfl dX9_readToken_1 ?_
      refine lv_aload_n hx hb dX9_readToken_4 rfl (lv_at hl 1 rfl) ?_
      refine cs_i St [1] [0, 2] (wc := [(qAI h2 6 b2 nn)]) (wr := [(qAAIIIIII h 9 d t bh rt rs rv rk rp), (qarI b2 cb 400 f)]) rfl rfl (by decide) (by decide) (va_runV (As := []) (rest := [.int bh]) F (x6_length l G k _ h2 b2 nn) (cwVt F mf_X6_length km_X9_126 rfl rfl ⟨Nat.le_of_ble_eq_true rfl, Nat.le_of_ble_eq_true rfl⟩) (cs_preV St [1] rfl (by decide) [] rfl (ci := 6) (q0 := 1) rfl rfl) rfl rfl hl.1 rfl (lv_room (Nat.le_of_ble_eq_true rfl)) dX9_readToken_5 ⟨Nat.le_of_ble_eq_true rfl, Nat.le_of_ble_eq_true rfl⟩) (fun r_1 u_2 H locs hw St => ?_)
      try dsimp only at hw
      have z_3 := hw
      subst r_1
      have St : cS G k [(qAAIIIIII h 9 d t bh rt rs rv rk rp), (qarI b2 cb 400 f), (qAI h2 6 b2 nn)] [(cb, .byte)] A s H locs := St
      refine lv_icmp_ge (tgt := 38) hx hb dX9_readToken_8 (by decide) (fun c8 => ?_) (fun c8 => ?_)
      ·
        have i8 := ci_le (x := nn) (y := bh) rfl rfl c8
        skip
        refine lv_aload_n hx hb dX9_readToken_38 rfl (lv_at hl 0 rfl) ?_
        refine lv_aload_n hx hb dX9_readToken_39 rfl (lv_at hl 0 rfl) ?_
        refine cs_get F St 0 rfl rfl inX9 2 (by decide) kf_X9_45 rfl dX9_readToken_40 ?_
        refine cs_put F St 0 rfl rfl inX9 tyX9_ok nmX9 4 (by decide) kf_X9_48 rfl rfl rfl (Nat.le_of_ble_eq_true rfl) (w' := [(qAAIIIIII h 9 d t bh rt bh rv rk rp), (qarI b2 cb 400 f), (qAI h2 6 b2 nn)]) rfl dX9_readToken_43 (fun H locs St => ?_)
        refine lv_aload_n hx hb dX9_readToken_46 rfl (lv_at hl 1 rfl) ?_
        refine lv_aload_n hx hb dX9_readToken_47 rfl (lv_at hl 0 rfl) ?_
        refine cs_get F St 0 rfl rfl inX9 2 (by decide) kf_X9_45 rfl dX9_readToken_48 ?_
        refine cs_i St [2, 1] [0] (wc := [(qAI h2 6 b2 nn), (qarI b2 cb 400 f)]) (wr := [(qAAIIIIII h 9 d t bh rt bh rv rk rp)]) rfl rfl (by decide) (by decide) (va_runV (As := [.int bh]) (rest := []) F (r6_at l G k _ h2 b2 cb nn f bh (by omega)) (cwVt F mf_X6_at km_X9_116 rfl rfl ⟨Nat.le_of_ble_eq_true rfl, Nat.le_of_ble_eq_true rfl⟩) (cs_preV St [2, 1] rfl (by decide) [0] rfl (ci := 6) (q0 := 2) rfl rfl) rfl rfl hl.1 rfl (lv_room (Nat.le_of_ble_eq_true rfl)) dX9_readToken_51 ⟨Nat.le_of_ble_eq_true rfl, Nat.le_of_ble_eq_true rfl⟩) (fun r_4 u_5 H locs hw St => ?_)
        try dsimp only at hw
        rcases hw with ⟨z_6, hf_7⟩ | ⟨hf_8, hr_9, hq_10⟩
        ·
          subst r_4
          have St : cS G k [(qAAIIIIII h 9 d t bh rt bh rv rk rp), (qAI h2 6 b2 nn), (qarI b2 cb 400 f)] [(cb, .byte)] A s H locs := St
          refine lv_istore_n (lv' := [(2, .int (-1)), (0, .ref h), (1, .ref h2)]) hx hb dX9_readToken_54 rfl hl (by decide) rfl (fun ls hl => ?_)
          refine lv_iload_n hx hb dX9_readToken_55 rfl (lv_at hl 0 rfl) ?_
          refine lv_iconst (v := (-1)) hx hb dX9_readToken_56 (by decide) ?_
          refine lv_icmp_ne (tgt := 68) hx hb dX9_readToken_57 (by decide) (fun c57 => ?_) (fun c57 => ?_)
          · exact absurd c57 (by decide)
          refine lv_aload_n hx hb dX9_readToken_60 rfl (lv_at hl 1 rfl) ?_
          refine lv_iconst (v := 0) hx hb dX9_readToken_61 (by decide) ?_
          refine cs_put F St 0 rfl rfl inX9 tyX9_ok nmX9 3 (by decide) kf_X9_36 rfl rfl rfl (Nat.le_of_ble_eq_true rfl) (w' := [(qAAIIIIII h 9 d t bh 0 bh rv rk rp), (qAI h2 6 b2 nn), (qarI b2 cb 400 f)]) rfl dX9_readToken_62 (fun H locs St => ?_)
          refine lv_goto (tgt := 123) hx hb dX9_readToken_65 (by decide) ?_
          exact cs_vret F hr hlk hQ St (bh, 0, bh, rv) (TK_end hh0 hI (by omega)) [0, 1, 2] rfl (by decide) [] rfl (by decide) (by decide) dX9_readToken_123
        ·
          exact False.elim (by omega)
      ·
        have i8 := ci_nle (x := nn) (y := bh) rfl rfl c8
        refine lv_aload_n hx hb dX9_readToken_11 rfl (lv_at hl 1 rfl) ?_
        refine lv_aload_n hx hb dX9_readToken_12 rfl (lv_at hl 0 rfl) ?_
        refine cs_get F St 0 rfl rfl inX9 2 (by decide) kf_X9_45 rfl dX9_readToken_13 ?_
        refine cs_i St [2, 1] [0] (wc := [(qAI h2 6 b2 nn), (qarI b2 cb 400 f)]) (wr := [(qAAIIIIII h 9 d t bh rt rs rv rk rp)]) rfl rfl (by decide) (by decide) (va_runV (As := [.int bh]) (rest := []) F (r6_at l G k _ h2 b2 cb nn f bh (by omega)) (cwVt F mf_X6_at km_X9_116 rfl rfl ⟨Nat.le_of_ble_eq_true rfl, Nat.le_of_ble_eq_true rfl⟩) (cs_preV St [2, 1] rfl (by decide) [0] rfl (ci := 6) (q0 := 2) rfl rfl) rfl rfl hl.1 rfl (lv_room (Nat.le_of_ble_eq_true rfl)) dX9_readToken_16 ⟨Nat.le_of_ble_eq_true rfl, Nat.le_of_ble_eq_true rfl⟩) (fun r_11 u_12 H locs hw St => ?_)
        try dsimp only at hw
        rcases hw with ⟨z_13, hf_14⟩ | ⟨hf_15, hr_16, hq_17⟩
        ·
          exact False.elim (by omega)
        ·
          have St : cS G k [(qAAIIIIII h 9 d t bh rt rs rv rk rp), (qAI h2 6 b2 nn), (qarI b2 cb 400 f)] [(cb, .byte)] A s H locs := St
          refine cs_i St [] [0, 1, 2] (wc := []) (wr := [(qAAIIIIII h 9 d t bh rt rs rv rk rp), (qAI h2 6 b2 nn), (qarI b2 cb 400 f)]) rfl rfl (by decide) (by decide) (va_runS (As := [.int r_11]) (rest := []) F (r9_isBlank l G k _ r_11) (cwSt F mf_X9_isBlank km_X9_127 rfl rfl ⟨Nat.le_of_ble_eq_true rfl, Nat.le_of_ble_eq_true rfl⟩) (cs_pre St [] rfl (by decide) [] rfl) rfl rfl hl.1 rfl (lv_room (Nat.le_of_ble_eq_true rfl)) dX9_readToken_19 ⟨Nat.le_of_ble_eq_true rfl, Nat.le_of_ble_eq_true rfl⟩) (fun r_18 u_19 H locs hw St => ?_)
          try dsimp only at hw
          rcases hw with ⟨z_20, hf_21⟩ | ⟨z_22, hf_23⟩
          ·
            subst r_18
            have St : cS G k [(qAAIIIIII h 9 d t bh rt rs rv rk rp), (qAI h2 6 b2 nn), (qarI b2 cb 400 f)] [(cb, .byte)] A s H locs := St
            refine lv_if_eq (tgt := 38) hx hb dX9_readToken_22 (by decide) (fun c22 => ?_) (fun c22 => ?_)
            · exact absurd c22 (by decide)
            refine lv_aload_n hx hb dX9_readToken_25 rfl (lv_at hl 0 rfl) ?_
            refine lv_dup hx hb dX9_readToken_26 rfl ?_
            refine cs_get F St 0 rfl rfl inX9 2 (by decide) kf_X9_45 rfl dX9_readToken_27 ?_
            refine lv_iconst (v := 1) hx hb dX9_readToken_30 (by decide) ?_
            refine lv_iadd hx hb dX9_readToken_31 ?_
            refine lv_topi (fun y_24 ey_24 => ?_)
            first | have jy_24 : y_24.toInt = bh.toInt + 1 := (by have q9 := ci_add (x := bh) (y := 1) rfl (show (1 : Int32).toInt = 1 by decide) ey_24; omega) | have jy_24 := ci_add (x := bh) (y := 1) rfl (show (1 : Int32).toInt = 1 by decide) ey_24
            refine cs_put F St 0 rfl rfl inX9 tyX9_ok nmX9 2 (by decide) kf_X9_45 rfl rfl rfl (Nat.le_of_ble_eq_true rfl) (w' := [(qAAIIIIII h 9 d t y_24 rt rs rv rk rp), (qAI h2 6 b2 nn), (qarI b2 cb 400 f)]) rfl dX9_readToken_32 (fun H locs St => ?_)
            refine lv_goto (tgt := 0) hx hb dX9_readToken_35 (by decide) ?_
            exact ih y_24 _ _ _ (Run_go hh0 hI (by omega) (tS_t hr_16 hf_21) (by omega)) (by omega) St (lv_sub hl [0, 1] rfl)
          ·
            subst r_18
            have St : cS G k [(qAAIIIIII h 9 d t bh rt rs rv rk rp), (qAI h2 6 b2 nn), (qarI b2 cb 400 f)] [(cb, .byte)] A s H locs := St
            refine lv_if_eq (tgt := 38) hx hb dX9_readToken_22 (by decide) (fun c22 => ?_) (fun c22 => ?_)
            rotate_left
            · exact absurd (by decide) c22
            skip
            refine lv_aload_n hx hb dX9_readToken_38 rfl (lv_at hl 0 rfl) ?_
            refine lv_aload_n hx hb dX9_readToken_39 rfl (lv_at hl 0 rfl) ?_
            refine cs_get F St 0 rfl rfl inX9 2 (by decide) kf_X9_45 rfl dX9_readToken_40 ?_
            refine cs_put F St 0 rfl rfl inX9 tyX9_ok nmX9 4 (by decide) kf_X9_48 rfl rfl rfl (Nat.le_of_ble_eq_true rfl) (w' := [(qAAIIIIII h 9 d t bh rt bh rv rk rp), (qAI h2 6 b2 nn), (qarI b2 cb 400 f)]) rfl dX9_readToken_43 (fun H locs St => ?_)
            refine lv_aload_n hx hb dX9_readToken_46 rfl (lv_at hl 1 rfl) ?_
            refine lv_aload_n hx hb dX9_readToken_47 rfl (lv_at hl 0 rfl) ?_
            refine cs_get F St 0 rfl rfl inX9 2 (by decide) kf_X9_45 rfl dX9_readToken_48 ?_
            refine cs_i St [1, 2] [0] (wc := [(qAI h2 6 b2 nn), (qarI b2 cb 400 f)]) (wr := [(qAAIIIIII h 9 d t bh rt bh rv rk rp)]) rfl rfl (by decide) (by decide) (va_runV (As := [.int bh]) (rest := []) F (r6_at l G k _ h2 b2 cb nn f bh (by omega)) (cwVt F mf_X6_at km_X9_116 rfl rfl ⟨Nat.le_of_ble_eq_true rfl, Nat.le_of_ble_eq_true rfl⟩) (cs_preV St [1, 2] rfl (by decide) [0] rfl (ci := 6) (q0 := 1) rfl rfl) rfl rfl hl.1 rfl (lv_room (Nat.le_of_ble_eq_true rfl)) dX9_readToken_51 ⟨Nat.le_of_ble_eq_true rfl, Nat.le_of_ble_eq_true rfl⟩) (fun r_25 u_26 H locs hw St => ?_)
            try dsimp only at hw
            rcases hw with ⟨z_27, hf_28⟩ | ⟨hf_29, hr_30, hq_31⟩
            ·
              exact False.elim (by omega)
            ·
              have St : cS G k [(qAAIIIIII h 9 d t bh rt bh rv rk rp), (qAI h2 6 b2 nn), (qarI b2 cb 400 f)] [(cb, .byte)] A s H locs := St
              refine lv_istore_n (lv' := [(2, .int r_25), (0, .ref h), (1, .ref h2)]) hx hb dX9_readToken_54 rfl hl (by decide) rfl (fun ls hl => ?_)
              refine lv_iload_n hx hb dX9_readToken_55 rfl (lv_at hl 0 rfl) ?_
              refine lv_iconst (v := (-1)) hx hb dX9_readToken_56 (by decide) ?_
              refine lv_icmp_ne (tgt := 68) hx hb dX9_readToken_57 (by decide) (fun c57 => ?_) (fun c57 => ?_)
              rotate_left
              · have i57 := ci_eq (x := r_25) (y := (-1)) rfl (show ((-1) : Int32).toInt = -1 by decide) c57; exact False.elim (by omega)
              have i57 := ci_ne (x := r_25) (y := (-1)) rfl (show ((-1) : Int32).toInt = -1 by decide) c57
              refine lv_iload_n hx hb dX9_readToken_68 rfl (lv_at hl 0 rfl) ?_
              refine cs_i St [] [0, 1, 2] (wc := []) (wr := [(qAAIIIIII h 9 d t bh rt bh rv rk rp), (qAI h2 6 b2 nn), (qarI b2 cb 400 f)]) rfl rfl (by decide) (by decide) (va_runS (As := [.int r_25]) (rest := []) F (r9_isLetter l G k _ r_25) (cwSt F mf_X9_isLetter km_X9_131 rfl rfl ⟨Nat.le_of_ble_eq_true rfl, Nat.le_of_ble_eq_true rfl⟩) (cs_pre St [] rfl (by decide) [] rfl) rfl rfl hl.1 rfl (lv_room (Nat.le_of_ble_eq_true rfl)) dX9_readToken_69 ⟨Nat.le_of_ble_eq_true rfl, Nat.le_of_ble_eq_true rfl⟩) (fun r_32 u_33 H locs hw St => ?_)
              try dsimp only at hw
              rcases hw with ⟨z_34, hf_35⟩ | ⟨z_36, hf_37⟩
              ·
                subst r_32
                have St : cS G k [(qAAIIIIII h 9 d t bh rt bh rv rk rp), (qAI h2 6 b2 nn), (qarI b2 cb 400 f)] [(cb, .byte)] A s H locs := St
                refine lv_if_eq (tgt := 83) hx hb dX9_readToken_72 (by decide) (fun c72 => ?_) (fun c72 => ?_)
                · exact absurd c72 (by decide)
                refine lv_aload_n hx hb dX9_readToken_75 rfl (lv_at hl 1 rfl) ?_
                refine lv_aload_n hx hb dX9_readToken_76 rfl (lv_at hl 2 rfl) ?_
                refine cs_v St [0, 1, 2] [] (wc := [(qAAIIIIII h 9 d t bh rt bh rv rk rp), (qAI h2 6 b2 nn), (qarI b2 cb 400 f)]) (wr := []) rfl rfl (by decide) (by decide) (va_runV (As := [.ref h2]) (rest := []) F (r9_readWord l G k _ h d t bh rt bh rv rk rp h2 b2 cb nn f (by omega) (by omega) (by omega) (by omega)) (cwVt F mf_X9_readWord km_X9_134 rfl rfl ⟨Nat.le_of_ble_eq_true rfl, Nat.le_of_ble_eq_true rfl⟩) (cs_preV St [0, 1, 2] rfl (by decide) [0] rfl (ci := 9) (q0 := 0) rfl rfl) rfl rfl hl.1 rfl (lv_room (Nat.le_of_ble_eq_true rfl)) dX9_readToken_77 ⟨Nat.le_of_ble_eq_true rfl, Nat.le_of_ble_eq_true rfl⟩) (fun u_39 H locs hw St => ?_)
                obtain ⟨rh2_40, rfl⟩ : ∃ z, z = u_39 := ⟨_, rfl⟩
                try dsimp only at hw
                obtain ⟨w1_41, w2_42, w3_43⟩ := hw
                have St : cS G k [(qAAIIIIII h 9 d t rh2_40 1 bh rv rk rp), (qAI h2 6 b2 nn), (qarI b2 cb 400 f)] [(cb, .byte)] A s H locs := St
                refine lv_goto (tgt := 123) hx hb dX9_readToken_80 (by decide) ?_
                exact cs_vret F hr hlk hQ St (rh2_40, 1, bh, rv) (TK_word hh0 hI (by omega) (tS_f hr_16 hf_23) (tL_t hr_30 hf_35) (by omega) w3_43) [0, 1, 2] rfl (by decide) [] rfl (by decide) (by decide) dX9_readToken_123
              ·
                subst r_32
                have St : cS G k [(qAAIIIIII h 9 d t bh rt bh rv rk rp), (qAI h2 6 b2 nn), (qarI b2 cb 400 f)] [(cb, .byte)] A s H locs := St
                refine lv_if_eq (tgt := 83) hx hb dX9_readToken_72 (by decide) (fun c72 => ?_) (fun c72 => ?_)
                rotate_left
                · exact absurd (by decide) c72
                skip
                refine lv_iload_n hx hb dX9_readToken_83 rfl (lv_at hl 0 rfl) ?_
                refine cs_i St [] [0, 1, 2] (wc := []) (wr := [(qAAIIIIII h 9 d t bh rt bh rv rk rp), (qAI h2 6 b2 nn), (qarI b2 cb 400 f)]) rfl rfl (by decide) (by decide) (va_runS (As := [.int r_25]) (rest := []) F (r9_isDigit l G k _ r_25) (cwSt F mf_X9_isDigit km_X9_137 rfl rfl ⟨Nat.le_of_ble_eq_true rfl, Nat.le_of_ble_eq_true rfl⟩) (cs_pre St [] rfl (by decide) [] rfl) rfl rfl hl.1 rfl (lv_room (Nat.le_of_ble_eq_true rfl)) dX9_readToken_84 ⟨Nat.le_of_ble_eq_true rfl, Nat.le_of_ble_eq_true rfl⟩) (fun r_44 u_45 H locs hw St => ?_)
                try dsimp only at hw
                rcases hw with ⟨z_46, hf_47⟩ | ⟨z_48, hf_49⟩
                ·
                  subst r_44
                  have St : cS G k [(qAAIIIIII h 9 d t bh rt bh rv rk rp), (qAI h2 6 b2 nn), (qarI b2 cb 400 f)] [(cb, .byte)] A s H locs := St
                  refine lv_if_eq (tgt := 98) hx hb dX9_readToken_87 (by decide) (fun c87 => ?_) (fun c87 => ?_)
                  · exact absurd c87 (by decide)
                  refine lv_aload_n hx hb dX9_readToken_90 rfl (lv_at hl 1 rfl) ?_
                  refine lv_aload_n hx hb dX9_readToken_91 rfl (lv_at hl 2 rfl) ?_
                  refine cs_v St [0, 1, 2] [] (wc := [(qAAIIIIII h 9 d t bh rt bh rv rk rp), (qAI h2 6 b2 nn), (qarI b2 cb 400 f)]) (wr := []) rfl rfl (by decide) (by decide) (va_runV (As := [.ref h2]) (rest := []) F (r9_readNumber l G k _ h d t bh rt rv rk rp h2 b2 cb nn f (by omega) (by omega) (by omega) (by omega)) (cwVt F mf_X9_readNumber km_X9_140 rfl rfl ⟨Nat.le_of_ble_eq_true rfl, Nat.le_of_ble_eq_true rfl⟩) (cs_preV St [0, 1, 2] rfl (by decide) [0] rfl (ci := 9) (q0 := 0) rfl rfl) rfl rfl hl.1 rfl (lv_room (Nat.le_of_ble_eq_true rfl)) dX9_readToken_92 ⟨Nat.le_of_ble_eq_true rfl, Nat.le_of_ble_eq_true rfl⟩) (fun u_51 H locs hw St => ?_)
                  obtain ⟨rh2_52, rt2_53, rv2_54⟩ := u_51
                  try dsimp only at hw
                  obtain ⟨w1_55, w2_56, w3_57, wv_58, wk_59⟩ := hw
                  have St : cS G k [(qAAIIIIII h 9 d t rh2_52 rt2_53 bh rv2_54 rk rp), (qAI h2 6 b2 nn), (qarI b2 cb 400 f)] [(cb, .byte)] A s H locs := St
                  refine lv_goto (tgt := 123) hx hb dX9_readToken_95 (by decide) ?_
                  exact cs_vret F hr hlk hQ St (rh2_52, rt2_53, bh, rv2_54) (TK_num hh0 hI (by omega) (tS_f hr_16 hf_23) (tL_f hr_30 hf_37) (tD_t hr_30 hf_47) w1_55 w3_57 wv_58 wk_59) [0, 1, 2] rfl (by decide) [] rfl (by decide) (by decide) dX9_readToken_123
                ·
                  subst r_44
                  have St : cS G k [(qAAIIIIII h 9 d t bh rt bh rv rk rp), (qAI h2 6 b2 nn), (qarI b2 cb 400 f)] [(cb, .byte)] A s H locs := St
                  refine lv_if_eq (tgt := 98) hx hb dX9_readToken_87 (by decide) (fun c87 => ?_) (fun c87 => ?_)
                  rotate_left
                  · exact absurd (by decide) c87
                  refine lv_aload_n hx hb dX9_readToken_98 rfl (lv_at hl 1 rfl) ?_
                  refine lv_dup hx hb dX9_readToken_99 rfl ?_
                  refine cs_get F St 0 rfl rfl inX9 2 (by decide) kf_X9_45 rfl dX9_readToken_100 ?_
                  refine lv_iconst (v := 1) hx hb dX9_readToken_103 (by decide) ?_
                  refine lv_iadd hx hb dX9_readToken_104 ?_
                  refine lv_topi (fun y_60 ey_60 => ?_)
                  first | have jy_60 : y_60.toInt = bh.toInt + 1 := (by have q9 := ci_add (x := bh) (y := 1) rfl (show (1 : Int32).toInt = 1 by decide) ey_60; omega) | have jy_60 := ci_add (x := bh) (y := 1) rfl (show (1 : Int32).toInt = 1 by decide) ey_60
                  refine cs_put F St 0 rfl rfl inX9 tyX9_ok nmX9 2 (by decide) kf_X9_45 rfl rfl rfl (Nat.le_of_ble_eq_true rfl) (w' := [(qAAIIIIII h 9 d t y_60 rt bh rv rk rp), (qAI h2 6 b2 nn), (qarI b2 cb 400 f)]) rfl dX9_readToken_105 (fun H locs St => ?_)
                  refine lv_aload_n hx hb dX9_readToken_108 rfl (lv_at hl 1 rfl) ?_
                  refine lv_iload_n hx hb dX9_readToken_109 rfl (lv_at hl 0 rfl) ?_
                  refine lv_bipush (v := 59) hx hb dX9_readToken_110 (by decide) ?_
                  refine lv_icmp_ne (tgt := 119) hx hb dX9_readToken_112 (by decide) (fun c112 => ?_) (fun c112 => ?_)
                  ·
                    have i112 := ci_ne (x := r_25) (y := 59) rfl (show (59 : Int32).toInt = 59 by decide) c112
                    refine lv_iconst (v := 4) hx hb dX9_readToken_119 (by decide) ?_
                    refine cs_put F St 0 rfl rfl inX9 tyX9_ok nmX9 3 (by decide) kf_X9_36 rfl rfl rfl (Nat.le_of_ble_eq_true rfl) (w' := [(qAAIIIIII h 9 d t y_60 4 bh rv rk rp), (qAI h2 6 b2 nn), (qarI b2 cb 400 f)]) rfl dX9_readToken_120 (fun H locs St => ?_)
                    exact cs_vret F hr hlk hQ St (y_60, 4, bh, rv) (TK_sign hh0 hI (by omega) (tS_f hr_16 hf_23) (tL_f hr_30 hf_37) (tD_f hr_30 hf_49) (by omega) (Or.inr ⟨rfl, fun q => c112 (hr_30.trans q)⟩)) [0, 1, 2] rfl (by decide) [] rfl (by decide) (by decide) dX9_readToken_123
                  ·
                    have i112 := ci_eq (x := r_25) (y := 59) rfl (show (59 : Int32).toInt = 59 by decide) c112
                    refine lv_iconst (v := 3) hx hb dX9_readToken_115 (by decide) ?_
                    refine lv_goto (tgt := 120) hx hb dX9_readToken_116 (by decide) ?_
                    refine cs_put F St 0 rfl rfl inX9 tyX9_ok nmX9 3 (by decide) kf_X9_36 rfl rfl rfl (Nat.le_of_ble_eq_true rfl) (w' := [(qAAIIIIII h 9 d t y_60 3 bh rv rk rp), (qAI h2 6 b2 nn), (qarI b2 cb 400 f)]) rfl dX9_readToken_120 (fun H locs St => ?_)
                    exact cs_vret F hr hlk hQ St (y_60, 3, bh, rv) (TK_sign hh0 hI (by omega) (tS_f hr_16 hf_23) (tL_f hr_30 hf_37) (tD_f hr_30 hf_49) (by omega) (Or.inl ⟨rfl, hr_30.symm.trans c112⟩)) [0, 1, 2] rfl (by decide) [] rfl (by decide) (by decide) dX9_readToken_123
  exact lp0 401 rh _ _ _ (Run_0 (by omega)) (by omega) St (lv_sub hl [0, 1] rfl)

