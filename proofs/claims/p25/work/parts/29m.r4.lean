set_option maxHeartbeats 4000000 in
set_option maxRecDepth 100000 in
theorem r9_read (l : Launch) (G : va_G) (k : Nat → Nat) (sz : Nat) (h : Nat) (d : Nat) (dr : Nat) (t : Nat) (cd : ClassId) (ce : ClassId) (rh : Int32) (rt : Int32) (rs : Int32) (rv : Int32) (rk : Int32) (rp : Int32) (fd : Nat → Int32) (ft : Nat → Int32) (h2 : Nat) (b2 : Nat) (cb : ClassId) (nn : Int32) (f : Nat → Int32) (hn0 : 0 ≤ nn.toInt) (hn1 : nn.toInt ≤ 400) : Met l yX9_read (Cond.code yX9_read cX9_read 4 (some .int) :: tb) ({ frames := 7, cells := 0, slots := 0, locals := 151 } : Room) (va_Pc [.ref h, .ref h2] (cP G k [(qAAIIIIII h 9 d t rh rt rs rv rk rp), (qA d 8 dr), (qarI dr cd 9 fd), (qarI t ce 6 ft), (qAI h2 6 b2 nn), (qarI b2 cb 400 f)] [(cd, .int), (ce, .boolean), (cb, .byte)] sz)) (va_Qi (fun (r : Int32) (u : Int32 × Int32 × Int32 × Int32 × Int32 × Int32 × (Nat → Int32) × (Nat → Int32)) => match u with | (rh2, rt2, rs2, rv2, rk2, rp2, fd2, ft2) => ((r = (prs f nn.toNatClampNeg 7 (fun _ => 0) untold 0 0).1 ∧ rk2 = (prs f nn.toNatClampNeg 7 (fun _ => 0) untold 0 0).2.1 ∧ rp2 = (prs f nn.toNatClampNeg 7 (fun _ => 0) untold 0 0).2.2.1 ∧ (¬ r = -1 → fd2 = (prs f nn.toNatClampNeg 7 (fun _ => 0) untold 0 0).2.2.2)))) (cB G (fun u => match u with | (rh2, rt2, rs2, rv2, rk2, rp2, fd2, ft2) => [(qAAIIIIII h 9 d t rh2 rt2 rs2 rv2 rk2 rp2), (qA d 8 dr), (qarI dr cd 9 fd2), (qarI t ce 6 ft2), (qAI h2 6 b2 nn), (qarI b2 cb 400 f)]) (fun u => match u with | (rh2, rt2, rs2, rv2, rk2, rp2, fd2, ft2) => []) (va_A [(qAAIIIIII h 9 d t rh rt rs rv rk rp), (qA d 8 dr), (qarI dr cd 9 fd), (qarI t ce 6 ft), (qAI h2 6 b2 nn), (qarI b2 cb 400 f)] sz)) (va_A [(qAAIIIIII h 9 d t rh rt rs rv rk rp), (qA d 8 dr), (qarI dr cd 9 fd), (qarI t ce 6 ft), (qAI h2 6 b2 nn), (qarI b2 cb 400 f)] sz)) 0 0 (va_A [(qAAIIIIII h 9 d t rh rt rs rv rk rp), (qA d 8 dr), (qarI dr cd 9 fd), (qarI t ce 6 ft), (qAI h2 6 b2 nn), (qarI b2 cb 400 f)] sz) := by
  refine ofC_i (cc := cX9_read) (maxL := 4) (ret := (some .int)) (by decide) rfl (Nat.le_of_ble_eq_true rfl) ?_
  intro p e s m args below meth c A ls Q F hr hin hlk St hl hQ
  have hx := F.1
  have hb := F.2.1
  have hl : lv_has ls 4 [(0, .ref h), (1, .ref h2)] := hl
  have St : cS G k [(qAAIIIIII h 9 d t rh rt rs rv rk rp), (qA d 8 dr), (qarI dr cd 9 fd), (qarI t ce 6 ft), (qAI h2 6 b2 nn), (qarI b2 cb 400 f)] [(cd, .int), (ce, .boolean), (cb, .byte)] A s s.heap [] := St
  have y0 : (0 : Int32).toInt = 0 := by decide
  refine lv_aload_n hx hb dX9_read_0 rfl (lv_at hl 0 rfl) ?_
  refine cs_v St [0, 1, 2, 3] [4, 5] (wc := [(qAAIIIIII h 9 d t rh rt rs rv rk rp), (qA d 8 dr), (qarI dr cd 9 fd), (qarI t ce 6 ft)]) (wr := [(qAI h2 6 b2 nn), (qarI b2 cb 400 f)]) rfl rfl (by decide) (by decide) (va_runV (As := []) (rest := []) F (r9_startAnew l G k _ h d dr t cd ce rh rt rs rv rk rp fd ft) (cwVt F mf_X9_startAnew km_X9_29 rfl rfl ⟨Nat.le_of_ble_eq_true rfl, Nat.le_of_ble_eq_true rfl⟩) (cs_preV St [0, 1, 2, 3] rfl (by decide) [0, 1] rfl (ci := 9) (q0 := 0) rfl rfl) rfl rfl hl.1 rfl (lv_room (Nat.le_of_ble_eq_true rfl)) dX9_read_1 ⟨Nat.le_of_ble_eq_true rfl, Nat.le_of_ble_eq_true rfl⟩) (fun u_2 H locs hw St => ?_)
  try dsimp only at hw
  have St : cS G k [(qAI h2 6 b2 nn), (qarI b2 cb 400 f), (qAAIIIIII h 9 d t 0 rt rs rv 0 (-1)), (qA d 8 dr), (qarI dr cd 9 untold), (qarI t ce 6 (fun _ => 0))] [(cd, .int), (ce, .boolean), (cb, .byte)] A s H locs := St
  refine lv_iconst (v := 0) hx hb dX9_read_4 (by decide) ?_
  refine lv_istore_n (lv' := [(2, .int 0), (0, .ref h), (1, .ref h2)]) hx hb dX9_read_5 rfl hl (by decide) rfl (fun ls hl => ?_)
  refine lv_iconst (v := 0) hx hb dX9_read_6 (by decide) ?_
  refine lv_istore_n (lv' := [(3, .int 0), (2, .int 0), (0, .ref h), (1, .ref h2)]) hx hb dX9_read_7 rfl hl (by decide) rfl (fun ls hl => ?_)
  have lp8 : ∀ (n : Nat) (kk : Int32) (ln : Int32) (q0 : Int32) (q1 : Int32) (q2 : Int32) (q3 : Int32) (q4 : Int32) (q5 : Int32) (fdq : Nat → Int32) (ftq : Nat → Int32) (H : Heap) (locs : List Loc) (ls : Array Slot), ((0 ≤ kk.toInt ∧ kk.toInt ≤ 6) ∧ ln = kk ∧ (q4 = 0 ∧ q5 = (-1)) ∧ (0 ≤ q0.toInt ∧ q0.toInt ≤ nn.toInt) ∧ ct ftq = kk.toNatClampNeg ∧ prs f nn.toNatClampNeg (7 - kk.toNatClampNeg) ftq fdq q0.toNatClampNeg ln = prs f nn.toNatClampNeg 7 (fun _ => 0) untold 0 0) → ((10 - kk.toInt).toNat) < n → cS G k [(qAI h2 6 b2 nn), (qarI b2 cb 400 f), (qAAIIIIII h 9 d t q0 q1 q2 q3 q4 q5), (qA d 8 dr), (qarI dr cd 9 fdq), (qarI t ce 6 ftq)] [(cd, .int), (ce, .boolean), (cb, .byte)] A s H locs → lv_has ls 4 [(3, .int kk), (2, .int ln), (0, .ref h), (1, .ref h2)] → W p l e ({ frames := 7, cells := 0, slots := 0, locals := 151 } : Room) s m args below meth c H locs 0 0 Q (F0 m 8 ls []) := by
    intro n
    induction n with
    | zero => intro kk ln q0 q1 q2 q3 q4 q5 fdq ftq H locs ls hI hn; exact absurd hn (Nat.not_lt_zero _)
    | succ n ih =>
      intro kk ln q0 q1 q2 q3 q4 q5 fdq ftq H locs ls hI hn St hl
      obtain ⟨⟨hI0, hI1⟩, hln, ⟨hk4, hk5⟩, ⟨hq0, hq1⟩, hct, hP⟩ := hI
      have nk := nc_int hI0
      refine lv_iload_n hx hb dX9_read_8 rfl (lv_at hl 0 rfl) ?_
      refine lv_bipush (v := 6) hx hb dX9_read_9 (by decide) ?_
      refine lv_icmp_gt (tgt := 51) hx hb dX9_read_11 (by decide) (fun c11 => ?_) (fun c11 => ?_)
      · have i11 := ci_lt (x := 6) (y := kk) (show (6 : Int32).toInt = 6 by decide) rfl c11; exact False.elim (by omega)
      have i11 := ci_nlt (x := 6) (y := kk) (show (6 : Int32).toInt = 6 by decide) rfl c11
      obtain ⟨c9, hc9⟩ : ∃ c9 : Nat, 7 - kk.toNatClampNeg = c9 + 1 := ⟨6 - kk.toNatClampNeg, by omega⟩
      rw [hc9] at hP
      refine lv_aload_n hx hb dX9_read_14 rfl (lv_at hl 2 rfl) ?_
      refine lv_aload_n hx hb dX9_read_15 rfl (lv_at hl 3 rfl) ?_
      refine cs_v St [2, 0, 1] [3, 4, 5] (wc := [(qAAIIIIII h 9 d t q0 q1 q2 q3 q4 q5), (qAI h2 6 b2 nn), (qarI b2 cb 400 f)]) (wr := [(qA d 8 dr), (qarI dr cd 9 fdq), (qarI t ce 6 ftq)]) rfl rfl (by decide) (by decide) (va_runV (As := [.ref h2]) (rest := []) F (r9_readToken l G k _ h d t q0 q1 q2 q3 q4 q5 h2 b2 cb nn f (by omega) (by omega) (by omega) (by omega)) (cwVt F mf_X9_readToken km_X9_32 rfl rfl ⟨Nat.le_of_ble_eq_true rfl, Nat.le_of_ble_eq_true rfl⟩) (cs_preV St [2, 0, 1] rfl (by decide) [2] rfl (ci := 9) (q0 := 2) rfl rfl) rfl rfl hl.1 rfl (lv_room (Nat.le_of_ble_eq_true rfl)) dX9_read_16 ⟨Nat.le_of_ble_eq_true rfl, Nat.le_of_ble_eq_true rfl⟩) (fun u_4 H locs hw St => ?_)
      obtain ⟨rh2_5, rt2_6, rs2_7, rv2_8⟩ := u_4
      try dsimp only at hw
      have ht_9 := hw
      have St : cS G k [(qA d 8 dr), (qarI dr cd 9 fdq), (qarI t ce 6 ftq), (qAAIIIIII h 9 d t rh2_5 rt2_6 rs2_7 rv2_8 q4 q5), (qAI h2 6 b2 nn), (qarI b2 cb 400 f)] [(cd, .int), (ce, .boolean), (cb, .byte)] A s H locs := St
      have ht_9b := TK_le (by omega) (by omega) ht_9
      refine lv_aload_n hx hb dX9_read_19 rfl (lv_at hl 2 rfl) ?_
      refine cs_get F St 3 rfl rfl inX9 3 (by decide) kf_X9_36 rfl dX9_read_20 ?_
      refine lv_if_ne (tgt := 28) hx hb dX9_read_23 (by decide) (fun c23 => ?_) (fun c23 => ?_)
      ·
        have i23 := ci_ne (x := rt2_6) (y := 0) rfl (show (0 : Int32).toInt = 0 by decide) c23
        refine lv_aload_n hx hb dX9_read_28 rfl (lv_at hl 2 rfl) ?_
        refine lv_aload_n hx hb dX9_read_29 rfl (lv_at hl 3 rfl) ?_
        refine cs_v St [3, 0, 1, 2, 4, 5] [] (wc := [(qAAIIIIII h 9 d t rh2_5 rt2_6 rs2_7 rv2_8 q4 q5), (qA d 8 dr), (qarI dr cd 9 fdq), (qarI t ce 6 ftq), (qAI h2 6 b2 nn), (qarI b2 cb 400 f)]) (wr := []) rfl rfl (by decide) (by decide) (va_runV (As := [.ref h2]) (rest := []) F (r9_readLine l G k _ h d dr t cd ce rh2_5 rt2_6 rs2_7 rv2_8 q4 q5 fdq ftq h2 b2 cb nn f q0 (by omega) (by omega) (by omega) (by omega) (by omega) (by omega) (by first | assumption | rfl) (by omega) (by omega) ht_9) (cwVt F mf_X9_readLine km_X9_39 rfl rfl ⟨Nat.le_of_ble_eq_true rfl, Nat.le_of_ble_eq_true rfl⟩) (cs_preV St [3, 0, 1, 2, 4, 5] rfl (by decide) [0, 1, 2] rfl (ci := 9) (q0 := 3) rfl rfl) rfl rfl hl.1 rfl (lv_room (Nat.le_of_ble_eq_true rfl)) dX9_read_30 ⟨Nat.le_of_ble_eq_true rfl, Nat.le_of_ble_eq_true rfl⟩) (fun u_11 H locs hw St => ?_)
        obtain ⟨rh2_12, rt2_13, rs2_14, rv2_15, rk2_16, rp2_17, fd2_18, ft2_19⟩ := u_11
        try dsimp only at hw
        have hR_20 := hw
        have St : cS G k [(qAAIIIIII h 9 d t rh2_12 rt2_13 rs2_14 rv2_15 rk2_16 rp2_17), (qA d 8 dr), (qarI dr cd 9 fd2_18), (qarI t ce 6 ft2_19), (qAI h2 6 b2 nn), (qarI b2 cb 400 f)] [(cd, .int), (ce, .boolean), (cb, .byte)] A s H locs := St
        refine lv_aload_n hx hb dX9_read_33 rfl (lv_at hl 2 rfl) ?_
        refine cs_get F St 0 rfl rfl inX9 6 (by decide) kf_X9_26 rfl dX9_read_34 ?_
        refine lv_if_eq (tgt := 42) hx hb dX9_read_37 (by decide) (fun c37 => ?_) (fun c37 => ?_)
        ·
          have i37 := ci_eq (x := rk2_16) (y := 0) rfl (show (0 : Int32).toInt = 0 by decide) c37
          obtain ⟨hs9, hz9, hp9, ⟨hb9, hb8⟩⟩ := hR_20.resolve_left (fun ⟨q, p, _, a, b, _⟩ => a (b.symm.trans c37))
          have hc8 := stp_inr hs9
          have hc7 := ct_le ft2_19
          obtain ⟨y_21, ey_21⟩ : ∃ zz : Int32, zz = ln + 1 := ⟨_, rfl⟩
          first | have jy_21 : y_21.toInt = ln.toInt + 1 := (by have q9 := ci_add (x := ln) rfl (show (1 : Int32).toInt = 1 by decide) ey_21; omega) | have jy_21 := ci_add (x := ln) rfl (show (1 : Int32).toInt = 1 by decide) ey_21
          refine lv_iinc (v := y_21) (lv' := [(2, .int y_21), (3, .int kk), (0, .ref h), (1, .ref h2)]) hx hb dX9_read_42 hl (k := 1) rfl (by rw [ey_21]; rfl) (by decide) rfl (fun ls hl => ?_)
          obtain ⟨y_22, ey_22⟩ : ∃ zz : Int32, zz = kk + 1 := ⟨_, rfl⟩
          first | have jy_22 : y_22.toInt = kk.toInt + 1 := (by have q9 := ci_add (x := kk) rfl (show (1 : Int32).toInt = 1 by decide) ey_22; omega) | have jy_22 := ci_add (x := kk) rfl (show (1 : Int32).toInt = 1 by decide) ey_22
          refine lv_iinc (v := y_22) (lv' := [(3, .int y_22), (2, .int y_21), (0, .ref h), (1, .ref h2)]) hx hb dX9_read_45 hl (k := 1) rfl (by rw [ey_22]; rfl) (by decide) rfl (fun ls hl => ?_)
          refine lv_goto (tgt := 8) hx hb dX9_read_48 (by decide) ?_
          exact ih y_22 y_21 rh2_12 rt2_13 rs2_14 rv2_15 rk2_16 rp2_17 fd2_18 ft2_19 _ _ _ ⟨⟨by omega, by omega⟩, by rw [ey_21, ey_22, hln], ⟨hz9, hp9.trans hk5⟩, ⟨by omega, by omega⟩, by have := nc_s (x := kk) (y := y_22) (by omega) (by omega); omega, by rw [show 7 - y_22.toNatClampNeg = c9 from (by have := nc_s (x := kk) (y := y_22) (by omega) (by omega); omega), ey_21]; exact (prs_go ht_9 c23 hs9).symm.trans hP⟩ (by omega) (cs_pick St [4, 5, 0, 1, 2, 3] rfl (by decide) [0, 1, 2] rfl) (lv_sub hl [0, 1, 2, 3] rfl)
        ·
          have i37 := ci_ne (x := rk2_16) (y := 0) rfl (show (0 : Int32).toInt = 0 by decide) c37
          refine lv_iconst (v := (-1)) hx hb dX9_read_40 (by decide) ?_
          obtain ⟨q9, p9, hs9, hn9, hk9, hp8, hp9⟩ := hR_20.resolve_right (fun q => absurd q.2.1 c37)
          have hE := (prs_flt ht_9 c23 hs9 (c := c9) (l := ln)).symm.trans hP
          exact cs_iret F hr hlk hQ St (rh2_12, rt2_13, rs2_14, rv2_15, rk2_16, rp2_17, fd2_18, ft2_19) (r := (-1)) ⟨by rw [← hE], by rw [← hE]; exact hk9, by rw [← hE]; exact nI_nc hp8 hp9, fun q => absurd rfl q⟩ [0, 1, 2, 3, 4, 5] rfl (by decide) [] rfl (by decide) (by decide) dX9_read_41
      ·
        have i23 := ci_eq (x := rt2_6) (y := 0) rfl (show (0 : Int32).toInt = 0 by decide) c23
        refine lv_iload_n hx hb dX9_read_26 rfl (lv_at hl 1 rfl) ?_
        have hE := (prs_end ht_9 c23 (c := c9) (T := ftq) (R := fdq) (l := ln)).symm.trans hP
        exact cs_iret F hr hlk hQ St (rh2_5, rt2_6, rs2_7, rv2_8, q4, q5, fdq, ftq) (r := ln) ⟨by rw [← hE], by rw [← hE]; exact hk4, by rw [← hE]; exact hk5, fun _ => by rw [← hE]⟩ [3, 0, 1, 2, 4, 5] rfl (by decide) [] rfl (by decide) (by decide) dX9_read_27
  exact lp8 11 0 0 0 rt rs rv 0 (-1) untold (fun _ => 0) _ _ _ ⟨⟨by omega, by omega⟩, rfl, ⟨rfl, rfl⟩, ⟨by omega, by omega⟩, by decide, rfl⟩ (by omega) St (lv_sub hl [0, 1, 2, 3] rfl)

