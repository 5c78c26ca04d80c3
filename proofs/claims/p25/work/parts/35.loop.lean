set_option maxHeartbeats 40000000 in
set_option maxRecDepth 100000 in
theorem law_loop {p : Program} {e : Env} {s : State} {m : MethodId} {below : List Frame} {meth : Method} {c : Code} {l : Launch} {b L : Nat} {xs : Nat → Int32} (hL : L ≤ 3072) (C0 : lw_At p s m meth c b L xs) (G : va_G) (k : Nat → Nat) (h hm : Nat) (a a2 : Nat → Nat) (d d2 : Nat → ClassId) : ∀ (n j : Nat) (i : Int32) (nn : Int32) (cl : Int32) (sp : Int32) (bn : Int32) (tn : Int32) (g2 : Nat → Int32) (ft0 : Nat → Int32) (fr : Nat → Int32) (rk : Int32) (rp : Int32) (tP : Nat → Pl9) (sn : Int32) (u0 : Nat → Int32) (u1 : Nat → Int32) (u2 : Nat → Int32) (u3 : Nat → Int32) (g0 : Nat → Int32) (g1 : Nat → Int32) (g3 : Nat → Int32) (ma : Int) (ta : Int) (co : Int) (lo : Int) (gr : Int32) (pd : Int32) (td : Int32) (sc : Nat → Int32) (sl : Nat → Int32) (sk : Nat → Int32) (sq : Nat → Int32) (su : Nat → Int32) (wx wm : va_W) (H : Heap) (locs : List Loc) (ls : Array Slot), i.toInt = 6 * (j : Int) → 6 * j ≤ L → L - 6 * j < n → gX h a d nn cl sp bn tn g2 ft0 fr rk rp tP sn u0 u1 u2 u3 g0 g1 g3 ma ta co lo gr pd td sc sl sk sq su wx → gM hm a2 d2 nn cl sp bn tn g2 ft0 fr rk rp tP sn u0 u1 u2 u3 g0 g1 g3 ma ta co lo gr pd td sc sl sk sq su wm → cS G k (wx ++ wm) (tyX d ++ tyM d2) (fun q : Nat => s.heap.size ≤ q) s H locs → lv_has ls 4 [(3, .int i), (2, .ref hm), (1, .ref h), (0, .ref b)] → W p l e room_1 s m #[Value.ref b] below meth c H locs (60 + 4 * j) (24090 + 264 * j) (lw_Z below #[Value.ref b] s) (F0 m 18 ls []) := by
  obtain ⟨hx, hb, hr, hml, hown, hts, hX9, hbl, hlocks, hgv⟩ := id C0
  have hbA : ¬ (fun q : Nat => s.heap.size ≤ q) b := Nat.not_le.mpr hbl
  have F : CallFix p m c code 4 s #[Value.ref b] tb RL := ⟨hx, hb, hml, hown, fun w h => hts w (tb_in w h)⟩
  have hLt : (nI L).toInt = L := nI_toInt (by omega)
  intro n
  induction n with
  | zero => intro j i nn cl sp bn tn g2 ft0 fr rk rp tP sn u0 u1 u2 u3 g0 g1 g3 ma ta co lo gr pd td sc sl sk sq su wx wm H locs ls hi hj hn; exact absurd hn (Nat.not_lt_zero _)
  | succ n ih =>
    intro j i nn cl sp bn tn g2 ft0 fr rk rp tP sn u0 u1 u2 u3 g0 g1 g3 ma ta co lo gr pd td sc sl sk sq su wx wm H locs ls hi hj hn hX hM St hl
    refine lv_iload_n hx hb dL_law_18 rfl (lv_at hl 0 rfl) ?_
    refine lv_aload_n hx hb dL_law_19 rfl (lv_at hl 3 rfl) ?_
    refine va_slen hx hb hX9 hbl hbA St.toS dL_law_20 ?_
    refine lv_bipush (v := 6) hx hb dL_law_21 (by decide) ?_
    refine lv_isub hx hb dL_law_23 ?_
    refine lv_topi (fun y_1 ey_1 => ?_)
    first | have jy_1 : y_1.toInt = (nI L).toInt - 6 := (by have q9 := ci_sub (x := nI L) (y := 6) rfl (show (6 : Int32).toInt = 6 by decide) ey_1; omega) | have jy_1 := ci_sub (x := nI L) (y := 6) rfl (show (6 : Int32).toInt = 6 by decide) ey_1
    refine lv_icmp_gt (tgt := 858) hx hb dL_law_24 (by decide) (fun c24 => ?_) (fun c24 => ?_)
    ·
      have i24 := ci_lt (x := y_1) (y := i) rfl rfl c24
      refine lv_iconst (v := 1) hx hb dL_law_858 (by decide) ?_
      refine va_forget (fun q hq => St.toS.2.2 q hq) ?_
      refine W.widen (k := 601024) (n := 7293034) (by omega) (by omega) ?_
      exact lw_ret hx hb hr hlocks dL_law_859
    ·
      have i24 := ci_nlt (x := y_1) (y := i) rfl rfl c24
      have hij : i.toInt + 6 ≤ L := by omega
      have hroom : (60 + 4 * j) + 4 ≤ room_1.cells ∧ (24090 + 264 * j) + 264 ≤ room_1.slots := ⟨show (60 + 4 * j) + 4 ≤ 601024 from (by omega), show (24090 + 264 * j) + 264 ≤ 7293034 from (by omega)⟩
      have kk : ∀ (nn : Int32) (cl : Int32) (sp : Int32) (bn : Int32) (tn : Int32) (g2 : Nat → Int32) (ft0 : Nat → Int32) (fr : Nat → Int32) (rk : Int32) (rp : Int32) (tP : Nat → Pl9) (sn : Int32) (u0 : Nat → Int32) (u1 : Nat → Int32) (u2 : Nat → Int32) (u3 : Nat → Int32) (g0 : Nat → Int32) (g1 : Nat → Int32) (g3 : Nat → Int32) (ma : Int) (ta : Int) (co : Int) (lo : Int) (gr : Int32) (pd : Int32) (td : Int32) (sc : Nat → Int32) (sl : Nat → Int32) (sk : Nat → Int32) (sq : Nat → Int32) (su : Nat → Int32) (wx wm : va_W) (H : Heap) (locs : List Loc) (ls : Array Slot), gX h a d nn cl sp bn tn g2 ft0 fr rk rp tP sn u0 u1 u2 u3 g0 g1 g3 ma ta co lo gr pd td sc sl sk sq su wx → gM hm a2 d2 nn cl sp bn tn g2 ft0 fr rk rp tP sn u0 u1 u2 u3 g0 g1 g3 ma ta co lo gr pd td sc sl sk sq su wm → cS G k (wx ++ wm) (tyX d ++ tyM d2) (fun q : Nat => s.heap.size ≤ q) s H locs → lv_has ls 4 [(3, .int i), (2, .ref hm), (1, .ref h), (0, .ref b)] → W p l e room_1 s m #[Value.ref b] below meth c H locs ((60 + 4 * j) + 4) ((24090 + 264 * j) + 264) (lw_Z below #[Value.ref b] s) (F0 m 852 ls []) := by
        intro nn cl sp bn tn g2 ft0 fr rk rp tP sn u0 u1 u2 u3 g0 g1 g3 ma ta co lo gr pd td sc sl sk sq su wx wm H locs ls hX hM St hl
        obtain ⟨y_2, ey_2⟩ : ∃ zz : Int32, zz = i + 6 := ⟨_, rfl⟩
        first | have jy_2 : y_2.toInt = i.toInt + 6 := (by have q9 := ci_add (x := i) rfl (show (6 : Int32).toInt = 6 by decide) ey_2; omega) | have jy_2 := ci_add (x := i) rfl (show (6 : Int32).toInt = 6 by decide) ey_2
        refine lv_iinc (v := y_2) (lv' := [(3, .int y_2), (2, .ref hm), (1, .ref h), (0, .ref b)]) hx hb dL_law_852 hl (k := 0) rfl (by rw [ey_2]; rfl) (by decide) rfl (fun ls hl => ?_)
        refine lv_goto (tgt := 18) hx hb dL_law_855 (by decide) ?_
        refine W.widen (k := 60 + 4 * (j + 1)) (n := 24090 + 264 * (j + 1)) (by omega) (by omega) ?_
        exact ih (j + 1) y_2 nn cl sp bn tn g2 ft0 fr rk rp tP sn u0 u1 u2 u3 g0 g1 g3 ma ta co lo gr pd td sc sl sk sq su wx wm H locs _ (by omega) (by omega) (by omega) hX hM St (lv_sub hl [0, 1, 2, 3] rfl)
      refine lv_aload_n hx hb dL_law_27 rfl (lv_at hl 3 rfl) ?_
      refine lv_iload_n hx hb dL_law_28 rfl (lv_at hl 0 rfl) ?_
      refine va_sld hx hb hX9 hbl hbA St.toS (vp_in_iff.mpr ⟨by omega, by omega⟩) dL_law_29 ?_
      refine lv_topi (fun y_3 ey_3 => ?_)
      refine lv_bipush (v := 31) hx hb dL_law_30 (by decide) ?_
      refine lv_iand hx hb dL_law_32 ?_
      refine lv_topi (fun y_4 ey_4 => ?_)
      by_cases w33_0 : y_4 = 0
      ·
        subst w33_0
        refine lv_tableIn (tgt := 144) (off := 111) hx hb dL_law_33 (by decide) (by decide) (by decide) (by decide) ?_
        exact law_case0 hL C0 G k h hm a a2 d d2 i (60 + 4 * j) (24090 + 264 * j) (by omega) (by omega) hroom nn cl sp bn tn g2 ft0 fr rk rp tP sn u0 u1 u2 u3 g0 g1 g3 ma ta co lo gr pd td sc sl sk sq su wx wm H locs ls kk hX hM St (lv_sub hl [0, 1, 2, 3] rfl)
      by_cases w33_1 : y_4 = 1
      ·
        subst w33_1
        refine lv_tableIn (tgt := 207) (off := 174) hx hb dL_law_33 (by decide) (by decide) (by decide) (by decide) ?_
        exact law_case1 hL C0 G k h hm a a2 d d2 i (60 + 4 * j) (24090 + 264 * j) (by omega) (by omega) hroom nn cl sp bn tn g2 ft0 fr rk rp tP sn u0 u1 u2 u3 g0 g1 g3 ma ta co lo gr pd td sc sl sk sq su wx wm H locs ls kk hX hM St (lv_sub hl [0, 1, 2, 3] rfl)
      by_cases w33_2 : y_4 = 2
      ·
        subst w33_2
        refine lv_tableIn (tgt := 230) (off := 197) hx hb dL_law_33 (by decide) (by decide) (by decide) (by decide) ?_
        exact law_case2 hL C0 G k h hm a a2 d d2 i (60 + 4 * j) (24090 + 264 * j) (by omega) (by omega) hroom nn cl sp bn tn g2 ft0 fr rk rp tP sn u0 u1 u2 u3 g0 g1 g3 ma ta co lo gr pd td sc sl sk sq su wx wm H locs ls kk hX hM St (lv_sub hl [0, 1, 2, 3] rfl)
      by_cases w33_3 : y_4 = 3
      ·
        subst w33_3
        refine lv_tableIn (tgt := 243) (off := 210) hx hb dL_law_33 (by decide) (by decide) (by decide) (by decide) ?_
        exact law_case3 hL C0 G k h hm a a2 d d2 i (60 + 4 * j) (24090 + 264 * j) (by omega) (by omega) hroom nn cl sp bn tn g2 ft0 fr rk rp tP sn u0 u1 u2 u3 g0 g1 g3 ma ta co lo gr pd td sc sl sk sq su wx wm H locs ls kk hX hM St (lv_sub hl [0, 1, 2, 3] rfl)
      by_cases w33_4 : y_4 = 4
      ·
        subst w33_4
        refine lv_tableIn (tgt := 266) (off := 233) hx hb dL_law_33 (by decide) (by decide) (by decide) (by decide) ?_
        exact law_case4 hL C0 G k h hm a a2 d d2 i (60 + 4 * j) (24090 + 264 * j) (by omega) (by omega) hroom nn cl sp bn tn g2 ft0 fr rk rp tP sn u0 u1 u2 u3 g0 g1 g3 ma ta co lo gr pd td sc sl sk sq su wx wm H locs ls kk hX hM St (lv_sub hl [0, 1, 2, 3] rfl)
      by_cases w33_5 : y_4 = 5
      ·
        subst w33_5
        refine lv_tableIn (tgt := 289) (off := 256) hx hb dL_law_33 (by decide) (by decide) (by decide) (by decide) ?_
        exact law_case5 hL C0 G k h hm a a2 d d2 i (60 + 4 * j) (24090 + 264 * j) (by omega) (by omega) hroom nn cl sp bn tn g2 ft0 fr rk rp tP sn u0 u1 u2 u3 g0 g1 g3 ma ta co lo gr pd td sc sl sk sq su wx wm H locs ls kk hX hM St (lv_sub hl [0, 1, 2, 3] rfl)
      by_cases w33_6 : y_4 = 6
      ·
        subst w33_6
        refine lv_tableIn (tgt := 332) (off := 299) hx hb dL_law_33 (by decide) (by decide) (by decide) (by decide) ?_
        exact law_case6 hL C0 G k h hm a a2 d d2 i (60 + 4 * j) (24090 + 264 * j) (by omega) (by omega) hroom nn cl sp bn tn g2 ft0 fr rk rp tP sn u0 u1 u2 u3 g0 g1 g3 ma ta co lo gr pd td sc sl sk sq su wx wm H locs ls kk hX hM St (lv_sub hl [0, 1, 2, 3] rfl)
      by_cases w33_7 : y_4 = 7
      ·
        subst w33_7
        refine lv_tableIn (tgt := 381) (off := 348) hx hb dL_law_33 (by decide) (by decide) (by decide) (by decide) ?_
        exact law_case7 hL C0 G k h hm a a2 d d2 i (60 + 4 * j) (24090 + 264 * j) (by omega) (by omega) hroom nn cl sp bn tn g2 ft0 fr rk rp tP sn u0 u1 u2 u3 g0 g1 g3 ma ta co lo gr pd td sc sl sk sq su wx wm H locs ls kk hX hM St (lv_sub hl [0, 1, 2, 3] rfl)
      by_cases w33_8 : y_4 = 8
      ·
        subst w33_8
        refine lv_tableIn (tgt := 444) (off := 411) hx hb dL_law_33 (by decide) (by decide) (by decide) (by decide) ?_
        exact law_case8 hL C0 G k h hm a a2 d d2 i (60 + 4 * j) (24090 + 264 * j) (by omega) (by omega) hroom nn cl sp bn tn g2 ft0 fr rk rp tP sn u0 u1 u2 u3 g0 g1 g3 ma ta co lo gr pd td sc sl sk sq su wx wm H locs ls kk hX hM St (lv_sub hl [0, 1, 2, 3] rfl)
      by_cases w33_9 : y_4 = 9
      ·
        subst w33_9
        refine lv_tableIn (tgt := 477) (off := 444) hx hb dL_law_33 (by decide) (by decide) (by decide) (by decide) ?_
        exact law_case9 hL C0 G k h hm a a2 d d2 i (60 + 4 * j) (24090 + 264 * j) (by omega) (by omega) hroom nn cl sp bn tn g2 ft0 fr rk rp tP sn u0 u1 u2 u3 g0 g1 g3 ma ta co lo gr pd td sc sl sk sq su wx wm H locs ls kk hX hM St (lv_sub hl [0, 1, 2, 3] rfl)
      by_cases w33_10 : y_4 = 10
      ·
        subst w33_10
        refine lv_tableIn (tgt := 510) (off := 477) hx hb dL_law_33 (by decide) (by decide) (by decide) (by decide) ?_
        exact law_case10 hL C0 G k h hm a a2 d d2 i (60 + 4 * j) (24090 + 264 * j) (by omega) (by omega) hroom nn cl sp bn tn g2 ft0 fr rk rp tP sn u0 u1 u2 u3 g0 g1 g3 ma ta co lo gr pd td sc sl sk sq su wx wm H locs ls kk hX hM St (lv_sub hl [0, 1, 2, 3] rfl)
      by_cases w33_11 : y_4 = 11
      ·
        subst w33_11
        refine lv_tableIn (tgt := 543) (off := 510) hx hb dL_law_33 (by decide) (by decide) (by decide) (by decide) ?_
        exact law_case11 hL C0 G k h hm a a2 d d2 i (60 + 4 * j) (24090 + 264 * j) (by omega) (by omega) hroom nn cl sp bn tn g2 ft0 fr rk rp tP sn u0 u1 u2 u3 g0 g1 g3 ma ta co lo gr pd td sc sl sk sq su wx wm H locs ls kk hX hM St (lv_sub hl [0, 1, 2, 3] rfl)
      by_cases w33_12 : y_4 = 12
      ·
        subst w33_12
        refine lv_tableIn (tgt := 566) (off := 533) hx hb dL_law_33 (by decide) (by decide) (by decide) (by decide) ?_
        exact law_case12 hL C0 G k h hm a a2 d d2 i (60 + 4 * j) (24090 + 264 * j) (by omega) (by omega) hroom nn cl sp bn tn g2 ft0 fr rk rp tP sn u0 u1 u2 u3 g0 g1 g3 ma ta co lo gr pd td sc sl sk sq su wx wm H locs ls kk hX hM St (lv_sub hl [0, 1, 2, 3] rfl)
      by_cases w33_13 : y_4 = 13
      ·
        subst w33_13
        refine lv_tableIn (tgt := 579) (off := 546) hx hb dL_law_33 (by decide) (by decide) (by decide) (by decide) ?_
        exact law_case13 hL C0 G k h hm a a2 d d2 i (60 + 4 * j) (24090 + 264 * j) (by omega) (by omega) hroom nn cl sp bn tn g2 ft0 fr rk rp tP sn u0 u1 u2 u3 g0 g1 g3 ma ta co lo gr pd td sc sl sk sq su wx wm H locs ls kk hX hM St (lv_sub hl [0, 1, 2, 3] rfl)
      by_cases w33_14 : y_4 = 14
      ·
        subst w33_14
        refine lv_tableIn (tgt := 612) (off := 579) hx hb dL_law_33 (by decide) (by decide) (by decide) (by decide) ?_
        exact law_case14 hL C0 G k h hm a a2 d d2 i (60 + 4 * j) (24090 + 264 * j) (by omega) (by omega) hroom nn cl sp bn tn g2 ft0 fr rk rp tP sn u0 u1 u2 u3 g0 g1 g3 ma ta co lo gr pd td sc sl sk sq su wx wm H locs ls kk hX hM St (lv_sub hl [0, 1, 2, 3] rfl)
      by_cases w33_15 : y_4 = 15
      ·
        subst w33_15
        refine lv_tableIn (tgt := 645) (off := 612) hx hb dL_law_33 (by decide) (by decide) (by decide) (by decide) ?_
        exact law_case15 hL C0 G k h hm a a2 d d2 i (60 + 4 * j) (24090 + 264 * j) (by omega) (by omega) hroom nn cl sp bn tn g2 ft0 fr rk rp tP sn u0 u1 u2 u3 g0 g1 g3 ma ta co lo gr pd td sc sl sk sq su wx wm H locs ls kk hX hM St (lv_sub hl [0, 1, 2, 3] rfl)
      by_cases w33_16 : y_4 = 16
      ·
        subst w33_16
        refine lv_tableIn (tgt := 678) (off := 645) hx hb dL_law_33 (by decide) (by decide) (by decide) (by decide) ?_
        exact law_case16 hL C0 G k h hm a a2 d d2 i (60 + 4 * j) (24090 + 264 * j) (by omega) (by omega) hroom nn cl sp bn tn g2 ft0 fr rk rp tP sn u0 u1 u2 u3 g0 g1 g3 ma ta co lo gr pd td sc sl sk sq su wx wm H locs ls kk hX hM St (lv_sub hl [0, 1, 2, 3] rfl)
      by_cases w33_17 : y_4 = 17
      ·
        subst w33_17
        refine lv_tableIn (tgt := 691) (off := 658) hx hb dL_law_33 (by decide) (by decide) (by decide) (by decide) ?_
        exact law_case17 hL C0 G k h hm a a2 d d2 i (60 + 4 * j) (24090 + 264 * j) (by omega) (by omega) hroom nn cl sp bn tn g2 ft0 fr rk rp tP sn u0 u1 u2 u3 g0 g1 g3 ma ta co lo gr pd td sc sl sk sq su wx wm H locs ls kk hX hM St (lv_sub hl [0, 1, 2, 3] rfl)
      by_cases w33_18 : y_4 = 18
      ·
        subst w33_18
        refine lv_tableIn (tgt := 724) (off := 691) hx hb dL_law_33 (by decide) (by decide) (by decide) (by decide) ?_
        exact law_case18 hL C0 G k h hm a a2 d d2 i (60 + 4 * j) (24090 + 264 * j) (by omega) (by omega) hroom nn cl sp bn tn g2 ft0 fr rk rp tP sn u0 u1 u2 u3 g0 g1 g3 ma ta co lo gr pd td sc sl sk sq su wx wm H locs ls kk hX hM St (lv_sub hl [0, 1, 2, 3] rfl)
      by_cases w33_19 : y_4 = 19
      ·
        subst w33_19
        refine lv_tableIn (tgt := 747) (off := 714) hx hb dL_law_33 (by decide) (by decide) (by decide) (by decide) ?_
        exact law_case19 hL C0 G k h hm a a2 d d2 i (60 + 4 * j) (24090 + 264 * j) (by omega) (by omega) hroom nn cl sp bn tn g2 ft0 fr rk rp tP sn u0 u1 u2 u3 g0 g1 g3 ma ta co lo gr pd td sc sl sk sq su wx wm H locs ls kk hX hM St (lv_sub hl [0, 1, 2, 3] rfl)
      by_cases w33_20 : y_4 = 20
      ·
        subst w33_20
        refine lv_tableIn (tgt := 770) (off := 737) hx hb dL_law_33 (by decide) (by decide) (by decide) (by decide) ?_
        exact law_case20 hL C0 G k h hm a a2 d d2 i (60 + 4 * j) (24090 + 264 * j) (by omega) (by omega) hroom nn cl sp bn tn g2 ft0 fr rk rp tP sn u0 u1 u2 u3 g0 g1 g3 ma ta co lo gr pd td sc sl sk sq su wx wm H locs ls kk hX hM St (lv_sub hl [0, 1, 2, 3] rfl)
      by_cases w33_21 : y_4 = 21
      ·
        subst w33_21
        refine lv_tableIn (tgt := 793) (off := 760) hx hb dL_law_33 (by decide) (by decide) (by decide) (by decide) ?_
        exact law_case21 hL C0 G k h hm a a2 d d2 i (60 + 4 * j) (24090 + 264 * j) (by omega) (by omega) hroom nn cl sp bn tn g2 ft0 fr rk rp tP sn u0 u1 u2 u3 g0 g1 g3 ma ta co lo gr pd td sc sl sk sq su wx wm H locs ls kk hX hM St (lv_sub hl [0, 1, 2, 3] rfl)
      by_cases w33_22 : y_4 = 22
      ·
        subst w33_22
        refine lv_tableIn (tgt := 806) (off := 773) hx hb dL_law_33 (by decide) (by decide) (by decide) (by decide) ?_
        exact law_case22 hL C0 G k h hm a a2 d d2 i (60 + 4 * j) (24090 + 264 * j) (by omega) (by omega) hroom nn cl sp bn tn g2 ft0 fr rk rp tP sn u0 u1 u2 u3 g0 g1 g3 ma ta co lo gr pd td sc sl sk sq su wx wm H locs ls kk hX hM St (lv_sub hl [0, 1, 2, 3] rfl)
      by_cases w33_23 : y_4 = 23
      ·
        subst w33_23
        refine lv_tableIn (tgt := 829) (off := 796) hx hb dL_law_33 (by decide) (by decide) (by decide) (by decide) ?_
        exact law_case23 hL C0 G k h hm a a2 d d2 i (60 + 4 * j) (24090 + 264 * j) (by omega) (by omega) hroom nn cl sp bn tn g2 ft0 fr rk rp tP sn u0 u1 u2 u3 g0 g1 g3 ma ta co lo gr pd td sc sl sk sq su wx wm H locs ls kk hX hM St (lv_sub hl [0, 1, 2, 3] rfl)
      have iw33_0 := lv_neT w33_0 (show (0 : Int32).toInt = 0 by decide)
      have iw33_1 := lv_neT w33_1 (show (1 : Int32).toInt = 1 by decide)
      have iw33_2 := lv_neT w33_2 (show (2 : Int32).toInt = 2 by decide)
      have iw33_3 := lv_neT w33_3 (show (3 : Int32).toInt = 3 by decide)
      have iw33_4 := lv_neT w33_4 (show (4 : Int32).toInt = 4 by decide)
      have iw33_5 := lv_neT w33_5 (show (5 : Int32).toInt = 5 by decide)
      have iw33_6 := lv_neT w33_6 (show (6 : Int32).toInt = 6 by decide)
      have iw33_7 := lv_neT w33_7 (show (7 : Int32).toInt = 7 by decide)
      have iw33_8 := lv_neT w33_8 (show (8 : Int32).toInt = 8 by decide)
      have iw33_9 := lv_neT w33_9 (show (9 : Int32).toInt = 9 by decide)
      have iw33_10 := lv_neT w33_10 (show (10 : Int32).toInt = 10 by decide)
      have iw33_11 := lv_neT w33_11 (show (11 : Int32).toInt = 11 by decide)
      have iw33_12 := lv_neT w33_12 (show (12 : Int32).toInt = 12 by decide)
      have iw33_13 := lv_neT w33_13 (show (13 : Int32).toInt = 13 by decide)
      have iw33_14 := lv_neT w33_14 (show (14 : Int32).toInt = 14 by decide)
      have iw33_15 := lv_neT w33_15 (show (15 : Int32).toInt = 15 by decide)
      have iw33_16 := lv_neT w33_16 (show (16 : Int32).toInt = 16 by decide)
      have iw33_17 := lv_neT w33_17 (show (17 : Int32).toInt = 17 by decide)
      have iw33_18 := lv_neT w33_18 (show (18 : Int32).toInt = 18 by decide)
      have iw33_19 := lv_neT w33_19 (show (19 : Int32).toInt = 19 by decide)
      have iw33_20 := lv_neT w33_20 (show (20 : Int32).toInt = 20 by decide)
      have iw33_21 := lv_neT w33_21 (show (21 : Int32).toInt = 21 by decide)
      have iw33_22 := lv_neT w33_22 (show (22 : Int32).toInt = 22 by decide)
      have iw33_23 := lv_neT w33_23 (show (23 : Int32).toInt = 23 by decide)
      refine lv_tableOut (tgt := 852) hx hb dL_law_33 (by omega) (by decide) ?_
      refine W.widen (k := (60 + 4 * j) + 4) (n := (24090 + 264 * j) + 264) (by omega) (by omega) ?_
      exact kk nn cl sp bn tn g2 ft0 fr rk rp tP sn u0 u1 u2 u3 g0 g1 g3 ma ta co lo gr pd td sc sl sk sq su wx wm H locs _ hX hM St (lv_sub hl [0, 1, 2, 3] rfl)

