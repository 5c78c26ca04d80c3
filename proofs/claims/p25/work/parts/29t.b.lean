set_option maxHeartbeats 4000000 in
set_option maxRecDepth 100000 in
theorem e1_monthOf (l : Launch) (G : va_G) (k : Nat → Nat) (sz : Nat) (h : Nat) (o0 : Nat) (o1 : Nat) (o2 : Nat) (N0 : Nat) (ci : ClassId) (pg : Int32) (pf : Int32) (pe : Int32) (pz : Int32) (pp : Int32) (pa : Int32) (pl : Int32) (pk : Int32) (pb : Int32) (w0 : Nat → Int32) (w1 : Nat → Int32) (w2 : Nat → Int32) (x : Int32) (hN : (N0 : Int) = pz.toInt) (hN4 : N0 ≤ 84) (hpf : 0 ≤ pf.toInt ∧ pf.toInt ≤ 119 ∧ 1 ≤ pe.toInt ∧ pe.toInt ≤ 12) (hx0 : 0 ≤ x.toInt) (hx1 : x.toInt ≤ 84) : Met l yX1_monthOf (Cond.code yX1_monthOf cX1_monthOf 2 (some .int) :: tb) ({ frames := 0, cells := 0, slots := 0, locals := 0 } : Room) (va_Pc [.ref h, .int x] (cP G k [(qIIIIAAAIIIII h 1 pg pf pe pz o0 o1 o2 pp pa pl pk pb), (qarI o0 ci N0 w0), (qarI o1 ci N0 w1), (qarI o2 ci N0 w2)] [(ci, .int)] sz)) (va_Qi (fun (r : Int32) (_ : Unit) => (r.toInt = mo pf pe x.toNatClampNeg)) (cB G (fun (_ : Unit) => [(qIIIIAAAIIIII h 1 pg pf pe pz o0 o1 o2 pp pa pl pk pb), (qarI o0 ci N0 w0), (qarI o1 ci N0 w1), (qarI o2 ci N0 w2)]) (fun (_ : Unit) => []) (va_A [(qIIIIAAAIIIII h 1 pg pf pe pz o0 o1 o2 pp pa pl pk pb), (qarI o0 ci N0 w0), (qarI o1 ci N0 w1), (qarI o2 ci N0 w2)] sz)) (va_A [(qIIIIAAAIIIII h 1 pg pf pe pz o0 o1 o2 pp pa pl pk pb), (qarI o0 ci N0 w0), (qarI o1 ci N0 w1), (qarI o2 ci N0 w2)] sz)) 0 0 (va_A [(qIIIIAAAIIIII h 1 pg pf pe pz o0 o1 o2 pp pa pl pk pb), (qarI o0 ci N0 w0), (qarI o1 ci N0 w1), (qarI o2 ci N0 w2)] sz) := by
  refine ofC_i (cc := cX1_monthOf) (maxL := 2) (ret := (some .int)) (by decide) rfl (Nat.le_of_ble_eq_true rfl) ?_
  intro p e s m args below meth c A ls Q F hr hin hlk St hl hQ
  have hx := F.1
  have hb := F.2.1
  have hl : lv_has ls 2 [(0, .ref h), (1, .int x)] := hl
  have St : cS G k [(qIIIIAAAIIIII h 1 pg pf pe pz o0 o1 o2 pp pa pl pk pb), (qarI o0 ci N0 w0), (qarI o1 ci N0 w1), (qarI o2 ci N0 w2)] [(ci, .int)] A s s.heap [] := St
  have y0 : (0 : Int32).toInt = 0 := by decide
  refine lv_aload_n hx hb dX1_monthOf_0 rfl (lv_at hl 0 rfl) ?_
  refine cs_get F St 0 rfl rfl inX1 1 (by decide) kf_X1_18 rfl dX1_monthOf_1 ?_
  refine lv_iload_n hx hb dX1_monthOf_4 rfl (lv_at hl 1 rfl) ?_
  refine lv_aload_n hx hb dX1_monthOf_5 rfl (lv_at hl 0 rfl) ?_
  refine cs_get F St 0 rfl rfl inX1 2 (by decide) kf_X1_21 rfl dX1_monthOf_6 ?_
  refine lv_imul hx hb dX1_monthOf_9 ?_
  refine lv_topi (fun y_1 ey_1 => ?_)
  skip
  refine lv_iadd hx hb dX1_monthOf_10 ?_
  refine lv_topi (fun y_2 ey_2 => ?_)
  first | have jy_2 : y_2.toInt = pf.toInt + y_1.toInt := (by have q9 := ci_add (x := pf) (y := y_1) rfl rfl ey_2; omega) | have jy_2 := ci_add (x := pf) (y := y_1) rfl rfl ey_2
  exact cs_iret F hr hlk hQ St () (r := y_2) (mo_of hx0 hx1 hpf ey_1 ey_2) [0, 1, 2, 3] rfl (by decide) [] rfl (by decide) (by decide) dX1_monthOf_11
set_option maxHeartbeats 4000000 in
set_option maxRecDepth 100000 in
theorem e1_overdue (l : Launch) (G : va_G) (k : Nat → Nat) (sz : Nat) (h : Nat) (o0 : Nat) (o1 : Nat) (o2 : Nat) (N0 : Nat) (ci : ClassId) (pg : Int32) (pf : Int32) (pe : Int32) (pz : Int32) (pp : Int32) (pa : Int32) (pl : Int32) (pk : Int32) (pb : Int32) (w0 : Nat → Int32) (w1 : Nat → Int32) (w2 : Nat → Int32) (x : Int32) (hN : (N0 : Int) = pz.toInt) (hN4 : N0 ≤ 84) (hW : wfP pf pe N0 w0 w1 w2) : Met l yX1_overdue (Cond.code yX1_overdue cX1_overdue 4 (some .int) :: tb) ({ frames := 1, cells := 0, slots := 0, locals := 21 } : Room) (va_Pc [.ref h, .int x] (cP G k [(qIIIIAAAIIIII h 1 pg pf pe pz o0 o1 o2 pp pa pl pk pb), (qarI o0 ci N0 w0), (qarI o1 ci N0 w1), (qarI o2 ci N0 w2)] [(ci, .int)] sz)) (va_Qi (fun (r : Int32) (_ : Unit) => (r.toInt = sm (tV pf pe w0 w1 w2 x.toInt) N0)) (cB G (fun (_ : Unit) => [(qIIIIAAAIIIII h 1 pg pf pe pz o0 o1 o2 pp pa pl pk pb), (qarI o0 ci N0 w0), (qarI o1 ci N0 w1), (qarI o2 ci N0 w2)]) (fun (_ : Unit) => []) (va_A [(qIIIIAAAIIIII h 1 pg pf pe pz o0 o1 o2 pp pa pl pk pb), (qarI o0 ci N0 w0), (qarI o1 ci N0 w1), (qarI o2 ci N0 w2)] sz)) (va_A [(qIIIIAAAIIIII h 1 pg pf pe pz o0 o1 o2 pp pa pl pk pb), (qarI o0 ci N0 w0), (qarI o1 ci N0 w1), (qarI o2 ci N0 w2)] sz)) 0 0 (va_A [(qIIIIAAAIIIII h 1 pg pf pe pz o0 o1 o2 pp pa pl pk pb), (qarI o0 ci N0 w0), (qarI o1 ci N0 w1), (qarI o2 ci N0 w2)] sz) := by
  refine ofC_i (cc := cX1_overdue) (maxL := 4) (ret := (some .int)) (by decide) rfl (Nat.le_of_ble_eq_true rfl) ?_
  intro p e s m args below meth c A ls Q F hr hin hlk St hl hQ
  have hx := F.1
  have hb := F.2.1
  have hl : lv_has ls 4 [(0, .ref h), (1, .int x)] := hl
  have St : cS G k [(qIIIIAAAIIIII h 1 pg pf pe pz o0 o1 o2 pp pa pl pk pb), (qarI o0 ci N0 w0), (qarI o1 ci N0 w1), (qarI o2 ci N0 w2)] [(ci, .int)] A s s.heap [] := St
  have y0 : (0 : Int32).toInt = 0 := by decide
  have hpf := hW.1
  skip
  refine lv_iconst (v := 0) hx hb dX1_overdue_0 (by decide) ?_
  refine lv_istore_n (lv' := [(2, .int 0), (0, .ref h), (1, .int x)]) hx hb dX1_overdue_1 rfl hl (by decide) rfl (fun ls hl => ?_)
  refine lv_iconst (v := 0) hx hb dX1_overdue_2 (by decide) ?_
  refine lv_istore_n (lv' := [(3, .int 0), (2, .int 0), (0, .ref h), (1, .int x)]) hx hb dX1_overdue_3 rfl hl (by decide) rfl (fun ls hl => ?_)
  have lp4 : ∀ (n : Nat) (kk : Int32) (nn : Int32) (H : Heap) (locs : List Loc) (ls : Array Slot), ((0 ≤ kk.toInt ∧ kk.toInt ≤ N0) ∧ nn.toInt = sm (tV pf pe w0 w1 w2 x.toInt) kk.toNatClampNeg) → ((85 - kk.toInt).toNat) < n → cS G k [(qIIIIAAAIIIII h 1 pg pf pe pz o0 o1 o2 pp pa pl pk pb), (qarI o0 ci N0 w0), (qarI o1 ci N0 w1), (qarI o2 ci N0 w2)] [(ci, .int)] A s H locs → lv_has ls 4 [(3, .int kk), (2, .int nn), (0, .ref h), (1, .int x)] → W p l e ({ frames := 1, cells := 0, slots := 0, locals := 21 } : Room) s m args below meth c H locs 0 0 Q (F0 m 4 ls []) := by
    intro n
    induction n with
    | zero => intro kk nn H locs ls hI hn; exact absurd hn (Nat.not_lt_zero _)
    | succ n ih =>
      intro kk nn H locs ls hI hn St hl
      obtain ⟨⟨hI0, hI1⟩, hs⟩ := hI
      have nk := nc_int hI0
      have hnb := sm_bd (f := tV pf pe w0 w1 w2 x.toInt) (c := 1) (n := kk.toNatClampNeg) (fun k_ hk_ => by have hq := hW.2 k_ (by omega); unfold tV; split <;> omega)
      rw [← hs] at hnb
      refine lv_iload_n hx hb dX1_overdue_4 rfl (lv_at hl 0 rfl) ?_
      refine lv_aload_n hx hb dX1_overdue_5 rfl (lv_at hl 2 rfl) ?_
      refine cs_get F St 0 rfl rfl inX1 3 (by decide) kf_X1_28 rfl dX1_overdue_6 ?_
      refine lv_icmp_ge (tgt := 54) hx hb dX1_overdue_9 (by decide) (fun c9 => ?_) (fun c9 => ?_)
      ·
        have i9 := ci_le (x := pz) (y := kk) rfl rfl c9
        refine lv_iload_n hx hb dX1_overdue_54 rfl (lv_at hl 1 rfl) ?_
        exact cs_iret F hr hlk hQ St () (r := nn) (sm_at hs (by omega)) [0, 1, 2, 3] rfl (by decide) [] rfl (by decide) (by decide) dX1_overdue_55
      ·
        have i9 := ci_nle (x := pz) (y := kk) rfl rfl c9
        have hk9 := hW.2 kk.toNatClampNeg (by omega)
        refine lv_aload_n hx hb dX1_overdue_12 rfl (lv_at hl 2 rfl) ?_
        refine lv_iload_n hx hb dX1_overdue_13 rfl (lv_at hl 0 rfl) ?_
        refine cs_i St [0, 1, 2, 3] [] (wc := [(qIIIIAAAIIIII h 1 pg pf pe pz o0 o1 o2 pp pa pl pk pb), (qarI o0 ci N0 w0), (qarI o1 ci N0 w1), (qarI o2 ci N0 w2)]) (wr := []) rfl rfl (by decide) (by decide) (va_runV (As := [.int kk]) (rest := []) F (e1_monthOf l G k _ h o0 o1 o2 N0 ci pg pf pe pz pp pa pl pk pb w0 w1 w2 kk (by first | assumption | omega) (by first | assumption | omega) (by omega) (by omega) (by omega)) (cwVt F mf_X1_monthOf km_X1_54 rfl rfl ⟨Nat.le_of_ble_eq_true rfl, Nat.le_of_ble_eq_true rfl⟩) (cs_preV St [0, 1, 2, 3] rfl (by decide) [0] rfl (ci := 1) (q0 := 0) rfl rfl) rfl rfl hl.1 rfl (lv_room (Nat.le_of_ble_eq_true rfl)) dX1_overdue_14 ⟨Nat.le_of_ble_eq_true rfl, Nat.le_of_ble_eq_true rfl⟩) (fun r_1 u_2 H locs hw St => ?_)
        try dsimp only at hw
        have hm_3 := hw
        have St : cS G k [(qIIIIAAAIIIII h 1 pg pf pe pz o0 o1 o2 pp pa pl pk pb), (qarI o0 ci N0 w0), (qarI o1 ci N0 w1), (qarI o2 ci N0 w2)] [(ci, .int)] A s H locs := St
        refine lv_iload_n hx hb dX1_overdue_17 rfl (lv_at hl 3 rfl) ?_
        refine lv_icmp_gt (tgt := 54) hx hb dX1_overdue_18 (by decide) (fun c18 => ?_) (fun c18 => ?_)
        ·
          have i18 := ci_lt (x := x) (y := r_1) rfl rfl c18
          refine lv_iload_n hx hb dX1_overdue_54 rfl (lv_at hl 1 rfl) ?_
          exact cs_iret F hr hlk hQ St () (r := nn) (sm_cut hs (by omega) (fun k_ a_ b_ => by have hq := mo_le (pf := pf) (pe := pe) (by omega) a_; unfold tV; split <;> omega)) [0, 1, 2, 3] rfl (by decide) [] rfl (by decide) (by decide) dX1_overdue_55
        ·
          have i18 := ci_nlt (x := x) (y := r_1) rfl rfl c18
          refine lv_aload_n hx hb dX1_overdue_21 rfl (lv_at hl 2 rfl) ?_
          refine cs_get F St 0 rfl rfl inX1 6 (by decide) kf_X1_38 rfl dX1_overdue_22 ?_
          refine lv_iload_n hx hb dX1_overdue_25 rfl (lv_at hl 0 rfl) ?_
          refine cs_ild F St 3 0 rfl rfl (vp_in_iff.mpr ⟨by omega, by omega⟩) dX1_overdue_26 ?_
          refine lv_topi (fun y_4 ey_4 => ?_)
          have gy_4 := congrArg Int32.toInt ey_4
          refine lv_if_ne (tgt := 48) hx hb dX1_overdue_27 (by decide) (fun c27 => ?_) (fun c27 => ?_)
          ·
            have i27 := ci_ne (x := y_4) (y := 0) rfl (show (0 : Int32).toInt = 0 by decide) c27
            obtain ⟨y_5, ey_5⟩ : ∃ zz : Int32, zz = kk + 1 := ⟨_, rfl⟩
            first | have jy_5 : y_5.toInt = kk.toInt + 1 := (by have q9 := ci_add (x := kk) rfl (show (1 : Int32).toInt = 1 by decide) ey_5; omega) | have jy_5 := ci_add (x := kk) rfl (show (1 : Int32).toInt = 1 by decide) ey_5
            refine lv_iinc (v := y_5) (lv' := [(3, .int y_5), (2, .int nn), (0, .ref h), (1, .int x)]) hx hb dX1_overdue_48 hl (k := 0) rfl (by rw [ey_5]; rfl) (by decide) rfl (fun ls hl => ?_)
            refine lv_goto (tgt := 4) hx hb dX1_overdue_51 (by decide) ?_
            exact ih y_5 nn _ _ _ ⟨⟨by omega, by omega⟩, sm_up hI0 hs (by omega) (by unfold tV; split <;> omega)⟩ (by omega) St (lv_sub hl [0, 1, 2, 3] rfl)
          ·
            have i27 := ci_eq (x := y_4) (y := 0) rfl (show (0 : Int32).toInt = 0 by decide) c27
            refine lv_aload_n hx hb dX1_overdue_30 rfl (lv_at hl 2 rfl) ?_
            refine cs_get F St 0 rfl rfl inX1 5 (by decide) kf_X1_35 rfl dX1_overdue_31 ?_
            refine lv_iload_n hx hb dX1_overdue_34 rfl (lv_at hl 0 rfl) ?_
            refine cs_ild F St 2 0 rfl rfl (vp_in_iff.mpr ⟨by omega, by omega⟩) dX1_overdue_35 ?_
            refine lv_topi (fun y_6 ey_6 => ?_)
            have gy_6 := congrArg Int32.toInt ey_6
            refine lv_aload_n hx hb dX1_overdue_36 rfl (lv_at hl 2 rfl) ?_
            refine cs_get F St 0 rfl rfl inX1 4 (by decide) kf_X1_31 rfl dX1_overdue_37 ?_
            refine lv_iload_n hx hb dX1_overdue_40 rfl (lv_at hl 0 rfl) ?_
            refine cs_ild F St 1 0 rfl rfl (vp_in_iff.mpr ⟨by omega, by omega⟩) dX1_overdue_41 ?_
            refine lv_topi (fun y_7 ey_7 => ?_)
            have gy_7 := congrArg Int32.toInt ey_7
            refine lv_icmp_ge (tgt := 48) hx hb dX1_overdue_42 (by decide) (fun c42 => ?_) (fun c42 => ?_)
            ·
              have i42 := ci_le (x := y_7) (y := y_6) rfl rfl c42
              obtain ⟨y_8, ey_8⟩ : ∃ zz : Int32, zz = kk + 1 := ⟨_, rfl⟩
              first | have jy_8 : y_8.toInt = kk.toInt + 1 := (by have q9 := ci_add (x := kk) rfl (show (1 : Int32).toInt = 1 by decide) ey_8; omega) | have jy_8 := ci_add (x := kk) rfl (show (1 : Int32).toInt = 1 by decide) ey_8
              refine lv_iinc (v := y_8) (lv' := [(3, .int y_8), (2, .int nn), (0, .ref h), (1, .int x)]) hx hb dX1_overdue_48 hl (k := 0) rfl (by rw [ey_8]; rfl) (by decide) rfl (fun ls hl => ?_)
              refine lv_goto (tgt := 4) hx hb dX1_overdue_51 (by decide) ?_
              exact ih y_8 nn _ _ _ ⟨⟨by omega, by omega⟩, sm_up hI0 hs (by omega) (by unfold tV; split <;> omega)⟩ (by omega) St (lv_sub hl [0, 1, 2, 3] rfl)
            ·
              have i42 := ci_nle (x := y_7) (y := y_6) rfl rfl c42
              obtain ⟨y_9, ey_9⟩ : ∃ zz : Int32, zz = nn + 1 := ⟨_, rfl⟩
              first | have jy_9 : y_9.toInt = nn.toInt + 1 := (by have q9 := ci_add (x := nn) rfl (show (1 : Int32).toInt = 1 by decide) ey_9; omega) | have jy_9 := ci_add (x := nn) rfl (show (1 : Int32).toInt = 1 by decide) ey_9
              refine lv_iinc (v := y_9) (lv' := [(2, .int y_9), (3, .int kk), (0, .ref h), (1, .int x)]) hx hb dX1_overdue_45 hl (k := 1) rfl (by rw [ey_9]; rfl) (by decide) rfl (fun ls hl => ?_)
              obtain ⟨y_10, ey_10⟩ : ∃ zz : Int32, zz = kk + 1 := ⟨_, rfl⟩
              first | have jy_10 : y_10.toInt = kk.toInt + 1 := (by have q9 := ci_add (x := kk) rfl (show (1 : Int32).toInt = 1 by decide) ey_10; omega) | have jy_10 := ci_add (x := kk) rfl (show (1 : Int32).toInt = 1 by decide) ey_10
              refine lv_iinc (v := y_10) (lv' := [(3, .int y_10), (2, .int y_9), (0, .ref h), (1, .int x)]) hx hb dX1_overdue_48 hl (k := 1) rfl (by rw [ey_10]; rfl) (by decide) rfl (fun ls hl => ?_)
              refine lv_goto (tgt := 4) hx hb dX1_overdue_51 (by decide) ?_
              exact ih y_10 y_9 _ _ _ ⟨⟨by omega, by omega⟩, sm_up hI0 hs (by omega) (by unfold tV; split <;> omega)⟩ (by omega) St (lv_sub hl [0, 1, 2, 3] rfl)
  exact lp4 86 0 0 _ _ _ ⟨⟨by omega, by omega⟩, by rw [y0]; rfl⟩ (by omega) St (lv_sub hl [0, 1, 2, 3] rfl)
set_option maxHeartbeats 4000000 in
set_option maxRecDepth 100000 in
theorem e1_unfilledWithin (l : Launch) (G : va_G) (k : Nat → Nat) (sz : Nat) (h : Nat) (o0 : Nat) (o1 : Nat) (o2 : Nat) (N0 : Nat) (ci : ClassId) (pg : Int32) (pf : Int32) (pe : Int32) (pz : Int32) (pp : Int32) (pa : Int32) (pl : Int32) (pk : Int32) (pb : Int32) (w0 : Nat → Int32) (w1 : Nat → Int32) (w2 : Nat → Int32) (x : Int32) (y : Int32) (hN : (N0 : Int) = pz.toInt) (hN4 : N0 ≤ 84) (hW : wfP pf pe N0 w0 w1 w2) : Met l yX1_unfilledWithin (Cond.code yX1_unfilledWithin cX1_unfilledWithin 5 (some .int) :: tb) ({ frames := 1, cells := 0, slots := 0, locals := 21 } : Room) (va_Pc [.ref h, .int x, .int y] (cP G k [(qIIIIAAAIIIII h 1 pg pf pe pz o0 o1 o2 pp pa pl pk pb), (qarI o0 ci N0 w0), (qarI o1 ci N0 w1), (qarI o2 ci N0 w2)] [(ci, .int)] sz)) (va_Qi (fun (r : Int32) (_ : Unit) => (r.toInt = sm (tW pf pe w0 w1 w2 x.toInt y.toInt) N0)) (cB G (fun (_ : Unit) => [(qIIIIAAAIIIII h 1 pg pf pe pz o0 o1 o2 pp pa pl pk pb), (qarI o0 ci N0 w0), (qarI o1 ci N0 w1), (qarI o2 ci N0 w2)]) (fun (_ : Unit) => []) (va_A [(qIIIIAAAIIIII h 1 pg pf pe pz o0 o1 o2 pp pa pl pk pb), (qarI o0 ci N0 w0), (qarI o1 ci N0 w1), (qarI o2 ci N0 w2)] sz)) (va_A [(qIIIIAAAIIIII h 1 pg pf pe pz o0 o1 o2 pp pa pl pk pb), (qarI o0 ci N0 w0), (qarI o1 ci N0 w1), (qarI o2 ci N0 w2)] sz)) 0 0 (va_A [(qIIIIAAAIIIII h 1 pg pf pe pz o0 o1 o2 pp pa pl pk pb), (qarI o0 ci N0 w0), (qarI o1 ci N0 w1), (qarI o2 ci N0 w2)] sz) := by
  refine ofC_i (cc := cX1_unfilledWithin) (maxL := 5) (ret := (some .int)) (by decide) rfl (Nat.le_of_ble_eq_true rfl) ?_
  intro p e s m args below meth c A ls Q F hr hin hlk St hl hQ
  have hx := F.1
  have hb := F.2.1
  have hl : lv_has ls 5 [(0, .ref h), (1, .int x), (2, .int y)] := hl
  have St : cS G k [(qIIIIAAAIIIII h 1 pg pf pe pz o0 o1 o2 pp pa pl pk pb), (qarI o0 ci N0 w0), (qarI o1 ci N0 w1), (qarI o2 ci N0 w2)] [(ci, .int)] A s s.heap [] := St
  have y0 : (0 : Int32).toInt = 0 := by decide
  have hpf := hW.1
  skip
  refine lv_iconst (v := 0) hx hb dX1_unfilledWithin_0 (by decide) ?_
  refine lv_istore_n (lv' := [(3, .int 0), (0, .ref h), (1, .int x), (2, .int y)]) hx hb dX1_unfilledWithin_1 rfl hl (by decide) rfl (fun ls hl => ?_)
  refine lv_iconst (v := 0) hx hb dX1_unfilledWithin_2 (by decide) ?_
  refine lv_istore (lv' := [(4, .int 0), (3, .int 0), (0, .ref h), (1, .int x), (2, .int y)]) hx hb dX1_unfilledWithin_3 hl (by decide) rfl (fun ls hl => ?_)
  have lp5 : ∀ (n : Nat) (kk : Int32) (nn : Int32) (H : Heap) (locs : List Loc) (ls : Array Slot), ((0 ≤ kk.toInt ∧ kk.toInt ≤ N0) ∧ nn.toInt = sm (tW pf pe w0 w1 w2 x.toInt y.toInt) kk.toNatClampNeg) → ((85 - kk.toInt).toNat) < n → cS G k [(qIIIIAAAIIIII h 1 pg pf pe pz o0 o1 o2 pp pa pl pk pb), (qarI o0 ci N0 w0), (qarI o1 ci N0 w1), (qarI o2 ci N0 w2)] [(ci, .int)] A s H locs → lv_has ls 5 [(4, .int kk), (3, .int nn), (0, .ref h), (1, .int x), (2, .int y)] → W p l e ({ frames := 1, cells := 0, slots := 0, locals := 21 } : Room) s m args below meth c H locs 0 0 Q (F0 m 5 ls []) := by
    intro n
    induction n with
    | zero => intro kk nn H locs ls hI hn; exact absurd hn (Nat.not_lt_zero _)
    | succ n ih =>
      intro kk nn H locs ls hI hn St hl
      obtain ⟨⟨hI0, hI1⟩, hs⟩ := hI
      have nk := nc_int hI0
      have hnb := sm_bd (f := tW pf pe w0 w1 w2 x.toInt y.toInt) (c := 100000) (n := kk.toNatClampNeg) (fun k_ hk_ => by have hq := hW.2 k_ (by omega); unfold tW; split <;> omega)
      rw [← hs] at hnb
      refine lv_iload hx hb dX1_unfilledWithin_5 (lv_at hl 0 rfl) ?_
      refine lv_aload_n hx hb dX1_unfilledWithin_7 rfl (lv_at hl 2 rfl) ?_
      refine cs_get F St 0 rfl rfl inX1 3 (by decide) kf_X1_28 rfl dX1_unfilledWithin_8 ?_
      refine lv_icmp_ge (tgt := 68) hx hb dX1_unfilledWithin_11 (by decide) (fun c11 => ?_) (fun c11 => ?_)
      ·
        have i11 := ci_le (x := pz) (y := kk) rfl rfl c11
        refine lv_iload_n hx hb dX1_unfilledWithin_68 rfl (lv_at hl 1 rfl) ?_
        exact cs_iret F hr hlk hQ St () (r := nn) (sm_at hs (by omega)) [0, 1, 2, 3] rfl (by decide) [] rfl (by decide) (by decide) dX1_unfilledWithin_69
      ·
        have i11 := ci_nle (x := pz) (y := kk) rfl rfl c11
        have hk9 := hW.2 kk.toNatClampNeg (by omega)
        refine lv_aload_n hx hb dX1_unfilledWithin_14 rfl (lv_at hl 2 rfl) ?_
        refine lv_iload hx hb dX1_unfilledWithin_15 (lv_at hl 0 rfl) ?_
        refine cs_i St [0, 1, 2, 3] [] (wc := [(qIIIIAAAIIIII h 1 pg pf pe pz o0 o1 o2 pp pa pl pk pb), (qarI o0 ci N0 w0), (qarI o1 ci N0 w1), (qarI o2 ci N0 w2)]) (wr := []) rfl rfl (by decide) (by decide) (va_runV (As := [.int kk]) (rest := []) F (e1_monthOf l G k _ h o0 o1 o2 N0 ci pg pf pe pz pp pa pl pk pb w0 w1 w2 kk (by first | assumption | omega) (by first | assumption | omega) (by omega) (by omega) (by omega)) (cwVt F mf_X1_monthOf km_X1_54 rfl rfl ⟨Nat.le_of_ble_eq_true rfl, Nat.le_of_ble_eq_true rfl⟩) (cs_preV St [0, 1, 2, 3] rfl (by decide) [0] rfl (ci := 1) (q0 := 0) rfl rfl) rfl rfl hl.1 rfl (lv_room (Nat.le_of_ble_eq_true rfl)) dX1_unfilledWithin_17 ⟨Nat.le_of_ble_eq_true rfl, Nat.le_of_ble_eq_true rfl⟩) (fun r_1 u_2 H locs hw St => ?_)
        try dsimp only at hw
        have hm_3 := hw
        have St : cS G k [(qIIIIAAAIIIII h 1 pg pf pe pz o0 o1 o2 pp pa pl pk pb), (qarI o0 ci N0 w0), (qarI o1 ci N0 w1), (qarI o2 ci N0 w2)] [(ci, .int)] A s H locs := St
        refine lv_iload_n hx hb dX1_unfilledWithin_20 rfl (lv_at hl 4 rfl) ?_
        refine lv_icmp_gt (tgt := 68) hx hb dX1_unfilledWithin_21 (by decide) (fun c21 => ?_) (fun c21 => ?_)
        ·
          have i21 := ci_lt (x := y) (y := r_1) rfl rfl c21
          refine lv_iload_n hx hb dX1_unfilledWithin_68 rfl (lv_at hl 1 rfl) ?_
          exact cs_iret F hr hlk hQ St () (r := nn) (sm_cut hs (by omega) (fun k_ a_ b_ => by have hq := mo_le (pf := pf) (pe := pe) (by omega) a_; unfold tW; split <;> omega)) [0, 1, 2, 3] rfl (by decide) [] rfl (by decide) (by decide) dX1_unfilledWithin_69
        ·
          have i21 := ci_nlt (x := y) (y := r_1) rfl rfl c21
          refine lv_aload_n hx hb dX1_unfilledWithin_24 rfl (lv_at hl 2 rfl) ?_
          refine lv_iload hx hb dX1_unfilledWithin_25 (lv_at hl 0 rfl) ?_
          refine cs_i St [0, 1, 2, 3] [] (wc := [(qIIIIAAAIIIII h 1 pg pf pe pz o0 o1 o2 pp pa pl pk pb), (qarI o0 ci N0 w0), (qarI o1 ci N0 w1), (qarI o2 ci N0 w2)]) (wr := []) rfl rfl (by decide) (by decide) (va_runV (As := [.int kk]) (rest := []) F (e1_monthOf l G k _ h o0 o1 o2 N0 ci pg pf pe pz pp pa pl pk pb w0 w1 w2 kk (by first | assumption | omega) (by first | assumption | omega) (by omega) (by omega) (by omega)) (cwVt F mf_X1_monthOf km_X1_54 rfl rfl ⟨Nat.le_of_ble_eq_true rfl, Nat.le_of_ble_eq_true rfl⟩) (cs_preV St [0, 1, 2, 3] rfl (by decide) [0] rfl (ci := 1) (q0 := 0) rfl rfl) rfl rfl hl.1 rfl (lv_room (Nat.le_of_ble_eq_true rfl)) dX1_unfilledWithin_27 ⟨Nat.le_of_ble_eq_true rfl, Nat.le_of_ble_eq_true rfl⟩) (fun r_4 u_5 H locs hw St => ?_)
          try dsimp only at hw
          have hm_6 := hw
          have St : cS G k [(qIIIIAAAIIIII h 1 pg pf pe pz o0 o1 o2 pp pa pl pk pb), (qarI o0 ci N0 w0), (qarI o1 ci N0 w1), (qarI o2 ci N0 w2)] [(ci, .int)] A s H locs := St
          refine lv_iload_n hx hb dX1_unfilledWithin_30 rfl (lv_at hl 3 rfl) ?_
          refine lv_icmp_lt (tgt := 62) hx hb dX1_unfilledWithin_31 (by decide) (fun c31 => ?_) (fun c31 => ?_)
          ·
            have i31 := ci_lt (x := r_4) (y := x) rfl rfl c31
            obtain ⟨y_7, ey_7⟩ : ∃ zz : Int32, zz = kk + 1 := ⟨_, rfl⟩
            first | have jy_7 : y_7.toInt = kk.toInt + 1 := (by have q9 := ci_add (x := kk) rfl (show (1 : Int32).toInt = 1 by decide) ey_7; omega) | have jy_7 := ci_add (x := kk) rfl (show (1 : Int32).toInt = 1 by decide) ey_7
            refine lv_iinc (v := y_7) (lv' := [(4, .int y_7), (3, .int nn), (0, .ref h), (1, .int x), (2, .int y)]) hx hb dX1_unfilledWithin_62 hl (k := 0) rfl (by rw [ey_7]; rfl) (by decide) rfl (fun ls hl => ?_)
            refine lv_goto (tgt := 5) hx hb dX1_unfilledWithin_65 (by decide) ?_
            exact ih y_7 nn _ _ _ ⟨⟨by omega, by omega⟩, sm_up hI0 hs (by omega) (by unfold tW; split <;> omega)⟩ (by omega) St (lv_sub hl [0, 1, 2, 3, 4] rfl)
          ·
            have i31 := ci_nlt (x := r_4) (y := x) rfl rfl c31
            refine lv_aload_n hx hb dX1_unfilledWithin_34 rfl (lv_at hl 2 rfl) ?_
            refine cs_get F St 0 rfl rfl inX1 6 (by decide) kf_X1_38 rfl dX1_unfilledWithin_35 ?_
            refine lv_iload hx hb dX1_unfilledWithin_38 (lv_at hl 0 rfl) ?_
            refine cs_ild F St 3 0 rfl rfl (vp_in_iff.mpr ⟨by omega, by omega⟩) dX1_unfilledWithin_40 ?_
            refine lv_topi (fun y_8 ey_8 => ?_)
            have gy_8 := congrArg Int32.toInt ey_8
            refine lv_if_ne (tgt := 62) hx hb dX1_unfilledWithin_41 (by decide) (fun c41 => ?_) (fun c41 => ?_)
            ·
              have i41 := ci_ne (x := y_8) (y := 0) rfl (show (0 : Int32).toInt = 0 by decide) c41
              obtain ⟨y_9, ey_9⟩ : ∃ zz : Int32, zz = kk + 1 := ⟨_, rfl⟩
              first | have jy_9 : y_9.toInt = kk.toInt + 1 := (by have q9 := ci_add (x := kk) rfl (show (1 : Int32).toInt = 1 by decide) ey_9; omega) | have jy_9 := ci_add (x := kk) rfl (show (1 : Int32).toInt = 1 by decide) ey_9
              refine lv_iinc (v := y_9) (lv' := [(4, .int y_9), (3, .int nn), (0, .ref h), (1, .int x), (2, .int y)]) hx hb dX1_unfilledWithin_62 hl (k := 0) rfl (by rw [ey_9]; rfl) (by decide) rfl (fun ls hl => ?_)
              refine lv_goto (tgt := 5) hx hb dX1_unfilledWithin_65 (by decide) ?_
              exact ih y_9 nn _ _ _ ⟨⟨by omega, by omega⟩, sm_up hI0 hs (by omega) (by unfold tW; split <;> omega)⟩ (by omega) St (lv_sub hl [0, 1, 2, 3, 4] rfl)
            ·
              have i41 := ci_eq (x := y_8) (y := 0) rfl (show (0 : Int32).toInt = 0 by decide) c41
              refine lv_iload_n hx hb dX1_unfilledWithin_44 rfl (lv_at hl 1 rfl) ?_
              refine lv_aload_n hx hb dX1_unfilledWithin_45 rfl (lv_at hl 2 rfl) ?_
              refine cs_get F St 0 rfl rfl inX1 4 (by decide) kf_X1_31 rfl dX1_unfilledWithin_46 ?_
              refine lv_iload hx hb dX1_unfilledWithin_49 (lv_at hl 0 rfl) ?_
              refine cs_ild F St 1 0 rfl rfl (vp_in_iff.mpr ⟨by omega, by omega⟩) dX1_unfilledWithin_51 ?_
              refine lv_topi (fun y_10 ey_10 => ?_)
              have gy_10 := congrArg Int32.toInt ey_10
              refine lv_aload_n hx hb dX1_unfilledWithin_52 rfl (lv_at hl 2 rfl) ?_
              refine cs_get F St 0 rfl rfl inX1 5 (by decide) kf_X1_35 rfl dX1_unfilledWithin_53 ?_
              refine lv_iload hx hb dX1_unfilledWithin_56 (lv_at hl 0 rfl) ?_
              refine cs_ild F St 2 0 rfl rfl (vp_in_iff.mpr ⟨by omega, by omega⟩) dX1_unfilledWithin_58 ?_
              refine lv_topi (fun y_11 ey_11 => ?_)
              have gy_11 := congrArg Int32.toInt ey_11
              refine lv_isub hx hb dX1_unfilledWithin_59 ?_
              refine lv_topi (fun y_12 ey_12 => ?_)
              first | have jy_12 : y_12.toInt = y_10.toInt - y_11.toInt := (by have q9 := ci_sub (x := y_10) (y := y_11) rfl rfl ey_12; omega) | have jy_12 := ci_sub (x := y_10) (y := y_11) rfl rfl ey_12
              refine lv_iadd hx hb dX1_unfilledWithin_60 ?_
              refine lv_topi (fun y_13 ey_13 => ?_)
              first | have jy_13 : y_13.toInt = nn.toInt + y_12.toInt := (by have q9 := ci_add (x := nn) (y := y_12) rfl rfl ey_13; omega) | have jy_13 := ci_add (x := nn) (y := y_12) rfl rfl ey_13
              refine lv_istore_n (lv' := [(3, .int y_13), (4, .int kk), (0, .ref h), (1, .int x), (2, .int y)]) hx hb dX1_unfilledWithin_61 rfl hl (by decide) rfl (fun ls hl => ?_)
              obtain ⟨y_14, ey_14⟩ : ∃ zz : Int32, zz = kk + 1 := ⟨_, rfl⟩
              first | have jy_14 : y_14.toInt = kk.toInt + 1 := (by have q9 := ci_add (x := kk) rfl (show (1 : Int32).toInt = 1 by decide) ey_14; omega) | have jy_14 := ci_add (x := kk) rfl (show (1 : Int32).toInt = 1 by decide) ey_14
              refine lv_iinc (v := y_14) (lv' := [(4, .int y_14), (3, .int y_13), (0, .ref h), (1, .int x), (2, .int y)]) hx hb dX1_unfilledWithin_62 hl (k := 1) rfl (by rw [ey_14]; rfl) (by decide) rfl (fun ls hl => ?_)
              refine lv_goto (tgt := 5) hx hb dX1_unfilledWithin_65 (by decide) ?_
              exact ih y_14 y_13 _ _ _ ⟨⟨by omega, by omega⟩, sm_up hI0 hs (by omega) (by unfold tW; split <;> omega)⟩ (by omega) St (lv_sub hl [0, 1, 2, 3, 4] rfl)
  exact lp5 86 0 0 _ _ _ ⟨⟨by omega, by omega⟩, by rw [y0]; rfl⟩ (by omega) St (lv_sub hl [0, 1, 2, 3, 4] rfl)
set_option maxHeartbeats 4000000 in
set_option maxRecDepth 100000 in
theorem e1_unfilled (l : Launch) (G : va_G) (k : Nat → Nat) (sz : Nat) (h : Nat) (o0 : Nat) (o1 : Nat) (o2 : Nat) (N0 : Nat) (ci : ClassId) (pg : Int32) (pf : Int32) (pe : Int32) (pz : Int32) (pp : Int32) (pa : Int32) (pl : Int32) (pk : Int32) (pb : Int32) (w0 : Nat → Int32) (w1 : Nat → Int32) (w2 : Nat → Int32) (hN : (N0 : Int) = pz.toInt) (hN4 : N0 ≤ 84) (hW : wfP pf pe N0 w0 w1 w2) : Met l yX1_unfilled (Cond.code yX1_unfilled cX1_unfilled 1 (some .int) :: tb) ({ frames := 2, cells := 0, slots := 0, locals := 45 } : Room) (va_Pc [.ref h] (cP G k [(qIIIIAAAIIIII h 1 pg pf pe pz o0 o1 o2 pp pa pl pk pb), (qarI o0 ci N0 w0), (qarI o1 ci N0 w1), (qarI o2 ci N0 w2)] [(ci, .int)] sz)) (va_Qi (fun (r : Int32) (_ : Unit) => (r.toInt = sm (tO w0 w1 w2) N0)) (cB G (fun (_ : Unit) => [(qIIIIAAAIIIII h 1 pg pf pe pz o0 o1 o2 pp pa pl pk pb), (qarI o0 ci N0 w0), (qarI o1 ci N0 w1), (qarI o2 ci N0 w2)]) (fun (_ : Unit) => []) (va_A [(qIIIIAAAIIIII h 1 pg pf pe pz o0 o1 o2 pp pa pl pk pb), (qarI o0 ci N0 w0), (qarI o1 ci N0 w1), (qarI o2 ci N0 w2)] sz)) (va_A [(qIIIIAAAIIIII h 1 pg pf pe pz o0 o1 o2 pp pa pl pk pb), (qarI o0 ci N0 w0), (qarI o1 ci N0 w1), (qarI o2 ci N0 w2)] sz)) 0 0 (va_A [(qIIIIAAAIIIII h 1 pg pf pe pz o0 o1 o2 pp pa pl pk pb), (qarI o0 ci N0 w0), (qarI o1 ci N0 w1), (qarI o2 ci N0 w2)] sz) := by
  refine ofC_i (cc := cX1_unfilled) (maxL := 1) (ret := (some .int)) (by decide) rfl (Nat.le_of_ble_eq_true rfl) ?_
  intro p e s m args below meth c A ls Q F hr hin hlk St hl hQ
  have hx := F.1
  have hb := F.2.1
  have hl : lv_has ls 1 [(0, .ref h)] := hl
  have St : cS G k [(qIIIIAAAIIIII h 1 pg pf pe pz o0 o1 o2 pp pa pl pk pb), (qarI o0 ci N0 w0), (qarI o1 ci N0 w1), (qarI o2 ci N0 w2)] [(ci, .int)] A s s.heap [] := St
  have y0 : (0 : Int32).toInt = 0 := by decide
  have hpf := hW.1
  have y9 : (119 : Int32).toInt = 119 := by decide
  skip
  refine lv_aload_n hx hb dX1_unfilled_0 rfl (lv_at hl 0 rfl) ?_
  refine lv_iconst (v := 0) hx hb dX1_unfilled_1 (by decide) ?_
  refine lv_bipush (v := 119) hx hb dX1_unfilled_2 (by decide) ?_
  refine cs_i St [0, 1, 2, 3] [] (wc := [(qIIIIAAAIIIII h 1 pg pf pe pz o0 o1 o2 pp pa pl pk pb), (qarI o0 ci N0 w0), (qarI o1 ci N0 w1), (qarI o2 ci N0 w2)]) (wr := []) rfl rfl (by decide) (by decide) (va_runV (As := [.int 0, .int 119]) (rest := []) F (e1_unfilledWithin l G k _ h o0 o1 o2 N0 ci pg pf pe pz pp pa pl pk pb w0 w1 w2 0 119 (by first | assumption | omega) (by first | assumption | omega) hW) (cwVt F mf_X1_unfilledWithin km_X1_58 rfl rfl ⟨Nat.le_of_ble_eq_true rfl, Nat.le_of_ble_eq_true rfl⟩) (cs_preV St [0, 1, 2, 3] rfl (by decide) [0] rfl (ci := 1) (q0 := 0) rfl rfl) rfl rfl hl.1 rfl (lv_room (Nat.le_of_ble_eq_true rfl)) dX1_unfilled_4 ⟨Nat.le_of_ble_eq_true rfl, Nat.le_of_ble_eq_true rfl⟩) (fun r_1 u_2 H locs hw St => ?_)
  try dsimp only at hw
  have hv_3 := hw
  have St : cS G k [(qIIIIAAAIIIII h 1 pg pf pe pz o0 o1 o2 pp pa pl pk pb), (qarI o0 ci N0 w0), (qarI o1 ci N0 w1), (qarI o2 ci N0 w2)] [(ci, .int)] A s H locs := St
  exact cs_iret F hr hlk hQ St () (r := r_1) (hv_3.trans (sm_c (fun k_ hk_ => by have hq := hW.2 k_ hk_; have hg := mo_ge (pf := pf) (pe := pe) (k := k_) (by omega) (by omega); unfold tW tO; split <;> split <;> omega))) [0, 1, 2, 3] rfl (by decide) [] rfl (by decide) (by decide) dX1_unfilled_7
set_option maxHeartbeats 4000000 in
set_option maxRecDepth 100000 in
theorem e1_duesToCome (l : Launch) (G : va_G) (k : Nat → Nat) (sz : Nat) (h : Nat) (o0 : Nat) (o1 : Nat) (o2 : Nat) (N0 : Nat) (ci : ClassId) (pg : Int32) (pf : Int32) (pe : Int32) (pz : Int32) (pp : Int32) (pa : Int32) (pl : Int32) (pk : Int32) (pb : Int32) (w0 : Nat → Int32) (w1 : Nat → Int32) (w2 : Nat → Int32) (x : Int32) (hN : (N0 : Int) = pz.toInt) (hN4 : N0 ≤ 84) (hW : wfP pf pe N0 w0 w1 w2) : Met l yX1_duesToCome (Cond.code yX1_duesToCome cX1_duesToCome 4 (some .int) :: tb) ({ frames := 1, cells := 0, slots := 0, locals := 21 } : Room) (va_Pc [.ref h, .int x] (cP G k [(qIIIIAAAIIIII h 1 pg pf pe pz o0 o1 o2 pp pa pl pk pb), (qarI o0 ci N0 w0), (qarI o1 ci N0 w1), (qarI o2 ci N0 w2)] [(ci, .int)] sz)) (va_Qi (fun (r : Int32) (_ : Unit) => (r.toInt = sm (tC pf pe w2 x.toInt) N0)) (cB G (fun (_ : Unit) => [(qIIIIAAAIIIII h 1 pg pf pe pz o0 o1 o2 pp pa pl pk pb), (qarI o0 ci N0 w0), (qarI o1 ci N0 w1), (qarI o2 ci N0 w2)]) (fun (_ : Unit) => []) (va_A [(qIIIIAAAIIIII h 1 pg pf pe pz o0 o1 o2 pp pa pl pk pb), (qarI o0 ci N0 w0), (qarI o1 ci N0 w1), (qarI o2 ci N0 w2)] sz)) (va_A [(qIIIIAAAIIIII h 1 pg pf pe pz o0 o1 o2 pp pa pl pk pb), (qarI o0 ci N0 w0), (qarI o1 ci N0 w1), (qarI o2 ci N0 w2)] sz)) 0 0 (va_A [(qIIIIAAAIIIII h 1 pg pf pe pz o0 o1 o2 pp pa pl pk pb), (qarI o0 ci N0 w0), (qarI o1 ci N0 w1), (qarI o2 ci N0 w2)] sz) := by
  refine ofC_i (cc := cX1_duesToCome) (maxL := 4) (ret := (some .int)) (by decide) rfl (Nat.le_of_ble_eq_true rfl) ?_
  intro p e s m args below meth c A ls Q F hr hin hlk St hl hQ
  have hx := F.1
  have hb := F.2.1
  have hl : lv_has ls 4 [(0, .ref h), (1, .int x)] := hl
  have St : cS G k [(qIIIIAAAIIIII h 1 pg pf pe pz o0 o1 o2 pp pa pl pk pb), (qarI o0 ci N0 w0), (qarI o1 ci N0 w1), (qarI o2 ci N0 w2)] [(ci, .int)] A s s.heap [] := St
  have y0 : (0 : Int32).toInt = 0 := by decide
  have hpf := hW.1
  skip
  refine lv_iconst (v := 0) hx hb dX1_duesToCome_0 (by decide) ?_
  refine lv_istore_n (lv' := [(2, .int 0), (0, .ref h), (1, .int x)]) hx hb dX1_duesToCome_1 rfl hl (by decide) rfl (fun ls hl => ?_)
  refine lv_iconst (v := 0) hx hb dX1_duesToCome_2 (by decide) ?_
  refine lv_istore_n (lv' := [(3, .int 0), (2, .int 0), (0, .ref h), (1, .int x)]) hx hb dX1_duesToCome_3 rfl hl (by decide) rfl (fun ls hl => ?_)
  have lp4 : ∀ (n : Nat) (kk : Int32) (nn : Int32) (H : Heap) (locs : List Loc) (ls : Array Slot), ((0 ≤ kk.toInt ∧ kk.toInt ≤ N0) ∧ nn.toInt = sm (tC pf pe w2 x.toInt) kk.toNatClampNeg) → ((85 - kk.toInt).toNat) < n → cS G k [(qIIIIAAAIIIII h 1 pg pf pe pz o0 o1 o2 pp pa pl pk pb), (qarI o0 ci N0 w0), (qarI o1 ci N0 w1), (qarI o2 ci N0 w2)] [(ci, .int)] A s H locs → lv_has ls 4 [(3, .int kk), (2, .int nn), (0, .ref h), (1, .int x)] → W p l e ({ frames := 1, cells := 0, slots := 0, locals := 21 } : Room) s m args below meth c H locs 0 0 Q (F0 m 4 ls []) := by
    intro n
    induction n with
    | zero => intro kk nn H locs ls hI hn; exact absurd hn (Nat.not_lt_zero _)
    | succ n ih =>
      intro kk nn H locs ls hI hn St hl
      obtain ⟨⟨hI0, hI1⟩, hs⟩ := hI
      have nk := nc_int hI0
      have hnb := sm_bd (f := tC pf pe w2 x.toInt) (c := 1) (n := kk.toNatClampNeg) (fun k_ hk_ => by have hq := hW.2 k_ (by omega); unfold tC; split <;> omega)
      rw [← hs] at hnb
      refine lv_iload_n hx hb dX1_duesToCome_4 rfl (lv_at hl 0 rfl) ?_
      refine lv_aload_n hx hb dX1_duesToCome_5 rfl (lv_at hl 2 rfl) ?_
      refine cs_get F St 0 rfl rfl inX1 3 (by decide) kf_X1_28 rfl dX1_duesToCome_6 ?_
      refine lv_icmp_ge (tgt := 39) hx hb dX1_duesToCome_9 (by decide) (fun c9 => ?_) (fun c9 => ?_)
      ·
        have i9 := ci_le (x := pz) (y := kk) rfl rfl c9
        refine lv_iload_n hx hb dX1_duesToCome_39 rfl (lv_at hl 1 rfl) ?_
        exact cs_iret F hr hlk hQ St () (r := nn) (sm_at hs (by omega)) [0, 1, 2, 3] rfl (by decide) [] rfl (by decide) (by decide) dX1_duesToCome_40
      ·
        have i9 := ci_nle (x := pz) (y := kk) rfl rfl c9
        have hk9 := hW.2 kk.toNatClampNeg (by omega)
        refine lv_aload_n hx hb dX1_duesToCome_12 rfl (lv_at hl 2 rfl) ?_
        refine lv_iload_n hx hb dX1_duesToCome_13 rfl (lv_at hl 0 rfl) ?_
        refine cs_i St [0, 1, 2, 3] [] (wc := [(qIIIIAAAIIIII h 1 pg pf pe pz o0 o1 o2 pp pa pl pk pb), (qarI o0 ci N0 w0), (qarI o1 ci N0 w1), (qarI o2 ci N0 w2)]) (wr := []) rfl rfl (by decide) (by decide) (va_runV (As := [.int kk]) (rest := []) F (e1_monthOf l G k _ h o0 o1 o2 N0 ci pg pf pe pz pp pa pl pk pb w0 w1 w2 kk (by first | assumption | omega) (by first | assumption | omega) (by omega) (by omega) (by omega)) (cwVt F mf_X1_monthOf km_X1_54 rfl rfl ⟨Nat.le_of_ble_eq_true rfl, Nat.le_of_ble_eq_true rfl⟩) (cs_preV St [0, 1, 2, 3] rfl (by decide) [0] rfl (ci := 1) (q0 := 0) rfl rfl) rfl rfl hl.1 rfl (lv_room (Nat.le_of_ble_eq_true rfl)) dX1_duesToCome_14 ⟨Nat.le_of_ble_eq_true rfl, Nat.le_of_ble_eq_true rfl⟩) (fun r_1 u_2 H locs hw St => ?_)
        try dsimp only at hw
        have hm_3 := hw
        have St : cS G k [(qIIIIAAAIIIII h 1 pg pf pe pz o0 o1 o2 pp pa pl pk pb), (qarI o0 ci N0 w0), (qarI o1 ci N0 w1), (qarI o2 ci N0 w2)] [(ci, .int)] A s H locs := St
        refine lv_iload_n hx hb dX1_duesToCome_17 rfl (lv_at hl 3 rfl) ?_
        refine lv_icmp_le (tgt := 33) hx hb dX1_duesToCome_18 (by decide) (fun c18 => ?_) (fun c18 => ?_)
        ·
          have i18 := ci_le (x := r_1) (y := x) rfl rfl c18
          obtain ⟨y_4, ey_4⟩ : ∃ zz : Int32, zz = kk + 1 := ⟨_, rfl⟩
          first | have jy_4 : y_4.toInt = kk.toInt + 1 := (by have q9 := ci_add (x := kk) rfl (show (1 : Int32).toInt = 1 by decide) ey_4; omega) | have jy_4 := ci_add (x := kk) rfl (show (1 : Int32).toInt = 1 by decide) ey_4
          refine lv_iinc (v := y_4) (lv' := [(3, .int y_4), (2, .int nn), (0, .ref h), (1, .int x)]) hx hb dX1_duesToCome_33 hl (k := 0) rfl (by rw [ey_4]; rfl) (by decide) rfl (fun ls hl => ?_)
          refine lv_goto (tgt := 4) hx hb dX1_duesToCome_36 (by decide) ?_
          exact ih y_4 nn _ _ _ ⟨⟨by omega, by omega⟩, sm_up hI0 hs (by omega) (by unfold tC; split <;> omega)⟩ (by omega) St (lv_sub hl [0, 1, 2, 3] rfl)
        ·
          have i18 := ci_nle (x := r_1) (y := x) rfl rfl c18
          refine lv_aload_n hx hb dX1_duesToCome_21 rfl (lv_at hl 2 rfl) ?_
          refine cs_get F St 0 rfl rfl inX1 6 (by decide) kf_X1_38 rfl dX1_duesToCome_22 ?_
          refine lv_iload_n hx hb dX1_duesToCome_25 rfl (lv_at hl 0 rfl) ?_
          refine cs_ild F St 3 0 rfl rfl (vp_in_iff.mpr ⟨by omega, by omega⟩) dX1_duesToCome_26 ?_
          refine lv_topi (fun y_5 ey_5 => ?_)
          have gy_5 := congrArg Int32.toInt ey_5
          refine lv_if_ne (tgt := 33) hx hb dX1_duesToCome_27 (by decide) (fun c27 => ?_) (fun c27 => ?_)
          ·
            have i27 := ci_ne (x := y_5) (y := 0) rfl (show (0 : Int32).toInt = 0 by decide) c27
            obtain ⟨y_6, ey_6⟩ : ∃ zz : Int32, zz = kk + 1 := ⟨_, rfl⟩
            first | have jy_6 : y_6.toInt = kk.toInt + 1 := (by have q9 := ci_add (x := kk) rfl (show (1 : Int32).toInt = 1 by decide) ey_6; omega) | have jy_6 := ci_add (x := kk) rfl (show (1 : Int32).toInt = 1 by decide) ey_6
            refine lv_iinc (v := y_6) (lv' := [(3, .int y_6), (2, .int nn), (0, .ref h), (1, .int x)]) hx hb dX1_duesToCome_33 hl (k := 0) rfl (by rw [ey_6]; rfl) (by decide) rfl (fun ls hl => ?_)
            refine lv_goto (tgt := 4) hx hb dX1_duesToCome_36 (by decide) ?_
            exact ih y_6 nn _ _ _ ⟨⟨by omega, by omega⟩, sm_up hI0 hs (by omega) (by unfold tC; split <;> omega)⟩ (by omega) St (lv_sub hl [0, 1, 2, 3] rfl)
          ·
            have i27 := ci_eq (x := y_5) (y := 0) rfl (show (0 : Int32).toInt = 0 by decide) c27
            obtain ⟨y_7, ey_7⟩ : ∃ zz : Int32, zz = nn + 1 := ⟨_, rfl⟩
            first | have jy_7 : y_7.toInt = nn.toInt + 1 := (by have q9 := ci_add (x := nn) rfl (show (1 : Int32).toInt = 1 by decide) ey_7; omega) | have jy_7 := ci_add (x := nn) rfl (show (1 : Int32).toInt = 1 by decide) ey_7
            refine lv_iinc (v := y_7) (lv' := [(2, .int y_7), (3, .int kk), (0, .ref h), (1, .int x)]) hx hb dX1_duesToCome_30 hl (k := 1) rfl (by rw [ey_7]; rfl) (by decide) rfl (fun ls hl => ?_)
            obtain ⟨y_8, ey_8⟩ : ∃ zz : Int32, zz = kk + 1 := ⟨_, rfl⟩
            first | have jy_8 : y_8.toInt = kk.toInt + 1 := (by have q9 := ci_add (x := kk) rfl (show (1 : Int32).toInt = 1 by decide) ey_8; omega) | have jy_8 := ci_add (x := kk) rfl (show (1 : Int32).toInt = 1 by decide) ey_8
            refine lv_iinc (v := y_8) (lv' := [(3, .int y_8), (2, .int y_7), (0, .ref h), (1, .int x)]) hx hb dX1_duesToCome_33 hl (k := 1) rfl (by rw [ey_8]; rfl) (by decide) rfl (fun ls hl => ?_)
            refine lv_goto (tgt := 4) hx hb dX1_duesToCome_36 (by decide) ?_
            exact ih y_8 y_7 _ _ _ ⟨⟨by omega, by omega⟩, sm_up hI0 hs (by omega) (by unfold tC; split <;> omega)⟩ (by omega) St (lv_sub hl [0, 1, 2, 3] rfl)
  exact lp4 86 0 0 _ _ _ ⟨⟨by omega, by omega⟩, by rw [y0]; rfl⟩ (by omega) St (lv_sub hl [0, 1, 2, 3] rfl)
set_option maxHeartbeats 4000000 in
set_option maxRecDepth 100000 in
theorem e1_dueSoFar (l : Launch) (G : va_G) (k : Nat → Nat) (sz : Nat) (h : Nat) (o0 : Nat) (o1 : Nat) (o2 : Nat) (N0 : Nat) (ci : ClassId) (pg : Int32) (pf : Int32) (pe : Int32) (pz : Int32) (pp : Int32) (pa : Int32) (pl : Int32) (pk : Int32) (pb : Int32) (w0 : Nat → Int32) (w1 : Nat → Int32) (w2 : Nat → Int32) (x : Int32) (hN : (N0 : Int) = pz.toInt) (hN4 : N0 ≤ 84) (hW : wfP pf pe N0 w0 w1 w2) : Met l yX1_dueSoFar (Cond.code yX1_dueSoFar cX1_dueSoFar 4 (some .int) :: tb) ({ frames := 1, cells := 0, slots := 0, locals := 21 } : Room) (va_Pc [.ref h, .int x] (cP G k [(qIIIIAAAIIIII h 1 pg pf pe pz o0 o1 o2 pp pa pl pk pb), (qarI o0 ci N0 w0), (qarI o1 ci N0 w1), (qarI o2 ci N0 w2)] [(ci, .int)] sz)) (va_Qi (fun (r : Int32) (_ : Unit) => (r.toInt = sm (tU pf pe w0 w2 x.toInt) N0)) (cB G (fun (_ : Unit) => [(qIIIIAAAIIIII h 1 pg pf pe pz o0 o1 o2 pp pa pl pk pb), (qarI o0 ci N0 w0), (qarI o1 ci N0 w1), (qarI o2 ci N0 w2)]) (fun (_ : Unit) => []) (va_A [(qIIIIAAAIIIII h 1 pg pf pe pz o0 o1 o2 pp pa pl pk pb), (qarI o0 ci N0 w0), (qarI o1 ci N0 w1), (qarI o2 ci N0 w2)] sz)) (va_A [(qIIIIAAAIIIII h 1 pg pf pe pz o0 o1 o2 pp pa pl pk pb), (qarI o0 ci N0 w0), (qarI o1 ci N0 w1), (qarI o2 ci N0 w2)] sz)) 0 0 (va_A [(qIIIIAAAIIIII h 1 pg pf pe pz o0 o1 o2 pp pa pl pk pb), (qarI o0 ci N0 w0), (qarI o1 ci N0 w1), (qarI o2 ci N0 w2)] sz) := by
  refine ofC_i (cc := cX1_dueSoFar) (maxL := 4) (ret := (some .int)) (by decide) rfl (Nat.le_of_ble_eq_true rfl) ?_
  intro p e s m args below meth c A ls Q F hr hin hlk St hl hQ
  have hx := F.1
  have hb := F.2.1
  have hl : lv_has ls 4 [(0, .ref h), (1, .int x)] := hl
  have St : cS G k [(qIIIIAAAIIIII h 1 pg pf pe pz o0 o1 o2 pp pa pl pk pb), (qarI o0 ci N0 w0), (qarI o1 ci N0 w1), (qarI o2 ci N0 w2)] [(ci, .int)] A s s.heap [] := St
  have y0 : (0 : Int32).toInt = 0 := by decide
  have hpf := hW.1
  skip
  refine lv_iconst (v := 0) hx hb dX1_dueSoFar_0 (by decide) ?_
  refine lv_istore_n (lv' := [(2, .int 0), (0, .ref h), (1, .int x)]) hx hb dX1_dueSoFar_1 rfl hl (by decide) rfl (fun ls hl => ?_)
  refine lv_iconst (v := 0) hx hb dX1_dueSoFar_2 (by decide) ?_
  refine lv_istore_n (lv' := [(3, .int 0), (2, .int 0), (0, .ref h), (1, .int x)]) hx hb dX1_dueSoFar_3 rfl hl (by decide) rfl (fun ls hl => ?_)
  have lp4 : ∀ (n : Nat) (kk : Int32) (nn : Int32) (H : Heap) (locs : List Loc) (ls : Array Slot), ((0 ≤ kk.toInt ∧ kk.toInt ≤ N0) ∧ nn.toInt = sm (tU pf pe w0 w2 x.toInt) kk.toNatClampNeg) → ((85 - kk.toInt).toNat) < n → cS G k [(qIIIIAAAIIIII h 1 pg pf pe pz o0 o1 o2 pp pa pl pk pb), (qarI o0 ci N0 w0), (qarI o1 ci N0 w1), (qarI o2 ci N0 w2)] [(ci, .int)] A s H locs → lv_has ls 4 [(3, .int kk), (2, .int nn), (0, .ref h), (1, .int x)] → W p l e ({ frames := 1, cells := 0, slots := 0, locals := 21 } : Room) s m args below meth c H locs 0 0 Q (F0 m 4 ls []) := by
    intro n
    induction n with
    | zero => intro kk nn H locs ls hI hn; exact absurd hn (Nat.not_lt_zero _)
    | succ n ih =>
      intro kk nn H locs ls hI hn St hl
      obtain ⟨⟨hI0, hI1⟩, hs⟩ := hI
      have nk := nc_int hI0
      have hnb := sm_bd (f := tU pf pe w0 w2 x.toInt) (c := 100000) (n := kk.toNatClampNeg) (fun k_ hk_ => by have hq := hW.2 k_ (by omega); unfold tU; split <;> omega)
      rw [← hs] at hnb
      refine lv_iload_n hx hb dX1_dueSoFar_4 rfl (lv_at hl 0 rfl) ?_
      refine lv_aload_n hx hb dX1_dueSoFar_5 rfl (lv_at hl 2 rfl) ?_
      refine cs_get F St 0 rfl rfl inX1 3 (by decide) kf_X1_28 rfl dX1_dueSoFar_6 ?_
      refine lv_icmp_ge (tgt := 46) hx hb dX1_dueSoFar_9 (by decide) (fun c9 => ?_) (fun c9 => ?_)
      ·
        have i9 := ci_le (x := pz) (y := kk) rfl rfl c9
        refine lv_iload_n hx hb dX1_dueSoFar_46 rfl (lv_at hl 1 rfl) ?_
        exact cs_iret F hr hlk hQ St () (r := nn) (sm_at hs (by omega)) [0, 1, 2, 3] rfl (by decide) [] rfl (by decide) (by decide) dX1_dueSoFar_47
      ·
        have i9 := ci_nle (x := pz) (y := kk) rfl rfl c9
        have hk9 := hW.2 kk.toNatClampNeg (by omega)
        refine lv_aload_n hx hb dX1_dueSoFar_12 rfl (lv_at hl 2 rfl) ?_
        refine lv_iload_n hx hb dX1_dueSoFar_13 rfl (lv_at hl 0 rfl) ?_
        refine cs_i St [0, 1, 2, 3] [] (wc := [(qIIIIAAAIIIII h 1 pg pf pe pz o0 o1 o2 pp pa pl pk pb), (qarI o0 ci N0 w0), (qarI o1 ci N0 w1), (qarI o2 ci N0 w2)]) (wr := []) rfl rfl (by decide) (by decide) (va_runV (As := [.int kk]) (rest := []) F (e1_monthOf l G k _ h o0 o1 o2 N0 ci pg pf pe pz pp pa pl pk pb w0 w1 w2 kk (by first | assumption | omega) (by first | assumption | omega) (by omega) (by omega) (by omega)) (cwVt F mf_X1_monthOf km_X1_54 rfl rfl ⟨Nat.le_of_ble_eq_true rfl, Nat.le_of_ble_eq_true rfl⟩) (cs_preV St [0, 1, 2, 3] rfl (by decide) [0] rfl (ci := 1) (q0 := 0) rfl rfl) rfl rfl hl.1 rfl (lv_room (Nat.le_of_ble_eq_true rfl)) dX1_dueSoFar_14 ⟨Nat.le_of_ble_eq_true rfl, Nat.le_of_ble_eq_true rfl⟩) (fun r_1 u_2 H locs hw St => ?_)
        try dsimp only at hw
        have hm_3 := hw
        have St : cS G k [(qIIIIAAAIIIII h 1 pg pf pe pz o0 o1 o2 pp pa pl pk pb), (qarI o0 ci N0 w0), (qarI o1 ci N0 w1), (qarI o2 ci N0 w2)] [(ci, .int)] A s H locs := St
        refine lv_iload_n hx hb dX1_dueSoFar_17 rfl (lv_at hl 3 rfl) ?_
        refine lv_icmp_gt (tgt := 46) hx hb dX1_dueSoFar_18 (by decide) (fun c18 => ?_) (fun c18 => ?_)
        ·
          have i18 := ci_lt (x := x) (y := r_1) rfl rfl c18
          refine lv_iload_n hx hb dX1_dueSoFar_46 rfl (lv_at hl 1 rfl) ?_
          exact cs_iret F hr hlk hQ St () (r := nn) (sm_cut hs (by omega) (fun k_ a_ b_ => by have hq := mo_le (pf := pf) (pe := pe) (by omega) a_; unfold tU; split <;> omega)) [0, 1, 2, 3] rfl (by decide) [] rfl (by decide) (by decide) dX1_dueSoFar_47
        ·
          have i18 := ci_nlt (x := x) (y := r_1) rfl rfl c18
          refine lv_aload_n hx hb dX1_dueSoFar_21 rfl (lv_at hl 2 rfl) ?_
          refine cs_get F St 0 rfl rfl inX1 6 (by decide) kf_X1_38 rfl dX1_dueSoFar_22 ?_
          refine lv_iload_n hx hb dX1_dueSoFar_25 rfl (lv_at hl 0 rfl) ?_
          refine cs_ild F St 3 0 rfl rfl (vp_in_iff.mpr ⟨by omega, by omega⟩) dX1_dueSoFar_26 ?_
          refine lv_topi (fun y_4 ey_4 => ?_)
          have gy_4 := congrArg Int32.toInt ey_4
          refine lv_iconst (v := 2) hx hb dX1_dueSoFar_27 (by decide) ?_
          refine lv_icmp_eq (tgt := 40) hx hb dX1_dueSoFar_28 (by decide) (fun c28 => ?_) (fun c28 => ?_)
          ·
            have i28 := ci_eq (x := y_4) (y := 2) rfl (show (2 : Int32).toInt = 2 by decide) c28
            obtain ⟨y_5, ey_5⟩ : ∃ zz : Int32, zz = kk + 1 := ⟨_, rfl⟩
            first | have jy_5 : y_5.toInt = kk.toInt + 1 := (by have q9 := ci_add (x := kk) rfl (show (1 : Int32).toInt = 1 by decide) ey_5; omega) | have jy_5 := ci_add (x := kk) rfl (show (1 : Int32).toInt = 1 by decide) ey_5
            refine lv_iinc (v := y_5) (lv' := [(3, .int y_5), (2, .int nn), (0, .ref h), (1, .int x)]) hx hb dX1_dueSoFar_40 hl (k := 0) rfl (by rw [ey_5]; rfl) (by decide) rfl (fun ls hl => ?_)
            refine lv_goto (tgt := 4) hx hb dX1_dueSoFar_43 (by decide) ?_
            exact ih y_5 nn _ _ _ ⟨⟨by omega, by omega⟩, sm_up hI0 hs (by omega) (by unfold tU; split <;> omega)⟩ (by omega) St (lv_sub hl [0, 1, 2, 3] rfl)
          ·
            have i28 := ci_ne (x := y_4) (y := 2) rfl (show (2 : Int32).toInt = 2 by decide) c28
            refine lv_iload_n hx hb dX1_dueSoFar_31 rfl (lv_at hl 1 rfl) ?_
            refine lv_aload_n hx hb dX1_dueSoFar_32 rfl (lv_at hl 2 rfl) ?_
            refine cs_get F St 0 rfl rfl inX1 4 (by decide) kf_X1_31 rfl dX1_dueSoFar_33 ?_
            refine lv_iload_n hx hb dX1_dueSoFar_36 rfl (lv_at hl 0 rfl) ?_
            refine cs_ild F St 1 0 rfl rfl (vp_in_iff.mpr ⟨by omega, by omega⟩) dX1_dueSoFar_37 ?_
            refine lv_topi (fun y_6 ey_6 => ?_)
            have gy_6 := congrArg Int32.toInt ey_6
            refine lv_iadd hx hb dX1_dueSoFar_38 ?_
            refine lv_topi (fun y_7 ey_7 => ?_)
            first | have jy_7 : y_7.toInt = nn.toInt + y_6.toInt := (by have q9 := ci_add (x := nn) (y := y_6) rfl rfl ey_7; omega) | have jy_7 := ci_add (x := nn) (y := y_6) rfl rfl ey_7
            refine lv_istore_n (lv' := [(2, .int y_7), (3, .int kk), (0, .ref h), (1, .int x)]) hx hb dX1_dueSoFar_39 rfl hl (by decide) rfl (fun ls hl => ?_)
            obtain ⟨y_8, ey_8⟩ : ∃ zz : Int32, zz = kk + 1 := ⟨_, rfl⟩
            first | have jy_8 : y_8.toInt = kk.toInt + 1 := (by have q9 := ci_add (x := kk) rfl (show (1 : Int32).toInt = 1 by decide) ey_8; omega) | have jy_8 := ci_add (x := kk) rfl (show (1 : Int32).toInt = 1 by decide) ey_8
            refine lv_iinc (v := y_8) (lv' := [(3, .int y_8), (2, .int y_7), (0, .ref h), (1, .int x)]) hx hb dX1_dueSoFar_40 hl (k := 1) rfl (by rw [ey_8]; rfl) (by decide) rfl (fun ls hl => ?_)
            refine lv_goto (tgt := 4) hx hb dX1_dueSoFar_43 (by decide) ?_
            exact ih y_8 y_7 _ _ _ ⟨⟨by omega, by omega⟩, sm_up hI0 hs (by omega) (by unfold tU; split <;> omega)⟩ (by omega) St (lv_sub hl [0, 1, 2, 3] rfl)
  exact lp4 86 0 0 _ _ _ ⟨⟨by omega, by omega⟩, by rw [y0]; rfl⟩ (by omega) St (lv_sub hl [0, 1, 2, 3] rfl)
set_option maxHeartbeats 4000000 in
set_option maxRecDepth 100000 in
theorem e1_filledSoFar (l : Launch) (G : va_G) (k : Nat → Nat) (sz : Nat) (h : Nat) (o0 : Nat) (o1 : Nat) (o2 : Nat) (N0 : Nat) (ci : ClassId) (pg : Int32) (pf : Int32) (pe : Int32) (pz : Int32) (pp : Int32) (pa : Int32) (pl : Int32) (pk : Int32) (pb : Int32) (w0 : Nat → Int32) (w1 : Nat → Int32) (w2 : Nat → Int32) (x : Int32) (hN : (N0 : Int) = pz.toInt) (hN4 : N0 ≤ 84) (hW : wfP pf pe N0 w0 w1 w2) : Met l yX1_filledSoFar (Cond.code yX1_filledSoFar cX1_filledSoFar 4 (some .int) :: tb) ({ frames := 1, cells := 0, slots := 0, locals := 21 } : Room) (va_Pc [.ref h, .int x] (cP G k [(qIIIIAAAIIIII h 1 pg pf pe pz o0 o1 o2 pp pa pl pk pb), (qarI o0 ci N0 w0), (qarI o1 ci N0 w1), (qarI o2 ci N0 w2)] [(ci, .int)] sz)) (va_Qi (fun (r : Int32) (_ : Unit) => (r.toInt = sm (tU pf pe w1 w2 x.toInt) N0)) (cB G (fun (_ : Unit) => [(qIIIIAAAIIIII h 1 pg pf pe pz o0 o1 o2 pp pa pl pk pb), (qarI o0 ci N0 w0), (qarI o1 ci N0 w1), (qarI o2 ci N0 w2)]) (fun (_ : Unit) => []) (va_A [(qIIIIAAAIIIII h 1 pg pf pe pz o0 o1 o2 pp pa pl pk pb), (qarI o0 ci N0 w0), (qarI o1 ci N0 w1), (qarI o2 ci N0 w2)] sz)) (va_A [(qIIIIAAAIIIII h 1 pg pf pe pz o0 o1 o2 pp pa pl pk pb), (qarI o0 ci N0 w0), (qarI o1 ci N0 w1), (qarI o2 ci N0 w2)] sz)) 0 0 (va_A [(qIIIIAAAIIIII h 1 pg pf pe pz o0 o1 o2 pp pa pl pk pb), (qarI o0 ci N0 w0), (qarI o1 ci N0 w1), (qarI o2 ci N0 w2)] sz) := by
  refine ofC_i (cc := cX1_filledSoFar) (maxL := 4) (ret := (some .int)) (by decide) rfl (Nat.le_of_ble_eq_true rfl) ?_
  intro p e s m args below meth c A ls Q F hr hin hlk St hl hQ
  have hx := F.1
  have hb := F.2.1
  have hl : lv_has ls 4 [(0, .ref h), (1, .int x)] := hl
  have St : cS G k [(qIIIIAAAIIIII h 1 pg pf pe pz o0 o1 o2 pp pa pl pk pb), (qarI o0 ci N0 w0), (qarI o1 ci N0 w1), (qarI o2 ci N0 w2)] [(ci, .int)] A s s.heap [] := St
  have y0 : (0 : Int32).toInt = 0 := by decide
  have hpf := hW.1
  skip
  refine lv_iconst (v := 0) hx hb dX1_filledSoFar_0 (by decide) ?_
  refine lv_istore_n (lv' := [(2, .int 0), (0, .ref h), (1, .int x)]) hx hb dX1_filledSoFar_1 rfl hl (by decide) rfl (fun ls hl => ?_)
  refine lv_iconst (v := 0) hx hb dX1_filledSoFar_2 (by decide) ?_
  refine lv_istore_n (lv' := [(3, .int 0), (2, .int 0), (0, .ref h), (1, .int x)]) hx hb dX1_filledSoFar_3 rfl hl (by decide) rfl (fun ls hl => ?_)
  have lp4 : ∀ (n : Nat) (kk : Int32) (nn : Int32) (H : Heap) (locs : List Loc) (ls : Array Slot), ((0 ≤ kk.toInt ∧ kk.toInt ≤ N0) ∧ nn.toInt = sm (tU pf pe w1 w2 x.toInt) kk.toNatClampNeg) → ((85 - kk.toInt).toNat) < n → cS G k [(qIIIIAAAIIIII h 1 pg pf pe pz o0 o1 o2 pp pa pl pk pb), (qarI o0 ci N0 w0), (qarI o1 ci N0 w1), (qarI o2 ci N0 w2)] [(ci, .int)] A s H locs → lv_has ls 4 [(3, .int kk), (2, .int nn), (0, .ref h), (1, .int x)] → W p l e ({ frames := 1, cells := 0, slots := 0, locals := 21 } : Room) s m args below meth c H locs 0 0 Q (F0 m 4 ls []) := by
    intro n
    induction n with
    | zero => intro kk nn H locs ls hI hn; exact absurd hn (Nat.not_lt_zero _)
    | succ n ih =>
      intro kk nn H locs ls hI hn St hl
      obtain ⟨⟨hI0, hI1⟩, hs⟩ := hI
      have nk := nc_int hI0
      have hnb := sm_bd (f := tU pf pe w1 w2 x.toInt) (c := 100000) (n := kk.toNatClampNeg) (fun k_ hk_ => by have hq := hW.2 k_ (by omega); unfold tU; split <;> omega)
      rw [← hs] at hnb
      refine lv_iload_n hx hb dX1_filledSoFar_4 rfl (lv_at hl 0 rfl) ?_
      refine lv_aload_n hx hb dX1_filledSoFar_5 rfl (lv_at hl 2 rfl) ?_
      refine cs_get F St 0 rfl rfl inX1 3 (by decide) kf_X1_28 rfl dX1_filledSoFar_6 ?_
      refine lv_icmp_ge (tgt := 46) hx hb dX1_filledSoFar_9 (by decide) (fun c9 => ?_) (fun c9 => ?_)
      ·
        have i9 := ci_le (x := pz) (y := kk) rfl rfl c9
        refine lv_iload_n hx hb dX1_filledSoFar_46 rfl (lv_at hl 1 rfl) ?_
        exact cs_iret F hr hlk hQ St () (r := nn) (sm_at hs (by omega)) [0, 1, 2, 3] rfl (by decide) [] rfl (by decide) (by decide) dX1_filledSoFar_47
      ·
        have i9 := ci_nle (x := pz) (y := kk) rfl rfl c9
        have hk9 := hW.2 kk.toNatClampNeg (by omega)
        refine lv_aload_n hx hb dX1_filledSoFar_12 rfl (lv_at hl 2 rfl) ?_
        refine lv_iload_n hx hb dX1_filledSoFar_13 rfl (lv_at hl 0 rfl) ?_
        refine cs_i St [0, 1, 2, 3] [] (wc := [(qIIIIAAAIIIII h 1 pg pf pe pz o0 o1 o2 pp pa pl pk pb), (qarI o0 ci N0 w0), (qarI o1 ci N0 w1), (qarI o2 ci N0 w2)]) (wr := []) rfl rfl (by decide) (by decide) (va_runV (As := [.int kk]) (rest := []) F (e1_monthOf l G k _ h o0 o1 o2 N0 ci pg pf pe pz pp pa pl pk pb w0 w1 w2 kk (by first | assumption | omega) (by first | assumption | omega) (by omega) (by omega) (by omega)) (cwVt F mf_X1_monthOf km_X1_54 rfl rfl ⟨Nat.le_of_ble_eq_true rfl, Nat.le_of_ble_eq_true rfl⟩) (cs_preV St [0, 1, 2, 3] rfl (by decide) [0] rfl (ci := 1) (q0 := 0) rfl rfl) rfl rfl hl.1 rfl (lv_room (Nat.le_of_ble_eq_true rfl)) dX1_filledSoFar_14 ⟨Nat.le_of_ble_eq_true rfl, Nat.le_of_ble_eq_true rfl⟩) (fun r_1 u_2 H locs hw St => ?_)
        try dsimp only at hw
        have hm_3 := hw
        have St : cS G k [(qIIIIAAAIIIII h 1 pg pf pe pz o0 o1 o2 pp pa pl pk pb), (qarI o0 ci N0 w0), (qarI o1 ci N0 w1), (qarI o2 ci N0 w2)] [(ci, .int)] A s H locs := St
        refine lv_iload_n hx hb dX1_filledSoFar_17 rfl (lv_at hl 3 rfl) ?_
        refine lv_icmp_gt (tgt := 46) hx hb dX1_filledSoFar_18 (by decide) (fun c18 => ?_) (fun c18 => ?_)
        ·
          have i18 := ci_lt (x := x) (y := r_1) rfl rfl c18
          refine lv_iload_n hx hb dX1_filledSoFar_46 rfl (lv_at hl 1 rfl) ?_
          exact cs_iret F hr hlk hQ St () (r := nn) (sm_cut hs (by omega) (fun k_ a_ b_ => by have hq := mo_le (pf := pf) (pe := pe) (by omega) a_; unfold tU; split <;> omega)) [0, 1, 2, 3] rfl (by decide) [] rfl (by decide) (by decide) dX1_filledSoFar_47
        ·
          have i18 := ci_nlt (x := x) (y := r_1) rfl rfl c18
          refine lv_aload_n hx hb dX1_filledSoFar_21 rfl (lv_at hl 2 rfl) ?_
          refine cs_get F St 0 rfl rfl inX1 6 (by decide) kf_X1_38 rfl dX1_filledSoFar_22 ?_
          refine lv_iload_n hx hb dX1_filledSoFar_25 rfl (lv_at hl 0 rfl) ?_
          refine cs_ild F St 3 0 rfl rfl (vp_in_iff.mpr ⟨by omega, by omega⟩) dX1_filledSoFar_26 ?_
          refine lv_topi (fun y_4 ey_4 => ?_)
          have gy_4 := congrArg Int32.toInt ey_4
          refine lv_iconst (v := 2) hx hb dX1_filledSoFar_27 (by decide) ?_
          refine lv_icmp_eq (tgt := 40) hx hb dX1_filledSoFar_28 (by decide) (fun c28 => ?_) (fun c28 => ?_)
          ·
            have i28 := ci_eq (x := y_4) (y := 2) rfl (show (2 : Int32).toInt = 2 by decide) c28
            obtain ⟨y_5, ey_5⟩ : ∃ zz : Int32, zz = kk + 1 := ⟨_, rfl⟩
            first | have jy_5 : y_5.toInt = kk.toInt + 1 := (by have q9 := ci_add (x := kk) rfl (show (1 : Int32).toInt = 1 by decide) ey_5; omega) | have jy_5 := ci_add (x := kk) rfl (show (1 : Int32).toInt = 1 by decide) ey_5
            refine lv_iinc (v := y_5) (lv' := [(3, .int y_5), (2, .int nn), (0, .ref h), (1, .int x)]) hx hb dX1_filledSoFar_40 hl (k := 0) rfl (by rw [ey_5]; rfl) (by decide) rfl (fun ls hl => ?_)
            refine lv_goto (tgt := 4) hx hb dX1_filledSoFar_43 (by decide) ?_
            exact ih y_5 nn _ _ _ ⟨⟨by omega, by omega⟩, sm_up hI0 hs (by omega) (by unfold tU; split <;> omega)⟩ (by omega) St (lv_sub hl [0, 1, 2, 3] rfl)
          ·
            have i28 := ci_ne (x := y_4) (y := 2) rfl (show (2 : Int32).toInt = 2 by decide) c28
            refine lv_iload_n hx hb dX1_filledSoFar_31 rfl (lv_at hl 1 rfl) ?_
            refine lv_aload_n hx hb dX1_filledSoFar_32 rfl (lv_at hl 2 rfl) ?_
            refine cs_get F St 0 rfl rfl inX1 5 (by decide) kf_X1_35 rfl dX1_filledSoFar_33 ?_
            refine lv_iload_n hx hb dX1_filledSoFar_36 rfl (lv_at hl 0 rfl) ?_
            refine cs_ild F St 2 0 rfl rfl (vp_in_iff.mpr ⟨by omega, by omega⟩) dX1_filledSoFar_37 ?_
            refine lv_topi (fun y_6 ey_6 => ?_)
            have gy_6 := congrArg Int32.toInt ey_6
            refine lv_iadd hx hb dX1_filledSoFar_38 ?_
            refine lv_topi (fun y_7 ey_7 => ?_)
            first | have jy_7 : y_7.toInt = nn.toInt + y_6.toInt := (by have q9 := ci_add (x := nn) (y := y_6) rfl rfl ey_7; omega) | have jy_7 := ci_add (x := nn) (y := y_6) rfl rfl ey_7
            refine lv_istore_n (lv' := [(2, .int y_7), (3, .int kk), (0, .ref h), (1, .int x)]) hx hb dX1_filledSoFar_39 rfl hl (by decide) rfl (fun ls hl => ?_)
            obtain ⟨y_8, ey_8⟩ : ∃ zz : Int32, zz = kk + 1 := ⟨_, rfl⟩
            first | have jy_8 : y_8.toInt = kk.toInt + 1 := (by have q9 := ci_add (x := kk) rfl (show (1 : Int32).toInt = 1 by decide) ey_8; omega) | have jy_8 := ci_add (x := kk) rfl (show (1 : Int32).toInt = 1 by decide) ey_8
            refine lv_iinc (v := y_8) (lv' := [(3, .int y_8), (2, .int y_7), (0, .ref h), (1, .int x)]) hx hb dX1_filledSoFar_40 hl (k := 1) rfl (by rw [ey_8]; rfl) (by decide) rfl (fun ls hl => ?_)
            refine lv_goto (tgt := 4) hx hb dX1_filledSoFar_43 (by decide) ?_
            exact ih y_8 y_7 _ _ _ ⟨⟨by omega, by omega⟩, sm_up hI0 hs (by omega) (by unfold tU; split <;> omega)⟩ (by omega) St (lv_sub hl [0, 1, 2, 3] rfl)
  exact lp4 86 0 0 _ _ _ ⟨⟨by omega, by omega⟩, by rw [y0]; rfl⟩ (by omega) St (lv_sub hl [0, 1, 2, 3] rfl)
set_option maxHeartbeats 4000000 in
set_option maxRecDepth 100000 in
theorem e1_setPence (l : Launch) (G : va_G) (k : Nat → Nat) (sz : Nat) (h : Nat) (o0 : Nat) (o1 : Nat) (o2 : Nat) (N0 : Nat) (ci : ClassId) (pg : Int32) (pf : Int32) (pe : Int32) (pz : Int32) (pp : Int32) (pa : Int32) (pl : Int32) (pk : Int32) (pb : Int32) (w0 : Nat → Int32) (w1 : Nat → Int32) (w2 : Nat → Int32) (x : Int32) (y : Int32) (hN : (N0 : Int) = pz.toInt) (hN4 : N0 ≤ 84) (hW : wfP pf pe N0 w0 w1 w2) : Met l yX1_setPence (Cond.code yX1_setPence cX1_setPence 4 none :: tb) ({ frames := 1, cells := 0, slots := 0, locals := 21 } : Room) (va_Pc [.ref h, .int x, .int y] (cP G k [(qIIIIAAAIIIII h 1 pg pf pe pz o0 o1 o2 pp pa pl pk pb), (qarI o0 ci N0 w0), (qarI o1 ci N0 w1), (qarI o2 ci N0 w2)] [(ci, .int)] sz)) (va_Qv (fun (z0 : (Nat → Int32)) => (z0 = fU (cCh pf pe w1 y.toInt) (fun _ => x) w0 0 N0)) (cB G (fun (z0 : (Nat → Int32)) => [(qIIIIAAAIIIII h 1 pg pf pe pz o0 o1 o2 x pa pl pk pb), (qarI o0 ci N0 z0), (qarI o1 ci N0 w1), (qarI o2 ci N0 w2)]) (fun (z0 : (Nat → Int32)) => []) (va_A [(qIIIIAAAIIIII h 1 pg pf pe pz o0 o1 o2 pp pa pl pk pb), (qarI o0 ci N0 w0), (qarI o1 ci N0 w1), (qarI o2 ci N0 w2)] sz)) (va_A [(qIIIIAAAIIIII h 1 pg pf pe pz o0 o1 o2 pp pa pl pk pb), (qarI o0 ci N0 w0), (qarI o1 ci N0 w1), (qarI o2 ci N0 w2)] sz)) 0 0 (va_A [(qIIIIAAAIIIII h 1 pg pf pe pz o0 o1 o2 pp pa pl pk pb), (qarI o0 ci N0 w0), (qarI o1 ci N0 w1), (qarI o2 ci N0 w2)] sz) := by
  refine ofC_v (cc := cX1_setPence) (maxL := 4) (ret := none) (by decide) rfl (Nat.le_of_ble_eq_true rfl) ?_
  intro p e s m args below meth c A ls Q F hr hin hlk St hl hQ
  have hx := F.1
  have hb := F.2.1
  have hl : lv_has ls 4 [(0, .ref h), (1, .int x), (2, .int y)] := hl
  have St : cS G k [(qIIIIAAAIIIII h 1 pg pf pe pz o0 o1 o2 pp pa pl pk pb), (qarI o0 ci N0 w0), (qarI o1 ci N0 w1), (qarI o2 ci N0 w2)] [(ci, .int)] A s s.heap [] := St
  have y0 : (0 : Int32).toInt = 0 := by decide
  have hpf := hW.1
  skip
  refine lv_aload_n hx hb dX1_setPence_0 rfl (lv_at hl 0 rfl) ?_
  refine lv_iload_n hx hb dX1_setPence_1 rfl (lv_at hl 1 rfl) ?_
  refine cs_put F St 0 rfl rfl inX1 tyX1_ok nmX1 7 (by decide) kf_X1_41 rfl rfl rfl (Nat.le_of_ble_eq_true rfl) (w' := [(qIIIIAAAIIIII h 1 pg pf pe pz o0 o1 o2 x pa pl pk pb), (qarI o0 ci N0 w0), (qarI o1 ci N0 w1), (qarI o2 ci N0 w2)]) rfl dX1_setPence_2 (fun H locs St => ?_)
  refine lv_iconst (v := 0) hx hb dX1_setPence_5 (by decide) ?_
  refine lv_istore_n (lv' := [(3, .int 0), (0, .ref h), (1, .int x), (2, .int y)]) hx hb dX1_setPence_6 rfl hl (by decide) rfl (fun ls hl => ?_)
  have lp7 : ∀ (n : Nat) (kk : Int32) (qq : Nat → Int32) (H : Heap) (locs : List Loc) (ls : Array Slot), ((0 ≤ kk.toInt ∧ kk.toInt ≤ N0) ∧ qq = fU (cCh pf pe w1 y.toInt) (fun _ => x) w0 0 kk.toNatClampNeg) → ((85 - kk.toInt).toNat) < n → cS G k [(qIIIIAAAIIIII h 1 pg pf pe pz o0 o1 o2 x pa pl pk pb), (qarI o0 ci N0 qq), (qarI o1 ci N0 w1), (qarI o2 ci N0 w2)] [(ci, .int)] A s H locs → lv_has ls 4 [(3, .int kk), (0, .ref h), (1, .int x), (2, .int y)] → W p l e ({ frames := 1, cells := 0, slots := 0, locals := 21 } : Room) s m args below meth c H locs 0 0 Q (F0 m 7 ls []) := by
    intro n
    induction n with
    | zero => intro kk qq H locs ls hI hn; exact absurd hn (Nat.not_lt_zero _)
    | succ n ih =>
      intro kk qq H locs ls hI hn St hl
      obtain ⟨⟨hI0, hI1⟩, hs⟩ := hI
      have nk := nc_int hI0
      have hqk : (qq kk.toNatClampNeg).toInt = (w0 kk.toNatClampNeg).toInt := by rw [hs, fU_in (Nat.zero_le _) (Nat.le_refl _)]
      refine lv_iload_n hx hb dX1_setPence_7 rfl (lv_at hl 0 rfl) ?_
      refine lv_aload_n hx hb dX1_setPence_8 rfl (lv_at hl 1 rfl) ?_
      refine cs_get F St 0 rfl rfl inX1 3 (by decide) kf_X1_28 rfl dX1_setPence_9 ?_
      refine lv_icmp_ge (tgt := 46) hx hb dX1_setPence_12 (by decide) (fun c12 => ?_) (fun c12 => ?_)
      ·
        have i12 := ci_le (x := pz) (y := kk) rfl rfl c12
        exact cs_vret F hr hlk hQ St qq (fU_at hs (by omega)) [0, 1, 2, 3] rfl (by decide) [] rfl (by decide) (by decide) dX1_setPence_46
      ·
        have i12 := ci_nle (x := pz) (y := kk) rfl rfl c12
        have hk9 := hW.2 kk.toNatClampNeg (by omega)
        refine lv_aload_n hx hb dX1_setPence_15 rfl (lv_at hl 1 rfl) ?_
        refine lv_iload_n hx hb dX1_setPence_16 rfl (lv_at hl 0 rfl) ?_
        refine cs_i St [0, 1, 2, 3] [] (wc := [(qIIIIAAAIIIII h 1 pg pf pe pz o0 o1 o2 x pa pl pk pb), (qarI o0 ci N0 qq), (qarI o1 ci N0 w1), (qarI o2 ci N0 w2)]) (wr := []) rfl rfl (by decide) (by decide) (va_runV (As := [.int kk]) (rest := []) F (e1_monthOf l G k _ h o0 o1 o2 N0 ci pg pf pe pz x pa pl pk pb qq w1 w2 kk (by first | assumption | omega) (by first | assumption | omega) (by omega) (by omega) (by omega)) (cwVt F mf_X1_monthOf km_X1_54 rfl rfl ⟨Nat.le_of_ble_eq_true rfl, Nat.le_of_ble_eq_true rfl⟩) (cs_preV St [0, 1, 2, 3] rfl (by decide) [0] rfl (ci := 1) (q0 := 0) rfl rfl) rfl rfl hl.1 rfl (lv_room (Nat.le_of_ble_eq_true rfl)) dX1_setPence_17 ⟨Nat.le_of_ble_eq_true rfl, Nat.le_of_ble_eq_true rfl⟩) (fun r_1 u_2 H locs hw St => ?_)
        try dsimp only at hw
        have hm_3 := hw
        have St : cS G k [(qIIIIAAAIIIII h 1 pg pf pe pz o0 o1 o2 x pa pl pk pb), (qarI o0 ci N0 qq), (qarI o1 ci N0 w1), (qarI o2 ci N0 w2)] [(ci, .int)] A s H locs := St
        refine lv_iload_n hx hb dX1_setPence_20 rfl (lv_at hl 3 rfl) ?_
        refine lv_icmp_le (tgt := 40) hx hb dX1_setPence_21 (by decide) (fun c21 => ?_) (fun c21 => ?_)
        ·
          have i21 := ci_le (x := r_1) (y := y) rfl rfl c21
          obtain ⟨y_4, ey_4⟩ : ∃ zz : Int32, zz = kk + 1 := ⟨_, rfl⟩
          first | have jy_4 : y_4.toInt = kk.toInt + 1 := (by have q9 := ci_add (x := kk) rfl (show (1 : Int32).toInt = 1 by decide) ey_4; omega) | have jy_4 := ci_add (x := kk) rfl (show (1 : Int32).toInt = 1 by decide) ey_4
          refine lv_iinc (v := y_4) (lv' := [(3, .int y_4), (0, .ref h), (1, .int x), (2, .int y)]) hx hb dX1_setPence_40 hl (k := 0) rfl (by rw [ey_4]; rfl) (by decide) rfl (fun ls hl => ?_)
          refine lv_goto (tgt := 7) hx hb dX1_setPence_43 (by decide) ?_
          exact ih y_4 qq _ _ _ ⟨⟨by omega, by omega⟩, fU_N hI0 hs (by omega) (fun z_ => absurd (of_decide_eq_true z_) (by omega))⟩ (by omega) St (lv_sub hl [0, 1, 2, 3] rfl)
        ·
          have i21 := ci_nle (x := r_1) (y := y) rfl rfl c21
          refine lv_aload_n hx hb dX1_setPence_24 rfl (lv_at hl 1 rfl) ?_
          refine cs_get F St 0 rfl rfl inX1 5 (by decide) kf_X1_35 rfl dX1_setPence_25 ?_
          refine lv_iload_n hx hb dX1_setPence_28 rfl (lv_at hl 0 rfl) ?_
          refine cs_ild F St 2 0 rfl rfl (vp_in_iff.mpr ⟨by omega, by omega⟩) dX1_setPence_29 ?_
          refine lv_topi (fun y_5 ey_5 => ?_)
          have gy_5 := congrArg Int32.toInt ey_5
          refine lv_if_ne (tgt := 40) hx hb dX1_setPence_30 (by decide) (fun c30 => ?_) (fun c30 => ?_)
          ·
            have i30 := ci_ne (x := y_5) (y := 0) rfl (show (0 : Int32).toInt = 0 by decide) c30
            obtain ⟨y_6, ey_6⟩ : ∃ zz : Int32, zz = kk + 1 := ⟨_, rfl⟩
            first | have jy_6 : y_6.toInt = kk.toInt + 1 := (by have q9 := ci_add (x := kk) rfl (show (1 : Int32).toInt = 1 by decide) ey_6; omega) | have jy_6 := ci_add (x := kk) rfl (show (1 : Int32).toInt = 1 by decide) ey_6
            refine lv_iinc (v := y_6) (lv' := [(3, .int y_6), (0, .ref h), (1, .int x), (2, .int y)]) hx hb dX1_setPence_40 hl (k := 0) rfl (by rw [ey_6]; rfl) (by decide) rfl (fun ls hl => ?_)
            refine lv_goto (tgt := 7) hx hb dX1_setPence_43 (by decide) ?_
            exact ih y_6 qq _ _ _ ⟨⟨by omega, by omega⟩, fU_N hI0 hs (by omega) (fun z_ => absurd (of_decide_eq_true z_) (by omega))⟩ (by omega) St (lv_sub hl [0, 1, 2, 3] rfl)
          ·
            have i30 := ci_eq (x := y_5) (y := 0) rfl (show (0 : Int32).toInt = 0 by decide) c30
            refine lv_aload_n hx hb dX1_setPence_33 rfl (lv_at hl 1 rfl) ?_
            refine cs_get F St 0 rfl rfl inX1 4 (by decide) kf_X1_31 rfl dX1_setPence_34 ?_
            refine lv_iload_n hx hb dX1_setPence_37 rfl (lv_at hl 0 rfl) ?_
            refine lv_iload_n hx hb dX1_setPence_38 rfl (lv_at hl 2 rfl) ?_
            refine cs_ist F St 1 0 rfl rfl (vp_in_iff.mpr ⟨by omega, by omega⟩) (w' := [(qIIIIAAAIIIII h 1 pg pf pe pz o0 o1 o2 x pa pl pk pb), (qarI o0 ci N0 (upd qq (kk : Int32).toNatClampNeg x)), (qarI o1 ci N0 w1), (qarI o2 ci N0 w2)]) rfl dX1_setPence_39 (fun H locs St => ?_)
            obtain ⟨f_7, ef_7⟩ : ∃ zz : Nat → Int32, zz = upd qq (kk : Int32).toNatClampNeg x := ⟨_, rfl⟩
            rw [← ef_7] at St
            obtain ⟨y_8, ey_8⟩ : ∃ zz : Int32, zz = kk + 1 := ⟨_, rfl⟩
            first | have jy_8 : y_8.toInt = kk.toInt + 1 := (by have q9 := ci_add (x := kk) rfl (show (1 : Int32).toInt = 1 by decide) ey_8; omega) | have jy_8 := ci_add (x := kk) rfl (show (1 : Int32).toInt = 1 by decide) ey_8
            refine lv_iinc (v := y_8) (lv' := [(3, .int y_8), (0, .ref h), (1, .int x), (2, .int y)]) hx hb dX1_setPence_40 hl (k := 0) rfl (by rw [ey_8]; rfl) (by decide) rfl (fun ls hl => ?_)
            refine lv_goto (tgt := 7) hx hb dX1_setPence_43 (by decide) ?_
            exact ih y_8 f_7 _ _ _ ⟨⟨by omega, by omega⟩, by rw [ef_7]; exact fU_Y hI0 (Nat.zero_le _) hs (by omega) (decide_eq_true (by omega)) rfl⟩ (by omega) St (lv_sub hl [0, 1, 2, 3] rfl)
  exact lp7 86 0 w0 _ _ _ ⟨⟨by omega, by omega⟩, fU_0.symm⟩ (by omega) St (lv_sub hl [0, 1, 2, 3] rfl)
set_option maxHeartbeats 4000000 in
set_option maxRecDepth 100000 in
theorem e1_lapseIn (l : Launch) (G : va_G) (k : Nat → Nat) (sz : Nat) (h : Nat) (o0 : Nat) (o1 : Nat) (o2 : Nat) (N0 : Nat) (ci : ClassId) (pg : Int32) (pf : Int32) (pe : Int32) (pz : Int32) (pp : Int32) (pa : Int32) (pl : Int32) (pk : Int32) (pb : Int32) (w0 : Nat → Int32) (w1 : Nat → Int32) (w2 : Nat → Int32) (x : Int32) (hN : (N0 : Int) = pz.toInt) (hN4 : N0 ≤ 84) (hW : wfP pf pe N0 w0 w1 w2) : Met l yX1_lapseIn (Cond.code yX1_lapseIn cX1_lapseIn 3 none :: tb) ({ frames := 1, cells := 0, slots := 0, locals := 21 } : Room) (va_Pc [.ref h, .int x] (cP G k [(qIIIIAAAIIIII h 1 pg pf pe pz o0 o1 o2 pp pa pl pk pb), (qarI o0 ci N0 w0), (qarI o1 ci N0 w1), (qarI o2 ci N0 w2)] [(ci, .int)] sz)) (va_Qv (fun (u : Int32 × (Nat → Int32)) => match u with | (pb2, z2) => (z2 = fU (cLa w0 w1 w2) (vLa pf pe x.toInt) w2 0 N0)) (cB G (fun u => match u with | (pb2, z2) => [(qIIIIAAAIIIII h 1 pg pf pe pz o0 o1 o2 pp pa 1 pk pb2), (qarI o0 ci N0 w0), (qarI o1 ci N0 w1), (qarI o2 ci N0 z2)]) (fun u => match u with | (pb2, z2) => []) (va_A [(qIIIIAAAIIIII h 1 pg pf pe pz o0 o1 o2 pp pa pl pk pb), (qarI o0 ci N0 w0), (qarI o1 ci N0 w1), (qarI o2 ci N0 w2)] sz)) (va_A [(qIIIIAAAIIIII h 1 pg pf pe pz o0 o1 o2 pp pa pl pk pb), (qarI o0 ci N0 w0), (qarI o1 ci N0 w1), (qarI o2 ci N0 w2)] sz)) 0 0 (va_A [(qIIIIAAAIIIII h 1 pg pf pe pz o0 o1 o2 pp pa pl pk pb), (qarI o0 ci N0 w0), (qarI o1 ci N0 w1), (qarI o2 ci N0 w2)] sz) := by
  refine ofC_v (cc := cX1_lapseIn) (maxL := 3) (ret := none) (by decide) rfl (Nat.le_of_ble_eq_true rfl) ?_
  intro p e s m args below meth c A ls Q F hr hin hlk St hl hQ
  have hx := F.1
  have hb := F.2.1
  have hl : lv_has ls 3 [(0, .ref h), (1, .int x)] := hl
  have St : cS G k [(qIIIIAAAIIIII h 1 pg pf pe pz o0 o1 o2 pp pa pl pk pb), (qarI o0 ci N0 w0), (qarI o1 ci N0 w1), (qarI o2 ci N0 w2)] [(ci, .int)] A s s.heap [] := St
  have y0 : (0 : Int32).toInt = 0 := by decide
  have hpf := hW.1
  skip
  refine lv_aload_n hx hb dX1_lapseIn_0 rfl (lv_at hl 0 rfl) ?_
  refine lv_iconst (v := 1) hx hb dX1_lapseIn_1 (by decide) ?_
  refine cs_put F St 0 rfl rfl inX1 tyX1_ok nmX1 9 (by decide) kf_X1_47 rfl rfl rfl (Nat.le_of_ble_eq_true rfl) (w' := [(qIIIIAAAIIIII h 1 pg pf pe pz o0 o1 o2 pp pa 1 pk pb), (qarI o0 ci N0 w0), (qarI o1 ci N0 w1), (qarI o2 ci N0 w2)]) rfl dX1_lapseIn_2 (fun H locs St => ?_)
  refine lv_aload_n hx hb dX1_lapseIn_5 rfl (lv_at hl 0 rfl) ?_
  refine cs_get F St 0 rfl rfl inX1 11 (by decide) kf_X1_9 rfl dX1_lapseIn_6 ?_
  refine lv_iconst (v := (-1)) hx hb dX1_lapseIn_9 (by decide) ?_
  refine lv_icmp_ne (tgt := 18) hx hb dX1_lapseIn_10 (by decide) (fun c10 => ?_) (fun c10 => ?_)
  ·
    have i10 := ci_ne (x := pb) (y := (-1)) rfl (show ((-1) : Int32).toInt = -1 by decide) c10
    refine lv_iconst (v := 0) hx hb dX1_lapseIn_18 (by decide) ?_
    refine lv_istore_n (lv' := [(2, .int 0), (0, .ref h), (1, .int x)]) hx hb dX1_lapseIn_19 rfl hl (by decide) rfl (fun ls hl => ?_)
    have lp20 : ∀ (n : Nat) (kk : Int32) (qq : Nat → Int32) (H : Heap) (locs : List Loc) (ls : Array Slot), ((0 ≤ kk.toInt ∧ kk.toInt ≤ N0) ∧ qq = fU (cLa w0 w1 w2) (vLa pf pe x.toInt) w2 0 kk.toNatClampNeg) → ((85 - kk.toInt).toNat) < n → cS G k [(qIIIIAAAIIIII h 1 pg pf pe pz o0 o1 o2 pp pa 1 pk pb), (qarI o0 ci N0 w0), (qarI o1 ci N0 w1), (qarI o2 ci N0 qq)] [(ci, .int)] A s H locs → lv_has ls 3 [(2, .int kk), (0, .ref h), (1, .int x)] → W p l e ({ frames := 1, cells := 0, slots := 0, locals := 21 } : Room) s m args below meth c H locs 0 0 Q (F0 m 20 ls []) := by
      intro n
      induction n with
      | zero => intro kk qq H locs ls hI hn; exact absurd hn (Nat.not_lt_zero _)
      | succ n ih =>
        intro kk qq H locs ls hI hn St hl
        obtain ⟨⟨hI0, hI1⟩, hs⟩ := hI
        have nk := nc_int hI0
        have hqk : (qq kk.toNatClampNeg).toInt = (w2 kk.toNatClampNeg).toInt := by rw [hs, fU_in (Nat.zero_le _) (Nat.le_refl _)]
        refine lv_iload_n hx hb dX1_lapseIn_20 rfl (lv_at hl 0 rfl) ?_
        refine lv_aload_n hx hb dX1_lapseIn_21 rfl (lv_at hl 1 rfl) ?_
        refine cs_get F St 0 rfl rfl inX1 3 (by decide) kf_X1_28 rfl dX1_lapseIn_22 ?_
        refine lv_icmp_ge (tgt := 78) hx hb dX1_lapseIn_25 (by decide) (fun c25 => ?_) (fun c25 => ?_)
        ·
          have i25 := ci_le (x := pz) (y := kk) rfl rfl c25
          exact cs_vret F hr hlk hQ St (pb, qq) (fU_at hs (by omega)) [0, 1, 2, 3] rfl (by decide) [] rfl (by decide) (by decide) dX1_lapseIn_78
        ·
          have i25 := ci_nle (x := pz) (y := kk) rfl rfl c25
          have hk9 := hW.2 kk.toNatClampNeg (by omega)
          refine lv_aload_n hx hb dX1_lapseIn_28 rfl (lv_at hl 1 rfl) ?_
          refine cs_get F St 0 rfl rfl inX1 6 (by decide) kf_X1_38 rfl dX1_lapseIn_29 ?_
          refine lv_iload_n hx hb dX1_lapseIn_32 rfl (lv_at hl 0 rfl) ?_
          refine cs_ild F St 3 0 rfl rfl (vp_in_iff.mpr ⟨by omega, by omega⟩) dX1_lapseIn_33 ?_
          refine lv_topi (fun y_1 ey_1 => ?_)
          have gy_1 := congrArg Int32.toInt ey_1
          refine lv_if_ne (tgt := 72) hx hb dX1_lapseIn_34 (by decide) (fun c34 => ?_) (fun c34 => ?_)
          ·
            have i34 := ci_ne (x := y_1) (y := 0) rfl (show (0 : Int32).toInt = 0 by decide) c34
            obtain ⟨y_2, ey_2⟩ : ∃ zz : Int32, zz = kk + 1 := ⟨_, rfl⟩
            first | have jy_2 : y_2.toInt = kk.toInt + 1 := (by have q9 := ci_add (x := kk) rfl (show (1 : Int32).toInt = 1 by decide) ey_2; omega) | have jy_2 := ci_add (x := kk) rfl (show (1 : Int32).toInt = 1 by decide) ey_2
            refine lv_iinc (v := y_2) (lv' := [(2, .int y_2), (0, .ref h), (1, .int x)]) hx hb dX1_lapseIn_72 hl (k := 0) rfl (by rw [ey_2]; rfl) (by decide) rfl (fun ls hl => ?_)
            refine lv_goto (tgt := 20) hx hb dX1_lapseIn_75 (by decide) ?_
            exact ih y_2 qq _ _ _ ⟨⟨by omega, by omega⟩, fU_N hI0 hs (by omega) (fun z_ => absurd (of_decide_eq_true z_) (by omega))⟩ (by omega) St (lv_sub hl [0, 1, 2] rfl)
          ·
            have i34 := ci_eq (x := y_1) (y := 0) rfl (show (0 : Int32).toInt = 0 by decide) c34
            refine lv_aload_n hx hb dX1_lapseIn_37 rfl (lv_at hl 1 rfl) ?_
            refine cs_get F St 0 rfl rfl inX1 5 (by decide) kf_X1_35 rfl dX1_lapseIn_38 ?_
            refine lv_iload_n hx hb dX1_lapseIn_41 rfl (lv_at hl 0 rfl) ?_
            refine cs_ild F St 2 0 rfl rfl (vp_in_iff.mpr ⟨by omega, by omega⟩) dX1_lapseIn_42 ?_
            refine lv_topi (fun y_3 ey_3 => ?_)
            have gy_3 := congrArg Int32.toInt ey_3
            refine lv_aload_n hx hb dX1_lapseIn_43 rfl (lv_at hl 1 rfl) ?_
            refine cs_get F St 0 rfl rfl inX1 4 (by decide) kf_X1_31 rfl dX1_lapseIn_44 ?_
            refine lv_iload_n hx hb dX1_lapseIn_47 rfl (lv_at hl 0 rfl) ?_
            refine cs_ild F St 1 0 rfl rfl (vp_in_iff.mpr ⟨by omega, by omega⟩) dX1_lapseIn_48 ?_
            refine lv_topi (fun y_4 ey_4 => ?_)
            have gy_4 := congrArg Int32.toInt ey_4
            refine lv_icmp_ge (tgt := 72) hx hb dX1_lapseIn_49 (by decide) (fun c49 => ?_) (fun c49 => ?_)
            ·
              have i49 := ci_le (x := y_4) (y := y_3) rfl rfl c49
              obtain ⟨y_5, ey_5⟩ : ∃ zz : Int32, zz = kk + 1 := ⟨_, rfl⟩
              first | have jy_5 : y_5.toInt = kk.toInt + 1 := (by have q9 := ci_add (x := kk) rfl (show (1 : Int32).toInt = 1 by decide) ey_5; omega) | have jy_5 := ci_add (x := kk) rfl (show (1 : Int32).toInt = 1 by decide) ey_5
              refine lv_iinc (v := y_5) (lv' := [(2, .int y_5), (0, .ref h), (1, .int x)]) hx hb dX1_lapseIn_72 hl (k := 0) rfl (by rw [ey_5]; rfl) (by decide) rfl (fun ls hl => ?_)
              refine lv_goto (tgt := 20) hx hb dX1_lapseIn_75 (by decide) ?_
              exact ih y_5 qq _ _ _ ⟨⟨by omega, by omega⟩, fU_N hI0 hs (by omega) (fun z_ => absurd (of_decide_eq_true z_) (by omega))⟩ (by omega) St (lv_sub hl [0, 1, 2] rfl)
            ·
              have i49 := ci_nle (x := y_4) (y := y_3) rfl rfl c49
              refine lv_aload_n hx hb dX1_lapseIn_52 rfl (lv_at hl 1 rfl) ?_
              refine cs_get F St 0 rfl rfl inX1 6 (by decide) kf_X1_38 rfl dX1_lapseIn_53 ?_
              refine lv_iload_n hx hb dX1_lapseIn_56 rfl (lv_at hl 0 rfl) ?_
              refine lv_aload_n hx hb dX1_lapseIn_57 rfl (lv_at hl 1 rfl) ?_
              refine lv_iload_n hx hb dX1_lapseIn_58 rfl (lv_at hl 0 rfl) ?_
              refine cs_i St [0, 1, 2, 3] [] (wc := [(qIIIIAAAIIIII h 1 pg pf pe pz o0 o1 o2 pp pa 1 pk pb), (qarI o0 ci N0 w0), (qarI o1 ci N0 w1), (qarI o2 ci N0 qq)]) (wr := []) rfl rfl (by decide) (by decide) (va_runV (As := [.int kk]) (rest := [.int kk, .ref o2]) F (e1_monthOf l G k _ h o0 o1 o2 N0 ci pg pf pe pz pp pa 1 pk pb w0 w1 qq kk (by first | assumption | omega) (by first | assumption | omega) (by omega) (by omega) (by omega)) (cwVt F mf_X1_monthOf km_X1_54 rfl rfl ⟨Nat.le_of_ble_eq_true rfl, Nat.le_of_ble_eq_true rfl⟩) (cs_preV St [0, 1, 2, 3] rfl (by decide) [0] rfl (ci := 1) (q0 := 0) rfl rfl) rfl rfl hl.1 rfl (lv_room (Nat.le_of_ble_eq_true rfl)) dX1_lapseIn_59 ⟨Nat.le_of_ble_eq_true rfl, Nat.le_of_ble_eq_true rfl⟩) (fun r_6 u_7 H locs hw St => ?_)
              try dsimp only at hw
              have hm_8 := hw
              have St : cS G k [(qIIIIAAAIIIII h 1 pg pf pe pz o0 o1 o2 pp pa 1 pk pb), (qarI o0 ci N0 w0), (qarI o1 ci N0 w1), (qarI o2 ci N0 qq)] [(ci, .int)] A s H locs := St
              refine lv_iload_n hx hb dX1_lapseIn_62 rfl (lv_at hl 2 rfl) ?_
              refine lv_icmp_gt (tgt := 70) hx hb dX1_lapseIn_63 (by decide) (fun c63 => ?_) (fun c63 => ?_)
              ·
                have i63 := ci_lt (x := x) (y := r_6) rfl rfl c63
                refine lv_iconst (v := 2) hx hb dX1_lapseIn_70 (by decide) ?_
                skip
                refine cs_ist F St 3 0 rfl rfl (vp_in_iff.mpr ⟨by omega, by omega⟩) (w' := [(qIIIIAAAIIIII h 1 pg pf pe pz o0 o1 o2 pp pa 1 pk pb), (qarI o0 ci N0 w0), (qarI o1 ci N0 w1), (qarI o2 ci N0 (upd qq (kk : Int32).toNatClampNeg 2))]) rfl dX1_lapseIn_71 (fun H locs St => ?_)
                obtain ⟨f_9, ef_9⟩ : ∃ zz : Nat → Int32, zz = upd qq (kk : Int32).toNatClampNeg 2 := ⟨_, rfl⟩
                rw [← ef_9] at St
                obtain ⟨y_10, ey_10⟩ : ∃ zz : Int32, zz = kk + 1 := ⟨_, rfl⟩
                first | have jy_10 : y_10.toInt = kk.toInt + 1 := (by have q9 := ci_add (x := kk) rfl (show (1 : Int32).toInt = 1 by decide) ey_10; omega) | have jy_10 := ci_add (x := kk) rfl (show (1 : Int32).toInt = 1 by decide) ey_10
                refine lv_iinc (v := y_10) (lv' := [(2, .int y_10), (0, .ref h), (1, .int x)]) hx hb dX1_lapseIn_72 hl (k := 0) rfl (by rw [ey_10]; rfl) (by decide) rfl (fun ls hl => ?_)
                refine lv_goto (tgt := 20) hx hb dX1_lapseIn_75 (by decide) ?_
                exact ih y_10 f_9 _ _ _ ⟨⟨by omega, by omega⟩, by rw [ef_9]; exact fU_Y hI0 (Nat.zero_le _) hs (by omega) (decide_eq_true (by omega)) (if_neg (by omega)).symm⟩ (by omega) St (lv_sub hl [0, 1, 2] rfl)
              ·
                have i63 := ci_nlt (x := x) (y := r_6) rfl rfl c63
                refine lv_iconst (v := 1) hx hb dX1_lapseIn_66 (by decide) ?_
                refine lv_goto (tgt := 71) hx hb dX1_lapseIn_67 (by decide) ?_
                skip
                refine cs_ist F St 3 0 rfl rfl (vp_in_iff.mpr ⟨by omega, by omega⟩) (w' := [(qIIIIAAAIIIII h 1 pg pf pe pz o0 o1 o2 pp pa 1 pk pb), (qarI o0 ci N0 w0), (qarI o1 ci N0 w1), (qarI o2 ci N0 (upd qq (kk : Int32).toNatClampNeg 1))]) rfl dX1_lapseIn_71 (fun H locs St => ?_)
                obtain ⟨f_11, ef_11⟩ : ∃ zz : Nat → Int32, zz = upd qq (kk : Int32).toNatClampNeg 1 := ⟨_, rfl⟩
                rw [← ef_11] at St
                obtain ⟨y_12, ey_12⟩ : ∃ zz : Int32, zz = kk + 1 := ⟨_, rfl⟩
                first | have jy_12 : y_12.toInt = kk.toInt + 1 := (by have q9 := ci_add (x := kk) rfl (show (1 : Int32).toInt = 1 by decide) ey_12; omega) | have jy_12 := ci_add (x := kk) rfl (show (1 : Int32).toInt = 1 by decide) ey_12
                refine lv_iinc (v := y_12) (lv' := [(2, .int y_12), (0, .ref h), (1, .int x)]) hx hb dX1_lapseIn_72 hl (k := 0) rfl (by rw [ey_12]; rfl) (by decide) rfl (fun ls hl => ?_)
                refine lv_goto (tgt := 20) hx hb dX1_lapseIn_75 (by decide) ?_
                exact ih y_12 f_11 _ _ _ ⟨⟨by omega, by omega⟩, by rw [ef_11]; exact fU_Y hI0 (Nat.zero_le _) hs (by omega) (decide_eq_true (by omega)) (if_pos (by omega)).symm⟩ (by omega) St (lv_sub hl [0, 1, 2] rfl)
    exact lp20 86 0 w2 _ _ _ ⟨⟨by omega, by omega⟩, fU_0.symm⟩ (by omega) St (lv_sub hl [0, 1, 2] rfl)
  ·
    have i10 := ci_eq (x := pb) (y := (-1)) rfl (show ((-1) : Int32).toInt = -1 by decide) c10
    refine lv_aload_n hx hb dX1_lapseIn_13 rfl (lv_at hl 0 rfl) ?_
    refine lv_iload_n hx hb dX1_lapseIn_14 rfl (lv_at hl 1 rfl) ?_
    refine cs_put F St 0 rfl rfl inX1 tyX1_ok nmX1 11 (by decide) kf_X1_9 rfl rfl rfl (Nat.le_of_ble_eq_true rfl) (w' := [(qIIIIAAAIIIII h 1 pg pf pe pz o0 o1 o2 pp pa 1 pk x), (qarI o0 ci N0 w0), (qarI o1 ci N0 w1), (qarI o2 ci N0 w2)]) rfl dX1_lapseIn_15 (fun H locs St => ?_)
    refine lv_iconst (v := 0) hx hb dX1_lapseIn_18 (by decide) ?_
    refine lv_istore_n (lv' := [(2, .int 0), (0, .ref h), (1, .int x)]) hx hb dX1_lapseIn_19 rfl hl (by decide) rfl (fun ls hl => ?_)
    have lp20 : ∀ (n : Nat) (kk : Int32) (qq : Nat → Int32) (H : Heap) (locs : List Loc) (ls : Array Slot), ((0 ≤ kk.toInt ∧ kk.toInt ≤ N0) ∧ qq = fU (cLa w0 w1 w2) (vLa pf pe x.toInt) w2 0 kk.toNatClampNeg) → ((85 - kk.toInt).toNat) < n → cS G k [(qIIIIAAAIIIII h 1 pg pf pe pz o0 o1 o2 pp pa 1 pk x), (qarI o0 ci N0 w0), (qarI o1 ci N0 w1), (qarI o2 ci N0 qq)] [(ci, .int)] A s H locs → lv_has ls 3 [(2, .int kk), (0, .ref h), (1, .int x)] → W p l e ({ frames := 1, cells := 0, slots := 0, locals := 21 } : Room) s m args below meth c H locs 0 0 Q (F0 m 20 ls []) := by
      intro n
      induction n with
      | zero => intro kk qq H locs ls hI hn; exact absurd hn (Nat.not_lt_zero _)
      | succ n ih =>
        intro kk qq H locs ls hI hn St hl
        obtain ⟨⟨hI0, hI1⟩, hs⟩ := hI
        have nk := nc_int hI0
        have hqk : (qq kk.toNatClampNeg).toInt = (w2 kk.toNatClampNeg).toInt := by rw [hs, fU_in (Nat.zero_le _) (Nat.le_refl _)]
        refine lv_iload_n hx hb dX1_lapseIn_20 rfl (lv_at hl 0 rfl) ?_
        refine lv_aload_n hx hb dX1_lapseIn_21 rfl (lv_at hl 1 rfl) ?_
        refine cs_get F St 0 rfl rfl inX1 3 (by decide) kf_X1_28 rfl dX1_lapseIn_22 ?_
        refine lv_icmp_ge (tgt := 78) hx hb dX1_lapseIn_25 (by decide) (fun c25 => ?_) (fun c25 => ?_)
        ·
          have i25 := ci_le (x := pz) (y := kk) rfl rfl c25
          exact cs_vret F hr hlk hQ St (x, qq) (fU_at hs (by omega)) [0, 1, 2, 3] rfl (by decide) [] rfl (by decide) (by decide) dX1_lapseIn_78
        ·
          have i25 := ci_nle (x := pz) (y := kk) rfl rfl c25
          have hk9 := hW.2 kk.toNatClampNeg (by omega)
          refine lv_aload_n hx hb dX1_lapseIn_28 rfl (lv_at hl 1 rfl) ?_
          refine cs_get F St 0 rfl rfl inX1 6 (by decide) kf_X1_38 rfl dX1_lapseIn_29 ?_
          refine lv_iload_n hx hb dX1_lapseIn_32 rfl (lv_at hl 0 rfl) ?_
          refine cs_ild F St 3 0 rfl rfl (vp_in_iff.mpr ⟨by omega, by omega⟩) dX1_lapseIn_33 ?_
          refine lv_topi (fun y_13 ey_13 => ?_)
          have gy_13 := congrArg Int32.toInt ey_13
          refine lv_if_ne (tgt := 72) hx hb dX1_lapseIn_34 (by decide) (fun c34 => ?_) (fun c34 => ?_)
          ·
            have i34 := ci_ne (x := y_13) (y := 0) rfl (show (0 : Int32).toInt = 0 by decide) c34
            obtain ⟨y_14, ey_14⟩ : ∃ zz : Int32, zz = kk + 1 := ⟨_, rfl⟩
            first | have jy_14 : y_14.toInt = kk.toInt + 1 := (by have q9 := ci_add (x := kk) rfl (show (1 : Int32).toInt = 1 by decide) ey_14; omega) | have jy_14 := ci_add (x := kk) rfl (show (1 : Int32).toInt = 1 by decide) ey_14
            refine lv_iinc (v := y_14) (lv' := [(2, .int y_14), (0, .ref h), (1, .int x)]) hx hb dX1_lapseIn_72 hl (k := 0) rfl (by rw [ey_14]; rfl) (by decide) rfl (fun ls hl => ?_)
            refine lv_goto (tgt := 20) hx hb dX1_lapseIn_75 (by decide) ?_
            exact ih y_14 qq _ _ _ ⟨⟨by omega, by omega⟩, fU_N hI0 hs (by omega) (fun z_ => absurd (of_decide_eq_true z_) (by omega))⟩ (by omega) St (lv_sub hl [0, 1, 2] rfl)
          ·
            have i34 := ci_eq (x := y_13) (y := 0) rfl (show (0 : Int32).toInt = 0 by decide) c34
            refine lv_aload_n hx hb dX1_lapseIn_37 rfl (lv_at hl 1 rfl) ?_
            refine cs_get F St 0 rfl rfl inX1 5 (by decide) kf_X1_35 rfl dX1_lapseIn_38 ?_
            refine lv_iload_n hx hb dX1_lapseIn_41 rfl (lv_at hl 0 rfl) ?_
            refine cs_ild F St 2 0 rfl rfl (vp_in_iff.mpr ⟨by omega, by omega⟩) dX1_lapseIn_42 ?_
            refine lv_topi (fun y_15 ey_15 => ?_)
            have gy_15 := congrArg Int32.toInt ey_15
            refine lv_aload_n hx hb dX1_lapseIn_43 rfl (lv_at hl 1 rfl) ?_
            refine cs_get F St 0 rfl rfl inX1 4 (by decide) kf_X1_31 rfl dX1_lapseIn_44 ?_
            refine lv_iload_n hx hb dX1_lapseIn_47 rfl (lv_at hl 0 rfl) ?_
            refine cs_ild F St 1 0 rfl rfl (vp_in_iff.mpr ⟨by omega, by omega⟩) dX1_lapseIn_48 ?_
            refine lv_topi (fun y_16 ey_16 => ?_)
            have gy_16 := congrArg Int32.toInt ey_16
            refine lv_icmp_ge (tgt := 72) hx hb dX1_lapseIn_49 (by decide) (fun c49 => ?_) (fun c49 => ?_)
            ·
              have i49 := ci_le (x := y_16) (y := y_15) rfl rfl c49
              obtain ⟨y_17, ey_17⟩ : ∃ zz : Int32, zz = kk + 1 := ⟨_, rfl⟩
              first | have jy_17 : y_17.toInt = kk.toInt + 1 := (by have q9 := ci_add (x := kk) rfl (show (1 : Int32).toInt = 1 by decide) ey_17; omega) | have jy_17 := ci_add (x := kk) rfl (show (1 : Int32).toInt = 1 by decide) ey_17
              refine lv_iinc (v := y_17) (lv' := [(2, .int y_17), (0, .ref h), (1, .int x)]) hx hb dX1_lapseIn_72 hl (k := 0) rfl (by rw [ey_17]; rfl) (by decide) rfl (fun ls hl => ?_)
              refine lv_goto (tgt := 20) hx hb dX1_lapseIn_75 (by decide) ?_
              exact ih y_17 qq _ _ _ ⟨⟨by omega, by omega⟩, fU_N hI0 hs (by omega) (fun z_ => absurd (of_decide_eq_true z_) (by omega))⟩ (by omega) St (lv_sub hl [0, 1, 2] rfl)
            ·
              have i49 := ci_nle (x := y_16) (y := y_15) rfl rfl c49
              refine lv_aload_n hx hb dX1_lapseIn_52 rfl (lv_at hl 1 rfl) ?_
              refine cs_get F St 0 rfl rfl inX1 6 (by decide) kf_X1_38 rfl dX1_lapseIn_53 ?_
              refine lv_iload_n hx hb dX1_lapseIn_56 rfl (lv_at hl 0 rfl) ?_
              refine lv_aload_n hx hb dX1_lapseIn_57 rfl (lv_at hl 1 rfl) ?_
              refine lv_iload_n hx hb dX1_lapseIn_58 rfl (lv_at hl 0 rfl) ?_
              refine cs_i St [0, 1, 2, 3] [] (wc := [(qIIIIAAAIIIII h 1 pg pf pe pz o0 o1 o2 pp pa 1 pk x), (qarI o0 ci N0 w0), (qarI o1 ci N0 w1), (qarI o2 ci N0 qq)]) (wr := []) rfl rfl (by decide) (by decide) (va_runV (As := [.int kk]) (rest := [.int kk, .ref o2]) F (e1_monthOf l G k _ h o0 o1 o2 N0 ci pg pf pe pz pp pa 1 pk x w0 w1 qq kk (by first | assumption | omega) (by first | assumption | omega) (by omega) (by omega) (by omega)) (cwVt F mf_X1_monthOf km_X1_54 rfl rfl ⟨Nat.le_of_ble_eq_true rfl, Nat.le_of_ble_eq_true rfl⟩) (cs_preV St [0, 1, 2, 3] rfl (by decide) [0] rfl (ci := 1) (q0 := 0) rfl rfl) rfl rfl hl.1 rfl (lv_room (Nat.le_of_ble_eq_true rfl)) dX1_lapseIn_59 ⟨Nat.le_of_ble_eq_true rfl, Nat.le_of_ble_eq_true rfl⟩) (fun r_18 u_19 H locs hw St => ?_)
              try dsimp only at hw
              have hm_20 := hw
              have St : cS G k [(qIIIIAAAIIIII h 1 pg pf pe pz o0 o1 o2 pp pa 1 pk x), (qarI o0 ci N0 w0), (qarI o1 ci N0 w1), (qarI o2 ci N0 qq)] [(ci, .int)] A s H locs := St
              refine lv_iload_n hx hb dX1_lapseIn_62 rfl (lv_at hl 2 rfl) ?_
              refine lv_icmp_gt (tgt := 70) hx hb dX1_lapseIn_63 (by decide) (fun c63 => ?_) (fun c63 => ?_)
              ·
                have i63 := ci_lt (x := x) (y := r_18) rfl rfl c63
                refine lv_iconst (v := 2) hx hb dX1_lapseIn_70 (by decide) ?_
                skip
                refine cs_ist F St 3 0 rfl rfl (vp_in_iff.mpr ⟨by omega, by omega⟩) (w' := [(qIIIIAAAIIIII h 1 pg pf pe pz o0 o1 o2 pp pa 1 pk x), (qarI o0 ci N0 w0), (qarI o1 ci N0 w1), (qarI o2 ci N0 (upd qq (kk : Int32).toNatClampNeg 2))]) rfl dX1_lapseIn_71 (fun H locs St => ?_)
                obtain ⟨f_21, ef_21⟩ : ∃ zz : Nat → Int32, zz = upd qq (kk : Int32).toNatClampNeg 2 := ⟨_, rfl⟩
                rw [← ef_21] at St
                obtain ⟨y_22, ey_22⟩ : ∃ zz : Int32, zz = kk + 1 := ⟨_, rfl⟩
                first | have jy_22 : y_22.toInt = kk.toInt + 1 := (by have q9 := ci_add (x := kk) rfl (show (1 : Int32).toInt = 1 by decide) ey_22; omega) | have jy_22 := ci_add (x := kk) rfl (show (1 : Int32).toInt = 1 by decide) ey_22
                refine lv_iinc (v := y_22) (lv' := [(2, .int y_22), (0, .ref h), (1, .int x)]) hx hb dX1_lapseIn_72 hl (k := 0) rfl (by rw [ey_22]; rfl) (by decide) rfl (fun ls hl => ?_)
                refine lv_goto (tgt := 20) hx hb dX1_lapseIn_75 (by decide) ?_
                exact ih y_22 f_21 _ _ _ ⟨⟨by omega, by omega⟩, by rw [ef_21]; exact fU_Y hI0 (Nat.zero_le _) hs (by omega) (decide_eq_true (by omega)) (if_neg (by omega)).symm⟩ (by omega) St (lv_sub hl [0, 1, 2] rfl)
              ·
                have i63 := ci_nlt (x := x) (y := r_18) rfl rfl c63
                refine lv_iconst (v := 1) hx hb dX1_lapseIn_66 (by decide) ?_
                refine lv_goto (tgt := 71) hx hb dX1_lapseIn_67 (by decide) ?_
                skip
                refine cs_ist F St 3 0 rfl rfl (vp_in_iff.mpr ⟨by omega, by omega⟩) (w' := [(qIIIIAAAIIIII h 1 pg pf pe pz o0 o1 o2 pp pa 1 pk x), (qarI o0 ci N0 w0), (qarI o1 ci N0 w1), (qarI o2 ci N0 (upd qq (kk : Int32).toNatClampNeg 1))]) rfl dX1_lapseIn_71 (fun H locs St => ?_)
                obtain ⟨f_23, ef_23⟩ : ∃ zz : Nat → Int32, zz = upd qq (kk : Int32).toNatClampNeg 1 := ⟨_, rfl⟩
                rw [← ef_23] at St
                obtain ⟨y_24, ey_24⟩ : ∃ zz : Int32, zz = kk + 1 := ⟨_, rfl⟩
                first | have jy_24 : y_24.toInt = kk.toInt + 1 := (by have q9 := ci_add (x := kk) rfl (show (1 : Int32).toInt = 1 by decide) ey_24; omega) | have jy_24 := ci_add (x := kk) rfl (show (1 : Int32).toInt = 1 by decide) ey_24
                refine lv_iinc (v := y_24) (lv' := [(2, .int y_24), (0, .ref h), (1, .int x)]) hx hb dX1_lapseIn_72 hl (k := 0) rfl (by rw [ey_24]; rfl) (by decide) rfl (fun ls hl => ?_)
                refine lv_goto (tgt := 20) hx hb dX1_lapseIn_75 (by decide) ?_
                exact ih y_24 f_23 _ _ _ ⟨⟨by omega, by omega⟩, by rw [ef_23]; exact fU_Y hI0 (Nat.zero_le _) hs (by omega) (decide_eq_true (by omega)) (if_pos (by omega)).symm⟩ (by omega) St (lv_sub hl [0, 1, 2] rfl)
    exact lp20 86 0 w2 _ _ _ ⟨⟨by omega, by omega⟩, fU_0.symm⟩ (by omega) St (lv_sub hl [0, 1, 2] rfl)
set_option maxHeartbeats 4000000 in
set_option maxRecDepth 100000 in
theorem e1_standAgain (l : Launch) (G : va_G) (k : Nat → Nat) (sz : Nat) (h : Nat) (o0 : Nat) (o1 : Nat) (o2 : Nat) (N0 : Nat) (ci : ClassId) (pg : Int32) (pf : Int32) (pe : Int32) (pz : Int32) (pp : Int32) (pa : Int32) (pl : Int32) (pk : Int32) (pb : Int32) (w0 : Nat → Int32) (w1 : Nat → Int32) (w2 : Nat → Int32) (x : Int32) (hN : (N0 : Int) = pz.toInt) (hN4 : N0 ≤ 84) (hW : wfP pf pe N0 w0 w1 w2) : Met l yX1_standAgain (Cond.code yX1_standAgain cX1_standAgain 3 none :: tb) ({ frames := 1, cells := 0, slots := 0, locals := 21 } : Room) (va_Pc [.ref h, .int x] (cP G k [(qIIIIAAAIIIII h 1 pg pf pe pz o0 o1 o2 pp pa pl pk pb), (qarI o0 ci N0 w0), (qarI o1 ci N0 w1), (qarI o2 ci N0 w2)] [(ci, .int)] sz)) (va_Qv (fun (z2 : (Nat → Int32)) => (z2 = fU (cTk pf pe w2 x.toInt) (fun _ => 0) w2 0 N0)) (cB G (fun (z2 : (Nat → Int32)) => [(qIIIIAAAIIIII h 1 pg pf pe pz o0 o1 o2 pp pa 0 1 pb), (qarI o0 ci N0 w0), (qarI o1 ci N0 w1), (qarI o2 ci N0 z2)]) (fun (z2 : (Nat → Int32)) => []) (va_A [(qIIIIAAAIIIII h 1 pg pf pe pz o0 o1 o2 pp pa pl pk pb), (qarI o0 ci N0 w0), (qarI o1 ci N0 w1), (qarI o2 ci N0 w2)] sz)) (va_A [(qIIIIAAAIIIII h 1 pg pf pe pz o0 o1 o2 pp pa pl pk pb), (qarI o0 ci N0 w0), (qarI o1 ci N0 w1), (qarI o2 ci N0 w2)] sz)) 0 0 (va_A [(qIIIIAAAIIIII h 1 pg pf pe pz o0 o1 o2 pp pa pl pk pb), (qarI o0 ci N0 w0), (qarI o1 ci N0 w1), (qarI o2 ci N0 w2)] sz) := by
  refine ofC_v (cc := cX1_standAgain) (maxL := 3) (ret := none) (by decide) rfl (Nat.le_of_ble_eq_true rfl) ?_
  intro p e s m args below meth c A ls Q F hr hin hlk St hl hQ
  have hx := F.1
  have hb := F.2.1
  have hl : lv_has ls 3 [(0, .ref h), (1, .int x)] := hl
  have St : cS G k [(qIIIIAAAIIIII h 1 pg pf pe pz o0 o1 o2 pp pa pl pk pb), (qarI o0 ci N0 w0), (qarI o1 ci N0 w1), (qarI o2 ci N0 w2)] [(ci, .int)] A s s.heap [] := St
  have y0 : (0 : Int32).toInt = 0 := by decide
  have hpf := hW.1
  have y2 : (2 : Int32).toInt = 2 := by decide
  skip
  refine lv_aload_n hx hb dX1_standAgain_0 rfl (lv_at hl 0 rfl) ?_
  refine lv_iconst (v := 0) hx hb dX1_standAgain_1 (by decide) ?_
  refine cs_put F St 0 rfl rfl inX1 tyX1_ok nmX1 9 (by decide) kf_X1_47 rfl rfl rfl (Nat.le_of_ble_eq_true rfl) (w' := [(qIIIIAAAIIIII h 1 pg pf pe pz o0 o1 o2 pp pa 0 pk pb), (qarI o0 ci N0 w0), (qarI o1 ci N0 w1), (qarI o2 ci N0 w2)]) rfl dX1_standAgain_2 (fun H locs St => ?_)
  refine lv_aload_n hx hb dX1_standAgain_5 rfl (lv_at hl 0 rfl) ?_
  refine lv_iconst (v := 1) hx hb dX1_standAgain_6 (by decide) ?_
  refine cs_put F St 0 rfl rfl inX1 tyX1_ok nmX1 10 (by decide) kf_X1_51 rfl rfl rfl (Nat.le_of_ble_eq_true rfl) (w' := [(qIIIIAAAIIIII h 1 pg pf pe pz o0 o1 o2 pp pa 0 1 pb), (qarI o0 ci N0 w0), (qarI o1 ci N0 w1), (qarI o2 ci N0 w2)]) rfl dX1_standAgain_7 (fun H locs St => ?_)
  refine lv_iconst (v := 0) hx hb dX1_standAgain_10 (by decide) ?_
  refine lv_istore_n (lv' := [(2, .int 0), (0, .ref h), (1, .int x)]) hx hb dX1_standAgain_11 rfl hl (by decide) rfl (fun ls hl => ?_)
  have lp12 : ∀ (n : Nat) (kk : Int32) (qq : Nat → Int32) (H : Heap) (locs : List Loc) (ls : Array Slot), ((0 ≤ kk.toInt ∧ kk.toInt ≤ N0) ∧ qq = fU (cTk pf pe w2 x.toInt) (fun _ => 0) w2 0 kk.toNatClampNeg) → ((85 - kk.toInt).toNat) < n → cS G k [(qIIIIAAAIIIII h 1 pg pf pe pz o0 o1 o2 pp pa 0 1 pb), (qarI o0 ci N0 w0), (qarI o1 ci N0 w1), (qarI o2 ci N0 qq)] [(ci, .int)] A s H locs → lv_has ls 3 [(2, .int kk), (0, .ref h), (1, .int x)] → W p l e ({ frames := 1, cells := 0, slots := 0, locals := 21 } : Room) s m args below meth c H locs 0 0 Q (F0 m 12 ls []) := by
    intro n
    induction n with
    | zero => intro kk qq H locs ls hI hn; exact absurd hn (Nat.not_lt_zero _)
    | succ n ih =>
      intro kk qq H locs ls hI hn St hl
      obtain ⟨⟨hI0, hI1⟩, hs⟩ := hI
      have nk := nc_int hI0
      have hqk : (qq kk.toNatClampNeg).toInt = (w2 kk.toNatClampNeg).toInt := by rw [hs, fU_in (Nat.zero_le _) (Nat.le_refl _)]
      refine lv_iload_n hx hb dX1_standAgain_12 rfl (lv_at hl 0 rfl) ?_
      refine lv_aload_n hx hb dX1_standAgain_13 rfl (lv_at hl 1 rfl) ?_
      refine cs_get F St 0 rfl rfl inX1 3 (by decide) kf_X1_28 rfl dX1_standAgain_14 ?_
      refine lv_icmp_ge (tgt := 52) hx hb dX1_standAgain_17 (by decide) (fun c17 => ?_) (fun c17 => ?_)
      ·
        have i17 := ci_le (x := pz) (y := kk) rfl rfl c17
        exact cs_vret F hr hlk hQ St qq (fU_at hs (by omega)) [0, 1, 2, 3] rfl (by decide) [] rfl (by decide) (by decide) dX1_standAgain_52
      ·
        have i17 := ci_nle (x := pz) (y := kk) rfl rfl c17
        have hk9 := hW.2 kk.toNatClampNeg (by omega)
        refine lv_aload_n hx hb dX1_standAgain_20 rfl (lv_at hl 1 rfl) ?_
        refine lv_iload_n hx hb dX1_standAgain_21 rfl (lv_at hl 0 rfl) ?_
        refine cs_i St [0, 1, 2, 3] [] (wc := [(qIIIIAAAIIIII h 1 pg pf pe pz o0 o1 o2 pp pa 0 1 pb), (qarI o0 ci N0 w0), (qarI o1 ci N0 w1), (qarI o2 ci N0 qq)]) (wr := []) rfl rfl (by decide) (by decide) (va_runV (As := [.int kk]) (rest := []) F (e1_monthOf l G k _ h o0 o1 o2 N0 ci pg pf pe pz pp pa 0 1 pb w0 w1 qq kk (by first | assumption | omega) (by first | assumption | omega) (by omega) (by omega) (by omega)) (cwVt F mf_X1_monthOf km_X1_54 rfl rfl ⟨Nat.le_of_ble_eq_true rfl, Nat.le_of_ble_eq_true rfl⟩) (cs_preV St [0, 1, 2, 3] rfl (by decide) [0] rfl (ci := 1) (q0 := 0) rfl rfl) rfl rfl hl.1 rfl (lv_room (Nat.le_of_ble_eq_true rfl)) dX1_standAgain_22 ⟨Nat.le_of_ble_eq_true rfl, Nat.le_of_ble_eq_true rfl⟩) (fun r_1 u_2 H locs hw St => ?_)
        try dsimp only at hw
        have hm_3 := hw
        have St : cS G k [(qIIIIAAAIIIII h 1 pg pf pe pz o0 o1 o2 pp pa 0 1 pb), (qarI o0 ci N0 w0), (qarI o1 ci N0 w1), (qarI o2 ci N0 qq)] [(ci, .int)] A s H locs := St
        refine lv_iload_n hx hb dX1_standAgain_25 rfl (lv_at hl 2 rfl) ?_
        refine lv_icmp_le (tgt := 46) hx hb dX1_standAgain_26 (by decide) (fun c26 => ?_) (fun c26 => ?_)
        ·
          have i26 := ci_le (x := r_1) (y := x) rfl rfl c26
          obtain ⟨y_4, ey_4⟩ : ∃ zz : Int32, zz = kk + 1 := ⟨_, rfl⟩
          first | have jy_4 : y_4.toInt = kk.toInt + 1 := (by have q9 := ci_add (x := kk) rfl (show (1 : Int32).toInt = 1 by decide) ey_4; omega) | have jy_4 := ci_add (x := kk) rfl (show (1 : Int32).toInt = 1 by decide) ey_4
          refine lv_iinc (v := y_4) (lv' := [(2, .int y_4), (0, .ref h), (1, .int x)]) hx hb dX1_standAgain_46 hl (k := 0) rfl (by rw [ey_4]; rfl) (by decide) rfl (fun ls hl => ?_)
          refine lv_goto (tgt := 12) hx hb dX1_standAgain_49 (by decide) ?_
          exact ih y_4 qq _ _ _ ⟨⟨by omega, by omega⟩, fU_N hI0 hs (by omega) (fun z_ => absurd (of_decide_eq_true z_) (by omega))⟩ (by omega) St (lv_sub hl [0, 1, 2] rfl)
        ·
          have i26 := ci_nle (x := r_1) (y := x) rfl rfl c26
          refine lv_aload_n hx hb dX1_standAgain_29 rfl (lv_at hl 1 rfl) ?_
          refine cs_get F St 0 rfl rfl inX1 6 (by decide) kf_X1_38 rfl dX1_standAgain_30 ?_
          refine lv_iload_n hx hb dX1_standAgain_33 rfl (lv_at hl 0 rfl) ?_
          refine cs_ild F St 3 0 rfl rfl (vp_in_iff.mpr ⟨by omega, by omega⟩) dX1_standAgain_34 ?_
          refine lv_topi (fun y_5 ey_5 => ?_)
          have gy_5 := congrArg Int32.toInt ey_5
          refine lv_iconst (v := 2) hx hb dX1_standAgain_35 (by decide) ?_
          refine lv_icmp_ne (tgt := 46) hx hb dX1_standAgain_36 (by decide) (fun c36 => ?_) (fun c36 => ?_)
          ·
            have i36 := ci_ne (x := y_5) (y := 2) rfl (show (2 : Int32).toInt = 2 by decide) c36
            obtain ⟨y_6, ey_6⟩ : ∃ zz : Int32, zz = kk + 1 := ⟨_, rfl⟩
            first | have jy_6 : y_6.toInt = kk.toInt + 1 := (by have q9 := ci_add (x := kk) rfl (show (1 : Int32).toInt = 1 by decide) ey_6; omega) | have jy_6 := ci_add (x := kk) rfl (show (1 : Int32).toInt = 1 by decide) ey_6
            refine lv_iinc (v := y_6) (lv' := [(2, .int y_6), (0, .ref h), (1, .int x)]) hx hb dX1_standAgain_46 hl (k := 0) rfl (by rw [ey_6]; rfl) (by decide) rfl (fun ls hl => ?_)
            refine lv_goto (tgt := 12) hx hb dX1_standAgain_49 (by decide) ?_
            exact ih y_6 qq _ _ _ ⟨⟨by omega, by omega⟩, fU_N hI0 hs (by omega) (fun z_ => absurd (of_decide_eq_true z_) (by omega))⟩ (by omega) St (lv_sub hl [0, 1, 2] rfl)
          ·
            have i36 := ci_eq (x := y_5) (y := 2) rfl (show (2 : Int32).toInt = 2 by decide) c36
            refine lv_aload_n hx hb dX1_standAgain_39 rfl (lv_at hl 1 rfl) ?_
            refine cs_get F St 0 rfl rfl inX1 6 (by decide) kf_X1_38 rfl dX1_standAgain_40 ?_
            refine lv_iload_n hx hb dX1_standAgain_43 rfl (lv_at hl 0 rfl) ?_
            refine lv_iconst (v := 0) hx hb dX1_standAgain_44 (by decide) ?_
            refine cs_ist F St 3 0 rfl rfl (vp_in_iff.mpr ⟨by omega, by omega⟩) (w' := [(qIIIIAAAIIIII h 1 pg pf pe pz o0 o1 o2 pp pa 0 1 pb), (qarI o0 ci N0 w0), (qarI o1 ci N0 w1), (qarI o2 ci N0 (upd qq (kk : Int32).toNatClampNeg 0))]) rfl dX1_standAgain_45 (fun H locs St => ?_)
            obtain ⟨f_7, ef_7⟩ : ∃ zz : Nat → Int32, zz = upd qq (kk : Int32).toNatClampNeg 0 := ⟨_, rfl⟩
            rw [← ef_7] at St
            obtain ⟨y_8, ey_8⟩ : ∃ zz : Int32, zz = kk + 1 := ⟨_, rfl⟩
            first | have jy_8 : y_8.toInt = kk.toInt + 1 := (by have q9 := ci_add (x := kk) rfl (show (1 : Int32).toInt = 1 by decide) ey_8; omega) | have jy_8 := ci_add (x := kk) rfl (show (1 : Int32).toInt = 1 by decide) ey_8
            refine lv_iinc (v := y_8) (lv' := [(2, .int y_8), (0, .ref h), (1, .int x)]) hx hb dX1_standAgain_46 hl (k := 0) rfl (by rw [ey_8]; rfl) (by decide) rfl (fun ls hl => ?_)
            refine lv_goto (tgt := 12) hx hb dX1_standAgain_49 (by decide) ?_
            exact ih y_8 f_7 _ _ _ ⟨⟨by omega, by omega⟩, by rw [ef_7]; exact fU_Y hI0 (Nat.zero_le _) hs (by omega) (decide_eq_true (by omega)) rfl⟩ (by omega) St (lv_sub hl [0, 1, 2] rfl)
  exact lp12 86 0 w2 _ _ _ ⟨⟨by omega, by omega⟩, fU_0.symm⟩ (by omega) St (lv_sub hl [0, 1, 2] rfl)
set_option maxHeartbeats 4000000 in
set_option maxRecDepth 100000 in
theorem e1_fill (l : Launch) (G : va_G) (k : Nat → Nat) (sz : Nat) (h : Nat) (o0 : Nat) (o1 : Nat) (o2 : Nat) (N0 : Nat) (ci : ClassId) (pg : Int32) (pf : Int32) (pe : Int32) (pz : Int32) (pp : Int32) (pa : Int32) (pl : Int32) (pk : Int32) (pb : Int32) (w0 : Nat → Int32) (w1 : Nat → Int32) (w2 : Nat → Int32) (x : Int32) (hN : (N0 : Int) = pz.toInt) (hN4 : N0 ≤ 84) (hW : wfP pf pe N0 w0 w1 w2) (hx1 : 1 ≤ x.toInt ∧ x.toInt ≤ 5000000) : Met l yX1_fill (Cond.code yX1_fill cX1_fill 5 none :: tb) ({ frames := 1, cells := 0, slots := 0, locals := 23 } : Room) (va_Pc [.ref h, .int x] (cP G k [(qIIIIAAAIIIII h 1 pg pf pe pz o0 o1 o2 pp pa pl pk pb), (qarI o0 ci N0 w0), (qarI o1 ci N0 w1), (qarI o2 ci N0 w2)] [(ci, .int)] sz)) (va_Qv (fun (u : Int32 × (Nat → Int32)) => match u with | (pa2, z1) => (z1 = fU (cS0 w2) (vF x.toInt w0 w1 w2) w1 0 N0)) (cB G (fun u => match u with | (pa2, z1) => [(qIIIIAAAIIIII h 1 pg pf pe pz o0 o1 o2 pp pa2 pl pk pb), (qarI o0 ci N0 w0), (qarI o1 ci N0 z1), (qarI o2 ci N0 w2)]) (fun u => match u with | (pa2, z1) => []) (va_A [(qIIIIAAAIIIII h 1 pg pf pe pz o0 o1 o2 pp pa pl pk pb), (qarI o0 ci N0 w0), (qarI o1 ci N0 w1), (qarI o2 ci N0 w2)] sz)) (va_A [(qIIIIAAAIIIII h 1 pg pf pe pz o0 o1 o2 pp pa pl pk pb), (qarI o0 ci N0 w0), (qarI o1 ci N0 w1), (qarI o2 ci N0 w2)] sz)) 0 0 (va_A [(qIIIIAAAIIIII h 1 pg pf pe pz o0 o1 o2 pp pa pl pk pb), (qarI o0 ci N0 w0), (qarI o1 ci N0 w1), (qarI o2 ci N0 w2)] sz) := by
  refine ofC_v (cc := cX1_fill) (maxL := 5) (ret := none) (by decide) rfl (Nat.le_of_ble_eq_true rfl) ?_
  intro p e s m args below meth c A ls Q F hr hin hlk St hl hQ
  have hx := F.1
  have hb := F.2.1
  have hl : lv_has ls 5 [(0, .ref h), (1, .int x)] := hl
  have St : cS G k [(qIIIIAAAIIIII h 1 pg pf pe pz o0 o1 o2 pp pa pl pk pb), (qarI o0 ci N0 w0), (qarI o1 ci N0 w1), (qarI o2 ci N0 w2)] [(ci, .int)] A s s.heap [] := St
  have y0 : (0 : Int32).toInt = 0 := by decide
  have hpf := hW.1
  skip
  refine lv_iload_n hx hb dX1_fill_0 rfl (lv_at hl 1 rfl) ?_
  refine lv_istore_n (lv' := [(2, .int x), (0, .ref h), (1, .int x)]) hx hb dX1_fill_1 rfl hl (by decide) rfl (fun ls hl => ?_)
  refine lv_iconst (v := 0) hx hb dX1_fill_2 (by decide) ?_
  refine lv_istore_n (lv' := [(3, .int 0), (2, .int x), (0, .ref h), (1, .int x)]) hx hb dX1_fill_3 rfl hl (by decide) rfl (fun ls hl => ?_)
  have lp4 : ∀ (n : Nat) (kk : Int32) (qq : Nat → Int32) (lf : Int32) (H : Heap) (locs : List Loc) (ls : Array Slot), (((0 ≤ kk.toInt ∧ kk.toInt ≤ N0) ∧ qq = fU (cS0 w2) (vF x.toInt w0 w1 w2) w1 0 kk.toNatClampNeg) ∧ lf.toInt = lft x.toInt (tO w0 w1 w2) kk.toNatClampNeg) → ((85 - kk.toInt).toNat) < n → cS G k [(qIIIIAAAIIIII h 1 pg pf pe pz o0 o1 o2 pp pa pl pk pb), (qarI o0 ci N0 w0), (qarI o1 ci N0 qq), (qarI o2 ci N0 w2)] [(ci, .int)] A s H locs → lv_has ls 5 [(3, .int kk), (2, .int lf), (0, .ref h), (1, .int x)] → W p l e ({ frames := 1, cells := 0, slots := 0, locals := 23 } : Room) s m args below meth c H locs 0 0 Q (F0 m 4 ls []) := by
    intro n
    induction n with
    | zero => intro kk qq lf H locs ls hI hn; exact absurd hn (Nat.not_lt_zero _)
    | succ n ih =>
      intro kk qq lf H locs ls hI hn St hl
      obtain ⟨⟨⟨hI0, hI1⟩, hs⟩, hlf⟩ := hI
      have nk := nc_int hI0
      have hqk : (qq kk.toNatClampNeg).toInt = (w1 kk.toNatClampNeg).toInt := by rw [hs, fU_in (Nat.zero_le _) (Nat.le_refl _)]
      have hlg := lft_ge x.toInt (tO w0 w1 w2) kk.toNatClampNeg
      have hlx : lf.toInt ≤ x.toInt := by rw [hlf]; exact lft_le (fun j hj => (tO_bd hW (by omega)).1) (by omega)
      refine lv_iload_n hx hb dX1_fill_4 rfl (lv_at hl 0 rfl) ?_
      refine lv_aload_n hx hb dX1_fill_5 rfl (lv_at hl 2 rfl) ?_
      refine cs_get F St 0 rfl rfl inX1 3 (by decide) kf_X1_28 rfl dX1_fill_6 ?_
      refine lv_icmp_ge (tgt := 66) hx hb dX1_fill_9 (by decide) (fun c9 => ?_) (fun c9 => ?_)
      ·
        have i9 := ci_le (x := pz) (y := kk) rfl rfl c9
        refine lv_aload_n hx hb dX1_fill_66 rfl (lv_at hl 2 rfl) ?_
        refine lv_dup hx hb dX1_fill_67 rfl ?_
        refine cs_get F St 0 rfl rfl inX1 8 (by decide) kf_X1_44 rfl dX1_fill_68 ?_
        refine lv_iload_n hx hb dX1_fill_71 rfl (lv_at hl 3 rfl) ?_
        refine lv_iload_n hx hb dX1_fill_72 rfl (lv_at hl 1 rfl) ?_
        refine lv_isub hx hb dX1_fill_73 ?_
        refine lv_topi (fun y_1 ey_1 => ?_)
        first | have jy_1 : y_1.toInt = x.toInt - lf.toInt := (by have q9 := ci_sub (x := x) (y := lf) rfl rfl ey_1; omega) | have jy_1 := ci_sub (x := x) (y := lf) rfl rfl ey_1
        refine lv_iadd hx hb dX1_fill_74 ?_
        refine lv_topi (fun y_2 ey_2 => ?_)
        first | have jy_2 : y_2.toInt = pa.toInt + y_1.toInt := (by have q9 := ci_add (x := pa) (y := y_1) rfl rfl ey_2; omega) | have jy_2 := ci_add (x := pa) (y := y_1) rfl rfl ey_2
        refine cs_put F St 0 rfl rfl inX1 tyX1_ok nmX1 8 (by decide) kf_X1_44 rfl rfl rfl (Nat.le_of_ble_eq_true rfl) (w' := [(qIIIIAAAIIIII h 1 pg pf pe pz o0 o1 o2 pp y_2 pl pk pb), (qarI o0 ci N0 w0), (qarI o1 ci N0 qq), (qarI o2 ci N0 w2)]) rfl dX1_fill_75 (fun H locs St => ?_)
        exact cs_vret F hr hlk hQ St (y_2, qq) (fU_at hs (by omega)) [0, 1, 2, 3] rfl (by decide) [] rfl (by decide) (by decide) dX1_fill_78
      ·
        have i9 := ci_nle (x := pz) (y := kk) rfl rfl c9
        refine lv_iload_n hx hb dX1_fill_12 rfl (lv_at hl 1 rfl) ?_
        refine lv_if_le (tgt := 66) hx hb dX1_fill_13 (by decide) (fun c13 => ?_) (fun c13 => ?_)
        ·
          have i13 := ci_le (x := lf) (y := 0) rfl (show (0 : Int32).toInt = 0 by decide) c13
          refine lv_aload_n hx hb dX1_fill_66 rfl (lv_at hl 2 rfl) ?_
          refine lv_dup hx hb dX1_fill_67 rfl ?_
          refine cs_get F St 0 rfl rfl inX1 8 (by decide) kf_X1_44 rfl dX1_fill_68 ?_
          refine lv_iload_n hx hb dX1_fill_71 rfl (lv_at hl 3 rfl) ?_
          refine lv_iload_n hx hb dX1_fill_72 rfl (lv_at hl 1 rfl) ?_
          refine lv_isub hx hb dX1_fill_73 ?_
          refine lv_topi (fun y_3 ey_3 => ?_)
          first | have jy_3 : y_3.toInt = x.toInt - lf.toInt := (by have q9 := ci_sub (x := x) (y := lf) rfl rfl ey_3; omega) | have jy_3 := ci_sub (x := x) (y := lf) rfl rfl ey_3
          refine lv_iadd hx hb dX1_fill_74 ?_
          refine lv_topi (fun y_4 ey_4 => ?_)
          first | have jy_4 : y_4.toInt = pa.toInt + y_3.toInt := (by have q9 := ci_add (x := pa) (y := y_3) rfl rfl ey_4; omega) | have jy_4 := ci_add (x := pa) (y := y_3) rfl rfl ey_4
          refine cs_put F St 0 rfl rfl inX1 tyX1_ok nmX1 8 (by decide) kf_X1_44 rfl rfl rfl (Nat.le_of_ble_eq_true rfl) (w' := [(qIIIIAAAIIIII h 1 pg pf pe pz o0 o1 o2 pp y_4 pl pk pb), (qarI o0 ci N0 w0), (qarI o1 ci N0 qq), (qarI o2 ci N0 w2)]) rfl dX1_fill_75 (fun H locs St => ?_)
          exact cs_vret F hr hlk hQ St (y_4, qq) (hs.trans (fU_stop (by omega) (fun k_ a_ b_ _ => vF_0 (lft_0 (hlf.symm.trans (by omega)) a_ (fun j hj => (tO_bd hW (by omega)).1)) (tO_bd hW b_).1))) [0, 1, 2, 3] rfl (by decide) [] rfl (by decide) (by decide) dX1_fill_78
        ·
          have i13 := ci_nle (x := lf) (y := 0) rfl (show (0 : Int32).toInt = 0 by decide) c13
          have hk9 := hW.2 kk.toNatClampNeg (by omega)
          have hto := tO_bd hW (k := kk.toNatClampNeg) (by omega)
          refine lv_aload_n hx hb dX1_fill_16 rfl (lv_at hl 2 rfl) ?_
          refine cs_get F St 0 rfl rfl inX1 6 (by decide) kf_X1_38 rfl dX1_fill_17 ?_
          refine lv_iload_n hx hb dX1_fill_20 rfl (lv_at hl 0 rfl) ?_
          refine cs_ild F St 3 0 rfl rfl (vp_in_iff.mpr ⟨by omega, by omega⟩) dX1_fill_21 ?_
          refine lv_topi (fun y_5 ey_5 => ?_)
          have gy_5 := congrArg Int32.toInt ey_5
          refine lv_if_ne (tgt := 60) hx hb dX1_fill_22 (by decide) (fun c22 => ?_) (fun c22 => ?_)
          ·
            have i22 := ci_ne (x := y_5) (y := 0) rfl (show (0 : Int32).toInt = 0 by decide) c22
            obtain ⟨y_6, ey_6⟩ : ∃ zz : Int32, zz = kk + 1 := ⟨_, rfl⟩
            first | have jy_6 : y_6.toInt = kk.toInt + 1 := (by have q9 := ci_add (x := kk) rfl (show (1 : Int32).toInt = 1 by decide) ey_6; omega) | have jy_6 := ci_add (x := kk) rfl (show (1 : Int32).toInt = 1 by decide) ey_6
            refine lv_iinc (v := y_6) (lv' := [(3, .int y_6), (2, .int lf), (0, .ref h), (1, .int x)]) hx hb dX1_fill_60 hl (k := 0) rfl (by rw [ey_6]; rfl) (by decide) rfl (fun ls hl => ?_)
            refine lv_goto (tgt := 4) hx hb dX1_fill_63 (by decide) ?_
            exact ih y_6 qq lf _ _ _ ⟨⟨⟨by omega, by omega⟩, fU_N hI0 hs (by omega) (fun z_ => absurd (of_decide_eq_true z_) (by omega))⟩, by rw [nc_s hI0 (show y_6.toInt = kk.toInt + 1 by omega), lft_up hto.1, tO_0 (by omega)]; have := lft_ge x.toInt (tO w0 w1 w2) kk.toNatClampNeg; split <;> omega⟩ (by omega) St (lv_sub hl [0, 1, 2, 3] rfl)
          ·
            have i22 := ci_eq (x := y_5) (y := 0) rfl (show (0 : Int32).toInt = 0 by decide) c22
            have ht1 := tO_1 (D := w0) (F := w1) (S := w2) (k := kk.toNatClampNeg) (by omega)
            refine lv_iload_n hx hb dX1_fill_25 rfl (lv_at hl 1 rfl) ?_
            refine lv_aload_n hx hb dX1_fill_26 rfl (lv_at hl 2 rfl) ?_
            refine cs_get F St 0 rfl rfl inX1 4 (by decide) kf_X1_31 rfl dX1_fill_27 ?_
            refine lv_iload_n hx hb dX1_fill_30 rfl (lv_at hl 0 rfl) ?_
            refine cs_ild F St 1 0 rfl rfl (vp_in_iff.mpr ⟨by omega, by omega⟩) dX1_fill_31 ?_
            refine lv_topi (fun y_7 ey_7 => ?_)
            have gy_7 := congrArg Int32.toInt ey_7
            refine lv_aload_n hx hb dX1_fill_32 rfl (lv_at hl 2 rfl) ?_
            refine cs_get F St 0 rfl rfl inX1 5 (by decide) kf_X1_35 rfl dX1_fill_33 ?_
            refine lv_iload_n hx hb dX1_fill_36 rfl (lv_at hl 0 rfl) ?_
            refine cs_ild F St 2 0 rfl rfl (vp_in_iff.mpr ⟨by omega, by omega⟩) dX1_fill_37 ?_
            refine lv_topi (fun y_8 ey_8 => ?_)
            have gy_8 := congrArg Int32.toInt ey_8
            refine lv_isub hx hb dX1_fill_38 ?_
            refine lv_topi (fun y_9 ey_9 => ?_)
            first | have jy_9 : y_9.toInt = y_7.toInt - y_8.toInt := (by have q9 := ci_sub (x := y_7) (y := y_8) rfl rfl ey_9; omega) | have jy_9 := ci_sub (x := y_7) (y := y_8) rfl rfl ey_9
            refine va_mmin hx hb (F.2.2.1.trans hl.1.symm) F.2.2.2.1 (F.2.2.2.2 _ km_X1_62) (F.2.2.2.2 _ ks_J9_min_7cf53) (F.2.2.2.2 _ ki_J9) (F.2.2.2.2 _ kd_J9_min_7cf53) (Nat.le_of_ble_eq_true rfl) (Nat.le_of_ble_eq_true rfl) (Nat.le_of_ble_eq_true rfl) (Nat.le_of_ble_eq_true rfl) dX1_fill_39 ?_
            refine lv_topi (fun y_10 ey_10 => ?_)
            have jy_10 := ci_min (x := lf) (y := y_9) (u := lf.toInt) (v := y_9.toInt) rfl rfl ey_10
            refine lv_istore (lv' := [(4, .int y_10), (3, .int kk), (2, .int lf), (0, .ref h), (1, .int x)]) hx hb dX1_fill_42 hl (by decide) rfl (fun ls hl => ?_)
            refine lv_aload_n hx hb dX1_fill_44 rfl (lv_at hl 3 rfl) ?_
            refine cs_get F St 0 rfl rfl inX1 5 (by decide) kf_X1_35 rfl dX1_fill_45 ?_
            refine lv_iload_n hx hb dX1_fill_48 rfl (lv_at hl 1 rfl) ?_
            refine lv_dup2_11 hx hb dX1_fill_49 rfl rfl ?_
            refine cs_ild F St 2 0 rfl rfl (vp_in_iff.mpr ⟨by omega, by omega⟩) dX1_fill_50 ?_
            refine lv_topi (fun y_11 ey_11 => ?_)
            have gy_11 := congrArg Int32.toInt ey_11
            refine lv_iload hx hb dX1_fill_51 (lv_at hl 0 rfl) ?_
            refine lv_iadd hx hb dX1_fill_53 ?_
            refine lv_topi (fun y_12 ey_12 => ?_)
            first | have jy_12 : y_12.toInt = y_11.toInt + y_10.toInt := (by have q9 := ci_add (x := y_11) (y := y_10) rfl rfl ey_12; omega) | have jy_12 := ci_add (x := y_11) (y := y_10) rfl rfl ey_12
            refine cs_ist F St 2 0 rfl rfl (vp_in_iff.mpr ⟨by omega, by omega⟩) (w' := [(qIIIIAAAIIIII h 1 pg pf pe pz o0 o1 o2 pp pa pl pk pb), (qarI o0 ci N0 w0), (qarI o1 ci N0 (upd qq (kk : Int32).toNatClampNeg y_12)), (qarI o2 ci N0 w2)]) rfl dX1_fill_54 (fun H locs St => ?_)
            obtain ⟨f_13, ef_13⟩ : ∃ zz : Nat → Int32, zz = upd qq (kk : Int32).toNatClampNeg y_12 := ⟨_, rfl⟩
            rw [← ef_13] at St
            refine lv_iload_n hx hb dX1_fill_55 rfl (lv_at hl 2 rfl) ?_
            refine lv_iload hx hb dX1_fill_56 (lv_at hl 0 rfl) ?_
            refine lv_isub hx hb dX1_fill_58 ?_
            refine lv_topi (fun y_14 ey_14 => ?_)
            first | have jy_14 : y_14.toInt = lf.toInt - y_10.toInt := (by have q9 := ci_sub (x := lf) (y := y_10) rfl rfl ey_14; omega) | have jy_14 := ci_sub (x := lf) (y := y_10) rfl rfl ey_14
            refine lv_istore_n (lv' := [(2, .int y_14), (4, .int y_10), (3, .int kk), (0, .ref h), (1, .int x)]) hx hb dX1_fill_59 rfl hl (by decide) rfl (fun ls hl => ?_)
            obtain ⟨y_15, ey_15⟩ : ∃ zz : Int32, zz = kk + 1 := ⟨_, rfl⟩
            first | have jy_15 : y_15.toInt = kk.toInt + 1 := (by have q9 := ci_add (x := kk) rfl (show (1 : Int32).toInt = 1 by decide) ey_15; omega) | have jy_15 := ci_add (x := kk) rfl (show (1 : Int32).toInt = 1 by decide) ey_15
            refine lv_iinc (v := y_15) (lv' := [(3, .int y_15), (2, .int y_14), (4, .int y_10), (0, .ref h), (1, .int x)]) hx hb dX1_fill_60 hl (k := 2) rfl (by rw [ey_15]; rfl) (by decide) rfl (fun ls hl => ?_)
            refine lv_goto (tgt := 4) hx hb dX1_fill_63 (by decide) ?_
            exact ih y_15 f_13 y_14 _ _ _ ⟨⟨⟨by omega, by omega⟩, by rw [ef_13]; exact fU_Y hI0 (Nat.zero_le _) hs (by omega) (decide_eq_true (by omega)) (i32_of (by rw [← hlf]; split <;> omega))⟩, by rw [nc_s hI0 (show y_15.toInt = kk.toInt + 1 by omega), lft_up hto.1, ← hlf]; split <;> omega⟩ (by omega) St (lv_sub hl [0, 1, 3, 4] rfl)
  exact lp4 86 0 w1 x _ _ _ ⟨⟨⟨by omega, by omega⟩, fU_0.symm⟩, lft_s (by omega)⟩ (by omega) St (lv_sub hl [0, 1, 2, 3] rfl)
set_option maxHeartbeats 4000000 in
set_option maxRecDepth 100000 in
theorem e1_mayBeTakenUp (l : Launch) (G : va_G) (k : Nat → Nat) (sz : Nat) (h : Nat) (o0 : Nat) (o1 : Nat) (o2 : Nat) (N0 : Nat) (ci : ClassId) (pg : Int32) (pf : Int32) (pe : Int32) (pz : Int32) (pp : Int32) (pa : Int32) (pl : Int32) (pk : Int32) (pb : Int32) (w0 : Nat → Int32) (w1 : Nat → Int32) (w2 : Nat → Int32) (hN : (N0 : Int) = pz.toInt) (hN4 : N0 ≤ 84) (hW : wfP pf pe N0 w0 w1 w2) : Met l yX1_mayBeTakenUp (Cond.code yX1_mayBeTakenUp cX1_mayBeTakenUp 1 (some .boolean) :: tb) ({ frames := 0, cells := 0, slots := 0, locals := 0 } : Room) (va_Pc [.ref h] (cP G k [(qIIIIAAAIIIII h 1 pg pf pe pz o0 o1 o2 pp pa pl pk pb), (qarI o0 ci N0 w0), (qarI o1 ci N0 w1), (qarI o2 ci N0 w2)] [(ci, .int)] sz)) (va_Qi (fun (r : Int32) (_ : Unit) => ((r = 1) ∧ (¬ pl.toInt = 0 ∧ pk.toInt = 0)) ∨ ((r = 0) ∧ (¬ (¬ pl.toInt = 0 ∧ pk.toInt = 0)))) (cB G (fun (_ : Unit) => [(qIIIIAAAIIIII h 1 pg pf pe pz o0 o1 o2 pp pa pl pk pb), (qarI o0 ci N0 w0), (qarI o1 ci N0 w1), (qarI o2 ci N0 w2)]) (fun (_ : Unit) => []) (va_A [(qIIIIAAAIIIII h 1 pg pf pe pz o0 o1 o2 pp pa pl pk pb), (qarI o0 ci N0 w0), (qarI o1 ci N0 w1), (qarI o2 ci N0 w2)] sz)) (va_A [(qIIIIAAAIIIII h 1 pg pf pe pz o0 o1 o2 pp pa pl pk pb), (qarI o0 ci N0 w0), (qarI o1 ci N0 w1), (qarI o2 ci N0 w2)] sz)) 0 0 (va_A [(qIIIIAAAIIIII h 1 pg pf pe pz o0 o1 o2 pp pa pl pk pb), (qarI o0 ci N0 w0), (qarI o1 ci N0 w1), (qarI o2 ci N0 w2)] sz) := by
  refine ofC_i (cc := cX1_mayBeTakenUp) (maxL := 1) (ret := (some .boolean)) (by decide) rfl (Nat.le_of_ble_eq_true rfl) ?_
  intro p e s m args below meth c A ls Q F hr hin hlk St hl hQ
  have hx := F.1
  have hb := F.2.1
  have hl : lv_has ls 1 [(0, .ref h)] := hl
  have St : cS G k [(qIIIIAAAIIIII h 1 pg pf pe pz o0 o1 o2 pp pa pl pk pb), (qarI o0 ci N0 w0), (qarI o1 ci N0 w1), (qarI o2 ci N0 w2)] [(ci, .int)] A s s.heap [] := St
  have y0 : (0 : Int32).toInt = 0 := by decide
  have hpf := hW.1
  refine lv_aload_n hx hb dX1_mayBeTakenUp_0 rfl (lv_at hl 0 rfl) ?_
  refine cs_get F St 0 rfl rfl inX1 9 (by decide) kf_X1_47 rfl dX1_mayBeTakenUp_1 ?_
  refine lv_if_eq (tgt := 18) hx hb dX1_mayBeTakenUp_4 (by decide) (fun c4 => ?_) (fun c4 => ?_)
  ·
    have i4 := ci_eq (x := pl) (y := 0) rfl (show (0 : Int32).toInt = 0 by decide) c4
    refine lv_iconst (v := 0) hx hb dX1_mayBeTakenUp_18 (by decide) ?_
    exact cs_zret F hr hlk hQ St () (r := 0) rfl (Or.inr ⟨rfl, by omega⟩) [0, 1, 2, 3] rfl (by decide) [] rfl (by decide) (by decide) dX1_mayBeTakenUp_19
  ·
    have i4 := ci_ne (x := pl) (y := 0) rfl (show (0 : Int32).toInt = 0 by decide) c4
    refine lv_aload_n hx hb dX1_mayBeTakenUp_7 rfl (lv_at hl 0 rfl) ?_
    refine cs_get F St 0 rfl rfl inX1 10 (by decide) kf_X1_51 rfl dX1_mayBeTakenUp_8 ?_
    refine lv_if_ne (tgt := 18) hx hb dX1_mayBeTakenUp_11 (by decide) (fun c11 => ?_) (fun c11 => ?_)
    ·
      have i11 := ci_ne (x := pk) (y := 0) rfl (show (0 : Int32).toInt = 0 by decide) c11
      refine lv_iconst (v := 0) hx hb dX1_mayBeTakenUp_18 (by decide) ?_
      exact cs_zret F hr hlk hQ St () (r := 0) rfl (Or.inr ⟨rfl, by omega⟩) [0, 1, 2, 3] rfl (by decide) [] rfl (by decide) (by decide) dX1_mayBeTakenUp_19
    ·
      have i11 := ci_eq (x := pk) (y := 0) rfl (show (0 : Int32).toInt = 0 by decide) c11
      refine lv_iconst (v := 1) hx hb dX1_mayBeTakenUp_14 (by decide) ?_
      refine lv_goto (tgt := 19) hx hb dX1_mayBeTakenUp_15 (by decide) ?_
      exact cs_zret F hr hlk hQ St () (r := 1) rfl (Or.inl ⟨rfl, by omega⟩) [0, 1, 2, 3] rfl (by decide) [] rfl (by decide) (by decide) dX1_mayBeTakenUp_19
set_option maxHeartbeats 4000000 in
set_option maxRecDepth 100000 in
theorem e2_lapseAll (l : Launch) (G : va_G) (k : Nat → Nat) (sz : Nat) (h : Nat) (b : Nat) (ce : ClassId) (bn : Int32) (fa : Nat → Option Nat) (ci : ClassId) (nP : Nat) (bP : Nat → va_W) (x : Int32) (y : Int32) (tP : Nat → Pl9) (hnP : (nP : Int) = bn.toInt) (hn60 : nP ≤ 60) (hB : ∀ i, i < nP → okE ci (tP i) (fa i) (bP i)) (hWT : ∀ i, i < nP → wfT x.toInt (tP i)) : Met l yX2_lapseAll (Cond.code yX2_lapseAll cX2_lapseAll 5 none :: tb) ({ frames := 2, cells := 0, slots := 0, locals := 44 } : Room) (va_Pc [.ref h, .int x, .int y] (cP G k ([(qAI h 2 b bn), (qarQ b ce 60 fa)] ++ (PW nP bP ++ [])) [(ci, .int), (ce, .object "TowerAppeal$Pledge")] sz)) (va_Qv (fun (bP2 : (Nat → va_W)) => (∀ i, i < nP → okE ci (lapT x.toInt y.toInt nP tP i) (fa i) (bP2 i))) (cB G (fun (bP2 : (Nat → va_W)) => ([(qAI h 2 b bn), (qarQ b ce 60 fa)] ++ (PW nP bP2 ++ []))) (fun (bP2 : (Nat → va_W)) => []) (va_A ([(qAI h 2 b bn), (qarQ b ce 60 fa)] ++ (PW nP bP ++ [])) sz)) (va_A ([(qAI h 2 b bn), (qarQ b ce 60 fa)] ++ (PW nP bP ++ [])) sz)) 0 0 (va_A ([(qAI h 2 b bn), (qarQ b ce 60 fa)] ++ (PW nP bP ++ [])) sz) := by
  refine ofC_v (cc := cX2_lapseAll) (maxL := 5) (ret := none) (by decide) rfl (Nat.le_of_ble_eq_true rfl) ?_
  intro p e s m args below meth c A ls Q F hr hin hlk St hl hQ
  have hx := F.1
  have hb := F.2.1
  have hl : lv_has ls 5 [(0, .ref h), (1, .int x), (2, .int y)] := hl
  have St : cS G k ([(qAI h 2 b bn), (qarQ b ce 60 fa)] ++ (PW nP bP ++ [])) [(ci, .int), (ce, .object "TowerAppeal$Pledge")] A s s.heap [] := St
  have y0 : (0 : Int32).toInt = 0 := by decide
  skip
  refine lv_iconst (v := 0) hx hb dX2_lapseAll_0 (by decide) ?_
  refine lv_istore_n (lv' := [(3, .int 0), (0, .ref h), (1, .int x), (2, .int y)]) hx hb dX2_lapseAll_1 rfl hl (by decide) rfl (fun ls hl => ?_)
  have lp2 : ∀ (n : Nat) (kk : Int32) (bq : Nat → va_W) (H : Heap) (locs : List Loc) (ls : Array Slot), ((0 ≤ kk.toInt ∧ kk.toInt ≤ bn.toInt) ∧ ∀ i, i < nP → okE ci (lapT x.toInt y.toInt kk.toNatClampNeg tP i) (fa i) (bq i)) → ((60 - kk.toInt).toNat) < n → cS G k ([(qAI h 2 b bn), (qarQ b ce 60 fa)] ++ (PW nP bq ++ [])) [(ci, .int), (ce, .object "TowerAppeal$Pledge")] A s H locs → lv_has ls 5 [(3, .int kk), (0, .ref h), (1, .int x), (2, .int y)] → W p l e ({ frames := 2, cells := 0, slots := 0, locals := 44 } : Room) s m args below meth c H locs 0 0 Q (F0 m 2 ls []) := by
    intro n
    induction n with
    | zero => intro kk bq H locs ls hI hn; exact absurd hn (Nat.not_lt_zero _)
    | succ n ih =>
      intro kk bq H locs ls hI hn St hl
      obtain ⟨⟨hI0, hI1⟩, hBq⟩ := hI
      have nk := nc_int hI0
      skip
      refine lv_iload_n hx hb dX2_lapseAll_2 rfl (lv_at hl 0 rfl) ?_
      refine lv_aload_n hx hb dX2_lapseAll_3 rfl (lv_at hl 1 rfl) ?_
      refine ct_get F St 0 rfl rfl inX2 1 (by decide) kf_X2_17 rfl dX2_lapseAll_4 ?_
      refine lv_icmp_ge (tgt := 44) hx hb dX2_lapseAll_7 (by decide) (fun c7 => ?_) (fun c7 => ?_)
      ·
        have i7 := ci_le (x := bn) (y := kk) rfl rfl c7
        have St : cS G k ([(qAI h 2 b bn), (qarQ b ce 60 fa)] ++ (PW nP bq ++ [])) [(ci, .int), (ce, .object "TowerAppeal$Pledge")] A s _ _ := ct_pick St [0, 1] rfl (by decide) [0, 1] rfl
        exact cs_vret F hr hlk hQ St bq (by rw [show nP = kk.toNatClampNeg by omega]; rw [show nP = kk.toNatClampNeg by omega] at hBq; exact hBq) (List.range _) (ix_all (w := ([(qAI h 2 b bn), (qarQ b ce 60 fa)] ++ (PW nP bq ++ [])))) nd_C [] rfl (by decide) (by decide) dX2_lapseAll_44
      ·
        have i7 := ci_nle (x := bn) (y := kk) rfl rfl c7
        refine lv_aload_n hx hb dX2_lapseAll_10 rfl (lv_at hl 1 rfl) ?_
        refine lv_iload_n hx hb dX2_lapseAll_11 rfl (lv_at hl 0 rfl) ?_
        refine ct_q St [0, 1] [] (wc := [(qAI h 2 b bn), (qarQ b ce 60 fa)]) (wr := []) rfl rfl (by decide) (by decide) (va_runV (As := [.int kk]) (rest := []) F (x2_at l G k _ h b ce bn fa kk (by omega) (by omega)) (cwVt F mf_X2_at km_X2_21 rfl rfl ⟨Nat.le_of_ble_eq_true rfl, Nat.le_of_ble_eq_true rfl⟩) (ct_preV St [0, 1] rfl (by decide) [1] rfl (ci := 2) (q0 := 0) rfl rfl) rfl rfl hl.1 rfl (lv_room (Nat.le_of_ble_eq_true rfl)) dX2_lapseAll_12 ⟨Nat.le_of_ble_eq_true rfl, Nat.le_of_ble_eq_true rfl⟩) (fun r_1 u_2 H locs hw St => ?_)
        try dsimp only at hw
        rcases hw with ⟨z_3, hf_4⟩ | ⟨z_5, hf_6⟩
        ·
          subst r_1
          have St : cS G k ([(qAI h 2 b bn), (qarQ b ce 60 fa)] ++ (PW nP bq ++ [])) [(ci, .int), (ce, .object "TowerAppeal$Pledge")] A s H locs := St
          show W _ _ _ _ _ _ _ _ _ _ _ _ _ _ _ (F0 m 15 ls [.null])
          refine lv_astoreN (lv' := [(4, .null), (3, .int kk), (0, .ref h), (1, .int x), (2, .int y)]) hx hb dX2_lapseAll_15 hl (by decide) rfl (fun ls hl => ?_)
          refine lv_aloadN hx hb dX2_lapseAll_17 (lv_at hl 0 rfl) ?_
          refine lv_ifnullN (tgt := 38) hx hb dX2_lapseAll_19 (by decide) ?_
          obtain ⟨y_7, ey_7⟩ : ∃ zz : Int32, zz = kk + 1 := ⟨_, rfl⟩
          first | have jy_7 : y_7.toInt = kk.toInt + 1 := (by have q9 := ci_add (x := kk) rfl (show (1 : Int32).toInt = 1 by decide) ey_7; omega) | have jy_7 := ci_add (x := kk) rfl (show (1 : Int32).toInt = 1 by decide) ey_7
          refine lv_iinc (v := y_7) (lv' := [(3, .int y_7), (4, .null), (0, .ref h), (1, .int x), (2, .int y)]) hx hb dX2_lapseAll_38 hl (k := 1) rfl (by rw [ey_7]; rfl) (by decide) rfl (fun ls hl => ?_)
          refine lv_goto (tgt := 2) hx hb dX2_lapseAll_41 (by decide) ?_
          skip
          exact ih y_7 bq _ _ _ (by exfalso; omega) (by omega) (show cS G k ([(qAI h 2 b bn), (qarQ b ce 60 fa)] ++ (PW nP bq ++ [])) [(ci, .int), (ce, .object "TowerAppeal$Pledge")] A s H locs from ct_pick St [0, 1] rfl (by decide) [0, 1] rfl) (lv_sub hl [0, 2, 3, 4] rfl)
        ·
          have St : cS G k ([(qAI h 2 b bn), (qarQ b ce 60 fa)] ++ (PW nP bq ++ [])) [(ci, .int), (ce, .object "TowerAppeal$Pledge")] A s H locs := St
          obtain ⟨h_8, o0_9, o1_10, o2_11, N0_12, pg_13, pf_14, pe_15, pz_16, pp_17, pa_18, pl_19, pk_20, pb_21, w0_22, w1_23, w2_24, q_25, q_26, q_27, q_28, q_29, q_30⟩ := (hBq _ (nc_lt (x := kk) (n := nP) (by omega) (by omega)))
          have hj_31 := (nc_lt (x := kk) (n := nP) (by omega) (by omega))
          have St : cS G k ([(qAI h 2 b bn), (qarQ b ce 60 fa), (qIIIIAAAIIIII h_8 1 pg_13 pf_14 pe_15 pz_16 o0_9 o1_10 o2_11 pp_17 pa_18 pl_19 pk_20 pb_21), (qarI o0_9 ci N0_12 w0_22), (qarI o1_10 ci N0_12 w1_23), (qarI o2_11 ci N0_12 w2_24)] ++ (PWx nP kk.toNatClampNeg bq ++ [])) [(ci, .int), (ce, .object "TowerAppeal$Pledge")] A s H locs := cs_pull (cs := [(qAI h 2 b bn), (qarQ b ce 60 fa)]) (rs := []) (b := [(qIIIIAAAIIIII h_8 1 pg_13 pf_14 pe_15 pz_16 o0_9 o1_10 o2_11 pp_17 pa_18 pl_19 pk_20 pb_21), (qarI o0_9 ci N0_12 w0_22), (qarI o1_10 ci N0_12 w1_23), (qarI o2_11 ci N0_12 w2_24)]) St hj_31 q_29
          have hw_32 := wf_of (hWT _ hj_31) (lapT_at.symm.trans q_30)
          obtain rfl : r_1 = some h_8 := z_5.trans q_25
          show W _ _ _ _ _ _ _ _ _ _ _ _ _ _ _ (F0 m 15 ls [.ref h_8])
          refine lv_astore (lv' := [(4, .ref h_8), (3, .int kk), (0, .ref h), (1, .int x), (2, .int y)]) hx hb dX2_lapseAll_15 hl (by decide) rfl (fun ls hl => ?_)
          refine lv_aload hx hb dX2_lapseAll_17 (lv_at hl 0 rfl) ?_
          refine lv_ifnull hx hb dX2_lapseAll_19 ?_
          refine lv_aload hx hb dX2_lapseAll_22 (lv_at hl 0 rfl) ?_
          refine lv_iload_n hx hb dX2_lapseAll_24 rfl (lv_at hl 3 rfl) ?_
          refine ct_i St [2, 3, 4, 5] [0, 1] (wc := [(qIIIIAAAIIIII h_8 1 pg_13 pf_14 pe_15 pz_16 o0_9 o1_10 o2_11 pp_17 pa_18 pl_19 pk_20 pb_21), (qarI o0_9 ci N0_12 w0_22), (qarI o1_10 ci N0_12 w1_23), (qarI o2_11 ci N0_12 w2_24)]) (wr := [(qAI h 2 b bn), (qarQ b ce 60 fa)]) rfl rfl (by decide) (by decide) (va_runV (As := [.int x]) (rest := []) F (e1_overdue l G k _ h_8 o0_9 o1_10 o2_11 N0_12 ci pg_13 pf_14 pe_15 pz_16 pp_17 pa_18 pl_19 pk_20 pb_21 w0_22 w1_23 w2_24 x (by first | assumption | omega) (by first | assumption | omega) hw_32.2.1) (cwVt F mf_X1_overdue km_X2_29 rfl rfl ⟨Nat.le_of_ble_eq_true rfl, Nat.le_of_ble_eq_true rfl⟩) (ct_preV St [2, 3, 4, 5] rfl (by decide) [0] rfl (ci := 1) (q0 := 2) rfl rfl) rfl rfl hl.1 rfl (lv_room (Nat.le_of_ble_eq_true rfl)) dX2_lapseAll_25 ⟨Nat.le_of_ble_eq_true rfl, Nat.le_of_ble_eq_true rfl⟩) (fun r_33 u_34 H locs hw St => ?_)
          try dsimp only at hw
          have hv_35 := hw
          have St : cS G k ([(qAI h 2 b bn), (qarQ b ce 60 fa), (qIIIIAAAIIIII h_8 1 pg_13 pf_14 pe_15 pz_16 o0_9 o1_10 o2_11 pp_17 pa_18 pl_19 pk_20 pb_21), (qarI o0_9 ci N0_12 w0_22), (qarI o1_10 ci N0_12 w1_23), (qarI o2_11 ci N0_12 w2_24)] ++ (PWx nP kk.toNatClampNeg bq ++ [])) [(ci, .int), (ce, .object "TowerAppeal$Pledge")] A s H locs := St
          refine lv_iload_n hx hb dX2_lapseAll_28 rfl (lv_at hl 4 rfl) ?_
          refine lv_icmp_lt (tgt := 38) hx hb dX2_lapseAll_29 (by decide) (fun c29 => ?_) (fun c29 => ?_)
          ·
            have i29 := ci_lt (x := r_33) (y := y) rfl rfl c29
            obtain ⟨y_36, ey_36⟩ : ∃ zz : Int32, zz = kk + 1 := ⟨_, rfl⟩
            first | have jy_36 : y_36.toInt = kk.toInt + 1 := (by have q9 := ci_add (x := kk) rfl (show (1 : Int32).toInt = 1 by decide) ey_36; omega) | have jy_36 := ci_add (x := kk) rfl (show (1 : Int32).toInt = 1 by decide) ey_36
            refine lv_iinc (v := y_36) (lv' := [(3, .int y_36), (4, .ref h_8), (0, .ref h), (1, .int x), (2, .int y)]) hx hb dX2_lapseAll_38 hl (k := 1) rfl (by rw [ey_36]; rfl) (by decide) rfl (fun ls hl => ?_)
            refine lv_goto (tgt := 2) hx hb dX2_lapseAll_41 (by decide) ?_
            have St : cS G k ([(qAI h 2 b bn), (qarQ b ce 60 fa), (qIIIIAAAIIIII h_8 1 pg_13 pf_14 pe_15 pz_16 o0_9 o1_10 o2_11 pp_17 pa_18 pl_19 pk_20 pb_21), (qarI o0_9 ci N0_12 w0_22), (qarI o1_10 ci N0_12 w1_23), (qarI o2_11 ci N0_12 w2_24)] ++ (PWx nP kk.toNatClampNeg bq ++ [])) [(ci, .int), (ce, .object "TowerAppeal$Pledge")] A s H locs := ct_pick St [0, 1, 2, 3, 4, 5] rfl (by decide) [0, 1] rfl
            have St := cs_push (cs := [(qAI h 2 b bn), (qarQ b ce 60 fa)]) (b := [(qIIIIAAAIIIII h_8 1 pg_13 pf_14 pe_15 pz_16 o0_9 o1_10 o2_11 pp_17 pa_18 pl_19 pk_20 pb_21), (qarI o0_9 ci N0_12 w0_22), (qarI o1_10 ci N0_12 w1_23), (qarI o2_11 ci N0_12 w2_24)]) (rs := []) St hj_31
            obtain ⟨B_37, eB_37⟩ : ∃ zz : Nat → va_W, zz = setB bq kk.toNatClampNeg [(qIIIIAAAIIIII h_8 1 pg_13 pf_14 pe_15 pz_16 o0_9 o1_10 o2_11 pp_17 pa_18 pl_19 pk_20 pb_21), (qarI o0_9 ci N0_12 w0_22), (qarI o1_10 ci N0_12 w1_23), (qarI o2_11 ci N0_12 w2_24)] := ⟨_, rfl⟩
            rw [← eB_37] at St
            have hB_38 : ∀ i, i < nP → okE ci (tbS (lapT x.toInt y.toInt kk.toNatClampNeg tP) kk.toNatClampNeg (N0_12, pg_13, pf_14, pe_15, pl_19, pk_20, w0_22, w1_23, w2_24) i) (fa i) (B_37 i) := by rw [eB_37]; exact okE_set hBq ⟨h_8, o0_9, o1_10, o2_11, N0_12, pg_13, pf_14, pe_15, pz_16, pp_17, pa_18, pl_19, pk_20, pb_21, w0_22, w1_23, w2_24, q_25, q_26, q_27, q_28, rfl, rfl⟩
            rw [tbS_own q_30] at hB_38
            have St : cS G k ([(qAI h 2 b bn), (qarQ b ce 60 fa)] ++ (PW nP B_37 ++ [])) [(ci, .int), (ce, .object "TowerAppeal$Pledge")] A s H locs := St
            skip
            exact ih y_36 B_37 _ _ _ ⟨⟨by omega, by omega⟩, by rw [nc_s hI0 (show y_36.toInt = kk.toInt + 1 by omega), lapT_keep (ls_n (lapT_at.symm.trans q_30) (by show ¬ _ ≤ sm _ _; omega))]; exact hB_38⟩ (by omega) (show cS G k ([(qAI h 2 b bn), (qarQ b ce 60 fa)] ++ (PW nP B_37 ++ [])) [(ci, .int), (ce, .object "TowerAppeal$Pledge")] A s H locs from ct_pick St [0, 1] rfl (by decide) [0, 1] rfl) (lv_sub hl [0, 2, 3, 4] rfl)
          ·
            have i29 := ci_nlt (x := r_33) (y := y) rfl rfl c29
            refine lv_aload hx hb dX2_lapseAll_32 (lv_at hl 0 rfl) ?_
            refine lv_iload_n hx hb dX2_lapseAll_34 rfl (lv_at hl 3 rfl) ?_
            refine ct_v St [2, 3, 4, 5] [0, 1] (wc := [(qIIIIAAAIIIII h_8 1 pg_13 pf_14 pe_15 pz_16 o0_9 o1_10 o2_11 pp_17 pa_18 pl_19 pk_20 pb_21), (qarI o0_9 ci N0_12 w0_22), (qarI o1_10 ci N0_12 w1_23), (qarI o2_11 ci N0_12 w2_24)]) (wr := [(qAI h 2 b bn), (qarQ b ce 60 fa)]) rfl rfl (by decide) (by decide) (va_runV (As := [.int x]) (rest := []) F (e1_lapseIn l G k _ h_8 o0_9 o1_10 o2_11 N0_12 ci pg_13 pf_14 pe_15 pz_16 pp_17 pa_18 pl_19 pk_20 pb_21 w0_22 w1_23 w2_24 x (by first | assumption | omega) (by first | assumption | omega) hw_32.2.1) (cwVt F mf_X1_lapseIn km_X2_33 rfl rfl ⟨Nat.le_of_ble_eq_true rfl, Nat.le_of_ble_eq_true rfl⟩) (ct_preV St [2, 3, 4, 5] rfl (by decide) [0] rfl (ci := 1) (q0 := 2) rfl rfl) rfl rfl hl.1 rfl (lv_room (Nat.le_of_ble_eq_true rfl)) dX2_lapseAll_35 ⟨Nat.le_of_ble_eq_true rfl, Nat.le_of_ble_eq_true rfl⟩) (fun u_40 H locs hw St => ?_)
            obtain ⟨pb2_41, z2_42⟩ := u_40
            try dsimp only at hw
            have hz_43 := hw
            have St : cS G k ([(qAI h 2 b bn), (qarQ b ce 60 fa), (qIIIIAAAIIIII h_8 1 pg_13 pf_14 pe_15 pz_16 o0_9 o1_10 o2_11 pp_17 pa_18 1 pk_20 pb2_41), (qarI o0_9 ci N0_12 w0_22), (qarI o1_10 ci N0_12 w1_23), (qarI o2_11 ci N0_12 z2_42)] ++ (PWx nP kk.toNatClampNeg bq ++ [])) [(ci, .int), (ce, .object "TowerAppeal$Pledge")] A s H locs := St
            obtain ⟨y_44, ey_44⟩ : ∃ zz : Int32, zz = kk + 1 := ⟨_, rfl⟩
            first | have jy_44 : y_44.toInt = kk.toInt + 1 := (by have q9 := ci_add (x := kk) rfl (show (1 : Int32).toInt = 1 by decide) ey_44; omega) | have jy_44 := ci_add (x := kk) rfl (show (1 : Int32).toInt = 1 by decide) ey_44
            refine lv_iinc (v := y_44) (lv' := [(3, .int y_44), (4, .ref h_8), (0, .ref h), (1, .int x), (2, .int y)]) hx hb dX2_lapseAll_38 hl (k := 1) rfl (by rw [ey_44]; rfl) (by decide) rfl (fun ls hl => ?_)
            refine lv_goto (tgt := 2) hx hb dX2_lapseAll_41 (by decide) ?_
            have St : cS G k ([(qAI h 2 b bn), (qarQ b ce 60 fa), (qIIIIAAAIIIII h_8 1 pg_13 pf_14 pe_15 pz_16 o0_9 o1_10 o2_11 pp_17 pa_18 1 pk_20 pb2_41), (qarI o0_9 ci N0_12 w0_22), (qarI o1_10 ci N0_12 w1_23), (qarI o2_11 ci N0_12 z2_42)] ++ (PWx nP kk.toNatClampNeg bq ++ [])) [(ci, .int), (ce, .object "TowerAppeal$Pledge")] A s H locs := ct_pick St [0, 1, 2, 3, 4, 5] rfl (by decide) [0, 1] rfl
            have St := cs_push (cs := [(qAI h 2 b bn), (qarQ b ce 60 fa)]) (b := [(qIIIIAAAIIIII h_8 1 pg_13 pf_14 pe_15 pz_16 o0_9 o1_10 o2_11 pp_17 pa_18 1 pk_20 pb2_41), (qarI o0_9 ci N0_12 w0_22), (qarI o1_10 ci N0_12 w1_23), (qarI o2_11 ci N0_12 z2_42)]) (rs := []) St hj_31
            obtain ⟨B_45, eB_45⟩ : ∃ zz : Nat → va_W, zz = setB bq kk.toNatClampNeg [(qIIIIAAAIIIII h_8 1 pg_13 pf_14 pe_15 pz_16 o0_9 o1_10 o2_11 pp_17 pa_18 1 pk_20 pb2_41), (qarI o0_9 ci N0_12 w0_22), (qarI o1_10 ci N0_12 w1_23), (qarI o2_11 ci N0_12 z2_42)] := ⟨_, rfl⟩
            rw [← eB_45] at St
            have hB_46 : ∀ i, i < nP → okE ci (tbS (lapT x.toInt y.toInt kk.toNatClampNeg tP) kk.toNatClampNeg (N0_12, pg_13, pf_14, pe_15, 1, pk_20, w0_22, w1_23, z2_42) i) (fa i) (B_45 i) := by rw [eB_45]; exact okE_set hBq ⟨h_8, o0_9, o1_10, o2_11, N0_12, pg_13, pf_14, pe_15, pz_16, pp_17, pa_18, 1, pk_20, pb2_41, w0_22, w1_23, z2_42, q_25, q_26, q_27, Or.inr rfl, rfl, rfl⟩
            have St : cS G k ([(qAI h 2 b bn), (qarQ b ce 60 fa)] ++ (PW nP B_45 ++ [])) [(ci, .int), (ce, .object "TowerAppeal$Pledge")] A s H locs := St
            skip
            exact ih y_44 B_45 _ _ _ ⟨⟨by omega, by omega⟩, by rw [nc_s hI0 (show y_44.toInt = kk.toInt + 1 by omega), ← lapT_up (T := (N0_12, pg_13, pf_14, pe_15, 1, pk_20, w0_22, w1_23, z2_42)) (ls_y (lapT_at.symm.trans q_30) (by show _ ≤ sm _ _; omega) (by rw [hz_43]; rfl))]; exact hB_46⟩ (by omega) (show cS G k ([(qAI h 2 b bn), (qarQ b ce 60 fa)] ++ (PW nP B_45 ++ [])) [(ci, .int), (ce, .object "TowerAppeal$Pledge")] A s H locs from ct_pick St [0, 1] rfl (by decide) [0, 1] rfl) (lv_sub hl [0, 2, 3, 4] rfl)
  exact lp2 61 0 bP _ _ _ ⟨⟨by omega, by omega⟩, by rw [show (0 : Int32).toNatClampNeg = 0 from rfl, lapT_0]; exact hB⟩ (by omega) St (lv_sub hl [0, 1, 2, 3] rfl)
set_option maxHeartbeats 4000000 in
set_option maxRecDepth 100000 in
theorem e8_matchHundredths (l : Launch) (G : va_G) (k : Nat → Nat) (sz : Nat) (h : Nat) (b : Nat) (cb : ClassId) (f : Nat → Int32) : Met l yX8_matchHundredths (Cond.code yX8_matchHundredths cX8_matchHundredths 1 (some .int) :: tb) ({ frames := 0, cells := 0, slots := 0, locals := 0 } : Room) (va_Pc [.ref h] (cP G k [(qA h 8 b), (qarI b cb 9 f)] [(cb, .int)] sz)) (va_Qi (fun (r : Int32) (_ : Unit) => (r = f (0 : Int32).toNatClampNeg)) (cB G (fun (_ : Unit) => [(qA h 8 b), (qarI b cb 9 f)]) (fun (_ : Unit) => []) (va_A [(qA h 8 b), (qarI b cb 9 f)] sz)) (va_A [(qA h 8 b), (qarI b cb 9 f)] sz)) 0 0 (va_A [(qA h 8 b), (qarI b cb 9 f)] sz) := by
  refine ofC_i (cc := cX8_matchHundredths) (maxL := 1) (ret := (some .int)) (by decide) rfl (Nat.le_of_ble_eq_true rfl) ?_
  intro p e s m args below meth c A ls Q F hr hin hlk St hl hQ
  have hx := F.1
  have hb := F.2.1
  have hl : lv_has ls 1 [(0, .ref h)] := hl
  have St : cS G k [(qA h 8 b), (qarI b cb 9 f)] [(cb, .int)] A s s.heap [] := St
  refine lv_aload_n hx hb dX8_matchHundredths_0 rfl (lv_at hl 0 rfl) ?_
  refine cs_get F St 0 rfl rfl inX8 0 (by decide) kf_X8_11 rfl dX8_matchHundredths_1 ?_
  refine lv_iconst (v := 0) hx hb dX8_matchHundredths_4 (by decide) ?_
  refine cs_ild F St 1 0 rfl rfl (vp_in_iff.mpr (by decide)) dX8_matchHundredths_5 ?_
  refine lv_topi (fun y_1 ey_1 => ?_)
  have gy_1 := congrArg Int32.toInt ey_1
  exact cs_iret F hr hlk hQ St () (r := y_1) ey_1 [0, 1] rfl (by decide) [] rfl (by decide) (by decide) dX8_matchHundredths_6
set_option maxHeartbeats 4000000 in
set_option maxRecDepth 100000 in
theorem e8_matchTill (l : Launch) (G : va_G) (k : Nat → Nat) (sz : Nat) (h : Nat) (b : Nat) (cb : ClassId) (f : Nat → Int32) : Met l yX8_matchTill (Cond.code yX8_matchTill cX8_matchTill 1 (some .int) :: tb) ({ frames := 0, cells := 0, slots := 0, locals := 0 } : Room) (va_Pc [.ref h] (cP G k [(qA h 8 b), (qarI b cb 9 f)] [(cb, .int)] sz)) (va_Qi (fun (r : Int32) (_ : Unit) => (r = f (2 : Int32).toNatClampNeg)) (cB G (fun (_ : Unit) => [(qA h 8 b), (qarI b cb 9 f)]) (fun (_ : Unit) => []) (va_A [(qA h 8 b), (qarI b cb 9 f)] sz)) (va_A [(qA h 8 b), (qarI b cb 9 f)] sz)) 0 0 (va_A [(qA h 8 b), (qarI b cb 9 f)] sz) := by
  refine ofC_i (cc := cX8_matchTill) (maxL := 1) (ret := (some .int)) (by decide) rfl (Nat.le_of_ble_eq_true rfl) ?_
  intro p e s m args below meth c A ls Q F hr hin hlk St hl hQ
  have hx := F.1
  have hb := F.2.1
  have hl : lv_has ls 1 [(0, .ref h)] := hl
  have St : cS G k [(qA h 8 b), (qarI b cb 9 f)] [(cb, .int)] A s s.heap [] := St
  refine lv_aload_n hx hb dX8_matchTill_0 rfl (lv_at hl 0 rfl) ?_
  refine cs_get F St 0 rfl rfl inX8 0 (by decide) kf_X8_11 rfl dX8_matchTill_1 ?_
  refine lv_iconst (v := 2) hx hb dX8_matchTill_4 (by decide) ?_
  refine cs_ild F St 1 0 rfl rfl (vp_in_iff.mpr (by decide)) dX8_matchTill_5 ?_
  refine lv_topi (fun y_1 ey_1 => ?_)
  have gy_1 := congrArg Int32.toInt ey_1
  exact cs_iret F hr hlk hQ St () (r := y_1) ey_1 [0, 1] rfl (by decide) [] rfl (by decide) (by decide) dX8_matchTill_6
set_option maxHeartbeats 4000000 in
set_option maxRecDepth 100000 in
theorem e8_taxHundredths (l : Launch) (G : va_G) (k : Nat → Nat) (sz : Nat) (h : Nat) (b : Nat) (cb : ClassId) (f : Nat → Int32) : Met l yX8_taxHundredths (Cond.code yX8_taxHundredths cX8_taxHundredths 1 (some .int) :: tb) ({ frames := 0, cells := 0, slots := 0, locals := 0 } : Room) (va_Pc [.ref h] (cP G k [(qA h 8 b), (qarI b cb 9 f)] [(cb, .int)] sz)) (va_Qi (fun (r : Int32) (_ : Unit) => (r = f (3 : Int32).toNatClampNeg)) (cB G (fun (_ : Unit) => [(qA h 8 b), (qarI b cb 9 f)]) (fun (_ : Unit) => []) (va_A [(qA h 8 b), (qarI b cb 9 f)] sz)) (va_A [(qA h 8 b), (qarI b cb 9 f)] sz)) 0 0 (va_A [(qA h 8 b), (qarI b cb 9 f)] sz) := by
  refine ofC_i (cc := cX8_taxHundredths) (maxL := 1) (ret := (some .int)) (by decide) rfl (Nat.le_of_ble_eq_true rfl) ?_
  intro p e s m args below meth c A ls Q F hr hin hlk St hl hQ
  have hx := F.1
  have hb := F.2.1
  have hl : lv_has ls 1 [(0, .ref h)] := hl
  have St : cS G k [(qA h 8 b), (qarI b cb 9 f)] [(cb, .int)] A s s.heap [] := St
  refine lv_aload_n hx hb dX8_taxHundredths_0 rfl (lv_at hl 0 rfl) ?_
  refine cs_get F St 0 rfl rfl inX8 0 (by decide) kf_X8_11 rfl dX8_taxHundredths_1 ?_
  refine lv_iconst (v := 3) hx hb dX8_taxHundredths_4 (by decide) ?_
  refine cs_ild F St 1 0 rfl rfl (vp_in_iff.mpr (by decide)) dX8_taxHundredths_5 ?_
  refine lv_topi (fun y_1 ey_1 => ?_)
  have gy_1 := congrArg Int32.toInt ey_1
  exact cs_iret F hr hlk hQ St () (r := y_1) ey_1 [0, 1] rfl (by decide) [] rfl (by decide) (by decide) dX8_taxHundredths_6
set_option maxHeartbeats 4000000 in
set_option maxRecDepth 100000 in
theorem e8_lapseDues (l : Launch) (G : va_G) (k : Nat → Nat) (sz : Nat) (h : Nat) (b : Nat) (cb : ClassId) (f : Nat → Int32) : Met l yX8_lapseDues (Cond.code yX8_lapseDues cX8_lapseDues 1 (some .int) :: tb) ({ frames := 0, cells := 0, slots := 0, locals := 0 } : Room) (va_Pc [.ref h] (cP G k [(qA h 8 b), (qarI b cb 9 f)] [(cb, .int)] sz)) (va_Qi (fun (r : Int32) (_ : Unit) => (r = f (4 : Int32).toNatClampNeg)) (cB G (fun (_ : Unit) => [(qA h 8 b), (qarI b cb 9 f)]) (fun (_ : Unit) => []) (va_A [(qA h 8 b), (qarI b cb 9 f)] sz)) (va_A [(qA h 8 b), (qarI b cb 9 f)] sz)) 0 0 (va_A [(qA h 8 b), (qarI b cb 9 f)] sz) := by
  refine ofC_i (cc := cX8_lapseDues) (maxL := 1) (ret := (some .int)) (by decide) rfl (Nat.le_of_ble_eq_true rfl) ?_
  intro p e s m args below meth c A ls Q F hr hin hlk St hl hQ
  have hx := F.1
  have hb := F.2.1
  have hl : lv_has ls 1 [(0, .ref h)] := hl
  have St : cS G k [(qA h 8 b), (qarI b cb 9 f)] [(cb, .int)] A s s.heap [] := St
  refine lv_aload_n hx hb dX8_lapseDues_0 rfl (lv_at hl 0 rfl) ?_
  refine cs_get F St 0 rfl rfl inX8 0 (by decide) kf_X8_11 rfl dX8_lapseDues_1 ?_
  refine lv_iconst (v := 4) hx hb dX8_lapseDues_4 (by decide) ?_
  refine cs_ild F St 1 0 rfl rfl (vp_in_iff.mpr (by decide)) dX8_lapseDues_5 ?_
  refine lv_topi (fun y_1 ey_1 => ?_)
  have gy_1 := congrArg Int32.toInt ey_1
  exact cs_iret F hr hlk hQ St () (r := y_1) ey_1 [0, 1] rfl (by decide) [] rfl (by decide) (by decide) dX8_lapseDues_6
set_option maxHeartbeats 4000000 in
set_option maxRecDepth 100000 in
theorem e8_loanThousandths (l : Launch) (G : va_G) (k : Nat → Nat) (sz : Nat) (h : Nat) (b : Nat) (cb : ClassId) (f : Nat → Int32) : Met l yX8_loanThousandths (Cond.code yX8_loanThousandths cX8_loanThousandths 1 (some .int) :: tb) ({ frames := 0, cells := 0, slots := 0, locals := 0 } : Room) (va_Pc [.ref h] (cP G k [(qA h 8 b), (qarI b cb 9 f)] [(cb, .int)] sz)) (va_Qi (fun (r : Int32) (_ : Unit) => (r = f (6 : Int32).toNatClampNeg)) (cB G (fun (_ : Unit) => [(qA h 8 b), (qarI b cb 9 f)]) (fun (_ : Unit) => []) (va_A [(qA h 8 b), (qarI b cb 9 f)] sz)) (va_A [(qA h 8 b), (qarI b cb 9 f)] sz)) 0 0 (va_A [(qA h 8 b), (qarI b cb 9 f)] sz) := by
  refine ofC_i (cc := cX8_loanThousandths) (maxL := 1) (ret := (some .int)) (by decide) rfl (Nat.le_of_ble_eq_true rfl) ?_
  intro p e s m args below meth c A ls Q F hr hin hlk St hl hQ
  have hx := F.1
  have hb := F.2.1
  have hl : lv_has ls 1 [(0, .ref h)] := hl
  have St : cS G k [(qA h 8 b), (qarI b cb 9 f)] [(cb, .int)] A s s.heap [] := St
  refine lv_aload_n hx hb dX8_loanThousandths_0 rfl (lv_at hl 0 rfl) ?_
  refine cs_get F St 0 rfl rfl inX8 0 (by decide) kf_X8_11 rfl dX8_loanThousandths_1 ?_
  refine lv_bipush (v := 6) hx hb dX8_loanThousandths_4 (by decide) ?_
  refine cs_ild F St 1 0 rfl rfl (vp_in_iff.mpr (by decide)) dX8_loanThousandths_6 ?_
  refine lv_topi (fun y_1 ey_1 => ?_)
  have gy_1 := congrArg Int32.toInt ey_1
  exact cs_iret F hr hlk hQ St () (r := y_1) ey_1 [0, 1] rfl (by decide) [] rfl (by decide) (by decide) dX8_loanThousandths_7
set_option maxHeartbeats 4000000 in
set_option maxRecDepth 100000 in
theorem e8_matchCapPence (l : Launch) (G : va_G) (k : Nat → Nat) (sz : Nat) (h : Nat) (b : Nat) (cb : ClassId) (f : Nat → Int32) : Met l yX8_matchCapPence (Cond.code yX8_matchCapPence cX8_matchCapPence 1 (some .int) :: tb) ({ frames := 0, cells := 0, slots := 0, locals := 0 } : Room) (va_Pc [.ref h] (cP G k [(qA h 8 b), (qarI b cb 9 f)] [(cb, .int)] sz)) (va_Qi (fun (r : Int32) (_ : Unit) => (r = f (1 : Int32).toNatClampNeg * 100)) (cB G (fun (_ : Unit) => [(qA h 8 b), (qarI b cb 9 f)]) (fun (_ : Unit) => []) (va_A [(qA h 8 b), (qarI b cb 9 f)] sz)) (va_A [(qA h 8 b), (qarI b cb 9 f)] sz)) 0 0 (va_A [(qA h 8 b), (qarI b cb 9 f)] sz) := by
  refine ofC_i (cc := cX8_matchCapPence) (maxL := 1) (ret := (some .int)) (by decide) rfl (Nat.le_of_ble_eq_true rfl) ?_
  intro p e s m args below meth c A ls Q F hr hin hlk St hl hQ
  have hx := F.1
  have hb := F.2.1
  have hl : lv_has ls 1 [(0, .ref h)] := hl
  have St : cS G k [(qA h 8 b), (qarI b cb 9 f)] [(cb, .int)] A s s.heap [] := St
  refine lv_aload_n hx hb dX8_matchCapPence_0 rfl (lv_at hl 0 rfl) ?_
  refine cs_get F St 0 rfl rfl inX8 0 (by decide) kf_X8_11 rfl dX8_matchCapPence_1 ?_
  refine lv_iconst (v := 1) hx hb dX8_matchCapPence_4 (by decide) ?_
  refine cs_ild F St 1 0 rfl rfl (vp_in_iff.mpr (by decide)) dX8_matchCapPence_5 ?_
  refine lv_topi (fun y_1 ey_1 => ?_)
  have gy_1 := congrArg Int32.toInt ey_1
  refine lv_bipush (v := 100) hx hb dX8_matchCapPence_6 (by decide) ?_
  refine lv_imul hx hb dX8_matchCapPence_8 ?_
  refine lv_topi (fun y_2 ey_2 => ?_)
  first | have jy_2 : y_2.toInt = y_1.toInt * 100 := (by have q9 := ci_mul (x := y_1) (y := 100) rfl (show (100 : Int32).toInt = 100 by decide) ey_2; omega) | have jy_2 := ci_mul (x := y_1) (y := 100) rfl (show (100 : Int32).toInt = 100 by decide) ey_2
  exact cs_iret F hr hlk hQ St () (r := y_2) (by rw [ey_2, ey_1]) [0, 1] rfl (by decide) [] rfl (by decide) (by decide) dX8_matchCapPence_9
set_option maxHeartbeats 4000000 in
set_option maxRecDepth 100000 in
theorem e8_loanPence (l : Launch) (G : va_G) (k : Nat → Nat) (sz : Nat) (h : Nat) (b : Nat) (cb : ClassId) (f : Nat → Int32) : Met l yX8_loanPence (Cond.code yX8_loanPence cX8_loanPence 1 (some .int) :: tb) ({ frames := 0, cells := 0, slots := 0, locals := 0 } : Room) (va_Pc [.ref h] (cP G k [(qA h 8 b), (qarI b cb 9 f)] [(cb, .int)] sz)) (va_Qi (fun (r : Int32) (_ : Unit) => (r = f (5 : Int32).toNatClampNeg * 100)) (cB G (fun (_ : Unit) => [(qA h 8 b), (qarI b cb 9 f)]) (fun (_ : Unit) => []) (va_A [(qA h 8 b), (qarI b cb 9 f)] sz)) (va_A [(qA h 8 b), (qarI b cb 9 f)] sz)) 0 0 (va_A [(qA h 8 b), (qarI b cb 9 f)] sz) := by
  refine ofC_i (cc := cX8_loanPence) (maxL := 1) (ret := (some .int)) (by decide) rfl (Nat.le_of_ble_eq_true rfl) ?_
  intro p e s m args below meth c A ls Q F hr hin hlk St hl hQ
  have hx := F.1
  have hb := F.2.1
  have hl : lv_has ls 1 [(0, .ref h)] := hl
  have St : cS G k [(qA h 8 b), (qarI b cb 9 f)] [(cb, .int)] A s s.heap [] := St
  refine lv_aload_n hx hb dX8_loanPence_0 rfl (lv_at hl 0 rfl) ?_
  refine cs_get F St 0 rfl rfl inX8 0 (by decide) kf_X8_11 rfl dX8_loanPence_1 ?_
  refine lv_iconst (v := 5) hx hb dX8_loanPence_4 (by decide) ?_
  refine cs_ild F St 1 0 rfl rfl (vp_in_iff.mpr (by decide)) dX8_loanPence_5 ?_
  refine lv_topi (fun y_1 ey_1 => ?_)
  have gy_1 := congrArg Int32.toInt ey_1
  refine lv_bipush (v := 100) hx hb dX8_loanPence_6 (by decide) ?_
  refine lv_imul hx hb dX8_loanPence_8 ?_
  refine lv_topi (fun y_2 ey_2 => ?_)
  first | have jy_2 : y_2.toInt = y_1.toInt * 100 := (by have q9 := ci_mul (x := y_1) (y := 100) rfl (show (100 : Int32).toInt = 100 by decide) ey_2; omega) | have jy_2 := ci_mul (x := y_1) (y := 100) rfl (show (100 : Int32).toInt = 100 by decide) ey_2
  exact cs_iret F hr hlk hQ St () (r := y_2) (by rw [ey_2, ey_1]) [0, 1] rfl (by decide) [] rfl (by decide) (by decide) dX8_loanPence_9
set_option maxHeartbeats 4000000 in
set_option maxRecDepth 100000 in
theorem e8_stonePence (l : Launch) (G : va_G) (k : Nat → Nat) (sz : Nat) (h : Nat) (b : Nat) (cb : ClassId) (f : Nat → Int32) : Met l yX8_stonePence (Cond.code yX8_stonePence cX8_stonePence 1 (some .int) :: tb) ({ frames := 0, cells := 0, slots := 0, locals := 0 } : Room) (va_Pc [.ref h] (cP G k [(qA h 8 b), (qarI b cb 9 f)] [(cb, .int)] sz)) (va_Qi (fun (r : Int32) (_ : Unit) => (r = f (7 : Int32).toNatClampNeg * 100)) (cB G (fun (_ : Unit) => [(qA h 8 b), (qarI b cb 9 f)]) (fun (_ : Unit) => []) (va_A [(qA h 8 b), (qarI b cb 9 f)] sz)) (va_A [(qA h 8 b), (qarI b cb 9 f)] sz)) 0 0 (va_A [(qA h 8 b), (qarI b cb 9 f)] sz) := by
  refine ofC_i (cc := cX8_stonePence) (maxL := 1) (ret := (some .int)) (by decide) rfl (Nat.le_of_ble_eq_true rfl) ?_
  intro p e s m args below meth c A ls Q F hr hin hlk St hl hQ
  have hx := F.1
  have hb := F.2.1
  have hl : lv_has ls 1 [(0, .ref h)] := hl
  have St : cS G k [(qA h 8 b), (qarI b cb 9 f)] [(cb, .int)] A s s.heap [] := St
  refine lv_aload_n hx hb dX8_stonePence_0 rfl (lv_at hl 0 rfl) ?_
  refine cs_get F St 0 rfl rfl inX8 0 (by decide) kf_X8_11 rfl dX8_stonePence_1 ?_
  refine lv_bipush (v := 7) hx hb dX8_stonePence_4 (by decide) ?_
  refine cs_ild F St 1 0 rfl rfl (vp_in_iff.mpr (by decide)) dX8_stonePence_6 ?_
  refine lv_topi (fun y_1 ey_1 => ?_)
  have gy_1 := congrArg Int32.toInt ey_1
  refine lv_bipush (v := 100) hx hb dX8_stonePence_7 (by decide) ?_
  refine lv_imul hx hb dX8_stonePence_9 ?_
  refine lv_topi (fun y_2 ey_2 => ?_)
  first | have jy_2 : y_2.toInt = y_1.toInt * 100 := (by have q9 := ci_mul (x := y_1) (y := 100) rfl (show (100 : Int32).toInt = 100 by decide) ey_2; omega) | have jy_2 := ci_mul (x := y_1) (y := 100) rfl (show (100 : Int32).toInt = 100 by decide) ey_2
  exact cs_iret F hr hlk hQ St () (r := y_2) (by rw [ey_2, ey_1]) [0, 1] rfl (by decide) [] rfl (by decide) (by decide) dX8_stonePence_10
set_option maxHeartbeats 4000000 in
set_option maxRecDepth 100000 in
theorem e8_givesAllBack (l : Launch) (G : va_G) (k : Nat → Nat) (sz : Nat) (h : Nat) (b : Nat) (cb : ClassId) (f : Nat → Int32) : Met l yX8_givesAllBack (Cond.code yX8_givesAllBack cX8_givesAllBack 1 (some .boolean) :: tb) ({ frames := 0, cells := 0, slots := 0, locals := 0 } : Room) (va_Pc [.ref h] (cP G k [(qA h 8 b), (qarI b cb 9 f)] [(cb, .int)] sz)) (va_Qi (fun (r : Int32) (_ : Unit) => ((r = 1) ∧ ((f (8 : Int32).toNatClampNeg).toInt = 1)) ∨ ((r = 0) ∧ (¬ ((f (8 : Int32).toNatClampNeg).toInt = 1)))) (cB G (fun (_ : Unit) => [(qA h 8 b), (qarI b cb 9 f)]) (fun (_ : Unit) => []) (va_A [(qA h 8 b), (qarI b cb 9 f)] sz)) (va_A [(qA h 8 b), (qarI b cb 9 f)] sz)) 0 0 (va_A [(qA h 8 b), (qarI b cb 9 f)] sz) := by
  refine ofC_i (cc := cX8_givesAllBack) (maxL := 1) (ret := (some .boolean)) (by decide) rfl (Nat.le_of_ble_eq_true rfl) ?_
  intro p e s m args below meth c A ls Q F hr hin hlk St hl hQ
  have hx := F.1
  have hb := F.2.1
  have hl : lv_has ls 1 [(0, .ref h)] := hl
  have St : cS G k [(qA h 8 b), (qarI b cb 9 f)] [(cb, .int)] A s s.heap [] := St
  have y1 : (1 : Int32).toInt = 1 := by decide
  refine lv_aload_n hx hb dX8_givesAllBack_0 rfl (lv_at hl 0 rfl) ?_
  refine cs_get F St 0 rfl rfl inX8 0 (by decide) kf_X8_11 rfl dX8_givesAllBack_1 ?_
  refine lv_bipush (v := 8) hx hb dX8_givesAllBack_4 (by decide) ?_
  refine cs_ild F St 1 0 rfl rfl (vp_in_iff.mpr (by decide)) dX8_givesAllBack_6 ?_
  refine lv_topi (fun y_1 ey_1 => ?_)
  have gy_1 := congrArg Int32.toInt ey_1
  refine lv_iconst (v := 1) hx hb dX8_givesAllBack_7 (by decide) ?_
  refine lv_icmp_ne (tgt := 15) hx hb dX8_givesAllBack_8 (by decide) (fun c8 => ?_) (fun c8 => ?_)
  ·
    have i8 := ci_ne (x := y_1) (y := 1) rfl (show (1 : Int32).toInt = 1 by decide) c8
    refine lv_iconst (v := 0) hx hb dX8_givesAllBack_15 (by decide) ?_
    exact cs_zret F hr hlk hQ St () (r := 0) rfl (Or.inr ⟨rfl, by omega⟩) [0, 1] rfl (by decide) [] rfl (by decide) (by decide) dX8_givesAllBack_16
  ·
    have i8 := ci_eq (x := y_1) (y := 1) rfl (show (1 : Int32).toInt = 1 by decide) c8
    refine lv_iconst (v := 1) hx hb dX8_givesAllBack_11 (by decide) ?_
    refine lv_goto (tgt := 16) hx hb dX8_givesAllBack_12 (by decide) ?_
    exact cs_zret F hr hlk hQ St () (r := 1) rfl (Or.inl ⟨rfl, by omega⟩) [0, 1] rfl (by decide) [] rfl (by decide) (by decide) dX8_givesAllBack_16
set_option maxHeartbeats 4000000 in
set_option maxRecDepth 100000 in
theorem e3_takeSum (l : Launch) (G : va_G) (k : Nat → Nat) (sz : Nat) (h : Nat) (p0 : Int64) (p1 : Int64) (p2 : Int64) (p3 : Int64) (p4 : Int64) (p5 : Int64) (t : Nat) (tb0 : Nat) (te : ClassId) (ft : Nat → Int32) (x : Int32) (y : Int32) (hx1 : 1 ≤ x.toInt ∧ x.toInt ≤ 5000000) (hp2 : 0 ≤ p2.toInt ∧ p2.toInt ≤ 100000000) (hp0 : 0 ≤ p0.toInt ∧ p0.toInt ≤ 2000000000) (hF : rbd ft) : Met l yX3_takeSum (Cond.code yX3_takeSum cX3_takeSum 10 (some .int) :: tb) ({ frames := 1, cells := 0, slots := 0, locals := 23 } : Room) (va_Pc [.ref h, .int x, .int y, .ref t] (cP G k [(qJJJJJJ h 3 p0 p1 p2 p3 p4 p5), (qA t 8 tb0), (qarI tb0 te 9 ft)] [(te, .int)] sz)) (va_Qi (fun (r : Int32) (u : Int64 × Int64 × Int64 × Int64 × Int64 × Int64) => match u with | (q0, q1, q2, q3, q4, q5) => (r.toInt = mtV ft p2.toInt y.toInt x.toInt) ∧ (q2.toInt = p2.toInt + r.toInt) ∧ (q0.toInt = p0.toInt + x.toInt + r.toInt) ∧ (q1 = p1) ∧ (q3 = p3) ∧ (q4 = p4) ∧ (q5 = p5)) (cB G (fun u => match u with | (q0, q1, q2, q3, q4, q5) => [(qJJJJJJ h 3 q0 q1 q2 q3 q4 q5), (qA t 8 tb0), (qarI tb0 te 9 ft)]) (fun u => match u with | (q0, q1, q2, q3, q4, q5) => []) (va_A [(qJJJJJJ h 3 p0 p1 p2 p3 p4 p5), (qA t 8 tb0), (qarI tb0 te 9 ft)] sz)) (va_A [(qJJJJJJ h 3 p0 p1 p2 p3 p4 p5), (qA t 8 tb0), (qarI tb0 te 9 ft)] sz)) 0 0 (va_A [(qJJJJJJ h 3 p0 p1 p2 p3 p4 p5), (qA t 8 tb0), (qarI tb0 te 9 ft)] sz) := by
  refine ofC_i (cc := cX3_takeSum) (maxL := 10) (ret := (some .int)) (by decide) rfl (Nat.le_of_ble_eq_true rfl) ?_
  intro p e s m args below meth c A ls Q F hr hin hlk St hl hQ
  have hx := F.1
  have hb := F.2.1
  have hl : lv_has ls 10 [(0, .ref h), (1, .int x), (2, .int y), (3, .ref t)] := hl
  have St : cS G k [(qJJJJJJ h 3 p0 p1 p2 p3 p4 p5), (qA t 8 tb0), (qarI tb0 te 9 ft)] [(te, .int)] A s s.heap [] := St
  have y0 : (0 : Int32).toInt = 0 := by decide
  have hF0 := hF.1
  have hF1 := hF.2.1
  refine lv_lconst (v := 0) hx hb dX3_takeSum_0 (by decide) ?_
  refine lv_lstore (lv' := [(4, .long 0), (0, .ref h), (1, .int x), (2, .int y), (3, .ref t)]) hx hb dX3_takeSum_1 hl (by decide) rfl (fun ls hl => ?_)
  refine lv_iload_n hx hb dX3_takeSum_3 rfl (lv_at hl 3 rfl) ?_
  refine lv_aload_n hx hb dX3_takeSum_4 rfl (lv_at hl 4 rfl) ?_
  refine cs_i St [1, 2] [0] (wc := [(qA t 8 tb0), (qarI tb0 te 9 ft)]) (wr := [(qJJJJJJ h 3 p0 p1 p2 p3 p4 p5)]) rfl rfl (by decide) (by decide) (va_runV (As := []) (rest := [.int y]) F (e8_matchTill l G k _ t tb0 te ft) (cwVt F mf_X8_matchTill km_X3_28 rfl rfl ⟨Nat.le_of_ble_eq_true rfl, Nat.le_of_ble_eq_true rfl⟩) (cs_preV St [1, 2] rfl (by decide) [0] rfl (ci := 8) (q0 := 1) rfl rfl) rfl rfl hl.1 rfl (lv_room (Nat.le_of_ble_eq_true rfl)) dX3_takeSum_5 ⟨Nat.le_of_ble_eq_true rfl, Nat.le_of_ble_eq_true rfl⟩) (fun r_1 u_2 H locs hw St => ?_)
  try dsimp only at hw
  have hr_3 := hw
  have St : cS G k [(qJJJJJJ h 3 p0 p1 p2 p3 p4 p5), (qA t 8 tb0), (qarI tb0 te 9 ft)] [(te, .int)] A s H locs := St
  have ghr_3 := congrArg Int32.toInt hr_3
  refine lv_icmp_gt (tgt := 50) hx hb dX3_takeSum_8 (by decide) (fun c8 => ?_) (fun c8 => ?_)
  ·
    have i8 := ci_lt (x := r_1) (y := y) rfl rfl c8
    refine lv_aload_n hx hb dX3_takeSum_50 rfl (lv_at hl 1 rfl) ?_
    refine lv_dup hx hb dX3_takeSum_51 rfl ?_
    refine cs_get F St 0 rfl rfl inX3 2 (by decide) kf_X3_16 rfl dX3_takeSum_52 ?_
    refine lv_lload hx hb dX3_takeSum_55 (lv_at hl 0 rfl) ?_
    refine lv_ladd hx hb dX3_takeSum_57 ?_
    refine lv_topl (fun y_4 ey_4 => ?_)
    first | have jy_4 : y_4.toInt = p2.toInt + 0 := (by have q9 := cl_add (x := p2) (y := 0) (u := p2.toInt) (v := 0) rfl (by decide) ey_4; omega) | have jy_4 := cl_add (x := p2) (y := 0) (u := p2.toInt) (v := 0) rfl (by decide) ey_4
    refine cs_put F St 0 rfl rfl inX3 tyX3_ok nmX3 2 (by decide) kf_X3_16 rfl rfl rfl (Nat.le_of_ble_eq_true rfl) (w' := [(qJJJJJJ h 3 p0 p1 y_4 p3 p4 p5), (qA t 8 tb0), (qarI tb0 te 9 ft)]) rfl dX3_takeSum_58 (fun H locs St => ?_)
    refine lv_aload_n hx hb dX3_takeSum_61 rfl (lv_at hl 1 rfl) ?_
    refine lv_dup hx hb dX3_takeSum_62 rfl ?_
    refine cs_get F St 0 rfl rfl inX3 0 (by decide) kf_X3_7 rfl dX3_takeSum_63 ?_
    refine lv_iload_n hx hb dX3_takeSum_66 rfl (lv_at hl 2 rfl) ?_
    refine lv_i2l (v := x.toInt64) hx hb dX3_takeSum_67 rfl ?_
    refine lv_lload hx hb dX3_takeSum_68 (lv_at hl 0 rfl) ?_
    refine lv_ladd hx hb dX3_takeSum_70 ?_
    refine lv_topl (fun y_5 ey_5 => ?_)
    first | have jy_5 : y_5.toInt = x.toInt + 0 := (by have q7 := ci_rng x; have q9 := cl_add (x := x.toInt64) (y := 0) (u := x.toInt) (v := 0) (Int32.toInt_toInt64 x) (by decide) ey_5; omega) | have jy_5 := cl_add (x := x.toInt64) (y := 0) (u := x.toInt) (v := 0) (Int32.toInt_toInt64 x) (by decide) ey_5
    refine lv_ladd hx hb dX3_takeSum_71 ?_
    refine lv_topl (fun y_6 ey_6 => ?_)
    first | have jy_6 : y_6.toInt = p0.toInt + y_5.toInt := (by have q9 := cl_add (x := p0) (y := y_5) (u := p0.toInt) (v := y_5.toInt) rfl rfl ey_6; omega) | have jy_6 := cl_add (x := p0) (y := y_5) (u := p0.toInt) (v := y_5.toInt) rfl rfl ey_6
    refine cs_put F St 0 rfl rfl inX3 tyX3_ok nmX3 0 (by decide) kf_X3_7 rfl rfl rfl (Nat.le_of_ble_eq_true rfl) (w' := [(qJJJJJJ h 3 y_6 p1 y_4 p3 p4 p5), (qA t 8 tb0), (qarI tb0 te 9 ft)]) rfl dX3_takeSum_72 (fun H locs St => ?_)
    refine lv_lload hx hb dX3_takeSum_75 (lv_at hl 0 rfl) ?_
    skip
    refine lv_l2i (v := 0) hx hb dX3_takeSum_77 (by decide) ?_
    exact cs_iret F hr hlk hQ St (y_6, p1, y_4, p3, p4, p5) (r := 0) ⟨mt_no (by omega) (by decide), by omega, by omega, rfl, rfl, rfl, rfl⟩ [0, 1, 2] rfl (by decide) [] rfl (by decide) (by decide) dX3_takeSum_78
  ·
    have i8 := ci_nlt (x := r_1) (y := y) rfl rfl c8
    refine lv_iload_n hx hb dX3_takeSum_11 rfl (lv_at hl 2 rfl) ?_
    refine lv_i2l (v := x.toInt64) hx hb dX3_takeSum_12 rfl ?_
    refine lv_aload_n hx hb dX3_takeSum_13 rfl (lv_at hl 4 rfl) ?_
    refine cs_i St [1, 2] [0] (wc := [(qA t 8 tb0), (qarI tb0 te 9 ft)]) (wr := [(qJJJJJJ h 3 p0 p1 p2 p3 p4 p5)]) rfl rfl (by decide) (by decide) (va_runV (As := []) (rest := [.long x.toInt64]) F (e8_matchHundredths l G k _ t tb0 te ft) (cwVt F mf_X8_matchHundredths km_X3_34 rfl rfl ⟨Nat.le_of_ble_eq_true rfl, Nat.le_of_ble_eq_true rfl⟩) (cs_preV St [1, 2] rfl (by decide) [0] rfl (ci := 8) (q0 := 1) rfl rfl) rfl rfl hl.1 rfl (lv_room (Nat.le_of_ble_eq_true rfl)) dX3_takeSum_14 ⟨Nat.le_of_ble_eq_true rfl, Nat.le_of_ble_eq_true rfl⟩) (fun r_7 u_8 H locs hw St => ?_)
    try dsimp only at hw
    have hr_9 := hw
    have St : cS G k [(qJJJJJJ h 3 p0 p1 p2 p3 p4 p5), (qA t 8 tb0), (qarI tb0 te 9 ft)] [(te, .int)] A s H locs := St
    have ghr_9 := congrArg Int32.toInt hr_9
    refine lv_i2l (v := r_7.toInt64) hx hb dX3_takeSum_17 rfl ?_
    refine lv_lmul hx hb dX3_takeSum_18 ?_
    refine lv_topl (fun y_10 ey_10 => ?_)
    obtain ⟨jm1, jm2, jm3⟩ := cl_mulb (u := x.toInt) (v := (ft (0 : Int32).toNatClampNeg).toInt) (A := 5000000) (B := 100) (Int32.toInt_toInt64 _) (by rw [Int32.toInt_toInt64, hr_9]) ey_10 (by omega) (by omega) hF.1.1 hF.1.2 (by decide)
    refine lv_ldc2 (v := 100) hx hb F.2.2.2.1 (F.2.2.2.2 _ kk_X3_37) dX3_takeSum_19 ?_
    refine lv_ldiv hx hb dX3_takeSum_22 (by decide) ?_
    refine lv_topl (fun y_11 ey_11 => ?_)
    have jd := cl_div (u := x.toInt * (ft (0 : Int32).toNatClampNeg).toInt) (v := 100) jm1 (by decide) ey_11 jm2 (by decide)
    refine lv_lstore (lv' := [(6, .long y_11), (4, .long 0), (0, .ref h), (1, .int x), (2, .int y), (3, .ref t)]) hx hb dX3_takeSum_23 hl (by decide) rfl (fun ls hl => ?_)
    refine lv_lconst (v := 0) hx hb dX3_takeSum_25 (by decide) ?_
    refine lv_aload_n hx hb dX3_takeSum_26 rfl (lv_at hl 5 rfl) ?_
    refine cs_i St [1, 2] [0] (wc := [(qA t 8 tb0), (qarI tb0 te 9 ft)]) (wr := [(qJJJJJJ h 3 p0 p1 p2 p3 p4 p5)]) rfl rfl (by decide) (by decide) (va_runV (As := []) (rest := [.long 0]) F (e8_matchCapPence l G k _ t tb0 te ft) (cwVt F mf_X8_matchCapPence km_X3_39 rfl rfl ⟨Nat.le_of_ble_eq_true rfl, Nat.le_of_ble_eq_true rfl⟩) (cs_preV St [1, 2] rfl (by decide) [0] rfl (ci := 8) (q0 := 1) rfl rfl) rfl rfl hl.1 rfl (lv_room (Nat.le_of_ble_eq_true rfl)) dX3_takeSum_27 ⟨Nat.le_of_ble_eq_true rfl, Nat.le_of_ble_eq_true rfl⟩) (fun r_12 u_13 H locs hw St => ?_)
    try dsimp only at hw
    have hr_14 := hw
    have St : cS G k [(qJJJJJJ h 3 p0 p1 p2 p3 p4 p5), (qA t 8 tb0), (qarI tb0 te 9 ft)] [(te, .int)] A s H locs := St
    have ghr_14 : r_12.toInt = (ft (1 : Int32).toNatClampNeg).toInt * 100 := by have q9 := ci_mul (x := ft (1 : Int32).toNatClampNeg) (y := 100) rfl (show (100 : Int32).toInt = 100 by decide) hr_14; omega
    refine lv_i2l (v := r_12.toInt64) hx hb dX3_takeSum_30 rfl ?_
    refine lv_aload_n hx hb dX3_takeSum_31 rfl (lv_at hl 2 rfl) ?_
    refine cs_get F St 0 rfl rfl inX3 2 (by decide) kf_X3_16 rfl dX3_takeSum_32 ?_
    refine lv_lsub hx hb dX3_takeSum_35 ?_
    refine lv_topl (fun y_15 ey_15 => ?_)
    first | have jy_15 : y_15.toInt = r_12.toInt - p2.toInt := (by have q7 := ci_rng r_12; have q9 := cl_sub (x := r_12.toInt64) (y := p2) (u := r_12.toInt) (v := p2.toInt) (Int32.toInt_toInt64 r_12) rfl ey_15; omega) | have jy_15 := cl_sub (x := r_12.toInt64) (y := p2) (u := r_12.toInt) (v := p2.toInt) (Int32.toInt_toInt64 r_12) rfl ey_15
    refine va_mmax_long hx hb (F.2.2.1.trans hl.1.symm) F.2.2.2.1 (F.2.2.2.2 _ km_X3_42) (F.2.2.2.2 _ ks_J9_max_f86c9) (F.2.2.2.2 _ ki_J9) (F.2.2.2.2 _ kd_J9_max_f86c9) (Nat.le_of_ble_eq_true rfl) (Nat.le_of_ble_eq_true rfl) (Nat.le_of_ble_eq_true rfl) (Nat.le_of_ble_eq_true rfl) dX3_takeSum_36 ?_
    refine lv_topl (fun y_16 ey_16 => ?_)
    have jy_16 := cl_max (x := 0) (y := y_15) (u := 0) (v := y_15.toInt) (by decide) rfl ey_16
    refine lv_lstore (lv' := [(8, .long y_16), (6, .long y_11), (4, .long 0), (0, .ref h), (1, .int x), (2, .int y), (3, .ref t)]) hx hb dX3_takeSum_39 hl (by decide) rfl (fun ls hl => ?_)
    refine lv_lload hx hb dX3_takeSum_41 (lv_at hl 1 rfl) ?_
    refine lv_lload hx hb dX3_takeSum_43 (lv_at hl 0 rfl) ?_
    refine va_mmin_long hx hb (F.2.2.1.trans hl.1.symm) F.2.2.2.1 (F.2.2.2.2 _ km_X3_48) (F.2.2.2.2 _ ks_J9_min_f86c9) (F.2.2.2.2 _ ki_J9) (F.2.2.2.2 _ kd_J9_min_f86c9) (Nat.le_of_ble_eq_true rfl) (Nat.le_of_ble_eq_true rfl) (Nat.le_of_ble_eq_true rfl) (Nat.le_of_ble_eq_true rfl) dX3_takeSum_45 ?_
    refine lv_topl (fun y_17 ey_17 => ?_)
    have jy_17 := cl_min (x := y_11) (y := y_16) (u := y_11.toInt) (v := y_16.toInt) rfl rfl ey_17
    refine lv_lstore (lv' := [(4, .long y_17), (8, .long y_16), (6, .long y_11), (0, .ref h), (1, .int x), (2, .int y), (3, .ref t)]) hx hb dX3_takeSum_48 hl (by decide) rfl (fun ls hl => ?_)
    refine lv_aload_n hx hb dX3_takeSum_50 rfl (lv_at hl 3 rfl) ?_
    refine lv_dup hx hb dX3_takeSum_51 rfl ?_
    refine cs_get F St 0 rfl rfl inX3 2 (by decide) kf_X3_16 rfl dX3_takeSum_52 ?_
    refine lv_lload hx hb dX3_takeSum_55 (lv_at hl 0 rfl) ?_
    refine lv_ladd hx hb dX3_takeSum_57 ?_
    refine lv_topl (fun y_18 ey_18 => ?_)
    first | have jy_18 : y_18.toInt = p2.toInt + y_17.toInt := (by have q9 := cl_add (x := p2) (y := y_17) (u := p2.toInt) (v := y_17.toInt) rfl rfl ey_18; omega) | have jy_18 := cl_add (x := p2) (y := y_17) (u := p2.toInt) (v := y_17.toInt) rfl rfl ey_18
    refine cs_put F St 0 rfl rfl inX3 tyX3_ok nmX3 2 (by decide) kf_X3_16 rfl rfl rfl (Nat.le_of_ble_eq_true rfl) (w' := [(qJJJJJJ h 3 p0 p1 y_18 p3 p4 p5), (qA t 8 tb0), (qarI tb0 te 9 ft)]) rfl dX3_takeSum_58 (fun H locs St => ?_)
    refine lv_aload_n hx hb dX3_takeSum_61 rfl (lv_at hl 3 rfl) ?_
    refine lv_dup hx hb dX3_takeSum_62 rfl ?_
    refine cs_get F St 0 rfl rfl inX3 0 (by decide) kf_X3_7 rfl dX3_takeSum_63 ?_
    refine lv_iload_n hx hb dX3_takeSum_66 rfl (lv_at hl 4 rfl) ?_
    refine lv_i2l (v := x.toInt64) hx hb dX3_takeSum_67 rfl ?_
    refine lv_lload hx hb dX3_takeSum_68 (lv_at hl 0 rfl) ?_
    refine lv_ladd hx hb dX3_takeSum_70 ?_
    refine lv_topl (fun y_19 ey_19 => ?_)
    first | have jy_19 : y_19.toInt = x.toInt + y_17.toInt := (by have q7 := ci_rng x; have q9 := cl_add (x := x.toInt64) (y := y_17) (u := x.toInt) (v := y_17.toInt) (Int32.toInt_toInt64 x) rfl ey_19; omega) | have jy_19 := cl_add (x := x.toInt64) (y := y_17) (u := x.toInt) (v := y_17.toInt) (Int32.toInt_toInt64 x) rfl ey_19
    refine lv_ladd hx hb dX3_takeSum_71 ?_
    refine lv_topl (fun y_20 ey_20 => ?_)
    first | have jy_20 : y_20.toInt = p0.toInt + y_19.toInt := (by have q9 := cl_add (x := p0) (y := y_19) (u := p0.toInt) (v := y_19.toInt) rfl rfl ey_20; omega) | have jy_20 := cl_add (x := p0) (y := y_19) (u := p0.toInt) (v := y_19.toInt) rfl rfl ey_20
    refine cs_put F St 0 rfl rfl inX3 tyX3_ok nmX3 0 (by decide) kf_X3_7 rfl rfl rfl (Nat.le_of_ble_eq_true rfl) (w' := [(qJJJJJJ h 3 y_20 p1 y_18 p3 p4 p5), (qA t 8 tb0), (qarI tb0 te 9 ft)]) rfl dX3_takeSum_72 (fun H locs St => ?_)
    refine lv_lload hx hb dX3_takeSum_75 (lv_at hl 0 rfl) ?_
    have j77 := l2i_i (x := y_17) (by omega)
    refine lv_l2i (v := y_17.toInt32) hx hb dX3_takeSum_77 rfl ?_
    exact cs_iret F hr hlk hQ St (y_20, p1, y_18, p3, p4, p5) (r := y_17.toInt32) ⟨mt_of (w := x.toInt * (ft (0 : Int32).toNatClampNeg).toInt / 100) (by omega) (by rw [Int.mul_comm]) (by omega), by omega, by omega, rfl, rfl, rfl, rfl⟩ [0, 1, 2] rfl (by decide) [] rfl (by decide) (by decide) dX3_takeSum_78
set_option maxHeartbeats 4000000 in
set_option maxRecDepth 100000 in
theorem e3_takeTax (l : Launch) (G : va_G) (k : Nat → Nat) (sz : Nat) (h : Nat) (p0 : Int64) (p1 : Int64) (p2 : Int64) (p3 : Int64) (p4 : Int64) (p5 : Int64) (x : Int32) (hp0 : 0 ≤ p0.toInt ∧ p0.toInt ≤ 3000000000) (hp3 : 0 ≤ p3.toInt ∧ p3.toInt ≤ 3000000000) : Met l yX3_takeTax (Cond.code yX3_takeTax cX3_takeTax 2 none :: tb) ({ frames := 0, cells := 0, slots := 0, locals := 0 } : Room) (va_Pc [.ref h, .int x] (cP G k [(qJJJJJJ h 3 p0 p1 p2 p3 p4 p5)] [] sz)) (va_Qv (fun (u : Int64 × Int64 × Int64 × Int64 × Int64 × Int64) => match u with | (q0, q1, q2, q3, q4, q5) => (q3.toInt = p3.toInt + x.toInt) ∧ (q0.toInt = p0.toInt + x.toInt) ∧ (q1 = p1) ∧ (q2 = p2) ∧ (q4 = p4) ∧ (q5 = p5)) (cB G (fun u => match u with | (q0, q1, q2, q3, q4, q5) => [(qJJJJJJ h 3 q0 q1 q2 q3 q4 q5)]) (fun u => match u with | (q0, q1, q2, q3, q4, q5) => []) (va_A [(qJJJJJJ h 3 p0 p1 p2 p3 p4 p5)] sz)) (va_A [(qJJJJJJ h 3 p0 p1 p2 p3 p4 p5)] sz)) 0 0 (va_A [(qJJJJJJ h 3 p0 p1 p2 p3 p4 p5)] sz) := by
  refine ofC_v (cc := cX3_takeTax) (maxL := 2) (ret := none) (by decide) rfl (Nat.le_of_ble_eq_true rfl) ?_
  intro p e s m args below meth c A ls Q F hr hin hlk St hl hQ
  have hx := F.1
  have hb := F.2.1
  have hl : lv_has ls 2 [(0, .ref h), (1, .int x)] := hl
  have St : cS G k [(qJJJJJJ h 3 p0 p1 p2 p3 p4 p5)] [] A s s.heap [] := St
  have hx9 := ci_rng x
  refine lv_aload_n hx hb dX3_takeTax_0 rfl (lv_at hl 0 rfl) ?_
  refine lv_dup hx hb dX3_takeTax_1 rfl ?_
  refine cs_get F St 0 rfl rfl inX3 3 (by decide) kf_X3_19 rfl dX3_takeTax_2 ?_
  refine lv_iload_n hx hb dX3_takeTax_5 rfl (lv_at hl 1 rfl) ?_
  refine lv_i2l (v := x.toInt64) hx hb dX3_takeTax_6 rfl ?_
  refine lv_ladd hx hb dX3_takeTax_7 ?_
  refine lv_topl (fun y_1 ey_1 => ?_)
  first | have jy_1 : y_1.toInt = p3.toInt + x.toInt := (by have q8 := ci_rng x; have q9 := cl_add (x := p3) (y := x.toInt64) (u := p3.toInt) (v := x.toInt) rfl (Int32.toInt_toInt64 x) ey_1; omega) | have jy_1 := cl_add (x := p3) (y := x.toInt64) (u := p3.toInt) (v := x.toInt) rfl (Int32.toInt_toInt64 x) ey_1
  refine cs_put F St 0 rfl rfl inX3 tyX3_ok nmX3 3 (by decide) kf_X3_19 rfl rfl rfl (Nat.le_of_ble_eq_true rfl) (w' := [(qJJJJJJ h 3 p0 p1 p2 y_1 p4 p5)]) rfl dX3_takeTax_8 (fun H locs St => ?_)
  refine lv_aload_n hx hb dX3_takeTax_11 rfl (lv_at hl 0 rfl) ?_
  refine lv_dup hx hb dX3_takeTax_12 rfl ?_
  refine cs_get F St 0 rfl rfl inX3 0 (by decide) kf_X3_7 rfl dX3_takeTax_13 ?_
  refine lv_iload_n hx hb dX3_takeTax_16 rfl (lv_at hl 1 rfl) ?_
  refine lv_i2l (v := x.toInt64) hx hb dX3_takeTax_17 rfl ?_
  refine lv_ladd hx hb dX3_takeTax_18 ?_
  refine lv_topl (fun y_2 ey_2 => ?_)
  first | have jy_2 : y_2.toInt = p0.toInt + x.toInt := (by have q8 := ci_rng x; have q9 := cl_add (x := p0) (y := x.toInt64) (u := p0.toInt) (v := x.toInt) rfl (Int32.toInt_toInt64 x) ey_2; omega) | have jy_2 := cl_add (x := p0) (y := x.toInt64) (u := p0.toInt) (v := x.toInt) rfl (Int32.toInt_toInt64 x) ey_2
  refine cs_put F St 0 rfl rfl inX3 tyX3_ok nmX3 0 (by decide) kf_X3_7 rfl rfl rfl (Nat.le_of_ble_eq_true rfl) (w' := [(qJJJJJJ h 3 y_2 p1 p2 y_1 p4 p5)]) rfl dX3_takeTax_19 (fun H locs St => ?_)
  exact cs_vret F hr hlk hQ St (y_2, p1, p2, y_1, p4, p5) ⟨by omega, by omega, rfl, rfl, rfl, rfl⟩ [0] rfl (by decide) [] rfl (by decide) (by decide) dX3_takeTax_22
set_option maxHeartbeats 4000000 in
set_option maxRecDepth 100000 in
theorem e3_giveBack (l : Launch) (G : va_G) (k : Nat → Nat) (sz : Nat) (h : Nat) (p0 : Int64) (p1 : Int64) (p2 : Int64) (p3 : Int64) (p4 : Int64) (p5 : Int64) (x : Int32) (hp0 : 0 ≤ p0.toInt ∧ p0.toInt ≤ 3000000000) (hp3 : 0 ≤ p3.toInt ∧ p3.toInt ≤ 3000000000) : Met l yX3_giveBack (Cond.code yX3_giveBack cX3_giveBack 2 none :: tb) ({ frames := 0, cells := 0, slots := 0, locals := 0 } : Room) (va_Pc [.ref h, .int x] (cP G k [(qJJJJJJ h 3 p0 p1 p2 p3 p4 p5)] [] sz)) (va_Qv (fun (u : Int64 × Int64 × Int64 × Int64 × Int64 × Int64) => match u with | (q0, q1, q2, q3, q4, q5) => (q0.toInt = p0.toInt - x.toInt) ∧ (q1 = p1) ∧ (q2 = p2) ∧ (q3 = p3) ∧ (q4 = p4) ∧ (q5 = p5)) (cB G (fun u => match u with | (q0, q1, q2, q3, q4, q5) => [(qJJJJJJ h 3 q0 q1 q2 q3 q4 q5)]) (fun u => match u with | (q0, q1, q2, q3, q4, q5) => []) (va_A [(qJJJJJJ h 3 p0 p1 p2 p3 p4 p5)] sz)) (va_A [(qJJJJJJ h 3 p0 p1 p2 p3 p4 p5)] sz)) 0 0 (va_A [(qJJJJJJ h 3 p0 p1 p2 p3 p4 p5)] sz) := by
  refine ofC_v (cc := cX3_giveBack) (maxL := 2) (ret := none) (by decide) rfl (Nat.le_of_ble_eq_true rfl) ?_
  intro p e s m args below meth c A ls Q F hr hin hlk St hl hQ
  have hx := F.1
  have hb := F.2.1
  have hl : lv_has ls 2 [(0, .ref h), (1, .int x)] := hl
  have St : cS G k [(qJJJJJJ h 3 p0 p1 p2 p3 p4 p5)] [] A s s.heap [] := St
  have hx9 := ci_rng x
  refine lv_aload_n hx hb dX3_giveBack_0 rfl (lv_at hl 0 rfl) ?_
  refine lv_dup hx hb dX3_giveBack_1 rfl ?_
  refine cs_get F St 0 rfl rfl inX3 0 (by decide) kf_X3_7 rfl dX3_giveBack_2 ?_
  refine lv_iload_n hx hb dX3_giveBack_5 rfl (lv_at hl 1 rfl) ?_
  refine lv_i2l (v := x.toInt64) hx hb dX3_giveBack_6 rfl ?_
  refine lv_lsub hx hb dX3_giveBack_7 ?_
  refine lv_topl (fun y_1 ey_1 => ?_)
  first | have jy_1 : y_1.toInt = p0.toInt - x.toInt := (by have q8 := ci_rng x; have q9 := cl_sub (x := p0) (y := x.toInt64) (u := p0.toInt) (v := x.toInt) rfl (Int32.toInt_toInt64 x) ey_1; omega) | have jy_1 := cl_sub (x := p0) (y := x.toInt64) (u := p0.toInt) (v := x.toInt) rfl (Int32.toInt_toInt64 x) ey_1
  refine cs_put F St 0 rfl rfl inX3 tyX3_ok nmX3 0 (by decide) kf_X3_7 rfl rfl rfl (Nat.le_of_ble_eq_true rfl) (w' := [(qJJJJJJ h 3 y_1 p1 p2 p3 p4 p5)]) rfl dX3_giveBack_8 (fun H locs St => ?_)
  exact cs_vret F hr hlk hQ St (y_1, p1, p2, p3, p4, p5) ⟨by omega, rfl, rfl, rfl, rfl, rfl⟩ [0] rfl (by decide) [] rfl (by decide) (by decide) dX3_giveBack_11
set_option maxHeartbeats 4000000 in
set_option maxRecDepth 100000 in
theorem e3_payBackLoan (l : Launch) (G : va_G) (k : Nat → Nat) (sz : Nat) (h : Nat) (p0 : Int64) (p1 : Int64) (p2 : Int64) (p3 : Int64) (p4 : Int64) (p5 : Int64) (hp0 : 0 ≤ p0.toInt ∧ p0.toInt ≤ 3000000000) (hp1 : 0 ≤ p1.toInt ∧ p1.toInt ≤ 3000000000) : Met l yX3_payBackLoan (Cond.code yX3_payBackLoan cX3_payBackLoan 3 none :: tb) ({ frames := 1, cells := 0, slots := 0, locals := 23 } : Room) (va_Pc [.ref h] (cP G k [(qJJJJJJ h 3 p0 p1 p2 p3 p4 p5)] [] sz)) (va_Qv (fun (u : Int64 × Int64 × Int64 × Int64 × Int64 × Int64) => match u with | (q0, q1, q2, q3, q4, q5) => ((p0.toInt ≤ p1.toInt ∧ q0.toInt = 0 ∧ q1.toInt = p1.toInt - p0.toInt) ∨ (p1.toInt < p0.toInt ∧ q0.toInt = p0.toInt - p1.toInt ∧ q1.toInt = 0)) ∧ (q2 = p2) ∧ (q3 = p3) ∧ (q4 = p4) ∧ (q5 = p5)) (cB G (fun u => match u with | (q0, q1, q2, q3, q4, q5) => [(qJJJJJJ h 3 q0 q1 q2 q3 q4 q5)]) (fun u => match u with | (q0, q1, q2, q3, q4, q5) => []) (va_A [(qJJJJJJ h 3 p0 p1 p2 p3 p4 p5)] sz)) (va_A [(qJJJJJJ h 3 p0 p1 p2 p3 p4 p5)] sz)) 0 0 (va_A [(qJJJJJJ h 3 p0 p1 p2 p3 p4 p5)] sz) := by
  refine ofC_v (cc := cX3_payBackLoan) (maxL := 3) (ret := none) (by decide) rfl (Nat.le_of_ble_eq_true rfl) ?_
  intro p e s m args below meth c A ls Q F hr hin hlk St hl hQ
  have hx := F.1
  have hb := F.2.1
  have hl : lv_has ls 3 [(0, .ref h)] := hl
  have St : cS G k [(qJJJJJJ h 3 p0 p1 p2 p3 p4 p5)] [] A s s.heap [] := St
  refine lv_aload_n hx hb dX3_payBackLoan_0 rfl (lv_at hl 0 rfl) ?_
  refine cs_get F St 0 rfl rfl inX3 0 (by decide) kf_X3_7 rfl dX3_payBackLoan_1 ?_
  refine lv_aload_n hx hb dX3_payBackLoan_4 rfl (lv_at hl 0 rfl) ?_
  refine cs_get F St 0 rfl rfl inX3 1 (by decide) kf_X3_13 rfl dX3_payBackLoan_5 ?_
  refine va_mmin_long hx hb (F.2.2.1.trans hl.1.symm) F.2.2.2.1 (F.2.2.2.2 _ km_X3_48) (F.2.2.2.2 _ ks_J9_min_f86c9) (F.2.2.2.2 _ ki_J9) (F.2.2.2.2 _ kd_J9_min_f86c9) (Nat.le_of_ble_eq_true rfl) (Nat.le_of_ble_eq_true rfl) (Nat.le_of_ble_eq_true rfl) (Nat.le_of_ble_eq_true rfl) dX3_payBackLoan_8 ?_
  refine lv_topl (fun y_1 ey_1 => ?_)
  have jy_1 := cl_min (x := p0) (y := p1) (u := p0.toInt) (v := p1.toInt) rfl rfl ey_1
  refine lv_lstore_n (lv' := [(1, .long y_1), (0, .ref h)]) hx hb dX3_payBackLoan_11 rfl hl (by decide) rfl (fun ls hl => ?_)
  refine lv_aload_n hx hb dX3_payBackLoan_12 rfl (lv_at hl 1 rfl) ?_
  refine lv_dup hx hb dX3_payBackLoan_13 rfl ?_
  refine cs_get F St 0 rfl rfl inX3 0 (by decide) kf_X3_7 rfl dX3_payBackLoan_14 ?_
  refine lv_lload_n hx hb dX3_payBackLoan_17 rfl (lv_at hl 0 rfl) ?_
  refine lv_lsub hx hb dX3_payBackLoan_18 ?_
  refine lv_topl (fun y_2 ey_2 => ?_)
  first | have jy_2 : y_2.toInt = p0.toInt - y_1.toInt := (by have q9 := cl_sub (x := p0) (y := y_1) (u := p0.toInt) (v := y_1.toInt) rfl rfl ey_2; omega) | have jy_2 := cl_sub (x := p0) (y := y_1) (u := p0.toInt) (v := y_1.toInt) rfl rfl ey_2
  refine cs_put F St 0 rfl rfl inX3 tyX3_ok nmX3 0 (by decide) kf_X3_7 rfl rfl rfl (Nat.le_of_ble_eq_true rfl) (w' := [(qJJJJJJ h 3 y_2 p1 p2 p3 p4 p5)]) rfl dX3_payBackLoan_19 (fun H locs St => ?_)
  refine lv_aload_n hx hb dX3_payBackLoan_22 rfl (lv_at hl 1 rfl) ?_
  refine lv_dup hx hb dX3_payBackLoan_23 rfl ?_
  refine cs_get F St 0 rfl rfl inX3 1 (by decide) kf_X3_13 rfl dX3_payBackLoan_24 ?_
  refine lv_lload_n hx hb dX3_payBackLoan_27 rfl (lv_at hl 0 rfl) ?_
  refine lv_lsub hx hb dX3_payBackLoan_28 ?_
  refine lv_topl (fun y_3 ey_3 => ?_)
  first | have jy_3 : y_3.toInt = p1.toInt - y_1.toInt := (by have q9 := cl_sub (x := p1) (y := y_1) (u := p1.toInt) (v := y_1.toInt) rfl rfl ey_3; omega) | have jy_3 := cl_sub (x := p1) (y := y_1) (u := p1.toInt) (v := y_1.toInt) rfl rfl ey_3
  refine cs_put F St 0 rfl rfl inX3 tyX3_ok nmX3 1 (by decide) kf_X3_13 rfl rfl rfl (Nat.le_of_ble_eq_true rfl) (w' := [(qJJJJJJ h 3 y_2 y_3 p2 p3 p4 p5)]) rfl dX3_payBackLoan_29 (fun H locs St => ?_)
  exact cs_vret F hr hlk hQ St (y_2, y_3, p2, p3, p4, p5) ⟨by omega, rfl, rfl, rfl, rfl⟩ [0] rfl (by decide) [] rfl (by decide) (by decide) dX3_payBackLoan_32
set_option maxHeartbeats 4000000 in
set_option maxRecDepth 100000 in
theorem e3_growLoan (l : Launch) (G : va_G) (k : Nat → Nat) (sz : Nat) (h : Nat) (p0 : Int64) (p1 : Int64) (p2 : Int64) (p3 : Int64) (p4 : Int64) (p5 : Int64) (x : Int32) (hx1 : 0 ≤ x.toInt ∧ x.toInt ≤ 10) (hp1 : 0 ≤ p1.toInt ∧ p1.toInt ≤ 400000000) : Met l yX3_growLoan (Cond.code yX3_growLoan cX3_growLoan 4 none :: tb) ({ frames := 0, cells := 0, slots := 0, locals := 0 } : Room) (va_Pc [.ref h, .int x] (cP G k [(qJJJJJJ h 3 p0 p1 p2 p3 p4 p5)] [] sz)) (va_Qv (fun (u : Int64 × Int64 × Int64 × Int64 × Int64 × Int64) => match u with | (q0, q1, q2, q3, q4, q5) => (q1.toInt = p1.toInt + p1.toInt * x.toInt / 1000) ∧ (∃ z : Int64, z.toInt = p1.toInt * x.toInt / 1000 ∧ q5 = p5 + z) ∧ (q0 = p0) ∧ (q2 = p2) ∧ (q3 = p3) ∧ (q4 = p4)) (cB G (fun u => match u with | (q0, q1, q2, q3, q4, q5) => [(qJJJJJJ h 3 q0 q1 q2 q3 q4 q5)]) (fun u => match u with | (q0, q1, q2, q3, q4, q5) => []) (va_A [(qJJJJJJ h 3 p0 p1 p2 p3 p4 p5)] sz)) (va_A [(qJJJJJJ h 3 p0 p1 p2 p3 p4 p5)] sz)) 0 0 (va_A [(qJJJJJJ h 3 p0 p1 p2 p3 p4 p5)] sz) := by
  refine ofC_v (cc := cX3_growLoan) (maxL := 4) (ret := none) (by decide) rfl (Nat.le_of_ble_eq_true rfl) ?_
  intro p e s m args below meth c A ls Q F hr hin hlk St hl hQ
  have hx := F.1
  have hb := F.2.1
  have hl : lv_has ls 4 [(0, .ref h), (1, .int x)] := hl
  have St : cS G k [(qJJJJJJ h 3 p0 p1 p2 p3 p4 p5)] [] A s s.heap [] := St
  refine lv_aload_n hx hb dX3_growLoan_0 rfl (lv_at hl 0 rfl) ?_
  refine cs_get F St 0 rfl rfl inX3 1 (by decide) kf_X3_13 rfl dX3_growLoan_1 ?_
  refine lv_iload_n hx hb dX3_growLoan_4 rfl (lv_at hl 1 rfl) ?_
  refine lv_i2l (v := x.toInt64) hx hb dX3_growLoan_5 rfl ?_
  refine lv_lmul hx hb dX3_growLoan_6 ?_
  refine lv_topl (fun y_1 ey_1 => ?_)
  obtain ⟨jm1, jm2, jm3⟩ := cl_mulb (u := p1.toInt) (v := x.toInt) (A := 400000000) (B := 10) rfl (Int32.toInt_toInt64 _) ey_1 (by omega) (by omega) (by omega) (by omega) (by decide)
  refine lv_ldc2 (v := 1000) hx hb F.2.2.2.1 (F.2.2.2.2 _ kk_X3_51) dX3_growLoan_7 ?_
  refine lv_ldiv hx hb dX3_growLoan_10 (by decide) ?_
  refine lv_topl (fun y_2 ey_2 => ?_)
  have jd := cl_div (u := p1.toInt * x.toInt) (v := 1000) jm1 (by decide) ey_2 jm2 (by decide)
  refine lv_lstore_n (lv' := [(2, .long y_2), (0, .ref h), (1, .int x)]) hx hb dX3_growLoan_11 rfl hl (by decide) rfl (fun ls hl => ?_)
  refine lv_aload_n hx hb dX3_growLoan_12 rfl (lv_at hl 1 rfl) ?_
  refine lv_dup hx hb dX3_growLoan_13 rfl ?_
  refine cs_get F St 0 rfl rfl inX3 1 (by decide) kf_X3_13 rfl dX3_growLoan_14 ?_
  refine lv_lload_n hx hb dX3_growLoan_17 rfl (lv_at hl 0 rfl) ?_
  refine lv_ladd hx hb dX3_growLoan_18 ?_
  refine lv_topl (fun y_3 ey_3 => ?_)
  first | have jy_3 : y_3.toInt = p1.toInt + y_2.toInt := (by have q9 := cl_add (x := p1) (y := y_2) (u := p1.toInt) (v := y_2.toInt) rfl rfl ey_3; omega) | have jy_3 := cl_add (x := p1) (y := y_2) (u := p1.toInt) (v := y_2.toInt) rfl rfl ey_3
  refine cs_put F St 0 rfl rfl inX3 tyX3_ok nmX3 1 (by decide) kf_X3_13 rfl rfl rfl (Nat.le_of_ble_eq_true rfl) (w' := [(qJJJJJJ h 3 p0 y_3 p2 p3 p4 p5)]) rfl dX3_growLoan_19 (fun H locs St => ?_)
  refine lv_aload_n hx hb dX3_growLoan_22 rfl (lv_at hl 1 rfl) ?_
  refine lv_dup hx hb dX3_growLoan_23 rfl ?_
  refine cs_get F St 0 rfl rfl inX3 5 (by decide) kf_X3_25 rfl dX3_growLoan_24 ?_
  refine lv_lload_n hx hb dX3_growLoan_27 rfl (lv_at hl 0 rfl) ?_
  refine lv_ladd hx hb dX3_growLoan_28 ?_
  refine lv_topl (fun y_4 ey_4 => ?_)
  first | have jy_4 : y_4.toInt = p5.toInt + y_2.toInt := (by have q9 := cl_add (x := p5) (y := y_2) (u := p5.toInt) (v := y_2.toInt) rfl rfl ey_4; omega) | have jy_4 := cl_add (x := p5) (y := y_2) (u := p5.toInt) (v := y_2.toInt) rfl rfl ey_4
  refine cs_put F St 0 rfl rfl inX3 tyX3_ok nmX3 5 (by decide) kf_X3_25 rfl rfl rfl (Nat.le_of_ble_eq_true rfl) (w' := [(qJJJJJJ h 3 p0 y_3 p2 p3 p4 y_4)]) rfl dX3_growLoan_29 (fun H locs St => ?_)
  exact cs_vret F hr hlk hQ St (p0, y_3, p2, p3, p4, y_4) ⟨by omega, ⟨_, jd, ey_4⟩, rfl, rfl, rfl, rfl⟩ [0] rfl (by decide) [] rfl (by decide) (by decide) dX3_growLoan_32

