set_option maxHeartbeats 4000000 in
set_option maxRecDepth 100000 in
theorem e0_partCoin (l : Launch) (G : va_G) (k : Nat → Nat) (sz : Nat) (h : Nat) (b0 : Nat) (b1 : Nat) (b2 : Nat) (b3 : Nat) (b4 : Nat) (b5 : Nat) (e3 : ClassId) (f3 : Nat → Int32) (zs : Nat) (s0 : Nat) (s1 : Nat) (s2 : Nat) (s3 : Nat) (sn : Int32) (st : Int64) (sc0 : ClassId) (sc1 : ClassId) (l0 : Nat → Int32) (l1 : Nat → Int32) (cj : Int64) (x : Int32) (fr : Nat → Int32) (hSp : mSp sn l1) (hst : st.toInt = sm (tA l1) sn.toNatClampNeg) (hco : 0 ≤ cj.toInt ∧ cj.toInt ≤ 2000000000) (hxf : (x.toInt = 1 ∧ (fr (8 : Int32).toNatClampNeg).toInt = 1) ∨ (x.toInt = 0 ∧ ¬ (fr (8 : Int32).toNatClampNeg).toInt = 1)) (hf3 : ∀ g_, g_ < 30 → f3 g_ = 0) : Met l yX0_partCoin (Cond.code yX0_partCoin cX0_partCoin 11 (some .int) :: tb) ({ frames := 1, cells := 0, slots := 0, locals := 23 } : Room) (va_Pc [.ref h, .long cj, .ref zs, .int x] (cP G k [(qAAAAAA h 0 b0 b1 b2 b3 b4 b5), (qarI b3 e3 30 f3), (qAAAAIJ zs 5 s0 s1 s2 s3 sn st), (qarI s0 sc0 250 l0), (qarI s1 sc1 250 l1)] [(e3, .int), (sc0, .int), (sc1, .int)] sz)) (va_Qi (fun (r : Int32) (z3 : (Nat → Int32)) => (r = smI (bkF cj.toInt fr l0 l1 sn.toNatClampNeg) 30) ∧ (z3 = bkR cj.toInt fr l0 l1 f3 sn.toNatClampNeg)) (cB G (fun (z3 : (Nat → Int32)) => [(qAAAAAA h 0 b0 b1 b2 b3 b4 b5), (qarI b3 e3 30 z3), (qAAAAIJ zs 5 s0 s1 s2 s3 sn st), (qarI s0 sc0 250 l0), (qarI s1 sc1 250 l1)]) (fun (z3 : (Nat → Int32)) => []) (va_A [(qAAAAAA h 0 b0 b1 b2 b3 b4 b5), (qarI b3 e3 30 f3), (qAAAAIJ zs 5 s0 s1 s2 s3 sn st), (qarI s0 sc0 250 l0), (qarI s1 sc1 250 l1)] sz)) (va_A [(qAAAAAA h 0 b0 b1 b2 b3 b4 b5), (qarI b3 e3 30 f3), (qAAAAIJ zs 5 s0 s1 s2 s3 sn st), (qarI s0 sc0 250 l0), (qarI s1 sc1 250 l1)] sz)) 0 0 (va_A [(qAAAAAA h 0 b0 b1 b2 b3 b4 b5), (qarI b3 e3 30 f3), (qAAAAIJ zs 5 s0 s1 s2 s3 sn st), (qarI s0 sc0 250 l0), (qarI s1 sc1 250 l1)] sz) := by
  refine ofC_i (cc := cX0_partCoin) (maxL := 11) (ret := (some .int)) (by decide) rfl (Nat.le_of_ble_eq_true rfl) ?_
  intro p e s m args below meth c A ls Q F hr hin hlk St hl hQ
  have hx := F.1
  have hb := F.2.1
  have hl : lv_has ls 11 [(0, .ref h), (1, .long cj), (3, .ref zs), (4, .int x)] := hl
  have St : cS G k [(qAAAAAA h 0 b0 b1 b2 b3 b4 b5), (qarI b3 e3 30 f3), (qAAAAIJ zs 5 s0 s1 s2 s3 sn st), (qarI s0 sc0 250 l0), (qarI s1 sc1 250 l1)] [(e3, .int), (sc0, .int), (sc1, .int)] A s s.heap [] := St
  have y0 : (0 : Int32).toInt = 0 := by decide
  have hsn := hSp.1
  have hn5 := nc_int (x := sn) (by omega)
  have hab := sA_bd hSp (k := sn.toNatClampNeg) (by omega)
  refine lv_aload_n hx hb dX0_partCoin_0 rfl (lv_at hl 2 rfl) ?_
  refine cs_l St [2] [0, 1, 3, 4] (wc := [(qAAAAIJ zs 5 s0 s1 s2 s3 sn st)]) (wr := [(qAAAAAA h 0 b0 b1 b2 b3 b4 b5), (qarI b3 e3 30 f3), (qarI s0 sc0 250 l0), (qarI s1 sc1 250 l1)]) rfl rfl (by decide) (by decide) (va_runV (As := []) (rest := []) F (x5_total l G k _ zs s0 s1 s2 s3 sn st) (cwVt F mf_X5_total km_X0_48 rfl rfl ⟨Nat.le_of_ble_eq_true rfl, Nat.le_of_ble_eq_true rfl⟩) (cs_preV St [2] rfl (by decide) [] rfl (ci := 5) (q0 := 2) rfl rfl) rfl rfl hl.1 rfl (lv_room (Nat.le_of_ble_eq_true rfl)) dX0_partCoin_1 ⟨Nat.le_of_ble_eq_true rfl, Nat.le_of_ble_eq_true rfl⟩) (fun r_1 u_2 H locs hw St => ?_)
  try dsimp only at hw
  have z_3 := hw
  subst r_1
  have St : cS G k [(qAAAAAA h 0 b0 b1 b2 b3 b4 b5), (qarI b3 e3 30 f3), (qarI s0 sc0 250 l0), (qarI s1 sc1 250 l1), (qAAAAIJ zs 5 s0 s1 s2 s3 sn st)] [(e3, .int), (sc0, .int), (sc1, .int)] A s H locs := St
  refine lv_lstore (lv' := [(5, .long st), (0, .ref h), (1, .long cj), (3, .ref zs), (4, .int x)]) hx hb dX0_partCoin_4 hl (by decide) rfl (fun ls hl => ?_)
  refine lv_iload hx hb dX0_partCoin_6 (lv_at hl 4 rfl) ?_
  refine lv_if_eq (tgt := 22) hx hb dX0_partCoin_8 (by decide) (fun c8 => ?_) (fun c8 => ?_)
  ·
    have i8 := ci_eq (x := x) (y := 0) rfl (show (0 : Int32).toInt = 0 by decide) c8
    refine lv_iconst (v := 0) hx hb dX0_partCoin_22 (by decide) ?_
    refine lv_istore (lv' := [(7, .int 0), (5, .long st), (0, .ref h), (1, .long cj), (3, .ref zs), (4, .int x)]) hx hb dX0_partCoin_23 hl (by decide) rfl (fun ls hl => ?_)
    refine lv_iconst (v := 0) hx hb dX0_partCoin_25 (by decide) ?_
    refine lv_istore (lv' := [(8, .int 0), (7, .int 0), (5, .long st), (0, .ref h), (1, .long cj), (3, .ref zs), (4, .int x)]) hx hb dX0_partCoin_26 hl (by decide) rfl (fun ls hl => ?_)
    refine lv_iconst (v := 0) hx hb dX0_partCoin_28 (by decide) ?_
    refine lv_istore (lv' := [(9, .int 0), (8, .int 0), (7, .int 0), (5, .long st), (0, .ref h), (1, .long cj), (3, .ref zs), (4, .int x)]) hx hb dX0_partCoin_29 hl (by decide) rfl (fun ls hl => ?_)
    have lp31 : ∀ (n : Nat) (i : Int32) (gg : Int32) (fa9 : Nat → Int32) (H : Heap) (locs : List Loc) (ls : Array Slot), ((0 ≤ i.toInt ∧ i.toInt ≤ 30) ∧ fa9 = fU (fun _ => true) (bkF cj.toInt fr l0 l1 sn.toNatClampNeg) f3 0 i.toNatClampNeg ∧ gg = smI (bkF cj.toInt fr l0 l1 sn.toNatClampNeg) i.toNatClampNeg) → ((30 - i.toInt).toNat) < n → cS G k [(qAAAAAA h 0 b0 b1 b2 b3 b4 b5), (qarI b3 e3 30 fa9), (qarI s0 sc0 250 l0), (qarI s1 sc1 250 l1), (qAAAAIJ zs 5 s0 s1 s2 s3 sn st)] [(e3, .int), (sc0, .int), (sc1, .int)] A s H locs → lv_has ls 11 [(9, .int i), (8, .int gg), (7, .int 0), (5, .long st), (0, .ref h), (1, .long cj), (3, .ref zs), (4, .int x)] → W p l e ({ frames := 1, cells := 0, slots := 0, locals := 23 } : Room) s m args below meth c H locs 0 0 Q (F0 m 31 ls []) := by
      intro n
      induction n with
      | zero => intro i gg fa9 H locs ls hI hn; exact absurd hn (Nat.not_lt_zero _)
      | succ n ih =>
        intro i gg fa9 H locs ls hI hn St hl
        obtain ⟨⟨hI0, hI1⟩, hs1, hs2⟩ := hI
        have nk := nc_int hI0
        refine lv_iload hx hb dX0_partCoin_31 (lv_at hl 0 rfl) ?_
        refine lv_bipush (v := 30) hx hb dX0_partCoin_33 (by decide) ?_
        refine lv_icmp_ge (tgt := 104) hx hb dX0_partCoin_35 (by decide) (fun c35 => ?_) (fun c35 => ?_)
        ·
          have i35 := ci_le (x := 30) (y := i) (show (30 : Int32).toInt = 30 by decide) rfl c35
          refine lv_iload hx hb dX0_partCoin_104 (lv_at hl 1 rfl) ?_
          have hk30 : i.toNatClampNeg = 30 := by omega
          rw [hk30] at hs1 hs2
          exact cs_iret F hr hlk hQ St fa9 (r := gg) ⟨hs2, hs1⟩ [0, 1, 4, 2, 3] rfl (by decide) [] rfl (by decide) (by decide) dX0_partCoin_106
        ·
          have i35 := ci_nle (x := 30) (y := i) (show (30 : Int32).toInt = 30 by decide) rfl c35
          refine lv_aload_n hx hb dX0_partCoin_38 rfl (lv_at hl 6 rfl) ?_
          refine lv_iload hx hb dX0_partCoin_39 (lv_at hl 0 rfl) ?_
          refine cs_i St [4, 2, 3] [0, 1] (wc := [(qAAAAIJ zs 5 s0 s1 s2 s3 sn st), (qarI s0 sc0 250 l0), (qarI s1 sc1 250 l1)]) (wr := [(qAAAAAA h 0 b0 b1 b2 b3 b4 b5), (qarI b3 e3 30 fa9)]) rfl rfl (by decide) (by decide) (va_runV (As := [.int i]) (rest := []) F (e5_givenBy l G k _ zs s0 s1 s2 s3 sn st sc0 sc1 l0 l1 i hSp) (cwVt F mf_X5_givenBy km_X0_52 rfl rfl ⟨Nat.le_of_ble_eq_true rfl, Nat.le_of_ble_eq_true rfl⟩) (cs_preV St [4, 2, 3] rfl (by decide) [1, 2] rfl (ci := 5) (q0 := 4) rfl rfl) rfl rfl hl.1 rfl (lv_room (Nat.le_of_ble_eq_true rfl)) dX0_partCoin_41 ⟨Nat.le_of_ble_eq_true rfl, Nat.le_of_ble_eq_true rfl⟩) (fun r_4 u_5 H locs hw St => ?_)
          try dsimp only at hw
          have hr_6 := hw
          have St : cS G k [(qAAAAAA h 0 b0 b1 b2 b3 b4 b5), (qarI b3 e3 30 fa9), (qAAAAIJ zs 5 s0 s1 s2 s3 sn st), (qarI s0 sc0 250 l0), (qarI s1 sc1 250 l1)] [(e3, .int), (sc0, .int), (sc1, .int)] A s H locs := St
          have hgk := hr_6
          rw [← nk] at hgk
          have hgb := sG_bd (u0 := l0) (g := (i.toNatClampNeg : Int)) (k := sn.toNatClampNeg) hSp (by omega)
          refine lv_istore (lv' := [(10, .int r_4), (9, .int i), (8, .int gg), (7, .int 0), (5, .long st), (0, .ref h), (1, .long cj), (3, .ref zs), (4, .int x)]) hx hb dX0_partCoin_44 hl (by decide) rfl (fun ls hl => ?_)
          refine lv_iload hx hb dX0_partCoin_46 (lv_at hl 3 rfl) ?_
          refine lv_if_eq (tgt := 63) hx hb dX0_partCoin_48 (by decide) (fun c48 => ?_) (fun c48 => ?_)
          rotate_left
          · exact absurd (by decide) c48
          refine lv_lload hx hb dX0_partCoin_63 (lv_at hl 4 rfl) ?_
          refine lv_lconst (v := 0) hx hb dX0_partCoin_65 (by decide) ?_
          refine W.lcmp hx hb dX0_partCoin_66 ?_
          refine lv_if_le (tgt := 86) hx hb dX0_partCoin_67 (by decide) (fun c67 => ?_) (fun c67 => ?_)
          ·
            have i67 := cl_le (x := st) (y := 0) (u := st.toInt) (v := 0) rfl (by decide) ((lg_cmp_le _ _).mp c67)
            have hb0 : bkF cj.toInt fr l0 l1 sn.toNatClampNeg i.toNatClampNeg = f3 i.toNatClampNeg := by rw [hf3 _ (by omega)]; unfold bkF bkG bkV; rw [if_pos (by omega)]; rfl
            refine lv_iload hx hb dX0_partCoin_86 (lv_at hl 2 rfl) ?_
            refine lv_aload_n hx hb dX0_partCoin_88 rfl (lv_at hl 5 rfl) ?_
            refine cs_get F St 0 rfl rfl inX0 3 (by decide) kf_X0_22 rfl dX0_partCoin_89 ?_
            refine lv_iload hx hb dX0_partCoin_92 (lv_at hl 1 rfl) ?_
            refine cs_ild F St 1 0 rfl rfl (vp_in_iff.mpr ⟨by omega, by omega⟩) dX0_partCoin_94 ?_
            refine lv_topi (fun y_7 ey_7 => ?_)
            have gy_7 := congrArg Int32.toInt ey_7
            refine lv_iadd hx hb dX0_partCoin_95 ?_
            refine lv_topi (fun y_8 ey_8 => ?_)
            first | have jy_8 : y_8.toInt = gg.toInt + y_7.toInt := (by have q9 := ci_add (x := gg) (y := y_7) rfl rfl ey_8; omega) | have jy_8 := ci_add (x := gg) (y := y_7) rfl rfl ey_8
            refine lv_istore (lv' := [(8, .int y_8), (10, .int r_4), (9, .int i), (7, .int 0), (5, .long st), (0, .ref h), (1, .long cj), (3, .ref zs), (4, .int x)]) hx hb dX0_partCoin_96 hl (by decide) rfl (fun ls hl => ?_)
            obtain ⟨y_9, ey_9⟩ : ∃ zz : Int32, zz = i + 1 := ⟨_, rfl⟩
            first | have jy_9 : y_9.toInt = i.toInt + 1 := (by have q9 := ci_add (x := i) rfl (show (1 : Int32).toInt = 1 by decide) ey_9; omega) | have jy_9 := ci_add (x := i) rfl (show (1 : Int32).toInt = 1 by decide) ey_9
            refine lv_iinc (v := y_9) (lv' := [(9, .int y_9), (8, .int y_8), (10, .int r_4), (7, .int 0), (5, .long st), (0, .ref h), (1, .long cj), (3, .ref zs), (4, .int x)]) hx hb dX0_partCoin_98 hl (k := 2) rfl (by rw [ey_9]; rfl) (by decide) rfl (fun ls hl => ?_)
            refine lv_goto (tgt := 31) hx hb dX0_partCoin_101 (by decide) ?_
            exact ih y_9 y_8 fa9 _ _ _ ⟨⟨by omega, by omega⟩, fU_N hI0 hs1 (by omega) (fun _ => hb0), smI_up hI0 hs2 (by omega) (by rw [ey_8, ey_7, hs1, fU_in (Nat.zero_le _) (Nat.le_refl _), ← hb0])⟩ (by omega) (cs_pick St [0, 1, 3, 4, 2] rfl (by decide) [0, 1, 2] rfl) (lv_sub hl [0, 1, 3, 4, 5, 6, 7, 8] rfl)
          ·
            have i67 := cl_nle (x := st) (y := 0) (u := st.toInt) (v := 0) rfl (by decide) (fun q => c67 ((lg_cmp_le _ _).mpr q))
            refine lv_aload_n hx hb dX0_partCoin_70 rfl (lv_at hl 5 rfl) ?_
            refine cs_get F St 0 rfl rfl inX0 3 (by decide) kf_X0_22 rfl dX0_partCoin_71 ?_
            refine lv_iload hx hb dX0_partCoin_74 (lv_at hl 1 rfl) ?_
            refine lv_lload_n hx hb dX0_partCoin_76 rfl (lv_at hl 6 rfl) ?_
            refine lv_iload hx hb dX0_partCoin_77 (lv_at hl 0 rfl) ?_
            refine lv_i2l (v := r_4.toInt64) hx hb dX0_partCoin_79 rfl ?_
            refine lv_lmul hx hb dX0_partCoin_80 ?_
            refine lv_topl (fun y_10 ey_10 => ?_)
            obtain ⟨jm1, jm2, jm3⟩ := cl_mulb (u := cj.toInt) (v := sm (tG l0 l1 i.toNatClampNeg) sn.toNatClampNeg) (A := 2000000000) (B := 1250000000) rfl (by rw [Int32.toInt_toInt64, hgk]) ey_10 (by omega) (by omega) (by omega) (by omega) (by decide)
            refine lv_lload hx hb dX0_partCoin_81 (lv_at hl 4 rfl) ?_
            refine lv_ldiv hx hb dX0_partCoin_83 (ne0_l (by omega)) ?_
            refine lv_topl (fun y_11 ey_11 => ?_)
            have jd := cl_div (u := cj.toInt * sm (tG l0 l1 i.toNatClampNeg) sn.toNatClampNeg) (v := sm (tA l1) sn.toNatClampNeg) jm1 hst ey_11 jm2 (by omega)
            refine lv_l2i (v := y_11.toInt32) hx hb dX0_partCoin_84 rfl ?_
            have hqe : bkG cj.toInt fr l0 l1 sn.toNatClampNeg i.toNatClampNeg = cj.toInt * sm (tG l0 l1 i.toNatClampNeg) sn.toNatClampNeg / sm (tA l1) sn.toNatClampNeg := by unfold bkG bkV; rw [if_neg (by omega), if_neg (fun z_ => absurd (And.intro (of_decide_eq_true z_.1) z_.2) (by omega))]
            have hqb := bkG_bd (fr := fr) (u0 := l0) hSp hco i.toNatClampNeg
            have jl := l2i_i (x := y_11) (by omega)
            have hbv : y_11.toInt32.toInt = bkG cj.toInt fr l0 l1 sn.toNatClampNeg i.toNatClampNeg := by rw [jl, jd, hqe]
            refine cs_ist F St 1 0 rfl rfl (vp_in_iff.mpr ⟨by omega, by omega⟩) (w' := [(qAAAAAA h 0 b0 b1 b2 b3 b4 b5), (qarI b3 e3 30 (upd fa9 (i : Int32).toNatClampNeg y_11.toInt32)), (qAAAAIJ zs 5 s0 s1 s2 s3 sn st), (qarI s0 sc0 250 l0), (qarI s1 sc1 250 l1)]) rfl dX0_partCoin_85 (fun H locs St => ?_)
            obtain ⟨f_12, ef_12⟩ : ∃ zz : Nat → Int32, zz = upd fa9 (i : Int32).toNatClampNeg y_11.toInt32 := ⟨_, rfl⟩
            rw [← ef_12] at St
            skip
            refine lv_iload hx hb dX0_partCoin_86 (lv_at hl 2 rfl) ?_
            refine lv_aload_n hx hb dX0_partCoin_88 rfl (lv_at hl 5 rfl) ?_
            refine cs_get F St 0 rfl rfl inX0 3 (by decide) kf_X0_22 rfl dX0_partCoin_89 ?_
            refine lv_iload hx hb dX0_partCoin_92 (lv_at hl 1 rfl) ?_
            refine cs_ild F St 1 0 rfl rfl (vp_in_iff.mpr ⟨by omega, by omega⟩) dX0_partCoin_94 ?_
            refine lv_topi (fun y_13 ey_13 => ?_)
            have gy_13 := congrArg Int32.toInt ey_13
            refine lv_iadd hx hb dX0_partCoin_95 ?_
            refine lv_topi (fun y_14 ey_14 => ?_)
            first | have jy_14 : y_14.toInt = gg.toInt + y_13.toInt := (by have q9 := ci_add (x := gg) (y := y_13) rfl rfl ey_14; omega) | have jy_14 := ci_add (x := gg) (y := y_13) rfl rfl ey_14
            refine lv_istore (lv' := [(8, .int y_14), (10, .int r_4), (9, .int i), (7, .int 0), (5, .long st), (0, .ref h), (1, .long cj), (3, .ref zs), (4, .int x)]) hx hb dX0_partCoin_96 hl (by decide) rfl (fun ls hl => ?_)
            obtain ⟨y_15, ey_15⟩ : ∃ zz : Int32, zz = i + 1 := ⟨_, rfl⟩
            first | have jy_15 : y_15.toInt = i.toInt + 1 := (by have q9 := ci_add (x := i) rfl (show (1 : Int32).toInt = 1 by decide) ey_15; omega) | have jy_15 := ci_add (x := i) rfl (show (1 : Int32).toInt = 1 by decide) ey_15
            refine lv_iinc (v := y_15) (lv' := [(9, .int y_15), (8, .int y_14), (10, .int r_4), (7, .int 0), (5, .long st), (0, .ref h), (1, .long cj), (3, .ref zs), (4, .int x)]) hx hb dX0_partCoin_98 hl (k := 2) rfl (by rw [ey_15]; rfl) (by decide) rfl (fun ls hl => ?_)
            refine lv_goto (tgt := 31) hx hb dX0_partCoin_101 (by decide) ?_
            exact ih y_15 y_14 f_12 _ _ _ ⟨⟨by omega, by omega⟩, (by rw [ef_12]; exact fU_Y hI0 (Nat.zero_le _) hs1 (by omega) rfl (i32_of hbv)), smI_up hI0 hs2 (by omega) (by rw [ey_14, ey_13, ef_12, pk_us, i32_of hbv]; rfl)⟩ (by omega) (cs_pick St [0, 1, 3, 4, 2] rfl (by decide) [0, 1, 2] rfl) (lv_sub hl [0, 1, 3, 4, 5, 6, 7, 8] rfl)
    exact lp31 31 0 0 f3 _ _ _ ⟨⟨by omega, by omega⟩, fU_0.symm, rfl⟩ (by omega) St (lv_sub hl [0, 1, 2, 3, 4, 5, 6, 7] rfl)
  ·
    have i8 := ci_ne (x := x) (y := 0) rfl (show (0 : Int32).toInt = 0 by decide) c8
    refine lv_lload_n hx hb dX0_partCoin_11 rfl (lv_at hl 2 rfl) ?_
    refine lv_lload hx hb dX0_partCoin_12 (lv_at hl 0 rfl) ?_
    refine W.lcmp hx hb dX0_partCoin_14 ?_
    refine lv_if_lt (tgt := 22) hx hb dX0_partCoin_15 (by decide) (fun c15 => ?_) (fun c15 => ?_)
    ·
      have i15 := cl_lt (x := cj) (y := st) (u := cj.toInt) (v := st.toInt) rfl rfl ((lg_cmp_lt _ _).mp c15)
      refine lv_iconst (v := 0) hx hb dX0_partCoin_22 (by decide) ?_
      refine lv_istore (lv' := [(7, .int 0), (5, .long st), (0, .ref h), (1, .long cj), (3, .ref zs), (4, .int x)]) hx hb dX0_partCoin_23 hl (by decide) rfl (fun ls hl => ?_)
      refine lv_iconst (v := 0) hx hb dX0_partCoin_25 (by decide) ?_
      refine lv_istore (lv' := [(8, .int 0), (7, .int 0), (5, .long st), (0, .ref h), (1, .long cj), (3, .ref zs), (4, .int x)]) hx hb dX0_partCoin_26 hl (by decide) rfl (fun ls hl => ?_)
      refine lv_iconst (v := 0) hx hb dX0_partCoin_28 (by decide) ?_
      refine lv_istore (lv' := [(9, .int 0), (8, .int 0), (7, .int 0), (5, .long st), (0, .ref h), (1, .long cj), (3, .ref zs), (4, .int x)]) hx hb dX0_partCoin_29 hl (by decide) rfl (fun ls hl => ?_)
      have lp31 : ∀ (n : Nat) (i : Int32) (gg : Int32) (fa9 : Nat → Int32) (H : Heap) (locs : List Loc) (ls : Array Slot), ((0 ≤ i.toInt ∧ i.toInt ≤ 30) ∧ fa9 = fU (fun _ => true) (bkF cj.toInt fr l0 l1 sn.toNatClampNeg) f3 0 i.toNatClampNeg ∧ gg = smI (bkF cj.toInt fr l0 l1 sn.toNatClampNeg) i.toNatClampNeg) → ((30 - i.toInt).toNat) < n → cS G k [(qAAAAAA h 0 b0 b1 b2 b3 b4 b5), (qarI b3 e3 30 fa9), (qarI s0 sc0 250 l0), (qarI s1 sc1 250 l1), (qAAAAIJ zs 5 s0 s1 s2 s3 sn st)] [(e3, .int), (sc0, .int), (sc1, .int)] A s H locs → lv_has ls 11 [(9, .int i), (8, .int gg), (7, .int 0), (5, .long st), (0, .ref h), (1, .long cj), (3, .ref zs), (4, .int x)] → W p l e ({ frames := 1, cells := 0, slots := 0, locals := 23 } : Room) s m args below meth c H locs 0 0 Q (F0 m 31 ls []) := by
        intro n
        induction n with
        | zero => intro i gg fa9 H locs ls hI hn; exact absurd hn (Nat.not_lt_zero _)
        | succ n ih =>
          intro i gg fa9 H locs ls hI hn St hl
          obtain ⟨⟨hI0, hI1⟩, hs1, hs2⟩ := hI
          have nk := nc_int hI0
          refine lv_iload hx hb dX0_partCoin_31 (lv_at hl 0 rfl) ?_
          refine lv_bipush (v := 30) hx hb dX0_partCoin_33 (by decide) ?_
          refine lv_icmp_ge (tgt := 104) hx hb dX0_partCoin_35 (by decide) (fun c35 => ?_) (fun c35 => ?_)
          ·
            have i35 := ci_le (x := 30) (y := i) (show (30 : Int32).toInt = 30 by decide) rfl c35
            refine lv_iload hx hb dX0_partCoin_104 (lv_at hl 1 rfl) ?_
            have hk30 : i.toNatClampNeg = 30 := by omega
            rw [hk30] at hs1 hs2
            exact cs_iret F hr hlk hQ St fa9 (r := gg) ⟨hs2, hs1⟩ [0, 1, 4, 2, 3] rfl (by decide) [] rfl (by decide) (by decide) dX0_partCoin_106
          ·
            have i35 := ci_nle (x := 30) (y := i) (show (30 : Int32).toInt = 30 by decide) rfl c35
            refine lv_aload_n hx hb dX0_partCoin_38 rfl (lv_at hl 6 rfl) ?_
            refine lv_iload hx hb dX0_partCoin_39 (lv_at hl 0 rfl) ?_
            refine cs_i St [4, 2, 3] [0, 1] (wc := [(qAAAAIJ zs 5 s0 s1 s2 s3 sn st), (qarI s0 sc0 250 l0), (qarI s1 sc1 250 l1)]) (wr := [(qAAAAAA h 0 b0 b1 b2 b3 b4 b5), (qarI b3 e3 30 fa9)]) rfl rfl (by decide) (by decide) (va_runV (As := [.int i]) (rest := []) F (e5_givenBy l G k _ zs s0 s1 s2 s3 sn st sc0 sc1 l0 l1 i hSp) (cwVt F mf_X5_givenBy km_X0_52 rfl rfl ⟨Nat.le_of_ble_eq_true rfl, Nat.le_of_ble_eq_true rfl⟩) (cs_preV St [4, 2, 3] rfl (by decide) [1, 2] rfl (ci := 5) (q0 := 4) rfl rfl) rfl rfl hl.1 rfl (lv_room (Nat.le_of_ble_eq_true rfl)) dX0_partCoin_41 ⟨Nat.le_of_ble_eq_true rfl, Nat.le_of_ble_eq_true rfl⟩) (fun r_16 u_17 H locs hw St => ?_)
            try dsimp only at hw
            have hr_18 := hw
            have St : cS G k [(qAAAAAA h 0 b0 b1 b2 b3 b4 b5), (qarI b3 e3 30 fa9), (qAAAAIJ zs 5 s0 s1 s2 s3 sn st), (qarI s0 sc0 250 l0), (qarI s1 sc1 250 l1)] [(e3, .int), (sc0, .int), (sc1, .int)] A s H locs := St
            have hgk := hr_18
            rw [← nk] at hgk
            have hgb := sG_bd (u0 := l0) (g := (i.toNatClampNeg : Int)) (k := sn.toNatClampNeg) hSp (by omega)
            refine lv_istore (lv' := [(10, .int r_16), (9, .int i), (8, .int gg), (7, .int 0), (5, .long st), (0, .ref h), (1, .long cj), (3, .ref zs), (4, .int x)]) hx hb dX0_partCoin_44 hl (by decide) rfl (fun ls hl => ?_)
            refine lv_iload hx hb dX0_partCoin_46 (lv_at hl 3 rfl) ?_
            refine lv_if_eq (tgt := 63) hx hb dX0_partCoin_48 (by decide) (fun c48 => ?_) (fun c48 => ?_)
            rotate_left
            · exact absurd (by decide) c48
            refine lv_lload hx hb dX0_partCoin_63 (lv_at hl 4 rfl) ?_
            refine lv_lconst (v := 0) hx hb dX0_partCoin_65 (by decide) ?_
            refine W.lcmp hx hb dX0_partCoin_66 ?_
            refine lv_if_le (tgt := 86) hx hb dX0_partCoin_67 (by decide) (fun c67 => ?_) (fun c67 => ?_)
            ·
              have i67 := cl_le (x := st) (y := 0) (u := st.toInt) (v := 0) rfl (by decide) ((lg_cmp_le _ _).mp c67)
              have hb0 : bkF cj.toInt fr l0 l1 sn.toNatClampNeg i.toNatClampNeg = f3 i.toNatClampNeg := by rw [hf3 _ (by omega)]; unfold bkF bkG bkV; rw [if_pos (by omega)]; rfl
              refine lv_iload hx hb dX0_partCoin_86 (lv_at hl 2 rfl) ?_
              refine lv_aload_n hx hb dX0_partCoin_88 rfl (lv_at hl 5 rfl) ?_
              refine cs_get F St 0 rfl rfl inX0 3 (by decide) kf_X0_22 rfl dX0_partCoin_89 ?_
              refine lv_iload hx hb dX0_partCoin_92 (lv_at hl 1 rfl) ?_
              refine cs_ild F St 1 0 rfl rfl (vp_in_iff.mpr ⟨by omega, by omega⟩) dX0_partCoin_94 ?_
              refine lv_topi (fun y_19 ey_19 => ?_)
              have gy_19 := congrArg Int32.toInt ey_19
              refine lv_iadd hx hb dX0_partCoin_95 ?_
              refine lv_topi (fun y_20 ey_20 => ?_)
              first | have jy_20 : y_20.toInt = gg.toInt + y_19.toInt := (by have q9 := ci_add (x := gg) (y := y_19) rfl rfl ey_20; omega) | have jy_20 := ci_add (x := gg) (y := y_19) rfl rfl ey_20
              refine lv_istore (lv' := [(8, .int y_20), (10, .int r_16), (9, .int i), (7, .int 0), (5, .long st), (0, .ref h), (1, .long cj), (3, .ref zs), (4, .int x)]) hx hb dX0_partCoin_96 hl (by decide) rfl (fun ls hl => ?_)
              obtain ⟨y_21, ey_21⟩ : ∃ zz : Int32, zz = i + 1 := ⟨_, rfl⟩
              first | have jy_21 : y_21.toInt = i.toInt + 1 := (by have q9 := ci_add (x := i) rfl (show (1 : Int32).toInt = 1 by decide) ey_21; omega) | have jy_21 := ci_add (x := i) rfl (show (1 : Int32).toInt = 1 by decide) ey_21
              refine lv_iinc (v := y_21) (lv' := [(9, .int y_21), (8, .int y_20), (10, .int r_16), (7, .int 0), (5, .long st), (0, .ref h), (1, .long cj), (3, .ref zs), (4, .int x)]) hx hb dX0_partCoin_98 hl (k := 2) rfl (by rw [ey_21]; rfl) (by decide) rfl (fun ls hl => ?_)
              refine lv_goto (tgt := 31) hx hb dX0_partCoin_101 (by decide) ?_
              exact ih y_21 y_20 fa9 _ _ _ ⟨⟨by omega, by omega⟩, fU_N hI0 hs1 (by omega) (fun _ => hb0), smI_up hI0 hs2 (by omega) (by rw [ey_20, ey_19, hs1, fU_in (Nat.zero_le _) (Nat.le_refl _), ← hb0])⟩ (by omega) (cs_pick St [0, 1, 3, 4, 2] rfl (by decide) [0, 1, 2] rfl) (lv_sub hl [0, 1, 3, 4, 5, 6, 7, 8] rfl)
            ·
              have i67 := cl_nle (x := st) (y := 0) (u := st.toInt) (v := 0) rfl (by decide) (fun q => c67 ((lg_cmp_le _ _).mpr q))
              refine lv_aload_n hx hb dX0_partCoin_70 rfl (lv_at hl 5 rfl) ?_
              refine cs_get F St 0 rfl rfl inX0 3 (by decide) kf_X0_22 rfl dX0_partCoin_71 ?_
              refine lv_iload hx hb dX0_partCoin_74 (lv_at hl 1 rfl) ?_
              refine lv_lload_n hx hb dX0_partCoin_76 rfl (lv_at hl 6 rfl) ?_
              refine lv_iload hx hb dX0_partCoin_77 (lv_at hl 0 rfl) ?_
              refine lv_i2l (v := r_16.toInt64) hx hb dX0_partCoin_79 rfl ?_
              refine lv_lmul hx hb dX0_partCoin_80 ?_
              refine lv_topl (fun y_22 ey_22 => ?_)
              obtain ⟨jm1, jm2, jm3⟩ := cl_mulb (u := cj.toInt) (v := sm (tG l0 l1 i.toNatClampNeg) sn.toNatClampNeg) (A := 2000000000) (B := 1250000000) rfl (by rw [Int32.toInt_toInt64, hgk]) ey_22 (by omega) (by omega) (by omega) (by omega) (by decide)
              refine lv_lload hx hb dX0_partCoin_81 (lv_at hl 4 rfl) ?_
              refine lv_ldiv hx hb dX0_partCoin_83 (ne0_l (by omega)) ?_
              refine lv_topl (fun y_23 ey_23 => ?_)
              have jd := cl_div (u := cj.toInt * sm (tG l0 l1 i.toNatClampNeg) sn.toNatClampNeg) (v := sm (tA l1) sn.toNatClampNeg) jm1 hst ey_23 jm2 (by omega)
              refine lv_l2i (v := y_23.toInt32) hx hb dX0_partCoin_84 rfl ?_
              have hqe : bkG cj.toInt fr l0 l1 sn.toNatClampNeg i.toNatClampNeg = cj.toInt * sm (tG l0 l1 i.toNatClampNeg) sn.toNatClampNeg / sm (tA l1) sn.toNatClampNeg := by unfold bkG bkV; rw [if_neg (by omega), if_neg (fun z_ => absurd (And.intro (of_decide_eq_true z_.1) z_.2) (by omega))]
              have hqb := bkG_bd (fr := fr) (u0 := l0) hSp hco i.toNatClampNeg
              have jl := l2i_i (x := y_23) (by omega)
              have hbv : y_23.toInt32.toInt = bkG cj.toInt fr l0 l1 sn.toNatClampNeg i.toNatClampNeg := by rw [jl, jd, hqe]
              refine cs_ist F St 1 0 rfl rfl (vp_in_iff.mpr ⟨by omega, by omega⟩) (w' := [(qAAAAAA h 0 b0 b1 b2 b3 b4 b5), (qarI b3 e3 30 (upd fa9 (i : Int32).toNatClampNeg y_23.toInt32)), (qAAAAIJ zs 5 s0 s1 s2 s3 sn st), (qarI s0 sc0 250 l0), (qarI s1 sc1 250 l1)]) rfl dX0_partCoin_85 (fun H locs St => ?_)
              obtain ⟨f_24, ef_24⟩ : ∃ zz : Nat → Int32, zz = upd fa9 (i : Int32).toNatClampNeg y_23.toInt32 := ⟨_, rfl⟩
              rw [← ef_24] at St
              skip
              refine lv_iload hx hb dX0_partCoin_86 (lv_at hl 2 rfl) ?_
              refine lv_aload_n hx hb dX0_partCoin_88 rfl (lv_at hl 5 rfl) ?_
              refine cs_get F St 0 rfl rfl inX0 3 (by decide) kf_X0_22 rfl dX0_partCoin_89 ?_
              refine lv_iload hx hb dX0_partCoin_92 (lv_at hl 1 rfl) ?_
              refine cs_ild F St 1 0 rfl rfl (vp_in_iff.mpr ⟨by omega, by omega⟩) dX0_partCoin_94 ?_
              refine lv_topi (fun y_25 ey_25 => ?_)
              have gy_25 := congrArg Int32.toInt ey_25
              refine lv_iadd hx hb dX0_partCoin_95 ?_
              refine lv_topi (fun y_26 ey_26 => ?_)
              first | have jy_26 : y_26.toInt = gg.toInt + y_25.toInt := (by have q9 := ci_add (x := gg) (y := y_25) rfl rfl ey_26; omega) | have jy_26 := ci_add (x := gg) (y := y_25) rfl rfl ey_26
              refine lv_istore (lv' := [(8, .int y_26), (10, .int r_16), (9, .int i), (7, .int 0), (5, .long st), (0, .ref h), (1, .long cj), (3, .ref zs), (4, .int x)]) hx hb dX0_partCoin_96 hl (by decide) rfl (fun ls hl => ?_)
              obtain ⟨y_27, ey_27⟩ : ∃ zz : Int32, zz = i + 1 := ⟨_, rfl⟩
              first | have jy_27 : y_27.toInt = i.toInt + 1 := (by have q9 := ci_add (x := i) rfl (show (1 : Int32).toInt = 1 by decide) ey_27; omega) | have jy_27 := ci_add (x := i) rfl (show (1 : Int32).toInt = 1 by decide) ey_27
              refine lv_iinc (v := y_27) (lv' := [(9, .int y_27), (8, .int y_26), (10, .int r_16), (7, .int 0), (5, .long st), (0, .ref h), (1, .long cj), (3, .ref zs), (4, .int x)]) hx hb dX0_partCoin_98 hl (k := 2) rfl (by rw [ey_27]; rfl) (by decide) rfl (fun ls hl => ?_)
              refine lv_goto (tgt := 31) hx hb dX0_partCoin_101 (by decide) ?_
              exact ih y_27 y_26 f_24 _ _ _ ⟨⟨by omega, by omega⟩, (by rw [ef_24]; exact fU_Y hI0 (Nat.zero_le _) hs1 (by omega) rfl (i32_of hbv)), smI_up hI0 hs2 (by omega) (by rw [ey_26, ey_25, ef_24, pk_us, i32_of hbv]; rfl)⟩ (by omega) (cs_pick St [0, 1, 3, 4, 2] rfl (by decide) [0, 1, 2] rfl) (lv_sub hl [0, 1, 3, 4, 5, 6, 7, 8] rfl)
      exact lp31 31 0 0 f3 _ _ _ ⟨⟨by omega, by omega⟩, fU_0.symm, rfl⟩ (by omega) St (lv_sub hl [0, 1, 2, 3, 4, 5, 6, 7] rfl)
    ·
      have i15 := cl_nlt (x := cj) (y := st) (u := cj.toInt) (v := st.toInt) rfl rfl (fun q => c15 ((lg_cmp_lt _ _).mpr q))
      refine lv_iconst (v := 1) hx hb dX0_partCoin_18 (by decide) ?_
      refine lv_goto (tgt := 23) hx hb dX0_partCoin_19 (by decide) ?_
      refine lv_istore (lv' := [(7, .int 1), (5, .long st), (0, .ref h), (1, .long cj), (3, .ref zs), (4, .int x)]) hx hb dX0_partCoin_23 hl (by decide) rfl (fun ls hl => ?_)
      refine lv_iconst (v := 0) hx hb dX0_partCoin_25 (by decide) ?_
      refine lv_istore (lv' := [(8, .int 0), (7, .int 1), (5, .long st), (0, .ref h), (1, .long cj), (3, .ref zs), (4, .int x)]) hx hb dX0_partCoin_26 hl (by decide) rfl (fun ls hl => ?_)
      refine lv_iconst (v := 0) hx hb dX0_partCoin_28 (by decide) ?_
      refine lv_istore (lv' := [(9, .int 0), (8, .int 0), (7, .int 1), (5, .long st), (0, .ref h), (1, .long cj), (3, .ref zs), (4, .int x)]) hx hb dX0_partCoin_29 hl (by decide) rfl (fun ls hl => ?_)
      have lp31 : ∀ (n : Nat) (i : Int32) (gg : Int32) (fa9 : Nat → Int32) (H : Heap) (locs : List Loc) (ls : Array Slot), ((0 ≤ i.toInt ∧ i.toInt ≤ 30) ∧ fa9 = fU (fun _ => true) (bkF cj.toInt fr l0 l1 sn.toNatClampNeg) f3 0 i.toNatClampNeg ∧ gg = smI (bkF cj.toInt fr l0 l1 sn.toNatClampNeg) i.toNatClampNeg) → ((30 - i.toInt).toNat) < n → cS G k [(qAAAAAA h 0 b0 b1 b2 b3 b4 b5), (qarI b3 e3 30 fa9), (qarI s0 sc0 250 l0), (qarI s1 sc1 250 l1), (qAAAAIJ zs 5 s0 s1 s2 s3 sn st)] [(e3, .int), (sc0, .int), (sc1, .int)] A s H locs → lv_has ls 11 [(9, .int i), (8, .int gg), (7, .int 1), (5, .long st), (0, .ref h), (1, .long cj), (3, .ref zs), (4, .int x)] → W p l e ({ frames := 1, cells := 0, slots := 0, locals := 23 } : Room) s m args below meth c H locs 0 0 Q (F0 m 31 ls []) := by
        intro n
        induction n with
        | zero => intro i gg fa9 H locs ls hI hn; exact absurd hn (Nat.not_lt_zero _)
        | succ n ih =>
          intro i gg fa9 H locs ls hI hn St hl
          obtain ⟨⟨hI0, hI1⟩, hs1, hs2⟩ := hI
          have nk := nc_int hI0
          refine lv_iload hx hb dX0_partCoin_31 (lv_at hl 0 rfl) ?_
          refine lv_bipush (v := 30) hx hb dX0_partCoin_33 (by decide) ?_
          refine lv_icmp_ge (tgt := 104) hx hb dX0_partCoin_35 (by decide) (fun c35 => ?_) (fun c35 => ?_)
          ·
            have i35 := ci_le (x := 30) (y := i) (show (30 : Int32).toInt = 30 by decide) rfl c35
            refine lv_iload hx hb dX0_partCoin_104 (lv_at hl 1 rfl) ?_
            have hk30 : i.toNatClampNeg = 30 := by omega
            rw [hk30] at hs1 hs2
            exact cs_iret F hr hlk hQ St fa9 (r := gg) ⟨hs2, hs1⟩ [0, 1, 4, 2, 3] rfl (by decide) [] rfl (by decide) (by decide) dX0_partCoin_106
          ·
            have i35 := ci_nle (x := 30) (y := i) (show (30 : Int32).toInt = 30 by decide) rfl c35
            refine lv_aload_n hx hb dX0_partCoin_38 rfl (lv_at hl 6 rfl) ?_
            refine lv_iload hx hb dX0_partCoin_39 (lv_at hl 0 rfl) ?_
            refine cs_i St [4, 2, 3] [0, 1] (wc := [(qAAAAIJ zs 5 s0 s1 s2 s3 sn st), (qarI s0 sc0 250 l0), (qarI s1 sc1 250 l1)]) (wr := [(qAAAAAA h 0 b0 b1 b2 b3 b4 b5), (qarI b3 e3 30 fa9)]) rfl rfl (by decide) (by decide) (va_runV (As := [.int i]) (rest := []) F (e5_givenBy l G k _ zs s0 s1 s2 s3 sn st sc0 sc1 l0 l1 i hSp) (cwVt F mf_X5_givenBy km_X0_52 rfl rfl ⟨Nat.le_of_ble_eq_true rfl, Nat.le_of_ble_eq_true rfl⟩) (cs_preV St [4, 2, 3] rfl (by decide) [1, 2] rfl (ci := 5) (q0 := 4) rfl rfl) rfl rfl hl.1 rfl (lv_room (Nat.le_of_ble_eq_true rfl)) dX0_partCoin_41 ⟨Nat.le_of_ble_eq_true rfl, Nat.le_of_ble_eq_true rfl⟩) (fun r_28 u_29 H locs hw St => ?_)
            try dsimp only at hw
            have hr_30 := hw
            have St : cS G k [(qAAAAAA h 0 b0 b1 b2 b3 b4 b5), (qarI b3 e3 30 fa9), (qAAAAIJ zs 5 s0 s1 s2 s3 sn st), (qarI s0 sc0 250 l0), (qarI s1 sc1 250 l1)] [(e3, .int), (sc0, .int), (sc1, .int)] A s H locs := St
            have hgk := hr_30
            rw [← nk] at hgk
            have hgb := sG_bd (u0 := l0) (g := (i.toNatClampNeg : Int)) (k := sn.toNatClampNeg) hSp (by omega)
            refine lv_istore (lv' := [(10, .int r_28), (9, .int i), (8, .int gg), (7, .int 1), (5, .long st), (0, .ref h), (1, .long cj), (3, .ref zs), (4, .int x)]) hx hb dX0_partCoin_44 hl (by decide) rfl (fun ls hl => ?_)
            refine lv_iload hx hb dX0_partCoin_46 (lv_at hl 3 rfl) ?_
            refine lv_if_eq (tgt := 63) hx hb dX0_partCoin_48 (by decide) (fun c48 => ?_) (fun c48 => ?_)
            · exact absurd c48 (by decide)
            refine lv_aload_n hx hb dX0_partCoin_51 rfl (lv_at hl 5 rfl) ?_
            refine cs_get F St 0 rfl rfl inX0 3 (by decide) kf_X0_22 rfl dX0_partCoin_52 ?_
            refine lv_iload hx hb dX0_partCoin_55 (lv_at hl 1 rfl) ?_
            refine lv_iload hx hb dX0_partCoin_57 (lv_at hl 0 rfl) ?_
            have hbv : r_28.toInt = bkG cj.toInt fr l0 l1 sn.toNatClampNeg i.toNatClampNeg := hgk.trans (bk_full hSp (by omega) (by omega))
            refine cs_ist F St 1 0 rfl rfl (vp_in_iff.mpr ⟨by omega, by omega⟩) (w' := [(qAAAAAA h 0 b0 b1 b2 b3 b4 b5), (qarI b3 e3 30 (upd fa9 (i : Int32).toNatClampNeg r_28)), (qAAAAIJ zs 5 s0 s1 s2 s3 sn st), (qarI s0 sc0 250 l0), (qarI s1 sc1 250 l1)]) rfl dX0_partCoin_59 (fun H locs St => ?_)
            obtain ⟨f_31, ef_31⟩ : ∃ zz : Nat → Int32, zz = upd fa9 (i : Int32).toNatClampNeg r_28 := ⟨_, rfl⟩
            rw [← ef_31] at St
            refine lv_goto (tgt := 86) hx hb dX0_partCoin_60 (by decide) ?_
            skip
            refine lv_iload hx hb dX0_partCoin_86 (lv_at hl 2 rfl) ?_
            refine lv_aload_n hx hb dX0_partCoin_88 rfl (lv_at hl 5 rfl) ?_
            refine cs_get F St 0 rfl rfl inX0 3 (by decide) kf_X0_22 rfl dX0_partCoin_89 ?_
            refine lv_iload hx hb dX0_partCoin_92 (lv_at hl 1 rfl) ?_
            refine cs_ild F St 1 0 rfl rfl (vp_in_iff.mpr ⟨by omega, by omega⟩) dX0_partCoin_94 ?_
            refine lv_topi (fun y_32 ey_32 => ?_)
            have gy_32 := congrArg Int32.toInt ey_32
            refine lv_iadd hx hb dX0_partCoin_95 ?_
            refine lv_topi (fun y_33 ey_33 => ?_)
            first | have jy_33 : y_33.toInt = gg.toInt + y_32.toInt := (by have q9 := ci_add (x := gg) (y := y_32) rfl rfl ey_33; omega) | have jy_33 := ci_add (x := gg) (y := y_32) rfl rfl ey_33
            refine lv_istore (lv' := [(8, .int y_33), (10, .int r_28), (9, .int i), (7, .int 1), (5, .long st), (0, .ref h), (1, .long cj), (3, .ref zs), (4, .int x)]) hx hb dX0_partCoin_96 hl (by decide) rfl (fun ls hl => ?_)
            obtain ⟨y_34, ey_34⟩ : ∃ zz : Int32, zz = i + 1 := ⟨_, rfl⟩
            first | have jy_34 : y_34.toInt = i.toInt + 1 := (by have q9 := ci_add (x := i) rfl (show (1 : Int32).toInt = 1 by decide) ey_34; omega) | have jy_34 := ci_add (x := i) rfl (show (1 : Int32).toInt = 1 by decide) ey_34
            refine lv_iinc (v := y_34) (lv' := [(9, .int y_34), (8, .int y_33), (10, .int r_28), (7, .int 1), (5, .long st), (0, .ref h), (1, .long cj), (3, .ref zs), (4, .int x)]) hx hb dX0_partCoin_98 hl (k := 2) rfl (by rw [ey_34]; rfl) (by decide) rfl (fun ls hl => ?_)
            refine lv_goto (tgt := 31) hx hb dX0_partCoin_101 (by decide) ?_
            exact ih y_34 y_33 f_31 _ _ _ ⟨⟨by omega, by omega⟩, (by rw [ef_31]; exact fU_Y hI0 (Nat.zero_le _) hs1 (by omega) rfl (i32_of hbv)), smI_up hI0 hs2 (by omega) (by rw [ey_33, ey_32, ef_31, pk_us, i32_of hbv]; rfl)⟩ (by omega) (cs_pick St [0, 1, 3, 4, 2] rfl (by decide) [0, 1, 2] rfl) (lv_sub hl [0, 1, 3, 4, 5, 6, 7, 8] rfl)
      exact lp31 31 0 0 f3 _ _ _ ⟨⟨by omega, by omega⟩, fU_0.symm, rfl⟩ (by omega) St (lv_sub hl [0, 1, 2, 3, 4, 5, 6, 7] rfl)
set_option maxHeartbeats 4000000 in
set_option maxRecDepth 100000 in
theorem z_stop (l : Launch) (G : va_G) (k : Nat → Nat) (sz : Nat) (h : Nat) (a : Nat → Nat) (d : Nat → ClassId) (cl : Int32) (sp : Int32) (g3 : Nat → Int32) (sn : Int32) (st : Int64) (u0 : Nat → Int32) (u1 : Nat → Int32) (p0 : Int64) (p1 : Int64) (p2 : Int64) (p3 : Int64) (p4 : Int64) (p5 : Int64) (fr : Nat → Int32) (hz : sp = 0 ∨ sp = 1) (hSp : mSp sn u1) (hst : st.toInt = sm (tA u1) sn.toNatClampNeg) (hco : 0 ≤ p0.toInt ∧ p0.toInt ≤ 2000000000) (hta : 0 ≤ p3.toInt ∧ p3.toInt ≤ 700000000) (hf3 : sp.toInt = 0 → ∀ g_, g_ < 30 → g3 g_ = 0) : Met l yX10_stop (Cond.code yX10_stop cX10_stop 2 (some .int) :: tb) ({ frames := 2, cells := 0, slots := 0, locals := 53 } : Room) (va_Pc [.ref h] (cP G k [(qAAAAAAAAII h 10 (a 0) (a 2) (a 6) (a 8) (a 15) (a 17) (a 22) (a 23) cl sp), (qAAAAAA (a 8) 0 (a 9) (a 10) (a 11) (a 12) (a 13) (a 14)), (qarI (a 12) (d 7) 30 g3), (qAAAAIJ (a 17) 5 (a 18) (a 19) (a 20) (a 21) sn st), (qarI (a 18) (d 11) 250 u0), (qarI (a 19) (d 12) 250 u1), (qJJJJJJ (a 22) 3 p0 p1 p2 p3 p4 p5), (qA (a 6) 8 (a 7)), (qarI (a 7) (d 3) 9 fr)] [((d 7), .int), ((d 11), .int), ((d 12), .int), ((d 3), .int)] sz)) (va_Qi (fun (r : Int32) (u : Int32 × (Nat → Int32) × Int64 × Int64 × Int64 × Int64 × Int64 × Int64) => match u with | (sp2, z3, q0, q1, q2, q3, q4, q5) => (Rsto sp sn fr u0 u1 g3 p0.toInt r z3 q0.toInt) ∧ (sp2 = 1) ∧ (q1 = p1 ∧ q2 = p2 ∧ q3 = p3 ∧ q4 = p4 ∧ q5 = p5)) (cB G (fun u => match u with | (sp2, z3, q0, q1, q2, q3, q4, q5) => [(qAAAAAAAAII h 10 (a 0) (a 2) (a 6) (a 8) (a 15) (a 17) (a 22) (a 23) cl sp2), (qAAAAAA (a 8) 0 (a 9) (a 10) (a 11) (a 12) (a 13) (a 14)), (qarI (a 12) (d 7) 30 z3), (qAAAAIJ (a 17) 5 (a 18) (a 19) (a 20) (a 21) sn st), (qarI (a 18) (d 11) 250 u0), (qarI (a 19) (d 12) 250 u1), (qJJJJJJ (a 22) 3 q0 q1 q2 q3 q4 q5), (qA (a 6) 8 (a 7)), (qarI (a 7) (d 3) 9 fr)]) (fun u => match u with | (sp2, z3, q0, q1, q2, q3, q4, q5) => []) (va_A [(qAAAAAAAAII h 10 (a 0) (a 2) (a 6) (a 8) (a 15) (a 17) (a 22) (a 23) cl sp), (qAAAAAA (a 8) 0 (a 9) (a 10) (a 11) (a 12) (a 13) (a 14)), (qarI (a 12) (d 7) 30 g3), (qAAAAIJ (a 17) 5 (a 18) (a 19) (a 20) (a 21) sn st), (qarI (a 18) (d 11) 250 u0), (qarI (a 19) (d 12) 250 u1), (qJJJJJJ (a 22) 3 p0 p1 p2 p3 p4 p5), (qA (a 6) 8 (a 7)), (qarI (a 7) (d 3) 9 fr)] sz)) (va_A [(qAAAAAAAAII h 10 (a 0) (a 2) (a 6) (a 8) (a 15) (a 17) (a 22) (a 23) cl sp), (qAAAAAA (a 8) 0 (a 9) (a 10) (a 11) (a 12) (a 13) (a 14)), (qarI (a 12) (d 7) 30 g3), (qAAAAIJ (a 17) 5 (a 18) (a 19) (a 20) (a 21) sn st), (qarI (a 18) (d 11) 250 u0), (qarI (a 19) (d 12) 250 u1), (qJJJJJJ (a 22) 3 p0 p1 p2 p3 p4 p5), (qA (a 6) 8 (a 7)), (qarI (a 7) (d 3) 9 fr)] sz)) 0 0 (va_A [(qAAAAAAAAII h 10 (a 0) (a 2) (a 6) (a 8) (a 15) (a 17) (a 22) (a 23) cl sp), (qAAAAAA (a 8) 0 (a 9) (a 10) (a 11) (a 12) (a 13) (a 14)), (qarI (a 12) (d 7) 30 g3), (qAAAAIJ (a 17) 5 (a 18) (a 19) (a 20) (a 21) sn st), (qarI (a 18) (d 11) 250 u0), (qarI (a 19) (d 12) 250 u1), (qJJJJJJ (a 22) 3 p0 p1 p2 p3 p4 p5), (qA (a 6) 8 (a 7)), (qarI (a 7) (d 3) 9 fr)] sz) := by
  refine ofC_i (cc := cX10_stop) (maxL := 2) (ret := (some .int)) (by decide) rfl (Nat.le_of_ble_eq_true rfl) ?_
  intro p e s m args below meth c A ls Q F hr hin hlk St hl hQ
  have hx := F.1
  have hb := F.2.1
  have hl : lv_has ls 2 [(0, .ref h)] := hl
  have St : cS G k [(qAAAAAAAAII h 10 (a 0) (a 2) (a 6) (a 8) (a 15) (a 17) (a 22) (a 23) cl sp), (qAAAAAA (a 8) 0 (a 9) (a 10) (a 11) (a 12) (a 13) (a 14)), (qarI (a 12) (d 7) 30 g3), (qAAAAIJ (a 17) 5 (a 18) (a 19) (a 20) (a 21) sn st), (qarI (a 18) (d 11) 250 u0), (qarI (a 19) (d 12) 250 u1), (qJJJJJJ (a 22) 3 p0 p1 p2 p3 p4 p5), (qA (a 6) 8 (a 7)), (qarI (a 7) (d 3) 9 fr)] [((d 7), .int), ((d 11), .int), ((d 12), .int), ((d 3), .int)] A s s.heap [] := St
  have y0 : (0 : Int32).toInt = 0 := by decide
  have y1 : (1 : Int32).toInt = 1 := by decide
  skip
  refine lv_aload_n hx hb dX10_stop_0 rfl (lv_at hl 0 rfl) ?_
  refine cs_get F St 0 rfl rfl inX10 9 (by decide) kf_X10_106 rfl dX10_stop_1 ?_
  refine lv_if_eq (tgt := 10) hx hb dX10_stop_4 (by decide) (fun c4 => ?_) (fun c4 => ?_)
  ·
    have i4 := ci_eq (x := sp) (y := 0) rfl (show (0 : Int32).toInt = 0 by decide) c4
    refine lv_aload_n hx hb dX10_stop_10 rfl (lv_at hl 0 rfl) ?_
    refine lv_iconst (v := 1) hx hb dX10_stop_11 (by decide) ?_
    refine cs_put F St 0 rfl rfl inX10 tyX10_ok nmX10 9 (by decide) kf_X10_106 rfl rfl rfl (Nat.le_of_ble_eq_true rfl) (w' := [(qAAAAAAAAII h 10 (a 0) (a 2) (a 6) (a 8) (a 15) (a 17) (a 22) (a 23) cl 1), (qAAAAAA (a 8) 0 (a 9) (a 10) (a 11) (a 12) (a 13) (a 14)), (qarI (a 12) (d 7) 30 g3), (qAAAAIJ (a 17) 5 (a 18) (a 19) (a 20) (a 21) sn st), (qarI (a 18) (d 11) 250 u0), (qarI (a 19) (d 12) 250 u1), (qJJJJJJ (a 22) 3 p0 p1 p2 p3 p4 p5), (qA (a 6) 8 (a 7)), (qarI (a 7) (d 3) 9 fr)]) rfl dX10_stop_12 (fun H locs St => ?_)
    refine lv_aload_n hx hb dX10_stop_15 rfl (lv_at hl 0 rfl) ?_
    refine cs_get F St 0 rfl rfl inX10 3 (by decide) kf_X10_33 rfl dX10_stop_16 ?_
    refine lv_aload_n hx hb dX10_stop_19 rfl (lv_at hl 0 rfl) ?_
    refine cs_get F St 0 rfl rfl inX10 6 (by decide) kf_X10_54 rfl dX10_stop_20 ?_
    refine cs_l St [6] [0, 1, 2, 3, 4, 5, 7, 8] (wc := [(qJJJJJJ (a 22) 3 p0 p1 p2 p3 p4 p5)]) (wr := [(qAAAAAAAAII h 10 (a 0) (a 2) (a 6) (a 8) (a 15) (a 17) (a 22) (a 23) cl 1), (qAAAAAA (a 8) 0 (a 9) (a 10) (a 11) (a 12) (a 13) (a 14)), (qarI (a 12) (d 7) 30 g3), (qAAAAIJ (a 17) 5 (a 18) (a 19) (a 20) (a 21) sn st), (qarI (a 18) (d 11) 250 u0), (qarI (a 19) (d 12) 250 u1), (qA (a 6) 8 (a 7)), (qarI (a 7) (d 3) 9 fr)]) rfl rfl (by decide) (by decide) (va_runV (As := []) (rest := [.ref (a 8)]) F (x3_coin l G k _ (a 22) p0 p1 p2 p3 p4 p5) (cwVt F mf_X3_coin km_X10_264 rfl rfl ⟨Nat.le_of_ble_eq_true rfl, Nat.le_of_ble_eq_true rfl⟩) (cs_preV St [6] rfl (by decide) [] rfl (ci := 3) (q0 := 6) rfl rfl) rfl rfl hl.1 rfl (lv_room (Nat.le_of_ble_eq_true rfl)) dX10_stop_23 ⟨Nat.le_of_ble_eq_true rfl, Nat.le_of_ble_eq_true rfl⟩) (fun r_1 u_2 H locs hw St => ?_)
    try dsimp only at hw
    have z_3 := hw
    subst r_1
    have St : cS G k [(qAAAAAAAAII h 10 (a 0) (a 2) (a 6) (a 8) (a 15) (a 17) (a 22) (a 23) cl 1), (qAAAAAA (a 8) 0 (a 9) (a 10) (a 11) (a 12) (a 13) (a 14)), (qarI (a 12) (d 7) 30 g3), (qAAAAIJ (a 17) 5 (a 18) (a 19) (a 20) (a 21) sn st), (qarI (a 18) (d 11) 250 u0), (qarI (a 19) (d 12) 250 u1), (qA (a 6) 8 (a 7)), (qarI (a 7) (d 3) 9 fr), (qJJJJJJ (a 22) 3 p0 p1 p2 p3 p4 p5)] [((d 7), .int), ((d 11), .int), ((d 12), .int), ((d 3), .int)] A s H locs := St
    refine lv_aload_n hx hb dX10_stop_26 rfl (lv_at hl 0 rfl) ?_
    refine cs_get F St 0 rfl rfl inX10 5 (by decide) kf_X10_47 rfl dX10_stop_27 ?_
    refine lv_aload_n hx hb dX10_stop_30 rfl (lv_at hl 0 rfl) ?_
    refine cs_get F St 0 rfl rfl inX10 2 (by decide) kf_X10_26 rfl dX10_stop_31 ?_
    refine cs_i St [6, 7] [0, 1, 2, 3, 4, 5, 8] (wc := [(qA (a 6) 8 (a 7)), (qarI (a 7) (d 3) 9 fr)]) (wr := [(qAAAAAAAAII h 10 (a 0) (a 2) (a 6) (a 8) (a 15) (a 17) (a 22) (a 23) cl 1), (qAAAAAA (a 8) 0 (a 9) (a 10) (a 11) (a 12) (a 13) (a 14)), (qarI (a 12) (d 7) 30 g3), (qAAAAIJ (a 17) 5 (a 18) (a 19) (a 20) (a 21) sn st), (qarI (a 18) (d 11) 250 u0), (qarI (a 19) (d 12) 250 u1), (qJJJJJJ (a 22) 3 p0 p1 p2 p3 p4 p5)]) rfl rfl (by decide) (by decide) (va_runV (As := []) (rest := [.ref (a 17), .long p0, .ref (a 8)]) F (e8_givesAllBack l G k _ (a 6) (a 7) (d 3) fr) (cwVt F mf_X8_givesAllBack km_X10_268 rfl rfl ⟨Nat.le_of_ble_eq_true rfl, Nat.le_of_ble_eq_true rfl⟩) (cs_preV St [6, 7] rfl (by decide) [3] rfl (ci := 8) (q0 := 6) rfl rfl) rfl rfl hl.1 rfl (lv_room (Nat.le_of_ble_eq_true rfl)) dX10_stop_34 ⟨Nat.le_of_ble_eq_true rfl, Nat.le_of_ble_eq_true rfl⟩) (fun r_4 u_5 H locs hw St => ?_)
    try dsimp only at hw
    rcases hw with ⟨z_6, hf_7⟩ | ⟨z_8, hf_9⟩
    ·
      subst r_4
      have St : cS G k [(qAAAAAAAAII h 10 (a 0) (a 2) (a 6) (a 8) (a 15) (a 17) (a 22) (a 23) cl 1), (qAAAAAA (a 8) 0 (a 9) (a 10) (a 11) (a 12) (a 13) (a 14)), (qarI (a 12) (d 7) 30 g3), (qAAAAIJ (a 17) 5 (a 18) (a 19) (a 20) (a 21) sn st), (qarI (a 18) (d 11) 250 u0), (qarI (a 19) (d 12) 250 u1), (qJJJJJJ (a 22) 3 p0 p1 p2 p3 p4 p5), (qA (a 6) 8 (a 7)), (qarI (a 7) (d 3) 9 fr)] [((d 7), .int), ((d 11), .int), ((d 12), .int), ((d 3), .int)] A s H locs := St
      have hgab := hf_7
      refine cs_i St [1, 2, 3, 4, 5] [0, 6, 7, 8] (wc := [(qAAAAAA (a 8) 0 (a 9) (a 10) (a 11) (a 12) (a 13) (a 14)), (qarI (a 12) (d 7) 30 g3), (qAAAAIJ (a 17) 5 (a 18) (a 19) (a 20) (a 21) sn st), (qarI (a 18) (d 11) 250 u0), (qarI (a 19) (d 12) 250 u1)]) (wr := [(qAAAAAAAAII h 10 (a 0) (a 2) (a 6) (a 8) (a 15) (a 17) (a 22) (a 23) cl 1), (qJJJJJJ (a 22) 3 p0 p1 p2 p3 p4 p5), (qA (a 6) 8 (a 7)), (qarI (a 7) (d 3) 9 fr)]) rfl rfl (by decide) (by decide) (va_runV (As := [.long p0, .ref (a 17), .int 1]) (rest := []) F (e0_partCoin l G k _ (a 8) (a 9) (a 10) (a 11) (a 12) (a 13) (a 14) (d 7) g3 (a 17) (a 18) (a 19) (a 20) (a 21) sn st (d 11) (d 12) u0 u1 p0 1 fr hSp hst (by omega) (by omega) (hf3 (by omega))) (cwVt F mf_X0_partCoin km_X10_271 rfl rfl ⟨Nat.le_of_ble_eq_true rfl, Nat.le_of_ble_eq_true rfl⟩) (cs_preV St [1, 2, 3, 4, 5] rfl (by decide) [0, 1, 2] rfl (ci := 0) (q0 := 1) rfl rfl) rfl rfl hl.1 rfl (lv_room (Nat.le_of_ble_eq_true rfl)) dX10_stop_37 ⟨Nat.le_of_ble_eq_true rfl, Nat.le_of_ble_eq_true rfl⟩) (fun r_10 u_11 H locs hw St => ?_)
      obtain ⟨z3_12, rfl⟩ : ∃ z, z = u_11 := ⟨_, rfl⟩
      try dsimp only at hw
      obtain ⟨hr_13, hz3_14⟩ := hw
      have St : cS G k [(qAAAAAAAAII h 10 (a 0) (a 2) (a 6) (a 8) (a 15) (a 17) (a 22) (a 23) cl 1), (qJJJJJJ (a 22) 3 p0 p1 p2 p3 p4 p5), (qA (a 6) 8 (a 7)), (qarI (a 7) (d 3) 9 fr), (qAAAAAA (a 8) 0 (a 9) (a 10) (a 11) (a 12) (a 13) (a 14)), (qarI (a 12) (d 7) 30 z3_12), (qAAAAIJ (a 17) 5 (a 18) (a 19) (a 20) (a 21) sn st), (qarI (a 18) (d 11) 250 u0), (qarI (a 19) (d 12) 250 u1)] [((d 7), .int), ((d 11), .int), ((d 12), .int), ((d 3), .int)] A s H locs := St
      refine lv_istore_n (lv' := [(1, .int r_10), (0, .ref h)]) hx hb dX10_stop_40 rfl hl (by decide) rfl (fun ls hl => ?_)
      refine lv_aload_n hx hb dX10_stop_41 rfl (lv_at hl 1 rfl) ?_
      refine cs_get F St 0 rfl rfl inX10 6 (by decide) kf_X10_54 rfl dX10_stop_42 ?_
      refine lv_iload_n hx hb dX10_stop_45 rfl (lv_at hl 0 rfl) ?_
      refine cs_v St [1] [0, 2, 3, 4, 5, 6, 7, 8] (wc := [(qJJJJJJ (a 22) 3 p0 p1 p2 p3 p4 p5)]) (wr := [(qAAAAAAAAII h 10 (a 0) (a 2) (a 6) (a 8) (a 15) (a 17) (a 22) (a 23) cl 1), (qA (a 6) 8 (a 7)), (qarI (a 7) (d 3) 9 fr), (qAAAAAA (a 8) 0 (a 9) (a 10) (a 11) (a 12) (a 13) (a 14)), (qarI (a 12) (d 7) 30 z3_12), (qAAAAIJ (a 17) 5 (a 18) (a 19) (a 20) (a 21) sn st), (qarI (a 18) (d 11) 250 u0), (qarI (a 19) (d 12) 250 u1)]) rfl rfl (by decide) (by decide) (va_runV (As := [.int r_10]) (rest := []) F (e3_giveBack l G k _ (a 22) p0 p1 p2 p3 p4 p5 r_10 (by omega) (by omega)) (cwVt F mf_X3_giveBack km_X10_275 rfl rfl ⟨Nat.le_of_ble_eq_true rfl, Nat.le_of_ble_eq_true rfl⟩) (cs_preV St [1] rfl (by decide) [] rfl (ci := 3) (q0 := 1) rfl rfl) rfl rfl hl.1 rfl (lv_room (Nat.le_of_ble_eq_true rfl)) dX10_stop_46 ⟨Nat.le_of_ble_eq_true rfl, Nat.le_of_ble_eq_true rfl⟩) (fun u_16 H locs hw St => ?_)
      obtain ⟨q0_17, q1_18, q2_19, q3_20, q4_21, q5_22⟩ := u_16
      try dsimp only at hw
      obtain ⟨hq0_23, he1_24, he2_25, he3_26, he4_27, he5_28⟩ := hw
      have St : cS G k [(qAAAAAAAAII h 10 (a 0) (a 2) (a 6) (a 8) (a 15) (a 17) (a 22) (a 23) cl 1), (qA (a 6) 8 (a 7)), (qarI (a 7) (d 3) 9 fr), (qAAAAAA (a 8) 0 (a 9) (a 10) (a 11) (a 12) (a 13) (a 14)), (qarI (a 12) (d 7) 30 z3_12), (qAAAAIJ (a 17) 5 (a 18) (a 19) (a 20) (a 21) sn st), (qarI (a 18) (d 11) 250 u0), (qarI (a 19) (d 12) 250 u1), (qJJJJJJ (a 22) 3 q0_17 q1_18 q2_19 q3_20 q4_21 q5_22)] [((d 7), .int), ((d 11), .int), ((d 12), .int), ((d 3), .int)] A s H locs := St
      refine lv_iload_n hx hb dX10_stop_49 rfl (lv_at hl 0 rfl) ?_
      exact cs_iret F hr hlk hQ St (1, z3_12, q0_17, q1_18, q2_19, q3_20, q4_21, q5_22) (r := r_10) ⟨Or.inr ⟨hr_13, by omega, hz3_14, hq0_23⟩, rfl, he1_24, he2_25, he3_26, he4_27, he5_28⟩ [0, 3, 4, 5, 6, 7, 8, 1, 2] rfl (by decide) [] rfl (by decide) (by decide) dX10_stop_50
    ·
      subst r_4
      have St : cS G k [(qAAAAAAAAII h 10 (a 0) (a 2) (a 6) (a 8) (a 15) (a 17) (a 22) (a 23) cl 1), (qAAAAAA (a 8) 0 (a 9) (a 10) (a 11) (a 12) (a 13) (a 14)), (qarI (a 12) (d 7) 30 g3), (qAAAAIJ (a 17) 5 (a 18) (a 19) (a 20) (a 21) sn st), (qarI (a 18) (d 11) 250 u0), (qarI (a 19) (d 12) 250 u1), (qJJJJJJ (a 22) 3 p0 p1 p2 p3 p4 p5), (qA (a 6) 8 (a 7)), (qarI (a 7) (d 3) 9 fr)] [((d 7), .int), ((d 11), .int), ((d 12), .int), ((d 3), .int)] A s H locs := St
      have hgab := hf_9
      refine cs_i St [1, 2, 3, 4, 5] [0, 6, 7, 8] (wc := [(qAAAAAA (a 8) 0 (a 9) (a 10) (a 11) (a 12) (a 13) (a 14)), (qarI (a 12) (d 7) 30 g3), (qAAAAIJ (a 17) 5 (a 18) (a 19) (a 20) (a 21) sn st), (qarI (a 18) (d 11) 250 u0), (qarI (a 19) (d 12) 250 u1)]) (wr := [(qAAAAAAAAII h 10 (a 0) (a 2) (a 6) (a 8) (a 15) (a 17) (a 22) (a 23) cl 1), (qJJJJJJ (a 22) 3 p0 p1 p2 p3 p4 p5), (qA (a 6) 8 (a 7)), (qarI (a 7) (d 3) 9 fr)]) rfl rfl (by decide) (by decide) (va_runV (As := [.long p0, .ref (a 17), .int 0]) (rest := []) F (e0_partCoin l G k _ (a 8) (a 9) (a 10) (a 11) (a 12) (a 13) (a 14) (d 7) g3 (a 17) (a 18) (a 19) (a 20) (a 21) sn st (d 11) (d 12) u0 u1 p0 0 fr hSp hst (by omega) (by omega) (hf3 (by omega))) (cwVt F mf_X0_partCoin km_X10_271 rfl rfl ⟨Nat.le_of_ble_eq_true rfl, Nat.le_of_ble_eq_true rfl⟩) (cs_preV St [1, 2, 3, 4, 5] rfl (by decide) [0, 1, 2] rfl (ci := 0) (q0 := 1) rfl rfl) rfl rfl hl.1 rfl (lv_room (Nat.le_of_ble_eq_true rfl)) dX10_stop_37 ⟨Nat.le_of_ble_eq_true rfl, Nat.le_of_ble_eq_true rfl⟩) (fun r_29 u_30 H locs hw St => ?_)
      obtain ⟨z3_31, rfl⟩ : ∃ z, z = u_30 := ⟨_, rfl⟩
      try dsimp only at hw
      obtain ⟨hr_32, hz3_33⟩ := hw
      have St : cS G k [(qAAAAAAAAII h 10 (a 0) (a 2) (a 6) (a 8) (a 15) (a 17) (a 22) (a 23) cl 1), (qJJJJJJ (a 22) 3 p0 p1 p2 p3 p4 p5), (qA (a 6) 8 (a 7)), (qarI (a 7) (d 3) 9 fr), (qAAAAAA (a 8) 0 (a 9) (a 10) (a 11) (a 12) (a 13) (a 14)), (qarI (a 12) (d 7) 30 z3_31), (qAAAAIJ (a 17) 5 (a 18) (a 19) (a 20) (a 21) sn st), (qarI (a 18) (d 11) 250 u0), (qarI (a 19) (d 12) 250 u1)] [((d 7), .int), ((d 11), .int), ((d 12), .int), ((d 3), .int)] A s H locs := St
      refine lv_istore_n (lv' := [(1, .int r_29), (0, .ref h)]) hx hb dX10_stop_40 rfl hl (by decide) rfl (fun ls hl => ?_)
      refine lv_aload_n hx hb dX10_stop_41 rfl (lv_at hl 1 rfl) ?_
      refine cs_get F St 0 rfl rfl inX10 6 (by decide) kf_X10_54 rfl dX10_stop_42 ?_
      refine lv_iload_n hx hb dX10_stop_45 rfl (lv_at hl 0 rfl) ?_
      refine cs_v St [1] [0, 2, 3, 4, 5, 6, 7, 8] (wc := [(qJJJJJJ (a 22) 3 p0 p1 p2 p3 p4 p5)]) (wr := [(qAAAAAAAAII h 10 (a 0) (a 2) (a 6) (a 8) (a 15) (a 17) (a 22) (a 23) cl 1), (qA (a 6) 8 (a 7)), (qarI (a 7) (d 3) 9 fr), (qAAAAAA (a 8) 0 (a 9) (a 10) (a 11) (a 12) (a 13) (a 14)), (qarI (a 12) (d 7) 30 z3_31), (qAAAAIJ (a 17) 5 (a 18) (a 19) (a 20) (a 21) sn st), (qarI (a 18) (d 11) 250 u0), (qarI (a 19) (d 12) 250 u1)]) rfl rfl (by decide) (by decide) (va_runV (As := [.int r_29]) (rest := []) F (e3_giveBack l G k _ (a 22) p0 p1 p2 p3 p4 p5 r_29 (by omega) (by omega)) (cwVt F mf_X3_giveBack km_X10_275 rfl rfl ⟨Nat.le_of_ble_eq_true rfl, Nat.le_of_ble_eq_true rfl⟩) (cs_preV St [1] rfl (by decide) [] rfl (ci := 3) (q0 := 1) rfl rfl) rfl rfl hl.1 rfl (lv_room (Nat.le_of_ble_eq_true rfl)) dX10_stop_46 ⟨Nat.le_of_ble_eq_true rfl, Nat.le_of_ble_eq_true rfl⟩) (fun u_35 H locs hw St => ?_)
      obtain ⟨q0_36, q1_37, q2_38, q3_39, q4_40, q5_41⟩ := u_35
      try dsimp only at hw
      obtain ⟨hq0_42, he1_43, he2_44, he3_45, he4_46, he5_47⟩ := hw
      have St : cS G k [(qAAAAAAAAII h 10 (a 0) (a 2) (a 6) (a 8) (a 15) (a 17) (a 22) (a 23) cl 1), (qA (a 6) 8 (a 7)), (qarI (a 7) (d 3) 9 fr), (qAAAAAA (a 8) 0 (a 9) (a 10) (a 11) (a 12) (a 13) (a 14)), (qarI (a 12) (d 7) 30 z3_31), (qAAAAIJ (a 17) 5 (a 18) (a 19) (a 20) (a 21) sn st), (qarI (a 18) (d 11) 250 u0), (qarI (a 19) (d 12) 250 u1), (qJJJJJJ (a 22) 3 q0_36 q1_37 q2_38 q3_39 q4_40 q5_41)] [((d 7), .int), ((d 11), .int), ((d 12), .int), ((d 3), .int)] A s H locs := St
      refine lv_iload_n hx hb dX10_stop_49 rfl (lv_at hl 0 rfl) ?_
      exact cs_iret F hr hlk hQ St (1, z3_31, q0_36, q1_37, q2_38, q3_39, q4_40, q5_41) (r := r_29) ⟨Or.inr ⟨hr_32, by omega, hz3_33, hq0_42⟩, rfl, he1_43, he2_44, he3_45, he4_46, he5_47⟩ [0, 3, 4, 5, 6, 7, 8, 1, 2] rfl (by decide) [] rfl (by decide) (by decide) dX10_stop_50
  ·
    have i4 := ci_ne (x := sp) (y := 0) rfl (show (0 : Int32).toInt = 0 by decide) c4
    refine lv_bipush (v := (-4)) hx hb dX10_stop_7 (by decide) ?_
    exact cs_iret F hr hlk hQ St (sp, g3, p0, p1, p2, p3, p4, p5) (r := (-4)) ⟨Or.inl ⟨rfl, by omega, rfl, rfl⟩, hz.resolve_left c4, rfl, rfl, rfl, rfl, rfl⟩ [0, 1, 2, 3, 4, 5, 6, 7, 8] rfl (by decide) [] rfl (by decide) (by decide) dX10_stop_9
set_option maxHeartbeats 4000000 in
set_option maxRecDepth 100000 in
theorem z_stone (l : Launch) (G : va_G) (k : Nat → Nat) (sz : Nat) (h : Nat) (a : Nat → Nat) (d : Nat → ClassId) (cl : Int32) (sp : Int32) (g2 : Nat → Int32) (g4 : Nat → Int32) (g5 : Nat → Int32) (sn : Int32) (st : Int64) (u0 : Nat → Int32) (u1 : Nat → Int32) (fr : Nat → Int32) (x1 : Int32) (hSg : mGi sn u0) (hSp : mSp sn u1) (hF : rbd fr) : Met l yX10_stone (Cond.code yX10_stone cX10_stone 3 (some .int) :: tb) ({ frames := 2, cells := 0, slots := 0, locals := 48 } : Room) (va_Pc [.ref h, .int x1] (cP G k [(qAAAAAAAAII h 10 (a 0) (a 2) (a 6) (a 8) (a 15) (a 17) (a 22) (a 23) cl sp), (qAAAAAA (a 8) 0 (a 9) (a 10) (a 11) (a 12) (a 13) (a 14)), (qarI (a 11) (d 6) 30 g2), (qarI (a 13) (d 8) 30 g4), (qarI (a 14) (d 9) 30 g5), (qAAAAIJ (a 17) 5 (a 18) (a 19) (a 20) (a 21) sn st), (qarI (a 18) (d 11) 250 u0), (qarI (a 19) (d 12) 250 u1), (qA (a 6) 8 (a 7)), (qarI (a 7) (d 3) 9 fr)] [((d 6), .boolean), ((d 8), .int), ((d 9), .int), ((d 11), .int), ((d 12), .int), ((d 3), .int)] sz)) (va_Qi (fun (r : Int32) (u : (Nat → Int32) × (Nat → Int32)) => match u with | (z4, z5) => (stA u0 u1 g2 (100 * (fr (7 : Int32).toNatClampNeg).toInt) sn.toNatClampNeg x1 r)) (cB G (fun u => match u with | (z4, z5) => [(qAAAAAAAAII h 10 (a 0) (a 2) (a 6) (a 8) (a 15) (a 17) (a 22) (a 23) cl sp), (qAAAAAA (a 8) 0 (a 9) (a 10) (a 11) (a 12) (a 13) (a 14)), (qarI (a 11) (d 6) 30 g2), (qarI (a 13) (d 8) 30 z4), (qarI (a 14) (d 9) 30 z5), (qAAAAIJ (a 17) 5 (a 18) (a 19) (a 20) (a 21) sn st), (qarI (a 18) (d 11) 250 u0), (qarI (a 19) (d 12) 250 u1), (qA (a 6) 8 (a 7)), (qarI (a 7) (d 3) 9 fr)]) (fun u => match u with | (z4, z5) => []) (va_A [(qAAAAAAAAII h 10 (a 0) (a 2) (a 6) (a 8) (a 15) (a 17) (a 22) (a 23) cl sp), (qAAAAAA (a 8) 0 (a 9) (a 10) (a 11) (a 12) (a 13) (a 14)), (qarI (a 11) (d 6) 30 g2), (qarI (a 13) (d 8) 30 g4), (qarI (a 14) (d 9) 30 g5), (qAAAAIJ (a 17) 5 (a 18) (a 19) (a 20) (a 21) sn st), (qarI (a 18) (d 11) 250 u0), (qarI (a 19) (d 12) 250 u1), (qA (a 6) 8 (a 7)), (qarI (a 7) (d 3) 9 fr)] sz)) (va_A [(qAAAAAAAAII h 10 (a 0) (a 2) (a 6) (a 8) (a 15) (a 17) (a 22) (a 23) cl sp), (qAAAAAA (a 8) 0 (a 9) (a 10) (a 11) (a 12) (a 13) (a 14)), (qarI (a 11) (d 6) 30 g2), (qarI (a 13) (d 8) 30 g4), (qarI (a 14) (d 9) 30 g5), (qAAAAIJ (a 17) 5 (a 18) (a 19) (a 20) (a 21) sn st), (qarI (a 18) (d 11) 250 u0), (qarI (a 19) (d 12) 250 u1), (qA (a 6) 8 (a 7)), (qarI (a 7) (d 3) 9 fr)] sz)) 0 0 (va_A [(qAAAAAAAAII h 10 (a 0) (a 2) (a 6) (a 8) (a 15) (a 17) (a 22) (a 23) cl sp), (qAAAAAA (a 8) 0 (a 9) (a 10) (a 11) (a 12) (a 13) (a 14)), (qarI (a 11) (d 6) 30 g2), (qarI (a 13) (d 8) 30 g4), (qarI (a 14) (d 9) 30 g5), (qAAAAIJ (a 17) 5 (a 18) (a 19) (a 20) (a 21) sn st), (qarI (a 18) (d 11) 250 u0), (qarI (a 19) (d 12) 250 u1), (qA (a 6) 8 (a 7)), (qarI (a 7) (d 3) 9 fr)] sz) := by
  refine ofC_i (cc := cX10_stone) (maxL := 3) (ret := (some .int)) (by decide) rfl (Nat.le_of_ble_eq_true rfl) ?_
  intro p e s m args below meth c A ls Q F hr hin hlk St hl hQ
  have hx := F.1
  have hb := F.2.1
  have hl : lv_has ls 3 [(0, .ref h), (1, .int x1)] := hl
  have St : cS G k [(qAAAAAAAAII h 10 (a 0) (a 2) (a 6) (a 8) (a 15) (a 17) (a 22) (a 23) cl sp), (qAAAAAA (a 8) 0 (a 9) (a 10) (a 11) (a 12) (a 13) (a 14)), (qarI (a 11) (d 6) 30 g2), (qarI (a 13) (d 8) 30 g4), (qarI (a 14) (d 9) 30 g5), (qAAAAIJ (a 17) 5 (a 18) (a 19) (a 20) (a 21) sn st), (qarI (a 18) (d 11) 250 u0), (qarI (a 19) (d 12) 250 u1), (qA (a 6) 8 (a 7)), (qarI (a 7) (d 3) 9 fr)] [((d 6), .boolean), ((d 8), .int), ((d 9), .int), ((d 11), .int), ((d 12), .int), ((d 3), .int)] A s s.heap [] := St
  have y0 : (0 : Int32).toInt = 0 := by decide
  skip
  refine lv_aload_n hx hb dX10_stone_0 rfl (lv_at hl 0 rfl) ?_
  refine cs_get F St 0 rfl rfl inX10 3 (by decide) kf_X10_33 rfl dX10_stone_1 ?_
  refine lv_aload_n hx hb dX10_stone_4 rfl (lv_at hl 0 rfl) ?_
  refine cs_get F St 0 rfl rfl inX10 5 (by decide) kf_X10_47 rfl dX10_stone_5 ?_
  refine lv_aload_n hx hb dX10_stone_8 rfl (lv_at hl 0 rfl) ?_
  refine cs_get F St 0 rfl rfl inX10 2 (by decide) kf_X10_26 rfl dX10_stone_9 ?_
  refine cs_i St [8, 9] [0, 1, 2, 3, 4, 5, 6, 7] (wc := [(qA (a 6) 8 (a 7)), (qarI (a 7) (d 3) 9 fr)]) (wr := [(qAAAAAAAAII h 10 (a 0) (a 2) (a 6) (a 8) (a 15) (a 17) (a 22) (a 23) cl sp), (qAAAAAA (a 8) 0 (a 9) (a 10) (a 11) (a 12) (a 13) (a 14)), (qarI (a 11) (d 6) 30 g2), (qarI (a 13) (d 8) 30 g4), (qarI (a 14) (d 9) 30 g5), (qAAAAIJ (a 17) 5 (a 18) (a 19) (a 20) (a 21) sn st), (qarI (a 18) (d 11) 250 u0), (qarI (a 19) (d 12) 250 u1)]) rfl rfl (by decide) (by decide) (va_runV (As := []) (rest := [.ref (a 17), .ref (a 8)]) F (e8_stonePence l G k _ (a 6) (a 7) (d 3) fr) (cwVt F mf_X8_stonePence km_X10_254 rfl rfl ⟨Nat.le_of_ble_eq_true rfl, Nat.le_of_ble_eq_true rfl⟩) (cs_preV St [8, 9] rfl (by decide) [5] rfl (ci := 8) (q0 := 8) rfl rfl) rfl rfl hl.1 rfl (lv_room (Nat.le_of_ble_eq_true rfl)) dX10_stone_12 ⟨Nat.le_of_ble_eq_true rfl, Nat.le_of_ble_eq_true rfl⟩) (fun r_1 u_2 H locs hw St => ?_)
  try dsimp only at hw
  have hr_3 := hw
  have St : cS G k [(qAAAAAAAAII h 10 (a 0) (a 2) (a 6) (a 8) (a 15) (a 17) (a 22) (a 23) cl sp), (qAAAAAA (a 8) 0 (a 9) (a 10) (a 11) (a 12) (a 13) (a 14)), (qarI (a 11) (d 6) 30 g2), (qarI (a 13) (d 8) 30 g4), (qarI (a 14) (d 9) 30 g5), (qAAAAIJ (a 17) 5 (a 18) (a 19) (a 20) (a 21) sn st), (qarI (a 18) (d 11) 250 u0), (qarI (a 19) (d 12) 250 u1), (qA (a 6) 8 (a 7)), (qarI (a 7) (d 3) 9 fr)] [((d 6), .boolean), ((d 8), .int), ((d 9), .int), ((d 11), .int), ((d 12), .int), ((d 3), .int)] A s H locs := St
  have hF7 := hF.2.2.2.2.2.2.2
  have gsp : r_1.toInt = (100 * (fr (7 : Int32).toNatClampNeg).toInt) := by have q9 := ci_mul (x := fr (7 : Int32).toNatClampNeg) (y := 100) rfl (show (100 : Int32).toInt = 100 by decide) hr_3; omega
  refine cs_i St [1, 2, 3, 4, 5, 6, 7] [0, 8, 9] (wc := [(qAAAAAA (a 8) 0 (a 9) (a 10) (a 11) (a 12) (a 13) (a 14)), (qarI (a 11) (d 6) 30 g2), (qarI (a 13) (d 8) 30 g4), (qarI (a 14) (d 9) 30 g5), (qAAAAIJ (a 17) 5 (a 18) (a 19) (a 20) (a 21) sn st), (qarI (a 18) (d 11) 250 u0), (qarI (a 19) (d 12) 250 u1)]) (wr := [(qAAAAAAAAII h 10 (a 0) (a 2) (a 6) (a 8) (a 15) (a 17) (a 22) (a 23) cl sp), (qA (a 6) 8 (a 7)), (qarI (a 7) (d 3) 9 fr)]) rfl rfl (by decide) (by decide) (va_runV (As := [.ref (a 17), .int r_1]) (rest := []) F (e0_orderStones l G k _ (a 8) (a 9) (a 10) (a 11) (a 12) (a 13) (a 14) (d 6) (d 8) (d 9) g2 g4 g5 (a 17) (a 18) (a 19) (a 20) (a 21) sn st (d 11) (d 12) u0 u1 r_1 hSg hSp) (cwVt F mf_X0_orderStones km_X10_257 rfl rfl ⟨Nat.le_of_ble_eq_true rfl, Nat.le_of_ble_eq_true rfl⟩) (cs_preV St [1, 2, 3, 4, 5, 6, 7] rfl (by decide) [0, 1, 2, 3, 4] rfl (ci := 0) (q0 := 1) rfl rfl) rfl rfl hl.1 rfl (lv_room (Nat.le_of_ble_eq_true rfl)) dX10_stone_15 ⟨Nat.le_of_ble_eq_true rfl, Nat.le_of_ble_eq_true rfl⟩) (fun r_4 u_5 H locs hw St => ?_)
  obtain ⟨z4_6, z5_7⟩ := u_5
  try dsimp only at hw
  obtain ⟨hr_8, hr30_9⟩ := hw
  have St : cS G k [(qAAAAAAAAII h 10 (a 0) (a 2) (a 6) (a 8) (a 15) (a 17) (a 22) (a 23) cl sp), (qA (a 6) 8 (a 7)), (qarI (a 7) (d 3) 9 fr), (qAAAAAA (a 8) 0 (a 9) (a 10) (a 11) (a 12) (a 13) (a 14)), (qarI (a 11) (d 6) 30 g2), (qarI (a 13) (d 8) 30 z4_6), (qarI (a 14) (d 9) 30 z5_7), (qAAAAIJ (a 17) 5 (a 18) (a 19) (a 20) (a 21) sn st), (qarI (a 18) (d 11) 250 u0), (qarI (a 19) (d 12) 250 u1)] [((d 6), .boolean), ((d 8), .int), ((d 9), .int), ((d 11), .int), ((d 12), .int), ((d 3), .int)] A s H locs := St
  have hR := hr_8
  rw [gsp] at hR
  refine lv_istore_n (lv' := [(2, .int r_4), (0, .ref h), (1, .int x1)]) hx hb dX10_stone_18 rfl hl (by decide) rfl (fun ls hl => ?_)
  refine lv_iload_n hx hb dX10_stone_19 rfl (lv_at hl 2 rfl) ?_
  refine lv_if_lt (tgt := 39) hx hb dX10_stone_20 (by decide) (fun c20 => ?_) (fun c20 => ?_)
  ·
    have i20 := ci_lt (x := x1) (y := 0) rfl (show (0 : Int32).toInt = 0 by decide) c20
    refine lv_iconst (v := (-1)) hx hb dX10_stone_39 (by decide) ?_
    exact cs_iret F hr hlk hQ St (z4_6, z5_7) (r := (-1)) (stR_b hR (by omega)) [0, 3, 4, 5, 6, 7, 8, 9, 1, 2] rfl (by decide) [] rfl (by decide) (by decide) dX10_stone_40
  ·
    have i20 := ci_nlt (x := x1) (y := 0) rfl (show (0 : Int32).toInt = 0 by decide) c20
    refine lv_iload_n hx hb dX10_stone_23 rfl (lv_at hl 2 rfl) ?_
    refine lv_iload_n hx hb dX10_stone_24 rfl (lv_at hl 0 rfl) ?_
    refine lv_icmp_ge (tgt := 39) hx hb dX10_stone_25 (by decide) (fun c25 => ?_) (fun c25 => ?_)
    ·
      have i25 := ci_le (x := r_4) (y := x1) rfl rfl c25
      refine lv_iconst (v := (-1)) hx hb dX10_stone_39 (by decide) ?_
      exact cs_iret F hr hlk hQ St (z4_6, z5_7) (r := (-1)) (stR_b hR (by omega)) [0, 3, 4, 5, 6, 7, 8, 9, 1, 2] rfl (by decide) [] rfl (by decide) (by decide) dX10_stone_40
    ·
      have i25 := ci_nle (x := r_4) (y := x1) rfl rfl c25
      refine lv_aload_n hx hb dX10_stone_28 rfl (lv_at hl 1 rfl) ?_
      refine cs_get F St 0 rfl rfl inX10 3 (by decide) kf_X10_33 rfl dX10_stone_29 ?_
      refine lv_iload_n hx hb dX10_stone_32 rfl (lv_at hl 2 rfl) ?_
      refine cs_i St [3, 6] [0, 1, 2, 4, 5, 7, 8, 9] (wc := [(qAAAAAA (a 8) 0 (a 9) (a 10) (a 11) (a 12) (a 13) (a 14)), (qarI (a 14) (d 9) 30 z5_7)]) (wr := [(qAAAAAAAAII h 10 (a 0) (a 2) (a 6) (a 8) (a 15) (a 17) (a 22) (a 23) cl sp), (qA (a 6) 8 (a 7)), (qarI (a 7) (d 3) 9 fr), (qarI (a 11) (d 6) 30 g2), (qarI (a 13) (d 8) 30 z4_6), (qAAAAIJ (a 17) 5 (a 18) (a 19) (a 20) (a 21) sn st), (qarI (a 18) (d 11) 250 u0), (qarI (a 19) (d 12) 250 u1)]) rfl rfl (by decide) (by decide) (va_runV (As := [.int x1]) (rest := []) F (e0_ofStone l G k _ (a 8) (a 9) (a 10) (a 11) (a 12) (a 13) (a 14) (d 9) z5_7 x1 (by omega)) (cwVt F mf_X0_ofStone km_X10_261 rfl rfl ⟨Nat.le_of_ble_eq_true rfl, Nat.le_of_ble_eq_true rfl⟩) (cs_preV St [3, 6] rfl (by decide) [2] rfl (ci := 0) (q0 := 3) rfl rfl) rfl rfl hl.1 rfl (lv_room (Nat.le_of_ble_eq_true rfl)) dX10_stone_33 ⟨Nat.le_of_ble_eq_true rfl, Nat.le_of_ble_eq_true rfl⟩) (fun r_10 u_11 H locs hw St => ?_)
      try dsimp only at hw
      have hr_12 := hw
      have St : cS G k [(qAAAAAAAAII h 10 (a 0) (a 2) (a 6) (a 8) (a 15) (a 17) (a 22) (a 23) cl sp), (qA (a 6) 8 (a 7)), (qarI (a 7) (d 3) 9 fr), (qarI (a 11) (d 6) 30 g2), (qarI (a 13) (d 8) 30 z4_6), (qAAAAIJ (a 17) 5 (a 18) (a 19) (a 20) (a 21) sn st), (qarI (a 18) (d 11) 250 u0), (qarI (a 19) (d 12) 250 u1), (qAAAAAA (a 8) 0 (a 9) (a 10) (a 11) (a 12) (a 13) (a 14)), (qarI (a 14) (d 9) 30 z5_7)] [((d 6), .boolean), ((d 8), .int), ((d 9), .int), ((d 11), .int), ((d 12), .int), ((d 3), .int)] A s H locs := St
      refine lv_goto (tgt := 40) hx hb dX10_stone_36 (by decide) ?_
      exact cs_iret F hr hlk hQ St (z4_6, z5_7) (r := r_10) (stR_a hR (by omega) (by omega) hr_12) [0, 8, 3, 4, 9, 5, 6, 7, 1, 2] rfl (by decide) [] rfl (by decide) (by decide) dX10_stone_40
set_option maxHeartbeats 4000000 in
set_option maxRecDepth 100000 in
theorem z_count (l : Launch) (G : va_G) (k : Nat → Nat) (sz : Nat) (h : Nat) (a : Nat → Nat) (d : Nat → ClassId) (cl : Int32) (sp : Int32) (nn : Int32) (bn : Int32) (fa : Nat → Option Nat) (nP : Nat) (bP : Nat → va_W) (g2 : Nat → Int32) (g4 : Nat → Int32) (g5 : Nat → Int32) (sn : Int32) (st : Int64) (u0 : Nat → Int32) (u1 : Nat → Int32) (p0 : Int64) (p1 : Int64) (p2 : Int64) (p3 : Int64) (p4 : Int64) (p5 : Int64) (tn : Int32) (td : Int32) (fr : Nat → Int32) (x1 : Int32) (hSg : mGi sn u0) (hSp : mSp sn u1) (hF : rbd fr) (hst : st.toInt = sm (tA u1) sn.toNatClampNeg) (hz : sp = 0 ∨ sp = 1) (hpb : (0 ≤ p0.toInt ∧ p0.toInt ≤ 2000000000) ∧ (0 ≤ p1.toInt ∧ p1.toInt ≤ 330000000) ∧ (0 ≤ p2.toInt ∧ p2.toInt ≤ 99999900) ∧ 0 ≤ p3.toInt ∧ p3.toInt ≤ 700000000) (tP : Nat → Pl9) (hnP : (nP : Int) = bn.toInt) (hn60 : nP ≤ 60) (hB : ∀ i, i < nP → okE (d 3) (tP i) (fa i) (bP i)) (hWT : ∀ i, i < nP → wfT cl.toInt (tP i)) : Met l yX10_count (Cond.code yX10_count cX10_count 2 (some .int) :: tb) ({ frames := 2, cells := 0, slots := 0, locals := 48 } : Room) (va_Pc [.ref h, .int x1] (cP G k ([(qAAAAAAAAII h 10 (a 0) (a 2) (a 6) (a 8) (a 15) (a 17) (a 22) (a 23) cl sp), (qAI (a 0) 6 (a 1) nn), (qAI (a 15) 2 (a 16) bn), (qarQ (a 16) (d 10) 60 fa), (qAAAAAA (a 8) 0 (a 9) (a 10) (a 11) (a 12) (a 13) (a 14)), (qarI (a 11) (d 6) 30 g2), (qarI (a 13) (d 8) 30 g4), (qarI (a 14) (d 9) 30 g5), (qAAAAIJ (a 17) 5 (a 18) (a 19) (a 20) (a 21) sn st), (qarI (a 18) (d 11) 250 u0), (qarI (a 19) (d 12) 250 u1), (qJJJJJJ (a 22) 3 p0 p1 p2 p3 p4 p5), (qAII (a 23) 7 (a 24) tn td), (qA (a 6) 8 (a 7)), (qarI (a 7) (d 3) 9 fr)] ++ (PW nP bP ++ [])) [((d 3), .int), ((d 10), .object "TowerAppeal$Pledge"), ((d 6), .boolean), ((d 8), .int), ((d 9), .int), ((d 11), .int), ((d 12), .int)] sz)) (va_Qi (fun (r : Int32) (u : (Nat → Int32) × (Nat → Int32) × (Nat → va_W)) => match u with | (z4, z5, bP2) => (Rcnt x1 (cnL cl.toInt p0.toInt p1.toInt (sm (tA u1) sn.toNatClampNeg) p2.toInt p3.toInt p4.toInt32.toInt p5.toInt32.toInt bn.toInt (sm (fun i => lnT (tP i)) bn.toNatClampNeg) tn.toInt sn.toInt sp.toInt nn.toInt (stC u0 u1 g2 (100 * (fr (7 : Int32).toNatClampNeg).toInt) sn.toNatClampNeg)) r) ∧ (∀ i, i < nP → okE (d 3) (tP i) (fa i) (bP2 i))) (cB G (fun u => match u with | (z4, z5, bP2) => ([(qAAAAAAAAII h 10 (a 0) (a 2) (a 6) (a 8) (a 15) (a 17) (a 22) (a 23) cl sp), (qAI (a 0) 6 (a 1) nn), (qAI (a 15) 2 (a 16) bn), (qarQ (a 16) (d 10) 60 fa), (qAAAAAA (a 8) 0 (a 9) (a 10) (a 11) (a 12) (a 13) (a 14)), (qarI (a 11) (d 6) 30 g2), (qarI (a 13) (d 8) 30 z4), (qarI (a 14) (d 9) 30 z5), (qAAAAIJ (a 17) 5 (a 18) (a 19) (a 20) (a 21) sn st), (qarI (a 18) (d 11) 250 u0), (qarI (a 19) (d 12) 250 u1), (qJJJJJJ (a 22) 3 p0 p1 p2 p3 p4 p5), (qAII (a 23) 7 (a 24) tn td), (qA (a 6) 8 (a 7)), (qarI (a 7) (d 3) 9 fr)] ++ (PW nP bP2 ++ []))) (fun u => match u with | (z4, z5, bP2) => []) (va_A ([(qAAAAAAAAII h 10 (a 0) (a 2) (a 6) (a 8) (a 15) (a 17) (a 22) (a 23) cl sp), (qAI (a 0) 6 (a 1) nn), (qAI (a 15) 2 (a 16) bn), (qarQ (a 16) (d 10) 60 fa), (qAAAAAA (a 8) 0 (a 9) (a 10) (a 11) (a 12) (a 13) (a 14)), (qarI (a 11) (d 6) 30 g2), (qarI (a 13) (d 8) 30 g4), (qarI (a 14) (d 9) 30 g5), (qAAAAIJ (a 17) 5 (a 18) (a 19) (a 20) (a 21) sn st), (qarI (a 18) (d 11) 250 u0), (qarI (a 19) (d 12) 250 u1), (qJJJJJJ (a 22) 3 p0 p1 p2 p3 p4 p5), (qAII (a 23) 7 (a 24) tn td), (qA (a 6) 8 (a 7)), (qarI (a 7) (d 3) 9 fr)] ++ (PW nP bP ++ [])) sz)) (va_A ([(qAAAAAAAAII h 10 (a 0) (a 2) (a 6) (a 8) (a 15) (a 17) (a 22) (a 23) cl sp), (qAI (a 0) 6 (a 1) nn), (qAI (a 15) 2 (a 16) bn), (qarQ (a 16) (d 10) 60 fa), (qAAAAAA (a 8) 0 (a 9) (a 10) (a 11) (a 12) (a 13) (a 14)), (qarI (a 11) (d 6) 30 g2), (qarI (a 13) (d 8) 30 g4), (qarI (a 14) (d 9) 30 g5), (qAAAAIJ (a 17) 5 (a 18) (a 19) (a 20) (a 21) sn st), (qarI (a 18) (d 11) 250 u0), (qarI (a 19) (d 12) 250 u1), (qJJJJJJ (a 22) 3 p0 p1 p2 p3 p4 p5), (qAII (a 23) 7 (a 24) tn td), (qA (a 6) 8 (a 7)), (qarI (a 7) (d 3) 9 fr)] ++ (PW nP bP ++ [])) sz)) 0 0 (va_A ([(qAAAAAAAAII h 10 (a 0) (a 2) (a 6) (a 8) (a 15) (a 17) (a 22) (a 23) cl sp), (qAI (a 0) 6 (a 1) nn), (qAI (a 15) 2 (a 16) bn), (qarQ (a 16) (d 10) 60 fa), (qAAAAAA (a 8) 0 (a 9) (a 10) (a 11) (a 12) (a 13) (a 14)), (qarI (a 11) (d 6) 30 g2), (qarI (a 13) (d 8) 30 g4), (qarI (a 14) (d 9) 30 g5), (qAAAAIJ (a 17) 5 (a 18) (a 19) (a 20) (a 21) sn st), (qarI (a 18) (d 11) 250 u0), (qarI (a 19) (d 12) 250 u1), (qJJJJJJ (a 22) 3 p0 p1 p2 p3 p4 p5), (qAII (a 23) 7 (a 24) tn td), (qA (a 6) 8 (a 7)), (qarI (a 7) (d 3) 9 fr)] ++ (PW nP bP ++ [])) sz) := by
  refine ofC_i (cc := cX10_count) (maxL := 2) (ret := (some .int)) (by decide) rfl (Nat.le_of_ble_eq_true rfl) ?_
  intro p e s m args below meth c A ls Q F hr hin hlk St hl hQ
  have hx := F.1
  have hb := F.2.1
  have hl : lv_has ls 2 [(0, .ref h), (1, .int x1)] := hl
  have St : cS G k ([(qAAAAAAAAII h 10 (a 0) (a 2) (a 6) (a 8) (a 15) (a 17) (a 22) (a 23) cl sp), (qAI (a 0) 6 (a 1) nn), (qAI (a 15) 2 (a 16) bn), (qarQ (a 16) (d 10) 60 fa), (qAAAAAA (a 8) 0 (a 9) (a 10) (a 11) (a 12) (a 13) (a 14)), (qarI (a 11) (d 6) 30 g2), (qarI (a 13) (d 8) 30 g4), (qarI (a 14) (d 9) 30 g5), (qAAAAIJ (a 17) 5 (a 18) (a 19) (a 20) (a 21) sn st), (qarI (a 18) (d 11) 250 u0), (qarI (a 19) (d 12) 250 u1), (qJJJJJJ (a 22) 3 p0 p1 p2 p3 p4 p5), (qAII (a 23) 7 (a 24) tn td), (qA (a 6) 8 (a 7)), (qarI (a 7) (d 3) 9 fr)] ++ (PW nP bP ++ [])) [((d 3), .int), ((d 10), .object "TowerAppeal$Pledge"), ((d 6), .boolean), ((d 8), .int), ((d 9), .int), ((d 11), .int), ((d 12), .int)] A s s.heap [] := St
  have y0 : (0 : Int32).toInt = 0 := by decide
  have hzi := z01 hz
  have y1 : (1 : Int32).toInt = 1 := by decide
  have hsn := hSp.1
  have hn5 := nc_int (x := sn) (by omega)
  have hab := sA_bd hSp (k := sn.toNatClampNeg) (by omega)
  skip
  refine lv_iload_n hx hb dX10_count_0 rfl (lv_at hl 1 rfl) ?_
  by_cases w1_0 : x1 = 0
  ·
    subst w1_0
    refine lv_tableIn (tgt := 76) (off := 75) hx hb dX10_count_1 (by decide) (by decide) (by decide) (by decide) ?_
    refine lv_aload_n hx hb dX10_count_76 rfl (lv_at hl 0 rfl) ?_
    refine ct_get F St 0 rfl rfl inX10 8 (by decide) kf_X10_123 rfl dX10_count_77 ?_
    have St : cS G k ([(qAAAAAAAAII h 10 (a 0) (a 2) (a 6) (a 8) (a 15) (a 17) (a 22) (a 23) cl sp), (qAI (a 0) 6 (a 1) nn), (qAI (a 15) 2 (a 16) bn), (qarQ (a 16) (d 10) 60 fa), (qAAAAAA (a 8) 0 (a 9) (a 10) (a 11) (a 12) (a 13) (a 14)), (qarI (a 11) (d 6) 30 g2), (qarI (a 13) (d 8) 30 g4), (qarI (a 14) (d 9) 30 g5), (qAAAAIJ (a 17) 5 (a 18) (a 19) (a 20) (a 21) sn st), (qarI (a 18) (d 11) 250 u0), (qarI (a 19) (d 12) 250 u1), (qJJJJJJ (a 22) 3 p0 p1 p2 p3 p4 p5), (qAII (a 23) 7 (a 24) tn td), (qA (a 6) 8 (a 7)), (qarI (a 7) (d 3) 9 fr)] ++ (PW nP bP ++ [])) [((d 3), .int), ((d 10), .object "TowerAppeal$Pledge"), ((d 6), .boolean), ((d 8), .int), ((d 9), .int), ((d 11), .int), ((d 12), .int)] A s _ _ := ct_pick St [0, 1, 2, 3, 4, 5, 6, 7, 8, 9, 10, 11, 12, 13, 14] rfl (by decide) [0, 1, 2, 3, 4, 5, 6] rfl
    exact cs_iret F hr hlk hQ St (g4, g5, bP) (r := cl) ⟨Or.inr ⟨by decide, rfl⟩, hB⟩ (List.range _) (ix_all (w := ([(qAAAAAAAAII h 10 (a 0) (a 2) (a 6) (a 8) (a 15) (a 17) (a 22) (a 23) cl sp), (qAI (a 0) 6 (a 1) nn), (qAI (a 15) 2 (a 16) bn), (qarQ (a 16) (d 10) 60 fa), (qAAAAAA (a 8) 0 (a 9) (a 10) (a 11) (a 12) (a 13) (a 14)), (qarI (a 11) (d 6) 30 g2), (qarI (a 13) (d 8) 30 g4), (qarI (a 14) (d 9) 30 g5), (qAAAAIJ (a 17) 5 (a 18) (a 19) (a 20) (a 21) sn st), (qarI (a 18) (d 11) 250 u0), (qarI (a 19) (d 12) 250 u1), (qJJJJJJ (a 22) 3 p0 p1 p2 p3 p4 p5), (qAII (a 23) 7 (a 24) tn td), (qA (a 6) 8 (a 7)), (qarI (a 7) (d 3) 9 fr)] ++ (PW nP bP ++ [])))) nd_C [] rfl (by decide) (by decide) dX10_count_80
  by_cases w1_1 : x1 = 1
  ·
    subst w1_1
    refine lv_tableIn (tgt := 81) (off := 80) hx hb dX10_count_1 (by decide) (by decide) (by decide) (by decide) ?_
    refine lv_aload_n hx hb dX10_count_81 rfl (lv_at hl 0 rfl) ?_
    refine ct_get F St 0 rfl rfl inX10 6 (by decide) kf_X10_54 rfl dX10_count_82 ?_
    refine ct_l St [11] [0, 1, 2, 3, 4, 5, 6, 7, 8, 9, 10, 12, 13, 14] (wc := [(qJJJJJJ (a 22) 3 p0 p1 p2 p3 p4 p5)]) (wr := [(qAAAAAAAAII h 10 (a 0) (a 2) (a 6) (a 8) (a 15) (a 17) (a 22) (a 23) cl sp), (qAI (a 0) 6 (a 1) nn), (qAI (a 15) 2 (a 16) bn), (qarQ (a 16) (d 10) 60 fa), (qAAAAAA (a 8) 0 (a 9) (a 10) (a 11) (a 12) (a 13) (a 14)), (qarI (a 11) (d 6) 30 g2), (qarI (a 13) (d 8) 30 g4), (qarI (a 14) (d 9) 30 g5), (qAAAAIJ (a 17) 5 (a 18) (a 19) (a 20) (a 21) sn st), (qarI (a 18) (d 11) 250 u0), (qarI (a 19) (d 12) 250 u1), (qAII (a 23) 7 (a 24) tn td), (qA (a 6) 8 (a 7)), (qarI (a 7) (d 3) 9 fr)]) rfl rfl (by decide) (by decide) (va_runV (As := []) (rest := []) F (x3_coin l G k _ (a 22) p0 p1 p2 p3 p4 p5) (cwVt F mf_X3_coin km_X10_264 rfl rfl ⟨Nat.le_of_ble_eq_true rfl, Nat.le_of_ble_eq_true rfl⟩) (ct_preV St [11] rfl (by decide) [] rfl (ci := 3) (q0 := 11) rfl rfl) rfl rfl hl.1 rfl (lv_room (Nat.le_of_ble_eq_true rfl)) dX10_count_85 ⟨Nat.le_of_ble_eq_true rfl, Nat.le_of_ble_eq_true rfl⟩) (fun r_1 u_2 H locs hw St => ?_)
    try dsimp only at hw
    have z_3 := hw
    subst r_1
    have St : cS G k ([(qAAAAAAAAII h 10 (a 0) (a 2) (a 6) (a 8) (a 15) (a 17) (a 22) (a 23) cl sp), (qAI (a 0) 6 (a 1) nn), (qAI (a 15) 2 (a 16) bn), (qarQ (a 16) (d 10) 60 fa), (qAAAAAA (a 8) 0 (a 9) (a 10) (a 11) (a 12) (a 13) (a 14)), (qarI (a 11) (d 6) 30 g2), (qarI (a 13) (d 8) 30 g4), (qarI (a 14) (d 9) 30 g5), (qAAAAIJ (a 17) 5 (a 18) (a 19) (a 20) (a 21) sn st), (qarI (a 18) (d 11) 250 u0), (qarI (a 19) (d 12) 250 u1), (qAII (a 23) 7 (a 24) tn td), (qA (a 6) 8 (a 7)), (qarI (a 7) (d 3) 9 fr), (qJJJJJJ (a 22) 3 p0 p1 p2 p3 p4 p5)] ++ (PW nP bP ++ [])) [((d 3), .int), ((d 10), .object "TowerAppeal$Pledge"), ((d 6), .boolean), ((d 8), .int), ((d 9), .int), ((d 11), .int), ((d 12), .int)] A s H locs := St
    refine lv_l2i (v := p0.toInt32) hx hb dX10_count_88 rfl ?_
    have St : cS G k ([(qAAAAAAAAII h 10 (a 0) (a 2) (a 6) (a 8) (a 15) (a 17) (a 22) (a 23) cl sp), (qAI (a 0) 6 (a 1) nn), (qAI (a 15) 2 (a 16) bn), (qarQ (a 16) (d 10) 60 fa), (qAAAAAA (a 8) 0 (a 9) (a 10) (a 11) (a 12) (a 13) (a 14)), (qarI (a 11) (d 6) 30 g2), (qarI (a 13) (d 8) 30 g4), (qarI (a 14) (d 9) 30 g5), (qAAAAIJ (a 17) 5 (a 18) (a 19) (a 20) (a 21) sn st), (qarI (a 18) (d 11) 250 u0), (qarI (a 19) (d 12) 250 u1), (qJJJJJJ (a 22) 3 p0 p1 p2 p3 p4 p5), (qAII (a 23) 7 (a 24) tn td), (qA (a 6) 8 (a 7)), (qarI (a 7) (d 3) 9 fr)] ++ (PW nP bP ++ [])) [((d 3), .int), ((d 10), .object "TowerAppeal$Pledge"), ((d 6), .boolean), ((d 8), .int), ((d 9), .int), ((d 11), .int), ((d 12), .int)] A s _ _ := ct_pick St [0, 1, 2, 3, 4, 5, 6, 7, 8, 9, 10, 14, 11, 12, 13] rfl (by decide) [0, 1, 2, 3, 4, 5, 6] rfl
    exact cs_iret F hr hlk hQ St (g4, g5, bP) (r := p0.toInt32) ⟨Or.inr ⟨by decide, (l2i_i (by omega))⟩, hB⟩ (List.range _) (ix_all (w := ([(qAAAAAAAAII h 10 (a 0) (a 2) (a 6) (a 8) (a 15) (a 17) (a 22) (a 23) cl sp), (qAI (a 0) 6 (a 1) nn), (qAI (a 15) 2 (a 16) bn), (qarQ (a 16) (d 10) 60 fa), (qAAAAAA (a 8) 0 (a 9) (a 10) (a 11) (a 12) (a 13) (a 14)), (qarI (a 11) (d 6) 30 g2), (qarI (a 13) (d 8) 30 g4), (qarI (a 14) (d 9) 30 g5), (qAAAAIJ (a 17) 5 (a 18) (a 19) (a 20) (a 21) sn st), (qarI (a 18) (d 11) 250 u0), (qarI (a 19) (d 12) 250 u1), (qJJJJJJ (a 22) 3 p0 p1 p2 p3 p4 p5), (qAII (a 23) 7 (a 24) tn td), (qA (a 6) 8 (a 7)), (qarI (a 7) (d 3) 9 fr)] ++ (PW nP bP ++ [])))) nd_C [] rfl (by decide) (by decide) dX10_count_89
  by_cases w1_2 : x1 = 2
  ·
    subst w1_2
    refine lv_tableIn (tgt := 90) (off := 89) hx hb dX10_count_1 (by decide) (by decide) (by decide) (by decide) ?_
    refine lv_aload_n hx hb dX10_count_90 rfl (lv_at hl 0 rfl) ?_
    refine ct_get F St 0 rfl rfl inX10 6 (by decide) kf_X10_54 rfl dX10_count_91 ?_
    refine ct_l St [11] [0, 1, 2, 3, 4, 5, 6, 7, 8, 9, 10, 12, 13, 14] (wc := [(qJJJJJJ (a 22) 3 p0 p1 p2 p3 p4 p5)]) (wr := [(qAAAAAAAAII h 10 (a 0) (a 2) (a 6) (a 8) (a 15) (a 17) (a 22) (a 23) cl sp), (qAI (a 0) 6 (a 1) nn), (qAI (a 15) 2 (a 16) bn), (qarQ (a 16) (d 10) 60 fa), (qAAAAAA (a 8) 0 (a 9) (a 10) (a 11) (a 12) (a 13) (a 14)), (qarI (a 11) (d 6) 30 g2), (qarI (a 13) (d 8) 30 g4), (qarI (a 14) (d 9) 30 g5), (qAAAAIJ (a 17) 5 (a 18) (a 19) (a 20) (a 21) sn st), (qarI (a 18) (d 11) 250 u0), (qarI (a 19) (d 12) 250 u1), (qAII (a 23) 7 (a 24) tn td), (qA (a 6) 8 (a 7)), (qarI (a 7) (d 3) 9 fr)]) rfl rfl (by decide) (by decide) (va_runV (As := []) (rest := []) F (x3_loan l G k _ (a 22) p0 p1 p2 p3 p4 p5) (cwVt F mf_X3_loan km_X10_281 rfl rfl ⟨Nat.le_of_ble_eq_true rfl, Nat.le_of_ble_eq_true rfl⟩) (ct_preV St [11] rfl (by decide) [] rfl (ci := 3) (q0 := 11) rfl rfl) rfl rfl hl.1 rfl (lv_room (Nat.le_of_ble_eq_true rfl)) dX10_count_94 ⟨Nat.le_of_ble_eq_true rfl, Nat.le_of_ble_eq_true rfl⟩) (fun r_4 u_5 H locs hw St => ?_)
    try dsimp only at hw
    have z_6 := hw
    subst r_4
    have St : cS G k ([(qAAAAAAAAII h 10 (a 0) (a 2) (a 6) (a 8) (a 15) (a 17) (a 22) (a 23) cl sp), (qAI (a 0) 6 (a 1) nn), (qAI (a 15) 2 (a 16) bn), (qarQ (a 16) (d 10) 60 fa), (qAAAAAA (a 8) 0 (a 9) (a 10) (a 11) (a 12) (a 13) (a 14)), (qarI (a 11) (d 6) 30 g2), (qarI (a 13) (d 8) 30 g4), (qarI (a 14) (d 9) 30 g5), (qAAAAIJ (a 17) 5 (a 18) (a 19) (a 20) (a 21) sn st), (qarI (a 18) (d 11) 250 u0), (qarI (a 19) (d 12) 250 u1), (qAII (a 23) 7 (a 24) tn td), (qA (a 6) 8 (a 7)), (qarI (a 7) (d 3) 9 fr), (qJJJJJJ (a 22) 3 p0 p1 p2 p3 p4 p5)] ++ (PW nP bP ++ [])) [((d 3), .int), ((d 10), .object "TowerAppeal$Pledge"), ((d 6), .boolean), ((d 8), .int), ((d 9), .int), ((d 11), .int), ((d 12), .int)] A s H locs := St
    refine lv_l2i (v := p1.toInt32) hx hb dX10_count_97 rfl ?_
    have St : cS G k ([(qAAAAAAAAII h 10 (a 0) (a 2) (a 6) (a 8) (a 15) (a 17) (a 22) (a 23) cl sp), (qAI (a 0) 6 (a 1) nn), (qAI (a 15) 2 (a 16) bn), (qarQ (a 16) (d 10) 60 fa), (qAAAAAA (a 8) 0 (a 9) (a 10) (a 11) (a 12) (a 13) (a 14)), (qarI (a 11) (d 6) 30 g2), (qarI (a 13) (d 8) 30 g4), (qarI (a 14) (d 9) 30 g5), (qAAAAIJ (a 17) 5 (a 18) (a 19) (a 20) (a 21) sn st), (qarI (a 18) (d 11) 250 u0), (qarI (a 19) (d 12) 250 u1), (qJJJJJJ (a 22) 3 p0 p1 p2 p3 p4 p5), (qAII (a 23) 7 (a 24) tn td), (qA (a 6) 8 (a 7)), (qarI (a 7) (d 3) 9 fr)] ++ (PW nP bP ++ [])) [((d 3), .int), ((d 10), .object "TowerAppeal$Pledge"), ((d 6), .boolean), ((d 8), .int), ((d 9), .int), ((d 11), .int), ((d 12), .int)] A s _ _ := ct_pick St [0, 1, 2, 3, 4, 5, 6, 7, 8, 9, 10, 14, 11, 12, 13] rfl (by decide) [0, 1, 2, 3, 4, 5, 6] rfl
    exact cs_iret F hr hlk hQ St (g4, g5, bP) (r := p1.toInt32) ⟨Or.inr ⟨by decide, (l2i_i (by omega))⟩, hB⟩ (List.range _) (ix_all (w := ([(qAAAAAAAAII h 10 (a 0) (a 2) (a 6) (a 8) (a 15) (a 17) (a 22) (a 23) cl sp), (qAI (a 0) 6 (a 1) nn), (qAI (a 15) 2 (a 16) bn), (qarQ (a 16) (d 10) 60 fa), (qAAAAAA (a 8) 0 (a 9) (a 10) (a 11) (a 12) (a 13) (a 14)), (qarI (a 11) (d 6) 30 g2), (qarI (a 13) (d 8) 30 g4), (qarI (a 14) (d 9) 30 g5), (qAAAAIJ (a 17) 5 (a 18) (a 19) (a 20) (a 21) sn st), (qarI (a 18) (d 11) 250 u0), (qarI (a 19) (d 12) 250 u1), (qJJJJJJ (a 22) 3 p0 p1 p2 p3 p4 p5), (qAII (a 23) 7 (a 24) tn td), (qA (a 6) 8 (a 7)), (qarI (a 7) (d 3) 9 fr)] ++ (PW nP bP ++ [])))) nd_C [] rfl (by decide) (by decide) dX10_count_98
  by_cases w1_3 : x1 = 3
  ·
    subst w1_3
    refine lv_tableIn (tgt := 99) (off := 98) hx hb dX10_count_1 (by decide) (by decide) (by decide) (by decide) ?_
    refine lv_aload_n hx hb dX10_count_99 rfl (lv_at hl 0 rfl) ?_
    refine ct_get F St 0 rfl rfl inX10 5 (by decide) kf_X10_47 rfl dX10_count_100 ?_
    refine ct_l St [8] [0, 1, 2, 3, 4, 5, 6, 7, 9, 10, 11, 12, 13, 14] (wc := [(qAAAAIJ (a 17) 5 (a 18) (a 19) (a 20) (a 21) sn st)]) (wr := [(qAAAAAAAAII h 10 (a 0) (a 2) (a 6) (a 8) (a 15) (a 17) (a 22) (a 23) cl sp), (qAI (a 0) 6 (a 1) nn), (qAI (a 15) 2 (a 16) bn), (qarQ (a 16) (d 10) 60 fa), (qAAAAAA (a 8) 0 (a 9) (a 10) (a 11) (a 12) (a 13) (a 14)), (qarI (a 11) (d 6) 30 g2), (qarI (a 13) (d 8) 30 g4), (qarI (a 14) (d 9) 30 g5), (qarI (a 18) (d 11) 250 u0), (qarI (a 19) (d 12) 250 u1), (qJJJJJJ (a 22) 3 p0 p1 p2 p3 p4 p5), (qAII (a 23) 7 (a 24) tn td), (qA (a 6) 8 (a 7)), (qarI (a 7) (d 3) 9 fr)]) rfl rfl (by decide) (by decide) (va_runV (As := []) (rest := []) F (x5_total l G k _ (a 17) (a 18) (a 19) (a 20) (a 21) sn st) (cwVt F mf_X5_total km_X10_284 rfl rfl ⟨Nat.le_of_ble_eq_true rfl, Nat.le_of_ble_eq_true rfl⟩) (ct_preV St [8] rfl (by decide) [] rfl (ci := 5) (q0 := 8) rfl rfl) rfl rfl hl.1 rfl (lv_room (Nat.le_of_ble_eq_true rfl)) dX10_count_103 ⟨Nat.le_of_ble_eq_true rfl, Nat.le_of_ble_eq_true rfl⟩) (fun r_7 u_8 H locs hw St => ?_)
    try dsimp only at hw
    have z_9 := hw
    subst r_7
    have St : cS G k ([(qAAAAAAAAII h 10 (a 0) (a 2) (a 6) (a 8) (a 15) (a 17) (a 22) (a 23) cl sp), (qAI (a 0) 6 (a 1) nn), (qAI (a 15) 2 (a 16) bn), (qarQ (a 16) (d 10) 60 fa), (qAAAAAA (a 8) 0 (a 9) (a 10) (a 11) (a 12) (a 13) (a 14)), (qarI (a 11) (d 6) 30 g2), (qarI (a 13) (d 8) 30 g4), (qarI (a 14) (d 9) 30 g5), (qarI (a 18) (d 11) 250 u0), (qarI (a 19) (d 12) 250 u1), (qJJJJJJ (a 22) 3 p0 p1 p2 p3 p4 p5), (qAII (a 23) 7 (a 24) tn td), (qA (a 6) 8 (a 7)), (qarI (a 7) (d 3) 9 fr), (qAAAAIJ (a 17) 5 (a 18) (a 19) (a 20) (a 21) sn st)] ++ (PW nP bP ++ [])) [((d 3), .int), ((d 10), .object "TowerAppeal$Pledge"), ((d 6), .boolean), ((d 8), .int), ((d 9), .int), ((d 11), .int), ((d 12), .int)] A s H locs := St
    refine lv_l2i (v := st.toInt32) hx hb dX10_count_106 rfl ?_
    have St : cS G k ([(qAAAAAAAAII h 10 (a 0) (a 2) (a 6) (a 8) (a 15) (a 17) (a 22) (a 23) cl sp), (qAI (a 0) 6 (a 1) nn), (qAI (a 15) 2 (a 16) bn), (qarQ (a 16) (d 10) 60 fa), (qAAAAAA (a 8) 0 (a 9) (a 10) (a 11) (a 12) (a 13) (a 14)), (qarI (a 11) (d 6) 30 g2), (qarI (a 13) (d 8) 30 g4), (qarI (a 14) (d 9) 30 g5), (qAAAAIJ (a 17) 5 (a 18) (a 19) (a 20) (a 21) sn st), (qarI (a 18) (d 11) 250 u0), (qarI (a 19) (d 12) 250 u1), (qJJJJJJ (a 22) 3 p0 p1 p2 p3 p4 p5), (qAII (a 23) 7 (a 24) tn td), (qA (a 6) 8 (a 7)), (qarI (a 7) (d 3) 9 fr)] ++ (PW nP bP ++ [])) [((d 3), .int), ((d 10), .object "TowerAppeal$Pledge"), ((d 6), .boolean), ((d 8), .int), ((d 9), .int), ((d 11), .int), ((d 12), .int)] A s _ _ := ct_pick St [0, 1, 2, 3, 4, 5, 6, 7, 14, 8, 9, 10, 11, 12, 13] rfl (by decide) [0, 1, 2, 3, 4, 5, 6] rfl
    exact cs_iret F hr hlk hQ St (g4, g5, bP) (r := st.toInt32) ⟨Or.inr ⟨by decide, ((l2i_i (by omega)).trans hst)⟩, hB⟩ (List.range _) (ix_all (w := ([(qAAAAAAAAII h 10 (a 0) (a 2) (a 6) (a 8) (a 15) (a 17) (a 22) (a 23) cl sp), (qAI (a 0) 6 (a 1) nn), (qAI (a 15) 2 (a 16) bn), (qarQ (a 16) (d 10) 60 fa), (qAAAAAA (a 8) 0 (a 9) (a 10) (a 11) (a 12) (a 13) (a 14)), (qarI (a 11) (d 6) 30 g2), (qarI (a 13) (d 8) 30 g4), (qarI (a 14) (d 9) 30 g5), (qAAAAIJ (a 17) 5 (a 18) (a 19) (a 20) (a 21) sn st), (qarI (a 18) (d 11) 250 u0), (qarI (a 19) (d 12) 250 u1), (qJJJJJJ (a 22) 3 p0 p1 p2 p3 p4 p5), (qAII (a 23) 7 (a 24) tn td), (qA (a 6) 8 (a 7)), (qarI (a 7) (d 3) 9 fr)] ++ (PW nP bP ++ [])))) nd_C [] rfl (by decide) (by decide) dX10_count_107
  by_cases w1_4 : x1 = 4
  ·
    subst w1_4
    refine lv_tableIn (tgt := 108) (off := 107) hx hb dX10_count_1 (by decide) (by decide) (by decide) (by decide) ?_
    refine lv_aload_n hx hb dX10_count_108 rfl (lv_at hl 0 rfl) ?_
    refine ct_get F St 0 rfl rfl inX10 6 (by decide) kf_X10_54 rfl dX10_count_109 ?_
    refine ct_l St [11] [0, 1, 2, 3, 4, 5, 6, 7, 8, 9, 10, 12, 13, 14] (wc := [(qJJJJJJ (a 22) 3 p0 p1 p2 p3 p4 p5)]) (wr := [(qAAAAAAAAII h 10 (a 0) (a 2) (a 6) (a 8) (a 15) (a 17) (a 22) (a 23) cl sp), (qAI (a 0) 6 (a 1) nn), (qAI (a 15) 2 (a 16) bn), (qarQ (a 16) (d 10) 60 fa), (qAAAAAA (a 8) 0 (a 9) (a 10) (a 11) (a 12) (a 13) (a 14)), (qarI (a 11) (d 6) 30 g2), (qarI (a 13) (d 8) 30 g4), (qarI (a 14) (d 9) 30 g5), (qAAAAIJ (a 17) 5 (a 18) (a 19) (a 20) (a 21) sn st), (qarI (a 18) (d 11) 250 u0), (qarI (a 19) (d 12) 250 u1), (qAII (a 23) 7 (a 24) tn td), (qA (a 6) 8 (a 7)), (qarI (a 7) (d 3) 9 fr)]) rfl rfl (by decide) (by decide) (va_runV (As := []) (rest := []) F (x3_matched l G k _ (a 22) p0 p1 p2 p3 p4 p5) (cwVt F mf_X3_matched km_X10_287 rfl rfl ⟨Nat.le_of_ble_eq_true rfl, Nat.le_of_ble_eq_true rfl⟩) (ct_preV St [11] rfl (by decide) [] rfl (ci := 3) (q0 := 11) rfl rfl) rfl rfl hl.1 rfl (lv_room (Nat.le_of_ble_eq_true rfl)) dX10_count_112 ⟨Nat.le_of_ble_eq_true rfl, Nat.le_of_ble_eq_true rfl⟩) (fun r_10 u_11 H locs hw St => ?_)
    try dsimp only at hw
    have z_12 := hw
    subst r_10
    have St : cS G k ([(qAAAAAAAAII h 10 (a 0) (a 2) (a 6) (a 8) (a 15) (a 17) (a 22) (a 23) cl sp), (qAI (a 0) 6 (a 1) nn), (qAI (a 15) 2 (a 16) bn), (qarQ (a 16) (d 10) 60 fa), (qAAAAAA (a 8) 0 (a 9) (a 10) (a 11) (a 12) (a 13) (a 14)), (qarI (a 11) (d 6) 30 g2), (qarI (a 13) (d 8) 30 g4), (qarI (a 14) (d 9) 30 g5), (qAAAAIJ (a 17) 5 (a 18) (a 19) (a 20) (a 21) sn st), (qarI (a 18) (d 11) 250 u0), (qarI (a 19) (d 12) 250 u1), (qAII (a 23) 7 (a 24) tn td), (qA (a 6) 8 (a 7)), (qarI (a 7) (d 3) 9 fr), (qJJJJJJ (a 22) 3 p0 p1 p2 p3 p4 p5)] ++ (PW nP bP ++ [])) [((d 3), .int), ((d 10), .object "TowerAppeal$Pledge"), ((d 6), .boolean), ((d 8), .int), ((d 9), .int), ((d 11), .int), ((d 12), .int)] A s H locs := St
    refine lv_l2i (v := p2.toInt32) hx hb dX10_count_115 rfl ?_
    have St : cS G k ([(qAAAAAAAAII h 10 (a 0) (a 2) (a 6) (a 8) (a 15) (a 17) (a 22) (a 23) cl sp), (qAI (a 0) 6 (a 1) nn), (qAI (a 15) 2 (a 16) bn), (qarQ (a 16) (d 10) 60 fa), (qAAAAAA (a 8) 0 (a 9) (a 10) (a 11) (a 12) (a 13) (a 14)), (qarI (a 11) (d 6) 30 g2), (qarI (a 13) (d 8) 30 g4), (qarI (a 14) (d 9) 30 g5), (qAAAAIJ (a 17) 5 (a 18) (a 19) (a 20) (a 21) sn st), (qarI (a 18) (d 11) 250 u0), (qarI (a 19) (d 12) 250 u1), (qJJJJJJ (a 22) 3 p0 p1 p2 p3 p4 p5), (qAII (a 23) 7 (a 24) tn td), (qA (a 6) 8 (a 7)), (qarI (a 7) (d 3) 9 fr)] ++ (PW nP bP ++ [])) [((d 3), .int), ((d 10), .object "TowerAppeal$Pledge"), ((d 6), .boolean), ((d 8), .int), ((d 9), .int), ((d 11), .int), ((d 12), .int)] A s _ _ := ct_pick St [0, 1, 2, 3, 4, 5, 6, 7, 8, 9, 10, 14, 11, 12, 13] rfl (by decide) [0, 1, 2, 3, 4, 5, 6] rfl
    exact cs_iret F hr hlk hQ St (g4, g5, bP) (r := p2.toInt32) ⟨Or.inr ⟨by decide, (l2i_i (by omega))⟩, hB⟩ (List.range _) (ix_all (w := ([(qAAAAAAAAII h 10 (a 0) (a 2) (a 6) (a 8) (a 15) (a 17) (a 22) (a 23) cl sp), (qAI (a 0) 6 (a 1) nn), (qAI (a 15) 2 (a 16) bn), (qarQ (a 16) (d 10) 60 fa), (qAAAAAA (a 8) 0 (a 9) (a 10) (a 11) (a 12) (a 13) (a 14)), (qarI (a 11) (d 6) 30 g2), (qarI (a 13) (d 8) 30 g4), (qarI (a 14) (d 9) 30 g5), (qAAAAIJ (a 17) 5 (a 18) (a 19) (a 20) (a 21) sn st), (qarI (a 18) (d 11) 250 u0), (qarI (a 19) (d 12) 250 u1), (qJJJJJJ (a 22) 3 p0 p1 p2 p3 p4 p5), (qAII (a 23) 7 (a 24) tn td), (qA (a 6) 8 (a 7)), (qarI (a 7) (d 3) 9 fr)] ++ (PW nP bP ++ [])))) nd_C [] rfl (by decide) (by decide) dX10_count_116
  by_cases w1_5 : x1 = 5
  ·
    subst w1_5
    refine lv_tableIn (tgt := 117) (off := 116) hx hb dX10_count_1 (by decide) (by decide) (by decide) (by decide) ?_
    refine lv_aload_n hx hb dX10_count_117 rfl (lv_at hl 0 rfl) ?_
    refine ct_get F St 0 rfl rfl inX10 6 (by decide) kf_X10_54 rfl dX10_count_118 ?_
    refine ct_l St [11] [0, 1, 2, 3, 4, 5, 6, 7, 8, 9, 10, 12, 13, 14] (wc := [(qJJJJJJ (a 22) 3 p0 p1 p2 p3 p4 p5)]) (wr := [(qAAAAAAAAII h 10 (a 0) (a 2) (a 6) (a 8) (a 15) (a 17) (a 22) (a 23) cl sp), (qAI (a 0) 6 (a 1) nn), (qAI (a 15) 2 (a 16) bn), (qarQ (a 16) (d 10) 60 fa), (qAAAAAA (a 8) 0 (a 9) (a 10) (a 11) (a 12) (a 13) (a 14)), (qarI (a 11) (d 6) 30 g2), (qarI (a 13) (d 8) 30 g4), (qarI (a 14) (d 9) 30 g5), (qAAAAIJ (a 17) 5 (a 18) (a 19) (a 20) (a 21) sn st), (qarI (a 18) (d 11) 250 u0), (qarI (a 19) (d 12) 250 u1), (qAII (a 23) 7 (a 24) tn td), (qA (a 6) 8 (a 7)), (qarI (a 7) (d 3) 9 fr)]) rfl rfl (by decide) (by decide) (va_runV (As := []) (rest := []) F (x3_tax l G k _ (a 22) p0 p1 p2 p3 p4 p5) (cwVt F mf_X3_tax km_X10_290 rfl rfl ⟨Nat.le_of_ble_eq_true rfl, Nat.le_of_ble_eq_true rfl⟩) (ct_preV St [11] rfl (by decide) [] rfl (ci := 3) (q0 := 11) rfl rfl) rfl rfl hl.1 rfl (lv_room (Nat.le_of_ble_eq_true rfl)) dX10_count_121 ⟨Nat.le_of_ble_eq_true rfl, Nat.le_of_ble_eq_true rfl⟩) (fun r_13 u_14 H locs hw St => ?_)
    try dsimp only at hw
    have z_15 := hw
    subst r_13
    have St : cS G k ([(qAAAAAAAAII h 10 (a 0) (a 2) (a 6) (a 8) (a 15) (a 17) (a 22) (a 23) cl sp), (qAI (a 0) 6 (a 1) nn), (qAI (a 15) 2 (a 16) bn), (qarQ (a 16) (d 10) 60 fa), (qAAAAAA (a 8) 0 (a 9) (a 10) (a 11) (a 12) (a 13) (a 14)), (qarI (a 11) (d 6) 30 g2), (qarI (a 13) (d 8) 30 g4), (qarI (a 14) (d 9) 30 g5), (qAAAAIJ (a 17) 5 (a 18) (a 19) (a 20) (a 21) sn st), (qarI (a 18) (d 11) 250 u0), (qarI (a 19) (d 12) 250 u1), (qAII (a 23) 7 (a 24) tn td), (qA (a 6) 8 (a 7)), (qarI (a 7) (d 3) 9 fr), (qJJJJJJ (a 22) 3 p0 p1 p2 p3 p4 p5)] ++ (PW nP bP ++ [])) [((d 3), .int), ((d 10), .object "TowerAppeal$Pledge"), ((d 6), .boolean), ((d 8), .int), ((d 9), .int), ((d 11), .int), ((d 12), .int)] A s H locs := St
    refine lv_l2i (v := p3.toInt32) hx hb dX10_count_124 rfl ?_
    have St : cS G k ([(qAAAAAAAAII h 10 (a 0) (a 2) (a 6) (a 8) (a 15) (a 17) (a 22) (a 23) cl sp), (qAI (a 0) 6 (a 1) nn), (qAI (a 15) 2 (a 16) bn), (qarQ (a 16) (d 10) 60 fa), (qAAAAAA (a 8) 0 (a 9) (a 10) (a 11) (a 12) (a 13) (a 14)), (qarI (a 11) (d 6) 30 g2), (qarI (a 13) (d 8) 30 g4), (qarI (a 14) (d 9) 30 g5), (qAAAAIJ (a 17) 5 (a 18) (a 19) (a 20) (a 21) sn st), (qarI (a 18) (d 11) 250 u0), (qarI (a 19) (d 12) 250 u1), (qJJJJJJ (a 22) 3 p0 p1 p2 p3 p4 p5), (qAII (a 23) 7 (a 24) tn td), (qA (a 6) 8 (a 7)), (qarI (a 7) (d 3) 9 fr)] ++ (PW nP bP ++ [])) [((d 3), .int), ((d 10), .object "TowerAppeal$Pledge"), ((d 6), .boolean), ((d 8), .int), ((d 9), .int), ((d 11), .int), ((d 12), .int)] A s _ _ := ct_pick St [0, 1, 2, 3, 4, 5, 6, 7, 8, 9, 10, 14, 11, 12, 13] rfl (by decide) [0, 1, 2, 3, 4, 5, 6] rfl
    exact cs_iret F hr hlk hQ St (g4, g5, bP) (r := p3.toInt32) ⟨Or.inr ⟨by decide, (l2i_i (by omega))⟩, hB⟩ (List.range _) (ix_all (w := ([(qAAAAAAAAII h 10 (a 0) (a 2) (a 6) (a 8) (a 15) (a 17) (a 22) (a 23) cl sp), (qAI (a 0) 6 (a 1) nn), (qAI (a 15) 2 (a 16) bn), (qarQ (a 16) (d 10) 60 fa), (qAAAAAA (a 8) 0 (a 9) (a 10) (a 11) (a 12) (a 13) (a 14)), (qarI (a 11) (d 6) 30 g2), (qarI (a 13) (d 8) 30 g4), (qarI (a 14) (d 9) 30 g5), (qAAAAIJ (a 17) 5 (a 18) (a 19) (a 20) (a 21) sn st), (qarI (a 18) (d 11) 250 u0), (qarI (a 19) (d 12) 250 u1), (qJJJJJJ (a 22) 3 p0 p1 p2 p3 p4 p5), (qAII (a 23) 7 (a 24) tn td), (qA (a 6) 8 (a 7)), (qarI (a 7) (d 3) 9 fr)] ++ (PW nP bP ++ [])))) nd_C [] rfl (by decide) (by decide) dX10_count_125
  by_cases w1_6 : x1 = 6
  ·
    subst w1_6
    refine lv_tableIn (tgt := 126) (off := 125) hx hb dX10_count_1 (by decide) (by decide) (by decide) (by decide) ?_
    refine lv_aload_n hx hb dX10_count_126 rfl (lv_at hl 0 rfl) ?_
    refine ct_get F St 0 rfl rfl inX10 6 (by decide) kf_X10_54 rfl dX10_count_127 ?_
    refine ct_l St [11] [0, 1, 2, 3, 4, 5, 6, 7, 8, 9, 10, 12, 13, 14] (wc := [(qJJJJJJ (a 22) 3 p0 p1 p2 p3 p4 p5)]) (wr := [(qAAAAAAAAII h 10 (a 0) (a 2) (a 6) (a 8) (a 15) (a 17) (a 22) (a 23) cl sp), (qAI (a 0) 6 (a 1) nn), (qAI (a 15) 2 (a 16) bn), (qarQ (a 16) (d 10) 60 fa), (qAAAAAA (a 8) 0 (a 9) (a 10) (a 11) (a 12) (a 13) (a 14)), (qarI (a 11) (d 6) 30 g2), (qarI (a 13) (d 8) 30 g4), (qarI (a 14) (d 9) 30 g5), (qAAAAIJ (a 17) 5 (a 18) (a 19) (a 20) (a 21) sn st), (qarI (a 18) (d 11) 250 u0), (qarI (a 19) (d 12) 250 u1), (qAII (a 23) 7 (a 24) tn td), (qA (a 6) 8 (a 7)), (qarI (a 7) (d 3) 9 fr)]) rfl rfl (by decide) (by decide) (va_runV (As := []) (rest := []) F (x3_paidForStages l G k _ (a 22) p0 p1 p2 p3 p4 p5) (cwVt F mf_X3_paidForStages km_X10_293 rfl rfl ⟨Nat.le_of_ble_eq_true rfl, Nat.le_of_ble_eq_true rfl⟩) (ct_preV St [11] rfl (by decide) [] rfl (ci := 3) (q0 := 11) rfl rfl) rfl rfl hl.1 rfl (lv_room (Nat.le_of_ble_eq_true rfl)) dX10_count_130 ⟨Nat.le_of_ble_eq_true rfl, Nat.le_of_ble_eq_true rfl⟩) (fun r_16 u_17 H locs hw St => ?_)
    try dsimp only at hw
    have z_18 := hw
    subst r_16
    have St : cS G k ([(qAAAAAAAAII h 10 (a 0) (a 2) (a 6) (a 8) (a 15) (a 17) (a 22) (a 23) cl sp), (qAI (a 0) 6 (a 1) nn), (qAI (a 15) 2 (a 16) bn), (qarQ (a 16) (d 10) 60 fa), (qAAAAAA (a 8) 0 (a 9) (a 10) (a 11) (a 12) (a 13) (a 14)), (qarI (a 11) (d 6) 30 g2), (qarI (a 13) (d 8) 30 g4), (qarI (a 14) (d 9) 30 g5), (qAAAAIJ (a 17) 5 (a 18) (a 19) (a 20) (a 21) sn st), (qarI (a 18) (d 11) 250 u0), (qarI (a 19) (d 12) 250 u1), (qAII (a 23) 7 (a 24) tn td), (qA (a 6) 8 (a 7)), (qarI (a 7) (d 3) 9 fr), (qJJJJJJ (a 22) 3 p0 p1 p2 p3 p4 p5)] ++ (PW nP bP ++ [])) [((d 3), .int), ((d 10), .object "TowerAppeal$Pledge"), ((d 6), .boolean), ((d 8), .int), ((d 9), .int), ((d 11), .int), ((d 12), .int)] A s H locs := St
    refine lv_l2i (v := p4.toInt32) hx hb dX10_count_133 rfl ?_
    have St : cS G k ([(qAAAAAAAAII h 10 (a 0) (a 2) (a 6) (a 8) (a 15) (a 17) (a 22) (a 23) cl sp), (qAI (a 0) 6 (a 1) nn), (qAI (a 15) 2 (a 16) bn), (qarQ (a 16) (d 10) 60 fa), (qAAAAAA (a 8) 0 (a 9) (a 10) (a 11) (a 12) (a 13) (a 14)), (qarI (a 11) (d 6) 30 g2), (qarI (a 13) (d 8) 30 g4), (qarI (a 14) (d 9) 30 g5), (qAAAAIJ (a 17) 5 (a 18) (a 19) (a 20) (a 21) sn st), (qarI (a 18) (d 11) 250 u0), (qarI (a 19) (d 12) 250 u1), (qJJJJJJ (a 22) 3 p0 p1 p2 p3 p4 p5), (qAII (a 23) 7 (a 24) tn td), (qA (a 6) 8 (a 7)), (qarI (a 7) (d 3) 9 fr)] ++ (PW nP bP ++ [])) [((d 3), .int), ((d 10), .object "TowerAppeal$Pledge"), ((d 6), .boolean), ((d 8), .int), ((d 9), .int), ((d 11), .int), ((d 12), .int)] A s _ _ := ct_pick St [0, 1, 2, 3, 4, 5, 6, 7, 8, 9, 10, 14, 11, 12, 13] rfl (by decide) [0, 1, 2, 3, 4, 5, 6] rfl
    exact cs_iret F hr hlk hQ St (g4, g5, bP) (r := p4.toInt32) ⟨Or.inr ⟨by decide, rfl⟩, hB⟩ (List.range _) (ix_all (w := ([(qAAAAAAAAII h 10 (a 0) (a 2) (a 6) (a 8) (a 15) (a 17) (a 22) (a 23) cl sp), (qAI (a 0) 6 (a 1) nn), (qAI (a 15) 2 (a 16) bn), (qarQ (a 16) (d 10) 60 fa), (qAAAAAA (a 8) 0 (a 9) (a 10) (a 11) (a 12) (a 13) (a 14)), (qarI (a 11) (d 6) 30 g2), (qarI (a 13) (d 8) 30 g4), (qarI (a 14) (d 9) 30 g5), (qAAAAIJ (a 17) 5 (a 18) (a 19) (a 20) (a 21) sn st), (qarI (a 18) (d 11) 250 u0), (qarI (a 19) (d 12) 250 u1), (qJJJJJJ (a 22) 3 p0 p1 p2 p3 p4 p5), (qAII (a 23) 7 (a 24) tn td), (qA (a 6) 8 (a 7)), (qarI (a 7) (d 3) 9 fr)] ++ (PW nP bP ++ [])))) nd_C [] rfl (by decide) (by decide) dX10_count_134
  by_cases w1_7 : x1 = 7
  ·
    subst w1_7
    refine lv_tableIn (tgt := 135) (off := 134) hx hb dX10_count_1 (by decide) (by decide) (by decide) (by decide) ?_
    refine lv_aload_n hx hb dX10_count_135 rfl (lv_at hl 0 rfl) ?_
    refine ct_get F St 0 rfl rfl inX10 6 (by decide) kf_X10_54 rfl dX10_count_136 ?_
    refine ct_l St [11] [0, 1, 2, 3, 4, 5, 6, 7, 8, 9, 10, 12, 13, 14] (wc := [(qJJJJJJ (a 22) 3 p0 p1 p2 p3 p4 p5)]) (wr := [(qAAAAAAAAII h 10 (a 0) (a 2) (a 6) (a 8) (a 15) (a 17) (a 22) (a 23) cl sp), (qAI (a 0) 6 (a 1) nn), (qAI (a 15) 2 (a 16) bn), (qarQ (a 16) (d 10) 60 fa), (qAAAAAA (a 8) 0 (a 9) (a 10) (a 11) (a 12) (a 13) (a 14)), (qarI (a 11) (d 6) 30 g2), (qarI (a 13) (d 8) 30 g4), (qarI (a 14) (d 9) 30 g5), (qAAAAIJ (a 17) 5 (a 18) (a 19) (a 20) (a 21) sn st), (qarI (a 18) (d 11) 250 u0), (qarI (a 19) (d 12) 250 u1), (qAII (a 23) 7 (a 24) tn td), (qA (a 6) 8 (a 7)), (qarI (a 7) (d 3) 9 fr)]) rfl rfl (by decide) (by decide) (va_runV (As := []) (rest := []) F (x3_grown l G k _ (a 22) p0 p1 p2 p3 p4 p5) (cwVt F mf_X3_grown km_X10_296 rfl rfl ⟨Nat.le_of_ble_eq_true rfl, Nat.le_of_ble_eq_true rfl⟩) (ct_preV St [11] rfl (by decide) [] rfl (ci := 3) (q0 := 11) rfl rfl) rfl rfl hl.1 rfl (lv_room (Nat.le_of_ble_eq_true rfl)) dX10_count_139 ⟨Nat.le_of_ble_eq_true rfl, Nat.le_of_ble_eq_true rfl⟩) (fun r_19 u_20 H locs hw St => ?_)
    try dsimp only at hw
    have z_21 := hw
    subst r_19
    have St : cS G k ([(qAAAAAAAAII h 10 (a 0) (a 2) (a 6) (a 8) (a 15) (a 17) (a 22) (a 23) cl sp), (qAI (a 0) 6 (a 1) nn), (qAI (a 15) 2 (a 16) bn), (qarQ (a 16) (d 10) 60 fa), (qAAAAAA (a 8) 0 (a 9) (a 10) (a 11) (a 12) (a 13) (a 14)), (qarI (a 11) (d 6) 30 g2), (qarI (a 13) (d 8) 30 g4), (qarI (a 14) (d 9) 30 g5), (qAAAAIJ (a 17) 5 (a 18) (a 19) (a 20) (a 21) sn st), (qarI (a 18) (d 11) 250 u0), (qarI (a 19) (d 12) 250 u1), (qAII (a 23) 7 (a 24) tn td), (qA (a 6) 8 (a 7)), (qarI (a 7) (d 3) 9 fr), (qJJJJJJ (a 22) 3 p0 p1 p2 p3 p4 p5)] ++ (PW nP bP ++ [])) [((d 3), .int), ((d 10), .object "TowerAppeal$Pledge"), ((d 6), .boolean), ((d 8), .int), ((d 9), .int), ((d 11), .int), ((d 12), .int)] A s H locs := St
    refine lv_l2i (v := p5.toInt32) hx hb dX10_count_142 rfl ?_
    have St : cS G k ([(qAAAAAAAAII h 10 (a 0) (a 2) (a 6) (a 8) (a 15) (a 17) (a 22) (a 23) cl sp), (qAI (a 0) 6 (a 1) nn), (qAI (a 15) 2 (a 16) bn), (qarQ (a 16) (d 10) 60 fa), (qAAAAAA (a 8) 0 (a 9) (a 10) (a 11) (a 12) (a 13) (a 14)), (qarI (a 11) (d 6) 30 g2), (qarI (a 13) (d 8) 30 g4), (qarI (a 14) (d 9) 30 g5), (qAAAAIJ (a 17) 5 (a 18) (a 19) (a 20) (a 21) sn st), (qarI (a 18) (d 11) 250 u0), (qarI (a 19) (d 12) 250 u1), (qJJJJJJ (a 22) 3 p0 p1 p2 p3 p4 p5), (qAII (a 23) 7 (a 24) tn td), (qA (a 6) 8 (a 7)), (qarI (a 7) (d 3) 9 fr)] ++ (PW nP bP ++ [])) [((d 3), .int), ((d 10), .object "TowerAppeal$Pledge"), ((d 6), .boolean), ((d 8), .int), ((d 9), .int), ((d 11), .int), ((d 12), .int)] A s _ _ := ct_pick St [0, 1, 2, 3, 4, 5, 6, 7, 8, 9, 10, 14, 11, 12, 13] rfl (by decide) [0, 1, 2, 3, 4, 5, 6] rfl
    exact cs_iret F hr hlk hQ St (g4, g5, bP) (r := p5.toInt32) ⟨Or.inr ⟨by decide, rfl⟩, hB⟩ (List.range _) (ix_all (w := ([(qAAAAAAAAII h 10 (a 0) (a 2) (a 6) (a 8) (a 15) (a 17) (a 22) (a 23) cl sp), (qAI (a 0) 6 (a 1) nn), (qAI (a 15) 2 (a 16) bn), (qarQ (a 16) (d 10) 60 fa), (qAAAAAA (a 8) 0 (a 9) (a 10) (a 11) (a 12) (a 13) (a 14)), (qarI (a 11) (d 6) 30 g2), (qarI (a 13) (d 8) 30 g4), (qarI (a 14) (d 9) 30 g5), (qAAAAIJ (a 17) 5 (a 18) (a 19) (a 20) (a 21) sn st), (qarI (a 18) (d 11) 250 u0), (qarI (a 19) (d 12) 250 u1), (qJJJJJJ (a 22) 3 p0 p1 p2 p3 p4 p5), (qAII (a 23) 7 (a 24) tn td), (qA (a 6) 8 (a 7)), (qarI (a 7) (d 3) 9 fr)] ++ (PW nP bP ++ [])))) nd_C [] rfl (by decide) (by decide) dX10_count_143
  by_cases w1_8 : x1 = 8
  ·
    subst w1_8
    refine lv_tableIn (tgt := 144) (off := 143) hx hb dX10_count_1 (by decide) (by decide) (by decide) (by decide) ?_
    refine lv_aload_n hx hb dX10_count_144 rfl (lv_at hl 0 rfl) ?_
    refine ct_get F St 0 rfl rfl inX10 4 (by decide) kf_X10_40 rfl dX10_count_145 ?_
    refine ct_i St [2] [0, 1, 3, 4, 5, 6, 7, 8, 9, 10, 11, 12, 13, 14] (wc := [(qAI (a 15) 2 (a 16) bn)]) (wr := [(qAAAAAAAAII h 10 (a 0) (a 2) (a 6) (a 8) (a 15) (a 17) (a 22) (a 23) cl sp), (qAI (a 0) 6 (a 1) nn), (qarQ (a 16) (d 10) 60 fa), (qAAAAAA (a 8) 0 (a 9) (a 10) (a 11) (a 12) (a 13) (a 14)), (qarI (a 11) (d 6) 30 g2), (qarI (a 13) (d 8) 30 g4), (qarI (a 14) (d 9) 30 g5), (qAAAAIJ (a 17) 5 (a 18) (a 19) (a 20) (a 21) sn st), (qarI (a 18) (d 11) 250 u0), (qarI (a 19) (d 12) 250 u1), (qJJJJJJ (a 22) 3 p0 p1 p2 p3 p4 p5), (qAII (a 23) 7 (a 24) tn td), (qA (a 6) 8 (a 7)), (qarI (a 7) (d 3) 9 fr)]) rfl rfl (by decide) (by decide) (va_runV (As := []) (rest := []) F (x2_size l G k _ (a 15) (a 16) bn) (cwVt F mf_X2_size km_X10_299 rfl rfl ⟨Nat.le_of_ble_eq_true rfl, Nat.le_of_ble_eq_true rfl⟩) (ct_preV St [2] rfl (by decide) [] rfl (ci := 2) (q0 := 2) rfl rfl) rfl rfl hl.1 rfl (lv_room (Nat.le_of_ble_eq_true rfl)) dX10_count_148 ⟨Nat.le_of_ble_eq_true rfl, Nat.le_of_ble_eq_true rfl⟩) (fun r_22 u_23 H locs hw St => ?_)
    try dsimp only at hw
    have z_24 := hw
    subst r_22
    have St : cS G k ([(qAAAAAAAAII h 10 (a 0) (a 2) (a 6) (a 8) (a 15) (a 17) (a 22) (a 23) cl sp), (qAI (a 0) 6 (a 1) nn), (qarQ (a 16) (d 10) 60 fa), (qAAAAAA (a 8) 0 (a 9) (a 10) (a 11) (a 12) (a 13) (a 14)), (qarI (a 11) (d 6) 30 g2), (qarI (a 13) (d 8) 30 g4), (qarI (a 14) (d 9) 30 g5), (qAAAAIJ (a 17) 5 (a 18) (a 19) (a 20) (a 21) sn st), (qarI (a 18) (d 11) 250 u0), (qarI (a 19) (d 12) 250 u1), (qJJJJJJ (a 22) 3 p0 p1 p2 p3 p4 p5), (qAII (a 23) 7 (a 24) tn td), (qA (a 6) 8 (a 7)), (qarI (a 7) (d 3) 9 fr), (qAI (a 15) 2 (a 16) bn)] ++ (PW nP bP ++ [])) [((d 3), .int), ((d 10), .object "TowerAppeal$Pledge"), ((d 6), .boolean), ((d 8), .int), ((d 9), .int), ((d 11), .int), ((d 12), .int)] A s H locs := St
    have St : cS G k ([(qAAAAAAAAII h 10 (a 0) (a 2) (a 6) (a 8) (a 15) (a 17) (a 22) (a 23) cl sp), (qAI (a 0) 6 (a 1) nn), (qAI (a 15) 2 (a 16) bn), (qarQ (a 16) (d 10) 60 fa), (qAAAAAA (a 8) 0 (a 9) (a 10) (a 11) (a 12) (a 13) (a 14)), (qarI (a 11) (d 6) 30 g2), (qarI (a 13) (d 8) 30 g4), (qarI (a 14) (d 9) 30 g5), (qAAAAIJ (a 17) 5 (a 18) (a 19) (a 20) (a 21) sn st), (qarI (a 18) (d 11) 250 u0), (qarI (a 19) (d 12) 250 u1), (qJJJJJJ (a 22) 3 p0 p1 p2 p3 p4 p5), (qAII (a 23) 7 (a 24) tn td), (qA (a 6) 8 (a 7)), (qarI (a 7) (d 3) 9 fr)] ++ (PW nP bP ++ [])) [((d 3), .int), ((d 10), .object "TowerAppeal$Pledge"), ((d 6), .boolean), ((d 8), .int), ((d 9), .int), ((d 11), .int), ((d 12), .int)] A s _ _ := ct_pick St [0, 1, 14, 2, 3, 4, 5, 6, 7, 8, 9, 10, 11, 12, 13] rfl (by decide) [0, 1, 2, 3, 4, 5, 6] rfl
    exact cs_iret F hr hlk hQ St (g4, g5, bP) (r := bn) ⟨Or.inr ⟨by decide, rfl⟩, hB⟩ (List.range _) (ix_all (w := ([(qAAAAAAAAII h 10 (a 0) (a 2) (a 6) (a 8) (a 15) (a 17) (a 22) (a 23) cl sp), (qAI (a 0) 6 (a 1) nn), (qAI (a 15) 2 (a 16) bn), (qarQ (a 16) (d 10) 60 fa), (qAAAAAA (a 8) 0 (a 9) (a 10) (a 11) (a 12) (a 13) (a 14)), (qarI (a 11) (d 6) 30 g2), (qarI (a 13) (d 8) 30 g4), (qarI (a 14) (d 9) 30 g5), (qAAAAIJ (a 17) 5 (a 18) (a 19) (a 20) (a 21) sn st), (qarI (a 18) (d 11) 250 u0), (qarI (a 19) (d 12) 250 u1), (qJJJJJJ (a 22) 3 p0 p1 p2 p3 p4 p5), (qAII (a 23) 7 (a 24) tn td), (qA (a 6) 8 (a 7)), (qarI (a 7) (d 3) 9 fr)] ++ (PW nP bP ++ [])))) nd_C [] rfl (by decide) (by decide) dX10_count_151
  by_cases w1_9 : x1 = 9
  ·
    subst w1_9
    refine lv_tableIn (tgt := 152) (off := 151) hx hb dX10_count_1 (by decide) (by decide) (by decide) (by decide) ?_
    refine lv_aload_n hx hb dX10_count_152 rfl (lv_at hl 0 rfl) ?_
    refine ct_get F St 0 rfl rfl inX10 4 (by decide) kf_X10_40 rfl dX10_count_153 ?_
    have St : cS G k (([(qAI (a 15) 2 (a 16) bn), (qarQ (a 16) (d 10) 60 fa)] ++ (PW nP bP ++ [])) ++ [(qAAAAAAAAII h 10 (a 0) (a 2) (a 6) (a 8) (a 15) (a 17) (a 22) (a 23) cl sp), (qAI (a 0) 6 (a 1) nn), (qAAAAAA (a 8) 0 (a 9) (a 10) (a 11) (a 12) (a 13) (a 14)), (qarI (a 11) (d 6) 30 g2), (qarI (a 13) (d 8) 30 g4), (qarI (a 14) (d 9) 30 g5), (qAAAAIJ (a 17) 5 (a 18) (a 19) (a 20) (a 21) sn st), (qarI (a 18) (d 11) 250 u0), (qarI (a 19) (d 12) 250 u1), (qJJJJJJ (a 22) 3 p0 p1 p2 p3 p4 p5), (qAII (a 23) 7 (a 24) tn td), (qA (a 6) 8 (a 7)), (qarI (a 7) (d 3) 9 fr)]) [((d 3), .int), ((d 10), .object "TowerAppeal$Pledge"), ((d 6), .boolean), ((d 8), .int), ((d 9), .int), ((d 11), .int), ((d 12), .int)] A s _ _ := sg_two (sg := [[(qAAAAAAAAII h 10 (a 0) (a 2) (a 6) (a 8) (a 15) (a 17) (a 22) (a 23) cl sp)], [(qAI (a 0) 6 (a 1) nn)], [(qAI (a 15) 2 (a 16) bn)], [(qarQ (a 16) (d 10) 60 fa)], [(qAAAAAA (a 8) 0 (a 9) (a 10) (a 11) (a 12) (a 13) (a 14))], [(qarI (a 11) (d 6) 30 g2)], [(qarI (a 13) (d 8) 30 g4)], [(qarI (a 14) (d 9) 30 g5)], [(qAAAAIJ (a 17) 5 (a 18) (a 19) (a 20) (a 21) sn st)], [(qarI (a 18) (d 11) 250 u0)], [(qarI (a 19) (d 12) 250 u1)], [(qJJJJJJ (a 22) 3 p0 p1 p2 p3 p4 p5)], [(qAII (a 23) 7 (a 24) tn td)], [(qA (a 6) 8 (a 7))], [(qarI (a 7) (d 3) 9 fr)], PW nP bP]) (s1 := [[(qAI (a 15) 2 (a 16) bn)], [(qarQ (a 16) (d 10) 60 fa)], PW nP bP]) (s2 := [[(qAAAAAAAAII h 10 (a 0) (a 2) (a 6) (a 8) (a 15) (a 17) (a 22) (a 23) cl sp)], [(qAI (a 0) 6 (a 1) nn)], [(qAAAAAA (a 8) 0 (a 9) (a 10) (a 11) (a 12) (a 13) (a 14))], [(qarI (a 11) (d 6) 30 g2)], [(qarI (a 13) (d 8) 30 g4)], [(qarI (a 14) (d 9) 30 g5)], [(qAAAAIJ (a 17) 5 (a 18) (a 19) (a 20) (a 21) sn st)], [(qarI (a 18) (d 11) 250 u0)], [(qarI (a 19) (d 12) 250 u1)], [(qJJJJJJ (a 22) 3 p0 p1 p2 p3 p4 p5)], [(qAII (a 23) 7 (a 24) tn td)], [(qA (a 6) 8 (a 7))], [(qarI (a 7) (d 3) 9 fr)]]) St 16 rfl [2, 3, 15, 0, 1, 4, 5, 6, 7, 8, 9, 10, 11, 12, 13, 14] rfl (by decide +kernel)
    refine cs_iT (wc := ([(qAI (a 15) 2 (a 16) bn), (qarQ (a 16) (d 10) 60 fa)] ++ (PW nP bP ++ []))) (wr := [(qAAAAAAAAII h 10 (a 0) (a 2) (a 6) (a 8) (a 15) (a 17) (a 22) (a 23) cl sp), (qAI (a 0) 6 (a 1) nn), (qAAAAAA (a 8) 0 (a 9) (a 10) (a 11) (a 12) (a 13) (a 14)), (qarI (a 11) (d 6) 30 g2), (qarI (a 13) (d 8) 30 g4), (qarI (a 14) (d 9) 30 g5), (qAAAAIJ (a 17) 5 (a 18) (a 19) (a 20) (a 21) sn st), (qarI (a 18) (d 11) 250 u0), (qarI (a 19) (d 12) 250 u1), (qJJJJJJ (a 22) 3 p0 p1 p2 p3 p4 p5), (qAII (a 23) 7 (a 24) tn td), (qA (a 6) 8 (a 7)), (qarI (a 7) (d 3) 9 fr)]) St (va_runV (As := []) (rest := []) F (e2_lapsedNow l G k _ (a 15) (a 16) (d 10) bn fa (d 3) nP bP cl.toInt tP (by first | assumption | omega) (by first | assumption | omega) hB hWT) (cwVt F mf_X2_lapsedNow km_X10_302 rfl rfl ⟨Nat.le_of_ble_eq_true rfl, Nat.le_of_ble_eq_true rfl⟩) (cs_preVT St [0, 1] rfl (ci := 2) (q0 := 0) rfl rfl) rfl rfl hl.1 rfl (lv_room (Nat.le_of_ble_eq_true rfl)) dX10_count_156 ⟨Nat.le_of_ble_eq_true rfl, Nat.le_of_ble_eq_true rfl⟩) (fun r_25 u_26 H locs hw St => ?_)
    obtain ⟨bP2_27, rfl⟩ : ∃ z, z = u_26 := ⟨_, rfl⟩
    try dsimp only at hw
    have St : cS G k ([(qAAAAAAAAII h 10 (a 0) (a 2) (a 6) (a 8) (a 15) (a 17) (a 22) (a 23) cl sp), (qAI (a 0) 6 (a 1) nn), (qAAAAAA (a 8) 0 (a 9) (a 10) (a 11) (a 12) (a 13) (a 14)), (qarI (a 11) (d 6) 30 g2), (qarI (a 13) (d 8) 30 g4), (qarI (a 14) (d 9) 30 g5), (qAAAAIJ (a 17) 5 (a 18) (a 19) (a 20) (a 21) sn st), (qarI (a 18) (d 11) 250 u0), (qarI (a 19) (d 12) 250 u1), (qJJJJJJ (a 22) 3 p0 p1 p2 p3 p4 p5), (qAII (a 23) 7 (a 24) tn td), (qA (a 6) 8 (a 7)), (qarI (a 7) (d 3) 9 fr), (qAI (a 15) 2 (a 16) bn), (qarQ (a 16) (d 10) 60 fa)] ++ (PW nP bP2_27 ++ [])) [((d 3), .int), ((d 10), .object "TowerAppeal$Pledge"), ((d 6), .boolean), ((d 8), .int), ((d 9), .int), ((d 11), .int), ((d 12), .int)] A s H locs := sg_join (s1 := [[(qAAAAAAAAII h 10 (a 0) (a 2) (a 6) (a 8) (a 15) (a 17) (a 22) (a 23) cl sp)], [(qAI (a 0) 6 (a 1) nn)], [(qAAAAAA (a 8) 0 (a 9) (a 10) (a 11) (a 12) (a 13) (a 14))], [(qarI (a 11) (d 6) 30 g2)], [(qarI (a 13) (d 8) 30 g4)], [(qarI (a 14) (d 9) 30 g5)], [(qAAAAIJ (a 17) 5 (a 18) (a 19) (a 20) (a 21) sn st)], [(qarI (a 18) (d 11) 250 u0)], [(qarI (a 19) (d 12) 250 u1)], [(qJJJJJJ (a 22) 3 p0 p1 p2 p3 p4 p5)], [(qAII (a 23) 7 (a 24) tn td)], [(qA (a 6) 8 (a 7))], [(qarI (a 7) (d 3) 9 fr)]]) (s2 := [[(qAI (a 15) 2 (a 16) bn)], [(qarQ (a 16) (d 10) 60 fa)], PW nP bP2_27]) (s3 := [[(qAAAAAAAAII h 10 (a 0) (a 2) (a 6) (a 8) (a 15) (a 17) (a 22) (a 23) cl sp)], [(qAI (a 0) 6 (a 1) nn)], [(qAAAAAA (a 8) 0 (a 9) (a 10) (a 11) (a 12) (a 13) (a 14))], [(qarI (a 11) (d 6) 30 g2)], [(qarI (a 13) (d 8) 30 g4)], [(qarI (a 14) (d 9) 30 g5)], [(qAAAAIJ (a 17) 5 (a 18) (a 19) (a 20) (a 21) sn st)], [(qarI (a 18) (d 11) 250 u0)], [(qarI (a 19) (d 12) 250 u1)], [(qJJJJJJ (a 22) 3 p0 p1 p2 p3 p4 p5)], [(qAII (a 23) 7 (a 24) tn td)], [(qA (a 6) 8 (a 7))], [(qarI (a 7) (d 3) 9 fr)], [(qAI (a 15) 2 (a 16) bn)], [(qarQ (a 16) (d 10) 60 fa)], PW nP bP2_27]) St 16 rfl [0, 1, 2, 3, 4, 5, 6, 7, 8, 9, 10, 11, 12, 13, 14, 15] rfl (by decide +kernel)
    obtain ⟨hr_28, hB2_29⟩ := hw
    have St : cS G k ([(qAAAAAAAAII h 10 (a 0) (a 2) (a 6) (a 8) (a 15) (a 17) (a 22) (a 23) cl sp), (qAI (a 0) 6 (a 1) nn), (qAAAAAA (a 8) 0 (a 9) (a 10) (a 11) (a 12) (a 13) (a 14)), (qarI (a 11) (d 6) 30 g2), (qarI (a 13) (d 8) 30 g4), (qarI (a 14) (d 9) 30 g5), (qAAAAIJ (a 17) 5 (a 18) (a 19) (a 20) (a 21) sn st), (qarI (a 18) (d 11) 250 u0), (qarI (a 19) (d 12) 250 u1), (qJJJJJJ (a 22) 3 p0 p1 p2 p3 p4 p5), (qAII (a 23) 7 (a 24) tn td), (qA (a 6) 8 (a 7)), (qarI (a 7) (d 3) 9 fr), (qAI (a 15) 2 (a 16) bn), (qarQ (a 16) (d 10) 60 fa)] ++ (PW nP bP2_27 ++ [])) [((d 3), .int), ((d 10), .object "TowerAppeal$Pledge"), ((d 6), .boolean), ((d 8), .int), ((d 9), .int), ((d 11), .int), ((d 12), .int)] A s H locs := St
    have St : cS G k ([(qAAAAAAAAII h 10 (a 0) (a 2) (a 6) (a 8) (a 15) (a 17) (a 22) (a 23) cl sp), (qAI (a 0) 6 (a 1) nn), (qAI (a 15) 2 (a 16) bn), (qarQ (a 16) (d 10) 60 fa), (qAAAAAA (a 8) 0 (a 9) (a 10) (a 11) (a 12) (a 13) (a 14)), (qarI (a 11) (d 6) 30 g2), (qarI (a 13) (d 8) 30 g4), (qarI (a 14) (d 9) 30 g5), (qAAAAIJ (a 17) 5 (a 18) (a 19) (a 20) (a 21) sn st), (qarI (a 18) (d 11) 250 u0), (qarI (a 19) (d 12) 250 u1), (qJJJJJJ (a 22) 3 p0 p1 p2 p3 p4 p5), (qAII (a 23) 7 (a 24) tn td), (qA (a 6) 8 (a 7)), (qarI (a 7) (d 3) 9 fr)] ++ (PW nP bP2_27 ++ [])) [((d 3), .int), ((d 10), .object "TowerAppeal$Pledge"), ((d 6), .boolean), ((d 8), .int), ((d 9), .int), ((d 11), .int), ((d 12), .int)] A s _ _ := ct_pick St [0, 1, 13, 14, 2, 3, 4, 5, 6, 7, 8, 9, 10, 11, 12] rfl (by decide) [0, 1, 2, 3, 4, 5, 6] rfl
    exact cs_iret F hr hlk hQ St (g4, g5, bP2_27) (r := r_25) ⟨Or.inr ⟨by decide, (show r_25.toInt = sm (fun i => lnT (tP i)) bn.toNatClampNeg by rw [show bn.toNatClampNeg = nP by have q9 := nc_int (x := bn) (by omega); omega]; exact hr_28)⟩, hB2_29⟩ (List.range _) (ix_all (w := ([(qAAAAAAAAII h 10 (a 0) (a 2) (a 6) (a 8) (a 15) (a 17) (a 22) (a 23) cl sp), (qAI (a 0) 6 (a 1) nn), (qAI (a 15) 2 (a 16) bn), (qarQ (a 16) (d 10) 60 fa), (qAAAAAA (a 8) 0 (a 9) (a 10) (a 11) (a 12) (a 13) (a 14)), (qarI (a 11) (d 6) 30 g2), (qarI (a 13) (d 8) 30 g4), (qarI (a 14) (d 9) 30 g5), (qAAAAIJ (a 17) 5 (a 18) (a 19) (a 20) (a 21) sn st), (qarI (a 18) (d 11) 250 u0), (qarI (a 19) (d 12) 250 u1), (qJJJJJJ (a 22) 3 p0 p1 p2 p3 p4 p5), (qAII (a 23) 7 (a 24) tn td), (qA (a 6) 8 (a 7)), (qarI (a 7) (d 3) 9 fr)] ++ (PW nP bP2_27 ++ [])))) nd_C [] rfl (by decide) (by decide) dX10_count_159
  by_cases w1_10 : x1 = 10
  ·
    subst w1_10
    refine lv_tableIn (tgt := 160) (off := 159) hx hb dX10_count_1 (by decide) (by decide) (by decide) (by decide) ?_
    refine lv_aload_n hx hb dX10_count_160 rfl (lv_at hl 0 rfl) ?_
    refine ct_get F St 0 rfl rfl inX10 7 (by decide) kf_X10_61 rfl dX10_count_161 ?_
    refine ct_i St [12] [0, 1, 2, 3, 4, 5, 6, 7, 8, 9, 10, 11, 13, 14] (wc := [(qAII (a 23) 7 (a 24) tn td)]) (wr := [(qAAAAAAAAII h 10 (a 0) (a 2) (a 6) (a 8) (a 15) (a 17) (a 22) (a 23) cl sp), (qAI (a 0) 6 (a 1) nn), (qAI (a 15) 2 (a 16) bn), (qarQ (a 16) (d 10) 60 fa), (qAAAAAA (a 8) 0 (a 9) (a 10) (a 11) (a 12) (a 13) (a 14)), (qarI (a 11) (d 6) 30 g2), (qarI (a 13) (d 8) 30 g4), (qarI (a 14) (d 9) 30 g5), (qAAAAIJ (a 17) 5 (a 18) (a 19) (a 20) (a 21) sn st), (qarI (a 18) (d 11) 250 u0), (qarI (a 19) (d 12) 250 u1), (qJJJJJJ (a 22) 3 p0 p1 p2 p3 p4 p5), (qA (a 6) 8 (a 7)), (qarI (a 7) (d 3) 9 fr)]) rfl rfl (by decide) (by decide) (va_runV (As := []) (rest := []) F (x7_size l G k _ (a 23) (a 24) tn td) (cwVt F mf_X7_size km_X10_305 rfl rfl ⟨Nat.le_of_ble_eq_true rfl, Nat.le_of_ble_eq_true rfl⟩) (ct_preV St [12] rfl (by decide) [] rfl (ci := 7) (q0 := 12) rfl rfl) rfl rfl hl.1 rfl (lv_room (Nat.le_of_ble_eq_true rfl)) dX10_count_164 ⟨Nat.le_of_ble_eq_true rfl, Nat.le_of_ble_eq_true rfl⟩) (fun r_30 u_31 H locs hw St => ?_)
    try dsimp only at hw
    have z_32 := hw
    subst r_30
    have St : cS G k ([(qAAAAAAAAII h 10 (a 0) (a 2) (a 6) (a 8) (a 15) (a 17) (a 22) (a 23) cl sp), (qAI (a 0) 6 (a 1) nn), (qAI (a 15) 2 (a 16) bn), (qarQ (a 16) (d 10) 60 fa), (qAAAAAA (a 8) 0 (a 9) (a 10) (a 11) (a 12) (a 13) (a 14)), (qarI (a 11) (d 6) 30 g2), (qarI (a 13) (d 8) 30 g4), (qarI (a 14) (d 9) 30 g5), (qAAAAIJ (a 17) 5 (a 18) (a 19) (a 20) (a 21) sn st), (qarI (a 18) (d 11) 250 u0), (qarI (a 19) (d 12) 250 u1), (qJJJJJJ (a 22) 3 p0 p1 p2 p3 p4 p5), (qA (a 6) 8 (a 7)), (qarI (a 7) (d 3) 9 fr), (qAII (a 23) 7 (a 24) tn td)] ++ (PW nP bP ++ [])) [((d 3), .int), ((d 10), .object "TowerAppeal$Pledge"), ((d 6), .boolean), ((d 8), .int), ((d 9), .int), ((d 11), .int), ((d 12), .int)] A s H locs := St
    have St : cS G k ([(qAAAAAAAAII h 10 (a 0) (a 2) (a 6) (a 8) (a 15) (a 17) (a 22) (a 23) cl sp), (qAI (a 0) 6 (a 1) nn), (qAI (a 15) 2 (a 16) bn), (qarQ (a 16) (d 10) 60 fa), (qAAAAAA (a 8) 0 (a 9) (a 10) (a 11) (a 12) (a 13) (a 14)), (qarI (a 11) (d 6) 30 g2), (qarI (a 13) (d 8) 30 g4), (qarI (a 14) (d 9) 30 g5), (qAAAAIJ (a 17) 5 (a 18) (a 19) (a 20) (a 21) sn st), (qarI (a 18) (d 11) 250 u0), (qarI (a 19) (d 12) 250 u1), (qJJJJJJ (a 22) 3 p0 p1 p2 p3 p4 p5), (qAII (a 23) 7 (a 24) tn td), (qA (a 6) 8 (a 7)), (qarI (a 7) (d 3) 9 fr)] ++ (PW nP bP ++ [])) [((d 3), .int), ((d 10), .object "TowerAppeal$Pledge"), ((d 6), .boolean), ((d 8), .int), ((d 9), .int), ((d 11), .int), ((d 12), .int)] A s _ _ := ct_pick St [0, 1, 2, 3, 4, 5, 6, 7, 8, 9, 10, 11, 14, 12, 13] rfl (by decide) [0, 1, 2, 3, 4, 5, 6] rfl
    exact cs_iret F hr hlk hQ St (g4, g5, bP) (r := tn) ⟨Or.inr ⟨by decide, rfl⟩, hB⟩ (List.range _) (ix_all (w := ([(qAAAAAAAAII h 10 (a 0) (a 2) (a 6) (a 8) (a 15) (a 17) (a 22) (a 23) cl sp), (qAI (a 0) 6 (a 1) nn), (qAI (a 15) 2 (a 16) bn), (qarQ (a 16) (d 10) 60 fa), (qAAAAAA (a 8) 0 (a 9) (a 10) (a 11) (a 12) (a 13) (a 14)), (qarI (a 11) (d 6) 30 g2), (qarI (a 13) (d 8) 30 g4), (qarI (a 14) (d 9) 30 g5), (qAAAAIJ (a 17) 5 (a 18) (a 19) (a 20) (a 21) sn st), (qarI (a 18) (d 11) 250 u0), (qarI (a 19) (d 12) 250 u1), (qJJJJJJ (a 22) 3 p0 p1 p2 p3 p4 p5), (qAII (a 23) 7 (a 24) tn td), (qA (a 6) 8 (a 7)), (qarI (a 7) (d 3) 9 fr)] ++ (PW nP bP ++ [])))) nd_C [] rfl (by decide) (by decide) dX10_count_167
  by_cases w1_11 : x1 = 11
  ·
    subst w1_11
    refine lv_tableIn (tgt := 168) (off := 167) hx hb dX10_count_1 (by decide) (by decide) (by decide) (by decide) ?_
    refine lv_aload_n hx hb dX10_count_168 rfl (lv_at hl 0 rfl) ?_
    refine ct_get F St 0 rfl rfl inX10 5 (by decide) kf_X10_47 rfl dX10_count_169 ?_
    refine ct_i St [8] [0, 1, 2, 3, 4, 5, 6, 7, 9, 10, 11, 12, 13, 14] (wc := [(qAAAAIJ (a 17) 5 (a 18) (a 19) (a 20) (a 21) sn st)]) (wr := [(qAAAAAAAAII h 10 (a 0) (a 2) (a 6) (a 8) (a 15) (a 17) (a 22) (a 23) cl sp), (qAI (a 0) 6 (a 1) nn), (qAI (a 15) 2 (a 16) bn), (qarQ (a 16) (d 10) 60 fa), (qAAAAAA (a 8) 0 (a 9) (a 10) (a 11) (a 12) (a 13) (a 14)), (qarI (a 11) (d 6) 30 g2), (qarI (a 13) (d 8) 30 g4), (qarI (a 14) (d 9) 30 g5), (qarI (a 18) (d 11) 250 u0), (qarI (a 19) (d 12) 250 u1), (qJJJJJJ (a 22) 3 p0 p1 p2 p3 p4 p5), (qAII (a 23) 7 (a 24) tn td), (qA (a 6) 8 (a 7)), (qarI (a 7) (d 3) 9 fr)]) rfl rfl (by decide) (by decide) (va_runV (As := []) (rest := []) F (x5_size l G k _ (a 17) (a 18) (a 19) (a 20) (a 21) sn st) (cwVt F mf_X5_size km_X10_306 rfl rfl ⟨Nat.le_of_ble_eq_true rfl, Nat.le_of_ble_eq_true rfl⟩) (ct_preV St [8] rfl (by decide) [] rfl (ci := 5) (q0 := 8) rfl rfl) rfl rfl hl.1 rfl (lv_room (Nat.le_of_ble_eq_true rfl)) dX10_count_172 ⟨Nat.le_of_ble_eq_true rfl, Nat.le_of_ble_eq_true rfl⟩) (fun r_33 u_34 H locs hw St => ?_)
    try dsimp only at hw
    have z_35 := hw
    subst r_33
    have St : cS G k ([(qAAAAAAAAII h 10 (a 0) (a 2) (a 6) (a 8) (a 15) (a 17) (a 22) (a 23) cl sp), (qAI (a 0) 6 (a 1) nn), (qAI (a 15) 2 (a 16) bn), (qarQ (a 16) (d 10) 60 fa), (qAAAAAA (a 8) 0 (a 9) (a 10) (a 11) (a 12) (a 13) (a 14)), (qarI (a 11) (d 6) 30 g2), (qarI (a 13) (d 8) 30 g4), (qarI (a 14) (d 9) 30 g5), (qarI (a 18) (d 11) 250 u0), (qarI (a 19) (d 12) 250 u1), (qJJJJJJ (a 22) 3 p0 p1 p2 p3 p4 p5), (qAII (a 23) 7 (a 24) tn td), (qA (a 6) 8 (a 7)), (qarI (a 7) (d 3) 9 fr), (qAAAAIJ (a 17) 5 (a 18) (a 19) (a 20) (a 21) sn st)] ++ (PW nP bP ++ [])) [((d 3), .int), ((d 10), .object "TowerAppeal$Pledge"), ((d 6), .boolean), ((d 8), .int), ((d 9), .int), ((d 11), .int), ((d 12), .int)] A s H locs := St
    have St : cS G k ([(qAAAAAAAAII h 10 (a 0) (a 2) (a 6) (a 8) (a 15) (a 17) (a 22) (a 23) cl sp), (qAI (a 0) 6 (a 1) nn), (qAI (a 15) 2 (a 16) bn), (qarQ (a 16) (d 10) 60 fa), (qAAAAAA (a 8) 0 (a 9) (a 10) (a 11) (a 12) (a 13) (a 14)), (qarI (a 11) (d 6) 30 g2), (qarI (a 13) (d 8) 30 g4), (qarI (a 14) (d 9) 30 g5), (qAAAAIJ (a 17) 5 (a 18) (a 19) (a 20) (a 21) sn st), (qarI (a 18) (d 11) 250 u0), (qarI (a 19) (d 12) 250 u1), (qJJJJJJ (a 22) 3 p0 p1 p2 p3 p4 p5), (qAII (a 23) 7 (a 24) tn td), (qA (a 6) 8 (a 7)), (qarI (a 7) (d 3) 9 fr)] ++ (PW nP bP ++ [])) [((d 3), .int), ((d 10), .object "TowerAppeal$Pledge"), ((d 6), .boolean), ((d 8), .int), ((d 9), .int), ((d 11), .int), ((d 12), .int)] A s _ _ := ct_pick St [0, 1, 2, 3, 4, 5, 6, 7, 14, 8, 9, 10, 11, 12, 13] rfl (by decide) [0, 1, 2, 3, 4, 5, 6] rfl
    exact cs_iret F hr hlk hQ St (g4, g5, bP) (r := sn) ⟨Or.inr ⟨by decide, rfl⟩, hB⟩ (List.range _) (ix_all (w := ([(qAAAAAAAAII h 10 (a 0) (a 2) (a 6) (a 8) (a 15) (a 17) (a 22) (a 23) cl sp), (qAI (a 0) 6 (a 1) nn), (qAI (a 15) 2 (a 16) bn), (qarQ (a 16) (d 10) 60 fa), (qAAAAAA (a 8) 0 (a 9) (a 10) (a 11) (a 12) (a 13) (a 14)), (qarI (a 11) (d 6) 30 g2), (qarI (a 13) (d 8) 30 g4), (qarI (a 14) (d 9) 30 g5), (qAAAAIJ (a 17) 5 (a 18) (a 19) (a 20) (a 21) sn st), (qarI (a 18) (d 11) 250 u0), (qarI (a 19) (d 12) 250 u1), (qJJJJJJ (a 22) 3 p0 p1 p2 p3 p4 p5), (qAII (a 23) 7 (a 24) tn td), (qA (a 6) 8 (a 7)), (qarI (a 7) (d 3) 9 fr)] ++ (PW nP bP ++ [])))) nd_C [] rfl (by decide) (by decide) dX10_count_175
  by_cases w1_12 : x1 = 12
  ·
    subst w1_12
    refine lv_tableIn (tgt := 176) (off := 175) hx hb dX10_count_1 (by decide) (by decide) (by decide) (by decide) ?_
    refine lv_aload_n hx hb dX10_count_176 rfl (lv_at hl 0 rfl) ?_
    refine ct_get F St 0 rfl rfl inX10 9 (by decide) kf_X10_106 rfl dX10_count_177 ?_
    refine lv_if_eq (tgt := 187) hx hb dX10_count_180 (by decide) (fun c180 => ?_) (fun c180 => ?_)
    ·
      have i180 := ci_eq (x := sp) (y := 0) rfl (show (0 : Int32).toInt = 0 by decide) c180
      refine lv_iconst (v := 0) hx hb dX10_count_187 (by decide) ?_
      have St : cS G k ([(qAAAAAAAAII h 10 (a 0) (a 2) (a 6) (a 8) (a 15) (a 17) (a 22) (a 23) cl sp), (qAI (a 0) 6 (a 1) nn), (qAI (a 15) 2 (a 16) bn), (qarQ (a 16) (d 10) 60 fa), (qAAAAAA (a 8) 0 (a 9) (a 10) (a 11) (a 12) (a 13) (a 14)), (qarI (a 11) (d 6) 30 g2), (qarI (a 13) (d 8) 30 g4), (qarI (a 14) (d 9) 30 g5), (qAAAAIJ (a 17) 5 (a 18) (a 19) (a 20) (a 21) sn st), (qarI (a 18) (d 11) 250 u0), (qarI (a 19) (d 12) 250 u1), (qJJJJJJ (a 22) 3 p0 p1 p2 p3 p4 p5), (qAII (a 23) 7 (a 24) tn td), (qA (a 6) 8 (a 7)), (qarI (a 7) (d 3) 9 fr)] ++ (PW nP bP ++ [])) [((d 3), .int), ((d 10), .object "TowerAppeal$Pledge"), ((d 6), .boolean), ((d 8), .int), ((d 9), .int), ((d 11), .int), ((d 12), .int)] A s _ _ := ct_pick St [0, 1, 2, 3, 4, 5, 6, 7, 8, 9, 10, 11, 12, 13, 14] rfl (by decide) [0, 1, 2, 3, 4, 5, 6] rfl
      exact cs_iret F hr hlk hQ St (g4, g5, bP) (r := 0) ⟨Or.inr ⟨by decide, (show (0 : Int32).toInt = sp.toInt by omega)⟩, hB⟩ (List.range _) (ix_all (w := ([(qAAAAAAAAII h 10 (a 0) (a 2) (a 6) (a 8) (a 15) (a 17) (a 22) (a 23) cl sp), (qAI (a 0) 6 (a 1) nn), (qAI (a 15) 2 (a 16) bn), (qarQ (a 16) (d 10) 60 fa), (qAAAAAA (a 8) 0 (a 9) (a 10) (a 11) (a 12) (a 13) (a 14)), (qarI (a 11) (d 6) 30 g2), (qarI (a 13) (d 8) 30 g4), (qarI (a 14) (d 9) 30 g5), (qAAAAIJ (a 17) 5 (a 18) (a 19) (a 20) (a 21) sn st), (qarI (a 18) (d 11) 250 u0), (qarI (a 19) (d 12) 250 u1), (qJJJJJJ (a 22) 3 p0 p1 p2 p3 p4 p5), (qAII (a 23) 7 (a 24) tn td), (qA (a 6) 8 (a 7)), (qarI (a 7) (d 3) 9 fr)] ++ (PW nP bP ++ [])))) nd_C [] rfl (by decide) (by decide) dX10_count_188
    ·
      have i180 := ci_ne (x := sp) (y := 0) rfl (show (0 : Int32).toInt = 0 by decide) c180
      refine lv_iconst (v := 1) hx hb dX10_count_183 (by decide) ?_
      refine lv_goto (tgt := 188) hx hb dX10_count_184 (by decide) ?_
      have St : cS G k ([(qAAAAAAAAII h 10 (a 0) (a 2) (a 6) (a 8) (a 15) (a 17) (a 22) (a 23) cl sp), (qAI (a 0) 6 (a 1) nn), (qAI (a 15) 2 (a 16) bn), (qarQ (a 16) (d 10) 60 fa), (qAAAAAA (a 8) 0 (a 9) (a 10) (a 11) (a 12) (a 13) (a 14)), (qarI (a 11) (d 6) 30 g2), (qarI (a 13) (d 8) 30 g4), (qarI (a 14) (d 9) 30 g5), (qAAAAIJ (a 17) 5 (a 18) (a 19) (a 20) (a 21) sn st), (qarI (a 18) (d 11) 250 u0), (qarI (a 19) (d 12) 250 u1), (qJJJJJJ (a 22) 3 p0 p1 p2 p3 p4 p5), (qAII (a 23) 7 (a 24) tn td), (qA (a 6) 8 (a 7)), (qarI (a 7) (d 3) 9 fr)] ++ (PW nP bP ++ [])) [((d 3), .int), ((d 10), .object "TowerAppeal$Pledge"), ((d 6), .boolean), ((d 8), .int), ((d 9), .int), ((d 11), .int), ((d 12), .int)] A s _ _ := ct_pick St [0, 1, 2, 3, 4, 5, 6, 7, 8, 9, 10, 11, 12, 13, 14] rfl (by decide) [0, 1, 2, 3, 4, 5, 6] rfl
      exact cs_iret F hr hlk hQ St (g4, g5, bP) (r := 1) ⟨Or.inr ⟨by decide, (show (1 : Int32).toInt = sp.toInt by omega)⟩, hB⟩ (List.range _) (ix_all (w := ([(qAAAAAAAAII h 10 (a 0) (a 2) (a 6) (a 8) (a 15) (a 17) (a 22) (a 23) cl sp), (qAI (a 0) 6 (a 1) nn), (qAI (a 15) 2 (a 16) bn), (qarQ (a 16) (d 10) 60 fa), (qAAAAAA (a 8) 0 (a 9) (a 10) (a 11) (a 12) (a 13) (a 14)), (qarI (a 11) (d 6) 30 g2), (qarI (a 13) (d 8) 30 g4), (qarI (a 14) (d 9) 30 g5), (qAAAAIJ (a 17) 5 (a 18) (a 19) (a 20) (a 21) sn st), (qarI (a 18) (d 11) 250 u0), (qarI (a 19) (d 12) 250 u1), (qJJJJJJ (a 22) 3 p0 p1 p2 p3 p4 p5), (qAII (a 23) 7 (a 24) tn td), (qA (a 6) 8 (a 7)), (qarI (a 7) (d 3) 9 fr)] ++ (PW nP bP ++ [])))) nd_C [] rfl (by decide) (by decide) dX10_count_188
  by_cases w1_13 : x1 = 13
  ·
    subst w1_13
    refine lv_tableIn (tgt := 189) (off := 188) hx hb dX10_count_1 (by decide) (by decide) (by decide) (by decide) ?_
    refine lv_aload_n hx hb dX10_count_189 rfl (lv_at hl 0 rfl) ?_
    refine ct_get F St 0 rfl rfl inX10 0 (by decide) kf_X10_10 rfl dX10_count_190 ?_
    refine ct_i St [1] [0, 2, 3, 4, 5, 6, 7, 8, 9, 10, 11, 12, 13, 14] (wc := [(qAI (a 0) 6 (a 1) nn)]) (wr := [(qAAAAAAAAII h 10 (a 0) (a 2) (a 6) (a 8) (a 15) (a 17) (a 22) (a 23) cl sp), (qAI (a 15) 2 (a 16) bn), (qarQ (a 16) (d 10) 60 fa), (qAAAAAA (a 8) 0 (a 9) (a 10) (a 11) (a 12) (a 13) (a 14)), (qarI (a 11) (d 6) 30 g2), (qarI (a 13) (d 8) 30 g4), (qarI (a 14) (d 9) 30 g5), (qAAAAIJ (a 17) 5 (a 18) (a 19) (a 20) (a 21) sn st), (qarI (a 18) (d 11) 250 u0), (qarI (a 19) (d 12) 250 u1), (qJJJJJJ (a 22) 3 p0 p1 p2 p3 p4 p5), (qAII (a 23) 7 (a 24) tn td), (qA (a 6) 8 (a 7)), (qarI (a 7) (d 3) 9 fr)]) rfl rfl (by decide) (by decide) (va_runV (As := []) (rest := []) F (x6_length l G k _ (a 0) (a 1) nn) (cwVt F mf_X6_length km_X10_73 rfl rfl ⟨Nat.le_of_ble_eq_true rfl, Nat.le_of_ble_eq_true rfl⟩) (ct_preV St [1] rfl (by decide) [] rfl (ci := 6) (q0 := 1) rfl rfl) rfl rfl hl.1 rfl (lv_room (Nat.le_of_ble_eq_true rfl)) dX10_count_193 ⟨Nat.le_of_ble_eq_true rfl, Nat.le_of_ble_eq_true rfl⟩) (fun r_36 u_37 H locs hw St => ?_)
    try dsimp only at hw
    have z_38 := hw
    subst r_36
    have St : cS G k ([(qAAAAAAAAII h 10 (a 0) (a 2) (a 6) (a 8) (a 15) (a 17) (a 22) (a 23) cl sp), (qAI (a 15) 2 (a 16) bn), (qarQ (a 16) (d 10) 60 fa), (qAAAAAA (a 8) 0 (a 9) (a 10) (a 11) (a 12) (a 13) (a 14)), (qarI (a 11) (d 6) 30 g2), (qarI (a 13) (d 8) 30 g4), (qarI (a 14) (d 9) 30 g5), (qAAAAIJ (a 17) 5 (a 18) (a 19) (a 20) (a 21) sn st), (qarI (a 18) (d 11) 250 u0), (qarI (a 19) (d 12) 250 u1), (qJJJJJJ (a 22) 3 p0 p1 p2 p3 p4 p5), (qAII (a 23) 7 (a 24) tn td), (qA (a 6) 8 (a 7)), (qarI (a 7) (d 3) 9 fr), (qAI (a 0) 6 (a 1) nn)] ++ (PW nP bP ++ [])) [((d 3), .int), ((d 10), .object "TowerAppeal$Pledge"), ((d 6), .boolean), ((d 8), .int), ((d 9), .int), ((d 11), .int), ((d 12), .int)] A s H locs := St
    have St : cS G k ([(qAAAAAAAAII h 10 (a 0) (a 2) (a 6) (a 8) (a 15) (a 17) (a 22) (a 23) cl sp), (qAI (a 0) 6 (a 1) nn), (qAI (a 15) 2 (a 16) bn), (qarQ (a 16) (d 10) 60 fa), (qAAAAAA (a 8) 0 (a 9) (a 10) (a 11) (a 12) (a 13) (a 14)), (qarI (a 11) (d 6) 30 g2), (qarI (a 13) (d 8) 30 g4), (qarI (a 14) (d 9) 30 g5), (qAAAAIJ (a 17) 5 (a 18) (a 19) (a 20) (a 21) sn st), (qarI (a 18) (d 11) 250 u0), (qarI (a 19) (d 12) 250 u1), (qJJJJJJ (a 22) 3 p0 p1 p2 p3 p4 p5), (qAII (a 23) 7 (a 24) tn td), (qA (a 6) 8 (a 7)), (qarI (a 7) (d 3) 9 fr)] ++ (PW nP bP ++ [])) [((d 3), .int), ((d 10), .object "TowerAppeal$Pledge"), ((d 6), .boolean), ((d 8), .int), ((d 9), .int), ((d 11), .int), ((d 12), .int)] A s _ _ := ct_pick St [0, 14, 1, 2, 3, 4, 5, 6, 7, 8, 9, 10, 11, 12, 13] rfl (by decide) [0, 1, 2, 3, 4, 5, 6] rfl
    exact cs_iret F hr hlk hQ St (g4, g5, bP) (r := nn) ⟨Or.inr ⟨by decide, rfl⟩, hB⟩ (List.range _) (ix_all (w := ([(qAAAAAAAAII h 10 (a 0) (a 2) (a 6) (a 8) (a 15) (a 17) (a 22) (a 23) cl sp), (qAI (a 0) 6 (a 1) nn), (qAI (a 15) 2 (a 16) bn), (qarQ (a 16) (d 10) 60 fa), (qAAAAAA (a 8) 0 (a 9) (a 10) (a 11) (a 12) (a 13) (a 14)), (qarI (a 11) (d 6) 30 g2), (qarI (a 13) (d 8) 30 g4), (qarI (a 14) (d 9) 30 g5), (qAAAAIJ (a 17) 5 (a 18) (a 19) (a 20) (a 21) sn st), (qarI (a 18) (d 11) 250 u0), (qarI (a 19) (d 12) 250 u1), (qJJJJJJ (a 22) 3 p0 p1 p2 p3 p4 p5), (qAII (a 23) 7 (a 24) tn td), (qA (a 6) 8 (a 7)), (qarI (a 7) (d 3) 9 fr)] ++ (PW nP bP ++ [])))) nd_C [] rfl (by decide) (by decide) dX10_count_196
  by_cases w1_14 : x1 = 14
  ·
    subst w1_14
    refine lv_tableIn (tgt := 197) (off := 196) hx hb dX10_count_1 (by decide) (by decide) (by decide) (by decide) ?_
    refine lv_aload_n hx hb dX10_count_197 rfl (lv_at hl 0 rfl) ?_
    refine ct_get F St 0 rfl rfl inX10 3 (by decide) kf_X10_33 rfl dX10_count_198 ?_
    refine lv_aload_n hx hb dX10_count_201 rfl (lv_at hl 0 rfl) ?_
    refine ct_get F St 0 rfl rfl inX10 5 (by decide) kf_X10_47 rfl dX10_count_202 ?_
    refine lv_aload_n hx hb dX10_count_205 rfl (lv_at hl 0 rfl) ?_
    refine ct_get F St 0 rfl rfl inX10 2 (by decide) kf_X10_26 rfl dX10_count_206 ?_
    refine ct_i St [13, 14] [0, 1, 2, 3, 4, 5, 6, 7, 8, 9, 10, 11, 12] (wc := [(qA (a 6) 8 (a 7)), (qarI (a 7) (d 3) 9 fr)]) (wr := [(qAAAAAAAAII h 10 (a 0) (a 2) (a 6) (a 8) (a 15) (a 17) (a 22) (a 23) cl sp), (qAI (a 0) 6 (a 1) nn), (qAI (a 15) 2 (a 16) bn), (qarQ (a 16) (d 10) 60 fa), (qAAAAAA (a 8) 0 (a 9) (a 10) (a 11) (a 12) (a 13) (a 14)), (qarI (a 11) (d 6) 30 g2), (qarI (a 13) (d 8) 30 g4), (qarI (a 14) (d 9) 30 g5), (qAAAAIJ (a 17) 5 (a 18) (a 19) (a 20) (a 21) sn st), (qarI (a 18) (d 11) 250 u0), (qarI (a 19) (d 12) 250 u1), (qJJJJJJ (a 22) 3 p0 p1 p2 p3 p4 p5), (qAII (a 23) 7 (a 24) tn td)]) rfl rfl (by decide) (by decide) (va_runV (As := []) (rest := [.ref (a 17), .ref (a 8)]) F (e8_stonePence l G k _ (a 6) (a 7) (d 3) fr) (cwVt F mf_X8_stonePence km_X10_254 rfl rfl ⟨Nat.le_of_ble_eq_true rfl, Nat.le_of_ble_eq_true rfl⟩) (ct_preV St [13, 14] rfl (by decide) [0] rfl (ci := 8) (q0 := 13) rfl rfl) rfl rfl hl.1 rfl (lv_room (Nat.le_of_ble_eq_true rfl)) dX10_count_209 ⟨Nat.le_of_ble_eq_true rfl, Nat.le_of_ble_eq_true rfl⟩) (fun r_39 u_40 H locs hw St => ?_)
    try dsimp only at hw
    have hr_41 := hw
    have St : cS G k ([(qAAAAAAAAII h 10 (a 0) (a 2) (a 6) (a 8) (a 15) (a 17) (a 22) (a 23) cl sp), (qAI (a 0) 6 (a 1) nn), (qAI (a 15) 2 (a 16) bn), (qarQ (a 16) (d 10) 60 fa), (qAAAAAA (a 8) 0 (a 9) (a 10) (a 11) (a 12) (a 13) (a 14)), (qarI (a 11) (d 6) 30 g2), (qarI (a 13) (d 8) 30 g4), (qarI (a 14) (d 9) 30 g5), (qAAAAIJ (a 17) 5 (a 18) (a 19) (a 20) (a 21) sn st), (qarI (a 18) (d 11) 250 u0), (qarI (a 19) (d 12) 250 u1), (qJJJJJJ (a 22) 3 p0 p1 p2 p3 p4 p5), (qAII (a 23) 7 (a 24) tn td), (qA (a 6) 8 (a 7)), (qarI (a 7) (d 3) 9 fr)] ++ (PW nP bP ++ [])) [((d 3), .int), ((d 10), .object "TowerAppeal$Pledge"), ((d 6), .boolean), ((d 8), .int), ((d 9), .int), ((d 11), .int), ((d 12), .int)] A s H locs := St
    have hF7 := hF.2.2.2.2.2.2.2
    have gsp : r_39.toInt = (100 * (fr (7 : Int32).toNatClampNeg).toInt) := by have q9 := ci_mul (x := fr (7 : Int32).toNatClampNeg) (y := 100) rfl (show (100 : Int32).toInt = 100 by decide) hr_41; omega
    refine ct_i St [4, 5, 6, 7, 8, 9, 10] [0, 1, 2, 3, 11, 12, 13, 14] (wc := [(qAAAAAA (a 8) 0 (a 9) (a 10) (a 11) (a 12) (a 13) (a 14)), (qarI (a 11) (d 6) 30 g2), (qarI (a 13) (d 8) 30 g4), (qarI (a 14) (d 9) 30 g5), (qAAAAIJ (a 17) 5 (a 18) (a 19) (a 20) (a 21) sn st), (qarI (a 18) (d 11) 250 u0), (qarI (a 19) (d 12) 250 u1)]) (wr := [(qAAAAAAAAII h 10 (a 0) (a 2) (a 6) (a 8) (a 15) (a 17) (a 22) (a 23) cl sp), (qAI (a 0) 6 (a 1) nn), (qAI (a 15) 2 (a 16) bn), (qarQ (a 16) (d 10) 60 fa), (qJJJJJJ (a 22) 3 p0 p1 p2 p3 p4 p5), (qAII (a 23) 7 (a 24) tn td), (qA (a 6) 8 (a 7)), (qarI (a 7) (d 3) 9 fr)]) rfl rfl (by decide) (by decide) (va_runV (As := [.ref (a 17), .int r_39]) (rest := []) F (e0_orderStones l G k _ (a 8) (a 9) (a 10) (a 11) (a 12) (a 13) (a 14) (d 6) (d 8) (d 9) g2 g4 g5 (a 17) (a 18) (a 19) (a 20) (a 21) sn st (d 11) (d 12) u0 u1 r_39 hSg hSp) (cwVt F mf_X0_orderStones km_X10_257 rfl rfl ⟨Nat.le_of_ble_eq_true rfl, Nat.le_of_ble_eq_true rfl⟩) (ct_preV St [4, 5, 6, 7, 8, 9, 10] rfl (by decide) [2, 3, 4, 5, 6] rfl (ci := 0) (q0 := 4) rfl rfl) rfl rfl hl.1 rfl (lv_room (Nat.le_of_ble_eq_true rfl)) dX10_count_212 ⟨Nat.le_of_ble_eq_true rfl, Nat.le_of_ble_eq_true rfl⟩) (fun r_42 u_43 H locs hw St => ?_)
    obtain ⟨z4_44, z5_45⟩ := u_43
    try dsimp only at hw
    obtain ⟨hr_46, hr30_47⟩ := hw
    have St : cS G k ([(qAAAAAAAAII h 10 (a 0) (a 2) (a 6) (a 8) (a 15) (a 17) (a 22) (a 23) cl sp), (qAI (a 0) 6 (a 1) nn), (qAI (a 15) 2 (a 16) bn), (qarQ (a 16) (d 10) 60 fa), (qJJJJJJ (a 22) 3 p0 p1 p2 p3 p4 p5), (qAII (a 23) 7 (a 24) tn td), (qA (a 6) 8 (a 7)), (qarI (a 7) (d 3) 9 fr), (qAAAAAA (a 8) 0 (a 9) (a 10) (a 11) (a 12) (a 13) (a 14)), (qarI (a 11) (d 6) 30 g2), (qarI (a 13) (d 8) 30 z4_44), (qarI (a 14) (d 9) 30 z5_45), (qAAAAIJ (a 17) 5 (a 18) (a 19) (a 20) (a 21) sn st), (qarI (a 18) (d 11) 250 u0), (qarI (a 19) (d 12) 250 u1)] ++ (PW nP bP ++ [])) [((d 3), .int), ((d 10), .object "TowerAppeal$Pledge"), ((d 6), .boolean), ((d 8), .int), ((d 9), .int), ((d 11), .int), ((d 12), .int)] A s H locs := St
    have hR := hr_46
    rw [gsp] at hR
    have St : cS G k ([(qAAAAAAAAII h 10 (a 0) (a 2) (a 6) (a 8) (a 15) (a 17) (a 22) (a 23) cl sp), (qAI (a 0) 6 (a 1) nn), (qAI (a 15) 2 (a 16) bn), (qarQ (a 16) (d 10) 60 fa), (qAAAAAA (a 8) 0 (a 9) (a 10) (a 11) (a 12) (a 13) (a 14)), (qarI (a 11) (d 6) 30 g2), (qarI (a 13) (d 8) 30 z4_44), (qarI (a 14) (d 9) 30 z5_45), (qAAAAIJ (a 17) 5 (a 18) (a 19) (a 20) (a 21) sn st), (qarI (a 18) (d 11) 250 u0), (qarI (a 19) (d 12) 250 u1), (qJJJJJJ (a 22) 3 p0 p1 p2 p3 p4 p5), (qAII (a 23) 7 (a 24) tn td), (qA (a 6) 8 (a 7)), (qarI (a 7) (d 3) 9 fr)] ++ (PW nP bP ++ [])) [((d 3), .int), ((d 10), .object "TowerAppeal$Pledge"), ((d 6), .boolean), ((d 8), .int), ((d 9), .int), ((d 11), .int), ((d 12), .int)] A s _ _ := ct_pick St [0, 1, 2, 3, 8, 9, 10, 11, 12, 13, 14, 4, 5, 6, 7] rfl (by decide) [0, 1, 2, 3, 4, 5, 6] rfl
    exact cs_iret F hr hlk hQ St (z4_44, z5_45, bP) (r := r_42) ⟨Or.inr ⟨by decide, hR.1⟩, hB⟩ (List.range _) (ix_all (w := ([(qAAAAAAAAII h 10 (a 0) (a 2) (a 6) (a 8) (a 15) (a 17) (a 22) (a 23) cl sp), (qAI (a 0) 6 (a 1) nn), (qAI (a 15) 2 (a 16) bn), (qarQ (a 16) (d 10) 60 fa), (qAAAAAA (a 8) 0 (a 9) (a 10) (a 11) (a 12) (a 13) (a 14)), (qarI (a 11) (d 6) 30 g2), (qarI (a 13) (d 8) 30 z4_44), (qarI (a 14) (d 9) 30 z5_45), (qAAAAIJ (a 17) 5 (a 18) (a 19) (a 20) (a 21) sn st), (qarI (a 18) (d 11) 250 u0), (qarI (a 19) (d 12) 250 u1), (qJJJJJJ (a 22) 3 p0 p1 p2 p3 p4 p5), (qAII (a 23) 7 (a 24) tn td), (qA (a 6) 8 (a 7)), (qarI (a 7) (d 3) 9 fr)] ++ (PW nP bP ++ [])))) nd_C [] rfl (by decide) (by decide) dX10_count_215
  have iw1_0 := lv_neT w1_0 (show (0 : Int32).toInt = 0 by decide)
  have iw1_1 := lv_neT w1_1 (show (1 : Int32).toInt = 1 by decide)
  have iw1_2 := lv_neT w1_2 (show (2 : Int32).toInt = 2 by decide)
  have iw1_3 := lv_neT w1_3 (show (3 : Int32).toInt = 3 by decide)
  have iw1_4 := lv_neT w1_4 (show (4 : Int32).toInt = 4 by decide)
  have iw1_5 := lv_neT w1_5 (show (5 : Int32).toInt = 5 by decide)
  have iw1_6 := lv_neT w1_6 (show (6 : Int32).toInt = 6 by decide)
  have iw1_7 := lv_neT w1_7 (show (7 : Int32).toInt = 7 by decide)
  have iw1_8 := lv_neT w1_8 (show (8 : Int32).toInt = 8 by decide)
  have iw1_9 := lv_neT w1_9 (show (9 : Int32).toInt = 9 by decide)
  have iw1_10 := lv_neT w1_10 (show (10 : Int32).toInt = 10 by decide)
  have iw1_11 := lv_neT w1_11 (show (11 : Int32).toInt = 11 by decide)
  have iw1_12 := lv_neT w1_12 (show (12 : Int32).toInt = 12 by decide)
  have iw1_13 := lv_neT w1_13 (show (13 : Int32).toInt = 13 by decide)
  have iw1_14 := lv_neT w1_14 (show (14 : Int32).toInt = 14 by decide)
  refine lv_tableOut (tgt := 216) hx hb dX10_count_1 (by omega) (by decide) ?_
  refine lv_iconst (v := (-1)) hx hb dX10_count_216 (by decide) ?_
  have St : cS G k ([(qAAAAAAAAII h 10 (a 0) (a 2) (a 6) (a 8) (a 15) (a 17) (a 22) (a 23) cl sp), (qAI (a 0) 6 (a 1) nn), (qAI (a 15) 2 (a 16) bn), (qarQ (a 16) (d 10) 60 fa), (qAAAAAA (a 8) 0 (a 9) (a 10) (a 11) (a 12) (a 13) (a 14)), (qarI (a 11) (d 6) 30 g2), (qarI (a 13) (d 8) 30 g4), (qarI (a 14) (d 9) 30 g5), (qAAAAIJ (a 17) 5 (a 18) (a 19) (a 20) (a 21) sn st), (qarI (a 18) (d 11) 250 u0), (qarI (a 19) (d 12) 250 u1), (qJJJJJJ (a 22) 3 p0 p1 p2 p3 p4 p5), (qAII (a 23) 7 (a 24) tn td), (qA (a 6) 8 (a 7)), (qarI (a 7) (d 3) 9 fr)] ++ (PW nP bP ++ [])) [((d 3), .int), ((d 10), .object "TowerAppeal$Pledge"), ((d 6), .boolean), ((d 8), .int), ((d 9), .int), ((d 11), .int), ((d 12), .int)] A s _ _ := ct_pick St [0, 1, 2, 3, 4, 5, 6, 7, 8, 9, 10, 11, 12, 13, 14] rfl (by decide) [0, 1, 2, 3, 4, 5, 6] rfl
  exact cs_iret F hr hlk hQ St (g4, g5, bP) (r := (-1)) ⟨Or.inl ⟨by omega, rfl⟩, hB⟩ (List.range _) (ix_all (w := ([(qAAAAAAAAII h 10 (a 0) (a 2) (a 6) (a 8) (a 15) (a 17) (a 22) (a 23) cl sp), (qAI (a 0) 6 (a 1) nn), (qAI (a 15) 2 (a 16) bn), (qarQ (a 16) (d 10) 60 fa), (qAAAAAA (a 8) 0 (a 9) (a 10) (a 11) (a 12) (a 13) (a 14)), (qarI (a 11) (d 6) 30 g2), (qarI (a 13) (d 8) 30 g4), (qarI (a 14) (d 9) 30 g5), (qAAAAIJ (a 17) 5 (a 18) (a 19) (a 20) (a 21) sn st), (qarI (a 18) (d 11) 250 u0), (qarI (a 19) (d 12) 250 u1), (qJJJJJJ (a 22) 3 p0 p1 p2 p3 p4 p5), (qAII (a 23) 7 (a 24) tn td), (qA (a 6) 8 (a 7)), (qarI (a 7) (d 3) 9 fr)] ++ (PW nP bP ++ [])))) nd_C [] rfl (by decide) (by decide) dX10_count_217

