set_option maxHeartbeats 4000000 in
set_option maxRecDepth 100000 in
theorem e5_claimTax (l : Launch) (G : va_G) (k : Nat → Nat) (sz : Nat) (h : Nat) (b0 : Nat) (b1 : Nat) (b2 : Nat) (b3 : Nat) (b4 : Nat) (b5 : Nat) (e0 : ClassId) (e1 : ClassId) (f0 : Nat → Int32) (f1 : Nat → Int32) (zs : Nat) (s0 : Nat) (s1 : Nat) (s2 : Nat) (s3 : Nat) (sn : Int32) (st : Int64) (sc0 : ClassId) (sc1 : ClassId) (sc2 : ClassId) (sc3 : ClassId) (l0 : Nat → Int32) (l1 : Nat → Int32) (l2 : Nat → Int32) (l3 : Nat → Int32) (x : Int32) (hSg : mGi sn l0) (hSp : mSp sn l1) (hxx : 0 ≤ x.toInt ∧ x.toInt ≤ 50) : Met l yX5_claimTax (Cond.code yX5_claimTax cX5_claimTax 6 (some .int) :: tb) ({ frames := 2, cells := 0, slots := 0, locals := 42 } : Room) (va_Pc [.ref zs, .int x, .ref h] (cP G k [(qAAAAIJ zs 5 s0 s1 s2 s3 sn st), (qarI s0 sc0 250 l0), (qarI s1 sc1 250 l1), (qarI s2 sc2 250 l2), (qarI s3 sc3 250 l3), (qAAAAAA h 0 b0 b1 b2 b3 b4 b5), (qarI b0 e0 30 f0), (qarI b1 e1 30 f1)] [(sc0, .int), (sc1, .int), (sc2, .int), (sc3, .boolean), (e0, .int), (e1, .int)] sz)) (va_Qi (fun (r : Int32) (z3 : (Nat → Int32)) => (r.toInt = txV x.toInt sn.toNatClampNeg l0 l1 l2 l3 f0 f1) ∧ (z3 = txR x.toInt sn.toNatClampNeg l0 l2 l3 f0 f1)) (cB G (fun (z3 : (Nat → Int32)) => [(qAAAAIJ zs 5 s0 s1 s2 s3 sn st), (qarI s0 sc0 250 l0), (qarI s1 sc1 250 l1), (qarI s2 sc2 250 l2), (qarI s3 sc3 250 z3), (qAAAAAA h 0 b0 b1 b2 b3 b4 b5), (qarI b0 e0 30 f0), (qarI b1 e1 30 f1)]) (fun (z3 : (Nat → Int32)) => []) (va_A [(qAAAAIJ zs 5 s0 s1 s2 s3 sn st), (qarI s0 sc0 250 l0), (qarI s1 sc1 250 l1), (qarI s2 sc2 250 l2), (qarI s3 sc3 250 l3), (qAAAAAA h 0 b0 b1 b2 b3 b4 b5), (qarI b0 e0 30 f0), (qarI b1 e1 30 f1)] sz)) (va_A [(qAAAAIJ zs 5 s0 s1 s2 s3 sn st), (qarI s0 sc0 250 l0), (qarI s1 sc1 250 l1), (qarI s2 sc2 250 l2), (qarI s3 sc3 250 l3), (qAAAAAA h 0 b0 b1 b2 b3 b4 b5), (qarI b0 e0 30 f0), (qarI b1 e1 30 f1)] sz)) 0 0 (va_A [(qAAAAIJ zs 5 s0 s1 s2 s3 sn st), (qarI s0 sc0 250 l0), (qarI s1 sc1 250 l1), (qarI s2 sc2 250 l2), (qarI s3 sc3 250 l3), (qAAAAAA h 0 b0 b1 b2 b3 b4 b5), (qarI b0 e0 30 f0), (qarI b1 e1 30 f1)] sz) := by
  refine ofC_i (cc := cX5_claimTax) (maxL := 6) (ret := (some .int)) (by decide) rfl (Nat.le_of_ble_eq_true rfl) ?_
  intro p e s m args below meth c A ls Q F hr hin hlk St hl hQ
  have hx := F.1
  have hb := F.2.1
  have hl : lv_has ls 6 [(0, .ref zs), (1, .int x), (2, .ref h)] := hl
  have St : cS G k [(qAAAAIJ zs 5 s0 s1 s2 s3 sn st), (qarI s0 sc0 250 l0), (qarI s1 sc1 250 l1), (qarI s2 sc2 250 l2), (qarI s3 sc3 250 l3), (qAAAAAA h 0 b0 b1 b2 b3 b4 b5), (qarI b0 e0 30 f0), (qarI b1 e1 30 f1)] [(sc0, .int), (sc1, .int), (sc2, .int), (sc3, .boolean), (e0, .int), (e1, .int)] A s s.heap [] := St
  have y0 : (0 : Int32).toInt = 0 := by decide
  have hsn := hSp.1
  have hn5 := nc_int (x := sn) (by omega)
  refine lv_iload_n hx hb dX5_claimTax_0 rfl (lv_at hl 1 rfl) ?_
  refine lv_if_ne (tgt := 6) hx hb dX5_claimTax_1 (by decide) (fun c1 => ?_) (fun c1 => ?_)
  ·
    have i1 := ci_ne (x := x) (y := 0) rfl (show (0 : Int32).toInt = 0 by decide) c1
    refine lv_lconst (v := 0) hx hb dX5_claimTax_6 (by decide) ?_
    refine lv_lstore_n (lv' := [(3, .long 0), (0, .ref zs), (1, .int x), (2, .ref h)]) hx hb dX5_claimTax_7 rfl hl (by decide) rfl (fun ls hl => ?_)
    refine lv_iconst (v := 0) hx hb dX5_claimTax_8 (by decide) ?_
    refine lv_istore (lv' := [(5, .int 0), (3, .long 0), (0, .ref zs), (1, .int x), (2, .ref h)]) hx hb dX5_claimTax_9 hl (by decide) rfl (fun ls hl => ?_)
    have lp11 : ∀ (n : Nat) (kk : Int32) (tx : Int64) (fq : Nat → Int32) (H : Heap) (locs : List Loc) (ls : Array Slot), ((0 ≤ kk.toInt ∧ kk.toInt ≤ sn.toInt) ∧ fq = fU (cTx l0 l2 l3 f0 f1) (fun _ => 1) l3 0 kk.toNatClampNeg ∧ tx.toInt = sm (tTx x.toInt l0 l1 l2 l3 f0 f1) kk.toNatClampNeg) → ((251 - kk.toInt).toNat) < n → cS G k [(qAAAAIJ zs 5 s0 s1 s2 s3 sn st), (qarI s0 sc0 250 l0), (qarI s1 sc1 250 l1), (qarI s2 sc2 250 l2), (qarI s3 sc3 250 fq), (qAAAAAA h 0 b0 b1 b2 b3 b4 b5), (qarI b0 e0 30 f0), (qarI b1 e1 30 f1)] [(sc0, .int), (sc1, .int), (sc2, .int), (sc3, .boolean), (e0, .int), (e1, .int)] A s H locs → lv_has ls 6 [(5, .int kk), (3, .long tx), (0, .ref zs), (1, .int x), (2, .ref h)] → W p l e ({ frames := 2, cells := 0, slots := 0, locals := 42 } : Room) s m args below meth c H locs 0 0 Q (F0 m 11 ls []) := by
      intro n
      induction n with
      | zero => intro kk tx fq H locs ls hI hn; exact absurd hn (Nat.not_lt_zero _)
      | succ n ih =>
        intro kk tx fq H locs ls hI hn St hl
        obtain ⟨⟨hI0, hI1⟩, hs1, hs2⟩ := hI
        have nk := nc_int hI0
        have hnb := sm_bd (f := tTx x.toInt l0 l1 l2 l3 f0 f1) (c := 2500000) (n := kk.toNatClampNeg) (fun k_ hk_ => tTx_bd hxx hSp (by omega))
        rw [← hs2] at hnb
        refine lv_iload hx hb dX5_claimTax_11 (lv_at hl 0 rfl) ?_
        refine lv_aload_n hx hb dX5_claimTax_13 rfl (lv_at hl 2 rfl) ?_
        refine cs_get F St 0 rfl rfl inX5 4 (by decide) kf_X5_25 rfl dX5_claimTax_14 ?_
        refine lv_icmp_ge (tgt := 91) hx hb dX5_claimTax_17 (by decide) (fun c17 => ?_) (fun c17 => ?_)
        ·
          have i17 := ci_le (x := sn) (y := kk) rfl rfl c17
          refine lv_lload_n hx hb dX5_claimTax_91 rfl (lv_at hl 1 rfl) ?_
          refine lv_l2i (v := tx.toInt32) hx hb dX5_claimTax_92 rfl ?_
          have hkn : kk.toNatClampNeg = sn.toNatClampNeg := by omega
          rw [hkn] at hs1 hs2
          exact cs_iret F hr hlk hQ St fq (r := tx.toInt32) ⟨(show _ = if x.toInt = 0 then 0 else sm _ _ by rw [if_neg (by omega), ← hs2]; exact l2i_i (by omega)), (show _ = if x.toInt = 0 then _ else fU _ _ _ _ _ by rw [if_neg (by omega)]; exact hs1)⟩ [0, 1, 2, 3, 4, 5, 6, 7] rfl (by decide) [] rfl (by decide) (by decide) dX5_claimTax_93
        ·
          have i17 := ci_nle (x := sn) (y := kk) rfl rfl c17
          refine lv_iload hx hb dX5_claimTax_20 (lv_at hl 0 rfl) ?_
          refine lv_sipush (v := 250) hx hb dX5_claimTax_22 (by decide) ?_
          refine lv_icmp_ge (tgt := 91) hx hb dX5_claimTax_25 (by decide) (fun c25 => ?_) (fun c25 => ?_)
          ·
            have i25 := ci_le (x := 250) (y := kk) (show (250 : Int32).toInt = 250 by decide) rfl c25
            refine lv_lload_n hx hb dX5_claimTax_91 rfl (lv_at hl 1 rfl) ?_
            refine lv_l2i (v := tx.toInt32) hx hb dX5_claimTax_92 rfl ?_
            have hkn : kk.toNatClampNeg = sn.toNatClampNeg := by omega
            rw [hkn] at hs1 hs2
            exact cs_iret F hr hlk hQ St fq (r := tx.toInt32) ⟨(show _ = if x.toInt = 0 then 0 else sm _ _ by rw [if_neg (by omega), ← hs2]; exact l2i_i (by omega)), (show _ = if x.toInt = 0 then _ else fU _ _ _ _ _ by rw [if_neg (by omega)]; exact hs1)⟩ [0, 1, 2, 3, 4, 5, 6, 7] rfl (by decide) [] rfl (by decide) (by decide) dX5_claimTax_93
          ·
            have i25 := ci_nle (x := 250) (y := kk) (show (250 : Int32).toInt = 250 by decide) rfl c25
            refine lv_aload_n hx hb dX5_claimTax_28 rfl (lv_at hl 2 rfl) ?_
            refine cs_get F St 0 rfl rfl inX5 3 (by decide) kf_X5_21 rfl dX5_claimTax_29 ?_
            refine lv_iload hx hb dX5_claimTax_32 (lv_at hl 0 rfl) ?_
            refine cs_zld F St 4 3 rfl rfl (vp_in_iff.mpr ⟨by omega, by omega⟩) dX5_claimTax_34 ?_
            refine lv_topi (fun y_1 ey_1 => ?_)
            have gy_1 := congrArg Int32.toInt ey_1
            have hqk : (fq kk.toNatClampNeg).toInt = (l3 kk.toNatClampNeg).toInt := by rw [hs1, fU_in (Nat.zero_le _) (Nat.le_refl _)]
            have hgk := hSg kk.toNatClampNeg (by omega)
            have hpk := hSp.2 kk.toNatClampNeg (by omega)
            refine lv_if_ne (tgt := 85) hx hb dX5_claimTax_35 (by decide) (fun c35 => ?_) (fun c35 => ?_)
            ·
              have i35 := ci_ne (x := y_1) (y := 0) rfl (show (0 : Int32).toInt = 0 by decide) c35
              obtain ⟨y_2, ey_2⟩ : ∃ zz : Int32, zz = kk + 1 := ⟨_, rfl⟩
              first | have jy_2 : y_2.toInt = kk.toInt + 1 := (by have q9 := ci_add (x := kk) rfl (show (1 : Int32).toInt = 1 by decide) ey_2; omega) | have jy_2 := ci_add (x := kk) rfl (show (1 : Int32).toInt = 1 by decide) ey_2
              refine lv_iinc (v := y_2) (lv' := [(5, .int y_2), (3, .long tx), (0, .ref zs), (1, .int x), (2, .ref h)]) hx hb dX5_claimTax_85 hl (k := 0) rfl (by rw [ey_2]; rfl) (by decide) rfl (fun ls hl => ?_)
              refine lv_goto (tgt := 11) hx hb dX5_claimTax_88 (by decide) ?_
              exact ih y_2 tx fq _ _ _ ⟨⟨by omega, by omega⟩, fU_N hI0 hs1 (by omega) (fun b_ => absurd (of_decide_eq_true b_) (by omega)), sm_upL hI0 hs2 (by omega) (by rw [tTx_0 (by omega)]; omega)⟩ (by omega) St (lv_sub hl [0, 1, 2, 3, 4] rfl)
            ·
              have i35 := ci_eq (x := y_1) (y := 0) rfl (show (0 : Int32).toInt = 0 by decide) c35
              refine lv_aload_n hx hb dX5_claimTax_38 rfl (lv_at hl 4 rfl) ?_
              refine lv_aload_n hx hb dX5_claimTax_39 rfl (lv_at hl 2 rfl) ?_
              refine cs_get F St 0 rfl rfl inX5 0 (by decide) kf_X5_9 rfl dX5_claimTax_40 ?_
              refine lv_iload hx hb dX5_claimTax_43 (lv_at hl 0 rfl) ?_
              refine cs_ild F St 1 0 rfl rfl (vp_in_iff.mpr ⟨by omega, by omega⟩) dX5_claimTax_45 ?_
              refine lv_topi (fun y_3 ey_3 => ?_)
              have gy_3 := congrArg Int32.toInt ey_3
              refine lv_aload_n hx hb dX5_claimTax_46 rfl (lv_at hl 2 rfl) ?_
              refine cs_get F St 0 rfl rfl inX5 2 (by decide) kf_X5_18 rfl dX5_claimTax_47 ?_
              refine lv_iload hx hb dX5_claimTax_50 (lv_at hl 0 rfl) ?_
              refine cs_ild F St 3 2 rfl rfl (vp_in_iff.mpr ⟨by omega, by omega⟩) dX5_claimTax_52 ?_
              refine lv_topi (fun y_4 ey_4 => ?_)
              have gy_4 := congrArg Int32.toInt ey_4
              refine cs_i St [5, 6, 7] [0, 1, 2, 3, 4] (wc := [(qAAAAAA h 0 b0 b1 b2 b3 b4 b5), (qarI b0 e0 30 f0), (qarI b1 e1 30 f1)]) (wr := [(qAAAAIJ zs 5 s0 s1 s2 s3 sn st), (qarI s0 sc0 250 l0), (qarI s1 sc1 250 l1), (qarI s2 sc2 250 l2), (qarI s3 sc3 250 fq)]) rfl rfl (by decide) (by decide) (va_runV (As := [.int y_3, .int y_4]) (rest := []) F (e0_hasDeclared l G k _ h b0 b1 b2 b3 b4 b5 e0 e1 f0 f1 y_3 y_4 (by omega)) (cwVt F mf_X0_hasDeclared km_X5_33 rfl rfl ⟨Nat.le_of_ble_eq_true rfl, Nat.le_of_ble_eq_true rfl⟩) (cs_preV St [5, 6, 7] rfl (by decide) [4, 5] rfl (ci := 0) (q0 := 5) rfl rfl) rfl rfl hl.1 rfl (lv_room (Nat.le_of_ble_eq_true rfl)) dX5_claimTax_53 ⟨Nat.le_of_ble_eq_true rfl, Nat.le_of_ble_eq_true rfl⟩) (fun r_5 u_6 H locs hw St => ?_)
              try dsimp only at hw
              rcases hw with ⟨z_7, hf_8⟩ | ⟨z_9, hf_10⟩
              ·
                subst r_5
                have St : cS G k [(qAAAAIJ zs 5 s0 s1 s2 s3 sn st), (qarI s0 sc0 250 l0), (qarI s1 sc1 250 l1), (qarI s2 sc2 250 l2), (qarI s3 sc3 250 fq), (qAAAAAA h 0 b0 b1 b2 b3 b4 b5), (qarI b0 e0 30 f0), (qarI b1 e1 30 f1)] [(sc0, .int), (sc1, .int), (sc2, .int), (sc3, .boolean), (e0, .int), (e1, .int)] A s H locs := St
                have hdc := hf_8
                rw [ey_3, ey_4] at hdc
                refine lv_if_eq (tgt := 85) hx hb dX5_claimTax_56 (by decide) (fun c56 => ?_) (fun c56 => ?_)
                · exact absurd c56 (by decide)
                refine lv_aload_n hx hb dX5_claimTax_59 rfl (lv_at hl 2 rfl) ?_
                refine cs_get F St 0 rfl rfl inX5 3 (by decide) kf_X5_21 rfl dX5_claimTax_60 ?_
                refine lv_iload hx hb dX5_claimTax_63 (lv_at hl 0 rfl) ?_
                refine lv_iconst (v := 1) hx hb dX5_claimTax_65 (by decide) ?_
                refine cs_zst F St 4 3 rfl rfl (vp_in_iff.mpr ⟨by omega, by omega⟩) (w' := [(qAAAAIJ zs 5 s0 s1 s2 s3 sn st), (qarI s0 sc0 250 l0), (qarI s1 sc1 250 l1), (qarI s2 sc2 250 l2), (qarI s3 sc3 250 (upd fq (kk : Int32).toNatClampNeg (vp_nar .boolean 1))), (qAAAAAA h 0 b0 b1 b2 b3 b4 b5), (qarI b0 e0 30 f0), (qarI b1 e1 30 f1)]) rfl dX5_claimTax_66 (fun H locs St => ?_)
                obtain ⟨f_11, ef_11⟩ : ∃ zz : Nat → Int32, zz = upd fq (kk : Int32).toNatClampNeg (vp_nar .boolean 1) := ⟨_, rfl⟩
                rw [← ef_11] at St
                refine lv_lload_n hx hb dX5_claimTax_67 rfl (lv_at hl 1 rfl) ?_
                refine lv_aload_n hx hb dX5_claimTax_68 rfl (lv_at hl 2 rfl) ?_
                refine cs_get F St 0 rfl rfl inX5 1 (by decide) kf_X5_15 rfl dX5_claimTax_69 ?_
                refine lv_iload hx hb dX5_claimTax_72 (lv_at hl 0 rfl) ?_
                refine cs_ild F St 2 1 rfl rfl (vp_in_iff.mpr ⟨by omega, by omega⟩) dX5_claimTax_74 ?_
                refine lv_topi (fun y_12 ey_12 => ?_)
                have gy_12 := congrArg Int32.toInt ey_12
                refine lv_i2l (v := y_12.toInt64) hx hb dX5_claimTax_75 rfl ?_
                refine lv_iload_n hx hb dX5_claimTax_76 rfl (lv_at hl 3 rfl) ?_
                refine lv_i2l (v := x.toInt64) hx hb dX5_claimTax_77 rfl ?_
                refine lv_lmul hx hb dX5_claimTax_78 ?_
                refine lv_topl (fun y_13 ey_13 => ?_)
                obtain ⟨jm1, jm2, jm3⟩ := cl_mulb (u := (l1 kk.toNatClampNeg).toInt) (v := x.toInt) (A := 5000000) (B := 50) (by rw [Int32.toInt_toInt64, ey_12]) (Int32.toInt_toInt64 _) ey_13 (by omega) (by omega) (by omega) (by omega) (by decide)
                refine lv_ldc2 (v := 100) hx hb F.2.2.2.1 (F.2.2.2.2 _ kk_X5_39) dX5_claimTax_79 ?_
                refine lv_ldiv hx hb dX5_claimTax_82 (by decide) ?_
                refine lv_topl (fun y_14 ey_14 => ?_)
                have jd := cl_div (u := (l1 kk.toNatClampNeg).toInt * x.toInt) (v := 100) jm1 (by decide) ey_14 jm2 (by decide)
                rw [Int.mul_comm] at jm2 jm3 jd
                refine lv_ladd hx hb dX5_claimTax_83 ?_
                refine lv_topl (fun y_15 ey_15 => ?_)
                first | have jy_15 : y_15.toInt = tx.toInt + y_14.toInt := (by have q9 := cl_add (x := tx) (y := y_14) (u := tx.toInt) (v := y_14.toInt) rfl rfl ey_15; omega) | have jy_15 := cl_add (x := tx) (y := y_14) (u := tx.toInt) (v := y_14.toInt) rfl rfl ey_15
                refine lv_lstore_n (lv' := [(3, .long y_15), (5, .int kk), (0, .ref zs), (1, .int x), (2, .ref h)]) hx hb dX5_claimTax_84 rfl hl (by decide) rfl (fun ls hl => ?_)
                obtain ⟨y_16, ey_16⟩ : ∃ zz : Int32, zz = kk + 1 := ⟨_, rfl⟩
                first | have jy_16 : y_16.toInt = kk.toInt + 1 := (by have q9 := ci_add (x := kk) rfl (show (1 : Int32).toInt = 1 by decide) ey_16; omega) | have jy_16 := ci_add (x := kk) rfl (show (1 : Int32).toInt = 1 by decide) ey_16
                refine lv_iinc (v := y_16) (lv' := [(5, .int y_16), (3, .long y_15), (0, .ref zs), (1, .int x), (2, .ref h)]) hx hb dX5_claimTax_85 hl (k := 1) rfl (by rw [ey_16]; rfl) (by decide) rfl (fun ls hl => ?_)
                refine lv_goto (tgt := 11) hx hb dX5_claimTax_88 (by decide) ?_
                exact ih y_16 y_15 f_11 _ _ _ ⟨⟨by omega, by omega⟩, (by rw [ef_11, nar_z1]; exact fU_Y hI0 (Nat.zero_le _) hs1 (by omega) (decide_eq_true (by omega)) rfl), sm_upL hI0 hs2 (by omega) (by rw [tTx_1 (by omega)]; omega)⟩ (by omega) St (lv_sub hl [0, 1, 2, 3, 4] rfl)
              ·
                subst r_5
                have St : cS G k [(qAAAAIJ zs 5 s0 s1 s2 s3 sn st), (qarI s0 sc0 250 l0), (qarI s1 sc1 250 l1), (qarI s2 sc2 250 l2), (qarI s3 sc3 250 fq), (qAAAAAA h 0 b0 b1 b2 b3 b4 b5), (qarI b0 e0 30 f0), (qarI b1 e1 30 f1)] [(sc0, .int), (sc1, .int), (sc2, .int), (sc3, .boolean), (e0, .int), (e1, .int)] A s H locs := St
                have hdc := hf_10
                rw [ey_3, ey_4] at hdc
                refine lv_if_eq (tgt := 85) hx hb dX5_claimTax_56 (by decide) (fun c56 => ?_) (fun c56 => ?_)
                rotate_left
                · exact absurd (by decide) c56
                obtain ⟨y_17, ey_17⟩ : ∃ zz : Int32, zz = kk + 1 := ⟨_, rfl⟩
                first | have jy_17 : y_17.toInt = kk.toInt + 1 := (by have q9 := ci_add (x := kk) rfl (show (1 : Int32).toInt = 1 by decide) ey_17; omega) | have jy_17 := ci_add (x := kk) rfl (show (1 : Int32).toInt = 1 by decide) ey_17
                refine lv_iinc (v := y_17) (lv' := [(5, .int y_17), (3, .long tx), (0, .ref zs), (1, .int x), (2, .ref h)]) hx hb dX5_claimTax_85 hl (k := 0) rfl (by rw [ey_17]; rfl) (by decide) rfl (fun ls hl => ?_)
                refine lv_goto (tgt := 11) hx hb dX5_claimTax_88 (by decide) ?_
                exact ih y_17 tx fq _ _ _ ⟨⟨by omega, by omega⟩, fU_N hI0 hs1 (by omega) (fun b_ => absurd (of_decide_eq_true b_) (by omega)), sm_upL hI0 hs2 (by omega) (by rw [tTx_0 (by omega)]; omega)⟩ (by omega) St (lv_sub hl [0, 1, 2, 3, 4] rfl)
    exact lp11 252 0 0 l3 _ _ _ ⟨⟨by omega, by omega⟩, fU_0.symm, rfl⟩ (by omega) St (lv_sub hl [0, 1, 2, 3, 4] rfl)
  ·
    have i1 := ci_eq (x := x) (y := 0) rfl (show (0 : Int32).toInt = 0 by decide) c1
    refine lv_iconst (v := 0) hx hb dX5_claimTax_4 (by decide) ?_
    exact cs_iret F hr hlk hQ St l3 (r := 0) ⟨(if_pos (by omega)).symm, (if_pos (by omega)).symm⟩ [0, 1, 2, 3, 4, 5, 6, 7] rfl (by decide) [] rfl (by decide) (by decide) dX5_claimTax_5
set_option maxHeartbeats 4000000 in
set_option maxRecDepth 100000 in
theorem e0_orderStones (l : Launch) (G : va_G) (k : Nat → Nat) (sz : Nat) (h : Nat) (b0 : Nat) (b1 : Nat) (b2 : Nat) (b3 : Nat) (b4 : Nat) (b5 : Nat) (e2 : ClassId) (e4 : ClassId) (e5 : ClassId) (f2 : Nat → Int32) (f4 : Nat → Int32) (f5 : Nat → Int32) (zs : Nat) (s0 : Nat) (s1 : Nat) (s2 : Nat) (s3 : Nat) (sn : Int32) (st : Int64) (sc0 : ClassId) (sc1 : ClassId) (l0 : Nat → Int32) (l1 : Nat → Int32) (x : Int32) (hSg : mGi sn l0) (hSp : mSp sn l1) : Met l yX0_orderStones (Cond.code yX0_orderStones cX0_orderStones 8 (some .int) :: tb) ({ frames := 1, cells := 0, slots := 0, locals := 21 } : Room) (va_Pc [.ref h, .ref zs, .int x] (cP G k [(qAAAAAA h 0 b0 b1 b2 b3 b4 b5), (qarI b2 e2 30 f2), (qarI b4 e4 30 f4), (qarI b5 e5 30 f5), (qAAAAIJ zs 5 s0 s1 s2 s3 sn st), (qarI s0 sc0 250 l0), (qarI s1 sc1 250 l1)] [(e2, .boolean), (e4, .int), (e5, .int), (sc0, .int), (sc1, .int)] sz)) (va_Qi (fun (r : Int32) (u : (Nat → Int32) × (Nat → Int32)) => match u with | (z4, z5) => (stR l0 l1 f2 x.toInt z4 z5 r sn.toNatClampNeg) ∧ (0 ≤ r.toInt ∧ r.toInt ≤ 30)) (cB G (fun u => match u with | (z4, z5) => [(qAAAAAA h 0 b0 b1 b2 b3 b4 b5), (qarI b2 e2 30 f2), (qarI b4 e4 30 z4), (qarI b5 e5 30 z5), (qAAAAIJ zs 5 s0 s1 s2 s3 sn st), (qarI s0 sc0 250 l0), (qarI s1 sc1 250 l1)]) (fun u => match u with | (z4, z5) => []) (va_A [(qAAAAAA h 0 b0 b1 b2 b3 b4 b5), (qarI b2 e2 30 f2), (qarI b4 e4 30 f4), (qarI b5 e5 30 f5), (qAAAAIJ zs 5 s0 s1 s2 s3 sn st), (qarI s0 sc0 250 l0), (qarI s1 sc1 250 l1)] sz)) (va_A [(qAAAAAA h 0 b0 b1 b2 b3 b4 b5), (qarI b2 e2 30 f2), (qarI b4 e4 30 f4), (qarI b5 e5 30 f5), (qAAAAIJ zs 5 s0 s1 s2 s3 sn st), (qarI s0 sc0 250 l0), (qarI s1 sc1 250 l1)] sz)) 0 0 (va_A [(qAAAAAA h 0 b0 b1 b2 b3 b4 b5), (qarI b2 e2 30 f2), (qarI b4 e4 30 f4), (qarI b5 e5 30 f5), (qAAAAIJ zs 5 s0 s1 s2 s3 sn st), (qarI s0 sc0 250 l0), (qarI s1 sc1 250 l1)] sz) := by
  refine ofC_i (cc := cX0_orderStones) (maxL := 8) (ret := (some .int)) (by decide) rfl (Nat.le_of_ble_eq_true rfl) ?_
  intro p e s m args below meth c A ls Q F hr hin hlk St hl hQ
  have hx := F.1
  have hb := F.2.1
  have hl : lv_has ls 8 [(0, .ref h), (1, .ref zs), (2, .int x)] := hl
  have St : cS G k [(qAAAAAA h 0 b0 b1 b2 b3 b4 b5), (qarI b2 e2 30 f2), (qarI b4 e4 30 f4), (qarI b5 e5 30 f5), (qAAAAIJ zs 5 s0 s1 s2 s3 sn st), (qarI s0 sc0 250 l0), (qarI s1 sc1 250 l1)] [(e2, .boolean), (e4, .int), (e5, .int), (sc0, .int), (sc1, .int)] A s s.heap [] := St
  have y0 : (0 : Int32).toInt = 0 := by decide
  have hsn := hSp.1
  have hn5 := nc_int (x := sn) (by omega)
  refine lv_iconst (v := 0) hx hb dX0_orderStones_0 (by decide) ?_
  refine lv_istore_n (lv' := [(3, .int 0), (0, .ref h), (1, .ref zs), (2, .int x)]) hx hb dX0_orderStones_1 rfl hl (by decide) rfl (fun ls hl => ?_)
  have lp2 : ∀ (n : Nat) (i : Int32) (fa : Nat → Int32) (H : Heap) (locs : List Loc) (ls : Array Slot), ((0 ≤ i.toInt ∧ i.toInt ≤ 30) ∧ ∀ g : Nat, (g : Int) < i.toInt → fa g = 0) → ((30 - i.toInt).toNat) < n → cS G k [(qAAAAAA h 0 b0 b1 b2 b3 b4 b5), (qarI b2 e2 30 f2), (qarI b4 e4 30 fa), (qarI b5 e5 30 f5), (qAAAAIJ zs 5 s0 s1 s2 s3 sn st), (qarI s0 sc0 250 l0), (qarI s1 sc1 250 l1)] [(e2, .boolean), (e4, .int), (e5, .int), (sc0, .int), (sc1, .int)] A s H locs → lv_has ls 8 [(3, .int i), (0, .ref h), (1, .ref zs), (2, .int x)] → W p l e ({ frames := 1, cells := 0, slots := 0, locals := 21 } : Room) s m args below meth c H locs 0 0 Q (F0 m 2 ls []) := by
    intro n
    induction n with
    | zero => intro i fa H locs ls hI hn; exact absurd hn (Nat.not_lt_zero _)
    | succ n ih =>
      intro i fa H locs ls hI hn St hl
      obtain ⟨hI0, hI1⟩ := hI
      refine lv_iload_n hx hb dX0_orderStones_2 rfl (lv_at hl 0 rfl) ?_
      refine lv_bipush (v := 30) hx hb dX0_orderStones_3 (by decide) ?_
      refine lv_icmp_ge (tgt := 21) hx hb dX0_orderStones_5 (by decide) (fun c5 => ?_) (fun c5 => ?_)
      ·
        have i5 := ci_le (x := 30) (y := i) (show (30 : Int32).toInt = 30 by decide) rfl c5
        refine lv_iconst (v := 0) hx hb dX0_orderStones_21 (by decide) ?_
        refine lv_istore_n (lv' := [(3, .int 0), (0, .ref h), (1, .ref zs), (2, .int x)]) hx hb dX0_orderStones_22 rfl hl (by decide) rfl (fun ls hl => ?_)
        refine lv_iconst (v := 0) hx hb dX0_orderStones_23 (by decide) ?_
        refine lv_istore (lv' := [(4, .int 0), (3, .int 0), (0, .ref h), (1, .ref zs), (2, .int x)]) hx hb dX0_orderStones_24 hl (by decide) rfl (fun ls hl => ?_)
        have lp26 : ∀ (n : Nat) (kk : Int32) (nn : Int32) (fa2 : Nat → Int32) (fb2 : Nat → Int32) (H : Heap) (locs : List Loc) (ls : Array Slot), ((0 ≤ kk.toInt ∧ kk.toInt ≤ sn.toInt) ∧ stR l0 l1 f2 x.toInt fa2 fb2 nn kk.toNatClampNeg ∧ cvI fa2 x.toInt nn kk) → ((251 - kk.toInt).toNat) < n → cS G k [(qAAAAAA h 0 b0 b1 b2 b3 b4 b5), (qarI b2 e2 30 f2), (qarI b4 e4 30 fa2), (qarI b5 e5 30 fb2), (qAAAAIJ zs 5 s0 s1 s2 s3 sn st), (qarI s0 sc0 250 l0), (qarI s1 sc1 250 l1)] [(e2, .boolean), (e4, .int), (e5, .int), (sc0, .int), (sc1, .int)] A s H locs → lv_has ls 8 [(4, .int kk), (3, .int nn), (0, .ref h), (1, .ref zs), (2, .int x)] → W p l e ({ frames := 1, cells := 0, slots := 0, locals := 21 } : Room) s m args below meth c H locs 0 0 Q (F0 m 26 ls []) := by
          intro n
          induction n with
          | zero => intro kk nn fa2 fb2 H locs ls hI hn; exact absurd hn (Nat.not_lt_zero _)
          | succ n ih26 =>
            intro kk nn fa2 fb2 H locs ls hI hn St hl
            have hz30 := hI1
            obtain ⟨⟨hI0, hI1⟩, hR, hcv⟩ := hI
            have nk := nc_int hI0
            have hn30 := cvI_n hcv
            refine lv_iload hx hb dX0_orderStones_26 (lv_at hl 0 rfl) ?_
            refine lv_aload_n hx hb dX0_orderStones_28 rfl (lv_at hl 3 rfl) ?_
            refine cs_i St [4] [0, 1, 2, 3, 5, 6] (wc := [(qAAAAIJ zs 5 s0 s1 s2 s3 sn st)]) (wr := [(qAAAAAA h 0 b0 b1 b2 b3 b4 b5), (qarI b2 e2 30 f2), (qarI b4 e4 30 fa2), (qarI b5 e5 30 fb2), (qarI s0 sc0 250 l0), (qarI s1 sc1 250 l1)]) rfl rfl (by decide) (by decide) (va_runV (As := []) (rest := [.int kk]) F (x5_size l G k _ zs s0 s1 s2 s3 sn st) (cwVt F mf_X5_size km_X0_35 rfl rfl ⟨Nat.le_of_ble_eq_true rfl, Nat.le_of_ble_eq_true rfl⟩) (cs_preV St [4] rfl (by decide) [] rfl (ci := 5) (q0 := 4) rfl rfl) rfl rfl hl.1 rfl (lv_room (Nat.le_of_ble_eq_true rfl)) dX0_orderStones_29 ⟨Nat.le_of_ble_eq_true rfl, Nat.le_of_ble_eq_true rfl⟩) (fun r_1 u_2 H locs hw St => ?_)
            try dsimp only at hw
            have z_3 := hw
            subst r_1
            have St : cS G k [(qAAAAAA h 0 b0 b1 b2 b3 b4 b5), (qarI b2 e2 30 f2), (qarI b4 e4 30 fa2), (qarI b5 e5 30 fb2), (qarI s0 sc0 250 l0), (qarI s1 sc1 250 l1), (qAAAAIJ zs 5 s0 s1 s2 s3 sn st)] [(e2, .boolean), (e4, .int), (e5, .int), (sc0, .int), (sc1, .int)] A s H locs := St
            refine lv_icmp_ge (tgt := 146) hx hb dX0_orderStones_32 (by decide) (fun c32 => ?_) (fun c32 => ?_)
            ·
              have i32 := ci_le (x := sn) (y := kk) rfl rfl c32
              refine lv_iload_n hx hb dX0_orderStones_146 rfl (lv_at hl 1 rfl) ?_
              exact cs_iret F hr hlk hQ St (fa2, fb2) (r := nn) ⟨by rw [show sn.toNatClampNeg = kk.toNatClampNeg by omega]; exact hR, cvI_n hcv⟩ [0, 1, 2, 3, 6, 4, 5] rfl (by decide) [] rfl (by decide) (by decide) dX0_orderStones_147
            ·
              have i32 := ci_nle (x := sn) (y := kk) rfl rfl c32
              refine lv_aload_n hx hb dX0_orderStones_35 rfl (lv_at hl 3 rfl) ?_
              refine lv_iload hx hb dX0_orderStones_36 (lv_at hl 0 rfl) ?_
              refine cs_i St [6, 4] [0, 1, 2, 3, 5] (wc := [(qAAAAIJ zs 5 s0 s1 s2 s3 sn st), (qarI s0 sc0 250 l0)]) (wr := [(qAAAAAA h 0 b0 b1 b2 b3 b4 b5), (qarI b2 e2 30 f2), (qarI b4 e4 30 fa2), (qarI b5 e5 30 fb2), (qarI s1 sc1 250 l1)]) rfl rfl (by decide) (by decide) (va_runV (As := [.int kk]) (rest := []) F (e5_giverOf l G k _ zs s0 s1 s2 s3 sn st sc0 l0 kk (by omega) (by omega)) (cwVt F mf_X5_giverOf km_X0_41 rfl rfl ⟨Nat.le_of_ble_eq_true rfl, Nat.le_of_ble_eq_true rfl⟩) (cs_preV St [6, 4] rfl (by decide) [3] rfl (ci := 5) (q0 := 6) rfl rfl) rfl rfl hl.1 rfl (lv_room (Nat.le_of_ble_eq_true rfl)) dX0_orderStones_38 ⟨Nat.le_of_ble_eq_true rfl, Nat.le_of_ble_eq_true rfl⟩) (fun r_4 u_5 H locs hw St => ?_)
              try dsimp only at hw
              have hr_6 := hw
              have St : cS G k [(qAAAAAA h 0 b0 b1 b2 b3 b4 b5), (qarI b2 e2 30 f2), (qarI b4 e4 30 fa2), (qarI b5 e5 30 fb2), (qarI s1 sc1 250 l1), (qAAAAIJ zs 5 s0 s1 s2 s3 sn st), (qarI s0 sc0 250 l0)] [(e2, .boolean), (e4, .int), (e5, .int), (sc0, .int), (sc1, .int)] A s H locs := St
              have hgk := hSg kk.toNatClampNeg (by omega)
              have hgv := hr_6
              rw [← hgv] at hgk
              have ggr_4 := congrArg Int32.toInt hr_6
              refine lv_istore (lv' := [(5, .int r_4), (4, .int kk), (3, .int nn), (0, .ref h), (1, .ref zs), (2, .int x)]) hx hb dX0_orderStones_41 hl (by decide) rfl (fun ls hl => ?_)
              refine lv_iload hx hb dX0_orderStones_43 (lv_at hl 0 rfl) ?_
              refine cs_i St [] [0, 1, 2, 3, 4, 5, 6] (wc := []) (wr := [(qAAAAAA h 0 b0 b1 b2 b3 b4 b5), (qarI b2 e2 30 f2), (qarI b4 e4 30 fa2), (qarI b5 e5 30 fb2), (qarI s1 sc1 250 l1), (qAAAAIJ zs 5 s0 s1 s2 s3 sn st), (qarI s0 sc0 250 l0)]) rfl rfl (by decide) (by decide) (va_runSN (As := [.int r_4]) (rest := []) F (x10_isGiver l G k _ r_4) (cwSNt F mf_X10_isGiver St.2.2.2.2.2.1.2.2.2.2.2.2.1 rfl rfl ⟨Nat.le_of_ble_eq_true rfl, Nat.le_of_ble_eq_true rfl⟩) (cs_pre St [] rfl (by decide) [] rfl) rfl rfl hl.1 rfl (lv_room (Nat.le_of_ble_eq_true rfl)) dX0_orderStones_45 ⟨Nat.le_of_ble_eq_true rfl, Nat.le_of_ble_eq_true rfl⟩) (fun r_7 u_8 H locs hw St => ?_)
              try dsimp only at hw
              rcases hw with ⟨z_9, hf_10⟩ | ⟨z_11, hf_12⟩
              ·
                subst r_7
                have St : cS G k [(qAAAAAA h 0 b0 b1 b2 b3 b4 b5), (qarI b2 e2 30 f2), (qarI b4 e4 30 fa2), (qarI b5 e5 30 fb2), (qarI s1 sc1 250 l1), (qAAAAIJ zs 5 s0 s1 s2 s3 sn st), (qarI s0 sc0 250 l0)] [(e2, .boolean), (e4, .int), (e5, .int), (sc0, .int), (sc1, .int)] A s H locs := St
                refine lv_if_eq (tgt := 140) hx hb dX0_orderStones_48 (by decide) (fun c48 => ?_) (fun c48 => ?_)
                · exact absurd c48 (by decide)
                refine lv_aload_n hx hb dX0_orderStones_51 rfl (lv_at hl 3 rfl) ?_
                refine cs_get F St 0 rfl rfl inX0 4 (by decide) kf_X0_25 rfl dX0_orderStones_52 ?_
                refine lv_iload hx hb dX0_orderStones_55 (lv_at hl 0 rfl) ?_
                refine cs_ild F St 2 1 rfl rfl (vp_in_iff.mpr ⟨by omega, by omega⟩) dX0_orderStones_57 ?_
                refine lv_topi (fun y_13 ey_13 => ?_)
                have gy_13 := congrArg Int32.toInt ey_13
                have hat : y_13.toInt = sm (tG l0 l1 (l0 kk.toNatClampNeg).toInt) kk.toNatClampNeg := by rw [ey_13, hgv]; exact stR_at hR (by rw [← hgv]; omega)
                have hq46 := cvI_at hcv hgk ey_13
                refine lv_iload_n hx hb dX0_orderStones_58 rfl (lv_at hl 5 rfl) ?_
                refine lv_icmp_lt (tgt := 66) hx hb dX0_orderStones_59 (by decide) (fun c59 => ?_) (fun c59 => ?_)
                ·
                  have i59 := ci_lt (x := y_13) (y := x) rfl rfl c59
                  refine lv_iconst (v := 0) hx hb dX0_orderStones_66 (by decide) ?_
                  refine lv_istore (lv' := [(6, .int 0), (5, .int r_4), (4, .int kk), (3, .int nn), (0, .ref h), (1, .ref zs), (2, .int x)]) hx hb dX0_orderStones_67 hl (by decide) rfl (fun ls hl => ?_)
                  refine lv_aload_n hx hb dX0_orderStones_69 rfl (lv_at hl 4 rfl) ?_
                  refine cs_get F St 0 rfl rfl inX0 4 (by decide) kf_X0_25 rfl dX0_orderStones_70 ?_
                  refine lv_iload hx hb dX0_orderStones_73 (lv_at hl 1 rfl) ?_
                  refine lv_dup2_11 hx hb dX0_orderStones_75 rfl rfl ?_
                  refine cs_ild F St 2 1 rfl rfl (vp_in_iff.mpr ⟨by omega, by omega⟩) dX0_orderStones_76 ?_
                  refine lv_topi (fun y_14 ey_14 => ?_)
                  have gy_14 := congrArg Int32.toInt ey_14
                  have hq76 : y_14.toInt = y_13.toInt := congrArg _ (ey_14.trans ey_13.symm)
                  refine lv_aload_n hx hb dX0_orderStones_77 rfl (lv_at hl 5 rfl) ?_
                  refine lv_iload hx hb dX0_orderStones_78 (lv_at hl 2 rfl) ?_
                  refine cs_i St [5, 4] [0, 1, 2, 3, 6] (wc := [(qAAAAIJ zs 5 s0 s1 s2 s3 sn st), (qarI s1 sc1 250 l1)]) (wr := [(qAAAAAA h 0 b0 b1 b2 b3 b4 b5), (qarI b2 e2 30 f2), (qarI b4 e4 30 fa2), (qarI b5 e5 30 fb2), (qarI s0 sc0 250 l0)]) rfl rfl (by decide) (by decide) (va_runV (As := [.int kk]) (rest := [.int y_14, .int r_4, .ref b4]) F (e5_penceOf l G k _ zs s0 s1 s2 s3 sn st sc1 l1 kk (by omega) (by omega)) (cwVt F mf_X5_penceOf km_X0_45 rfl rfl ⟨Nat.le_of_ble_eq_true rfl, Nat.le_of_ble_eq_true rfl⟩) (cs_preV St [5, 4] rfl (by decide) [4] rfl (ci := 5) (q0 := 5) rfl rfl) rfl rfl hl.1 rfl (lv_room (Nat.le_of_ble_eq_true rfl)) dX0_orderStones_80 ⟨Nat.le_of_ble_eq_true rfl, Nat.le_of_ble_eq_true rfl⟩) (fun r_15 u_16 H locs hw St => ?_)
                  try dsimp only at hw
                  have hr_17 := hw
                  have St : cS G k [(qAAAAAA h 0 b0 b1 b2 b3 b4 b5), (qarI b2 e2 30 f2), (qarI b4 e4 30 fa2), (qarI b5 e5 30 fb2), (qarI s0 sc0 250 l0), (qAAAAIJ zs 5 s0 s1 s2 s3 sn st), (qarI s1 sc1 250 l1)] [(e2, .boolean), (e4, .int), (e5, .int), (sc0, .int), (sc1, .int)] A s H locs := St
                  have hpk := hSp.2 kk.toNatClampNeg (by omega)
                  have hpn := congrArg Int32.toInt hr_17
                  refine lv_iadd hx hb dX0_orderStones_83 ?_
                  refine lv_topi (fun y_18 ey_18 => ?_)
                  first | have jy_18 : y_18.toInt = y_14.toInt + r_15.toInt := (by have q9 := ci_add (x := y_14) (y := r_15) rfl rfl ey_18; omega) | have jy_18 := ci_add (x := y_14) (y := r_15) rfl rfl ey_18
                  skip
                  refine cs_ist F St 2 1 rfl rfl (vp_in_iff.mpr ⟨by omega, by omega⟩) (w' := [(qAAAAAA h 0 b0 b1 b2 b3 b4 b5), (qarI b2 e2 30 f2), (qarI b4 e4 30 (upd fa2 (r_4 : Int32).toNatClampNeg y_18)), (qarI b5 e5 30 fb2), (qarI s0 sc0 250 l0), (qAAAAIJ zs 5 s0 s1 s2 s3 sn st), (qarI s1 sc1 250 l1)]) rfl dX0_orderStones_84 (fun H locs St => ?_)
                  obtain ⟨f_19, ef_19⟩ : ∃ zz : Nat → Int32, zz = upd fa2 (r_4 : Int32).toNatClampNeg y_18 := ⟨_, rfl⟩
                  rw [← ef_19] at St
                  refine lv_iload hx hb dX0_orderStones_85 (lv_at hl 0 rfl) ?_
                  refine lv_if_ne (tgt := 105) hx hb dX0_orderStones_87 (by decide) (fun c87 => ?_) (fun c87 => ?_)
                  · exact absurd c87 (by decide)
                  refine lv_aload_n hx hb dX0_orderStones_90 rfl (lv_at hl 4 rfl) ?_
                  refine cs_get F St 0 rfl rfl inX0 4 (by decide) kf_X0_25 rfl dX0_orderStones_91 ?_
                  refine lv_iload hx hb dX0_orderStones_94 (lv_at hl 1 rfl) ?_
                  refine cs_ild F St 2 1 rfl rfl (vp_in_iff.mpr ⟨by omega, by omega⟩) dX0_orderStones_96 ?_
                  refine lv_topi (fun y_20 ey_20 => ?_)
                  have gy_20 := congrArg Int32.toInt ey_20
                  have hq96 : y_20.toInt = y_18.toInt := by rw [ey_20, ef_19, pk_us]
                  refine lv_iload_n hx hb dX0_orderStones_97 rfl (lv_at hl 6 rfl) ?_
                  refine lv_icmp_lt (tgt := 105) hx hb dX0_orderStones_98 (by decide) (fun c98 => ?_) (fun c98 => ?_)
                  ·
                    have i98 := ci_lt (x := y_20) (y := x) rfl rfl c98
                    refine lv_iconst (v := 0) hx hb dX0_orderStones_105 (by decide) ?_
                    refine lv_istore (lv' := [(7, .int 0), (6, .int 0), (5, .int r_4), (4, .int kk), (3, .int nn), (0, .ref h), (1, .ref zs), (2, .int x)]) hx hb dX0_orderStones_106 hl (by decide) rfl (fun ls hl => ?_)
                    refine lv_iload hx hb dX0_orderStones_108 (lv_at hl 0 rfl) ?_
                    refine lv_if_eq (tgt := 140) hx hb dX0_orderStones_110 (by decide) (fun c110 => ?_) (fun c110 => ?_)
                    rotate_left
                    · exact absurd (by decide) c110
                    obtain ⟨y_21, ey_21⟩ : ∃ zz : Int32, zz = kk + 1 := ⟨_, rfl⟩
                    first | have jy_21 : y_21.toInt = kk.toInt + 1 := (by have q9 := ci_add (x := kk) rfl (show (1 : Int32).toInt = 1 by decide) ey_21; omega) | have jy_21 := ci_add (x := kk) rfl (show (1 : Int32).toInt = 1 by decide) ey_21
                    refine lv_iinc (v := y_21) (lv' := [(4, .int y_21), (7, .int 0), (6, .int 0), (5, .int r_4), (3, .int nn), (0, .ref h), (1, .ref zs), (2, .int x)]) hx hb dX0_orderStones_140 hl (k := 3) rfl (by rw [ey_21]; rfl) (by decide) rfl (fun ls hl => ?_)
                    refine lv_goto (tgt := 26) hx hb dX0_orderStones_143 (by decide) ?_
                    exact ih26 y_21 nn f_19 fb2 _ _ _ ⟨⟨by omega, by omega⟩, (by rw [nc_s hI0 (show y_21.toInt = kk.toInt + 1 by omega), ef_19, hgv]; exact stR_n hR (by rw [← hgv]; omega) (by rw [← hgv, ← ey_13]; omega) (by unfold stQ; omega)), (by rw [ef_19]; exact cvI_keep hcv ey_13 (by omega) (by omega) (by omega))⟩ (by omega) (cs_pick St [0, 1, 2, 3, 5, 4, 6] rfl (by decide) [0, 1, 2, 3, 4] rfl) (lv_sub hl [0, 4, 5, 6, 7] rfl)
                  ·
                    have i98 := ci_nlt (x := y_20) (y := x) rfl rfl c98
                    refine lv_iconst (v := 1) hx hb dX0_orderStones_101 (by decide) ?_
                    refine lv_goto (tgt := 106) hx hb dX0_orderStones_102 (by decide) ?_
                    refine lv_istore (lv' := [(7, .int 1), (6, .int 0), (5, .int r_4), (4, .int kk), (3, .int nn), (0, .ref h), (1, .ref zs), (2, .int x)]) hx hb dX0_orderStones_106 hl (by decide) rfl (fun ls hl => ?_)
                    refine lv_iload hx hb dX0_orderStones_108 (lv_at hl 0 rfl) ?_
                    refine lv_if_eq (tgt := 140) hx hb dX0_orderStones_110 (by decide) (fun c110 => ?_) (fun c110 => ?_)
                    · exact absurd c110 (by decide)
                    refine lv_aload_n hx hb dX0_orderStones_113 rfl (lv_at hl 5 rfl) ?_
                    refine cs_get F St 0 rfl rfl inX0 2 (by decide) kf_X0_18 rfl dX0_orderStones_114 ?_
                    refine lv_iload hx hb dX0_orderStones_117 (lv_at hl 2 rfl) ?_
                    refine cs_zld F St 1 0 rfl rfl (vp_in_iff.mpr ⟨by omega, by omega⟩) dX0_orderStones_119 ?_
                    refine lv_topi (fun y_22 ey_22 => ?_)
                    have gy_22 := congrArg Int32.toInt ey_22
                    have hnm : y_22.toInt = (f2 (l0 kk.toNatClampNeg).toNatClampNeg).toInt := by rw [ey_22, hgv]
                    refine lv_if_ne (tgt := 140) hx hb dX0_orderStones_120 (by decide) (fun c120 => ?_) (fun c120 => ?_)
                    ·
                      have i120 := ci_ne (x := y_22) (y := 0) rfl (show (0 : Int32).toInt = 0 by decide) c120
                      obtain ⟨y_23, ey_23⟩ : ∃ zz : Int32, zz = kk + 1 := ⟨_, rfl⟩
                      first | have jy_23 : y_23.toInt = kk.toInt + 1 := (by have q9 := ci_add (x := kk) rfl (show (1 : Int32).toInt = 1 by decide) ey_23; omega) | have jy_23 := ci_add (x := kk) rfl (show (1 : Int32).toInt = 1 by decide) ey_23
                      refine lv_iinc (v := y_23) (lv' := [(4, .int y_23), (7, .int 1), (6, .int 0), (5, .int r_4), (3, .int nn), (0, .ref h), (1, .ref zs), (2, .int x)]) hx hb dX0_orderStones_140 hl (k := 3) rfl (by rw [ey_23]; rfl) (by decide) rfl (fun ls hl => ?_)
                      refine lv_goto (tgt := 26) hx hb dX0_orderStones_143 (by decide) ?_
                      exact ih26 y_23 nn f_19 fb2 _ _ _ ⟨⟨by omega, by omega⟩, (by rw [nc_s hI0 (show y_23.toInt = kk.toInt + 1 by omega), ef_19, hgv]; exact stR_n hR (by rw [← hgv]; omega) (by rw [← hgv, ← ey_13]; omega) (by unfold stQ; omega)), (by rw [ef_19]; exact cvI_keep hcv ey_13 (by omega) (by omega) (by omega))⟩ (by omega) (cs_pick St [0, 1, 2, 3, 5, 4, 6] rfl (by decide) [0, 1, 2, 3, 4] rfl) (lv_sub hl [0, 4, 5, 6, 7] rfl)
                    ·
                      have i120 := ci_eq (x := y_22) (y := 0) rfl (show (0 : Int32).toInt = 0 by decide) c120
                      refine lv_iload_n hx hb dX0_orderStones_123 rfl (lv_at hl 4 rfl) ?_
                      refine lv_bipush (v := 30) hx hb dX0_orderStones_124 (by decide) ?_
                      have hq117 := cvI_lt hcv hgk ey_13 (by omega)
                      refine lv_icmp_ge (tgt := 140) hx hb dX0_orderStones_126 (by decide) (fun c126 => ?_) (fun c126 => ?_)
                      · have i126 := ci_le (x := 30) (y := nn) (show (30 : Int32).toInt = 30 by decide) rfl c126; exact False.elim (by omega)
                      have i126 := ci_nle (x := 30) (y := nn) (show (30 : Int32).toInt = 30 by decide) rfl c126
                      refine lv_aload_n hx hb dX0_orderStones_129 rfl (lv_at hl 5 rfl) ?_
                      refine cs_get F St 0 rfl rfl inX0 5 (by decide) kf_X0_28 rfl dX0_orderStones_130 ?_
                      refine lv_iload_n hx hb dX0_orderStones_133 rfl (lv_at hl 4 rfl) ?_
                      refine lv_iload hx hb dX0_orderStones_134 (lv_at hl 2 rfl) ?_
                      refine cs_ist F St 3 2 rfl rfl (vp_in_iff.mpr ⟨by omega, by omega⟩) (w' := [(qAAAAAA h 0 b0 b1 b2 b3 b4 b5), (qarI b2 e2 30 f2), (qarI b4 e4 30 f_19), (qarI b5 e5 30 (upd fb2 (nn : Int32).toNatClampNeg r_4)), (qarI s0 sc0 250 l0), (qAAAAIJ zs 5 s0 s1 s2 s3 sn st), (qarI s1 sc1 250 l1)]) rfl dX0_orderStones_136 (fun H locs St => ?_)
                      obtain ⟨f_24, ef_24⟩ : ∃ zz : Nat → Int32, zz = upd fb2 (nn : Int32).toNatClampNeg r_4 := ⟨_, rfl⟩
                      rw [← ef_24] at St
                      obtain ⟨y_25, ey_25⟩ : ∃ zz : Int32, zz = nn + 1 := ⟨_, rfl⟩
                      first | have jy_25 : y_25.toInt = nn.toInt + 1 := (by have q9 := ci_add (x := nn) rfl (show (1 : Int32).toInt = 1 by decide) ey_25; omega) | have jy_25 := ci_add (x := nn) rfl (show (1 : Int32).toInt = 1 by decide) ey_25
                      refine lv_iinc (v := y_25) (lv' := [(3, .int y_25), (7, .int 1), (6, .int 0), (5, .int r_4), (4, .int kk), (0, .ref h), (1, .ref zs), (2, .int x)]) hx hb dX0_orderStones_137 hl (k := 4) rfl (by rw [ey_25]; rfl) (by decide) rfl (fun ls hl => ?_)
                      obtain ⟨y_26, ey_26⟩ : ∃ zz : Int32, zz = kk + 1 := ⟨_, rfl⟩
                      first | have jy_26 : y_26.toInt = kk.toInt + 1 := (by have q9 := ci_add (x := kk) rfl (show (1 : Int32).toInt = 1 by decide) ey_26; omega) | have jy_26 := ci_add (x := kk) rfl (show (1 : Int32).toInt = 1 by decide) ey_26
                      refine lv_iinc (v := y_26) (lv' := [(4, .int y_26), (3, .int y_25), (7, .int 1), (6, .int 0), (5, .int r_4), (0, .ref h), (1, .ref zs), (2, .int x)]) hx hb dX0_orderStones_140 hl (k := 4) rfl (by rw [ey_26]; rfl) (by decide) rfl (fun ls hl => ?_)
                      refine lv_goto (tgt := 26) hx hb dX0_orderStones_143 (by decide) ?_
                      exact ih26 y_26 y_25 f_19 f_24 _ _ _ ⟨⟨by omega, by omega⟩, (by rw [nc_s hI0 (show y_26.toInt = kk.toInt + 1 by omega), ef_19, hgv]; rw [ef_24]; exact stR_y hR (by rw [← hgv]; omega) (by rw [← hgv, ← ey_13]; omega) (by unfold stQ; omega) (by omega) (by omega) hgv), (by rw [ef_19]; exact cvI_more hcv (by omega) ey_13 (by omega) (by omega) (by omega) (by omega) (by omega))⟩ (by omega) (cs_pick St [0, 1, 2, 3, 5, 4, 6] rfl (by decide) [0, 1, 2, 3, 4] rfl) (lv_sub hl [0, 1, 5, 6, 7] rfl)
                ·
                  have i59 := ci_nlt (x := y_13) (y := x) rfl rfl c59
                  refine lv_iconst (v := 1) hx hb dX0_orderStones_62 (by decide) ?_
                  refine lv_goto (tgt := 67) hx hb dX0_orderStones_63 (by decide) ?_
                  refine lv_istore (lv' := [(6, .int 1), (5, .int r_4), (4, .int kk), (3, .int nn), (0, .ref h), (1, .ref zs), (2, .int x)]) hx hb dX0_orderStones_67 hl (by decide) rfl (fun ls hl => ?_)
                  refine lv_aload_n hx hb dX0_orderStones_69 rfl (lv_at hl 4 rfl) ?_
                  refine cs_get F St 0 rfl rfl inX0 4 (by decide) kf_X0_25 rfl dX0_orderStones_70 ?_
                  refine lv_iload hx hb dX0_orderStones_73 (lv_at hl 1 rfl) ?_
                  refine lv_dup2_11 hx hb dX0_orderStones_75 rfl rfl ?_
                  refine cs_ild F St 2 1 rfl rfl (vp_in_iff.mpr ⟨by omega, by omega⟩) dX0_orderStones_76 ?_
                  refine lv_topi (fun y_27 ey_27 => ?_)
                  have gy_27 := congrArg Int32.toInt ey_27
                  have hq76 : y_27.toInt = y_13.toInt := congrArg _ (ey_27.trans ey_13.symm)
                  refine lv_aload_n hx hb dX0_orderStones_77 rfl (lv_at hl 5 rfl) ?_
                  refine lv_iload hx hb dX0_orderStones_78 (lv_at hl 2 rfl) ?_
                  refine cs_i St [5, 4] [0, 1, 2, 3, 6] (wc := [(qAAAAIJ zs 5 s0 s1 s2 s3 sn st), (qarI s1 sc1 250 l1)]) (wr := [(qAAAAAA h 0 b0 b1 b2 b3 b4 b5), (qarI b2 e2 30 f2), (qarI b4 e4 30 fa2), (qarI b5 e5 30 fb2), (qarI s0 sc0 250 l0)]) rfl rfl (by decide) (by decide) (va_runV (As := [.int kk]) (rest := [.int y_27, .int r_4, .ref b4]) F (e5_penceOf l G k _ zs s0 s1 s2 s3 sn st sc1 l1 kk (by omega) (by omega)) (cwVt F mf_X5_penceOf km_X0_45 rfl rfl ⟨Nat.le_of_ble_eq_true rfl, Nat.le_of_ble_eq_true rfl⟩) (cs_preV St [5, 4] rfl (by decide) [4] rfl (ci := 5) (q0 := 5) rfl rfl) rfl rfl hl.1 rfl (lv_room (Nat.le_of_ble_eq_true rfl)) dX0_orderStones_80 ⟨Nat.le_of_ble_eq_true rfl, Nat.le_of_ble_eq_true rfl⟩) (fun r_28 u_29 H locs hw St => ?_)
                  try dsimp only at hw
                  have hr_30 := hw
                  have St : cS G k [(qAAAAAA h 0 b0 b1 b2 b3 b4 b5), (qarI b2 e2 30 f2), (qarI b4 e4 30 fa2), (qarI b5 e5 30 fb2), (qarI s0 sc0 250 l0), (qAAAAIJ zs 5 s0 s1 s2 s3 sn st), (qarI s1 sc1 250 l1)] [(e2, .boolean), (e4, .int), (e5, .int), (sc0, .int), (sc1, .int)] A s H locs := St
                  have hpk := hSp.2 kk.toNatClampNeg (by omega)
                  have hpn := congrArg Int32.toInt hr_30
                  refine lv_iadd hx hb dX0_orderStones_83 ?_
                  refine lv_topi (fun y_31 ey_31 => ?_)
                  first | have jy_31 : y_31.toInt = y_27.toInt + r_28.toInt := (by have q9 := ci_add (x := y_27) (y := r_28) rfl rfl ey_31; omega) | have jy_31 := ci_add (x := y_27) (y := r_28) rfl rfl ey_31
                  skip
                  refine cs_ist F St 2 1 rfl rfl (vp_in_iff.mpr ⟨by omega, by omega⟩) (w' := [(qAAAAAA h 0 b0 b1 b2 b3 b4 b5), (qarI b2 e2 30 f2), (qarI b4 e4 30 (upd fa2 (r_4 : Int32).toNatClampNeg y_31)), (qarI b5 e5 30 fb2), (qarI s0 sc0 250 l0), (qAAAAIJ zs 5 s0 s1 s2 s3 sn st), (qarI s1 sc1 250 l1)]) rfl dX0_orderStones_84 (fun H locs St => ?_)
                  obtain ⟨f_32, ef_32⟩ : ∃ zz : Nat → Int32, zz = upd fa2 (r_4 : Int32).toNatClampNeg y_31 := ⟨_, rfl⟩
                  rw [← ef_32] at St
                  refine lv_iload hx hb dX0_orderStones_85 (lv_at hl 0 rfl) ?_
                  refine lv_if_ne (tgt := 105) hx hb dX0_orderStones_87 (by decide) (fun c87 => ?_) (fun c87 => ?_)
                  rotate_left
                  · exact absurd c87 (by decide)
                  refine lv_iconst (v := 0) hx hb dX0_orderStones_105 (by decide) ?_
                  refine lv_istore (lv' := [(7, .int 0), (6, .int 1), (5, .int r_4), (4, .int kk), (3, .int nn), (0, .ref h), (1, .ref zs), (2, .int x)]) hx hb dX0_orderStones_106 hl (by decide) rfl (fun ls hl => ?_)
                  refine lv_iload hx hb dX0_orderStones_108 (lv_at hl 0 rfl) ?_
                  refine lv_if_eq (tgt := 140) hx hb dX0_orderStones_110 (by decide) (fun c110 => ?_) (fun c110 => ?_)
                  rotate_left
                  · exact absurd (by decide) c110
                  obtain ⟨y_33, ey_33⟩ : ∃ zz : Int32, zz = kk + 1 := ⟨_, rfl⟩
                  first | have jy_33 : y_33.toInt = kk.toInt + 1 := (by have q9 := ci_add (x := kk) rfl (show (1 : Int32).toInt = 1 by decide) ey_33; omega) | have jy_33 := ci_add (x := kk) rfl (show (1 : Int32).toInt = 1 by decide) ey_33
                  refine lv_iinc (v := y_33) (lv' := [(4, .int y_33), (7, .int 0), (6, .int 1), (5, .int r_4), (3, .int nn), (0, .ref h), (1, .ref zs), (2, .int x)]) hx hb dX0_orderStones_140 hl (k := 3) rfl (by rw [ey_33]; rfl) (by decide) rfl (fun ls hl => ?_)
                  refine lv_goto (tgt := 26) hx hb dX0_orderStones_143 (by decide) ?_
                  exact ih26 y_33 nn f_32 fb2 _ _ _ ⟨⟨by omega, by omega⟩, (by rw [nc_s hI0 (show y_33.toInt = kk.toInt + 1 by omega), ef_32, hgv]; exact stR_n hR (by rw [← hgv]; omega) (by rw [← hgv, ← ey_13]; omega) (by unfold stQ; omega)), (by rw [ef_32]; exact cvI_keep hcv ey_13 (by omega) (by omega) (by omega))⟩ (by omega) (cs_pick St [0, 1, 2, 3, 5, 4, 6] rfl (by decide) [0, 1, 2, 3, 4] rfl) (lv_sub hl [0, 4, 5, 6, 7] rfl)
              ·
                exact False.elim (by omega)
        exact lp26 252 0 0 fa f5 _ _ _ ⟨⟨by omega, by omega⟩, stR_0 y0 (fun g_ h_ => hI1 g_ (by omega)), cvI_0 (fun g_ h_ => hI1 g_ (by omega))⟩ (by omega) St (lv_sub hl [0, 1, 2, 3, 4] rfl)
      ·
        have i5 := ci_nle (x := 30) (y := i) (show (30 : Int32).toInt = 30 by decide) rfl c5
        refine lv_aload_n hx hb dX0_orderStones_8 rfl (lv_at hl 1 rfl) ?_
        refine cs_get F St 0 rfl rfl inX0 4 (by decide) kf_X0_25 rfl dX0_orderStones_9 ?_
        refine lv_iload_n hx hb dX0_orderStones_12 rfl (lv_at hl 0 rfl) ?_
        refine lv_iconst (v := 0) hx hb dX0_orderStones_13 (by decide) ?_
        refine cs_ist F St 2 1 rfl rfl (vp_in_iff.mpr ⟨by omega, by omega⟩) (w' := [(qAAAAAA h 0 b0 b1 b2 b3 b4 b5), (qarI b2 e2 30 f2), (qarI b4 e4 30 (upd fa (i : Int32).toNatClampNeg 0)), (qarI b5 e5 30 f5), (qAAAAIJ zs 5 s0 s1 s2 s3 sn st), (qarI s0 sc0 250 l0), (qarI s1 sc1 250 l1)]) rfl dX0_orderStones_14 (fun H locs St => ?_)
        obtain ⟨f_34, ef_34⟩ : ∃ zz : Nat → Int32, zz = upd fa (i : Int32).toNatClampNeg 0 := ⟨_, rfl⟩
        rw [← ef_34] at St
        obtain ⟨y_35, ey_35⟩ : ∃ zz : Int32, zz = i + 1 := ⟨_, rfl⟩
        first | have jy_35 : y_35.toInt = i.toInt + 1 := (by have q9 := ci_add (x := i) rfl (show (1 : Int32).toInt = 1 by decide) ey_35; omega) | have jy_35 := ci_add (x := i) rfl (show (1 : Int32).toInt = 1 by decide) ey_35
        refine lv_iinc (v := y_35) (lv' := [(3, .int y_35), (0, .ref h), (1, .ref zs), (2, .int x)]) hx hb dX0_orderStones_15 hl (k := 0) rfl (by rw [ey_35]; rfl) (by decide) rfl (fun ls hl => ?_)
        refine lv_goto (tgt := 2) hx hb dX0_orderStones_18 (by decide) ?_
        exact ih y_35 f_34 _ _ _ ⟨⟨by omega, by omega⟩, by rw [ef_34]; exact row_up (P := fun z => z = 0) hI0.1 hI1 (by omega) rfl⟩ (by omega) St (lv_sub hl [0, 1, 2, 3] rfl)
  exact lp2 31 0 f4 _ _ _ ⟨⟨by decide, by decide⟩, fun g q => absurd q (by omega)⟩ (by decide) St (lv_sub hl [0, 1, 2, 3] rfl)
set_option maxHeartbeats 4000000 in
set_option maxRecDepth 100000 in
theorem e3_paysPart (l : Launch) (G : va_G) (k : Nat → Nat) (sz : Nat) (h : Nat) (p0 : Int64) (p1 : Int64) (p2 : Int64) (p3 : Int64) (p4 : Int64) (p5 : Int64) (x : Int32) (y : Int32) (hxx : 0 ≤ x.toInt ∧ x.toInt ≤ 100000000) (hyy : 0 ≤ y.toInt ∧ y.toInt ≤ 99999900) (hp0 : 0 ≤ p0.toInt ∧ p0.toInt ≤ 2000000000) (hp1 : 0 ≤ p1.toInt ∧ p1.toInt ≤ 400000000) : Met l yX3_paysPart (Cond.code yX3_paysPart cX3_paysPart 7 (some .boolean) :: tb) ({ frames := 1, cells := 0, slots := 0, locals := 23 } : Room) (va_Pc [.ref h, .int x, .int y] (cP G k [(qJJJJJJ h 3 p0 p1 p2 p3 p4 p5)] [] sz)) (va_Qi (fun (r : Int32) (u : Int64 × Int64 × Int64 × Int64 × Int64 × Int64) => match u with | (q0, q1, q2, q3, q4, q5) => ((r = 1) ∧ (paB p0.toInt p1.toInt y.toInt x.toInt = false ∧ coB p0.toInt p1.toInt y.toInt x.toInt = q0.toInt ∧ loB p0.toInt p1.toInt y.toInt x.toInt = q1.toInt) ∧ (q4 = p4 + x.toInt64) ∧ (q2 = p2 ∧ q3 = p3 ∧ q5 = p5)) ∨ ((r = 0) ∧ (paB p0.toInt p1.toInt y.toInt x.toInt = true ∧ coB p0.toInt p1.toInt y.toInt x.toInt = p0.toInt ∧ loB p0.toInt p1.toInt y.toInt x.toInt = p1.toInt) ∧ (q0 = p0 ∧ q1 = p1 ∧ q2 = p2 ∧ q3 = p3 ∧ q4 = p4 ∧ q5 = p5))) (cB G (fun u => match u with | (q0, q1, q2, q3, q4, q5) => [(qJJJJJJ h 3 q0 q1 q2 q3 q4 q5)]) (fun u => match u with | (q0, q1, q2, q3, q4, q5) => []) (va_A [(qJJJJJJ h 3 p0 p1 p2 p3 p4 p5)] sz)) (va_A [(qJJJJJJ h 3 p0 p1 p2 p3 p4 p5)] sz)) 0 0 (va_A [(qJJJJJJ h 3 p0 p1 p2 p3 p4 p5)] sz) := by
  refine ofC_i (cc := cX3_paysPart) (maxL := 7) (ret := (some .boolean)) (by decide) rfl (Nat.le_of_ble_eq_true rfl) ?_
  intro p e s m args below meth c A ls Q F hr hin hlk St hl hQ
  have hx := F.1
  have hb := F.2.1
  have hl : lv_has ls 7 [(0, .ref h), (1, .int x), (2, .int y)] := hl
  have St : cS G k [(qJJJJJJ h 3 p0 p1 p2 p3 p4 p5)] [] A s s.heap [] := St
  refine lv_lconst (v := 0) hx hb dX3_paysPart_0 (by decide) ?_
  refine lv_iload_n hx hb dX3_paysPart_1 rfl (lv_at hl 2 rfl) ?_
  refine lv_i2l (v := y.toInt64) hx hb dX3_paysPart_2 rfl ?_
  refine lv_aload_n hx hb dX3_paysPart_3 rfl (lv_at hl 0 rfl) ?_
  refine cs_get F St 0 rfl rfl inX3 1 (by decide) kf_X3_13 rfl dX3_paysPart_4 ?_
  refine lv_lsub hx hb dX3_paysPart_7 ?_
  refine lv_topl (fun y_1 ey_1 => ?_)
  first | have jy_1 : y_1.toInt = y.toInt - p1.toInt := (by have q7 := ci_rng y; have q9 := cl_sub (x := y.toInt64) (y := p1) (u := y.toInt) (v := p1.toInt) (Int32.toInt_toInt64 y) rfl ey_1; omega) | have jy_1 := cl_sub (x := y.toInt64) (y := p1) (u := y.toInt) (v := p1.toInt) (Int32.toInt_toInt64 y) rfl ey_1
  refine va_mmax_long hx hb (F.2.2.1.trans hl.1.symm) F.2.2.2.1 (F.2.2.2.2 _ km_X3_42) (F.2.2.2.2 _ ks_J9_max_f86c9) (F.2.2.2.2 _ ki_J9) (F.2.2.2.2 _ kd_J9_max_f86c9) (Nat.le_of_ble_eq_true rfl) (Nat.le_of_ble_eq_true rfl) (Nat.le_of_ble_eq_true rfl) (Nat.le_of_ble_eq_true rfl) dX3_paysPart_8 ?_
  refine lv_topl (fun y_2 ey_2 => ?_)
  have jy_2 := cl_max (x := 0) (y := y_1) (u := 0) (v := y_1.toInt) (by decide) rfl ey_2
  refine lv_lstore_n (lv' := [(3, .long y_2), (0, .ref h), (1, .int x), (2, .int y)]) hx hb dX3_paysPart_11 rfl hl (by decide) rfl (fun ls hl => ?_)
  refine lv_aload_n hx hb dX3_paysPart_12 rfl (lv_at hl 1 rfl) ?_
  refine cs_get F St 0 rfl rfl inX3 0 (by decide) kf_X3_7 rfl dX3_paysPart_13 ?_
  refine lv_lload_n hx hb dX3_paysPart_16 rfl (lv_at hl 0 rfl) ?_
  refine lv_ladd hx hb dX3_paysPart_17 ?_
  refine lv_topl (fun y_3 ey_3 => ?_)
  first | have jy_3 : y_3.toInt = p0.toInt + y_2.toInt := (by have q9 := cl_add (x := p0) (y := y_2) (u := p0.toInt) (v := y_2.toInt) rfl rfl ey_3; omega) | have jy_3 := cl_add (x := p0) (y := y_2) (u := p0.toInt) (v := y_2.toInt) rfl rfl ey_3
  refine lv_iload_n hx hb dX3_paysPart_18 rfl (lv_at hl 2 rfl) ?_
  refine lv_i2l (v := x.toInt64) hx hb dX3_paysPart_19 rfl ?_
  refine W.lcmp hx hb dX3_paysPart_20 ?_
  refine lv_if_ge (tgt := 26) hx hb dX3_paysPart_21 (by decide) (fun c21 => ?_) (fun c21 => ?_)
  ·
    have i21 := cl_le (x := x.toInt64) (y := y_3) (u := x.toInt) (v := y_3.toInt) (Int32.toInt_toInt64 x) rfl ((lg_cmp_ge _ _).mp c21)
    refine lv_lconst (v := 0) hx hb dX3_paysPart_26 (by decide) ?_
    refine lv_iload_n hx hb dX3_paysPart_27 rfl (lv_at hl 2 rfl) ?_
    refine lv_i2l (v := x.toInt64) hx hb dX3_paysPart_28 rfl ?_
    refine lv_aload_n hx hb dX3_paysPart_29 rfl (lv_at hl 1 rfl) ?_
    refine cs_get F St 0 rfl rfl inX3 0 (by decide) kf_X3_7 rfl dX3_paysPart_30 ?_
    refine lv_lsub hx hb dX3_paysPart_33 ?_
    refine lv_topl (fun y_4 ey_4 => ?_)
    first | have jy_4 : y_4.toInt = x.toInt - p0.toInt := (by have q7 := ci_rng x; have q9 := cl_sub (x := x.toInt64) (y := p0) (u := x.toInt) (v := p0.toInt) (Int32.toInt_toInt64 x) rfl ey_4; omega) | have jy_4 := cl_sub (x := x.toInt64) (y := p0) (u := x.toInt) (v := p0.toInt) (Int32.toInt_toInt64 x) rfl ey_4
    refine va_mmax_long hx hb (F.2.2.1.trans hl.1.symm) F.2.2.2.1 (F.2.2.2.2 _ km_X3_42) (F.2.2.2.2 _ ks_J9_max_f86c9) (F.2.2.2.2 _ ki_J9) (F.2.2.2.2 _ kd_J9_max_f86c9) (Nat.le_of_ble_eq_true rfl) (Nat.le_of_ble_eq_true rfl) (Nat.le_of_ble_eq_true rfl) (Nat.le_of_ble_eq_true rfl) dX3_paysPart_34 ?_
    refine lv_topl (fun y_5 ey_5 => ?_)
    have jy_5 := cl_max (x := 0) (y := y_4) (u := 0) (v := y_4.toInt) (by decide) rfl ey_5
    refine lv_lstore (lv' := [(5, .long y_5), (3, .long y_2), (0, .ref h), (1, .int x), (2, .int y)]) hx hb dX3_paysPart_37 hl (by decide) rfl (fun ls hl => ?_)
    refine lv_aload_n hx hb dX3_paysPart_39 rfl (lv_at hl 2 rfl) ?_
    refine lv_dup hx hb dX3_paysPart_40 rfl ?_
    refine cs_get F St 0 rfl rfl inX3 1 (by decide) kf_X3_13 rfl dX3_paysPart_41 ?_
    refine lv_lload hx hb dX3_paysPart_44 (lv_at hl 0 rfl) ?_
    refine lv_ladd hx hb dX3_paysPart_46 ?_
    refine lv_topl (fun y_6 ey_6 => ?_)
    first | have jy_6 : y_6.toInt = p1.toInt + y_5.toInt := (by have q9 := cl_add (x := p1) (y := y_5) (u := p1.toInt) (v := y_5.toInt) rfl rfl ey_6; omega) | have jy_6 := cl_add (x := p1) (y := y_5) (u := p1.toInt) (v := y_5.toInt) rfl rfl ey_6
    refine cs_put F St 0 rfl rfl inX3 tyX3_ok nmX3 1 (by decide) kf_X3_13 rfl rfl rfl (Nat.le_of_ble_eq_true rfl) (w' := [(qJJJJJJ h 3 p0 y_6 p2 p3 p4 p5)]) rfl dX3_paysPart_47 (fun H locs St => ?_)
    refine lv_aload_n hx hb dX3_paysPart_50 rfl (lv_at hl 2 rfl) ?_
    refine lv_dup hx hb dX3_paysPart_51 rfl ?_
    refine cs_get F St 0 rfl rfl inX3 0 (by decide) kf_X3_7 rfl dX3_paysPart_52 ?_
    refine lv_lload hx hb dX3_paysPart_55 (lv_at hl 0 rfl) ?_
    refine lv_iload_n hx hb dX3_paysPart_57 rfl (lv_at hl 3 rfl) ?_
    refine lv_i2l (v := x.toInt64) hx hb dX3_paysPart_58 rfl ?_
    refine lv_lsub hx hb dX3_paysPart_59 ?_
    refine lv_topl (fun y_7 ey_7 => ?_)
    first | have jy_7 : y_7.toInt = y_5.toInt - x.toInt := (by have q8 := ci_rng x; have q9 := cl_sub (x := y_5) (y := x.toInt64) (u := y_5.toInt) (v := x.toInt) rfl (Int32.toInt_toInt64 x) ey_7; omega) | have jy_7 := cl_sub (x := y_5) (y := x.toInt64) (u := y_5.toInt) (v := x.toInt) rfl (Int32.toInt_toInt64 x) ey_7
    refine lv_ladd hx hb dX3_paysPart_60 ?_
    refine lv_topl (fun y_8 ey_8 => ?_)
    first | have jy_8 : y_8.toInt = p0.toInt + y_7.toInt := (by have q9 := cl_add (x := p0) (y := y_7) (u := p0.toInt) (v := y_7.toInt) rfl rfl ey_8; omega) | have jy_8 := cl_add (x := p0) (y := y_7) (u := p0.toInt) (v := y_7.toInt) rfl rfl ey_8
    refine cs_put F St 0 rfl rfl inX3 tyX3_ok nmX3 0 (by decide) kf_X3_7 rfl rfl rfl (Nat.le_of_ble_eq_true rfl) (w' := [(qJJJJJJ h 3 y_8 y_6 p2 p3 p4 p5)]) rfl dX3_paysPart_61 (fun H locs St => ?_)
    refine lv_aload_n hx hb dX3_paysPart_64 rfl (lv_at hl 2 rfl) ?_
    refine lv_dup hx hb dX3_paysPart_65 rfl ?_
    refine cs_get F St 0 rfl rfl inX3 4 (by decide) kf_X3_22 rfl dX3_paysPart_66 ?_
    refine lv_iload_n hx hb dX3_paysPart_69 rfl (lv_at hl 3 rfl) ?_
    refine lv_i2l (v := x.toInt64) hx hb dX3_paysPart_70 rfl ?_
    refine lv_ladd hx hb dX3_paysPart_71 ?_
    refine lv_topl (fun y_9 ey_9 => ?_)
    first | have jy_9 : y_9.toInt = p4.toInt + x.toInt := (by have q8 := ci_rng x; have q9 := cl_add (x := p4) (y := x.toInt64) (u := p4.toInt) (v := x.toInt) rfl (Int32.toInt_toInt64 x) ey_9; omega) | have jy_9 := cl_add (x := p4) (y := x.toInt64) (u := p4.toInt) (v := x.toInt) rfl (Int32.toInt_toInt64 x) ey_9
    refine cs_put F St 0 rfl rfl inX3 tyX3_ok nmX3 4 (by decide) kf_X3_22 rfl rfl rfl (Nat.le_of_ble_eq_true rfl) (w' := [(qJJJJJJ h 3 y_8 y_6 p2 p3 y_9 p5)]) rfl dX3_paysPart_72 (fun H locs St => ?_)
    refine lv_iconst (v := 1) hx hb dX3_paysPart_75 (by decide) ?_
    exact cs_zret F hr hlk hQ St (y_8, y_6, p2, p3, y_9, p5) (r := 1) rfl (Or.inl ⟨rfl, pa_n (by omega) (by omega), ey_9, ⟨rfl, rfl, rfl⟩⟩) [0] rfl (by decide) [] rfl (by decide) (by decide) dX3_paysPart_76
  ·
    have i21 := cl_nle (x := x.toInt64) (y := y_3) (u := x.toInt) (v := y_3.toInt) (Int32.toInt_toInt64 x) rfl (fun q => c21 ((lg_cmp_ge _ _).mpr q))
    refine lv_iconst (v := 0) hx hb dX3_paysPart_24 (by decide) ?_
    exact cs_zret F hr hlk hQ St (p0, p1, p2, p3, p4, p5) (r := 0) rfl (Or.inr ⟨rfl, pa_y (by omega), ⟨rfl, rfl, rfl, rfl, rfl, rfl⟩⟩) [0] rfl (by decide) [] rfl (by decide) (by decide) dX3_paysPart_25
set_option maxHeartbeats 4000000 in
set_option maxRecDepth 100000 in
theorem e4_runs (l : Launch) (G : va_G) (k : Nat → Nat) (sz : Nat) (h : Nat) (s0 : Int32) (s1 : Int32) (s2 : Int32) (s3 : Int32) (s4 : Int32) (s5 : Int32) : Met l yX4_runs (Cond.code yX4_runs cX4_runs 1 (some .boolean) :: tb) ({ frames := 0, cells := 0, slots := 0, locals := 0 } : Room) (va_Pc [.ref h] (cP G k [(qIIIIII h 4 s0 s1 s2 s3 s4 s5)] [] sz)) (va_Qi (fun (r : Int32) (_ : Unit) => ((r = 1) ∧ (s2.toInt = 1)) ∨ ((r = 0) ∧ (¬ (s2.toInt = 1)))) (cB G (fun (_ : Unit) => [(qIIIIII h 4 s0 s1 s2 s3 s4 s5)]) (fun (_ : Unit) => []) (va_A [(qIIIIII h 4 s0 s1 s2 s3 s4 s5)] sz)) (va_A [(qIIIIII h 4 s0 s1 s2 s3 s4 s5)] sz)) 0 0 (va_A [(qIIIIII h 4 s0 s1 s2 s3 s4 s5)] sz) := by
  refine ofC_i (cc := cX4_runs) (maxL := 1) (ret := (some .boolean)) (by decide) rfl (Nat.le_of_ble_eq_true rfl) ?_
  intro p e s m args below meth c A ls Q F hr hin hlk St hl hQ
  have hx := F.1
  have hb := F.2.1
  have hl : lv_has ls 1 [(0, .ref h)] := hl
  have St : cS G k [(qIIIIII h 4 s0 s1 s2 s3 s4 s5)] [] A s s.heap [] := St
  have y1 : (1 : Int32).toInt = 1 := by decide
  refine lv_aload_n hx hb dX4_runs_0 rfl (lv_at hl 0 rfl) ?_
  refine cs_get F St 0 rfl rfl inX4 2 (by decide) kf_X4_9 rfl dX4_runs_1 ?_
  refine lv_iconst (v := 1) hx hb dX4_runs_4 (by decide) ?_
  refine lv_icmp_ne (tgt := 12) hx hb dX4_runs_5 (by decide) (fun c5 => ?_) (fun c5 => ?_)
  ·
    have i5 := ci_ne (x := s2) (y := 1) rfl (show (1 : Int32).toInt = 1 by decide) c5
    refine lv_iconst (v := 0) hx hb dX4_runs_12 (by decide) ?_
    exact cs_zret F hr hlk hQ St () (r := 0) rfl (Or.inr ⟨rfl, by omega⟩) [0] rfl (by decide) [] rfl (by decide) (by decide) dX4_runs_13
  ·
    have i5 := ci_eq (x := s2) (y := 1) rfl (show (1 : Int32).toInt = 1 by decide) c5
    refine lv_iconst (v := 1) hx hb dX4_runs_8 (by decide) ?_
    refine lv_goto (tgt := 13) hx hb dX4_runs_9 (by decide) ?_
    exact cs_zret F hr hlk hQ St () (r := 1) rfl (Or.inl ⟨rfl, by omega⟩) [0] rfl (by decide) [] rfl (by decide) (by decide) dX4_runs_13
set_option maxHeartbeats 4000000 in
set_option maxRecDepth 100000 in
theorem e4_nextPart (l : Launch) (G : va_G) (k : Nat → Nat) (sz : Nat) (h : Nat) (s0 : Int32) (s1 : Int32) (s2 : Int32) (s3 : Int32) (s4 : Int32) (s5 : Int32) (hw : ((1 ≤ s0.toInt ∧ s0.toInt ≤ 100000000) ∧ (1 ≤ s1.toInt ∧ s1.toInt ≤ 24) ∧ 0 ≤ s3.toInt ∧ s3.toInt < s1.toInt) ∧ s4.toInt = s0.toInt / s1.toInt * s3.toInt) : Met l yX4_nextPart (Cond.code yX4_nextPart cX4_nextPart 1 (some .int) :: tb) ({ frames := 0, cells := 0, slots := 0, locals := 0 } : Room) (va_Pc [.ref h] (cP G k [(qIIIIII h 4 s0 s1 s2 s3 s4 s5)] [] sz)) (va_Qi (fun (r : Int32) (_ : Unit) => (r.toInt = ptS s0.toInt s1.toInt s3.toInt)) (cB G (fun (_ : Unit) => [(qIIIIII h 4 s0 s1 s2 s3 s4 s5)]) (fun (_ : Unit) => []) (va_A [(qIIIIII h 4 s0 s1 s2 s3 s4 s5)] sz)) (va_A [(qIIIIII h 4 s0 s1 s2 s3 s4 s5)] sz)) 0 0 (va_A [(qIIIIII h 4 s0 s1 s2 s3 s4 s5)] sz) := by
  refine ofC_i (cc := cX4_nextPart) (maxL := 1) (ret := (some .int)) (by decide) rfl (Nat.le_of_ble_eq_true rfl) ?_
  intro p e s m args below meth c A ls Q F hr hin hlk St hl hQ
  have hx := F.1
  have hb := F.2.1
  have hl : lv_has ls 1 [(0, .ref h)] := hl
  have St : cS G k [(qIIIIII h 4 s0 s1 s2 s3 s4 s5)] [] A s s.heap [] := St
  have hpb := ptS_bd hw.1.1 hw.1.2.1 hw.1.2.2
  refine lv_aload_n hx hb dX4_nextPart_0 rfl (lv_at hl 0 rfl) ?_
  refine cs_get F St 0 rfl rfl inX4 3 (by decide) kf_X4_25 rfl dX4_nextPart_1 ?_
  refine lv_aload_n hx hb dX4_nextPart_4 rfl (lv_at hl 0 rfl) ?_
  refine cs_get F St 0 rfl rfl inX4 1 (by decide) kf_X4_16 rfl dX4_nextPart_5 ?_
  refine lv_iconst (v := 1) hx hb dX4_nextPart_8 (by decide) ?_
  refine lv_isub hx hb dX4_nextPart_9 ?_
  refine lv_topi (fun y_1 ey_1 => ?_)
  first | have jy_1 : y_1.toInt = s1.toInt - 1 := (by have q9 := ci_sub (x := s1) (y := 1) rfl (show (1 : Int32).toInt = 1 by decide) ey_1; omega) | have jy_1 := ci_sub (x := s1) (y := 1) rfl (show (1 : Int32).toInt = 1 by decide) ey_1
  refine lv_icmp_ge (tgt := 21) hx hb dX4_nextPart_10 (by decide) (fun c10 => ?_) (fun c10 => ?_)
  ·
    have i10 := ci_le (x := y_1) (y := s3) rfl rfl c10
    refine lv_aload_n hx hb dX4_nextPart_21 rfl (lv_at hl 0 rfl) ?_
    refine cs_get F St 0 rfl rfl inX4 0 (by decide) kf_X4_13 rfl dX4_nextPart_22 ?_
    refine lv_aload_n hx hb dX4_nextPart_25 rfl (lv_at hl 0 rfl) ?_
    refine cs_get F St 0 rfl rfl inX4 4 (by decide) kf_X4_19 rfl dX4_nextPart_26 ?_
    refine lv_isub hx hb dX4_nextPart_29 ?_
    refine lv_topi (fun y_2 ey_2 => ?_)
    first | have jy_2 : y_2.toInt = s0.toInt - s4.toInt := (by have q9 := ci_sub (x := s0) (y := s4) rfl rfl ey_2; omega) | have jy_2 := ci_sub (x := s0) (y := s4) rfl rfl ey_2
    exact cs_iret F hr hlk hQ St () (r := y_2) (by unfold ptS; rw [if_pos (by omega)]; omega) [0] rfl (by decide) [] rfl (by decide) (by decide) dX4_nextPart_30
  ·
    have i10 := ci_nle (x := y_1) (y := s3) rfl rfl c10
    refine lv_aload_n hx hb dX4_nextPart_13 rfl (lv_at hl 0 rfl) ?_
    refine cs_get F St 0 rfl rfl inX4 1 (by decide) kf_X4_16 rfl dX4_nextPart_14 ?_
    refine lv_iconst (v := 1) hx hb dX4_nextPart_17 (by decide) ?_
    refine lv_icmp_ge (tgt := 31) hx hb dX4_nextPart_18 (by decide) (fun c18 => ?_) (fun c18 => ?_)
    rotate_left
    · have i18 := ci_nle (x := 1) (y := s1) (show (1 : Int32).toInt = 1 by decide) rfl c18; exact False.elim (by omega)
    have i18 := ci_le (x := 1) (y := s1) (show (1 : Int32).toInt = 1 by decide) rfl c18
    refine lv_aload_n hx hb dX4_nextPart_31 rfl (lv_at hl 0 rfl) ?_
    refine cs_get F St 0 rfl rfl inX4 0 (by decide) kf_X4_13 rfl dX4_nextPart_32 ?_
    refine lv_aload_n hx hb dX4_nextPart_35 rfl (lv_at hl 0 rfl) ?_
    refine cs_get F St 0 rfl rfl inX4 1 (by decide) kf_X4_16 rfl dX4_nextPart_36 ?_
    skip
    refine lv_idiv hx hb dX4_nextPart_39 (ne0_i (by omega)) ?_
    refine lv_topi (fun y_3 ey_3 => ?_)
    have jdv := ci_div (u := s0.toInt) (v := s1.toInt) rfl rfl ey_3 (by omega) (by omega)
    exact cs_iret F hr hlk hQ St () (r := y_3) (by unfold ptS; rw [if_neg (by omega)]; exact jdv) [0] rfl (by decide) [] rfl (by decide) (by decide) dX4_nextPart_40
set_option maxHeartbeats 4000000 in
set_option maxRecDepth 100000 in
theorem e4_bookPart (l : Launch) (G : va_G) (k : Nat → Nat) (sz : Nat) (h : Nat) (s0 : Int32) (s1 : Int32) (s2 : Int32) (s3 : Int32) (s4 : Int32) (s5 : Int32) (x : Int32) (hs3 : 0 ≤ s3.toInt ∧ s3.toInt ≤ 24) : Met l yX4_bookPart (Cond.code yX4_bookPart cX4_bookPart 2 none :: tb) ({ frames := 0, cells := 0, slots := 0, locals := 0 } : Room) (va_Pc [.ref h, .int x] (cP G k [(qIIIIII h 4 s0 s1 s2 s3 s4 s5)] [] sz)) (va_Qv (fun (u : Int32 × Int32 × Int32) => match u with | (z2, z3, z4) => (z3 = s3 + 1) ∧ (z4 = s4 + x) ∧ ((s1.toInt ≤ s3.toInt + 1 ∧ z2 = 2) ∨ (¬ s1.toInt ≤ s3.toInt + 1 ∧ z2 = s2))) (cB G (fun u => match u with | (z2, z3, z4) => [(qIIIIII h 4 s0 s1 z2 z3 z4 s5)]) (fun u => match u with | (z2, z3, z4) => []) (va_A [(qIIIIII h 4 s0 s1 s2 s3 s4 s5)] sz)) (va_A [(qIIIIII h 4 s0 s1 s2 s3 s4 s5)] sz)) 0 0 (va_A [(qIIIIII h 4 s0 s1 s2 s3 s4 s5)] sz) := by
  refine ofC_v (cc := cX4_bookPart) (maxL := 2) (ret := none) (by decide) rfl (Nat.le_of_ble_eq_true rfl) ?_
  intro p e s m args below meth c A ls Q F hr hin hlk St hl hQ
  have hx := F.1
  have hb := F.2.1
  have hl : lv_has ls 2 [(0, .ref h), (1, .int x)] := hl
  have St : cS G k [(qIIIIII h 4 s0 s1 s2 s3 s4 s5)] [] A s s.heap [] := St
  refine lv_aload_n hx hb dX4_bookPart_0 rfl (lv_at hl 0 rfl) ?_
  refine lv_dup hx hb dX4_bookPart_1 rfl ?_
  refine cs_get F St 0 rfl rfl inX4 4 (by decide) kf_X4_19 rfl dX4_bookPart_2 ?_
  refine lv_iload_n hx hb dX4_bookPart_5 rfl (lv_at hl 1 rfl) ?_
  refine lv_iadd hx hb dX4_bookPart_6 ?_
  refine lv_topi (fun y_1 ey_1 => ?_)
  first | have jy_1 : y_1.toInt = s4.toInt + x.toInt := (by have q9 := ci_add (x := s4) (y := x) rfl rfl ey_1; omega) | have jy_1 := ci_add (x := s4) (y := x) rfl rfl ey_1
  refine cs_put F St 0 rfl rfl inX4 tyX4_ok nmX4 4 (by decide) kf_X4_19 rfl rfl rfl (Nat.le_of_ble_eq_true rfl) (w' := [(qIIIIII h 4 s0 s1 s2 s3 y_1 s5)]) rfl dX4_bookPart_7 (fun H locs St => ?_)
  refine lv_aload_n hx hb dX4_bookPart_10 rfl (lv_at hl 0 rfl) ?_
  refine lv_dup hx hb dX4_bookPart_11 rfl ?_
  refine cs_get F St 0 rfl rfl inX4 3 (by decide) kf_X4_25 rfl dX4_bookPart_12 ?_
  refine lv_iconst (v := 1) hx hb dX4_bookPart_15 (by decide) ?_
  refine lv_iadd hx hb dX4_bookPart_16 ?_
  refine lv_topi (fun y_2 ey_2 => ?_)
  first | have jy_2 : y_2.toInt = s3.toInt + 1 := (by have q9 := ci_add (x := s3) (y := 1) rfl (show (1 : Int32).toInt = 1 by decide) ey_2; omega) | have jy_2 := ci_add (x := s3) (y := 1) rfl (show (1 : Int32).toInt = 1 by decide) ey_2
  refine cs_put F St 0 rfl rfl inX4 tyX4_ok nmX4 3 (by decide) kf_X4_25 rfl rfl rfl (Nat.le_of_ble_eq_true rfl) (w' := [(qIIIIII h 4 s0 s1 s2 y_2 y_1 s5)]) rfl dX4_bookPart_17 (fun H locs St => ?_)
  refine lv_aload_n hx hb dX4_bookPart_20 rfl (lv_at hl 0 rfl) ?_
  refine cs_get F St 0 rfl rfl inX4 3 (by decide) kf_X4_25 rfl dX4_bookPart_21 ?_
  refine lv_aload_n hx hb dX4_bookPart_24 rfl (lv_at hl 0 rfl) ?_
  refine cs_get F St 0 rfl rfl inX4 1 (by decide) kf_X4_16 rfl dX4_bookPart_25 ?_
  refine lv_icmp_lt (tgt := 36) hx hb dX4_bookPart_28 (by decide) (fun c28 => ?_) (fun c28 => ?_)
  ·
    have i28 := ci_lt (x := y_2) (y := s1) rfl rfl c28
    exact cs_vret F hr hlk hQ St (s2, y_2, y_1) ⟨ey_2, ey_1, Or.inr ⟨by omega, rfl⟩⟩ [0] rfl (by decide) [] rfl (by decide) (by decide) dX4_bookPart_36
  ·
    have i28 := ci_nlt (x := y_2) (y := s1) rfl rfl c28
    refine lv_aload_n hx hb dX4_bookPart_31 rfl (lv_at hl 0 rfl) ?_
    refine lv_iconst (v := 2) hx hb dX4_bookPart_32 (by decide) ?_
    refine cs_put F St 0 rfl rfl inX4 tyX4_ok nmX4 2 (by decide) kf_X4_9 rfl rfl rfl (Nat.le_of_ble_eq_true rfl) (w' := [(qIIIIII h 4 s0 s1 2 y_2 y_1 s5)]) rfl dX4_bookPart_33 (fun H locs St => ?_)
    exact cs_vret F hr hlk hQ St (2, y_2, y_1) ⟨ey_2, ey_1, Or.inl ⟨by omega, rfl⟩⟩ [0] rfl (by decide) [] rfl (by decide) (by decide) dX4_bookPart_36
set_option maxHeartbeats 4000000 in
set_option maxRecDepth 100000 in
theorem e4_bookPause (l : Launch) (G : va_G) (k : Nat → Nat) (sz : Nat) (h : Nat) (s0 : Int32) (s1 : Int32) (s2 : Int32) (s3 : Int32) (s4 : Int32) (s5 : Int32) : Met l yX4_bookPause (Cond.code yX4_bookPause cX4_bookPause 1 none :: tb) ({ frames := 0, cells := 0, slots := 0, locals := 0 } : Room) (va_Pc [.ref h] (cP G k [(qIIIIII h 4 s0 s1 s2 s3 s4 s5)] [] sz)) (va_Qv (fun (z5 : Int32) => (z5 = s5 + 1)) (cB G (fun (z5 : Int32) => [(qIIIIII h 4 s0 s1 s2 s3 s4 z5)]) (fun (z5 : Int32) => []) (va_A [(qIIIIII h 4 s0 s1 s2 s3 s4 s5)] sz)) (va_A [(qIIIIII h 4 s0 s1 s2 s3 s4 s5)] sz)) 0 0 (va_A [(qIIIIII h 4 s0 s1 s2 s3 s4 s5)] sz) := by
  refine ofC_v (cc := cX4_bookPause) (maxL := 1) (ret := none) (by decide) rfl (Nat.le_of_ble_eq_true rfl) ?_
  intro p e s m args below meth c A ls Q F hr hin hlk St hl hQ
  have hx := F.1
  have hb := F.2.1
  have hl : lv_has ls 1 [(0, .ref h)] := hl
  have St : cS G k [(qIIIIII h 4 s0 s1 s2 s3 s4 s5)] [] A s s.heap [] := St
  refine lv_aload_n hx hb dX4_bookPause_0 rfl (lv_at hl 0 rfl) ?_
  refine lv_dup hx hb dX4_bookPause_1 rfl ?_
  refine cs_get F St 0 rfl rfl inX4 5 (by decide) kf_X4_22 rfl dX4_bookPause_2 ?_
  refine lv_iconst (v := 1) hx hb dX4_bookPause_5 (by decide) ?_
  refine lv_iadd hx hb dX4_bookPause_6 ?_
  refine lv_topi (fun y_1 ey_1 => ?_)
  first | have jy_1 : y_1.toInt = s5.toInt + 1 := (by have q9 := ci_add (x := s5) (y := 1) rfl (show (1 : Int32).toInt = 1 by decide) ey_1; omega) | have jy_1 := ci_add (x := s5) (y := 1) rfl (show (1 : Int32).toInt = 1 by decide) ey_1
  refine cs_put F St 0 rfl rfl inX4 tyX4_ok nmX4 5 (by decide) kf_X4_22 rfl rfl rfl (Nat.le_of_ble_eq_true rfl) (w' := [(qIIIIII h 4 s0 s1 s2 s3 s4 y_1)]) rfl dX4_bookPause_7 (fun H locs St => ?_)
  exact cs_vret F hr hlk hQ St y_1 ey_1 [0] rfl (by decide) [] rfl (by decide) (by decide) dX4_bookPause_10
set_option maxHeartbeats 4000000 in
set_option maxRecDepth 100000 in
theorem e7_running (l : Launch) (G : va_G) (k : Nat → Nat) (sz : Nat) (h : Nat) (b : Nat) (cf : ClassId) (tn : Int32) (td : Int32) (fs : Nat → Option Nat) (nS : Nat) (bS : Nat → va_W) (sc : Nat → Int32) (sl : Nat → Int32) (sk : Nat → Int32) (sq : Nat → Int32) (su : Nat → Int32) (hnS : (nS : Int) = tn.toInt) (hn8 : nS ≤ 8) (hZ : ∀ i, i < nS → okZ (zT td.toInt sc sl sk sq su i) (fs i) (bS i)) (hwS : wfS tn.toInt td.toInt sc sl sk sq) : Met l yX7_running (Cond.code yX7_running cX7_running 2 (some (.object "TowerAppeal$Stage")) :: tb) ({ frames := 1, cells := 0, slots := 0, locals := 21 } : Room) (va_Pc [.ref h] (cP G k ([(qAII h 7 b tn td), (qarQ b cf 8 fs)] ++ (PW nS bS ++ [])) [(cf, .object "TowerAppeal$Stage")] sz)) (va_Qq (fun (r : Option Nat) (bS2 : (Nat → va_W)) => ((r = none) ∧ (¬ (1 ≤ td.toInt ∧ (sk (td.toInt.toNat - 1)).toInt < (sl (td.toInt.toNat - 1)).toInt)) ∧ (∀ i, i < nS → okZ (zT td.toInt sc sl sk sq su i) (fs i) (bS2 i))) ∨ ((r = fs (td.toInt.toNat - 1)) ∧ ((1 ≤ td.toInt ∧ (sk (td.toInt.toNat - 1)).toInt < (sl (td.toInt.toNat - 1)).toInt)) ∧ (∀ i, i < nS → okZ (zT td.toInt sc sl sk sq su i) (fs i) (bS2 i)))) (cB G (fun (bS2 : (Nat → va_W)) => ([(qAII h 7 b tn td), (qarQ b cf 8 fs)] ++ (PW nS bS2 ++ []))) (fun (bS2 : (Nat → va_W)) => []) (va_A ([(qAII h 7 b tn td), (qarQ b cf 8 fs)] ++ (PW nS bS ++ [])) sz)) (va_A ([(qAII h 7 b tn td), (qarQ b cf 8 fs)] ++ (PW nS bS ++ [])) sz)) 0 0 (va_A ([(qAII h 7 b tn td), (qarQ b cf 8 fs)] ++ (PW nS bS ++ [])) sz) := by
  refine ofC_q (cc := cX7_running) (maxL := 2) (ret := (some (.object "TowerAppeal$Stage"))) (by decide) rfl (Nat.le_of_ble_eq_true rfl) ?_
  intro p e s m args below meth c A ls Q F hr hin hlk St hl hQ
  have hx := F.1
  have hb := F.2.1
  have hl : lv_has ls 2 [(0, .ref h)] := hl
  have St : cS G k ([(qAII h 7 b tn td), (qarQ b cf 8 fs)] ++ (PW nS bS ++ [])) [(cf, .object "TowerAppeal$Stage")] A s s.heap [] := St
  have y0 : (0 : Int32).toInt = 0 := by decide
  have htd := hwS.1
  skip
  refine lv_aload_n hx hb dX7_running_0 rfl (lv_at hl 0 rfl) ?_
  refine lv_aload_n hx hb dX7_running_1 rfl (lv_at hl 0 rfl) ?_
  refine ct_get F St 0 rfl rfl inX7 2 (by decide) kf_X7_21 rfl dX7_running_2 ?_
  refine lv_iconst (v := 1) hx hb dX7_running_5 (by decide) ?_
  refine lv_isub hx hb dX7_running_6 ?_
  refine lv_topi (fun y_1 ey_1 => ?_)
  first | have jy_1 : y_1.toInt = td.toInt - 1 := (by have q9 := ci_sub (x := td) (y := 1) rfl (show (1 : Int32).toInt = 1 by decide) ey_1; omega) | have jy_1 := ci_sub (x := td) (y := 1) rfl (show (1 : Int32).toInt = 1 by decide) ey_1
  refine ct_q St [0, 1] [] (wc := [(qAII h 7 b tn td), (qarQ b cf 8 fs)]) (wr := []) rfl rfl (by decide) (by decide) (va_runV (As := [.int y_1]) (rest := []) F (x7_at l G k _ h b cf tn td fs y_1 (by omega) (by omega)) (cwVt F mf_X7_at km_X7_24 rfl rfl ⟨Nat.le_of_ble_eq_true rfl, Nat.le_of_ble_eq_true rfl⟩) (ct_preV St [0, 1] rfl (by decide) [0] rfl (ci := 7) (q0 := 0) rfl rfl) rfl rfl hl.1 rfl (lv_room (Nat.le_of_ble_eq_true rfl)) dX7_running_7 ⟨Nat.le_of_ble_eq_true rfl, Nat.le_of_ble_eq_true rfl⟩) (fun r_2 u_3 H locs hw St => ?_)
  try dsimp only at hw
  rcases hw with ⟨z_4, hf_5⟩ | ⟨z_6, hf_7⟩
  ·
    subst r_2
    have St : cS G k ([(qAII h 7 b tn td), (qarQ b cf 8 fs)] ++ (PW nS bS ++ [])) [(cf, .object "TowerAppeal$Stage")] A s H locs := St
    show W _ _ _ _ _ _ _ _ _ _ _ _ _ _ _ (F0 m 10 ls [.null])
    refine lv_astore_nN (lv' := [(1, .null), (0, .ref h)]) hx hb dX7_running_10 rfl hl (by decide) rfl (fun ls hl => ?_)
    refine lv_aload_nN hx hb dX7_running_11 rfl (lv_at hl 0 rfl) ?_
    refine lv_ifnullN (tgt := 26) hx hb dX7_running_12 (by decide) ?_
    refine lv_null hx hb dX7_running_26 ?_
    have St : cS G k ([(qAII h 7 b tn td), (qarQ b cf 8 fs)] ++ (PW nS bS ++ [])) [(cf, .object "TowerAppeal$Stage")] A s _ _ := ct_pick St [0, 1] rfl (by decide) [0] rfl
    exact cs_qret F hr (Or.inl ⟨_, rfl⟩) hlk hQ St bS none rfl (Or.inl ⟨rfl, by omega, hZ⟩) (List.range _) (ix_all (w := ([(qAII h 7 b tn td), (qarQ b cf 8 fs)] ++ (PW nS bS ++ [])))) nd_C [] rfl (by decide) (by decide) dX7_running_27
  ·
    have St : cS G k ([(qAII h 7 b tn td), (qarQ b cf 8 fs)] ++ (PW nS bS ++ [])) [(cf, .object "TowerAppeal$Stage")] A s H locs := St
    obtain ⟨h_8, s0_9, s1_10, s2_11, s3_12, s4_13, s5_14, q_15, q_16, q_17⟩ := (hZ _ (nc_lt (x := y_1) (n := nS) (by omega) (by omega)))
    have hj_18 := (nc_lt (x := y_1) (n := nS) (by omega) (by omega))
    have St : cS G k ([(qAII h 7 b tn td), (qarQ b cf 8 fs), (qIIIIII h_8 4 s0_9 s1_10 s2_11 s3_12 s4_13 s5_14)] ++ (PWx nS y_1.toNatClampNeg bS ++ [])) [(cf, .object "TowerAppeal$Stage")] A s H locs := cs_pull (cs := [(qAII h 7 b tn td), (qarQ b cf 8 fs)]) (rs := []) (b := [(qIIIIII h_8 4 s0_9 s1_10 s2_11 s3_12 s4_13 s5_14)]) St hj_18 q_16
    obtain rfl : r_2 = some h_8 := z_6.trans q_15
    show W _ _ _ _ _ _ _ _ _ _ _ _ _ _ _ (F0 m 10 ls [.ref h_8])
    have hjI : y_1.toNatClampNeg = (td.toInt.toNat - 1) := by have q9 := nc_int (x := y_1) (by omega); omega
    have hz9 := zT_at q_17
    rw [hjI] at hz9
    obtain ⟨hz0, hz1, hz2, hz3, hz4, hz5⟩ := hz9
    have hpr := prZ_i (td := td.toInt) (sl := sl) (sk := sk) (j := (td.toInt.toNat - 1))
    rw [← hz2, ← hz3, ← hz1] at hpr
    have hg3 := congrArg Int32.toInt hz3
    have hg1 := congrArg Int32.toInt hz1
    refine lv_astore_n (lv' := [(1, .ref h_8), (0, .ref h)]) hx hb dX7_running_10 rfl hl (by decide) rfl (fun ls hl => ?_)
    refine lv_aload_n hx hb dX7_running_11 rfl (lv_at hl 0 rfl) ?_
    refine lv_ifnull hx hb dX7_running_12 ?_
    refine lv_aload_n hx hb dX7_running_15 rfl (lv_at hl 0 rfl) ?_
    refine ct_i St [2] [0, 1] (wc := [(qIIIIII h_8 4 s0_9 s1_10 s2_11 s3_12 s4_13 s5_14)]) (wr := [(qAII h 7 b tn td), (qarQ b cf 8 fs)]) rfl rfl (by decide) (by decide) (va_runV (As := []) (rest := []) F (e4_runs l G k _ h_8 s0_9 s1_10 s2_11 s3_12 s4_13 s5_14) (cwVt F mf_X4_runs km_X7_28 rfl rfl ⟨Nat.le_of_ble_eq_true rfl, Nat.le_of_ble_eq_true rfl⟩) (ct_preV St [2] rfl (by decide) [] rfl (ci := 4) (q0 := 2) rfl rfl) rfl rfl hl.1 rfl (lv_room (Nat.le_of_ble_eq_true rfl)) dX7_running_16 ⟨Nat.le_of_ble_eq_true rfl, Nat.le_of_ble_eq_true rfl⟩) (fun r_19 u_20 H locs hw St => ?_)
    try dsimp only at hw
    rcases hw with ⟨z_21, hf_22⟩ | ⟨z_23, hf_24⟩
    ·
      subst r_19
      have St : cS G k ([(qAII h 7 b tn td), (qarQ b cf 8 fs), (qIIIIII h_8 4 s0_9 s1_10 s2_11 s3_12 s4_13 s5_14)] ++ (PWx nS y_1.toNatClampNeg bS ++ [])) [(cf, .object "TowerAppeal$Stage")] A s H locs := St
      refine lv_if_eq (tgt := 26) hx hb dX7_running_19 (by decide) (fun c19 => ?_) (fun c19 => ?_)
      · exact absurd c19 (by decide)
      refine lv_aload_n hx hb dX7_running_22 rfl (lv_at hl 0 rfl) ?_
      refine lv_goto (tgt := 27) hx hb dX7_running_23 (by decide) ?_
      have St : cS G k ([(qAII h 7 b tn td), (qarQ b cf 8 fs), (qIIIIII h_8 4 s0_9 s1_10 s2_11 s3_12 s4_13 s5_14)] ++ (PWx nS y_1.toNatClampNeg bS ++ [])) [(cf, .object "TowerAppeal$Stage")] A s H locs := ct_pick St [0, 1, 2] rfl (by decide) [0] rfl
      have St := cs_push (cs := [(qAII h 7 b tn td), (qarQ b cf 8 fs)]) (b := [(qIIIIII h_8 4 s0_9 s1_10 s2_11 s3_12 s4_13 s5_14)]) (rs := []) St hj_18
      obtain ⟨B_25, eB_25⟩ : ∃ zz : Nat → va_W, zz = setB bS y_1.toNatClampNeg [(qIIIIII h_8 4 s0_9 s1_10 s2_11 s3_12 s4_13 s5_14)] := ⟨_, rfl⟩
      rw [← eB_25] at St
      have hB_26 : ∀ i, i < nS → okZ (tbS (zT td.toInt sc sl sk sq su) y_1.toNatClampNeg (s0_9, s1_10, s2_11, s3_12, s4_13, s5_14) i) (fs i) (B_25 i) := by rw [eB_25]; exact okZ_set hZ ⟨h_8, s0_9, s1_10, s2_11, s3_12, s4_13, s5_14, q_15, rfl, rfl⟩
      rw [tbS_own q_17] at hB_26
      have St : cS G k ([(qAII h 7 b tn td), (qarQ b cf 8 fs)] ++ (PW nS B_25 ++ [])) [(cf, .object "TowerAppeal$Stage")] A s H locs := St
      have St : cS G k ([(qAII h 7 b tn td), (qarQ b cf 8 fs)] ++ (PW nS B_25 ++ [])) [(cf, .object "TowerAppeal$Stage")] A s _ _ := ct_pick St [0, 1] rfl (by decide) [0] rfl
      exact cs_qret F hr (Or.inl ⟨_, rfl⟩) hlk hQ St B_25 (some h_8) rfl (Or.inr ⟨by rw [← hjI]; exact q_15.symm, by omega, hB_26⟩) (List.range _) (ix_all (w := ([(qAII h 7 b tn td), (qarQ b cf 8 fs)] ++ (PW nS B_25 ++ [])))) nd_C [] rfl (by decide) (by decide) dX7_running_27
    ·
      subst r_19
      have St : cS G k ([(qAII h 7 b tn td), (qarQ b cf 8 fs), (qIIIIII h_8 4 s0_9 s1_10 s2_11 s3_12 s4_13 s5_14)] ++ (PWx nS y_1.toNatClampNeg bS ++ [])) [(cf, .object "TowerAppeal$Stage")] A s H locs := St
      refine lv_if_eq (tgt := 26) hx hb dX7_running_19 (by decide) (fun c19 => ?_) (fun c19 => ?_)
      rotate_left
      · exact absurd (by decide) c19
      refine lv_null hx hb dX7_running_26 ?_
      have St : cS G k ([(qAII h 7 b tn td), (qarQ b cf 8 fs), (qIIIIII h_8 4 s0_9 s1_10 s2_11 s3_12 s4_13 s5_14)] ++ (PWx nS y_1.toNatClampNeg bS ++ [])) [(cf, .object "TowerAppeal$Stage")] A s H locs := ct_pick St [0, 1, 2] rfl (by decide) [0] rfl
      have St := cs_push (cs := [(qAII h 7 b tn td), (qarQ b cf 8 fs)]) (b := [(qIIIIII h_8 4 s0_9 s1_10 s2_11 s3_12 s4_13 s5_14)]) (rs := []) St hj_18
      obtain ⟨B_27, eB_27⟩ : ∃ zz : Nat → va_W, zz = setB bS y_1.toNatClampNeg [(qIIIIII h_8 4 s0_9 s1_10 s2_11 s3_12 s4_13 s5_14)] := ⟨_, rfl⟩
      rw [← eB_27] at St
      have hB_28 : ∀ i, i < nS → okZ (tbS (zT td.toInt sc sl sk sq su) y_1.toNatClampNeg (s0_9, s1_10, s2_11, s3_12, s4_13, s5_14) i) (fs i) (B_27 i) := by rw [eB_27]; exact okZ_set hZ ⟨h_8, s0_9, s1_10, s2_11, s3_12, s4_13, s5_14, q_15, rfl, rfl⟩
      rw [tbS_own q_17] at hB_28
      have St : cS G k ([(qAII h 7 b tn td), (qarQ b cf 8 fs)] ++ (PW nS B_27 ++ [])) [(cf, .object "TowerAppeal$Stage")] A s H locs := St
      have St : cS G k ([(qAII h 7 b tn td), (qarQ b cf 8 fs)] ++ (PW nS B_27 ++ [])) [(cf, .object "TowerAppeal$Stage")] A s _ _ := ct_pick St [0, 1] rfl (by decide) [0] rfl
      exact cs_qret F hr (Or.inl ⟨_, rfl⟩) hlk hQ St B_27 none rfl (Or.inl ⟨rfl, by omega, hB_28⟩) (List.range _) (ix_all (w := ([(qAII h 7 b tn td), (qarQ b cf 8 fs)] ++ (PW nS B_27 ++ [])))) nd_C [] rfl (by decide) (by decide) dX7_running_27
set_option maxHeartbeats 4000000 in
set_option maxRecDepth 100000 in
theorem e7_mayStartNext (l : Launch) (G : va_G) (k : Nat → Nat) (sz : Nat) (h : Nat) (b : Nat) (cf : ClassId) (tn : Int32) (td : Int32) (fs : Nat → Option Nat) (nS : Nat) (bS : Nat → va_W) (sc : Nat → Int32) (sl : Nat → Int32) (sk : Nat → Int32) (sq : Nat → Int32) (su : Nat → Int32) (hnS : (nS : Int) = tn.toInt) (hn8 : nS ≤ 8) (hZ : ∀ i, i < nS → okZ (zT td.toInt sc sl sk sq su i) (fs i) (bS i)) (hwS : wfS tn.toInt td.toInt sc sl sk sq) : Met l yX7_mayStartNext (Cond.code yX7_mayStartNext cX7_mayStartNext 1 (some .boolean) :: tb) ({ frames := 2, cells := 0, slots := 0, locals := 42 } : Room) (va_Pc [.ref h] (cP G k ([(qAII h 7 b tn td), (qarQ b cf 8 fs)] ++ (PW nS bS ++ [])) [(cf, .object "TowerAppeal$Stage")] sz)) (va_Qi (fun (r : Int32) (bS2 : (Nat → va_W)) => ((r = 1) ∧ (¬ (1 ≤ td.toInt ∧ (sk (td.toInt.toNat - 1)).toInt < (sl (td.toInt.toNat - 1)).toInt) ∧ td.toInt < tn.toInt) ∧ (∀ i, i < nS → okZ (zT td.toInt sc sl sk sq su i) (fs i) (bS2 i))) ∨ ((r = 0) ∧ (¬ (¬ (1 ≤ td.toInt ∧ (sk (td.toInt.toNat - 1)).toInt < (sl (td.toInt.toNat - 1)).toInt) ∧ td.toInt < tn.toInt)) ∧ (∀ i, i < nS → okZ (zT td.toInt sc sl sk sq su i) (fs i) (bS2 i)))) (cB G (fun (bS2 : (Nat → va_W)) => ([(qAII h 7 b tn td), (qarQ b cf 8 fs)] ++ (PW nS bS2 ++ []))) (fun (bS2 : (Nat → va_W)) => []) (va_A ([(qAII h 7 b tn td), (qarQ b cf 8 fs)] ++ (PW nS bS ++ [])) sz)) (va_A ([(qAII h 7 b tn td), (qarQ b cf 8 fs)] ++ (PW nS bS ++ [])) sz)) 0 0 (va_A ([(qAII h 7 b tn td), (qarQ b cf 8 fs)] ++ (PW nS bS ++ [])) sz) := by
  refine ofC_i (cc := cX7_mayStartNext) (maxL := 1) (ret := (some .boolean)) (by decide) rfl (Nat.le_of_ble_eq_true rfl) ?_
  intro p e s m args below meth c A ls Q F hr hin hlk St hl hQ
  have hx := F.1
  have hb := F.2.1
  have hl : lv_has ls 1 [(0, .ref h)] := hl
  have St : cS G k ([(qAII h 7 b tn td), (qarQ b cf 8 fs)] ++ (PW nS bS ++ [])) [(cf, .object "TowerAppeal$Stage")] A s s.heap [] := St
  have y0 : (0 : Int32).toInt = 0 := by decide
  have htd := hwS.1
  skip
  refine lv_aload_n hx hb dX7_mayStartNext_0 rfl (lv_at hl 0 rfl) ?_
  have St : cS G k (([(qAII h 7 b tn td), (qarQ b cf 8 fs)] ++ (PW nS bS ++ [])) ++ []) [(cf, .object "TowerAppeal$Stage")] A s _ _ := sg_two (sg := [[(qAII h 7 b tn td)], [(qarQ b cf 8 fs)], PW nS bS]) (s1 := [[(qAII h 7 b tn td)], [(qarQ b cf 8 fs)], PW nS bS]) (s2 := []) St 3 rfl [0, 1, 2] rfl (by decide +kernel)
  refine cs_qT (wc := ([(qAII h 7 b tn td), (qarQ b cf 8 fs)] ++ (PW nS bS ++ []))) (wr := []) St (va_runV (As := []) (rest := []) F (e7_running l G k _ h b cf tn td fs nS bS sc sl sk sq su (by first | assumption | omega) (by first | assumption | omega) hZ hwS) (cwVt F mf_X7_running km_X7_32 rfl rfl ⟨Nat.le_of_ble_eq_true rfl, Nat.le_of_ble_eq_true rfl⟩) (cs_preVT St [0] rfl (ci := 7) (q0 := 0) rfl rfl) rfl rfl hl.1 rfl (lv_room (Nat.le_of_ble_eq_true rfl)) dX7_mayStartNext_1 ⟨Nat.le_of_ble_eq_true rfl, Nat.le_of_ble_eq_true rfl⟩) (fun r_1 u_2 H locs hw St => ?_)
  obtain ⟨bS2_3, rfl⟩ : ∃ z, z = u_2 := ⟨_, rfl⟩
  try dsimp only at hw
  have St : cS G k ([(qAII h 7 b tn td), (qarQ b cf 8 fs)] ++ (PW nS bS2_3 ++ [])) [(cf, .object "TowerAppeal$Stage")] A s H locs := sg_join (s1 := []) (s2 := [[(qAII h 7 b tn td)], [(qarQ b cf 8 fs)], PW nS bS2_3]) (s3 := [[(qAII h 7 b tn td)], [(qarQ b cf 8 fs)], PW nS bS2_3]) St 3 rfl [0, 1, 2] rfl (by decide +kernel)
  rcases hw with ⟨z_4, hrn_5, hZ2_6⟩ | ⟨hq_7, hrn_8, hZ2_9⟩
  ·
    subst r_1
    have St : cS G k ([(qAII h 7 b tn td), (qarQ b cf 8 fs)] ++ (PW nS bS2_3 ++ [])) [(cf, .object "TowerAppeal$Stage")] A s H locs := St
    show W _ _ _ _ _ _ _ _ _ _ _ _ _ _ _ (F0 m 4 ls [.null])
    refine lv_ifnonnullN hx hb dX7_mayStartNext_4 ?_
    refine lv_aload_n hx hb dX7_mayStartNext_7 rfl (lv_at hl 0 rfl) ?_
    refine ct_get F St 0 rfl rfl inX7 2 (by decide) kf_X7_21 rfl dX7_mayStartNext_8 ?_
    refine lv_aload_n hx hb dX7_mayStartNext_11 rfl (lv_at hl 0 rfl) ?_
    refine ct_get F St 0 rfl rfl inX7 1 (by decide) kf_X7_17 rfl dX7_mayStartNext_12 ?_
    refine lv_icmp_ge (tgt := 22) hx hb dX7_mayStartNext_15 (by decide) (fun c15 => ?_) (fun c15 => ?_)
    ·
      have i15 := ci_le (x := tn) (y := td) rfl rfl c15
      refine lv_iconst (v := 0) hx hb dX7_mayStartNext_22 (by decide) ?_
      have St : cS G k ([(qAII h 7 b tn td), (qarQ b cf 8 fs)] ++ (PW nS bS2_3 ++ [])) [(cf, .object "TowerAppeal$Stage")] A s _ _ := ct_pick St [0, 1] rfl (by decide) [0] rfl
      exact cs_zret F hr hlk hQ St bS2_3 (r := 0) rfl (Or.inr ⟨rfl, (fun z_ => absurd z_.2 (by omega)), hZ2_6⟩) (List.range _) (ix_all (w := ([(qAII h 7 b tn td), (qarQ b cf 8 fs)] ++ (PW nS bS2_3 ++ [])))) nd_C [] rfl (by decide) (by decide) dX7_mayStartNext_23
    ·
      have i15 := ci_nle (x := tn) (y := td) rfl rfl c15
      refine lv_iconst (v := 1) hx hb dX7_mayStartNext_18 (by decide) ?_
      refine lv_goto (tgt := 23) hx hb dX7_mayStartNext_19 (by decide) ?_
      have St : cS G k ([(qAII h 7 b tn td), (qarQ b cf 8 fs)] ++ (PW nS bS2_3 ++ [])) [(cf, .object "TowerAppeal$Stage")] A s _ _ := ct_pick St [0, 1] rfl (by decide) [0] rfl
      exact cs_zret F hr hlk hQ St bS2_3 (r := 1) rfl (Or.inl ⟨rfl, ⟨hrn_5, by omega⟩, hZ2_6⟩) (List.range _) (ix_all (w := ([(qAII h 7 b tn td), (qarQ b cf 8 fs)] ++ (PW nS bS2_3 ++ [])))) nd_C [] rfl (by decide) (by decide) dX7_mayStartNext_23
  ·
    have St : cS G k ([(qAII h 7 b tn td), (qarQ b cf 8 fs)] ++ (PW nS bS2_3 ++ [])) [(cf, .object "TowerAppeal$Stage")] A s H locs := St
    have hj_10 : (td.toInt.toNat - 1) < nS := by have q9 := hrn_8; omega
    obtain ⟨h_11, s0_12, s1_13, s2_14, s3_15, s4_16, s5_17, q_18, q_19, q_20⟩ := (hZ2_9 _ hj_10)
    have hj_21 := hj_10
    have St : cS G k ([(qAII h 7 b tn td), (qarQ b cf 8 fs), (qIIIIII h_11 4 s0_12 s1_13 s2_14 s3_15 s4_16 s5_17)] ++ (PWx nS (td.toInt.toNat - 1) bS2_3 ++ [])) [(cf, .object "TowerAppeal$Stage")] A s H locs := cs_pull (cs := [(qAII h 7 b tn td), (qarQ b cf 8 fs)]) (rs := []) (b := [(qIIIIII h_11 4 s0_12 s1_13 s2_14 s3_15 s4_16 s5_17)]) St hj_21 q_19
    obtain rfl : r_1 = some h_11 := hq_7.trans q_18
    show W _ _ _ _ _ _ _ _ _ _ _ _ _ _ _ (F0 m 4 ls [.ref h_11])
    obtain ⟨hz0, hz1, hz2, hz3, hz4, hz5⟩ := zT_at q_20
    have hg0 := congrArg Int32.toInt hz0
    have hg1 := congrArg Int32.toInt hz1
    have hg3 := congrArg Int32.toInt hz3
    have hg4 := congrArg Int32.toInt hz4
    have hwI := hwS.2.1 (td.toInt.toNat - 1) (by omega)
    have hrnX := hrn_8
    refine lv_ifnonnull (tgt := 22) hx hb dX7_mayStartNext_4 (by decide) ?_
    refine lv_iconst (v := 0) hx hb dX7_mayStartNext_22 (by decide) ?_
    have St : cS G k ([(qAII h 7 b tn td), (qarQ b cf 8 fs), (qIIIIII h_11 4 s0_12 s1_13 s2_14 s3_15 s4_16 s5_17)] ++ (PWx nS (td.toInt.toNat - 1) bS2_3 ++ [])) [(cf, .object "TowerAppeal$Stage")] A s H locs := ct_pick St [0, 1, 2] rfl (by decide) [0] rfl
    have St := cs_push (cs := [(qAII h 7 b tn td), (qarQ b cf 8 fs)]) (b := [(qIIIIII h_11 4 s0_12 s1_13 s2_14 s3_15 s4_16 s5_17)]) (rs := []) St hj_21
    obtain ⟨B_22, eB_22⟩ : ∃ zz : Nat → va_W, zz = setB bS2_3 (td.toInt.toNat - 1) [(qIIIIII h_11 4 s0_12 s1_13 s2_14 s3_15 s4_16 s5_17)] := ⟨_, rfl⟩
    rw [← eB_22] at St
    have hB_23 : ∀ i, i < nS → okZ (tbS (zT td.toInt sc sl sk sq su) (td.toInt.toNat - 1) (s0_12, s1_13, s2_14, s3_15, s4_16, s5_17) i) (fs i) (B_22 i) := by rw [eB_22]; exact okZ_set hZ2_9 ⟨h_11, s0_12, s1_13, s2_14, s3_15, s4_16, s5_17, q_18, rfl, rfl⟩
    rw [tbS_own q_20] at hB_23
    have St : cS G k ([(qAII h 7 b tn td), (qarQ b cf 8 fs)] ++ (PW nS B_22 ++ [])) [(cf, .object "TowerAppeal$Stage")] A s H locs := St
    have St : cS G k ([(qAII h 7 b tn td), (qarQ b cf 8 fs)] ++ (PW nS B_22 ++ [])) [(cf, .object "TowerAppeal$Stage")] A s _ _ := ct_pick St [0, 1] rfl (by decide) [0] rfl
    exact cs_zret F hr hlk hQ St B_22 (r := 0) rfl (Or.inr ⟨rfl, (fun z_ => z_.1 hrnX), hB_23⟩) (List.range _) (ix_all (w := ([(qAII h 7 b tn td), (qarQ b cf 8 fs)] ++ (PW nS B_22 ++ [])))) nd_C [] rfl (by decide) (by decide) dX7_mayStartNext_23
set_option maxHeartbeats 4000000 in
set_option maxRecDepth 100000 in
theorem e7_startNext (l : Launch) (G : va_G) (k : Nat → Nat) (sz : Nat) (h : Nat) (b : Nat) (cf : ClassId) (tn : Int32) (td : Int32) (fs : Nat → Option Nat) (nS : Nat) (bS : Nat → va_W) (sc : Nat → Int32) (sl : Nat → Int32) (sk : Nat → Int32) (sq : Nat → Int32) (su : Nat → Int32) (hnS : (nS : Int) = tn.toInt) (hn8 : nS ≤ 8) (hZ : ∀ i, i < nS → okZ (zT td.toInt sc sl sk sq su i) (fs i) (bS i)) (hwS : wfS tn.toInt td.toInt sc sl sk sq) (hlt : td.toInt < tn.toInt) : Met l yX7_startNext (Cond.code yX7_startNext cX7_startNext 2 (some .int) :: tb) ({ frames := 1, cells := 0, slots := 0, locals := 21 } : Room) (va_Pc [.ref h] (cP G k ([(qAII h 7 b tn td), (qarQ b cf 8 fs)] ++ (PW nS bS ++ [])) [(cf, .object "TowerAppeal$Stage")] sz)) (va_Qi (fun (r : Int32) (u : Int32 × (Nat → va_W)) => match u with | (td2, bS2) => (r = td) ∧ (td2.toInt = td.toInt + 1) ∧ (∀ i, i < nS → okZ (zT td2.toInt sc sl sk sq su i) (fs i) (bS2 i))) (cB G (fun u => match u with | (td2, bS2) => ([(qAII h 7 b tn td2), (qarQ b cf 8 fs)] ++ (PW nS bS2 ++ []))) (fun u => match u with | (td2, bS2) => []) (va_A ([(qAII h 7 b tn td), (qarQ b cf 8 fs)] ++ (PW nS bS ++ [])) sz)) (va_A ([(qAII h 7 b tn td), (qarQ b cf 8 fs)] ++ (PW nS bS ++ [])) sz)) 0 0 (va_A ([(qAII h 7 b tn td), (qarQ b cf 8 fs)] ++ (PW nS bS ++ [])) sz) := by
  refine ofC_i (cc := cX7_startNext) (maxL := 2) (ret := (some .int)) (by decide) rfl (Nat.le_of_ble_eq_true rfl) ?_
  intro p e s m args below meth c A ls Q F hr hin hlk St hl hQ
  have hx := F.1
  have hb := F.2.1
  have hl : lv_has ls 2 [(0, .ref h)] := hl
  have St : cS G k ([(qAII h 7 b tn td), (qarQ b cf 8 fs)] ++ (PW nS bS ++ [])) [(cf, .object "TowerAppeal$Stage")] A s s.heap [] := St
  have y0 : (0 : Int32).toInt = 0 := by decide
  have htd := hwS.1
  skip
  refine lv_aload_n hx hb dX7_startNext_0 rfl (lv_at hl 0 rfl) ?_
  refine lv_aload_n hx hb dX7_startNext_1 rfl (lv_at hl 0 rfl) ?_
  refine ct_get F St 0 rfl rfl inX7 2 (by decide) kf_X7_21 rfl dX7_startNext_2 ?_
  refine ct_q St [0, 1] [] (wc := [(qAII h 7 b tn td), (qarQ b cf 8 fs)]) (wr := []) rfl rfl (by decide) (by decide) (va_runV (As := [.int td]) (rest := []) F (x7_at l G k _ h b cf tn td fs td (by omega) (by omega)) (cwVt F mf_X7_at km_X7_24 rfl rfl ⟨Nat.le_of_ble_eq_true rfl, Nat.le_of_ble_eq_true rfl⟩) (ct_preV St [0, 1] rfl (by decide) [0] rfl (ci := 7) (q0 := 0) rfl rfl) rfl rfl hl.1 rfl (lv_room (Nat.le_of_ble_eq_true rfl)) dX7_startNext_5 ⟨Nat.le_of_ble_eq_true rfl, Nat.le_of_ble_eq_true rfl⟩) (fun r_1 u_2 H locs hw St => ?_)
  try dsimp only at hw
  rcases hw with ⟨z_3, hf_4⟩ | ⟨z_5, hf_6⟩
  ·
    exact False.elim (by omega)
  ·
    have St : cS G k ([(qAII h 7 b tn td), (qarQ b cf 8 fs)] ++ (PW nS bS ++ [])) [(cf, .object "TowerAppeal$Stage")] A s H locs := St
    obtain ⟨h_7, s0_8, s1_9, s2_10, s3_11, s4_12, s5_13, q_14, q_15, q_16⟩ := (hZ _ (nc_lt (x := td) (n := nS) (by omega) (by omega)))
    have hj_17 := (nc_lt (x := td) (n := nS) (by omega) (by omega))
    have St : cS G k ([(qAII h 7 b tn td), (qarQ b cf 8 fs), (qIIIIII h_7 4 s0_8 s1_9 s2_10 s3_11 s4_12 s5_13)] ++ (PWx nS td.toNatClampNeg bS ++ [])) [(cf, .object "TowerAppeal$Stage")] A s H locs := cs_pull (cs := [(qAII h 7 b tn td), (qarQ b cf 8 fs)]) (rs := []) (b := [(qIIIIII h_7 4 s0_8 s1_9 s2_10 s3_11 s4_12 s5_13)]) St hj_17 q_15
    obtain rfl : r_1 = some h_7 := z_5.trans q_14
    show W _ _ _ _ _ _ _ _ _ _ _ _ _ _ _ (F0 m 8 ls [.ref h_7])
    have hwI := hwS.2.1 td.toNatClampNeg (by have q9 := nc_int (x := td) (by omega); omega)
    have hntd := nc_int (x := td) (by omega)
    have hk0 := hwI.2.2.2.2 (by omega)
    have hm0 := hwI.2.1
    refine lv_astore_n (lv' := [(1, .ref h_7), (0, .ref h)]) hx hb dX7_startNext_8 rfl hl (by decide) rfl (fun ls hl => ?_)
    refine lv_aload_n hx hb dX7_startNext_9 rfl (lv_at hl 0 rfl) ?_
    refine lv_ifnonnull (tgt := 16) hx hb dX7_startNext_10 (by decide) ?_
    refine lv_aload_n hx hb dX7_startNext_16 rfl (lv_at hl 0 rfl) ?_
    refine ct_v St [2] [0, 1] (wc := [(qIIIIII h_7 4 s0_8 s1_9 s2_10 s3_11 s4_12 s5_13)]) (wr := [(qAII h 7 b tn td), (qarQ b cf 8 fs)]) rfl rfl (by decide) (by decide) (va_runV (As := []) (rest := []) F (x4_start l G k _ h_7 s0_8 s1_9 s2_10 s3_11 s4_12 s5_13) (cwVt F mf_X4_start km_X7_36 rfl rfl ⟨Nat.le_of_ble_eq_true rfl, Nat.le_of_ble_eq_true rfl⟩) (ct_preV St [2] rfl (by decide) [] rfl (ci := 4) (q0 := 2) rfl rfl) rfl rfl hl.1 rfl (lv_room (Nat.le_of_ble_eq_true rfl)) dX7_startNext_17 ⟨Nat.le_of_ble_eq_true rfl, Nat.le_of_ble_eq_true rfl⟩) (fun u_19 H locs hw St => ?_)
    try dsimp only at hw
    have St : cS G k ([(qAII h 7 b tn td), (qarQ b cf 8 fs), (qIIIIII h_7 4 s0_8 s1_9 1 s3_11 s4_12 s5_13)] ++ (PWx nS td.toNatClampNeg bS ++ [])) [(cf, .object "TowerAppeal$Stage")] A s H locs := St
    refine lv_aload_n hx hb dX7_startNext_20 rfl (lv_at hl 1 rfl) ?_
    refine lv_dup hx hb dX7_startNext_21 rfl ?_
    refine ct_get F St 0 rfl rfl inX7 2 (by decide) kf_X7_21 rfl dX7_startNext_22 ?_
    refine lv_iconst (v := 1) hx hb dX7_startNext_25 (by decide) ?_
    refine lv_iadd hx hb dX7_startNext_26 ?_
    refine lv_topi (fun y_20 ey_20 => ?_)
    first | have jy_20 : y_20.toInt = td.toInt + 1 := (by have q9 := ci_add (x := td) (y := 1) rfl (show (1 : Int32).toInt = 1 by decide) ey_20; omega) | have jy_20 := ci_add (x := td) (y := 1) rfl (show (1 : Int32).toInt = 1 by decide) ey_20
    refine ct_put F St 0 rfl rfl inX7 tyX7_ok nmX7 2 (by decide) kf_X7_21 rfl rfl rfl (Nat.le_of_ble_eq_true rfl) (w' := [(qAII h 7 b tn y_20), (qarQ b cf 8 fs), (qIIIIII h_7 4 s0_8 s1_9 1 s3_11 s4_12 s5_13)]) rfl dX7_startNext_27 (fun H locs St => ?_)
    refine lv_aload_n hx hb dX7_startNext_30 rfl (lv_at hl 1 rfl) ?_
    refine ct_get F St 0 rfl rfl inX7 2 (by decide) kf_X7_21 rfl dX7_startNext_31 ?_
    refine lv_iconst (v := 1) hx hb dX7_startNext_34 (by decide) ?_
    refine lv_isub hx hb dX7_startNext_35 ?_
    refine lv_topi (fun y_21 ey_21 => ?_)
    first | have jy_21 : y_21.toInt = y_20.toInt - 1 := (by have q9 := ci_sub (x := y_20) (y := 1) rfl (show (1 : Int32).toInt = 1 by decide) ey_21; omega) | have jy_21 := ci_sub (x := y_20) (y := 1) rfl (show (1 : Int32).toInt = 1 by decide) ey_21
    have St : cS G k ([(qAII h 7 b tn y_20), (qarQ b cf 8 fs), (qIIIIII h_7 4 s0_8 s1_9 1 s3_11 s4_12 s5_13)] ++ (PWx nS td.toNatClampNeg bS ++ [])) [(cf, .object "TowerAppeal$Stage")] A s H locs := ct_pick St [0, 1, 2] rfl (by decide) [0] rfl
    have St := cs_push (cs := [(qAII h 7 b tn y_20), (qarQ b cf 8 fs)]) (b := [(qIIIIII h_7 4 s0_8 s1_9 1 s3_11 s4_12 s5_13)]) (rs := []) St hj_17
    obtain ⟨B_22, eB_22⟩ : ∃ zz : Nat → va_W, zz = setB bS td.toNatClampNeg [(qIIIIII h_7 4 s0_8 s1_9 1 s3_11 s4_12 s5_13)] := ⟨_, rfl⟩
    rw [← eB_22] at St
    have hB_23 : ∀ i, i < nS → okZ (tbS (zT td.toInt sc sl sk sq su) td.toNatClampNeg (s0_8, s1_9, 1, s3_11, s4_12, s5_13) i) (fs i) (B_22 i) := by rw [eB_22]; exact okZ_set hZ ⟨h_7, s0_8, s1_9, 1, s3_11, s4_12, s5_13, q_14, rfl, rfl⟩
    rw [zT_go q_16 (by omega) rfl (by omega)] at hB_23
    have St : cS G k ([(qAII h 7 b tn y_20), (qarQ b cf 8 fs)] ++ (PW nS B_22 ++ [])) [(cf, .object "TowerAppeal$Stage")] A s H locs := St
    have St : cS G k ([(qAII h 7 b tn y_20), (qarQ b cf 8 fs)] ++ (PW nS B_22 ++ [])) [(cf, .object "TowerAppeal$Stage")] A s _ _ := ct_pick St [0, 1] rfl (by decide) [0] rfl
    exact cs_iret F hr hlk hQ St (y_20, B_22) (r := y_21) ⟨Int32.toInt_inj.mp (by omega), by omega, by rw [show y_20.toInt = td.toInt + 1 by omega]; exact hB_23⟩ (List.range _) (ix_all (w := ([(qAII h 7 b tn y_20), (qarQ b cf 8 fs)] ++ (PW nS B_22 ++ [])))) nd_C [] rfl (by decide) (by decide) dX7_startNext_36
set_option maxHeartbeats 4000000 in
set_option maxRecDepth 100000 in
theorem e7_payPart (l : Launch) (G : va_G) (k : Nat → Nat) (sz : Nat) (h : Nat) (b : Nat) (cf : ClassId) (tn : Int32) (td : Int32) (fs : Nat → Option Nat) (nS : Nat) (bS : Nat → va_W) (pu : Nat) (p0 : Int64) (p1 : Int64) (p2 : Int64) (p3 : Int64) (p4 : Int64) (p5 : Int64) (x : Int32) (sc : Nat → Int32) (sl : Nat → Int32) (sk : Nat → Int32) (sq : Nat → Int32) (su : Nat → Int32) (hnS : (nS : Int) = tn.toInt) (hn8 : nS ≤ 8) (hZ : ∀ i, i < nS → okZ (zT td.toInt sc sl sk sq su i) (fs i) (bS i)) (hwS : wfS tn.toInt td.toInt sc sl sk sq) (hyy : 0 ≤ x.toInt ∧ x.toInt ≤ 99999900) (hp0 : 0 ≤ p0.toInt ∧ p0.toInt ≤ 2000000000) (hp1 : 0 ≤ p1.toInt ∧ p1.toInt ≤ 400000000) : Met l yX7_payPart (Cond.code yX7_payPart cX7_payPart 5 none :: tb) ({ frames := 2, cells := 0, slots := 0, locals := 49 } : Room) (va_Pc [.ref h, .ref pu, .int x] (cP G k ([(qAII h 7 b tn td), (qarQ b cf 8 fs), (qJJJJJJ pu 3 p0 p1 p2 p3 p4 p5)] ++ (PW nS bS ++ [])) [(cf, .object "TowerAppeal$Stage")] sz)) (va_Qv (fun (u : Int64 × Int64 × Int64 × Int64 × Int64 × Int64 × (Nat → Int32) × (Nat → Int32) × (Nat → Int32) × (Nat → va_W)) => match u with | (q0, q1, q2, q3, q4, q5, sk2, sq2, su2, bS2) => ((q0.toInt, q1.toInt, q5.toInt32, q4.toInt32, sk2, sq2, su2) = byM x.toInt td.toInt sc sl (p0.toInt, p1.toInt, p5.toInt32, p4.toInt32, sk, sq, su)) ∧ (q2 = p2 ∧ q3 = p3) ∧ (∀ i, i < nS → okZ (zT td.toInt sc sl sk2 sq2 su2 i) (fs i) (bS2 i))) (cB G (fun u => match u with | (q0, q1, q2, q3, q4, q5, sk2, sq2, su2, bS2) => ([(qAII h 7 b tn td), (qarQ b cf 8 fs), (qJJJJJJ pu 3 q0 q1 q2 q3 q4 q5)] ++ (PW nS bS2 ++ []))) (fun u => match u with | (q0, q1, q2, q3, q4, q5, sk2, sq2, su2, bS2) => []) (va_A ([(qAII h 7 b tn td), (qarQ b cf 8 fs), (qJJJJJJ pu 3 p0 p1 p2 p3 p4 p5)] ++ (PW nS bS ++ [])) sz)) (va_A ([(qAII h 7 b tn td), (qarQ b cf 8 fs), (qJJJJJJ pu 3 p0 p1 p2 p3 p4 p5)] ++ (PW nS bS ++ [])) sz)) 0 0 (va_A ([(qAII h 7 b tn td), (qarQ b cf 8 fs), (qJJJJJJ pu 3 p0 p1 p2 p3 p4 p5)] ++ (PW nS bS ++ [])) sz) := by
  refine ofC_v (cc := cX7_payPart) (maxL := 5) (ret := none) (by decide) rfl (Nat.le_of_ble_eq_true rfl) ?_
  intro p e s m args below meth c A ls Q F hr hin hlk St hl hQ
  have hx := F.1
  have hb := F.2.1
  have hl : lv_has ls 5 [(0, .ref h), (1, .ref pu), (2, .int x)] := hl
  have St : cS G k ([(qAII h 7 b tn td), (qarQ b cf 8 fs), (qJJJJJJ pu 3 p0 p1 p2 p3 p4 p5)] ++ (PW nS bS ++ [])) [(cf, .object "TowerAppeal$Stage")] A s s.heap [] := St
  have y0 : (0 : Int32).toInt = 0 := by decide
  have htd := hwS.1
  skip
  refine lv_aload_n hx hb dX7_payPart_0 rfl (lv_at hl 0 rfl) ?_
  have St : cS G k (([(qAII h 7 b tn td), (qarQ b cf 8 fs)] ++ (PW nS bS ++ [])) ++ [(qJJJJJJ pu 3 p0 p1 p2 p3 p4 p5)]) [(cf, .object "TowerAppeal$Stage")] A s _ _ := sg_two (sg := [[(qAII h 7 b tn td)], [(qarQ b cf 8 fs)], [(qJJJJJJ pu 3 p0 p1 p2 p3 p4 p5)], PW nS bS]) (s1 := [[(qAII h 7 b tn td)], [(qarQ b cf 8 fs)], PW nS bS]) (s2 := [[(qJJJJJJ pu 3 p0 p1 p2 p3 p4 p5)]]) St 4 rfl [0, 1, 3, 2] rfl (by decide +kernel)
  refine cs_qT (wc := ([(qAII h 7 b tn td), (qarQ b cf 8 fs)] ++ (PW nS bS ++ []))) (wr := [(qJJJJJJ pu 3 p0 p1 p2 p3 p4 p5)]) St (va_runV (As := []) (rest := []) F (e7_running l G k _ h b cf tn td fs nS bS sc sl sk sq su (by first | assumption | omega) (by first | assumption | omega) hZ hwS) (cwVt F mf_X7_running km_X7_32 rfl rfl ⟨Nat.le_of_ble_eq_true rfl, Nat.le_of_ble_eq_true rfl⟩) (cs_preVT St [0] rfl (ci := 7) (q0 := 0) rfl rfl) rfl rfl hl.1 rfl (lv_room (Nat.le_of_ble_eq_true rfl)) dX7_payPart_1 ⟨Nat.le_of_ble_eq_true rfl, Nat.le_of_ble_eq_true rfl⟩) (fun r_1 u_2 H locs hw St => ?_)
  obtain ⟨bS2_3, rfl⟩ : ∃ z, z = u_2 := ⟨_, rfl⟩
  try dsimp only at hw
  have St : cS G k ([(qJJJJJJ pu 3 p0 p1 p2 p3 p4 p5), (qAII h 7 b tn td), (qarQ b cf 8 fs)] ++ (PW nS bS2_3 ++ [])) [(cf, .object "TowerAppeal$Stage")] A s H locs := sg_join (s1 := [[(qJJJJJJ pu 3 p0 p1 p2 p3 p4 p5)]]) (s2 := [[(qAII h 7 b tn td)], [(qarQ b cf 8 fs)], PW nS bS2_3]) (s3 := [[(qJJJJJJ pu 3 p0 p1 p2 p3 p4 p5)], [(qAII h 7 b tn td)], [(qarQ b cf 8 fs)], PW nS bS2_3]) St 4 rfl [0, 1, 2, 3] rfl (by decide +kernel)
  rcases hw with ⟨z_4, hrn_5, hZ2_6⟩ | ⟨hq_7, hrn_8, hZ2_9⟩
  ·
    subst r_1
    have St : cS G k ([(qJJJJJJ pu 3 p0 p1 p2 p3 p4 p5), (qAII h 7 b tn td), (qarQ b cf 8 fs)] ++ (PW nS bS2_3 ++ [])) [(cf, .object "TowerAppeal$Stage")] A s H locs := St
    show W _ _ _ _ _ _ _ _ _ _ _ _ _ _ _ (F0 m 4 ls [.null])
    refine lv_astore_nN (lv' := [(3, .null), (0, .ref h), (1, .ref pu), (2, .int x)]) hx hb dX7_payPart_4 rfl hl (by decide) rfl (fun ls hl => ?_)
    refine lv_aload_nN hx hb dX7_payPart_5 rfl (lv_at hl 0 rfl) ?_
    refine lv_ifnonnullN hx hb dX7_payPart_6 ?_
    have St : cS G k ([(qAII h 7 b tn td), (qarQ b cf 8 fs), (qJJJJJJ pu 3 p0 p1 p2 p3 p4 p5)] ++ (PW nS bS2_3 ++ [])) [(cf, .object "TowerAppeal$Stage")] A s _ _ := ct_pick St [1, 2, 0] rfl (by decide) [0] rfl
    exact cs_vret F hr hlk hQ St (p0, p1, p2, p3, p4, p5, sk, sq, su, bS2_3) ⟨by_none hrn_5, ⟨rfl, rfl⟩, hZ2_6⟩ (List.range _) (ix_all (w := ([(qAII h 7 b tn td), (qarQ b cf 8 fs), (qJJJJJJ pu 3 p0 p1 p2 p3 p4 p5)] ++ (PW nS bS2_3 ++ [])))) nd_C [] rfl (by decide) (by decide) dX7_payPart_9
  ·
    have St : cS G k ([(qJJJJJJ pu 3 p0 p1 p2 p3 p4 p5), (qAII h 7 b tn td), (qarQ b cf 8 fs)] ++ (PW nS bS2_3 ++ [])) [(cf, .object "TowerAppeal$Stage")] A s H locs := St
    have hj_10 : (td.toInt.toNat - 1) < nS := by have q9 := hrn_8; omega
    obtain ⟨h_11, s0_12, s1_13, s2_14, s3_15, s4_16, s5_17, q_18, q_19, q_20⟩ := (hZ2_9 _ hj_10)
    have hj_21 := hj_10
    have St : cS G k ([(qJJJJJJ pu 3 p0 p1 p2 p3 p4 p5), (qAII h 7 b tn td), (qarQ b cf 8 fs), (qIIIIII h_11 4 s0_12 s1_13 s2_14 s3_15 s4_16 s5_17)] ++ (PWx nS (td.toInt.toNat - 1) bS2_3 ++ [])) [(cf, .object "TowerAppeal$Stage")] A s H locs := cs_pull (cs := [(qJJJJJJ pu 3 p0 p1 p2 p3 p4 p5), (qAII h 7 b tn td), (qarQ b cf 8 fs)]) (rs := []) (b := [(qIIIIII h_11 4 s0_12 s1_13 s2_14 s3_15 s4_16 s5_17)]) St hj_21 q_19
    obtain rfl : r_1 = some h_11 := hq_7.trans q_18
    show W _ _ _ _ _ _ _ _ _ _ _ _ _ _ _ (F0 m 4 ls [.ref h_11])
    obtain ⟨hz0, hz1, hz2, hz3, hz4, hz5⟩ := zT_at q_20
    have hg0 := congrArg Int32.toInt hz0
    have hg1 := congrArg Int32.toInt hz1
    have hg3 := congrArg Int32.toInt hz3
    have hg4 := congrArg Int32.toInt hz4
    have hwI := hwS.2.1 (td.toInt.toNat - 1) (by omega)
    have hrnX := hrn_8
    refine lv_astore_n (lv' := [(3, .ref h_11), (0, .ref h), (1, .ref pu), (2, .int x)]) hx hb dX7_payPart_4 rfl hl (by decide) rfl (fun ls hl => ?_)
    refine lv_aload_n hx hb dX7_payPart_5 rfl (lv_at hl 0 rfl) ?_
    refine lv_ifnonnull (tgt := 10) hx hb dX7_payPart_6 (by decide) ?_
    refine lv_aload_n hx hb dX7_payPart_10 rfl (lv_at hl 0 rfl) ?_
    refine ct_i St [3] [0, 1, 2] (wc := [(qIIIIII h_11 4 s0_12 s1_13 s2_14 s3_15 s4_16 s5_17)]) (wr := [(qJJJJJJ pu 3 p0 p1 p2 p3 p4 p5), (qAII h 7 b tn td), (qarQ b cf 8 fs)]) rfl rfl (by decide) (by decide) (va_runV (As := []) (rest := []) F (e4_nextPart l G k _ h_11 s0_12 s1_13 s2_14 s3_15 s4_16 s5_17 (⟨⟨by rw [hz0]; exact hwI.1, by rw [hz1]; exact hwI.2.1, by have q9 := hwI.2.2.1; omega, by omega⟩, by rw [hg4, hg0, hg1, hg3]; exact hwI.2.2.2.1 hrnX.2⟩)) (cwVt F mf_X4_nextPart km_X7_39 rfl rfl ⟨Nat.le_of_ble_eq_true rfl, Nat.le_of_ble_eq_true rfl⟩) (ct_preV St [3] rfl (by decide) [] rfl (ci := 4) (q0 := 3) rfl rfl) rfl rfl hl.1 rfl (lv_room (Nat.le_of_ble_eq_true rfl)) dX7_payPart_11 ⟨Nat.le_of_ble_eq_true rfl, Nat.le_of_ble_eq_true rfl⟩) (fun r_22 u_23 H locs hw St => ?_)
    try dsimp only at hw
    have hr_24 := hw
    have St : cS G k ([(qJJJJJJ pu 3 p0 p1 p2 p3 p4 p5), (qAII h 7 b tn td), (qarQ b cf 8 fs), (qIIIIII h_11 4 s0_12 s1_13 s2_14 s3_15 s4_16 s5_17)] ++ (PWx nS (td.toInt.toNat - 1) bS2_3 ++ [])) [(cf, .object "TowerAppeal$Stage")] A s H locs := St
    have hpt : r_22.toInt = ptA td.toInt sc sl sk := by rw [hr_24, hg0, hg1, hg3]; rfl
    have hpe := i32_of hpt
    have hpb := ptS_bd hwI.1 hwI.2.1 ⟨hwI.2.2.1.1, hrnX.2⟩
    have hpbA : 0 ≤ ptA td.toInt sc sl sk ∧ ptA td.toInt sc sl sk ≤ 100000000 := ⟨hpb.1, hpb.2.1⟩
    refine lv_istore (lv' := [(4, .int r_22), (3, .ref h_11), (0, .ref h), (1, .ref pu), (2, .int x)]) hx hb dX7_payPart_14 hl (by decide) rfl (fun ls hl => ?_)
    refine lv_aload_n hx hb dX7_payPart_16 rfl (lv_at hl 3 rfl) ?_
    refine lv_iload hx hb dX7_payPart_17 (lv_at hl 0 rfl) ?_
    refine lv_iload_n hx hb dX7_payPart_19 rfl (lv_at hl 4 rfl) ?_
    refine ct_i St [0] [1, 2, 3] (wc := [(qJJJJJJ pu 3 p0 p1 p2 p3 p4 p5)]) (wr := [(qAII h 7 b tn td), (qarQ b cf 8 fs), (qIIIIII h_11 4 s0_12 s1_13 s2_14 s3_15 s4_16 s5_17)]) rfl rfl (by decide) (by decide) (va_runV (As := [.int r_22, .int x]) (rest := []) F (e3_paysPart l G k _ pu p0 p1 p2 p3 p4 p5 r_22 x (by omega) (by omega) (by omega) (by omega)) (cwVt F mf_X3_paysPart km_X7_43 rfl rfl ⟨Nat.le_of_ble_eq_true rfl, Nat.le_of_ble_eq_true rfl⟩) (ct_preV St [0] rfl (by decide) [] rfl (ci := 3) (q0 := 0) rfl rfl) rfl rfl hl.1 rfl (lv_room (Nat.le_of_ble_eq_true rfl)) dX7_payPart_20 ⟨Nat.le_of_ble_eq_true rfl, Nat.le_of_ble_eq_true rfl⟩) (fun r_25 u_26 H locs hw St => ?_)
    obtain ⟨q0_27, q1_28, q2_29, q3_30, q4_31, q5_32⟩ := u_26
    try dsimp only at hw
    rcases hw with ⟨z_33, hpa_34, hq4_35, hqe_36⟩ | ⟨z_37, hpa_38, hqe_39⟩
    ·
      subst r_25
      have St : cS G k ([(qAII h 7 b tn td), (qarQ b cf 8 fs), (qIIIIII h_11 4 s0_12 s1_13 s2_14 s3_15 s4_16 s5_17), (qJJJJJJ pu 3 q0_27 q1_28 q2_29 q3_30 q4_31 q5_32)] ++ (PWx nS (td.toInt.toNat - 1) bS2_3 ++ [])) [(cf, .object "TowerAppeal$Stage")] A s H locs := St
      have hpa := hpa_34
      rw [hpt] at hpa
      refine lv_if_eq (tgt := 35) hx hb dX7_payPart_23 (by decide) (fun c23 => ?_) (fun c23 => ?_)
      · exact absurd c23 (by decide)
      refine lv_aload_n hx hb dX7_payPart_26 rfl (lv_at hl 1 rfl) ?_
      refine lv_iload hx hb dX7_payPart_27 (lv_at hl 0 rfl) ?_
      refine ct_v St [2] [0, 1, 3] (wc := [(qIIIIII h_11 4 s0_12 s1_13 s2_14 s3_15 s4_16 s5_17)]) (wr := [(qAII h 7 b tn td), (qarQ b cf 8 fs), (qJJJJJJ pu 3 q0_27 q1_28 q2_29 q3_30 q4_31 q5_32)]) rfl rfl (by decide) (by decide) (va_runV (As := [.int r_22]) (rest := []) F (e4_bookPart l G k _ h_11 s0_12 s1_13 s2_14 s3_15 s4_16 s5_17 r_22 (by have q8 := hwI.2.1; have q9 := hwI.2.2.1; omega)) (cwVt F mf_X4_bookPart km_X7_49 rfl rfl ⟨Nat.le_of_ble_eq_true rfl, Nat.le_of_ble_eq_true rfl⟩) (ct_preV St [2] rfl (by decide) [] rfl (ci := 4) (q0 := 2) rfl rfl) rfl rfl hl.1 rfl (lv_room (Nat.le_of_ble_eq_true rfl)) dX7_payPart_29 ⟨Nat.le_of_ble_eq_true rfl, Nat.le_of_ble_eq_true rfl⟩) (fun u_41 H locs hw St => ?_)
      obtain ⟨z2_42, z3_43, z4_44⟩ := u_41
      try dsimp only at hw
      obtain ⟨hz3_45, hz4_46, hz2_47⟩ := hw
      have St : cS G k ([(qAII h 7 b tn td), (qarQ b cf 8 fs), (qJJJJJJ pu 3 q0_27 q1_28 q2_29 q3_30 q4_31 q5_32), (qIIIIII h_11 4 s0_12 s1_13 z2_42 z3_43 z4_44 s5_17)] ++ (PWx nS (td.toInt.toNat - 1) bS2_3 ++ [])) [(cf, .object "TowerAppeal$Stage")] A s H locs := St
      refine lv_goto (tgt := 39) hx hb dX7_payPart_32 (by decide) ?_
      have St : cS G k ([(qAII h 7 b tn td), (qarQ b cf 8 fs), (qJJJJJJ pu 3 q0_27 q1_28 q2_29 q3_30 q4_31 q5_32), (qIIIIII h_11 4 s0_12 s1_13 z2_42 z3_43 z4_44 s5_17)] ++ (PWx nS (td.toInt.toNat - 1) bS2_3 ++ [])) [(cf, .object "TowerAppeal$Stage")] A s H locs := ct_pick St [0, 1, 2, 3] rfl (by decide) [0] rfl
      have St := cs_push (cs := [(qAII h 7 b tn td), (qarQ b cf 8 fs), (qJJJJJJ pu 3 q0_27 q1_28 q2_29 q3_30 q4_31 q5_32)]) (b := [(qIIIIII h_11 4 s0_12 s1_13 z2_42 z3_43 z4_44 s5_17)]) (rs := []) St hj_21
      obtain ⟨B_48, eB_48⟩ : ∃ zz : Nat → va_W, zz = setB bS2_3 (td.toInt.toNat - 1) [(qIIIIII h_11 4 s0_12 s1_13 z2_42 z3_43 z4_44 s5_17)] := ⟨_, rfl⟩
      rw [← eB_48] at St
      have hB_49 : ∀ i, i < nS → okZ (tbS (zT td.toInt sc sl sk sq su) (td.toInt.toNat - 1) (s0_12, s1_13, z2_42, z3_43, z4_44, s5_17) i) (fs i) (B_48 i) := by rw [eB_48]; exact okZ_set hZ2_9 ⟨h_11, s0_12, s1_13, z2_42, z3_43, z4_44, s5_17, q_18, rfl, rfl⟩
      rw [zT_by (x := Int32.ofInt (ptA td.toInt sc sl sk)) q_20 (by omega) hrnX.2 (by have q8 := hwI.2.1; have q9 := hwI.2.2.1; omega) hz3_45 (by rw [hz4_46, hpe]) hz2_47] at hB_49
      have St : cS G k ([(qAII h 7 b tn td), (qarQ b cf 8 fs), (qJJJJJJ pu 3 q0_27 q1_28 q2_29 q3_30 q4_31 q5_32)] ++ (PW nS B_48 ++ [])) [(cf, .object "TowerAppeal$Stage")] A s H locs := St
      have St : cS G k ([(qAII h 7 b tn td), (qarQ b cf 8 fs), (qJJJJJJ pu 3 q0_27 q1_28 q2_29 q3_30 q4_31 q5_32)] ++ (PW nS B_48 ++ [])) [(cf, .object "TowerAppeal$Stage")] A s _ _ := ct_pick St [0, 1, 2] rfl (by decide) [0] rfl
      exact cs_vret F hr hlk hQ St (q0_27, q1_28, q2_29, q3_30, q4_31, q5_32, (upd sk (td.toInt.toNat - 1) (sk (td.toInt.toNat - 1) + 1)), (upd sq (td.toInt.toNat - 1) (sq (td.toInt.toNat - 1) + Int32.ofInt (ptA td.toInt sc sl sk))), su, B_48) ⟨by rw [hqe_36.2.2]; exact by_paid hrnX hpa (by rw [hq4_35, i64_add, hpe]) rfl rfl, ⟨hqe_36.1, hqe_36.2.1⟩, hB_49⟩ (List.range _) (ix_all (w := ([(qAII h 7 b tn td), (qarQ b cf 8 fs), (qJJJJJJ pu 3 q0_27 q1_28 q2_29 q3_30 q4_31 q5_32)] ++ (PW nS B_48 ++ [])))) nd_C [] rfl (by decide) (by decide) dX7_payPart_39
    ·
      subst r_25
      have St : cS G k ([(qAII h 7 b tn td), (qarQ b cf 8 fs), (qIIIIII h_11 4 s0_12 s1_13 s2_14 s3_15 s4_16 s5_17), (qJJJJJJ pu 3 q0_27 q1_28 q2_29 q3_30 q4_31 q5_32)] ++ (PWx nS (td.toInt.toNat - 1) bS2_3 ++ [])) [(cf, .object "TowerAppeal$Stage")] A s H locs := St
      have hpa := hpa_38
      rw [hpt] at hpa
      refine lv_if_eq (tgt := 35) hx hb dX7_payPart_23 (by decide) (fun c23 => ?_) (fun c23 => ?_)
      rotate_left
      · exact absurd (by decide) c23
      refine lv_aload_n hx hb dX7_payPart_35 rfl (lv_at hl 1 rfl) ?_
      refine ct_v St [2] [0, 1, 3] (wc := [(qIIIIII h_11 4 s0_12 s1_13 s2_14 s3_15 s4_16 s5_17)]) (wr := [(qAII h 7 b tn td), (qarQ b cf 8 fs), (qJJJJJJ pu 3 q0_27 q1_28 q2_29 q3_30 q4_31 q5_32)]) rfl rfl (by decide) (by decide) (va_runV (As := []) (rest := []) F (e4_bookPause l G k _ h_11 s0_12 s1_13 s2_14 s3_15 s4_16 s5_17) (cwVt F mf_X4_bookPause km_X7_53 rfl rfl ⟨Nat.le_of_ble_eq_true rfl, Nat.le_of_ble_eq_true rfl⟩) (ct_preV St [2] rfl (by decide) [] rfl (ci := 4) (q0 := 2) rfl rfl) rfl rfl hl.1 rfl (lv_room (Nat.le_of_ble_eq_true rfl)) dX7_payPart_36 ⟨Nat.le_of_ble_eq_true rfl, Nat.le_of_ble_eq_true rfl⟩) (fun u_51 H locs hw St => ?_)
      obtain ⟨z5_52, rfl⟩ : ∃ z, z = u_51 := ⟨_, rfl⟩
      try dsimp only at hw
      have hz5_53 := hw
      have St : cS G k ([(qAII h 7 b tn td), (qarQ b cf 8 fs), (qJJJJJJ pu 3 q0_27 q1_28 q2_29 q3_30 q4_31 q5_32), (qIIIIII h_11 4 s0_12 s1_13 s2_14 s3_15 s4_16 z5_52)] ++ (PWx nS (td.toInt.toNat - 1) bS2_3 ++ [])) [(cf, .object "TowerAppeal$Stage")] A s H locs := St
      have St : cS G k ([(qAII h 7 b tn td), (qarQ b cf 8 fs), (qJJJJJJ pu 3 q0_27 q1_28 q2_29 q3_30 q4_31 q5_32), (qIIIIII h_11 4 s0_12 s1_13 s2_14 s3_15 s4_16 z5_52)] ++ (PWx nS (td.toInt.toNat - 1) bS2_3 ++ [])) [(cf, .object "TowerAppeal$Stage")] A s H locs := ct_pick St [0, 1, 2, 3] rfl (by decide) [0] rfl
      have St := cs_push (cs := [(qAII h 7 b tn td), (qarQ b cf 8 fs), (qJJJJJJ pu 3 q0_27 q1_28 q2_29 q3_30 q4_31 q5_32)]) (b := [(qIIIIII h_11 4 s0_12 s1_13 s2_14 s3_15 s4_16 z5_52)]) (rs := []) St hj_21
      obtain ⟨B_54, eB_54⟩ : ∃ zz : Nat → va_W, zz = setB bS2_3 (td.toInt.toNat - 1) [(qIIIIII h_11 4 s0_12 s1_13 s2_14 s3_15 s4_16 z5_52)] := ⟨_, rfl⟩
      rw [← eB_54] at St
      have hB_55 : ∀ i, i < nS → okZ (tbS (zT td.toInt sc sl sk sq su) (td.toInt.toNat - 1) (s0_12, s1_13, s2_14, s3_15, s4_16, z5_52) i) (fs i) (B_54 i) := by rw [eB_54]; exact okZ_set hZ2_9 ⟨h_11, s0_12, s1_13, s2_14, s3_15, s4_16, z5_52, q_18, rfl, rfl⟩
      rw [zT_pa q_20 hz5_53] at hB_55
      have St : cS G k ([(qAII h 7 b tn td), (qarQ b cf 8 fs), (qJJJJJJ pu 3 q0_27 q1_28 q2_29 q3_30 q4_31 q5_32)] ++ (PW nS B_54 ++ [])) [(cf, .object "TowerAppeal$Stage")] A s H locs := St
      have St : cS G k ([(qAII h 7 b tn td), (qarQ b cf 8 fs), (qJJJJJJ pu 3 q0_27 q1_28 q2_29 q3_30 q4_31 q5_32)] ++ (PW nS B_54 ++ [])) [(cf, .object "TowerAppeal$Stage")] A s _ _ := ct_pick St [0, 1, 2] rfl (by decide) [0] rfl
      exact cs_vret F hr hlk hQ St (q0_27, q1_28, q2_29, q3_30, q4_31, q5_32, sk, sq, (upd su (td.toInt.toNat - 1) (su (td.toInt.toNat - 1) + 1)), B_54) ⟨by rw [hqe_39.1, hqe_39.2.1, hqe_39.2.2.2.2.1, hqe_39.2.2.2.2.2]; exact by_pause hrnX hpa.1 rfl, ⟨hqe_39.2.2.1, hqe_39.2.2.2.1⟩, hB_55⟩ (List.range _) (ix_all (w := ([(qAII h 7 b tn td), (qarQ b cf 8 fs), (qJJJJJJ pu 3 q0_27 q1_28 q2_29 q3_30 q4_31 q5_32)] ++ (PW nS B_54 ++ [])))) nd_C [] rfl (by decide) (by decide) dX7_payPart_39

