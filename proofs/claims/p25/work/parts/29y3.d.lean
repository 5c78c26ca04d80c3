set_option maxHeartbeats 4000000 in
set_option maxRecDepth 100000 in
theorem z_pledge (l : Launch) (G : va_G) (k : Nat → Nat) (sz : Nat) (h : Nat) (a : Nat → Nat) (d : Nat → ClassId) (cl : Int32) (sp : Int32) (bn : Int32) (fa : Nat → Option Nat) (nP : Nat) (bP : Nat → va_W) (x1 : Int32) (x2 : Int32) (x3 : Int32) (x4 : Int32) (x5 : Int32) (hc0 : 0 ≤ cl.toInt) (hc1 : cl.toInt ≤ 119) (tP : Nat → Pl9) (hnP : (nP : Int) = bn.toInt) (hn60 : nP ≤ 60) (hB : ∀ i, i < nP → okE (d 3) (tP i) (fa i) (bP i)) (hWT : ∀ i, i < nP → wfT cl.toInt (tP i)) : Met l yX10_pledge (Cond.code yX10_pledge cX10_pledge 6 (some .int) :: tb) ({ frames := 2, cells := 4, slots := 264, locals := 50 } : Room) (va_Pc [.ref h, .int x1, .int x2, .int x3, .int x4, .int x5] (cP G k ([(qAAAAAAAAII h 10 (a 0) (a 2) (a 6) (a 8) (a 15) (a 17) (a 22) (a 23) cl sp), (qAI (a 15) 2 (a 16) bn), (qarQ (a 16) (d 10) 60 fa)] ++ (PW nP bP ++ [])) [((d 3), .int), ((d 10), .object "TowerAppeal$Pledge")] sz)) (va_Qi (fun (r : Int32) (u : Int32 × (Nat → Option Nat) × (Nat → Pl9) × Nat × (Nat → va_W)) => match u with | (bn2, fa2, tP2, nP2, bP2) => (Rple sp bn cl x1 x2 x3 x4 x5 tP r bn2 tP2) ∧ ((nP2 : Int) = bn2.toInt) ∧ (nP2 ≤ 60) ∧ (∀ i, i < nP2 → okE (d 3) (tP2 i) (fa2 i) (bP2 i)) ∧ (∀ i, i < nP2 → wfT cl.toInt (tP2 i))) (cB G (fun u => match u with | (bn2, fa2, tP2, nP2, bP2) => ([(qAAAAAAAAII h 10 (a 0) (a 2) (a 6) (a 8) (a 15) (a 17) (a 22) (a 23) cl sp), (qAI (a 15) 2 (a 16) bn2), (qarQ (a 16) (d 10) 60 fa2)] ++ (PW nP2 bP2 ++ []))) (fun u => match u with | (bn2, fa2, tP2, nP2, bP2) => []) (va_A ([(qAAAAAAAAII h 10 (a 0) (a 2) (a 6) (a 8) (a 15) (a 17) (a 22) (a 23) cl sp), (qAI (a 15) 2 (a 16) bn), (qarQ (a 16) (d 10) 60 fa)] ++ (PW nP bP ++ [])) sz)) (va_A ([(qAAAAAAAAII h 10 (a 0) (a 2) (a 6) (a 8) (a 15) (a 17) (a 22) (a 23) cl sp), (qAI (a 15) 2 (a 16) bn), (qarQ (a 16) (d 10) 60 fa)] ++ (PW nP bP ++ [])) sz)) 4 264 (va_A ([(qAAAAAAAAII h 10 (a 0) (a 2) (a 6) (a 8) (a 15) (a 17) (a 22) (a 23) cl sp), (qAI (a 15) 2 (a 16) bn), (qarQ (a 16) (d 10) 60 fa)] ++ (PW nP bP ++ [])) sz) := by
  refine ofC_i (cc := cX10_pledge) (maxL := 6) (ret := (some .int)) (by decide) rfl (Nat.le_of_ble_eq_true rfl) ?_
  intro p e s m args below meth c A ls Q F hr hin hlk St hl hQ
  have hx := F.1
  have hb := F.2.1
  have hl : lv_has ls 6 [(0, .ref h), (1, .int x1), (2, .int x2), (3, .int x3), (4, .int x4), (5, .int x5)] := hl
  have St : cS G k ([(qAAAAAAAAII h 10 (a 0) (a 2) (a 6) (a 8) (a 15) (a 17) (a 22) (a 23) cl sp), (qAI (a 15) 2 (a 16) bn), (qarQ (a 16) (d 10) 60 fa)] ++ (PW nP bP ++ [])) [((d 3), .int), ((d 10), .object "TowerAppeal$Pledge")] A s s.heap [] := St
  have y0 : (0 : Int32).toInt = 0 := by decide
  skip
  refine lv_iload_n hx hb dX10_pledge_0 rfl (lv_at hl 1 rfl) ?_
  refine ct_i St [] [0, 1, 2] (wc := []) (wr := [(qAAAAAAAAII h 10 (a 0) (a 2) (a 6) (a 8) (a 15) (a 17) (a 22) (a 23) cl sp), (qAI (a 15) 2 (a 16) bn), (qarQ (a 16) (d 10) 60 fa)]) rfl rfl (by decide) (by decide) (va_runS (As := [.int x1]) (rest := []) F (x10_isGiver l G k _ x1) (cwSt F mf_X10_isGiver km_X10_102 rfl rfl ⟨Nat.le_of_ble_eq_true rfl, Nat.le_of_ble_eq_true rfl⟩) (ct_pre St [] rfl (by decide) [] rfl) rfl rfl hl.1 rfl (lv_room (Nat.le_of_ble_eq_true rfl)) dX10_pledge_1 ⟨Nat.le_of_ble_eq_true rfl, Nat.le_of_ble_eq_true rfl⟩) (fun r_1 u_2 H locs hw St => ?_)
  try dsimp only at hw
  rcases hw with ⟨z_3, hf_4⟩ | ⟨z_5, hf_6⟩
  ·
    subst r_1
    have St : cS G k ([(qAAAAAAAAII h 10 (a 0) (a 2) (a 6) (a 8) (a 15) (a 17) (a 22) (a 23) cl sp), (qAI (a 15) 2 (a 16) bn), (qarQ (a 16) (d 10) 60 fa)] ++ (PW nP bP ++ [])) [((d 3), .int), ((d 10), .object "TowerAppeal$Pledge")] A s H locs := St
    refine lv_if_eq (tgt := 52) hx hb dX10_pledge_4 (by decide) (fun c4 => ?_) (fun c4 => ?_)
    · exact absurd c4 (by decide)
    refine lv_iload_n hx hb dX10_pledge_7 rfl (lv_at hl 2 rfl) ?_
    refine lv_iconst (v := 1) hx hb dX10_pledge_8 (by decide) ?_
    refine lv_ldc (v := 100000) hx hb F.2.2.2.1 (F.2.2.2.2 _ kk_X10_118) dX10_pledge_9 ?_
    refine ct_i St [] [0, 1, 2] (wc := []) (wr := [(qAAAAAAAAII h 10 (a 0) (a 2) (a 6) (a 8) (a 15) (a 17) (a 22) (a 23) cl sp), (qAI (a 15) 2 (a 16) bn), (qarQ (a 16) (d 10) 60 fa)]) rfl rfl (by decide) (by decide) (va_runS (As := [.int x2, .int 1, .int 100000]) (rest := []) F (x10_isWithin l G k _ x2 1 100000 1 100000 (by decide) (by decide)) (cwSt F mf_X10_isWithin km_X10_119 rfl rfl ⟨Nat.le_of_ble_eq_true rfl, Nat.le_of_ble_eq_true rfl⟩) (ct_pre St [] rfl (by decide) [] rfl) rfl rfl hl.1 rfl (lv_room (Nat.le_of_ble_eq_true rfl)) dX10_pledge_11 ⟨Nat.le_of_ble_eq_true rfl, Nat.le_of_ble_eq_true rfl⟩) (fun r_7 u_8 H locs hw St => ?_)
    try dsimp only at hw
    rcases hw with ⟨z_9, hf_10⟩ | ⟨z_11, hf_12⟩
    ·
      subst r_7
      have St : cS G k ([(qAAAAAAAAII h 10 (a 0) (a 2) (a 6) (a 8) (a 15) (a 17) (a 22) (a 23) cl sp), (qAI (a 15) 2 (a 16) bn), (qarQ (a 16) (d 10) 60 fa)] ++ (PW nP bP ++ [])) [((d 3), .int), ((d 10), .object "TowerAppeal$Pledge")] A s H locs := St
      refine lv_if_eq (tgt := 52) hx hb dX10_pledge_14 (by decide) (fun c14 => ?_) (fun c14 => ?_)
      · exact absurd c14 (by decide)
      refine lv_iload_n hx hb dX10_pledge_17 rfl (lv_at hl 3 rfl) ?_
      refine lv_aload_n hx hb dX10_pledge_18 rfl (lv_at hl 0 rfl) ?_
      refine ct_get F St 0 rfl rfl inX10 8 (by decide) kf_X10_123 rfl dX10_pledge_19 ?_
      refine lv_bipush (v := 119) hx hb dX10_pledge_22 (by decide) ?_
      refine ct_i St [] [0, 1, 2] (wc := []) (wr := [(qAAAAAAAAII h 10 (a 0) (a 2) (a 6) (a 8) (a 15) (a 17) (a 22) (a 23) cl sp), (qAI (a 15) 2 (a 16) bn), (qarQ (a 16) (d 10) 60 fa)]) rfl rfl (by decide) (by decide) (va_runS (As := [.int x3, .int cl, .int 119]) (rest := []) F (x10_isWithin l G k _ x3 cl 119 cl.toInt 119 rfl (by decide)) (cwSt F mf_X10_isWithin km_X10_119 rfl rfl ⟨Nat.le_of_ble_eq_true rfl, Nat.le_of_ble_eq_true rfl⟩) (ct_pre St [] rfl (by decide) [] rfl) rfl rfl hl.1 rfl (lv_room (Nat.le_of_ble_eq_true rfl)) dX10_pledge_24 ⟨Nat.le_of_ble_eq_true rfl, Nat.le_of_ble_eq_true rfl⟩) (fun r_13 u_14 H locs hw St => ?_)
      try dsimp only at hw
      rcases hw with ⟨z_15, hf_16⟩ | ⟨z_17, hf_18⟩
      ·
        subst r_13
        have St : cS G k ([(qAAAAAAAAII h 10 (a 0) (a 2) (a 6) (a 8) (a 15) (a 17) (a 22) (a 23) cl sp), (qAI (a 15) 2 (a 16) bn), (qarQ (a 16) (d 10) 60 fa)] ++ (PW nP bP ++ [])) [((d 3), .int), ((d 10), .object "TowerAppeal$Pledge")] A s H locs := St
        refine lv_if_eq (tgt := 52) hx hb dX10_pledge_27 (by decide) (fun c27 => ?_) (fun c27 => ?_)
        · exact absurd c27 (by decide)
        refine lv_iload hx hb dX10_pledge_30 (lv_at hl 4 rfl) ?_
        refine lv_iconst (v := 1) hx hb dX10_pledge_32 (by decide) ?_
        refine lv_bipush (v := 12) hx hb dX10_pledge_33 (by decide) ?_
        refine ct_i St [] [0, 1, 2] (wc := []) (wr := [(qAAAAAAAAII h 10 (a 0) (a 2) (a 6) (a 8) (a 15) (a 17) (a 22) (a 23) cl sp), (qAI (a 15) 2 (a 16) bn), (qarQ (a 16) (d 10) 60 fa)]) rfl rfl (by decide) (by decide) (va_runS (As := [.int x4, .int 1, .int 12]) (rest := []) F (x10_isWithin l G k _ x4 1 12 1 12 (by decide) (by decide)) (cwSt F mf_X10_isWithin km_X10_119 rfl rfl ⟨Nat.le_of_ble_eq_true rfl, Nat.le_of_ble_eq_true rfl⟩) (ct_pre St [] rfl (by decide) [] rfl) rfl rfl hl.1 rfl (lv_room (Nat.le_of_ble_eq_true rfl)) dX10_pledge_35 ⟨Nat.le_of_ble_eq_true rfl, Nat.le_of_ble_eq_true rfl⟩) (fun r_19 u_20 H locs hw St => ?_)
        try dsimp only at hw
        rcases hw with ⟨z_21, hf_22⟩ | ⟨z_23, hf_24⟩
        ·
          subst r_19
          have St : cS G k ([(qAAAAAAAAII h 10 (a 0) (a 2) (a 6) (a 8) (a 15) (a 17) (a 22) (a 23) cl sp), (qAI (a 15) 2 (a 16) bn), (qarQ (a 16) (d 10) 60 fa)] ++ (PW nP bP ++ [])) [((d 3), .int), ((d 10), .object "TowerAppeal$Pledge")] A s H locs := St
          refine lv_if_eq (tgt := 52) hx hb dX10_pledge_38 (by decide) (fun c38 => ?_) (fun c38 => ?_)
          · exact absurd c38 (by decide)
          refine lv_iload hx hb dX10_pledge_41 (lv_at hl 5 rfl) ?_
          refine lv_iconst (v := 1) hx hb dX10_pledge_43 (by decide) ?_
          refine lv_bipush (v := 84) hx hb dX10_pledge_44 (by decide) ?_
          refine ct_i St [] [0, 1, 2] (wc := []) (wr := [(qAAAAAAAAII h 10 (a 0) (a 2) (a 6) (a 8) (a 15) (a 17) (a 22) (a 23) cl sp), (qAI (a 15) 2 (a 16) bn), (qarQ (a 16) (d 10) 60 fa)]) rfl rfl (by decide) (by decide) (va_runS (As := [.int x5, .int 1, .int 84]) (rest := []) F (x10_isWithin l G k _ x5 1 84 1 84 (by decide) (by decide)) (cwSt F mf_X10_isWithin km_X10_119 rfl rfl ⟨Nat.le_of_ble_eq_true rfl, Nat.le_of_ble_eq_true rfl⟩) (ct_pre St [] rfl (by decide) [] rfl) rfl rfl hl.1 rfl (lv_room (Nat.le_of_ble_eq_true rfl)) dX10_pledge_46 ⟨Nat.le_of_ble_eq_true rfl, Nat.le_of_ble_eq_true rfl⟩) (fun r_25 u_26 H locs hw St => ?_)
          try dsimp only at hw
          rcases hw with ⟨z_27, hf_28⟩ | ⟨z_29, hf_30⟩
          ·
            subst r_25
            have St : cS G k ([(qAAAAAAAAII h 10 (a 0) (a 2) (a 6) (a 8) (a 15) (a 17) (a 22) (a 23) cl sp), (qAI (a 15) 2 (a 16) bn), (qarQ (a 16) (d 10) 60 fa)] ++ (PW nP bP ++ [])) [((d 3), .int), ((d 10), .object "TowerAppeal$Pledge")] A s H locs := St
            refine lv_if_ne (tgt := 55) hx hb dX10_pledge_49 (by decide) (fun c49 => ?_) (fun c49 => ?_)
            rotate_left
            · exact absurd c49 (by decide)
            refine lv_aload_n hx hb dX10_pledge_55 rfl (lv_at hl 0 rfl) ?_
            refine ct_get F St 0 rfl rfl inX10 9 (by decide) kf_X10_106 rfl dX10_pledge_56 ?_
            refine lv_if_eq (tgt := 65) hx hb dX10_pledge_59 (by decide) (fun c59 => ?_) (fun c59 => ?_)
            ·
              have i59 := ci_eq (x := sp) (y := 0) rfl (show (0 : Int32).toInt = 0 by decide) c59
              refine lv_aload_n hx hb dX10_pledge_65 rfl (lv_at hl 0 rfl) ?_
              refine ct_get F St 0 rfl rfl inX10 4 (by decide) kf_X10_40 rfl dX10_pledge_66 ?_
              refine ct_i St [1] [0, 2] (wc := [(qAI (a 15) 2 (a 16) bn)]) (wr := [(qAAAAAAAAII h 10 (a 0) (a 2) (a 6) (a 8) (a 15) (a 17) (a 22) (a 23) cl sp), (qarQ (a 16) (d 10) 60 fa)]) rfl rfl (by decide) (by decide) (va_runV (As := []) (rest := []) F (x2_isFull l G k _ (a 15) (a 16) bn) (cwVt F mf_X2_isFull km_X10_127 rfl rfl ⟨Nat.le_of_ble_eq_true rfl, Nat.le_of_ble_eq_true rfl⟩) (ct_preV St [1] rfl (by decide) [] rfl (ci := 2) (q0 := 1) rfl rfl) rfl rfl hl.1 rfl (lv_room (Nat.le_of_ble_eq_true rfl)) dX10_pledge_69 ⟨Nat.le_of_ble_eq_true rfl, Nat.le_of_ble_eq_true rfl⟩) (fun r_31 u_32 H locs hw St => ?_)
              try dsimp only at hw
              rcases hw with ⟨z_33, hf_34⟩ | ⟨z_35, hf_36⟩
              ·
                subst r_31
                have St : cS G k ([(qAAAAAAAAII h 10 (a 0) (a 2) (a 6) (a 8) (a 15) (a 17) (a 22) (a 23) cl sp), (qarQ (a 16) (d 10) 60 fa), (qAI (a 15) 2 (a 16) bn)] ++ (PW nP bP ++ [])) [((d 3), .int), ((d 10), .object "TowerAppeal$Pledge")] A s H locs := St
                refine lv_if_eq (tgt := 78) hx hb dX10_pledge_72 (by decide) (fun c72 => ?_) (fun c72 => ?_)
                · exact absurd c72 (by decide)
                refine lv_bipush (v := (-3)) hx hb dX10_pledge_75 (by decide) ?_
                have St : cS G k ([(qAAAAAAAAII h 10 (a 0) (a 2) (a 6) (a 8) (a 15) (a 17) (a 22) (a 23) cl sp), (qAI (a 15) 2 (a 16) bn), (qarQ (a 16) (d 10) 60 fa)] ++ (PW nP bP ++ [])) [((d 3), .int), ((d 10), .object "TowerAppeal$Pledge")] A s _ _ := ct_pick St [0, 2, 1] rfl (by decide) [0, 1] rfl
                exact cs_iret F hr hlk hQ St (bn, fa, tP, nP, bP) (r := (-3)) ⟨Or.inr (Or.inr (Or.inl ⟨rfl, ⟨by unfold Cpn; omega, by omega, by omega⟩, rfl, rfl⟩)), hnP, hn60, hB, hWT⟩ (List.range _) (ix_all (w := ([(qAAAAAAAAII h 10 (a 0) (a 2) (a 6) (a 8) (a 15) (a 17) (a 22) (a 23) cl sp), (qAI (a 15) 2 (a 16) bn), (qarQ (a 16) (d 10) 60 fa)] ++ (PW nP bP ++ [])))) nd_C [] rfl (by decide) (by decide) dX10_pledge_77
              ·
                subst r_31
                have St : cS G k ([(qAAAAAAAAII h 10 (a 0) (a 2) (a 6) (a 8) (a 15) (a 17) (a 22) (a 23) cl sp), (qarQ (a 16) (d 10) 60 fa), (qAI (a 15) 2 (a 16) bn)] ++ (PW nP bP ++ [])) [((d 3), .int), ((d 10), .object "TowerAppeal$Pledge")] A s H locs := St
                refine lv_if_eq (tgt := 78) hx hb dX10_pledge_72 (by decide) (fun c72 => ?_) (fun c72 => ?_)
                rotate_left
                · exact absurd (by decide) c72
                refine lv_aload_n hx hb dX10_pledge_78 rfl (lv_at hl 0 rfl) ?_
                refine ct_get F St 0 rfl rfl inX10 4 (by decide) kf_X10_40 rfl dX10_pledge_79 ?_
                refine ct_new F St (ci := 1) rfl inX1 tyX1_ok kc_X10_130 kn_X1 ki_X1 (fs := [.int 0, .int 0, .int 0, .int 0, .null, .null, .null, .int 0, .int 0, .int 0, .int 0, .int 0]) (by decide +kernel) (Nat.le_of_ble_eq_true rfl) (Nat.le_of_ble_eq_true rfl) dX10_pledge_82 (fun q_37 H St => ?_)
                refine W.widen (k := 1) (n := 12) (by decide) (by decide) ?_
                have St : cS G k ([(qAAAAAAAAII h 10 (a 0) (a 2) (a 6) (a 8) (a 15) (a 17) (a 22) (a 23) cl sp), (qarQ (a 16) (d 10) 60 fa), (qAI (a 15) 2 (a 16) bn), (q_37, .inr (1, [.int 0, .int 0, .int 0, .int 0, .null, .null, .null, .int 0, .int 0, .int 0, .int 0, .int 0]))] ++ (PW nP bP ++ [])) [((d 3), .int), ((d 10), .object "TowerAppeal$Pledge")] A s _ _ := St
                refine lv_dup hx hb dX10_pledge_85 rfl ?_
                refine lv_iload_n hx hb dX10_pledge_86 rfl (lv_at hl 1 rfl) ?_
                refine lv_iload_n hx hb dX10_pledge_87 rfl (lv_at hl 2 rfl) ?_
                refine lv_iload_n hx hb dX10_pledge_88 rfl (lv_at hl 3 rfl) ?_
                refine lv_iload hx hb dX10_pledge_89 (lv_at hl 4 rfl) ?_
                refine lv_iload hx hb dX10_pledge_91 (lv_at hl 5 rfl) ?_
                refine ct_v St [3] [0, 1, 2] (wc := [(q_37, .inr (1, [.int 0, .int 0, .int 0, .int 0, .null, .null, .null, .int 0, .int 0, .int 0, .int 0, .int 0]))]) (wr := [(qAAAAAAAAII h 10 (a 0) (a 2) (a 6) (a 8) (a 15) (a 17) (a 22) (a 23) cl sp), (qarQ (a 16) (d 10) 60 fa), (qAI (a 15) 2 (a 16) bn)]) rfl rfl (by decide) (by decide) (va_runI (As := [.int x1, .int x2, .int x3, .int x4, .int x5]) (rest := [.ref q_37, .ref (a 15)]) F (e1_init l G k _ q_37 (d 3) x1 x2 x3 x4 x5 (by omega)) (cwIt F mf_X1_init km_X10_132 rfl rfl ⟨Nat.le_of_ble_eq_true rfl, Nat.le_of_ble_eq_true rfl⟩) (ct_pre St [3] rfl (by decide) [0] rfl) rfl rfl hl.1 rfl (lv_room (Nat.le_of_ble_eq_true rfl)) dX10_pledge_93 ⟨Nat.le_of_ble_eq_true rfl, Nat.le_of_ble_eq_true rfl⟩) (fun u_39 H locs hw St => ?_)
                obtain ⟨sz0_40, o0_41, o1_42, o2_43, NN_44, w0_45⟩ := u_39
                try dsimp only at hw
                refine W.widen (k := 4) (n := 264) (by decide) (by decide) ?_
                obtain ⟨hN_46, hN4_47, hNd_48, hw0_49⟩ := hw
                have St : cS G k ([(qAAAAAAAAII h 10 (a 0) (a 2) (a 6) (a 8) (a 15) (a 17) (a 22) (a 23) cl sp), (qarQ (a 16) (d 10) 60 fa), (qAI (a 15) 2 (a 16) bn), (qIIIIAAAIIIII q_37 1 x1 x3 x4 sz0_40 o0_41 o1_42 o2_43 x2 0 0 0 (-1)), (qarI o0_41 (d 3) NN_44 w0_45), (qarI o1_42 (d 3) NN_44 (fun _ => 0)), (qarI o2_43 (d 3) NN_44 (fun _ => 0))] ++ (PW nP bP ++ [])) [((d 3), .int), ((d 10), .object "TowerAppeal$Pledge")] A s H locs := St
                refine ct_i St [2, 1, 3] [0, 4, 5, 6] (wc := [(qAI (a 15) 2 (a 16) bn), (qarQ (a 16) (d 10) 60 fa), (qIIIIAAAIIIII q_37 1 x1 x3 x4 sz0_40 o0_41 o1_42 o2_43 x2 0 0 0 (-1))]) (wr := [(qAAAAAAAAII h 10 (a 0) (a 2) (a 6) (a 8) (a 15) (a 17) (a 22) (a 23) cl sp), (qarI o0_41 (d 3) NN_44 w0_45), (qarI o1_42 (d 3) NN_44 (fun _ => 0)), (qarI o2_43 (d 3) NN_44 (fun _ => 0))]) rfl rfl (by decide) (by decide) (va_runV (As := [.ref q_37]) (rest := []) F (x2_add l G k _ (a 15) (a 16) (d 10) bn fa q_37 o0_41 o1_42 o2_43 x1 x3 x4 sz0_40 x2 0 0 0 (-1) (by omega) (by omega)) (cwVt F mf_X2_add km_X10_135 rfl rfl ⟨Nat.le_of_ble_eq_true rfl, Nat.le_of_ble_eq_true rfl⟩) (ct_preV St [2, 1, 3] rfl (by decide) [1] rfl (ci := 2) (q0 := 2) rfl rfl) rfl rfl hl.1 rfl (lv_room (Nat.le_of_ble_eq_true rfl)) dX10_pledge_96 ⟨Nat.le_of_ble_eq_true rfl, Nat.le_of_ble_eq_true rfl⟩) (fun r_50 u_51 H locs hw St => ?_)
                obtain ⟨bn2_52, fa2_53⟩ := u_51
                try dsimp only at hw
                obtain ⟨hr_54, hb2_55, hf2_56⟩ := hw
                have St : cS G k ([(qAAAAAAAAII h 10 (a 0) (a 2) (a 6) (a 8) (a 15) (a 17) (a 22) (a 23) cl sp), (qarI o0_41 (d 3) NN_44 w0_45), (qarI o1_42 (d 3) NN_44 (fun _ => 0)), (qarI o2_43 (d 3) NN_44 (fun _ => 0)), (qAI (a 15) 2 (a 16) bn2_52), (qarQ (a 16) (d 10) 60 fa2_53), (qIIIIAAAIIIII q_37 1 x1 x3 x4 sz0_40 o0_41 o1_42 o2_43 x2 0 0 0 (-1))] ++ (PW nP bP ++ [])) [((d 3), .int), ((d 10), .object "TowerAppeal$Pledge")] A s H locs := St
                have St : cS G k ([(qAAAAAAAAII h 10 (a 0) (a 2) (a 6) (a 8) (a 15) (a 17) (a 22) (a 23) cl sp), (qAI (a 15) 2 (a 16) bn2_52), (qarQ (a 16) (d 10) 60 fa2_53), (qIIIIAAAIIIII q_37 1 x1 x3 x4 sz0_40 o0_41 o1_42 o2_43 x2 0 0 0 (-1)), (qarI o0_41 (d 3) NN_44 w0_45), (qarI o1_42 (d 3) NN_44 (fun _ => 0)), (qarI o2_43 (d 3) NN_44 (fun _ => 0))] ++ (PW nP bP ++ [])) [((d 3), .int), ((d 10), .object "TowerAppeal$Pledge")] A s H locs := ct_pick St [0, 4, 5, 6, 1, 2, 3] rfl (by decide) [0, 1] rfl
                have St := cs_grow (cs := [(qAAAAAAAAII h 10 (a 0) (a 2) (a 6) (a 8) (a 15) (a 17) (a 22) (a 23) cl sp), (qAI (a 15) 2 (a 16) bn2_52), (qarQ (a 16) (d 10) 60 fa2_53)]) (b := [(qIIIIAAAIIIII q_37 1 x1 x3 x4 sz0_40 o0_41 o1_42 o2_43 x2 0 0 0 (-1)), (qarI o0_41 (d 3) NN_44 w0_45), (qarI o1_42 (d 3) NN_44 (fun _ => 0)), (qarI o2_43 (d 3) NN_44 (fun _ => 0))]) (rs := []) St
                obtain ⟨B_57, eB_57⟩ : ∃ zz : Nat → va_W, zz = setB bP nP [(qIIIIAAAIIIII q_37 1 x1 x3 x4 sz0_40 o0_41 o1_42 o2_43 x2 0 0 0 (-1)), (qarI o0_41 (d 3) NN_44 w0_45), (qarI o1_42 (d 3) NN_44 (fun _ => 0)), (qarI o2_43 (d 3) NN_44 (fun _ => 0))] := ⟨_, rfl⟩
                rw [← eB_57] at St
                have St : cS G k ([(qAAAAAAAAII h 10 (a 0) (a 2) (a 6) (a 8) (a 15) (a 17) (a 22) (a 23) cl sp), (qAI (a 15) 2 (a 16) bn2_52), (qarQ (a 16) (d 10) 60 fa2_53)] ++ (PW (nP + 1) B_57 ++ [])) [((d 3), .int), ((d 10), .object "TowerAppeal$Pledge")] A s H locs := St
                have hB_58 : ∀ i, i < nP + 1 → okE (d 3) (tbS tP bn.toNatClampNeg (nwT x1 x2 x3 x4 x5) i) (fa2_53 i) (B_57 i) := by rw [eB_57, hf2_56]; exact okE_grow hnP hB ⟨q_37, o0_41, o1_42, o2_43, NN_44, x1, x3, x4, sz0_40, x2, 0, 0, 0, (-1), w0_45, fun _ => 0, fun _ => 0, rfl, hN_46, hN4_47, Or.inl rfl, rfl, by rw [hw0_49, hNd_48]; rfl⟩
                have St : cS G k ([(qAAAAAAAAII h 10 (a 0) (a 2) (a 6) (a 8) (a 15) (a 17) (a 22) (a 23) cl sp), (qAI (a 15) 2 (a 16) bn2_52), (qarQ (a 16) (d 10) 60 fa2_53)] ++ (PW (nP + 1) B_57 ++ [])) [((d 3), .int), ((d 10), .object "TowerAppeal$Pledge")] A s _ _ := ct_pick St [0, 1, 2] rfl (by decide) [0, 1] rfl
                exact cs_iret F hr hlk hQ St (bn2_52, fa2_53, (tbS tP bn.toNatClampNeg (nwT x1 x2 x3 x4 x5)), nP + 1, B_57) (r := r_50) ⟨Or.inr (Or.inr (Or.inr (⟨hr_54, ⟨by unfold Cpn; omega, by omega, by omega⟩, by omega, rfl⟩))), by omega, by omega, hB_58, wf_new hWT hnP (nw_wf (by omega) (by omega) (by omega) (by omega) (by omega))⟩ (List.range _) (ix_all (w := ([(qAAAAAAAAII h 10 (a 0) (a 2) (a 6) (a 8) (a 15) (a 17) (a 22) (a 23) cl sp), (qAI (a 15) 2 (a 16) bn2_52), (qarQ (a 16) (d 10) 60 fa2_53)] ++ (PW (nP + 1) B_57 ++ [])))) nd_C [] rfl (by decide) (by decide) dX10_pledge_99
            ·
              have i59 := ci_ne (x := sp) (y := 0) rfl (show (0 : Int32).toInt = 0 by decide) c59
              refine lv_bipush (v := (-4)) hx hb dX10_pledge_62 (by decide) ?_
              have St : cS G k ([(qAAAAAAAAII h 10 (a 0) (a 2) (a 6) (a 8) (a 15) (a 17) (a 22) (a 23) cl sp), (qAI (a 15) 2 (a 16) bn), (qarQ (a 16) (d 10) 60 fa)] ++ (PW nP bP ++ [])) [((d 3), .int), ((d 10), .object "TowerAppeal$Pledge")] A s _ _ := ct_pick St [0, 1, 2] rfl (by decide) [0, 1] rfl
              exact cs_iret F hr hlk hQ St (bn, fa, tP, nP, bP) (r := (-4)) ⟨Or.inr (Or.inl ⟨rfl, ⟨by unfold Cpn; omega, by omega⟩, rfl, rfl⟩), hnP, hn60, hB, hWT⟩ (List.range _) (ix_all (w := ([(qAAAAAAAAII h 10 (a 0) (a 2) (a 6) (a 8) (a 15) (a 17) (a 22) (a 23) cl sp), (qAI (a 15) 2 (a 16) bn), (qarQ (a 16) (d 10) 60 fa)] ++ (PW nP bP ++ [])))) nd_C [] rfl (by decide) (by decide) dX10_pledge_64
          ·
            subst r_25
            have St : cS G k ([(qAAAAAAAAII h 10 (a 0) (a 2) (a 6) (a 8) (a 15) (a 17) (a 22) (a 23) cl sp), (qAI (a 15) 2 (a 16) bn), (qarQ (a 16) (d 10) 60 fa)] ++ (PW nP bP ++ [])) [((d 3), .int), ((d 10), .object "TowerAppeal$Pledge")] A s H locs := St
            refine lv_if_ne (tgt := 55) hx hb dX10_pledge_49 (by decide) (fun c49 => ?_) (fun c49 => ?_)
            · exact absurd c49 (by decide)
            refine lv_bipush (v := (-2)) hx hb dX10_pledge_52 (by decide) ?_
            have St : cS G k ([(qAAAAAAAAII h 10 (a 0) (a 2) (a 6) (a 8) (a 15) (a 17) (a 22) (a 23) cl sp), (qAI (a 15) 2 (a 16) bn), (qarQ (a 16) (d 10) 60 fa)] ++ (PW nP bP ++ [])) [((d 3), .int), ((d 10), .object "TowerAppeal$Pledge")] A s _ _ := ct_pick St [0, 1, 2] rfl (by decide) [0, 1] rfl
            exact cs_iret F hr hlk hQ St (bn, fa, tP, nP, bP) (r := (-2)) ⟨Or.inl ⟨rfl, by unfold Cpn; omega, rfl, rfl⟩, hnP, hn60, hB, hWT⟩ (List.range _) (ix_all (w := ([(qAAAAAAAAII h 10 (a 0) (a 2) (a 6) (a 8) (a 15) (a 17) (a 22) (a 23) cl sp), (qAI (a 15) 2 (a 16) bn), (qarQ (a 16) (d 10) 60 fa)] ++ (PW nP bP ++ [])))) nd_C [] rfl (by decide) (by decide) dX10_pledge_54
        ·
          subst r_19
          have St : cS G k ([(qAAAAAAAAII h 10 (a 0) (a 2) (a 6) (a 8) (a 15) (a 17) (a 22) (a 23) cl sp), (qAI (a 15) 2 (a 16) bn), (qarQ (a 16) (d 10) 60 fa)] ++ (PW nP bP ++ [])) [((d 3), .int), ((d 10), .object "TowerAppeal$Pledge")] A s H locs := St
          refine lv_if_eq (tgt := 52) hx hb dX10_pledge_38 (by decide) (fun c38 => ?_) (fun c38 => ?_)
          rotate_left
          · exact absurd (by decide) c38
          refine lv_bipush (v := (-2)) hx hb dX10_pledge_52 (by decide) ?_
          have St : cS G k ([(qAAAAAAAAII h 10 (a 0) (a 2) (a 6) (a 8) (a 15) (a 17) (a 22) (a 23) cl sp), (qAI (a 15) 2 (a 16) bn), (qarQ (a 16) (d 10) 60 fa)] ++ (PW nP bP ++ [])) [((d 3), .int), ((d 10), .object "TowerAppeal$Pledge")] A s _ _ := ct_pick St [0, 1, 2] rfl (by decide) [0, 1] rfl
          exact cs_iret F hr hlk hQ St (bn, fa, tP, nP, bP) (r := (-2)) ⟨Or.inl ⟨rfl, by unfold Cpn; omega, rfl, rfl⟩, hnP, hn60, hB, hWT⟩ (List.range _) (ix_all (w := ([(qAAAAAAAAII h 10 (a 0) (a 2) (a 6) (a 8) (a 15) (a 17) (a 22) (a 23) cl sp), (qAI (a 15) 2 (a 16) bn), (qarQ (a 16) (d 10) 60 fa)] ++ (PW nP bP ++ [])))) nd_C [] rfl (by decide) (by decide) dX10_pledge_54
      ·
        subst r_13
        have St : cS G k ([(qAAAAAAAAII h 10 (a 0) (a 2) (a 6) (a 8) (a 15) (a 17) (a 22) (a 23) cl sp), (qAI (a 15) 2 (a 16) bn), (qarQ (a 16) (d 10) 60 fa)] ++ (PW nP bP ++ [])) [((d 3), .int), ((d 10), .object "TowerAppeal$Pledge")] A s H locs := St
        refine lv_if_eq (tgt := 52) hx hb dX10_pledge_27 (by decide) (fun c27 => ?_) (fun c27 => ?_)
        rotate_left
        · exact absurd (by decide) c27
        refine lv_bipush (v := (-2)) hx hb dX10_pledge_52 (by decide) ?_
        have St : cS G k ([(qAAAAAAAAII h 10 (a 0) (a 2) (a 6) (a 8) (a 15) (a 17) (a 22) (a 23) cl sp), (qAI (a 15) 2 (a 16) bn), (qarQ (a 16) (d 10) 60 fa)] ++ (PW nP bP ++ [])) [((d 3), .int), ((d 10), .object "TowerAppeal$Pledge")] A s _ _ := ct_pick St [0, 1, 2] rfl (by decide) [0, 1] rfl
        exact cs_iret F hr hlk hQ St (bn, fa, tP, nP, bP) (r := (-2)) ⟨Or.inl ⟨rfl, by unfold Cpn; omega, rfl, rfl⟩, hnP, hn60, hB, hWT⟩ (List.range _) (ix_all (w := ([(qAAAAAAAAII h 10 (a 0) (a 2) (a 6) (a 8) (a 15) (a 17) (a 22) (a 23) cl sp), (qAI (a 15) 2 (a 16) bn), (qarQ (a 16) (d 10) 60 fa)] ++ (PW nP bP ++ [])))) nd_C [] rfl (by decide) (by decide) dX10_pledge_54
    ·
      subst r_7
      have St : cS G k ([(qAAAAAAAAII h 10 (a 0) (a 2) (a 6) (a 8) (a 15) (a 17) (a 22) (a 23) cl sp), (qAI (a 15) 2 (a 16) bn), (qarQ (a 16) (d 10) 60 fa)] ++ (PW nP bP ++ [])) [((d 3), .int), ((d 10), .object "TowerAppeal$Pledge")] A s H locs := St
      refine lv_if_eq (tgt := 52) hx hb dX10_pledge_14 (by decide) (fun c14 => ?_) (fun c14 => ?_)
      rotate_left
      · exact absurd (by decide) c14
      refine lv_bipush (v := (-2)) hx hb dX10_pledge_52 (by decide) ?_
      have St : cS G k ([(qAAAAAAAAII h 10 (a 0) (a 2) (a 6) (a 8) (a 15) (a 17) (a 22) (a 23) cl sp), (qAI (a 15) 2 (a 16) bn), (qarQ (a 16) (d 10) 60 fa)] ++ (PW nP bP ++ [])) [((d 3), .int), ((d 10), .object "TowerAppeal$Pledge")] A s _ _ := ct_pick St [0, 1, 2] rfl (by decide) [0, 1] rfl
      exact cs_iret F hr hlk hQ St (bn, fa, tP, nP, bP) (r := (-2)) ⟨Or.inl ⟨rfl, by unfold Cpn; omega, rfl, rfl⟩, hnP, hn60, hB, hWT⟩ (List.range _) (ix_all (w := ([(qAAAAAAAAII h 10 (a 0) (a 2) (a 6) (a 8) (a 15) (a 17) (a 22) (a 23) cl sp), (qAI (a 15) 2 (a 16) bn), (qarQ (a 16) (d 10) 60 fa)] ++ (PW nP bP ++ [])))) nd_C [] rfl (by decide) (by decide) dX10_pledge_54
  ·
    subst r_1
    have St : cS G k ([(qAAAAAAAAII h 10 (a 0) (a 2) (a 6) (a 8) (a 15) (a 17) (a 22) (a 23) cl sp), (qAI (a 15) 2 (a 16) bn), (qarQ (a 16) (d 10) 60 fa)] ++ (PW nP bP ++ [])) [((d 3), .int), ((d 10), .object "TowerAppeal$Pledge")] A s H locs := St
    refine lv_if_eq (tgt := 52) hx hb dX10_pledge_4 (by decide) (fun c4 => ?_) (fun c4 => ?_)
    rotate_left
    · exact absurd (by decide) c4
    refine lv_bipush (v := (-2)) hx hb dX10_pledge_52 (by decide) ?_
    have St : cS G k ([(qAAAAAAAAII h 10 (a 0) (a 2) (a 6) (a 8) (a 15) (a 17) (a 22) (a 23) cl sp), (qAI (a 15) 2 (a 16) bn), (qarQ (a 16) (d 10) 60 fa)] ++ (PW nP bP ++ [])) [((d 3), .int), ((d 10), .object "TowerAppeal$Pledge")] A s _ _ := ct_pick St [0, 1, 2] rfl (by decide) [0, 1] rfl
    exact cs_iret F hr hlk hQ St (bn, fa, tP, nP, bP) (r := (-2)) ⟨Or.inl ⟨rfl, by unfold Cpn; omega, rfl, rfl⟩, hnP, hn60, hB, hWT⟩ (List.range _) (ix_all (w := ([(qAAAAAAAAII h 10 (a 0) (a 2) (a 6) (a 8) (a 15) (a 17) (a 22) (a 23) cl sp), (qAI (a 15) 2 (a 16) bn), (qarQ (a 16) (d 10) 60 fa)] ++ (PW nP bP ++ [])))) nd_C [] rfl (by decide) (by decide) dX10_pledge_54
set_option maxHeartbeats 4000000 in
set_option maxRecDepth 100000 in
theorem z_stage (l : Launch) (G : va_G) (k : Nat → Nat) (sz : Nat) (h : Nat) (a : Nat → Nat) (d : Nat → ClassId) (cl : Int32) (sp : Int32) (tn : Int32) (td : Int32) (fs : Nat → Option Nat) (nS : Nat) (bS : Nat → va_W) (x1 : Int32) (x2 : Int32) (sc : Nat → Int32) (sl : Nat → Int32) (sk : Nat → Int32) (sq : Nat → Int32) (su : Nat → Int32) (hnS : (nS : Int) = tn.toInt) (hn8 : nS ≤ 8) (hZ : ∀ i, i < nS → okZ (zT td.toInt sc sl sk sq su i) (fs i) (bS i)) (hwS : wfS tn.toInt td.toInt sc sl sk sq) (hsu : ∀ i : Nat, tn.toInt ≤ (i : Int) → su i = 0) : Met l yX10_stage (Cond.code yX10_stage cX10_stage 3 (some .int) :: tb) ({ frames := 2, cells := 1, slots := 6, locals := 42 } : Room) (va_Pc [.ref h, .int x1, .int x2] (cP G k ([(qAAAAAAAAII h 10 (a 0) (a 2) (a 6) (a 8) (a 15) (a 17) (a 22) (a 23) cl sp), (qAII (a 23) 7 (a 24) tn td), (qarQ (a 24) (d 15) 8 fs)] ++ (PW nS bS ++ [])) [((d 15), .object "TowerAppeal$Stage")] sz)) (va_Qi (fun (r : Int32) (u : Int32 × (Nat → Option Nat) × (Nat → Int32) × (Nat → Int32) × Nat × (Nat → va_W)) => match u with | (tn2, fs2, sc2, sl2, nS2, bS2) => (Rstg sp tn x1 x2 sc sl r tn2 sc2 sl2) ∧ ((nS2 : Int) = tn2.toInt) ∧ (nS2 ≤ 8) ∧ (∀ i, i < nS2 → okZ (zT td.toInt sc2 sl2 sk sq su i) (fs2 i) (bS2 i))) (cB G (fun u => match u with | (tn2, fs2, sc2, sl2, nS2, bS2) => ([(qAAAAAAAAII h 10 (a 0) (a 2) (a 6) (a 8) (a 15) (a 17) (a 22) (a 23) cl sp), (qAII (a 23) 7 (a 24) tn2 td), (qarQ (a 24) (d 15) 8 fs2)] ++ (PW nS2 bS2 ++ []))) (fun u => match u with | (tn2, fs2, sc2, sl2, nS2, bS2) => []) (va_A ([(qAAAAAAAAII h 10 (a 0) (a 2) (a 6) (a 8) (a 15) (a 17) (a 22) (a 23) cl sp), (qAII (a 23) 7 (a 24) tn td), (qarQ (a 24) (d 15) 8 fs)] ++ (PW nS bS ++ [])) sz)) (va_A ([(qAAAAAAAAII h 10 (a 0) (a 2) (a 6) (a 8) (a 15) (a 17) (a 22) (a 23) cl sp), (qAII (a 23) 7 (a 24) tn td), (qarQ (a 24) (d 15) 8 fs)] ++ (PW nS bS ++ [])) sz)) 1 6 (va_A ([(qAAAAAAAAII h 10 (a 0) (a 2) (a 6) (a 8) (a 15) (a 17) (a 22) (a 23) cl sp), (qAII (a 23) 7 (a 24) tn td), (qarQ (a 24) (d 15) 8 fs)] ++ (PW nS bS ++ [])) sz) := by
  refine ofC_i (cc := cX10_stage) (maxL := 3) (ret := (some .int)) (by decide) rfl (Nat.le_of_ble_eq_true rfl) ?_
  intro p e s m args below meth c A ls Q F hr hin hlk St hl hQ
  have hx := F.1
  have hb := F.2.1
  have hl : lv_has ls 3 [(0, .ref h), (1, .int x1), (2, .int x2)] := hl
  have St : cS G k ([(qAAAAAAAAII h 10 (a 0) (a 2) (a 6) (a 8) (a 15) (a 17) (a 22) (a 23) cl sp), (qAII (a 23) 7 (a 24) tn td), (qarQ (a 24) (d 15) 8 fs)] ++ (PW nS bS ++ [])) [((d 15), .object "TowerAppeal$Stage")] A s s.heap [] := St
  have y0 : (0 : Int32).toInt = 0 := by decide
  have htd := hwS.1
  have hntn := nc_int (x := tn) (by omega)
  skip
  refine lv_iload_n hx hb dX10_stage_0 rfl (lv_at hl 1 rfl) ?_
  refine lv_iconst (v := 1) hx hb dX10_stage_1 (by decide) ?_
  refine lv_ldc (v := 100000000) hx hb F.2.2.2.1 (F.2.2.2.2 _ kk_X10_215) dX10_stage_2 ?_
  refine ct_i St [] [0, 1, 2] (wc := []) (wr := [(qAAAAAAAAII h 10 (a 0) (a 2) (a 6) (a 8) (a 15) (a 17) (a 22) (a 23) cl sp), (qAII (a 23) 7 (a 24) tn td), (qarQ (a 24) (d 15) 8 fs)]) rfl rfl (by decide) (by decide) (va_runS (As := [.int x1, .int 1, .int 100000000]) (rest := []) F (x10_isWithin l G k _ x1 1 100000000 1 100000000 (by decide) (by decide)) (cwSt F mf_X10_isWithin km_X10_119 rfl rfl ⟨Nat.le_of_ble_eq_true rfl, Nat.le_of_ble_eq_true rfl⟩) (ct_pre St [] rfl (by decide) [] rfl) rfl rfl hl.1 rfl (lv_room (Nat.le_of_ble_eq_true rfl)) dX10_stage_4 ⟨Nat.le_of_ble_eq_true rfl, Nat.le_of_ble_eq_true rfl⟩) (fun r_1 u_2 H locs hw St => ?_)
  try dsimp only at hw
  rcases hw with ⟨z_3, hf_4⟩ | ⟨z_5, hf_6⟩
  ·
    subst r_1
    have St : cS G k ([(qAAAAAAAAII h 10 (a 0) (a 2) (a 6) (a 8) (a 15) (a 17) (a 22) (a 23) cl sp), (qAII (a 23) 7 (a 24) tn td), (qarQ (a 24) (d 15) 8 fs)] ++ (PW nS bS ++ [])) [((d 15), .object "TowerAppeal$Stage")] A s H locs := St
    refine lv_if_eq (tgt := 20) hx hb dX10_stage_7 (by decide) (fun c7 => ?_) (fun c7 => ?_)
    · exact absurd c7 (by decide)
    refine lv_iload_n hx hb dX10_stage_10 rfl (lv_at hl 2 rfl) ?_
    refine lv_iconst (v := 1) hx hb dX10_stage_11 (by decide) ?_
    refine lv_bipush (v := 24) hx hb dX10_stage_12 (by decide) ?_
    refine ct_i St [] [0, 1, 2] (wc := []) (wr := [(qAAAAAAAAII h 10 (a 0) (a 2) (a 6) (a 8) (a 15) (a 17) (a 22) (a 23) cl sp), (qAII (a 23) 7 (a 24) tn td), (qarQ (a 24) (d 15) 8 fs)]) rfl rfl (by decide) (by decide) (va_runS (As := [.int x2, .int 1, .int 24]) (rest := []) F (x10_isWithin l G k _ x2 1 24 1 24 (by decide) (by decide)) (cwSt F mf_X10_isWithin km_X10_119 rfl rfl ⟨Nat.le_of_ble_eq_true rfl, Nat.le_of_ble_eq_true rfl⟩) (ct_pre St [] rfl (by decide) [] rfl) rfl rfl hl.1 rfl (lv_room (Nat.le_of_ble_eq_true rfl)) dX10_stage_14 ⟨Nat.le_of_ble_eq_true rfl, Nat.le_of_ble_eq_true rfl⟩) (fun r_7 u_8 H locs hw St => ?_)
    try dsimp only at hw
    rcases hw with ⟨z_9, hf_10⟩ | ⟨z_11, hf_12⟩
    ·
      subst r_7
      have St : cS G k ([(qAAAAAAAAII h 10 (a 0) (a 2) (a 6) (a 8) (a 15) (a 17) (a 22) (a 23) cl sp), (qAII (a 23) 7 (a 24) tn td), (qarQ (a 24) (d 15) 8 fs)] ++ (PW nS bS ++ [])) [((d 15), .object "TowerAppeal$Stage")] A s H locs := St
      refine lv_if_ne (tgt := 23) hx hb dX10_stage_17 (by decide) (fun c17 => ?_) (fun c17 => ?_)
      rotate_left
      · exact absurd c17 (by decide)
      refine lv_aload_n hx hb dX10_stage_23 rfl (lv_at hl 0 rfl) ?_
      refine ct_get F St 0 rfl rfl inX10 9 (by decide) kf_X10_106 rfl dX10_stage_24 ?_
      refine lv_if_eq (tgt := 33) hx hb dX10_stage_27 (by decide) (fun c27 => ?_) (fun c27 => ?_)
      ·
        have i27 := ci_eq (x := sp) (y := 0) rfl (show (0 : Int32).toInt = 0 by decide) c27
        refine lv_aload_n hx hb dX10_stage_33 rfl (lv_at hl 0 rfl) ?_
        refine ct_get F St 0 rfl rfl inX10 7 (by decide) kf_X10_61 rfl dX10_stage_34 ?_
        refine ct_i St [1] [0, 2] (wc := [(qAII (a 23) 7 (a 24) tn td)]) (wr := [(qAAAAAAAAII h 10 (a 0) (a 2) (a 6) (a 8) (a 15) (a 17) (a 22) (a 23) cl sp), (qarQ (a 24) (d 15) 8 fs)]) rfl rfl (by decide) (by decide) (va_runV (As := []) (rest := []) F (x7_isFull l G k _ (a 23) (a 24) tn td) (cwVt F mf_X7_isFull km_X10_216 rfl rfl ⟨Nat.le_of_ble_eq_true rfl, Nat.le_of_ble_eq_true rfl⟩) (ct_preV St [1] rfl (by decide) [] rfl (ci := 7) (q0 := 1) rfl rfl) rfl rfl hl.1 rfl (lv_room (Nat.le_of_ble_eq_true rfl)) dX10_stage_37 ⟨Nat.le_of_ble_eq_true rfl, Nat.le_of_ble_eq_true rfl⟩) (fun r_13 u_14 H locs hw St => ?_)
        try dsimp only at hw
        rcases hw with ⟨z_15, hf_16⟩ | ⟨z_17, hf_18⟩
        ·
          subst r_13
          have St : cS G k ([(qAAAAAAAAII h 10 (a 0) (a 2) (a 6) (a 8) (a 15) (a 17) (a 22) (a 23) cl sp), (qarQ (a 24) (d 15) 8 fs), (qAII (a 23) 7 (a 24) tn td)] ++ (PW nS bS ++ [])) [((d 15), .object "TowerAppeal$Stage")] A s H locs := St
          refine lv_if_eq (tgt := 48) hx hb dX10_stage_40 (by decide) (fun c40 => ?_) (fun c40 => ?_)
          · exact absurd c40 (by decide)
          refine lv_bipush (v := (-3)) hx hb dX10_stage_43 (by decide) ?_
          refine lv_goto (tgt := 64) hx hb dX10_stage_45 (by decide) ?_
          have St : cS G k ([(qAAAAAAAAII h 10 (a 0) (a 2) (a 6) (a 8) (a 15) (a 17) (a 22) (a 23) cl sp), (qAII (a 23) 7 (a 24) tn td), (qarQ (a 24) (d 15) 8 fs)] ++ (PW nS bS ++ [])) [((d 15), .object "TowerAppeal$Stage")] A s _ _ := ct_pick St [0, 2, 1] rfl (by decide) [0] rfl
          exact cs_iret F hr hlk hQ St (tn, fs, sc, sl, nS, bS) (r := (-3)) ⟨Or.inr (Or.inr (Or.inl ⟨rfl, ⟨by omega, by omega, by omega⟩, rfl, rfl, rfl⟩)), hnS, hn8, hZ⟩ (List.range _) (ix_all (w := ([(qAAAAAAAAII h 10 (a 0) (a 2) (a 6) (a 8) (a 15) (a 17) (a 22) (a 23) cl sp), (qAII (a 23) 7 (a 24) tn td), (qarQ (a 24) (d 15) 8 fs)] ++ (PW nS bS ++ [])))) nd_C [] rfl (by decide) (by decide) dX10_stage_64
        ·
          subst r_13
          have St : cS G k ([(qAAAAAAAAII h 10 (a 0) (a 2) (a 6) (a 8) (a 15) (a 17) (a 22) (a 23) cl sp), (qarQ (a 24) (d 15) 8 fs), (qAII (a 23) 7 (a 24) tn td)] ++ (PW nS bS ++ [])) [((d 15), .object "TowerAppeal$Stage")] A s H locs := St
          refine lv_if_eq (tgt := 48) hx hb dX10_stage_40 (by decide) (fun c40 => ?_) (fun c40 => ?_)
          rotate_left
          · exact absurd (by decide) c40
          refine lv_aload_n hx hb dX10_stage_48 rfl (lv_at hl 0 rfl) ?_
          refine ct_get F St 0 rfl rfl inX10 7 (by decide) kf_X10_61 rfl dX10_stage_49 ?_
          refine ct_new F St (ci := 4) rfl inX4 tyX4_ok kc_X10_217 kn_X4 ki_X4 (fs := [.int 0, .int 0, .int 0, .int 0, .int 0, .int 0]) (by decide +kernel) (Nat.le_of_ble_eq_true rfl) (Nat.le_of_ble_eq_true rfl) dX10_stage_52 (fun q_19 H St => ?_)
          refine W.widen (k := 1) (n := 6) (by decide) (by decide) ?_
          have St : cS G k ([(qAAAAAAAAII h 10 (a 0) (a 2) (a 6) (a 8) (a 15) (a 17) (a 22) (a 23) cl sp), (qarQ (a 24) (d 15) 8 fs), (qAII (a 23) 7 (a 24) tn td), (qIIIIII q_19 4 0 0 0 0 0 0)] ++ (PW nS bS ++ [])) [((d 15), .object "TowerAppeal$Stage")] A s _ _ := St
          refine lv_dup hx hb dX10_stage_55 rfl ?_
          refine lv_iload_n hx hb dX10_stage_56 rfl (lv_at hl 1 rfl) ?_
          refine lv_iload_n hx hb dX10_stage_57 rfl (lv_at hl 2 rfl) ?_
          refine ct_v St [3] [0, 1, 2] (wc := [(qIIIIII q_19 4 0 0 0 0 0 0)]) (wr := [(qAAAAAAAAII h 10 (a 0) (a 2) (a 6) (a 8) (a 15) (a 17) (a 22) (a 23) cl sp), (qarQ (a 24) (d 15) 8 fs), (qAII (a 23) 7 (a 24) tn td)]) rfl rfl (by decide) (by decide) (va_runI (As := [.int x1, .int x2]) (rest := [.ref q_19, .ref (a 23)]) F (x4_init l G k _ q_19 x1 x2) (cwIt F mf_X4_init km_X10_219 rfl rfl ⟨Nat.le_of_ble_eq_true rfl, Nat.le_of_ble_eq_true rfl⟩) (ct_pre St [3] rfl (by decide) [] rfl) rfl rfl hl.1 rfl (lv_room (Nat.le_of_ble_eq_true rfl)) dX10_stage_58 ⟨Nat.le_of_ble_eq_true rfl, Nat.le_of_ble_eq_true rfl⟩) (fun u_21 H locs hw St => ?_)
          try dsimp only at hw
          have St : cS G k ([(qAAAAAAAAII h 10 (a 0) (a 2) (a 6) (a 8) (a 15) (a 17) (a 22) (a 23) cl sp), (qarQ (a 24) (d 15) 8 fs), (qAII (a 23) 7 (a 24) tn td), (qIIIIII q_19 4 x1 x2 0 0 0 0)] ++ (PW nS bS ++ [])) [((d 15), .object "TowerAppeal$Stage")] A s H locs := St
          refine ct_i St [2, 1, 3] [0] (wc := [(qAII (a 23) 7 (a 24) tn td), (qarQ (a 24) (d 15) 8 fs), (qIIIIII q_19 4 x1 x2 0 0 0 0)]) (wr := [(qAAAAAAAAII h 10 (a 0) (a 2) (a 6) (a 8) (a 15) (a 17) (a 22) (a 23) cl sp)]) rfl rfl (by decide) (by decide) (va_runV (As := [.ref q_19]) (rest := []) F (x7_add l G k _ (a 23) (a 24) (d 15) tn td fs q_19 x1 x2 0 0 0 0 (by omega) (by omega)) (cwVt F mf_X7_add km_X10_221 rfl rfl ⟨Nat.le_of_ble_eq_true rfl, Nat.le_of_ble_eq_true rfl⟩) (ct_preV St [2, 1, 3] rfl (by decide) [0] rfl (ci := 7) (q0 := 2) rfl rfl) rfl rfl hl.1 rfl (lv_room (Nat.le_of_ble_eq_true rfl)) dX10_stage_61 ⟨Nat.le_of_ble_eq_true rfl, Nat.le_of_ble_eq_true rfl⟩) (fun r_22 u_23 H locs hw St => ?_)
          obtain ⟨tn2_24, fs2_25⟩ := u_23
          try dsimp only at hw
          obtain ⟨hr_26, hb2_27, hf2_28⟩ := hw
          have St : cS G k ([(qAAAAAAAAII h 10 (a 0) (a 2) (a 6) (a 8) (a 15) (a 17) (a 22) (a 23) cl sp), (qAII (a 23) 7 (a 24) tn2_24 td), (qarQ (a 24) (d 15) 8 fs2_25), (qIIIIII q_19 4 x1 x2 0 0 0 0)] ++ (PW nS bS ++ [])) [((d 15), .object "TowerAppeal$Stage")] A s H locs := St
          have St : cS G k ([(qAAAAAAAAII h 10 (a 0) (a 2) (a 6) (a 8) (a 15) (a 17) (a 22) (a 23) cl sp), (qAII (a 23) 7 (a 24) tn2_24 td), (qarQ (a 24) (d 15) 8 fs2_25), (qIIIIII q_19 4 x1 x2 0 0 0 0)] ++ (PW nS bS ++ [])) [((d 15), .object "TowerAppeal$Stage")] A s H locs := ct_pick St [0, 1, 2, 3] rfl (by decide) [0] rfl
          have St := cs_grow (cs := [(qAAAAAAAAII h 10 (a 0) (a 2) (a 6) (a 8) (a 15) (a 17) (a 22) (a 23) cl sp), (qAII (a 23) 7 (a 24) tn2_24 td), (qarQ (a 24) (d 15) 8 fs2_25)]) (b := [(qIIIIII q_19 4 x1 x2 0 0 0 0)]) (rs := []) St
          obtain ⟨B_29, eB_29⟩ : ∃ zz : Nat → va_W, zz = setB bS nS [(qIIIIII q_19 4 x1 x2 0 0 0 0)] := ⟨_, rfl⟩
          rw [← eB_29] at St
          have St : cS G k ([(qAAAAAAAAII h 10 (a 0) (a 2) (a 6) (a 8) (a 15) (a 17) (a 22) (a 23) cl sp), (qAII (a 23) 7 (a 24) tn2_24 td), (qarQ (a 24) (d 15) 8 fs2_25)] ++ (PW (nS + 1) B_29 ++ [])) [((d 15), .object "TowerAppeal$Stage")] A s H locs := St
          have hB_30 : ∀ i, i < nS + 1 → okZ (zT td.toInt (upd sc tn.toNatClampNeg x1) (upd sl tn.toNatClampNeg x2) sk sq su i) (fs2_25 i) (B_29 i) := by rw [eB_29, hf2_28, ← zT_new (c := x1) (m := x2) (by omega) (hwS.2.2 tn.toNatClampNeg (by omega)).1 (hwS.2.2 tn.toNatClampNeg (by omega)).2 (hsu tn.toNatClampNeg (by omega))]; exact okZ_grow hnS hZ ⟨q_19, x1, x2, 0, 0, 0, 0, rfl, rfl, rfl⟩
          have St : cS G k ([(qAAAAAAAAII h 10 (a 0) (a 2) (a 6) (a 8) (a 15) (a 17) (a 22) (a 23) cl sp), (qAII (a 23) 7 (a 24) tn2_24 td), (qarQ (a 24) (d 15) 8 fs2_25)] ++ (PW (nS + 1) B_29 ++ [])) [((d 15), .object "TowerAppeal$Stage")] A s _ _ := ct_pick St [0, 1, 2] rfl (by decide) [0] rfl
          exact cs_iret F hr hlk hQ St (tn2_24, fs2_25, (upd sc tn.toNatClampNeg x1), (upd sl tn.toNatClampNeg x2), nS + 1, B_29) (r := r_22) ⟨Or.inr (Or.inr (Or.inr (⟨hr_26, ⟨by omega, by omega, by omega⟩, by omega, rfl, rfl⟩))), by omega, by omega, hB_30⟩ (List.range _) (ix_all (w := ([(qAAAAAAAAII h 10 (a 0) (a 2) (a 6) (a 8) (a 15) (a 17) (a 22) (a 23) cl sp), (qAII (a 23) 7 (a 24) tn2_24 td), (qarQ (a 24) (d 15) 8 fs2_25)] ++ (PW (nS + 1) B_29 ++ [])))) nd_C [] rfl (by decide) (by decide) dX10_stage_64
      ·
        have i27 := ci_ne (x := sp) (y := 0) rfl (show (0 : Int32).toInt = 0 by decide) c27
        refine lv_bipush (v := (-4)) hx hb dX10_stage_30 (by decide) ?_
        have St : cS G k ([(qAAAAAAAAII h 10 (a 0) (a 2) (a 6) (a 8) (a 15) (a 17) (a 22) (a 23) cl sp), (qAII (a 23) 7 (a 24) tn td), (qarQ (a 24) (d 15) 8 fs)] ++ (PW nS bS ++ [])) [((d 15), .object "TowerAppeal$Stage")] A s _ _ := ct_pick St [0, 1, 2] rfl (by decide) [0] rfl
        exact cs_iret F hr hlk hQ St (tn, fs, sc, sl, nS, bS) (r := (-4)) ⟨Or.inr (Or.inl ⟨rfl, ⟨by omega, by omega⟩, rfl, rfl, rfl⟩), hnS, hn8, hZ⟩ (List.range _) (ix_all (w := ([(qAAAAAAAAII h 10 (a 0) (a 2) (a 6) (a 8) (a 15) (a 17) (a 22) (a 23) cl sp), (qAII (a 23) 7 (a 24) tn td), (qarQ (a 24) (d 15) 8 fs)] ++ (PW nS bS ++ [])))) nd_C [] rfl (by decide) (by decide) dX10_stage_32
    ·
      subst r_7
      have St : cS G k ([(qAAAAAAAAII h 10 (a 0) (a 2) (a 6) (a 8) (a 15) (a 17) (a 22) (a 23) cl sp), (qAII (a 23) 7 (a 24) tn td), (qarQ (a 24) (d 15) 8 fs)] ++ (PW nS bS ++ [])) [((d 15), .object "TowerAppeal$Stage")] A s H locs := St
      refine lv_if_ne (tgt := 23) hx hb dX10_stage_17 (by decide) (fun c17 => ?_) (fun c17 => ?_)
      · exact absurd c17 (by decide)
      refine lv_bipush (v := (-2)) hx hb dX10_stage_20 (by decide) ?_
      have St : cS G k ([(qAAAAAAAAII h 10 (a 0) (a 2) (a 6) (a 8) (a 15) (a 17) (a 22) (a 23) cl sp), (qAII (a 23) 7 (a 24) tn td), (qarQ (a 24) (d 15) 8 fs)] ++ (PW nS bS ++ [])) [((d 15), .object "TowerAppeal$Stage")] A s _ _ := ct_pick St [0, 1, 2] rfl (by decide) [0] rfl
      exact cs_iret F hr hlk hQ St (tn, fs, sc, sl, nS, bS) (r := (-2)) ⟨Or.inl ⟨rfl, by omega, rfl, rfl, rfl⟩, hnS, hn8, hZ⟩ (List.range _) (ix_all (w := ([(qAAAAAAAAII h 10 (a 0) (a 2) (a 6) (a 8) (a 15) (a 17) (a 22) (a 23) cl sp), (qAII (a 23) 7 (a 24) tn td), (qarQ (a 24) (d 15) 8 fs)] ++ (PW nS bS ++ [])))) nd_C [] rfl (by decide) (by decide) dX10_stage_22
  ·
    subst r_1
    have St : cS G k ([(qAAAAAAAAII h 10 (a 0) (a 2) (a 6) (a 8) (a 15) (a 17) (a 22) (a 23) cl sp), (qAII (a 23) 7 (a 24) tn td), (qarQ (a 24) (d 15) 8 fs)] ++ (PW nS bS ++ [])) [((d 15), .object "TowerAppeal$Stage")] A s H locs := St
    refine lv_if_eq (tgt := 20) hx hb dX10_stage_7 (by decide) (fun c7 => ?_) (fun c7 => ?_)
    rotate_left
    · exact absurd (by decide) c7
    refine lv_bipush (v := (-2)) hx hb dX10_stage_20 (by decide) ?_
    have St : cS G k ([(qAAAAAAAAII h 10 (a 0) (a 2) (a 6) (a 8) (a 15) (a 17) (a 22) (a 23) cl sp), (qAII (a 23) 7 (a 24) tn td), (qarQ (a 24) (d 15) 8 fs)] ++ (PW nS bS ++ [])) [((d 15), .object "TowerAppeal$Stage")] A s _ _ := ct_pick St [0, 1, 2] rfl (by decide) [0] rfl
    exact cs_iret F hr hlk hQ St (tn, fs, sc, sl, nS, bS) (r := (-2)) ⟨Or.inl ⟨rfl, by omega, rfl, rfl, rfl⟩, hnS, hn8, hZ⟩ (List.range _) (ix_all (w := ([(qAAAAAAAAII h 10 (a 0) (a 2) (a 6) (a 8) (a 15) (a 17) (a 22) (a 23) cl sp), (qAII (a 23) 7 (a 24) tn td), (qarQ (a 24) (d 15) 8 fs)] ++ (PW nS bS ++ [])))) nd_C [] rfl (by decide) (by decide) dX10_stage_22
set_option maxHeartbeats 4000000 in
set_option maxRecDepth 100000 in
theorem z_begin (l : Launch) (G : va_G) (k : Nat → Nat) (sz : Nat) (h : Nat) (a : Nat → Nat) (d : Nat → ClassId) (cl : Int32) (sp : Int32) (tn : Int32) (td : Int32) (fs : Nat → Option Nat) (nS : Nat) (bS : Nat → va_W) (sc : Nat → Int32) (sl : Nat → Int32) (sk : Nat → Int32) (sq : Nat → Int32) (su : Nat → Int32) (hnS : (nS : Int) = tn.toInt) (hn8 : nS ≤ 8) (hZ : ∀ i, i < nS → okZ (zT td.toInt sc sl sk sq su i) (fs i) (bS i)) (hwS : wfS tn.toInt td.toInt sc sl sk sq) : Met l yX10_begin (Cond.code yX10_begin cX10_begin 1 (some .int) :: tb) ({ frames := 3, cells := 0, slots := 0, locals := 62 } : Room) (va_Pc [.ref h] (cP G k ([(qAAAAAAAAII h 10 (a 0) (a 2) (a 6) (a 8) (a 15) (a 17) (a 22) (a 23) cl sp), (qAII (a 23) 7 (a 24) tn td), (qarQ (a 24) (d 15) 8 fs)] ++ (PW nS bS ++ [])) [((d 15), .object "TowerAppeal$Stage")] sz)) (va_Qi (fun (r : Int32) (u : Int32 × (Nat → va_W)) => match u with | (td2, bS2) => (Rbeg sp tn td sl sk r td2) ∧ (∀ i, i < nS → okZ (zT td2.toInt sc sl sk sq su i) (fs i) (bS2 i))) (cB G (fun u => match u with | (td2, bS2) => ([(qAAAAAAAAII h 10 (a 0) (a 2) (a 6) (a 8) (a 15) (a 17) (a 22) (a 23) cl sp), (qAII (a 23) 7 (a 24) tn td2), (qarQ (a 24) (d 15) 8 fs)] ++ (PW nS bS2 ++ []))) (fun u => match u with | (td2, bS2) => []) (va_A ([(qAAAAAAAAII h 10 (a 0) (a 2) (a 6) (a 8) (a 15) (a 17) (a 22) (a 23) cl sp), (qAII (a 23) 7 (a 24) tn td), (qarQ (a 24) (d 15) 8 fs)] ++ (PW nS bS ++ [])) sz)) (va_A ([(qAAAAAAAAII h 10 (a 0) (a 2) (a 6) (a 8) (a 15) (a 17) (a 22) (a 23) cl sp), (qAII (a 23) 7 (a 24) tn td), (qarQ (a 24) (d 15) 8 fs)] ++ (PW nS bS ++ [])) sz)) 0 0 (va_A ([(qAAAAAAAAII h 10 (a 0) (a 2) (a 6) (a 8) (a 15) (a 17) (a 22) (a 23) cl sp), (qAII (a 23) 7 (a 24) tn td), (qarQ (a 24) (d 15) 8 fs)] ++ (PW nS bS ++ [])) sz) := by
  refine ofC_i (cc := cX10_begin) (maxL := 1) (ret := (some .int)) (by decide) rfl (Nat.le_of_ble_eq_true rfl) ?_
  intro p e s m args below meth c A ls Q F hr hin hlk St hl hQ
  have hx := F.1
  have hb := F.2.1
  have hl : lv_has ls 1 [(0, .ref h)] := hl
  have St : cS G k ([(qAAAAAAAAII h 10 (a 0) (a 2) (a 6) (a 8) (a 15) (a 17) (a 22) (a 23) cl sp), (qAII (a 23) 7 (a 24) tn td), (qarQ (a 24) (d 15) 8 fs)] ++ (PW nS bS ++ [])) [((d 15), .object "TowerAppeal$Stage")] A s s.heap [] := St
  have y0 : (0 : Int32).toInt = 0 := by decide
  have htd := hwS.1
  skip
  refine lv_aload_n hx hb dX10_begin_0 rfl (lv_at hl 0 rfl) ?_
  refine ct_get F St 0 rfl rfl inX10 9 (by decide) kf_X10_106 rfl dX10_begin_1 ?_
  refine lv_if_ne (tgt := 17) hx hb dX10_begin_4 (by decide) (fun c4 => ?_) (fun c4 => ?_)
  ·
    have i4 := ci_ne (x := sp) (y := 0) rfl (show (0 : Int32).toInt = 0 by decide) c4
    refine lv_bipush (v := (-4)) hx hb dX10_begin_17 (by decide) ?_
    have St : cS G k ([(qAAAAAAAAII h 10 (a 0) (a 2) (a 6) (a 8) (a 15) (a 17) (a 22) (a 23) cl sp), (qAII (a 23) 7 (a 24) tn td), (qarQ (a 24) (d 15) 8 fs)] ++ (PW nS bS ++ [])) [((d 15), .object "TowerAppeal$Stage")] A s _ _ := ct_pick St [0, 1, 2] rfl (by decide) [0] rfl
    exact cs_iret F hr hlk hQ St (td, bS) (r := (-4)) ⟨Or.inl ⟨rfl, (fun z_ => absurd z_.1 (by omega)), rfl⟩, hZ⟩ (List.range _) (ix_all (w := ([(qAAAAAAAAII h 10 (a 0) (a 2) (a 6) (a 8) (a 15) (a 17) (a 22) (a 23) cl sp), (qAII (a 23) 7 (a 24) tn td), (qarQ (a 24) (d 15) 8 fs)] ++ (PW nS bS ++ [])))) nd_C [] rfl (by decide) (by decide) dX10_begin_19
  ·
    have i4 := ci_eq (x := sp) (y := 0) rfl (show (0 : Int32).toInt = 0 by decide) c4
    refine lv_aload_n hx hb dX10_begin_7 rfl (lv_at hl 0 rfl) ?_
    refine ct_get F St 0 rfl rfl inX10 7 (by decide) kf_X10_61 rfl dX10_begin_8 ?_
    have St : cS G k (([(qAII (a 23) 7 (a 24) tn td), (qarQ (a 24) (d 15) 8 fs)] ++ (PW nS bS ++ [])) ++ [(qAAAAAAAAII h 10 (a 0) (a 2) (a 6) (a 8) (a 15) (a 17) (a 22) (a 23) cl sp)]) [((d 15), .object "TowerAppeal$Stage")] A s _ _ := sg_two (sg := [[(qAAAAAAAAII h 10 (a 0) (a 2) (a 6) (a 8) (a 15) (a 17) (a 22) (a 23) cl sp)], [(qAII (a 23) 7 (a 24) tn td)], [(qarQ (a 24) (d 15) 8 fs)], PW nS bS]) (s1 := [[(qAII (a 23) 7 (a 24) tn td)], [(qarQ (a 24) (d 15) 8 fs)], PW nS bS]) (s2 := [[(qAAAAAAAAII h 10 (a 0) (a 2) (a 6) (a 8) (a 15) (a 17) (a 22) (a 23) cl sp)]]) St 4 rfl [1, 2, 3, 0] rfl (by decide +kernel)
    refine cs_iT (wc := ([(qAII (a 23) 7 (a 24) tn td), (qarQ (a 24) (d 15) 8 fs)] ++ (PW nS bS ++ []))) (wr := [(qAAAAAAAAII h 10 (a 0) (a 2) (a 6) (a 8) (a 15) (a 17) (a 22) (a 23) cl sp)]) St (va_runV (As := []) (rest := []) F (e7_mayStartNext l G k _ (a 23) (a 24) (d 15) tn td fs nS bS sc sl sk sq su (by first | assumption | omega) (by first | assumption | omega) hZ hwS) (cwVt F mf_X7_mayStartNext km_X10_224 rfl rfl ⟨Nat.le_of_ble_eq_true rfl, Nat.le_of_ble_eq_true rfl⟩) (cs_preVT St [0] rfl (ci := 7) (q0 := 0) rfl rfl) rfl rfl hl.1 rfl (lv_room (Nat.le_of_ble_eq_true rfl)) dX10_begin_11 ⟨Nat.le_of_ble_eq_true rfl, Nat.le_of_ble_eq_true rfl⟩) (fun r_1 u_2 H locs hw St => ?_)
    obtain ⟨bS2_3, rfl⟩ : ∃ z, z = u_2 := ⟨_, rfl⟩
    try dsimp only at hw
    have St : cS G k ([(qAAAAAAAAII h 10 (a 0) (a 2) (a 6) (a 8) (a 15) (a 17) (a 22) (a 23) cl sp), (qAII (a 23) 7 (a 24) tn td), (qarQ (a 24) (d 15) 8 fs)] ++ (PW nS bS2_3 ++ [])) [((d 15), .object "TowerAppeal$Stage")] A s H locs := sg_join (s1 := [[(qAAAAAAAAII h 10 (a 0) (a 2) (a 6) (a 8) (a 15) (a 17) (a 22) (a 23) cl sp)]]) (s2 := [[(qAII (a 23) 7 (a 24) tn td)], [(qarQ (a 24) (d 15) 8 fs)], PW nS bS2_3]) (s3 := [[(qAAAAAAAAII h 10 (a 0) (a 2) (a 6) (a 8) (a 15) (a 17) (a 22) (a 23) cl sp)], [(qAII (a 23) 7 (a 24) tn td)], [(qarQ (a 24) (d 15) 8 fs)], PW nS bS2_3]) St 4 rfl [0, 1, 2, 3] rfl (by decide +kernel)
    rcases hw with ⟨z_4, hms_5, hZ2_6⟩ | ⟨z_7, hms_8, hZ2_9⟩
    ·
      subst r_1
      have St : cS G k ([(qAAAAAAAAII h 10 (a 0) (a 2) (a 6) (a 8) (a 15) (a 17) (a 22) (a 23) cl sp), (qAII (a 23) 7 (a 24) tn td), (qarQ (a 24) (d 15) 8 fs)] ++ (PW nS bS2_3 ++ [])) [((d 15), .object "TowerAppeal$Stage")] A s H locs := St
      have hms := hms_5
      refine lv_if_ne (tgt := 20) hx hb dX10_begin_14 (by decide) (fun c14 => ?_) (fun c14 => ?_)
      rotate_left
      · exact absurd c14 (by decide)
      refine lv_aload_n hx hb dX10_begin_20 rfl (lv_at hl 0 rfl) ?_
      refine ct_get F St 0 rfl rfl inX10 7 (by decide) kf_X10_61 rfl dX10_begin_21 ?_
      have St : cS G k (([(qAII (a 23) 7 (a 24) tn td), (qarQ (a 24) (d 15) 8 fs)] ++ (PW nS bS2_3 ++ [])) ++ [(qAAAAAAAAII h 10 (a 0) (a 2) (a 6) (a 8) (a 15) (a 17) (a 22) (a 23) cl sp)]) [((d 15), .object "TowerAppeal$Stage")] A s _ _ := sg_two (sg := [[(qAAAAAAAAII h 10 (a 0) (a 2) (a 6) (a 8) (a 15) (a 17) (a 22) (a 23) cl sp)], [(qAII (a 23) 7 (a 24) tn td)], [(qarQ (a 24) (d 15) 8 fs)], PW nS bS2_3]) (s1 := [[(qAII (a 23) 7 (a 24) tn td)], [(qarQ (a 24) (d 15) 8 fs)], PW nS bS2_3]) (s2 := [[(qAAAAAAAAII h 10 (a 0) (a 2) (a 6) (a 8) (a 15) (a 17) (a 22) (a 23) cl sp)]]) St 4 rfl [1, 2, 3, 0] rfl (by decide +kernel)
      refine cs_iT (wc := ([(qAII (a 23) 7 (a 24) tn td), (qarQ (a 24) (d 15) 8 fs)] ++ (PW nS bS2_3 ++ []))) (wr := [(qAAAAAAAAII h 10 (a 0) (a 2) (a 6) (a 8) (a 15) (a 17) (a 22) (a 23) cl sp)]) St (va_runV (As := []) (rest := []) F (e7_startNext l G k _ (a 23) (a 24) (d 15) tn td fs nS bS2_3 sc sl sk sq su (by first | assumption | omega) (by first | assumption | omega) hZ2_6 hwS hms.2) (cwVt F mf_X7_startNext km_X10_227 rfl rfl ⟨Nat.le_of_ble_eq_true rfl, Nat.le_of_ble_eq_true rfl⟩) (cs_preVT St [0] rfl (ci := 7) (q0 := 0) rfl rfl) rfl rfl hl.1 rfl (lv_room (Nat.le_of_ble_eq_true rfl)) dX10_begin_24 ⟨Nat.le_of_ble_eq_true rfl, Nat.le_of_ble_eq_true rfl⟩) (fun r_10 u_11 H locs hw St => ?_)
      obtain ⟨td2_12, bS2_13⟩ := u_11
      try dsimp only at hw
      have St : cS G k ([(qAAAAAAAAII h 10 (a 0) (a 2) (a 6) (a 8) (a 15) (a 17) (a 22) (a 23) cl sp), (qAII (a 23) 7 (a 24) tn td2_12), (qarQ (a 24) (d 15) 8 fs)] ++ (PW nS bS2_13 ++ [])) [((d 15), .object "TowerAppeal$Stage")] A s H locs := sg_join (s1 := [[(qAAAAAAAAII h 10 (a 0) (a 2) (a 6) (a 8) (a 15) (a 17) (a 22) (a 23) cl sp)]]) (s2 := [[(qAII (a 23) 7 (a 24) tn td2_12)], [(qarQ (a 24) (d 15) 8 fs)], PW nS bS2_13]) (s3 := [[(qAAAAAAAAII h 10 (a 0) (a 2) (a 6) (a 8) (a 15) (a 17) (a 22) (a 23) cl sp)], [(qAII (a 23) 7 (a 24) tn td2_12)], [(qarQ (a 24) (d 15) 8 fs)], PW nS bS2_13]) St 4 rfl [0, 1, 2, 3] rfl (by decide +kernel)
      obtain ⟨hr_14, hd2_15, hZ2_16⟩ := hw
      have St : cS G k ([(qAAAAAAAAII h 10 (a 0) (a 2) (a 6) (a 8) (a 15) (a 17) (a 22) (a 23) cl sp), (qAII (a 23) 7 (a 24) tn td2_12), (qarQ (a 24) (d 15) 8 fs)] ++ (PW nS bS2_13 ++ [])) [((d 15), .object "TowerAppeal$Stage")] A s H locs := St
      have St : cS G k ([(qAAAAAAAAII h 10 (a 0) (a 2) (a 6) (a 8) (a 15) (a 17) (a 22) (a 23) cl sp), (qAII (a 23) 7 (a 24) tn td2_12), (qarQ (a 24) (d 15) 8 fs)] ++ (PW nS bS2_13 ++ [])) [((d 15), .object "TowerAppeal$Stage")] A s _ _ := ct_pick St [0, 1, 2] rfl (by decide) [0] rfl
      exact cs_iret F hr hlk hQ St (td2_12, bS2_13) (r := r_10) ⟨Or.inr ⟨hr_14, ⟨by omega, hms⟩, hd2_15⟩, hZ2_16⟩ (List.range _) (ix_all (w := ([(qAAAAAAAAII h 10 (a 0) (a 2) (a 6) (a 8) (a 15) (a 17) (a 22) (a 23) cl sp), (qAII (a 23) 7 (a 24) tn td2_12), (qarQ (a 24) (d 15) 8 fs)] ++ (PW nS bS2_13 ++ [])))) nd_C [] rfl (by decide) (by decide) dX10_begin_27
    ·
      subst r_1
      have St : cS G k ([(qAAAAAAAAII h 10 (a 0) (a 2) (a 6) (a 8) (a 15) (a 17) (a 22) (a 23) cl sp), (qAII (a 23) 7 (a 24) tn td), (qarQ (a 24) (d 15) 8 fs)] ++ (PW nS bS2_3 ++ [])) [((d 15), .object "TowerAppeal$Stage")] A s H locs := St
      have hms := hms_8
      refine lv_if_ne (tgt := 20) hx hb dX10_begin_14 (by decide) (fun c14 => ?_) (fun c14 => ?_)
      · exact absurd c14 (by decide)
      refine lv_bipush (v := (-4)) hx hb dX10_begin_17 (by decide) ?_
      have St : cS G k ([(qAAAAAAAAII h 10 (a 0) (a 2) (a 6) (a 8) (a 15) (a 17) (a 22) (a 23) cl sp), (qAII (a 23) 7 (a 24) tn td), (qarQ (a 24) (d 15) 8 fs)] ++ (PW nS bS2_3 ++ [])) [((d 15), .object "TowerAppeal$Stage")] A s _ _ := ct_pick St [0, 1, 2] rfl (by decide) [0] rfl
      exact cs_iret F hr hlk hQ St (td, bS2_3) (r := (-4)) ⟨Or.inl ⟨rfl, (fun z_ => absurd z_.2 hms), rfl⟩, hZ2_9⟩ (List.range _) (ix_all (w := ([(qAAAAAAAAII h 10 (a 0) (a 2) (a 6) (a 8) (a 15) (a 17) (a 22) (a 23) cl sp), (qAII (a 23) 7 (a 24) tn td), (qarQ (a 24) (d 15) 8 fs)] ++ (PW nS bS2_3 ++ [])))) nd_C [] rfl (by decide) (by decide) dX10_begin_19
set_option maxHeartbeats 4000000 in
set_option maxRecDepth 100000 in
theorem z_built (l : Launch) (G : va_G) (k : Nat → Nat) (sz : Nat) (h : Nat) (a : Nat → Nat) (d : Nat → ClassId) (cl : Int32) (sp : Int32) (tn : Int32) (td : Int32) (fs : Nat → Option Nat) (nS : Nat) (bS : Nat → va_W) (x1 : Int32) (x2 : Int32) (sc : Nat → Int32) (sl : Nat → Int32) (sk : Nat → Int32) (sq : Nat → Int32) (su : Nat → Int32) (hnS : (nS : Int) = tn.toInt) (hn8 : nS ≤ 8) (hZ : ∀ i, i < nS → okZ (zT td.toInt sc sl sk sq su i) (fs i) (bS i)) (hwS : wfS tn.toInt td.toInt sc sl sk sq) : Met l yX10_built (Cond.code yX10_built cX10_built 4 (some .int) :: tb) ({ frames := 1, cells := 0, slots := 0, locals := 21 } : Room) (va_Pc [.ref h, .int x1, .int x2] (cP G k ([(qAAAAAAAAII h 10 (a 0) (a 2) (a 6) (a 8) (a 15) (a 17) (a 22) (a 23) cl sp), (qAII (a 23) 7 (a 24) tn td), (qarQ (a 24) (d 15) 8 fs)] ++ (PW nS bS ++ [])) [((d 15), .object "TowerAppeal$Stage")] sz)) (va_Qi (fun (r : Int32) (bS2 : (Nat → va_W)) => (Rbui tn td x1 x2 sc sl sk sq su r) ∧ (∀ i, i < nS → okZ (zT td.toInt sc sl sk sq su i) (fs i) (bS2 i))) (cB G (fun (bS2 : (Nat → va_W)) => ([(qAAAAAAAAII h 10 (a 0) (a 2) (a 6) (a 8) (a 15) (a 17) (a 22) (a 23) cl sp), (qAII (a 23) 7 (a 24) tn td), (qarQ (a 24) (d 15) 8 fs)] ++ (PW nS bS2 ++ []))) (fun (bS2 : (Nat → va_W)) => []) (va_A ([(qAAAAAAAAII h 10 (a 0) (a 2) (a 6) (a 8) (a 15) (a 17) (a 22) (a 23) cl sp), (qAII (a 23) 7 (a 24) tn td), (qarQ (a 24) (d 15) 8 fs)] ++ (PW nS bS ++ [])) sz)) (va_A ([(qAAAAAAAAII h 10 (a 0) (a 2) (a 6) (a 8) (a 15) (a 17) (a 22) (a 23) cl sp), (qAII (a 23) 7 (a 24) tn td), (qarQ (a 24) (d 15) 8 fs)] ++ (PW nS bS ++ [])) sz)) 0 0 (va_A ([(qAAAAAAAAII h 10 (a 0) (a 2) (a 6) (a 8) (a 15) (a 17) (a 22) (a 23) cl sp), (qAII (a 23) 7 (a 24) tn td), (qarQ (a 24) (d 15) 8 fs)] ++ (PW nS bS ++ [])) sz) := by
  refine ofC_i (cc := cX10_built) (maxL := 4) (ret := (some .int)) (by decide) rfl (Nat.le_of_ble_eq_true rfl) ?_
  intro p e s m args below meth c A ls Q F hr hin hlk St hl hQ
  have hx := F.1
  have hb := F.2.1
  have hl : lv_has ls 4 [(0, .ref h), (1, .int x1), (2, .int x2)] := hl
  have St : cS G k ([(qAAAAAAAAII h 10 (a 0) (a 2) (a 6) (a 8) (a 15) (a 17) (a 22) (a 23) cl sp), (qAII (a 23) 7 (a 24) tn td), (qarQ (a 24) (d 15) 8 fs)] ++ (PW nS bS ++ [])) [((d 15), .object "TowerAppeal$Stage")] A s s.heap [] := St
  have y0 : (0 : Int32).toInt = 0 := by decide
  have htd := hwS.1
  skip
  refine lv_aload_n hx hb dX10_built_0 rfl (lv_at hl 0 rfl) ?_
  refine ct_get F St 0 rfl rfl inX10 7 (by decide) kf_X10_61 rfl dX10_built_1 ?_
  refine lv_iload_n hx hb dX10_built_4 rfl (lv_at hl 1 rfl) ?_
  refine ct_q St [1, 2] [0] (wc := [(qAII (a 23) 7 (a 24) tn td), (qarQ (a 24) (d 15) 8 fs)]) (wr := [(qAAAAAAAAII h 10 (a 0) (a 2) (a 6) (a 8) (a 15) (a 17) (a 22) (a 23) cl sp)]) rfl rfl (by decide) (by decide) (va_runV (As := [.int x1]) (rest := []) F (x7_at l G k _ (a 23) (a 24) (d 15) tn td fs x1 (by omega) (by omega)) (cwVt F mf_X7_at km_X10_230 rfl rfl ⟨Nat.le_of_ble_eq_true rfl, Nat.le_of_ble_eq_true rfl⟩) (ct_preV St [1, 2] rfl (by decide) [0] rfl (ci := 7) (q0 := 1) rfl rfl) rfl rfl hl.1 rfl (lv_room (Nat.le_of_ble_eq_true rfl)) dX10_built_5 ⟨Nat.le_of_ble_eq_true rfl, Nat.le_of_ble_eq_true rfl⟩) (fun r_1 u_2 H locs hw St => ?_)
  try dsimp only at hw
  rcases hw with ⟨z_3, hf_4⟩ | ⟨z_5, hf_6⟩
  ·
    subst r_1
    have St : cS G k ([(qAAAAAAAAII h 10 (a 0) (a 2) (a 6) (a 8) (a 15) (a 17) (a 22) (a 23) cl sp), (qAII (a 23) 7 (a 24) tn td), (qarQ (a 24) (d 15) 8 fs)] ++ (PW nS bS ++ [])) [((d 15), .object "TowerAppeal$Stage")] A s H locs := St
    show W _ _ _ _ _ _ _ _ _ _ _ _ _ _ _ (F0 m 8 ls [.null])
    refine lv_astore_nN (lv' := [(3, .null), (0, .ref h), (1, .int x1), (2, .int x2)]) hx hb dX10_built_8 rfl hl (by decide) rfl (fun ls hl => ?_)
    refine lv_aload_nN hx hb dX10_built_9 rfl (lv_at hl 0 rfl) ?_
    refine lv_ifnonnullN hx hb dX10_built_10 ?_
    refine lv_iconst (v := (-1)) hx hb dX10_built_13 (by decide) ?_
    have St : cS G k ([(qAAAAAAAAII h 10 (a 0) (a 2) (a 6) (a 8) (a 15) (a 17) (a 22) (a 23) cl sp), (qAII (a 23) 7 (a 24) tn td), (qarQ (a 24) (d 15) 8 fs)] ++ (PW nS bS ++ [])) [((d 15), .object "TowerAppeal$Stage")] A s _ _ := ct_pick St [0, 1, 2] rfl (by decide) [0] rfl
    exact cs_iret F hr hlk hQ St bS (r := (-1)) ⟨Or.inl ⟨by omega, rfl⟩, hZ⟩ (List.range _) (ix_all (w := ([(qAAAAAAAAII h 10 (a 0) (a 2) (a 6) (a 8) (a 15) (a 17) (a 22) (a 23) cl sp), (qAII (a 23) 7 (a 24) tn td), (qarQ (a 24) (d 15) 8 fs)] ++ (PW nS bS ++ [])))) nd_C [] rfl (by decide) (by decide) dX10_built_14
  ·
    have St : cS G k ([(qAAAAAAAAII h 10 (a 0) (a 2) (a 6) (a 8) (a 15) (a 17) (a 22) (a 23) cl sp), (qAII (a 23) 7 (a 24) tn td), (qarQ (a 24) (d 15) 8 fs)] ++ (PW nS bS ++ [])) [((d 15), .object "TowerAppeal$Stage")] A s H locs := St
    obtain ⟨h_7, s0_8, s1_9, s2_10, s3_11, s4_12, s5_13, q_14, q_15, q_16⟩ := (hZ _ (nc_lt (x := x1) (n := nS) (by omega) (by omega)))
    have hj_17 := (nc_lt (x := x1) (n := nS) (by omega) (by omega))
    have St : cS G k ([(qAAAAAAAAII h 10 (a 0) (a 2) (a 6) (a 8) (a 15) (a 17) (a 22) (a 23) cl sp), (qAII (a 23) 7 (a 24) tn td), (qarQ (a 24) (d 15) 8 fs), (qIIIIII h_7 4 s0_8 s1_9 s2_10 s3_11 s4_12 s5_13)] ++ (PWx nS x1.toNatClampNeg bS ++ [])) [((d 15), .object "TowerAppeal$Stage")] A s H locs := cs_pull (cs := [(qAAAAAAAAII h 10 (a 0) (a 2) (a 6) (a 8) (a 15) (a 17) (a 22) (a 23) cl sp), (qAII (a 23) 7 (a 24) tn td), (qarQ (a 24) (d 15) 8 fs)]) (rs := []) (b := [(qIIIIII h_7 4 s0_8 s1_9 s2_10 s3_11 s4_12 s5_13)]) St hj_17 q_15
    obtain rfl : r_1 = some h_7 := z_5.trans q_14
    show W _ _ _ _ _ _ _ _ _ _ _ _ _ _ _ (F0 m 8 ls [.ref h_7])
    obtain ⟨hz0, hz1, hz2, hz3, hz4, hz5⟩ := zT_at q_16
    have hn1 := nc_int (x := x1) (by omega)
    refine lv_astore_n (lv' := [(3, .ref h_7), (0, .ref h), (1, .int x1), (2, .int x2)]) hx hb dX10_built_8 rfl hl (by decide) rfl (fun ls hl => ?_)
    refine lv_aload_n hx hb dX10_built_9 rfl (lv_at hl 0 rfl) ?_
    refine lv_ifnonnull (tgt := 15) hx hb dX10_built_10 (by decide) ?_
    refine lv_iload_n hx hb dX10_built_15 rfl (lv_at hl 3 rfl) ?_
    by_cases w16_0 : x2 = 0
    ·
      subst w16_0
      refine lv_tableIn (tgt := 52) (off := 36) hx hb dX10_built_16 (by decide) (by decide) (by decide) (by decide) ?_
      refine lv_aload_n hx hb dX10_built_52 rfl (lv_at hl 0 rfl) ?_
      refine ct_i St [3] [0, 1, 2] (wc := [(qIIIIII h_7 4 s0_8 s1_9 s2_10 s3_11 s4_12 s5_13)]) (wr := [(qAAAAAAAAII h 10 (a 0) (a 2) (a 6) (a 8) (a 15) (a 17) (a 22) (a 23) cl sp), (qAII (a 23) 7 (a 24) tn td), (qarQ (a 24) (d 15) 8 fs)]) rfl rfl (by decide) (by decide) (va_runV (As := []) (rest := []) F (x4_cost l G k _ h_7 s0_8 s1_9 s2_10 s3_11 s4_12 s5_13) (cwVt F mf_X4_cost km_X10_233 rfl rfl ⟨Nat.le_of_ble_eq_true rfl, Nat.le_of_ble_eq_true rfl⟩) (ct_preV St [3] rfl (by decide) [] rfl (ci := 4) (q0 := 3) rfl rfl) rfl rfl hl.1 rfl (lv_room (Nat.le_of_ble_eq_true rfl)) dX10_built_53 ⟨Nat.le_of_ble_eq_true rfl, Nat.le_of_ble_eq_true rfl⟩) (fun r_18 u_19 H locs hw St => ?_)
      try dsimp only at hw
      have z_20 := hw
      subst r_18
      have St : cS G k ([(qAAAAAAAAII h 10 (a 0) (a 2) (a 6) (a 8) (a 15) (a 17) (a 22) (a 23) cl sp), (qAII (a 23) 7 (a 24) tn td), (qarQ (a 24) (d 15) 8 fs), (qIIIIII h_7 4 s0_8 s1_9 s2_10 s3_11 s4_12 s5_13)] ++ (PWx nS x1.toNatClampNeg bS ++ [])) [((d 15), .object "TowerAppeal$Stage")] A s H locs := St
      have St : cS G k ([(qAAAAAAAAII h 10 (a 0) (a 2) (a 6) (a 8) (a 15) (a 17) (a 22) (a 23) cl sp), (qAII (a 23) 7 (a 24) tn td), (qarQ (a 24) (d 15) 8 fs), (qIIIIII h_7 4 s0_8 s1_9 s2_10 s3_11 s4_12 s5_13)] ++ (PWx nS x1.toNatClampNeg bS ++ [])) [((d 15), .object "TowerAppeal$Stage")] A s H locs := ct_pick St [0, 1, 2, 3] rfl (by decide) [0] rfl
      have St := cs_push (cs := [(qAAAAAAAAII h 10 (a 0) (a 2) (a 6) (a 8) (a 15) (a 17) (a 22) (a 23) cl sp), (qAII (a 23) 7 (a 24) tn td), (qarQ (a 24) (d 15) 8 fs)]) (b := [(qIIIIII h_7 4 s0_8 s1_9 s2_10 s3_11 s4_12 s5_13)]) (rs := []) St hj_17
      obtain ⟨B_21, eB_21⟩ : ∃ zz : Nat → va_W, zz = setB bS x1.toNatClampNeg [(qIIIIII h_7 4 s0_8 s1_9 s2_10 s3_11 s4_12 s5_13)] := ⟨_, rfl⟩
      rw [← eB_21] at St
      have hB_22 : ∀ i, i < nS → okZ (tbS (zT td.toInt sc sl sk sq su) x1.toNatClampNeg (s0_8, s1_9, s2_10, s3_11, s4_12, s5_13) i) (fs i) (B_21 i) := by rw [eB_21]; exact okZ_set hZ ⟨h_7, s0_8, s1_9, s2_10, s3_11, s4_12, s5_13, q_14, rfl, rfl⟩
      rw [tbS_own q_16] at hB_22
      have St : cS G k ([(qAAAAAAAAII h 10 (a 0) (a 2) (a 6) (a 8) (a 15) (a 17) (a 22) (a 23) cl sp), (qAII (a 23) 7 (a 24) tn td), (qarQ (a 24) (d 15) 8 fs)] ++ (PW nS B_21 ++ [])) [((d 15), .object "TowerAppeal$Stage")] A s H locs := St
      have St : cS G k ([(qAAAAAAAAII h 10 (a 0) (a 2) (a 6) (a 8) (a 15) (a 17) (a 22) (a 23) cl sp), (qAII (a 23) 7 (a 24) tn td), (qarQ (a 24) (d 15) 8 fs)] ++ (PW nS B_21 ++ [])) [((d 15), .object "TowerAppeal$Stage")] A s _ _ := ct_pick St [0, 1, 2] rfl (by decide) [0] rfl
      exact cs_iret F hr hlk hQ St B_21 (r := s0_8) ⟨Or.inr ⟨by omega, (by unfold buV; rw [if_pos rfl]; exact hz0)⟩, hB_22⟩ (List.range _) (ix_all (w := ([(qAAAAAAAAII h 10 (a 0) (a 2) (a 6) (a 8) (a 15) (a 17) (a 22) (a 23) cl sp), (qAII (a 23) 7 (a 24) tn td), (qarQ (a 24) (d 15) 8 fs)] ++ (PW nS B_21 ++ [])))) nd_C [] rfl (by decide) (by decide) dX10_built_56
    by_cases w16_1 : x2 = 1
    ·
      subst w16_1
      refine lv_tableIn (tgt := 57) (off := 41) hx hb dX10_built_16 (by decide) (by decide) (by decide) (by decide) ?_
      refine lv_aload_n hx hb dX10_built_57 rfl (lv_at hl 0 rfl) ?_
      refine ct_i St [3] [0, 1, 2] (wc := [(qIIIIII h_7 4 s0_8 s1_9 s2_10 s3_11 s4_12 s5_13)]) (wr := [(qAAAAAAAAII h 10 (a 0) (a 2) (a 6) (a 8) (a 15) (a 17) (a 22) (a 23) cl sp), (qAII (a 23) 7 (a 24) tn td), (qarQ (a 24) (d 15) 8 fs)]) rfl rfl (by decide) (by decide) (va_runV (As := []) (rest := []) F (x4_parts l G k _ h_7 s0_8 s1_9 s2_10 s3_11 s4_12 s5_13) (cwVt F mf_X4_parts km_X10_236 rfl rfl ⟨Nat.le_of_ble_eq_true rfl, Nat.le_of_ble_eq_true rfl⟩) (ct_preV St [3] rfl (by decide) [] rfl (ci := 4) (q0 := 3) rfl rfl) rfl rfl hl.1 rfl (lv_room (Nat.le_of_ble_eq_true rfl)) dX10_built_58 ⟨Nat.le_of_ble_eq_true rfl, Nat.le_of_ble_eq_true rfl⟩) (fun r_23 u_24 H locs hw St => ?_)
      try dsimp only at hw
      have z_25 := hw
      subst r_23
      have St : cS G k ([(qAAAAAAAAII h 10 (a 0) (a 2) (a 6) (a 8) (a 15) (a 17) (a 22) (a 23) cl sp), (qAII (a 23) 7 (a 24) tn td), (qarQ (a 24) (d 15) 8 fs), (qIIIIII h_7 4 s0_8 s1_9 s2_10 s3_11 s4_12 s5_13)] ++ (PWx nS x1.toNatClampNeg bS ++ [])) [((d 15), .object "TowerAppeal$Stage")] A s H locs := St
      have St : cS G k ([(qAAAAAAAAII h 10 (a 0) (a 2) (a 6) (a 8) (a 15) (a 17) (a 22) (a 23) cl sp), (qAII (a 23) 7 (a 24) tn td), (qarQ (a 24) (d 15) 8 fs), (qIIIIII h_7 4 s0_8 s1_9 s2_10 s3_11 s4_12 s5_13)] ++ (PWx nS x1.toNatClampNeg bS ++ [])) [((d 15), .object "TowerAppeal$Stage")] A s H locs := ct_pick St [0, 1, 2, 3] rfl (by decide) [0] rfl
      have St := cs_push (cs := [(qAAAAAAAAII h 10 (a 0) (a 2) (a 6) (a 8) (a 15) (a 17) (a 22) (a 23) cl sp), (qAII (a 23) 7 (a 24) tn td), (qarQ (a 24) (d 15) 8 fs)]) (b := [(qIIIIII h_7 4 s0_8 s1_9 s2_10 s3_11 s4_12 s5_13)]) (rs := []) St hj_17
      obtain ⟨B_26, eB_26⟩ : ∃ zz : Nat → va_W, zz = setB bS x1.toNatClampNeg [(qIIIIII h_7 4 s0_8 s1_9 s2_10 s3_11 s4_12 s5_13)] := ⟨_, rfl⟩
      rw [← eB_26] at St
      have hB_27 : ∀ i, i < nS → okZ (tbS (zT td.toInt sc sl sk sq su) x1.toNatClampNeg (s0_8, s1_9, s2_10, s3_11, s4_12, s5_13) i) (fs i) (B_26 i) := by rw [eB_26]; exact okZ_set hZ ⟨h_7, s0_8, s1_9, s2_10, s3_11, s4_12, s5_13, q_14, rfl, rfl⟩
      rw [tbS_own q_16] at hB_27
      have St : cS G k ([(qAAAAAAAAII h 10 (a 0) (a 2) (a 6) (a 8) (a 15) (a 17) (a 22) (a 23) cl sp), (qAII (a 23) 7 (a 24) tn td), (qarQ (a 24) (d 15) 8 fs)] ++ (PW nS B_26 ++ [])) [((d 15), .object "TowerAppeal$Stage")] A s H locs := St
      have St : cS G k ([(qAAAAAAAAII h 10 (a 0) (a 2) (a 6) (a 8) (a 15) (a 17) (a 22) (a 23) cl sp), (qAII (a 23) 7 (a 24) tn td), (qarQ (a 24) (d 15) 8 fs)] ++ (PW nS B_26 ++ [])) [((d 15), .object "TowerAppeal$Stage")] A s _ _ := ct_pick St [0, 1, 2] rfl (by decide) [0] rfl
      exact cs_iret F hr hlk hQ St B_26 (r := s1_9) ⟨Or.inr ⟨by omega, (by unfold buV; rw [if_neg (by decide), if_pos rfl]; exact hz1)⟩, hB_27⟩ (List.range _) (ix_all (w := ([(qAAAAAAAAII h 10 (a 0) (a 2) (a 6) (a 8) (a 15) (a 17) (a 22) (a 23) cl sp), (qAII (a 23) 7 (a 24) tn td), (qarQ (a 24) (d 15) 8 fs)] ++ (PW nS B_26 ++ [])))) nd_C [] rfl (by decide) (by decide) dX10_built_61
    by_cases w16_2 : x2 = 2
    ·
      subst w16_2
      refine lv_tableIn (tgt := 62) (off := 46) hx hb dX10_built_16 (by decide) (by decide) (by decide) (by decide) ?_
      refine lv_aload_n hx hb dX10_built_62 rfl (lv_at hl 0 rfl) ?_
      refine ct_i St [3] [0, 1, 2] (wc := [(qIIIIII h_7 4 s0_8 s1_9 s2_10 s3_11 s4_12 s5_13)]) (wr := [(qAAAAAAAAII h 10 (a 0) (a 2) (a 6) (a 8) (a 15) (a 17) (a 22) (a 23) cl sp), (qAII (a 23) 7 (a 24) tn td), (qarQ (a 24) (d 15) 8 fs)]) rfl rfl (by decide) (by decide) (va_runV (As := []) (rest := []) F (x4_progress l G k _ h_7 s0_8 s1_9 s2_10 s3_11 s4_12 s5_13) (cwVt F mf_X4_progress km_X10_239 rfl rfl ⟨Nat.le_of_ble_eq_true rfl, Nat.le_of_ble_eq_true rfl⟩) (ct_preV St [3] rfl (by decide) [] rfl (ci := 4) (q0 := 3) rfl rfl) rfl rfl hl.1 rfl (lv_room (Nat.le_of_ble_eq_true rfl)) dX10_built_63 ⟨Nat.le_of_ble_eq_true rfl, Nat.le_of_ble_eq_true rfl⟩) (fun r_28 u_29 H locs hw St => ?_)
      try dsimp only at hw
      have z_30 := hw
      subst r_28
      have St : cS G k ([(qAAAAAAAAII h 10 (a 0) (a 2) (a 6) (a 8) (a 15) (a 17) (a 22) (a 23) cl sp), (qAII (a 23) 7 (a 24) tn td), (qarQ (a 24) (d 15) 8 fs), (qIIIIII h_7 4 s0_8 s1_9 s2_10 s3_11 s4_12 s5_13)] ++ (PWx nS x1.toNatClampNeg bS ++ [])) [((d 15), .object "TowerAppeal$Stage")] A s H locs := St
      have St : cS G k ([(qAAAAAAAAII h 10 (a 0) (a 2) (a 6) (a 8) (a 15) (a 17) (a 22) (a 23) cl sp), (qAII (a 23) 7 (a 24) tn td), (qarQ (a 24) (d 15) 8 fs), (qIIIIII h_7 4 s0_8 s1_9 s2_10 s3_11 s4_12 s5_13)] ++ (PWx nS x1.toNatClampNeg bS ++ [])) [((d 15), .object "TowerAppeal$Stage")] A s H locs := ct_pick St [0, 1, 2, 3] rfl (by decide) [0] rfl
      have St := cs_push (cs := [(qAAAAAAAAII h 10 (a 0) (a 2) (a 6) (a 8) (a 15) (a 17) (a 22) (a 23) cl sp), (qAII (a 23) 7 (a 24) tn td), (qarQ (a 24) (d 15) 8 fs)]) (b := [(qIIIIII h_7 4 s0_8 s1_9 s2_10 s3_11 s4_12 s5_13)]) (rs := []) St hj_17
      obtain ⟨B_31, eB_31⟩ : ∃ zz : Nat → va_W, zz = setB bS x1.toNatClampNeg [(qIIIIII h_7 4 s0_8 s1_9 s2_10 s3_11 s4_12 s5_13)] := ⟨_, rfl⟩
      rw [← eB_31] at St
      have hB_32 : ∀ i, i < nS → okZ (tbS (zT td.toInt sc sl sk sq su) x1.toNatClampNeg (s0_8, s1_9, s2_10, s3_11, s4_12, s5_13) i) (fs i) (B_31 i) := by rw [eB_31]; exact okZ_set hZ ⟨h_7, s0_8, s1_9, s2_10, s3_11, s4_12, s5_13, q_14, rfl, rfl⟩
      rw [tbS_own q_16] at hB_32
      have St : cS G k ([(qAAAAAAAAII h 10 (a 0) (a 2) (a 6) (a 8) (a 15) (a 17) (a 22) (a 23) cl sp), (qAII (a 23) 7 (a 24) tn td), (qarQ (a 24) (d 15) 8 fs)] ++ (PW nS B_31 ++ [])) [((d 15), .object "TowerAppeal$Stage")] A s H locs := St
      have St : cS G k ([(qAAAAAAAAII h 10 (a 0) (a 2) (a 6) (a 8) (a 15) (a 17) (a 22) (a 23) cl sp), (qAII (a 23) 7 (a 24) tn td), (qarQ (a 24) (d 15) 8 fs)] ++ (PW nS B_31 ++ [])) [((d 15), .object "TowerAppeal$Stage")] A s _ _ := ct_pick St [0, 1, 2] rfl (by decide) [0] rfl
      exact cs_iret F hr hlk hQ St B_31 (r := s2_10) ⟨Or.inr ⟨by omega, (by unfold buV; rw [if_neg (by decide), if_neg (by decide), if_pos rfl]; exact hz2.trans (prZ_b hn1))⟩, hB_32⟩ (List.range _) (ix_all (w := ([(qAAAAAAAAII h 10 (a 0) (a 2) (a 6) (a 8) (a 15) (a 17) (a 22) (a 23) cl sp), (qAII (a 23) 7 (a 24) tn td), (qarQ (a 24) (d 15) 8 fs)] ++ (PW nS B_31 ++ [])))) nd_C [] rfl (by decide) (by decide) dX10_built_66
    by_cases w16_3 : x2 = 3
    ·
      subst w16_3
      refine lv_tableIn (tgt := 67) (off := 51) hx hb dX10_built_16 (by decide) (by decide) (by decide) (by decide) ?_
      refine lv_aload_n hx hb dX10_built_67 rfl (lv_at hl 0 rfl) ?_
      refine ct_i St [3] [0, 1, 2] (wc := [(qIIIIII h_7 4 s0_8 s1_9 s2_10 s3_11 s4_12 s5_13)]) (wr := [(qAAAAAAAAII h 10 (a 0) (a 2) (a 6) (a 8) (a 15) (a 17) (a 22) (a 23) cl sp), (qAII (a 23) 7 (a 24) tn td), (qarQ (a 24) (d 15) 8 fs)]) rfl rfl (by decide) (by decide) (va_runV (As := []) (rest := []) F (x4_paid l G k _ h_7 s0_8 s1_9 s2_10 s3_11 s4_12 s5_13) (cwVt F mf_X4_paid km_X10_242 rfl rfl ⟨Nat.le_of_ble_eq_true rfl, Nat.le_of_ble_eq_true rfl⟩) (ct_preV St [3] rfl (by decide) [] rfl (ci := 4) (q0 := 3) rfl rfl) rfl rfl hl.1 rfl (lv_room (Nat.le_of_ble_eq_true rfl)) dX10_built_68 ⟨Nat.le_of_ble_eq_true rfl, Nat.le_of_ble_eq_true rfl⟩) (fun r_33 u_34 H locs hw St => ?_)
      try dsimp only at hw
      have z_35 := hw
      subst r_33
      have St : cS G k ([(qAAAAAAAAII h 10 (a 0) (a 2) (a 6) (a 8) (a 15) (a 17) (a 22) (a 23) cl sp), (qAII (a 23) 7 (a 24) tn td), (qarQ (a 24) (d 15) 8 fs), (qIIIIII h_7 4 s0_8 s1_9 s2_10 s3_11 s4_12 s5_13)] ++ (PWx nS x1.toNatClampNeg bS ++ [])) [((d 15), .object "TowerAppeal$Stage")] A s H locs := St
      have St : cS G k ([(qAAAAAAAAII h 10 (a 0) (a 2) (a 6) (a 8) (a 15) (a 17) (a 22) (a 23) cl sp), (qAII (a 23) 7 (a 24) tn td), (qarQ (a 24) (d 15) 8 fs), (qIIIIII h_7 4 s0_8 s1_9 s2_10 s3_11 s4_12 s5_13)] ++ (PWx nS x1.toNatClampNeg bS ++ [])) [((d 15), .object "TowerAppeal$Stage")] A s H locs := ct_pick St [0, 1, 2, 3] rfl (by decide) [0] rfl
      have St := cs_push (cs := [(qAAAAAAAAII h 10 (a 0) (a 2) (a 6) (a 8) (a 15) (a 17) (a 22) (a 23) cl sp), (qAII (a 23) 7 (a 24) tn td), (qarQ (a 24) (d 15) 8 fs)]) (b := [(qIIIIII h_7 4 s0_8 s1_9 s2_10 s3_11 s4_12 s5_13)]) (rs := []) St hj_17
      obtain ⟨B_36, eB_36⟩ : ∃ zz : Nat → va_W, zz = setB bS x1.toNatClampNeg [(qIIIIII h_7 4 s0_8 s1_9 s2_10 s3_11 s4_12 s5_13)] := ⟨_, rfl⟩
      rw [← eB_36] at St
      have hB_37 : ∀ i, i < nS → okZ (tbS (zT td.toInt sc sl sk sq su) x1.toNatClampNeg (s0_8, s1_9, s2_10, s3_11, s4_12, s5_13) i) (fs i) (B_36 i) := by rw [eB_36]; exact okZ_set hZ ⟨h_7, s0_8, s1_9, s2_10, s3_11, s4_12, s5_13, q_14, rfl, rfl⟩
      rw [tbS_own q_16] at hB_37
      have St : cS G k ([(qAAAAAAAAII h 10 (a 0) (a 2) (a 6) (a 8) (a 15) (a 17) (a 22) (a 23) cl sp), (qAII (a 23) 7 (a 24) tn td), (qarQ (a 24) (d 15) 8 fs)] ++ (PW nS B_36 ++ [])) [((d 15), .object "TowerAppeal$Stage")] A s H locs := St
      have St : cS G k ([(qAAAAAAAAII h 10 (a 0) (a 2) (a 6) (a 8) (a 15) (a 17) (a 22) (a 23) cl sp), (qAII (a 23) 7 (a 24) tn td), (qarQ (a 24) (d 15) 8 fs)] ++ (PW nS B_36 ++ [])) [((d 15), .object "TowerAppeal$Stage")] A s _ _ := ct_pick St [0, 1, 2] rfl (by decide) [0] rfl
      exact cs_iret F hr hlk hQ St B_36 (r := s4_12) ⟨Or.inr ⟨by omega, (by unfold buV; rw [if_neg (by decide), if_neg (by decide), if_neg (by decide), if_pos rfl]; exact hz4)⟩, hB_37⟩ (List.range _) (ix_all (w := ([(qAAAAAAAAII h 10 (a 0) (a 2) (a 6) (a 8) (a 15) (a 17) (a 22) (a 23) cl sp), (qAII (a 23) 7 (a 24) tn td), (qarQ (a 24) (d 15) 8 fs)] ++ (PW nS B_36 ++ [])))) nd_C [] rfl (by decide) (by decide) dX10_built_71
    by_cases w16_4 : x2 = 4
    ·
      subst w16_4
      refine lv_tableIn (tgt := 72) (off := 56) hx hb dX10_built_16 (by decide) (by decide) (by decide) (by decide) ?_
      refine lv_aload_n hx hb dX10_built_72 rfl (lv_at hl 0 rfl) ?_
      refine ct_i St [3] [0, 1, 2] (wc := [(qIIIIII h_7 4 s0_8 s1_9 s2_10 s3_11 s4_12 s5_13)]) (wr := [(qAAAAAAAAII h 10 (a 0) (a 2) (a 6) (a 8) (a 15) (a 17) (a 22) (a 23) cl sp), (qAII (a 23) 7 (a 24) tn td), (qarQ (a 24) (d 15) 8 fs)]) rfl rfl (by decide) (by decide) (va_runV (As := []) (rest := []) F (x4_paused l G k _ h_7 s0_8 s1_9 s2_10 s3_11 s4_12 s5_13) (cwVt F mf_X4_paused km_X10_245 rfl rfl ⟨Nat.le_of_ble_eq_true rfl, Nat.le_of_ble_eq_true rfl⟩) (ct_preV St [3] rfl (by decide) [] rfl (ci := 4) (q0 := 3) rfl rfl) rfl rfl hl.1 rfl (lv_room (Nat.le_of_ble_eq_true rfl)) dX10_built_73 ⟨Nat.le_of_ble_eq_true rfl, Nat.le_of_ble_eq_true rfl⟩) (fun r_38 u_39 H locs hw St => ?_)
      try dsimp only at hw
      have z_40 := hw
      subst r_38
      have St : cS G k ([(qAAAAAAAAII h 10 (a 0) (a 2) (a 6) (a 8) (a 15) (a 17) (a 22) (a 23) cl sp), (qAII (a 23) 7 (a 24) tn td), (qarQ (a 24) (d 15) 8 fs), (qIIIIII h_7 4 s0_8 s1_9 s2_10 s3_11 s4_12 s5_13)] ++ (PWx nS x1.toNatClampNeg bS ++ [])) [((d 15), .object "TowerAppeal$Stage")] A s H locs := St
      have St : cS G k ([(qAAAAAAAAII h 10 (a 0) (a 2) (a 6) (a 8) (a 15) (a 17) (a 22) (a 23) cl sp), (qAII (a 23) 7 (a 24) tn td), (qarQ (a 24) (d 15) 8 fs), (qIIIIII h_7 4 s0_8 s1_9 s2_10 s3_11 s4_12 s5_13)] ++ (PWx nS x1.toNatClampNeg bS ++ [])) [((d 15), .object "TowerAppeal$Stage")] A s H locs := ct_pick St [0, 1, 2, 3] rfl (by decide) [0] rfl
      have St := cs_push (cs := [(qAAAAAAAAII h 10 (a 0) (a 2) (a 6) (a 8) (a 15) (a 17) (a 22) (a 23) cl sp), (qAII (a 23) 7 (a 24) tn td), (qarQ (a 24) (d 15) 8 fs)]) (b := [(qIIIIII h_7 4 s0_8 s1_9 s2_10 s3_11 s4_12 s5_13)]) (rs := []) St hj_17
      obtain ⟨B_41, eB_41⟩ : ∃ zz : Nat → va_W, zz = setB bS x1.toNatClampNeg [(qIIIIII h_7 4 s0_8 s1_9 s2_10 s3_11 s4_12 s5_13)] := ⟨_, rfl⟩
      rw [← eB_41] at St
      have hB_42 : ∀ i, i < nS → okZ (tbS (zT td.toInt sc sl sk sq su) x1.toNatClampNeg (s0_8, s1_9, s2_10, s3_11, s4_12, s5_13) i) (fs i) (B_41 i) := by rw [eB_41]; exact okZ_set hZ ⟨h_7, s0_8, s1_9, s2_10, s3_11, s4_12, s5_13, q_14, rfl, rfl⟩
      rw [tbS_own q_16] at hB_42
      have St : cS G k ([(qAAAAAAAAII h 10 (a 0) (a 2) (a 6) (a 8) (a 15) (a 17) (a 22) (a 23) cl sp), (qAII (a 23) 7 (a 24) tn td), (qarQ (a 24) (d 15) 8 fs)] ++ (PW nS B_41 ++ [])) [((d 15), .object "TowerAppeal$Stage")] A s H locs := St
      have St : cS G k ([(qAAAAAAAAII h 10 (a 0) (a 2) (a 6) (a 8) (a 15) (a 17) (a 22) (a 23) cl sp), (qAII (a 23) 7 (a 24) tn td), (qarQ (a 24) (d 15) 8 fs)] ++ (PW nS B_41 ++ [])) [((d 15), .object "TowerAppeal$Stage")] A s _ _ := ct_pick St [0, 1, 2] rfl (by decide) [0] rfl
      exact cs_iret F hr hlk hQ St B_41 (r := s5_13) ⟨Or.inr ⟨by omega, (by unfold buV; rw [if_neg (by decide), if_neg (by decide), if_neg (by decide), if_neg (by decide), if_pos rfl]; exact hz5)⟩, hB_42⟩ (List.range _) (ix_all (w := ([(qAAAAAAAAII h 10 (a 0) (a 2) (a 6) (a 8) (a 15) (a 17) (a 22) (a 23) cl sp), (qAII (a 23) 7 (a 24) tn td), (qarQ (a 24) (d 15) 8 fs)] ++ (PW nS B_41 ++ [])))) nd_C [] rfl (by decide) (by decide) dX10_built_76
    have iw16_0 := lv_neT w16_0 (show (0 : Int32).toInt = 0 by decide)
    have iw16_1 := lv_neT w16_1 (show (1 : Int32).toInt = 1 by decide)
    have iw16_2 := lv_neT w16_2 (show (2 : Int32).toInt = 2 by decide)
    have iw16_3 := lv_neT w16_3 (show (3 : Int32).toInt = 3 by decide)
    have iw16_4 := lv_neT w16_4 (show (4 : Int32).toInt = 4 by decide)
    refine lv_tableOut (tgt := 77) hx hb dX10_built_16 (by omega) (by decide) ?_
    refine lv_iconst (v := (-1)) hx hb dX10_built_77 (by decide) ?_
    have St : cS G k ([(qAAAAAAAAII h 10 (a 0) (a 2) (a 6) (a 8) (a 15) (a 17) (a 22) (a 23) cl sp), (qAII (a 23) 7 (a 24) tn td), (qarQ (a 24) (d 15) 8 fs), (qIIIIII h_7 4 s0_8 s1_9 s2_10 s3_11 s4_12 s5_13)] ++ (PWx nS x1.toNatClampNeg bS ++ [])) [((d 15), .object "TowerAppeal$Stage")] A s H locs := ct_pick St [0, 1, 2, 3] rfl (by decide) [0] rfl
    have St := cs_push (cs := [(qAAAAAAAAII h 10 (a 0) (a 2) (a 6) (a 8) (a 15) (a 17) (a 22) (a 23) cl sp), (qAII (a 23) 7 (a 24) tn td), (qarQ (a 24) (d 15) 8 fs)]) (b := [(qIIIIII h_7 4 s0_8 s1_9 s2_10 s3_11 s4_12 s5_13)]) (rs := []) St hj_17
    obtain ⟨B_43, eB_43⟩ : ∃ zz : Nat → va_W, zz = setB bS x1.toNatClampNeg [(qIIIIII h_7 4 s0_8 s1_9 s2_10 s3_11 s4_12 s5_13)] := ⟨_, rfl⟩
    rw [← eB_43] at St
    have hB_44 : ∀ i, i < nS → okZ (tbS (zT td.toInt sc sl sk sq su) x1.toNatClampNeg (s0_8, s1_9, s2_10, s3_11, s4_12, s5_13) i) (fs i) (B_43 i) := by rw [eB_43]; exact okZ_set hZ ⟨h_7, s0_8, s1_9, s2_10, s3_11, s4_12, s5_13, q_14, rfl, rfl⟩
    rw [tbS_own q_16] at hB_44
    have St : cS G k ([(qAAAAAAAAII h 10 (a 0) (a 2) (a 6) (a 8) (a 15) (a 17) (a 22) (a 23) cl sp), (qAII (a 23) 7 (a 24) tn td), (qarQ (a 24) (d 15) 8 fs)] ++ (PW nS B_43 ++ [])) [((d 15), .object "TowerAppeal$Stage")] A s H locs := St
    have St : cS G k ([(qAAAAAAAAII h 10 (a 0) (a 2) (a 6) (a 8) (a 15) (a 17) (a 22) (a 23) cl sp), (qAII (a 23) 7 (a 24) tn td), (qarQ (a 24) (d 15) 8 fs)] ++ (PW nS B_43 ++ [])) [((d 15), .object "TowerAppeal$Stage")] A s _ _ := ct_pick St [0, 1, 2] rfl (by decide) [0] rfl
    exact cs_iret F hr hlk hQ St B_43 (r := (-1)) ⟨Or.inr ⟨by omega, (by unfold buV; rw [if_neg w16_0, if_neg w16_1, if_neg w16_2, if_neg w16_3, if_neg w16_4])⟩, hB_44⟩ (List.range _) (ix_all (w := ([(qAAAAAAAAII h 10 (a 0) (a 2) (a 6) (a 8) (a 15) (a 17) (a 22) (a 23) cl sp), (qAII (a 23) 7 (a 24) tn td), (qarQ (a 24) (d 15) 8 fs)] ++ (PW nS B_43 ++ [])))) nd_C [] rfl (by decide) (by decide) dX10_built_78

