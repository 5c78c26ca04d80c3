set_option maxHeartbeats 4000000 in
set_option maxRecDepth 100000 in
theorem x7_running (l : Launch) (G : va_G) (k : Nat → Nat) (sz : Nat) (h : Nat) (b : Nat) (cf : ClassId) (tn : Int32) (td : Int32) (fs : Nat → Option Nat) (nS : Nat) (bS : Nat → va_W) (hnS : (nS : Int) = tn.toInt) (hn8 : nS ≤ 8) (hT : ∀ i, i < nS → okS (fs i) (bS i)) (htd : 0 ≤ td.toInt ∧ td.toInt ≤ tn.toInt) : Met l yX7_running (Cond.code yX7_running cX7_running 2 (some (.object "TowerAppeal$Stage")) :: tb) ({ frames := 1, cells := 0, slots := 0, locals := 21 } : Room) (va_Pc [.ref h] (cP G k ([(h, .inr (7, [.ref b, .int tn, .int td])), (b, .inl (cf, 8, .inr (.inr (.inr (.inr fs)))))] ++ (PW nS bS ++ [])) [(cf, .object "TowerAppeal$Stage")] sz)) (va_Qq (fun (r : Option Nat) (bS2 : (Nat → va_W)) => ((r = none) ∧ (∀ i, i < nS → okS (fs i) (bS2 i))) ∨ ((∃ j, j < nS ∧ r = fs j) ∧ (∀ i, i < nS → okS (fs i) (bS2 i)))) (cB G (fun (bS2 : (Nat → va_W)) => ([(h, .inr (7, [.ref b, .int tn, .int td])), (b, .inl (cf, 8, .inr (.inr (.inr (.inr fs)))))] ++ (PW nS bS2 ++ []))) (fun (bS2 : (Nat → va_W)) => []) (va_A ([(h, .inr (7, [.ref b, .int tn, .int td])), (b, .inl (cf, 8, .inr (.inr (.inr (.inr fs)))))] ++ (PW nS bS ++ [])) sz)) (va_A ([(h, .inr (7, [.ref b, .int tn, .int td])), (b, .inl (cf, 8, .inr (.inr (.inr (.inr fs)))))] ++ (PW nS bS ++ [])) sz)) 0 0 (va_A ([(h, .inr (7, [.ref b, .int tn, .int td])), (b, .inl (cf, 8, .inr (.inr (.inr (.inr fs)))))] ++ (PW nS bS ++ [])) sz) := by
  refine ofC_q (cc := cX7_running) (maxL := 2) (ret := (some (.object "TowerAppeal$Stage"))) (by decide) rfl (Nat.le_of_ble_eq_true rfl) ?_
  intro p e s m args below meth c A ls Q F hr hin hlk St hl hQ
  have hx := F.1
  have hb := F.2.1
  have hl : lv_has ls 2 [(0, .ref h)] := hl
  have St : cS G k ([(h, .inr (7, [.ref b, .int tn, .int td])), (b, .inl (cf, 8, .inr (.inr (.inr (.inr fs)))))] ++ (PW nS bS ++ [])) [(cf, .object "TowerAppeal$Stage")] A s s.heap [] := St
  have y0 : (0 : Int32).toInt = 0 := by decide
  skip
  refine lv_aload_n hx hb dX7_running_0 rfl (lv_at hl 0 rfl) ?_
  refine lv_aload_n hx hb dX7_running_1 rfl (lv_at hl 0 rfl) ?_
  refine ct_get F St 0 rfl rfl inX7 2 (by decide) kf_X7_21 rfl dX7_running_2 ?_
  refine lv_iconst (v := 1) hx hb dX7_running_5 (by decide) ?_
  refine lv_isub hx hb dX7_running_6 ?_
  refine lv_topi (fun y_1 ey_1 => ?_)
  first | have jy_1 : y_1.toInt = td.toInt - 1 := (by have q9 := ci_sub (x := td) (y := 1) rfl (show (1 : Int32).toInt = 1 by decide) ey_1; omega) | have jy_1 := ci_sub (x := td) (y := 1) rfl (show (1 : Int32).toInt = 1 by decide) ey_1
  refine ct_q St [0, 1] [] (wc := [(h, .inr (7, [.ref b, .int tn, .int td])), (b, .inl (cf, 8, .inr (.inr (.inr (.inr fs)))))]) (wr := []) rfl rfl (by decide) (by decide) (va_runV (As := [.int y_1]) (rest := []) F (x7_at l G k _ h b cf tn td fs y_1 (by omega) (by omega)) (cwVt F mf_X7_at km_X7_24 rfl rfl ⟨Nat.le_of_ble_eq_true rfl, Nat.le_of_ble_eq_true rfl⟩) (ct_preV St [0, 1] rfl (by decide) [0] rfl (ci := 7) (q0 := 0) rfl rfl) rfl rfl hl.1 rfl (lv_room (Nat.le_of_ble_eq_true rfl)) dX7_running_7 ⟨Nat.le_of_ble_eq_true rfl, Nat.le_of_ble_eq_true rfl⟩) (fun r_2 u_3 H locs hw St => ?_)
  try dsimp only at hw
  rcases hw with ⟨z_4, hf_5⟩ | ⟨z_6, hf_7⟩
  ·
    subst r_2
    have St : cS G k ([(h, .inr (7, [.ref b, .int tn, .int td])), (b, .inl (cf, 8, .inr (.inr (.inr (.inr fs)))))] ++ (PW nS bS ++ [])) [(cf, .object "TowerAppeal$Stage")] A s H locs := St
    show W _ _ _ _ _ _ _ _ _ _ _ _ _ _ _ (F0 m 10 ls [.null])
    refine lv_astore_nN (lv' := [(1, .null), (0, .ref h)]) hx hb dX7_running_10 rfl hl (by decide) rfl (fun ls hl => ?_)
    refine lv_aload_nN hx hb dX7_running_11 rfl (lv_at hl 0 rfl) ?_
    refine lv_ifnullN (tgt := 26) hx hb dX7_running_12 (by decide) ?_
    refine lv_null hx hb dX7_running_26 ?_
    have St : cS G k ([(h, .inr (7, [.ref b, .int tn, .int td])), (b, .inl (cf, 8, .inr (.inr (.inr (.inr fs)))))] ++ (PW nS bS ++ [])) [(cf, .object "TowerAppeal$Stage")] A s _ _ := ct_pick St [0, 1] rfl (by decide) [0] rfl
    exact cs_qret F hr (Or.inl ⟨_, rfl⟩) hlk hQ St bS none rfl (Or.inl ⟨rfl, hT⟩) (List.range _) (ix_all (w := ([(h, .inr (7, [.ref b, .int tn, .int td])), (b, .inl (cf, 8, .inr (.inr (.inr (.inr fs)))))] ++ (PW nS bS ++ [])))) nd_C [] rfl (by decide) (by decide) dX7_running_27
  ·
    have St : cS G k ([(h, .inr (7, [.ref b, .int tn, .int td])), (b, .inl (cf, 8, .inr (.inr (.inr (.inr fs)))))] ++ (PW nS bS ++ [])) [(cf, .object "TowerAppeal$Stage")] A s H locs := St
    obtain ⟨h_8, s0_9, s1_10, s2_11, s3_12, s4_13, s5_14, q_15, q_16⟩ := (hT _ (nc_lt (x := y_1) (n := nS) (by omega) (by omega)))
    have hj_17 := (nc_lt (x := y_1) (n := nS) (by omega) (by omega))
    have St : cS G k ([(h, .inr (7, [.ref b, .int tn, .int td])), (b, .inl (cf, 8, .inr (.inr (.inr (.inr fs))))), (h_8, .inr (4, [.int s0_9, .int s1_10, .int s2_11, .int s3_12, .int s4_13, .int s5_14]))] ++ (PWx nS y_1.toNatClampNeg bS ++ [])) [(cf, .object "TowerAppeal$Stage")] A s H locs := cs_pull (cs := [(h, .inr (7, [.ref b, .int tn, .int td])), (b, .inl (cf, 8, .inr (.inr (.inr (.inr fs)))))]) (rs := []) (b := [(h_8, .inr (4, [.int s0_9, .int s1_10, .int s2_11, .int s3_12, .int s4_13, .int s5_14]))]) St hj_17 q_16
    obtain rfl : r_2 = some h_8 := z_6.trans q_15
    show W _ _ _ _ _ _ _ _ _ _ _ _ _ _ _ (F0 m 10 ls [.ref h_8])
    refine lv_astore_n (lv' := [(1, .ref h_8), (0, .ref h)]) hx hb dX7_running_10 rfl hl (by decide) rfl (fun ls hl => ?_)
    refine lv_aload_n hx hb dX7_running_11 rfl (lv_at hl 0 rfl) ?_
    refine lv_ifnull hx hb dX7_running_12 ?_
    refine lv_aload_n hx hb dX7_running_15 rfl (lv_at hl 0 rfl) ?_
    refine ct_i St [2] [0, 1] (wc := [(h_8, .inr (4, [.int s0_9, .int s1_10, .int s2_11, .int s3_12, .int s4_13, .int s5_14]))]) (wr := [(h, .inr (7, [.ref b, .int tn, .int td])), (b, .inl (cf, 8, .inr (.inr (.inr (.inr fs)))))]) rfl rfl (by decide) (by decide) (va_runV (As := []) (rest := []) F (x4_runs l G k _ h_8 s0_9 s1_10 s2_11 s3_12 s4_13 s5_14) (cwVt F mf_X4_runs km_X7_28 rfl rfl ⟨Nat.le_of_ble_eq_true rfl, Nat.le_of_ble_eq_true rfl⟩) (ct_preV St [2] rfl (by decide) [] rfl (ci := 4) (q0 := 2) rfl rfl) rfl rfl hl.1 rfl (lv_room (Nat.le_of_ble_eq_true rfl)) dX7_running_16 ⟨Nat.le_of_ble_eq_true rfl, Nat.le_of_ble_eq_true rfl⟩) (fun r_18 u_19 H locs hw St => ?_)
    try dsimp only at hw
    rcases hw with z_20 | z_21
    ·
      subst r_18
      have St : cS G k ([(h, .inr (7, [.ref b, .int tn, .int td])), (b, .inl (cf, 8, .inr (.inr (.inr (.inr fs))))), (h_8, .inr (4, [.int s0_9, .int s1_10, .int s2_11, .int s3_12, .int s4_13, .int s5_14]))] ++ (PWx nS y_1.toNatClampNeg bS ++ [])) [(cf, .object "TowerAppeal$Stage")] A s H locs := St
      refine lv_if_eq (tgt := 26) hx hb dX7_running_19 (by decide) (fun c19 => ?_) (fun c19 => ?_)
      · exact absurd c19 (by decide)
      refine lv_aload_n hx hb dX7_running_22 rfl (lv_at hl 0 rfl) ?_
      refine lv_goto (tgt := 27) hx hb dX7_running_23 (by decide) ?_
      have St : cS G k ([(h, .inr (7, [.ref b, .int tn, .int td])), (b, .inl (cf, 8, .inr (.inr (.inr (.inr fs))))), (h_8, .inr (4, [.int s0_9, .int s1_10, .int s2_11, .int s3_12, .int s4_13, .int s5_14]))] ++ (PWx nS y_1.toNatClampNeg bS ++ [])) [(cf, .object "TowerAppeal$Stage")] A s H locs := ct_pick St [0, 1, 2] rfl (by decide) [0] rfl
      have St := cs_push (cs := [(h, .inr (7, [.ref b, .int tn, .int td])), (b, .inl (cf, 8, .inr (.inr (.inr (.inr fs)))))]) (b := [(h_8, .inr (4, [.int s0_9, .int s1_10, .int s2_11, .int s3_12, .int s4_13, .int s5_14]))]) (rs := []) St hj_17
      obtain ⟨B_22, eB_22⟩ : ∃ zz : Nat → va_W, zz = setB bS y_1.toNatClampNeg [(h_8, .inr (4, [.int s0_9, .int s1_10, .int s2_11, .int s3_12, .int s4_13, .int s5_14]))] := ⟨_, rfl⟩
      rw [← eB_22] at St
      have hB_23 : ∀ i, i < nS → okS (fs i) (B_22 i) := by rw [eB_22]; exact ok_set (P := fun i b => okS (fs i) b) hT ⟨h_8, s0_9, s1_10, s2_11, s3_12, s4_13, s5_14, q_15, rfl⟩
      have St : cS G k ([(h, .inr (7, [.ref b, .int tn, .int td])), (b, .inl (cf, 8, .inr (.inr (.inr (.inr fs)))))] ++ (PW nS B_22 ++ [])) [(cf, .object "TowerAppeal$Stage")] A s H locs := St
      have St : cS G k ([(h, .inr (7, [.ref b, .int tn, .int td])), (b, .inl (cf, 8, .inr (.inr (.inr (.inr fs)))))] ++ (PW nS B_22 ++ [])) [(cf, .object "TowerAppeal$Stage")] A s _ _ := ct_pick St [0, 1] rfl (by decide) [0] rfl
      exact cs_qret F hr (Or.inl ⟨_, rfl⟩) hlk hQ St B_22 (some h_8) rfl (Or.inr ⟨⟨y_1.toNatClampNeg, hj_17, q_15.symm⟩, hB_23⟩) (List.range _) (ix_all (w := ([(h, .inr (7, [.ref b, .int tn, .int td])), (b, .inl (cf, 8, .inr (.inr (.inr (.inr fs)))))] ++ (PW nS B_22 ++ [])))) nd_C [] rfl (by decide) (by decide) dX7_running_27
    ·
      subst r_18
      have St : cS G k ([(h, .inr (7, [.ref b, .int tn, .int td])), (b, .inl (cf, 8, .inr (.inr (.inr (.inr fs))))), (h_8, .inr (4, [.int s0_9, .int s1_10, .int s2_11, .int s3_12, .int s4_13, .int s5_14]))] ++ (PWx nS y_1.toNatClampNeg bS ++ [])) [(cf, .object "TowerAppeal$Stage")] A s H locs := St
      refine lv_if_eq (tgt := 26) hx hb dX7_running_19 (by decide) (fun c19 => ?_) (fun c19 => ?_)
      rotate_left
      · exact absurd (by decide) c19
      refine lv_null hx hb dX7_running_26 ?_
      have St : cS G k ([(h, .inr (7, [.ref b, .int tn, .int td])), (b, .inl (cf, 8, .inr (.inr (.inr (.inr fs))))), (h_8, .inr (4, [.int s0_9, .int s1_10, .int s2_11, .int s3_12, .int s4_13, .int s5_14]))] ++ (PWx nS y_1.toNatClampNeg bS ++ [])) [(cf, .object "TowerAppeal$Stage")] A s H locs := ct_pick St [0, 1, 2] rfl (by decide) [0] rfl
      have St := cs_push (cs := [(h, .inr (7, [.ref b, .int tn, .int td])), (b, .inl (cf, 8, .inr (.inr (.inr (.inr fs)))))]) (b := [(h_8, .inr (4, [.int s0_9, .int s1_10, .int s2_11, .int s3_12, .int s4_13, .int s5_14]))]) (rs := []) St hj_17
      obtain ⟨B_24, eB_24⟩ : ∃ zz : Nat → va_W, zz = setB bS y_1.toNatClampNeg [(h_8, .inr (4, [.int s0_9, .int s1_10, .int s2_11, .int s3_12, .int s4_13, .int s5_14]))] := ⟨_, rfl⟩
      rw [← eB_24] at St
      have hB_25 : ∀ i, i < nS → okS (fs i) (B_24 i) := by rw [eB_24]; exact ok_set (P := fun i b => okS (fs i) b) hT ⟨h_8, s0_9, s1_10, s2_11, s3_12, s4_13, s5_14, q_15, rfl⟩
      have St : cS G k ([(h, .inr (7, [.ref b, .int tn, .int td])), (b, .inl (cf, 8, .inr (.inr (.inr (.inr fs)))))] ++ (PW nS B_24 ++ [])) [(cf, .object "TowerAppeal$Stage")] A s H locs := St
      have St : cS G k ([(h, .inr (7, [.ref b, .int tn, .int td])), (b, .inl (cf, 8, .inr (.inr (.inr (.inr fs)))))] ++ (PW nS B_24 ++ [])) [(cf, .object "TowerAppeal$Stage")] A s _ _ := ct_pick St [0, 1] rfl (by decide) [0] rfl
      exact cs_qret F hr (Or.inl ⟨_, rfl⟩) hlk hQ St B_24 none rfl (Or.inl ⟨rfl, hB_25⟩) (List.range _) (ix_all (w := ([(h, .inr (7, [.ref b, .int tn, .int td])), (b, .inl (cf, 8, .inr (.inr (.inr (.inr fs)))))] ++ (PW nS B_24 ++ [])))) nd_C [] rfl (by decide) (by decide) dX7_running_27
set_option maxHeartbeats 4000000 in
set_option maxRecDepth 100000 in
theorem x7_mayStartNext (l : Launch) (G : va_G) (k : Nat → Nat) (sz : Nat) (h : Nat) (b : Nat) (cf : ClassId) (tn : Int32) (td : Int32) (fs : Nat → Option Nat) (nS : Nat) (bS : Nat → va_W) (hnS : (nS : Int) = tn.toInt) (hn8 : nS ≤ 8) (hT : ∀ i, i < nS → okS (fs i) (bS i)) (htd : 0 ≤ td.toInt ∧ td.toInt ≤ tn.toInt) : Met l yX7_mayStartNext (Cond.code yX7_mayStartNext cX7_mayStartNext 1 (some .boolean) :: tb) ({ frames := 2, cells := 0, slots := 0, locals := 42 } : Room) (va_Pc [.ref h] (cP G k ([(h, .inr (7, [.ref b, .int tn, .int td])), (b, .inl (cf, 8, .inr (.inr (.inr (.inr fs)))))] ++ (PW nS bS ++ [])) [(cf, .object "TowerAppeal$Stage")] sz)) (va_Qi (fun (r : Int32) (bS2 : (Nat → va_W)) => ((r = 1) ∧ (∀ i, i < nS → okS (fs i) (bS2 i))) ∨ ((r = 0) ∧ (∀ i, i < nS → okS (fs i) (bS2 i)))) (cB G (fun (bS2 : (Nat → va_W)) => ([(h, .inr (7, [.ref b, .int tn, .int td])), (b, .inl (cf, 8, .inr (.inr (.inr (.inr fs)))))] ++ (PW nS bS2 ++ []))) (fun (bS2 : (Nat → va_W)) => []) (va_A ([(h, .inr (7, [.ref b, .int tn, .int td])), (b, .inl (cf, 8, .inr (.inr (.inr (.inr fs)))))] ++ (PW nS bS ++ [])) sz)) (va_A ([(h, .inr (7, [.ref b, .int tn, .int td])), (b, .inl (cf, 8, .inr (.inr (.inr (.inr fs)))))] ++ (PW nS bS ++ [])) sz)) 0 0 (va_A ([(h, .inr (7, [.ref b, .int tn, .int td])), (b, .inl (cf, 8, .inr (.inr (.inr (.inr fs)))))] ++ (PW nS bS ++ [])) sz) := by
  refine ofC_i (cc := cX7_mayStartNext) (maxL := 1) (ret := (some .boolean)) (by decide) rfl (Nat.le_of_ble_eq_true rfl) ?_
  intro p e s m args below meth c A ls Q F hr hin hlk St hl hQ
  have hx := F.1
  have hb := F.2.1
  have hl : lv_has ls 1 [(0, .ref h)] := hl
  have St : cS G k ([(h, .inr (7, [.ref b, .int tn, .int td])), (b, .inl (cf, 8, .inr (.inr (.inr (.inr fs)))))] ++ (PW nS bS ++ [])) [(cf, .object "TowerAppeal$Stage")] A s s.heap [] := St
  have y0 : (0 : Int32).toInt = 0 := by decide
  skip
  refine lv_aload_n hx hb dX7_mayStartNext_0 rfl (lv_at hl 0 rfl) ?_
  have St : cS G k (([(h, .inr (7, [.ref b, .int tn, .int td])), (b, .inl (cf, 8, .inr (.inr (.inr (.inr fs)))))] ++ (PW nS bS ++ [])) ++ []) [(cf, .object "TowerAppeal$Stage")] A s _ _ := sg_two (sg := [[(h, .inr (7, [.ref b, .int tn, .int td]))], [(b, .inl (cf, 8, .inr (.inr (.inr (.inr fs)))))], PW nS bS]) (s1 := [[(h, .inr (7, [.ref b, .int tn, .int td]))], [(b, .inl (cf, 8, .inr (.inr (.inr (.inr fs)))))], PW nS bS]) (s2 := []) St 3 rfl [0, 1, 2] rfl (by decide +kernel)
  refine cs_qT (wc := ([(h, .inr (7, [.ref b, .int tn, .int td])), (b, .inl (cf, 8, .inr (.inr (.inr (.inr fs)))))] ++ (PW nS bS ++ []))) (wr := []) St (va_runV (As := []) (rest := []) F (x7_running l G k _ h b cf tn td fs nS bS (by first | assumption | omega) (by first | assumption | omega) hT (by first | assumption | omega)) (cwVt F mf_X7_running km_X7_32 rfl rfl ⟨Nat.le_of_ble_eq_true rfl, Nat.le_of_ble_eq_true rfl⟩) (cs_preVT St [0] rfl (ci := 7) (q0 := 0) rfl rfl) rfl rfl hl.1 rfl (lv_room (Nat.le_of_ble_eq_true rfl)) dX7_mayStartNext_1 ⟨Nat.le_of_ble_eq_true rfl, Nat.le_of_ble_eq_true rfl⟩) (fun r_1 u_2 H locs hw St => ?_)
  obtain ⟨bS2_3, rfl⟩ : ∃ z, z = u_2 := ⟨_, rfl⟩
  try dsimp only at hw
  have St : cS G k ([(h, .inr (7, [.ref b, .int tn, .int td])), (b, .inl (cf, 8, .inr (.inr (.inr (.inr fs)))))] ++ (PW nS bS2_3 ++ [])) [(cf, .object "TowerAppeal$Stage")] A s H locs := sg_join (s1 := []) (s2 := [[(h, .inr (7, [.ref b, .int tn, .int td]))], [(b, .inl (cf, 8, .inr (.inr (.inr (.inr fs)))))], PW nS bS2_3]) (s3 := [[(h, .inr (7, [.ref b, .int tn, .int td]))], [(b, .inl (cf, 8, .inr (.inr (.inr (.inr fs)))))], PW nS bS2_3]) St 3 rfl [0, 1, 2] rfl (by decide +kernel)
  rcases hw with ⟨z_4, hT2_5⟩ | ⟨hq_6, hT2_7⟩
  ·
    subst r_1
    have St : cS G k ([(h, .inr (7, [.ref b, .int tn, .int td])), (b, .inl (cf, 8, .inr (.inr (.inr (.inr fs)))))] ++ (PW nS bS2_3 ++ [])) [(cf, .object "TowerAppeal$Stage")] A s H locs := St
    show W _ _ _ _ _ _ _ _ _ _ _ _ _ _ _ (F0 m 4 ls [.null])
    refine lv_ifnonnullN hx hb dX7_mayStartNext_4 ?_
    refine lv_aload_n hx hb dX7_mayStartNext_7 rfl (lv_at hl 0 rfl) ?_
    refine ct_get F St 0 rfl rfl inX7 2 (by decide) kf_X7_21 rfl dX7_mayStartNext_8 ?_
    refine lv_aload_n hx hb dX7_mayStartNext_11 rfl (lv_at hl 0 rfl) ?_
    refine ct_get F St 0 rfl rfl inX7 1 (by decide) kf_X7_17 rfl dX7_mayStartNext_12 ?_
    refine lv_icmp_ge (tgt := 22) hx hb dX7_mayStartNext_15 (by decide) (fun c15 => ?_) (fun c15 => ?_)
    ·
      have i15 := ci_le (x := tn) (y := td) rfl rfl c15
      refine lv_iconst (v := 0) hx hb dX7_mayStartNext_22 (by decide) ?_
      have St : cS G k ([(h, .inr (7, [.ref b, .int tn, .int td])), (b, .inl (cf, 8, .inr (.inr (.inr (.inr fs)))))] ++ (PW nS bS2_3 ++ [])) [(cf, .object "TowerAppeal$Stage")] A s _ _ := ct_pick St [0, 1] rfl (by decide) [0] rfl
      exact cs_zret F hr hlk hQ St bS2_3 (r := 0) rfl (Or.inr ⟨rfl, hT2_5⟩) (List.range _) (ix_all (w := ([(h, .inr (7, [.ref b, .int tn, .int td])), (b, .inl (cf, 8, .inr (.inr (.inr (.inr fs)))))] ++ (PW nS bS2_3 ++ [])))) nd_C [] rfl (by decide) (by decide) dX7_mayStartNext_23
    ·
      have i15 := ci_nle (x := tn) (y := td) rfl rfl c15
      refine lv_iconst (v := 1) hx hb dX7_mayStartNext_18 (by decide) ?_
      refine lv_goto (tgt := 23) hx hb dX7_mayStartNext_19 (by decide) ?_
      have St : cS G k ([(h, .inr (7, [.ref b, .int tn, .int td])), (b, .inl (cf, 8, .inr (.inr (.inr (.inr fs)))))] ++ (PW nS bS2_3 ++ [])) [(cf, .object "TowerAppeal$Stage")] A s _ _ := ct_pick St [0, 1] rfl (by decide) [0] rfl
      exact cs_zret F hr hlk hQ St bS2_3 (r := 1) rfl (Or.inl ⟨rfl, hT2_5⟩) (List.range _) (ix_all (w := ([(h, .inr (7, [.ref b, .int tn, .int td])), (b, .inl (cf, 8, .inr (.inr (.inr (.inr fs)))))] ++ (PW nS bS2_3 ++ [])))) nd_C [] rfl (by decide) (by decide) dX7_mayStartNext_23
  ·
    have St : cS G k ([(h, .inr (7, [.ref b, .int tn, .int td])), (b, .inl (cf, 8, .inr (.inr (.inr (.inr fs)))))] ++ (PW nS bS2_3 ++ [])) [(cf, .object "TowerAppeal$Stage")] A s H locs := St
    obtain ⟨j_8, hj_9, hz_10⟩ := hq_6
    obtain ⟨h_11, s0_12, s1_13, s2_14, s3_15, s4_16, s5_17, q_18, q_19⟩ := (hT2_7 _ hj_9)
    have hj_20 := hj_9
    have St : cS G k ([(h, .inr (7, [.ref b, .int tn, .int td])), (b, .inl (cf, 8, .inr (.inr (.inr (.inr fs))))), (h_11, .inr (4, [.int s0_12, .int s1_13, .int s2_14, .int s3_15, .int s4_16, .int s5_17]))] ++ (PWx nS j_8 bS2_3 ++ [])) [(cf, .object "TowerAppeal$Stage")] A s H locs := cs_pull (cs := [(h, .inr (7, [.ref b, .int tn, .int td])), (b, .inl (cf, 8, .inr (.inr (.inr (.inr fs)))))]) (rs := []) (b := [(h_11, .inr (4, [.int s0_12, .int s1_13, .int s2_14, .int s3_15, .int s4_16, .int s5_17]))]) St hj_20 q_19
    obtain rfl : r_1 = some h_11 := hz_10.trans q_18
    show W _ _ _ _ _ _ _ _ _ _ _ _ _ _ _ (F0 m 4 ls [.ref h_11])
    refine lv_ifnonnull (tgt := 22) hx hb dX7_mayStartNext_4 (by decide) ?_
    refine lv_iconst (v := 0) hx hb dX7_mayStartNext_22 (by decide) ?_
    have St : cS G k ([(h, .inr (7, [.ref b, .int tn, .int td])), (b, .inl (cf, 8, .inr (.inr (.inr (.inr fs))))), (h_11, .inr (4, [.int s0_12, .int s1_13, .int s2_14, .int s3_15, .int s4_16, .int s5_17]))] ++ (PWx nS j_8 bS2_3 ++ [])) [(cf, .object "TowerAppeal$Stage")] A s H locs := ct_pick St [0, 1, 2] rfl (by decide) [0] rfl
    have St := cs_push (cs := [(h, .inr (7, [.ref b, .int tn, .int td])), (b, .inl (cf, 8, .inr (.inr (.inr (.inr fs)))))]) (b := [(h_11, .inr (4, [.int s0_12, .int s1_13, .int s2_14, .int s3_15, .int s4_16, .int s5_17]))]) (rs := []) St hj_20
    obtain ⟨B_21, eB_21⟩ : ∃ zz : Nat → va_W, zz = setB bS2_3 j_8 [(h_11, .inr (4, [.int s0_12, .int s1_13, .int s2_14, .int s3_15, .int s4_16, .int s5_17]))] := ⟨_, rfl⟩
    rw [← eB_21] at St
    have hB_22 : ∀ i, i < nS → okS (fs i) (B_21 i) := by rw [eB_21]; exact ok_set (P := fun i b => okS (fs i) b) hT2_7 ⟨h_11, s0_12, s1_13, s2_14, s3_15, s4_16, s5_17, q_18, rfl⟩
    have St : cS G k ([(h, .inr (7, [.ref b, .int tn, .int td])), (b, .inl (cf, 8, .inr (.inr (.inr (.inr fs)))))] ++ (PW nS B_21 ++ [])) [(cf, .object "TowerAppeal$Stage")] A s H locs := St
    have St : cS G k ([(h, .inr (7, [.ref b, .int tn, .int td])), (b, .inl (cf, 8, .inr (.inr (.inr (.inr fs)))))] ++ (PW nS B_21 ++ [])) [(cf, .object "TowerAppeal$Stage")] A s _ _ := ct_pick St [0, 1] rfl (by decide) [0] rfl
    exact cs_zret F hr hlk hQ St B_21 (r := 0) rfl (Or.inr ⟨rfl, hB_22⟩) (List.range _) (ix_all (w := ([(h, .inr (7, [.ref b, .int tn, .int td])), (b, .inl (cf, 8, .inr (.inr (.inr (.inr fs)))))] ++ (PW nS B_21 ++ [])))) nd_C [] rfl (by decide) (by decide) dX7_mayStartNext_23
set_option maxHeartbeats 4000000 in
set_option maxRecDepth 100000 in
theorem x7_startNext (l : Launch) (G : va_G) (k : Nat → Nat) (sz : Nat) (h : Nat) (b : Nat) (cf : ClassId) (tn : Int32) (td : Int32) (fs : Nat → Option Nat) (nS : Nat) (bS : Nat → va_W) (hnS : (nS : Int) = tn.toInt) (hn8 : nS ≤ 8) (hT : ∀ i, i < nS → okS (fs i) (bS i)) (htd : 0 ≤ td.toInt ∧ td.toInt ≤ tn.toInt) : Met l yX7_startNext (Cond.code yX7_startNext cX7_startNext 2 (some .int) :: tb) ({ frames := 1, cells := 0, slots := 0, locals := 21 } : Room) (va_Pc [.ref h] (cP G k ([(h, .inr (7, [.ref b, .int tn, .int td])), (b, .inl (cf, 8, .inr (.inr (.inr (.inr fs)))))] ++ (PW nS bS ++ [])) [(cf, .object "TowerAppeal$Stage")] sz)) (va_Qi (fun (r : Int32) (u : Int32 × (Nat → va_W)) => match u with | (td2, bS2) => (0 ≤ td2.toInt ∧ td2.toInt ≤ tn.toInt) ∧ (∀ i, i < nS → okS (fs i) (bS2 i))) (cB G (fun u => match u with | (td2, bS2) => ([(h, .inr (7, [.ref b, .int tn, .int td2])), (b, .inl (cf, 8, .inr (.inr (.inr (.inr fs)))))] ++ (PW nS bS2 ++ []))) (fun u => match u with | (td2, bS2) => []) (va_A ([(h, .inr (7, [.ref b, .int tn, .int td])), (b, .inl (cf, 8, .inr (.inr (.inr (.inr fs)))))] ++ (PW nS bS ++ [])) sz)) (va_A ([(h, .inr (7, [.ref b, .int tn, .int td])), (b, .inl (cf, 8, .inr (.inr (.inr (.inr fs)))))] ++ (PW nS bS ++ [])) sz)) 0 0 (va_A ([(h, .inr (7, [.ref b, .int tn, .int td])), (b, .inl (cf, 8, .inr (.inr (.inr (.inr fs)))))] ++ (PW nS bS ++ [])) sz) := by
  refine ofC_i (cc := cX7_startNext) (maxL := 2) (ret := (some .int)) (by decide) rfl (Nat.le_of_ble_eq_true rfl) ?_
  intro p e s m args below meth c A ls Q F hr hin hlk St hl hQ
  have hx := F.1
  have hb := F.2.1
  have hl : lv_has ls 2 [(0, .ref h)] := hl
  have St : cS G k ([(h, .inr (7, [.ref b, .int tn, .int td])), (b, .inl (cf, 8, .inr (.inr (.inr (.inr fs)))))] ++ (PW nS bS ++ [])) [(cf, .object "TowerAppeal$Stage")] A s s.heap [] := St
  have y0 : (0 : Int32).toInt = 0 := by decide
  skip
  refine lv_aload_n hx hb dX7_startNext_0 rfl (lv_at hl 0 rfl) ?_
  refine lv_aload_n hx hb dX7_startNext_1 rfl (lv_at hl 0 rfl) ?_
  refine ct_get F St 0 rfl rfl inX7 2 (by decide) kf_X7_21 rfl dX7_startNext_2 ?_
  refine ct_q St [0, 1] [] (wc := [(h, .inr (7, [.ref b, .int tn, .int td])), (b, .inl (cf, 8, .inr (.inr (.inr (.inr fs)))))]) (wr := []) rfl rfl (by decide) (by decide) (va_runV (As := [.int td]) (rest := []) F (x7_at l G k _ h b cf tn td fs td (by omega) (by omega)) (cwVt F mf_X7_at km_X7_24 rfl rfl ⟨Nat.le_of_ble_eq_true rfl, Nat.le_of_ble_eq_true rfl⟩) (ct_preV St [0, 1] rfl (by decide) [0] rfl (ci := 7) (q0 := 0) rfl rfl) rfl rfl hl.1 rfl (lv_room (Nat.le_of_ble_eq_true rfl)) dX7_startNext_5 ⟨Nat.le_of_ble_eq_true rfl, Nat.le_of_ble_eq_true rfl⟩) (fun r_1 u_2 H locs hw St => ?_)
  try dsimp only at hw
  rcases hw with ⟨z_3, hf_4⟩ | ⟨z_5, hf_6⟩
  ·
    subst r_1
    have St : cS G k ([(h, .inr (7, [.ref b, .int tn, .int td])), (b, .inl (cf, 8, .inr (.inr (.inr (.inr fs)))))] ++ (PW nS bS ++ [])) [(cf, .object "TowerAppeal$Stage")] A s H locs := St
    show W _ _ _ _ _ _ _ _ _ _ _ _ _ _ _ (F0 m 8 ls [.null])
    refine lv_astore_nN (lv' := [(1, .null), (0, .ref h)]) hx hb dX7_startNext_8 rfl hl (by decide) rfl (fun ls hl => ?_)
    refine lv_aload_nN hx hb dX7_startNext_9 rfl (lv_at hl 0 rfl) ?_
    refine lv_ifnonnullN hx hb dX7_startNext_10 ?_
    refine lv_bipush (v := (-4)) hx hb dX7_startNext_13 (by decide) ?_
    have St : cS G k ([(h, .inr (7, [.ref b, .int tn, .int td])), (b, .inl (cf, 8, .inr (.inr (.inr (.inr fs)))))] ++ (PW nS bS ++ [])) [(cf, .object "TowerAppeal$Stage")] A s _ _ := ct_pick St [0, 1] rfl (by decide) [0] rfl
    exact cs_iret F hr hlk hQ St (td, bS) (r := (-4)) ⟨by omega, hT⟩ (List.range _) (ix_all (w := ([(h, .inr (7, [.ref b, .int tn, .int td])), (b, .inl (cf, 8, .inr (.inr (.inr (.inr fs)))))] ++ (PW nS bS ++ [])))) nd_C [] rfl (by decide) (by decide) dX7_startNext_15
  ·
    have St : cS G k ([(h, .inr (7, [.ref b, .int tn, .int td])), (b, .inl (cf, 8, .inr (.inr (.inr (.inr fs)))))] ++ (PW nS bS ++ [])) [(cf, .object "TowerAppeal$Stage")] A s H locs := St
    obtain ⟨h_7, s0_8, s1_9, s2_10, s3_11, s4_12, s5_13, q_14, q_15⟩ := (hT _ (nc_lt (x := td) (n := nS) (by omega) (by omega)))
    have hj_16 := (nc_lt (x := td) (n := nS) (by omega) (by omega))
    have St : cS G k ([(h, .inr (7, [.ref b, .int tn, .int td])), (b, .inl (cf, 8, .inr (.inr (.inr (.inr fs))))), (h_7, .inr (4, [.int s0_8, .int s1_9, .int s2_10, .int s3_11, .int s4_12, .int s5_13]))] ++ (PWx nS td.toNatClampNeg bS ++ [])) [(cf, .object "TowerAppeal$Stage")] A s H locs := cs_pull (cs := [(h, .inr (7, [.ref b, .int tn, .int td])), (b, .inl (cf, 8, .inr (.inr (.inr (.inr fs)))))]) (rs := []) (b := [(h_7, .inr (4, [.int s0_8, .int s1_9, .int s2_10, .int s3_11, .int s4_12, .int s5_13]))]) St hj_16 q_15
    obtain rfl : r_1 = some h_7 := z_5.trans q_14
    show W _ _ _ _ _ _ _ _ _ _ _ _ _ _ _ (F0 m 8 ls [.ref h_7])
    refine lv_astore_n (lv' := [(1, .ref h_7), (0, .ref h)]) hx hb dX7_startNext_8 rfl hl (by decide) rfl (fun ls hl => ?_)
    refine lv_aload_n hx hb dX7_startNext_9 rfl (lv_at hl 0 rfl) ?_
    refine lv_ifnonnull (tgt := 16) hx hb dX7_startNext_10 (by decide) ?_
    refine lv_aload_n hx hb dX7_startNext_16 rfl (lv_at hl 0 rfl) ?_
    refine ct_v St [2] [0, 1] (wc := [(h_7, .inr (4, [.int s0_8, .int s1_9, .int s2_10, .int s3_11, .int s4_12, .int s5_13]))]) (wr := [(h, .inr (7, [.ref b, .int tn, .int td])), (b, .inl (cf, 8, .inr (.inr (.inr (.inr fs)))))]) rfl rfl (by decide) (by decide) (va_runV (As := []) (rest := []) F (x4_start l G k _ h_7 s0_8 s1_9 s2_10 s3_11 s4_12 s5_13) (cwVt F mf_X4_start km_X7_36 rfl rfl ⟨Nat.le_of_ble_eq_true rfl, Nat.le_of_ble_eq_true rfl⟩) (ct_preV St [2] rfl (by decide) [] rfl (ci := 4) (q0 := 2) rfl rfl) rfl rfl hl.1 rfl (lv_room (Nat.le_of_ble_eq_true rfl)) dX7_startNext_17 ⟨Nat.le_of_ble_eq_true rfl, Nat.le_of_ble_eq_true rfl⟩) (fun u_18 H locs hw St => ?_)
    try dsimp only at hw
    have St : cS G k ([(h, .inr (7, [.ref b, .int tn, .int td])), (b, .inl (cf, 8, .inr (.inr (.inr (.inr fs))))), (h_7, .inr (4, [.int s0_8, .int s1_9, .int 1, .int s3_11, .int s4_12, .int s5_13]))] ++ (PWx nS td.toNatClampNeg bS ++ [])) [(cf, .object "TowerAppeal$Stage")] A s H locs := St
    refine lv_aload_n hx hb dX7_startNext_20 rfl (lv_at hl 1 rfl) ?_
    refine lv_dup hx hb dX7_startNext_21 rfl ?_
    refine ct_get F St 0 rfl rfl inX7 2 (by decide) kf_X7_21 rfl dX7_startNext_22 ?_
    refine lv_iconst (v := 1) hx hb dX7_startNext_25 (by decide) ?_
    refine lv_iadd hx hb dX7_startNext_26 ?_
    refine lv_topi (fun y_19 ey_19 => ?_)
    first | have jy_19 : y_19.toInt = td.toInt + 1 := (by have q9 := ci_add (x := td) (y := 1) rfl (show (1 : Int32).toInt = 1 by decide) ey_19; omega) | have jy_19 := ci_add (x := td) (y := 1) rfl (show (1 : Int32).toInt = 1 by decide) ey_19
    refine ct_put F St 0 rfl rfl inX7 tyX7_ok nmX7 2 (by decide) kf_X7_21 rfl rfl rfl (Nat.le_of_ble_eq_true rfl) (w' := [(h, .inr (7, [.ref b, .int tn, .int y_19])), (b, .inl (cf, 8, .inr (.inr (.inr (.inr fs))))), (h_7, .inr (4, [.int s0_8, .int s1_9, .int 1, .int s3_11, .int s4_12, .int s5_13]))]) rfl dX7_startNext_27 (fun H locs St => ?_)
    refine lv_aload_n hx hb dX7_startNext_30 rfl (lv_at hl 1 rfl) ?_
    refine ct_get F St 0 rfl rfl inX7 2 (by decide) kf_X7_21 rfl dX7_startNext_31 ?_
    refine lv_iconst (v := 1) hx hb dX7_startNext_34 (by decide) ?_
    refine lv_isub hx hb dX7_startNext_35 ?_
    refine lv_topi (fun y_20 ey_20 => ?_)
    first | have jy_20 : y_20.toInt = y_19.toInt - 1 := (by have q9 := ci_sub (x := y_19) (y := 1) rfl (show (1 : Int32).toInt = 1 by decide) ey_20; omega) | have jy_20 := ci_sub (x := y_19) (y := 1) rfl (show (1 : Int32).toInt = 1 by decide) ey_20
    have St : cS G k ([(h, .inr (7, [.ref b, .int tn, .int y_19])), (b, .inl (cf, 8, .inr (.inr (.inr (.inr fs))))), (h_7, .inr (4, [.int s0_8, .int s1_9, .int 1, .int s3_11, .int s4_12, .int s5_13]))] ++ (PWx nS td.toNatClampNeg bS ++ [])) [(cf, .object "TowerAppeal$Stage")] A s H locs := ct_pick St [0, 1, 2] rfl (by decide) [0] rfl
    have St := cs_push (cs := [(h, .inr (7, [.ref b, .int tn, .int y_19])), (b, .inl (cf, 8, .inr (.inr (.inr (.inr fs)))))]) (b := [(h_7, .inr (4, [.int s0_8, .int s1_9, .int 1, .int s3_11, .int s4_12, .int s5_13]))]) (rs := []) St hj_16
    obtain ⟨B_21, eB_21⟩ : ∃ zz : Nat → va_W, zz = setB bS td.toNatClampNeg [(h_7, .inr (4, [.int s0_8, .int s1_9, .int 1, .int s3_11, .int s4_12, .int s5_13]))] := ⟨_, rfl⟩
    rw [← eB_21] at St
    have hB_22 : ∀ i, i < nS → okS (fs i) (B_21 i) := by rw [eB_21]; exact ok_set (P := fun i b => okS (fs i) b) hT ⟨h_7, s0_8, s1_9, 1, s3_11, s4_12, s5_13, q_14, rfl⟩
    have St : cS G k ([(h, .inr (7, [.ref b, .int tn, .int y_19])), (b, .inl (cf, 8, .inr (.inr (.inr (.inr fs)))))] ++ (PW nS B_21 ++ [])) [(cf, .object "TowerAppeal$Stage")] A s H locs := St
    have St : cS G k ([(h, .inr (7, [.ref b, .int tn, .int y_19])), (b, .inl (cf, 8, .inr (.inr (.inr (.inr fs)))))] ++ (PW nS B_21 ++ [])) [(cf, .object "TowerAppeal$Stage")] A s _ _ := ct_pick St [0, 1] rfl (by decide) [0] rfl
    exact cs_iret F hr hlk hQ St (y_19, B_21) (r := y_20) ⟨by omega, hB_22⟩ (List.range _) (ix_all (w := ([(h, .inr (7, [.ref b, .int tn, .int y_19])), (b, .inl (cf, 8, .inr (.inr (.inr (.inr fs)))))] ++ (PW nS B_21 ++ [])))) nd_C [] rfl (by decide) (by decide) dX7_startNext_36
set_option maxHeartbeats 4000000 in
set_option maxRecDepth 100000 in
theorem x7_payPart (l : Launch) (G : va_G) (k : Nat → Nat) (sz : Nat) (h : Nat) (b : Nat) (cf : ClassId) (tn : Int32) (td : Int32) (fs : Nat → Option Nat) (nS : Nat) (bS : Nat → va_W) (pu : Nat) (p0 : Int64) (p1 : Int64) (p2 : Int64) (p3 : Int64) (p4 : Int64) (p5 : Int64) (x : Int32) (hnS : (nS : Int) = tn.toInt) (hn8 : nS ≤ 8) (hT : ∀ i, i < nS → okS (fs i) (bS i)) (htd : 0 ≤ td.toInt ∧ td.toInt ≤ tn.toInt) : Met l yX7_payPart (Cond.code yX7_payPart cX7_payPart 5 none :: tb) ({ frames := 2, cells := 0, slots := 0, locals := 49 } : Room) (va_Pc [.ref h, .ref pu, .int x] (cP G k ([(h, .inr (7, [.ref b, .int tn, .int td])), (b, .inl (cf, 8, .inr (.inr (.inr (.inr fs))))), (pu, .inr (3, [.long p0, .long p1, .long p2, .long p3, .long p4, .long p5]))] ++ (PW nS bS ++ [])) [(cf, .object "TowerAppeal$Stage")] sz)) (va_Qv (fun (u : Int64 × Int64 × Int64 × Int64 × Int64 × Int64 × (Nat → va_W)) => match u with | (q0, q1, q2, q3, q4, q5, bS2) => (∀ i, i < nS → okS (fs i) (bS2 i))) (cB G (fun u => match u with | (q0, q1, q2, q3, q4, q5, bS2) => ([(h, .inr (7, [.ref b, .int tn, .int td])), (b, .inl (cf, 8, .inr (.inr (.inr (.inr fs))))), (pu, .inr (3, [.long q0, .long q1, .long q2, .long q3, .long q4, .long q5]))] ++ (PW nS bS2 ++ []))) (fun u => match u with | (q0, q1, q2, q3, q4, q5, bS2) => []) (va_A ([(h, .inr (7, [.ref b, .int tn, .int td])), (b, .inl (cf, 8, .inr (.inr (.inr (.inr fs))))), (pu, .inr (3, [.long p0, .long p1, .long p2, .long p3, .long p4, .long p5]))] ++ (PW nS bS ++ [])) sz)) (va_A ([(h, .inr (7, [.ref b, .int tn, .int td])), (b, .inl (cf, 8, .inr (.inr (.inr (.inr fs))))), (pu, .inr (3, [.long p0, .long p1, .long p2, .long p3, .long p4, .long p5]))] ++ (PW nS bS ++ [])) sz)) 0 0 (va_A ([(h, .inr (7, [.ref b, .int tn, .int td])), (b, .inl (cf, 8, .inr (.inr (.inr (.inr fs))))), (pu, .inr (3, [.long p0, .long p1, .long p2, .long p3, .long p4, .long p5]))] ++ (PW nS bS ++ [])) sz) := by
  refine ofC_v (cc := cX7_payPart) (maxL := 5) (ret := none) (by decide) rfl (Nat.le_of_ble_eq_true rfl) ?_
  intro p e s m args below meth c A ls Q F hr hin hlk St hl hQ
  have hx := F.1
  have hb := F.2.1
  have hl : lv_has ls 5 [(0, .ref h), (1, .ref pu), (2, .int x)] := hl
  have St : cS G k ([(h, .inr (7, [.ref b, .int tn, .int td])), (b, .inl (cf, 8, .inr (.inr (.inr (.inr fs))))), (pu, .inr (3, [.long p0, .long p1, .long p2, .long p3, .long p4, .long p5]))] ++ (PW nS bS ++ [])) [(cf, .object "TowerAppeal$Stage")] A s s.heap [] := St
  have y0 : (0 : Int32).toInt = 0 := by decide
  skip
  refine lv_aload_n hx hb dX7_payPart_0 rfl (lv_at hl 0 rfl) ?_
  have St : cS G k (([(h, .inr (7, [.ref b, .int tn, .int td])), (b, .inl (cf, 8, .inr (.inr (.inr (.inr fs)))))] ++ (PW nS bS ++ [])) ++ [(pu, .inr (3, [.long p0, .long p1, .long p2, .long p3, .long p4, .long p5]))]) [(cf, .object "TowerAppeal$Stage")] A s _ _ := sg_two (sg := [[(h, .inr (7, [.ref b, .int tn, .int td]))], [(b, .inl (cf, 8, .inr (.inr (.inr (.inr fs)))))], [(pu, .inr (3, [.long p0, .long p1, .long p2, .long p3, .long p4, .long p5]))], PW nS bS]) (s1 := [[(h, .inr (7, [.ref b, .int tn, .int td]))], [(b, .inl (cf, 8, .inr (.inr (.inr (.inr fs)))))], PW nS bS]) (s2 := [[(pu, .inr (3, [.long p0, .long p1, .long p2, .long p3, .long p4, .long p5]))]]) St 4 rfl [0, 1, 3, 2] rfl (by decide +kernel)
  refine cs_qT (wc := ([(h, .inr (7, [.ref b, .int tn, .int td])), (b, .inl (cf, 8, .inr (.inr (.inr (.inr fs)))))] ++ (PW nS bS ++ []))) (wr := [(pu, .inr (3, [.long p0, .long p1, .long p2, .long p3, .long p4, .long p5]))]) St (va_runV (As := []) (rest := []) F (x7_running l G k _ h b cf tn td fs nS bS (by first | assumption | omega) (by first | assumption | omega) hT (by first | assumption | omega)) (cwVt F mf_X7_running km_X7_32 rfl rfl ⟨Nat.le_of_ble_eq_true rfl, Nat.le_of_ble_eq_true rfl⟩) (cs_preVT St [0] rfl (ci := 7) (q0 := 0) rfl rfl) rfl rfl hl.1 rfl (lv_room (Nat.le_of_ble_eq_true rfl)) dX7_payPart_1 ⟨Nat.le_of_ble_eq_true rfl, Nat.le_of_ble_eq_true rfl⟩) (fun r_1 u_2 H locs hw St => ?_)
  obtain ⟨bS2_3, rfl⟩ : ∃ z, z = u_2 := ⟨_, rfl⟩
  try dsimp only at hw
  have St : cS G k ([(pu, .inr (3, [.long p0, .long p1, .long p2, .long p3, .long p4, .long p5])), (h, .inr (7, [.ref b, .int tn, .int td])), (b, .inl (cf, 8, .inr (.inr (.inr (.inr fs)))))] ++ (PW nS bS2_3 ++ [])) [(cf, .object "TowerAppeal$Stage")] A s H locs := sg_join (s1 := [[(pu, .inr (3, [.long p0, .long p1, .long p2, .long p3, .long p4, .long p5]))]]) (s2 := [[(h, .inr (7, [.ref b, .int tn, .int td]))], [(b, .inl (cf, 8, .inr (.inr (.inr (.inr fs)))))], PW nS bS2_3]) (s3 := [[(pu, .inr (3, [.long p0, .long p1, .long p2, .long p3, .long p4, .long p5]))], [(h, .inr (7, [.ref b, .int tn, .int td]))], [(b, .inl (cf, 8, .inr (.inr (.inr (.inr fs)))))], PW nS bS2_3]) St 4 rfl [0, 1, 2, 3] rfl (by decide +kernel)
  rcases hw with ⟨z_4, hT2_5⟩ | ⟨hq_6, hT2_7⟩
  ·
    subst r_1
    have St : cS G k ([(pu, .inr (3, [.long p0, .long p1, .long p2, .long p3, .long p4, .long p5])), (h, .inr (7, [.ref b, .int tn, .int td])), (b, .inl (cf, 8, .inr (.inr (.inr (.inr fs)))))] ++ (PW nS bS2_3 ++ [])) [(cf, .object "TowerAppeal$Stage")] A s H locs := St
    show W _ _ _ _ _ _ _ _ _ _ _ _ _ _ _ (F0 m 4 ls [.null])
    refine lv_astore_nN (lv' := [(3, .null), (0, .ref h), (1, .ref pu), (2, .int x)]) hx hb dX7_payPart_4 rfl hl (by decide) rfl (fun ls hl => ?_)
    refine lv_aload_nN hx hb dX7_payPart_5 rfl (lv_at hl 0 rfl) ?_
    refine lv_ifnonnullN hx hb dX7_payPart_6 ?_
    have St : cS G k ([(h, .inr (7, [.ref b, .int tn, .int td])), (b, .inl (cf, 8, .inr (.inr (.inr (.inr fs))))), (pu, .inr (3, [.long p0, .long p1, .long p2, .long p3, .long p4, .long p5]))] ++ (PW nS bS2_3 ++ [])) [(cf, .object "TowerAppeal$Stage")] A s _ _ := ct_pick St [1, 2, 0] rfl (by decide) [0] rfl
    exact cs_vret F hr hlk hQ St (p0, p1, p2, p3, p4, p5, bS2_3) hT2_5 (List.range _) (ix_all (w := ([(h, .inr (7, [.ref b, .int tn, .int td])), (b, .inl (cf, 8, .inr (.inr (.inr (.inr fs))))), (pu, .inr (3, [.long p0, .long p1, .long p2, .long p3, .long p4, .long p5]))] ++ (PW nS bS2_3 ++ [])))) nd_C [] rfl (by decide) (by decide) dX7_payPart_9
  ·
    have St : cS G k ([(pu, .inr (3, [.long p0, .long p1, .long p2, .long p3, .long p4, .long p5])), (h, .inr (7, [.ref b, .int tn, .int td])), (b, .inl (cf, 8, .inr (.inr (.inr (.inr fs)))))] ++ (PW nS bS2_3 ++ [])) [(cf, .object "TowerAppeal$Stage")] A s H locs := St
    obtain ⟨j_8, hj_9, hz_10⟩ := hq_6
    obtain ⟨h_11, s0_12, s1_13, s2_14, s3_15, s4_16, s5_17, q_18, q_19⟩ := (hT2_7 _ hj_9)
    have hj_20 := hj_9
    have St : cS G k ([(pu, .inr (3, [.long p0, .long p1, .long p2, .long p3, .long p4, .long p5])), (h, .inr (7, [.ref b, .int tn, .int td])), (b, .inl (cf, 8, .inr (.inr (.inr (.inr fs))))), (h_11, .inr (4, [.int s0_12, .int s1_13, .int s2_14, .int s3_15, .int s4_16, .int s5_17]))] ++ (PWx nS j_8 bS2_3 ++ [])) [(cf, .object "TowerAppeal$Stage")] A s H locs := cs_pull (cs := [(pu, .inr (3, [.long p0, .long p1, .long p2, .long p3, .long p4, .long p5])), (h, .inr (7, [.ref b, .int tn, .int td])), (b, .inl (cf, 8, .inr (.inr (.inr (.inr fs)))))]) (rs := []) (b := [(h_11, .inr (4, [.int s0_12, .int s1_13, .int s2_14, .int s3_15, .int s4_16, .int s5_17]))]) St hj_20 q_19
    obtain rfl : r_1 = some h_11 := hz_10.trans q_18
    show W _ _ _ _ _ _ _ _ _ _ _ _ _ _ _ (F0 m 4 ls [.ref h_11])
    refine lv_astore_n (lv' := [(3, .ref h_11), (0, .ref h), (1, .ref pu), (2, .int x)]) hx hb dX7_payPart_4 rfl hl (by decide) rfl (fun ls hl => ?_)
    refine lv_aload_n hx hb dX7_payPart_5 rfl (lv_at hl 0 rfl) ?_
    refine lv_ifnonnull (tgt := 10) hx hb dX7_payPart_6 (by decide) ?_
    refine lv_aload_n hx hb dX7_payPart_10 rfl (lv_at hl 0 rfl) ?_
    refine ct_i St [3] [0, 1, 2] (wc := [(h_11, .inr (4, [.int s0_12, .int s1_13, .int s2_14, .int s3_15, .int s4_16, .int s5_17]))]) (wr := [(pu, .inr (3, [.long p0, .long p1, .long p2, .long p3, .long p4, .long p5])), (h, .inr (7, [.ref b, .int tn, .int td])), (b, .inl (cf, 8, .inr (.inr (.inr (.inr fs)))))]) rfl rfl (by decide) (by decide) (va_runV (As := []) (rest := []) F (x4_nextPart l G k _ h_11 s0_12 s1_13 s2_14 s3_15 s4_16 s5_17) (cwVt F mf_X4_nextPart km_X7_39 rfl rfl ⟨Nat.le_of_ble_eq_true rfl, Nat.le_of_ble_eq_true rfl⟩) (ct_preV St [3] rfl (by decide) [] rfl (ci := 4) (q0 := 3) rfl rfl) rfl rfl hl.1 rfl (lv_room (Nat.le_of_ble_eq_true rfl)) dX7_payPart_11 ⟨Nat.le_of_ble_eq_true rfl, Nat.le_of_ble_eq_true rfl⟩) (fun r_21 u_22 H locs hw St => ?_)
    try dsimp only at hw
    have St : cS G k ([(pu, .inr (3, [.long p0, .long p1, .long p2, .long p3, .long p4, .long p5])), (h, .inr (7, [.ref b, .int tn, .int td])), (b, .inl (cf, 8, .inr (.inr (.inr (.inr fs))))), (h_11, .inr (4, [.int s0_12, .int s1_13, .int s2_14, .int s3_15, .int s4_16, .int s5_17]))] ++ (PWx nS j_8 bS2_3 ++ [])) [(cf, .object "TowerAppeal$Stage")] A s H locs := St
    refine lv_istore (lv' := [(4, .int r_21), (3, .ref h_11), (0, .ref h), (1, .ref pu), (2, .int x)]) hx hb dX7_payPart_14 hl (by decide) rfl (fun ls hl => ?_)
    refine lv_aload_n hx hb dX7_payPart_16 rfl (lv_at hl 3 rfl) ?_
    refine lv_iload hx hb dX7_payPart_17 (lv_at hl 0 rfl) ?_
    refine lv_iload_n hx hb dX7_payPart_19 rfl (lv_at hl 4 rfl) ?_
    refine ct_i St [0] [1, 2, 3] (wc := [(pu, .inr (3, [.long p0, .long p1, .long p2, .long p3, .long p4, .long p5]))]) (wr := [(h, .inr (7, [.ref b, .int tn, .int td])), (b, .inl (cf, 8, .inr (.inr (.inr (.inr fs))))), (h_11, .inr (4, [.int s0_12, .int s1_13, .int s2_14, .int s3_15, .int s4_16, .int s5_17]))]) rfl rfl (by decide) (by decide) (va_runV (As := [.int r_21, .int x]) (rest := []) F (x3_paysPart l G k _ pu p0 p1 p2 p3 p4 p5 r_21 x) (cwVt F mf_X3_paysPart km_X7_43 rfl rfl ⟨Nat.le_of_ble_eq_true rfl, Nat.le_of_ble_eq_true rfl⟩) (ct_preV St [0] rfl (by decide) [] rfl (ci := 3) (q0 := 0) rfl rfl) rfl rfl hl.1 rfl (lv_room (Nat.le_of_ble_eq_true rfl)) dX7_payPart_20 ⟨Nat.le_of_ble_eq_true rfl, Nat.le_of_ble_eq_true rfl⟩) (fun r_23 u_24 H locs hw St => ?_)
    obtain ⟨q0_25, q1_26, q2_27, q3_28, q4_29, q5_30⟩ := u_24
    try dsimp only at hw
    rcases hw with z_31 | z_32
    ·
      subst r_23
      have St : cS G k ([(h, .inr (7, [.ref b, .int tn, .int td])), (b, .inl (cf, 8, .inr (.inr (.inr (.inr fs))))), (h_11, .inr (4, [.int s0_12, .int s1_13, .int s2_14, .int s3_15, .int s4_16, .int s5_17])), (pu, .inr (3, [.long q0_25, .long q1_26, .long q2_27, .long q3_28, .long q4_29, .long q5_30]))] ++ (PWx nS j_8 bS2_3 ++ [])) [(cf, .object "TowerAppeal$Stage")] A s H locs := St
      refine lv_if_eq (tgt := 35) hx hb dX7_payPart_23 (by decide) (fun c23 => ?_) (fun c23 => ?_)
      · exact absurd c23 (by decide)
      refine lv_aload_n hx hb dX7_payPart_26 rfl (lv_at hl 1 rfl) ?_
      refine lv_iload hx hb dX7_payPart_27 (lv_at hl 0 rfl) ?_
      refine ct_v St [2] [0, 1, 3] (wc := [(h_11, .inr (4, [.int s0_12, .int s1_13, .int s2_14, .int s3_15, .int s4_16, .int s5_17]))]) (wr := [(h, .inr (7, [.ref b, .int tn, .int td])), (b, .inl (cf, 8, .inr (.inr (.inr (.inr fs))))), (pu, .inr (3, [.long q0_25, .long q1_26, .long q2_27, .long q3_28, .long q4_29, .long q5_30]))]) rfl rfl (by decide) (by decide) (va_runV (As := [.int r_21]) (rest := []) F (x4_bookPart l G k _ h_11 s0_12 s1_13 s2_14 s3_15 s4_16 s5_17 r_21) (cwVt F mf_X4_bookPart km_X7_49 rfl rfl ⟨Nat.le_of_ble_eq_true rfl, Nat.le_of_ble_eq_true rfl⟩) (ct_preV St [2] rfl (by decide) [] rfl (ci := 4) (q0 := 2) rfl rfl) rfl rfl hl.1 rfl (lv_room (Nat.le_of_ble_eq_true rfl)) dX7_payPart_29 ⟨Nat.le_of_ble_eq_true rfl, Nat.le_of_ble_eq_true rfl⟩) (fun u_34 H locs hw St => ?_)
      obtain ⟨z2_35, z3_36, z4_37⟩ := u_34
      try dsimp only at hw
      have St : cS G k ([(h, .inr (7, [.ref b, .int tn, .int td])), (b, .inl (cf, 8, .inr (.inr (.inr (.inr fs))))), (pu, .inr (3, [.long q0_25, .long q1_26, .long q2_27, .long q3_28, .long q4_29, .long q5_30])), (h_11, .inr (4, [.int s0_12, .int s1_13, .int z2_35, .int z3_36, .int z4_37, .int s5_17]))] ++ (PWx nS j_8 bS2_3 ++ [])) [(cf, .object "TowerAppeal$Stage")] A s H locs := St
      refine lv_goto (tgt := 39) hx hb dX7_payPart_32 (by decide) ?_
      have St : cS G k ([(h, .inr (7, [.ref b, .int tn, .int td])), (b, .inl (cf, 8, .inr (.inr (.inr (.inr fs))))), (pu, .inr (3, [.long q0_25, .long q1_26, .long q2_27, .long q3_28, .long q4_29, .long q5_30])), (h_11, .inr (4, [.int s0_12, .int s1_13, .int z2_35, .int z3_36, .int z4_37, .int s5_17]))] ++ (PWx nS j_8 bS2_3 ++ [])) [(cf, .object "TowerAppeal$Stage")] A s H locs := ct_pick St [0, 1, 2, 3] rfl (by decide) [0] rfl
      have St := cs_push (cs := [(h, .inr (7, [.ref b, .int tn, .int td])), (b, .inl (cf, 8, .inr (.inr (.inr (.inr fs))))), (pu, .inr (3, [.long q0_25, .long q1_26, .long q2_27, .long q3_28, .long q4_29, .long q5_30]))]) (b := [(h_11, .inr (4, [.int s0_12, .int s1_13, .int z2_35, .int z3_36, .int z4_37, .int s5_17]))]) (rs := []) St hj_20
      obtain ⟨B_38, eB_38⟩ : ∃ zz : Nat → va_W, zz = setB bS2_3 j_8 [(h_11, .inr (4, [.int s0_12, .int s1_13, .int z2_35, .int z3_36, .int z4_37, .int s5_17]))] := ⟨_, rfl⟩
      rw [← eB_38] at St
      have hB_39 : ∀ i, i < nS → okS (fs i) (B_38 i) := by rw [eB_38]; exact ok_set (P := fun i b => okS (fs i) b) hT2_7 ⟨h_11, s0_12, s1_13, z2_35, z3_36, z4_37, s5_17, q_18, rfl⟩
      have St : cS G k ([(h, .inr (7, [.ref b, .int tn, .int td])), (b, .inl (cf, 8, .inr (.inr (.inr (.inr fs))))), (pu, .inr (3, [.long q0_25, .long q1_26, .long q2_27, .long q3_28, .long q4_29, .long q5_30]))] ++ (PW nS B_38 ++ [])) [(cf, .object "TowerAppeal$Stage")] A s H locs := St
      have St : cS G k ([(h, .inr (7, [.ref b, .int tn, .int td])), (b, .inl (cf, 8, .inr (.inr (.inr (.inr fs))))), (pu, .inr (3, [.long q0_25, .long q1_26, .long q2_27, .long q3_28, .long q4_29, .long q5_30]))] ++ (PW nS B_38 ++ [])) [(cf, .object "TowerAppeal$Stage")] A s _ _ := ct_pick St [0, 1, 2] rfl (by decide) [0] rfl
      exact cs_vret F hr hlk hQ St (q0_25, q1_26, q2_27, q3_28, q4_29, q5_30, B_38) hB_39 (List.range _) (ix_all (w := ([(h, .inr (7, [.ref b, .int tn, .int td])), (b, .inl (cf, 8, .inr (.inr (.inr (.inr fs))))), (pu, .inr (3, [.long q0_25, .long q1_26, .long q2_27, .long q3_28, .long q4_29, .long q5_30]))] ++ (PW nS B_38 ++ [])))) nd_C [] rfl (by decide) (by decide) dX7_payPart_39
    ·
      subst r_23
      have St : cS G k ([(h, .inr (7, [.ref b, .int tn, .int td])), (b, .inl (cf, 8, .inr (.inr (.inr (.inr fs))))), (h_11, .inr (4, [.int s0_12, .int s1_13, .int s2_14, .int s3_15, .int s4_16, .int s5_17])), (pu, .inr (3, [.long q0_25, .long q1_26, .long q2_27, .long q3_28, .long q4_29, .long q5_30]))] ++ (PWx nS j_8 bS2_3 ++ [])) [(cf, .object "TowerAppeal$Stage")] A s H locs := St
      refine lv_if_eq (tgt := 35) hx hb dX7_payPart_23 (by decide) (fun c23 => ?_) (fun c23 => ?_)
      rotate_left
      · exact absurd (by decide) c23
      refine lv_aload_n hx hb dX7_payPart_35 rfl (lv_at hl 1 rfl) ?_
      refine ct_v St [2] [0, 1, 3] (wc := [(h_11, .inr (4, [.int s0_12, .int s1_13, .int s2_14, .int s3_15, .int s4_16, .int s5_17]))]) (wr := [(h, .inr (7, [.ref b, .int tn, .int td])), (b, .inl (cf, 8, .inr (.inr (.inr (.inr fs))))), (pu, .inr (3, [.long q0_25, .long q1_26, .long q2_27, .long q3_28, .long q4_29, .long q5_30]))]) rfl rfl (by decide) (by decide) (va_runV (As := []) (rest := []) F (x4_bookPause l G k _ h_11 s0_12 s1_13 s2_14 s3_15 s4_16 s5_17) (cwVt F mf_X4_bookPause km_X7_53 rfl rfl ⟨Nat.le_of_ble_eq_true rfl, Nat.le_of_ble_eq_true rfl⟩) (ct_preV St [2] rfl (by decide) [] rfl (ci := 4) (q0 := 2) rfl rfl) rfl rfl hl.1 rfl (lv_room (Nat.le_of_ble_eq_true rfl)) dX7_payPart_36 ⟨Nat.le_of_ble_eq_true rfl, Nat.le_of_ble_eq_true rfl⟩) (fun u_41 H locs hw St => ?_)
      obtain ⟨z5_42, rfl⟩ : ∃ z, z = u_41 := ⟨_, rfl⟩
      try dsimp only at hw
      have St : cS G k ([(h, .inr (7, [.ref b, .int tn, .int td])), (b, .inl (cf, 8, .inr (.inr (.inr (.inr fs))))), (pu, .inr (3, [.long q0_25, .long q1_26, .long q2_27, .long q3_28, .long q4_29, .long q5_30])), (h_11, .inr (4, [.int s0_12, .int s1_13, .int s2_14, .int s3_15, .int s4_16, .int z5_42]))] ++ (PWx nS j_8 bS2_3 ++ [])) [(cf, .object "TowerAppeal$Stage")] A s H locs := St
      have St : cS G k ([(h, .inr (7, [.ref b, .int tn, .int td])), (b, .inl (cf, 8, .inr (.inr (.inr (.inr fs))))), (pu, .inr (3, [.long q0_25, .long q1_26, .long q2_27, .long q3_28, .long q4_29, .long q5_30])), (h_11, .inr (4, [.int s0_12, .int s1_13, .int s2_14, .int s3_15, .int s4_16, .int z5_42]))] ++ (PWx nS j_8 bS2_3 ++ [])) [(cf, .object "TowerAppeal$Stage")] A s H locs := ct_pick St [0, 1, 2, 3] rfl (by decide) [0] rfl
      have St := cs_push (cs := [(h, .inr (7, [.ref b, .int tn, .int td])), (b, .inl (cf, 8, .inr (.inr (.inr (.inr fs))))), (pu, .inr (3, [.long q0_25, .long q1_26, .long q2_27, .long q3_28, .long q4_29, .long q5_30]))]) (b := [(h_11, .inr (4, [.int s0_12, .int s1_13, .int s2_14, .int s3_15, .int s4_16, .int z5_42]))]) (rs := []) St hj_20
      obtain ⟨B_43, eB_43⟩ : ∃ zz : Nat → va_W, zz = setB bS2_3 j_8 [(h_11, .inr (4, [.int s0_12, .int s1_13, .int s2_14, .int s3_15, .int s4_16, .int z5_42]))] := ⟨_, rfl⟩
      rw [← eB_43] at St
      have hB_44 : ∀ i, i < nS → okS (fs i) (B_43 i) := by rw [eB_43]; exact ok_set (P := fun i b => okS (fs i) b) hT2_7 ⟨h_11, s0_12, s1_13, s2_14, s3_15, s4_16, z5_42, q_18, rfl⟩
      have St : cS G k ([(h, .inr (7, [.ref b, .int tn, .int td])), (b, .inl (cf, 8, .inr (.inr (.inr (.inr fs))))), (pu, .inr (3, [.long q0_25, .long q1_26, .long q2_27, .long q3_28, .long q4_29, .long q5_30]))] ++ (PW nS B_43 ++ [])) [(cf, .object "TowerAppeal$Stage")] A s H locs := St
      have St : cS G k ([(h, .inr (7, [.ref b, .int tn, .int td])), (b, .inl (cf, 8, .inr (.inr (.inr (.inr fs))))), (pu, .inr (3, [.long q0_25, .long q1_26, .long q2_27, .long q3_28, .long q4_29, .long q5_30]))] ++ (PW nS B_43 ++ [])) [(cf, .object "TowerAppeal$Stage")] A s _ _ := ct_pick St [0, 1, 2] rfl (by decide) [0] rfl
      exact cs_vret F hr hlk hQ St (q0_25, q1_26, q2_27, q3_28, q4_29, q5_30, B_43) hB_44 (List.range _) (ix_all (w := ([(h, .inr (7, [.ref b, .int tn, .int td])), (b, .inl (cf, 8, .inr (.inr (.inr (.inr fs))))), (pu, .inr (3, [.long q0_25, .long q1_26, .long q2_27, .long q3_28, .long q4_29, .long q5_30]))] ++ (PW nS B_43 ++ [])))) nd_C [] rfl (by decide) (by decide) dX7_payPart_39
set_option maxHeartbeats 4000000 in
set_option maxRecDepth 100000 in
theorem x2_add (l : Launch) (G : va_G) (k : Nat → Nat) (sz : Nat) (h : Nat) (b : Nat) (ce : ClassId) (bn : Int32) (fa : Nat → Option Nat) (pv : Nat) (o0 : Nat) (o1 : Nat) (o2 : Nat) (pg : Int32) (pf : Int32) (pe : Int32) (pz : Int32) (pp : Int32) (pa : Int32) (pl : Int32) (pk : Int32) (pb : Int32) (hb0 : 0 ≤ bn.toInt) (hb1 : bn.toInt < 60) : Met l yX2_add (Cond.code yX2_add cX2_add 2 (some .int) :: tb) ({ frames := 0, cells := 0, slots := 0, locals := 0 } : Room) (va_Pc [.ref h, .ref pv] (cP G k [(h, .inr (2, [.ref b, .int bn])), (b, .inl (ce, 60, .inr (.inr (.inr (.inr fa))))), (pv, .inr (1, [.int pg, .int pf, .int pe, .int pz, .ref o0, .ref o1, .ref o2, .int pp, .int pa, .int pl, .int pk, .int pb]))] [(ce, .object "TowerAppeal$Pledge")] sz)) (va_Qi (fun (r : Int32) (u : Int32 × (Nat → Option Nat)) => match u with | (bn2, fa2) => (r = bn) ∧ (bn2.toInt = bn.toInt + 1) ∧ (fa2 = va_up fa bn.toNatClampNeg (some pv))) (cB G (fun u => match u with | (bn2, fa2) => [(h, .inr (2, [.ref b, .int bn2])), (b, .inl (ce, 60, .inr (.inr (.inr (.inr fa2))))), (pv, .inr (1, [.int pg, .int pf, .int pe, .int pz, .ref o0, .ref o1, .ref o2, .int pp, .int pa, .int pl, .int pk, .int pb]))]) (fun u => match u with | (bn2, fa2) => []) (va_A [(h, .inr (2, [.ref b, .int bn])), (b, .inl (ce, 60, .inr (.inr (.inr (.inr fa))))), (pv, .inr (1, [.int pg, .int pf, .int pe, .int pz, .ref o0, .ref o1, .ref o2, .int pp, .int pa, .int pl, .int pk, .int pb]))] sz)) (va_A [(h, .inr (2, [.ref b, .int bn])), (b, .inl (ce, 60, .inr (.inr (.inr (.inr fa))))), (pv, .inr (1, [.int pg, .int pf, .int pe, .int pz, .ref o0, .ref o1, .ref o2, .int pp, .int pa, .int pl, .int pk, .int pb]))] sz)) 0 0 (va_A [(h, .inr (2, [.ref b, .int bn])), (b, .inl (ce, 60, .inr (.inr (.inr (.inr fa))))), (pv, .inr (1, [.int pg, .int pf, .int pe, .int pz, .ref o0, .ref o1, .ref o2, .int pp, .int pa, .int pl, .int pk, .int pb]))] sz) := by
  refine ofC_i (cc := cX2_add) (maxL := 2) (ret := (some .int)) (by decide) rfl (Nat.le_of_ble_eq_true rfl) ?_
  intro p e s m args below meth c A ls Q F hr hin hlk St hl hQ
  have hx := F.1
  have hb := F.2.1
  have hl : lv_has ls 2 [(0, .ref h), (1, .ref pv)] := hl
  have St : cS G k [(h, .inr (2, [.ref b, .int bn])), (b, .inl (ce, 60, .inr (.inr (.inr (.inr fa))))), (pv, .inr (1, [.int pg, .int pf, .int pe, .int pz, .ref o0, .ref o1, .ref o2, .int pp, .int pa, .int pl, .int pk, .int pb]))] [(ce, .object "TowerAppeal$Pledge")] A s s.heap [] := St
  refine lv_aload_n hx hb dX2_add_0 rfl (lv_at hl 0 rfl) ?_
  refine cs_get F St 0 rfl rfl inX2 1 (by decide) kf_X2_17 rfl dX2_add_1 ?_
  refine lv_if_lt (tgt := 16) hx hb dX2_add_4 (by decide) (fun c4 => ?_) (fun c4 => ?_)
  · have i4 := ci_lt (x := bn) (y := 0) rfl (show (0 : Int32).toInt = 0 by decide) c4; exact False.elim (by omega)
  have i4 := ci_nlt (x := bn) (y := 0) rfl (show (0 : Int32).toInt = 0 by decide) c4
  refine lv_aload_n hx hb dX2_add_7 rfl (lv_at hl 0 rfl) ?_
  refine cs_get F St 0 rfl rfl inX2 1 (by decide) kf_X2_17 rfl dX2_add_8 ?_
  refine lv_bipush (v := 60) hx hb dX2_add_11 (by decide) ?_
  refine lv_icmp_lt (tgt := 19) hx hb dX2_add_13 (by decide) (fun c13 => ?_) (fun c13 => ?_)
  rotate_left
  · have i13 := ci_nlt (x := bn) (y := 60) rfl (show (60 : Int32).toInt = 60 by decide) c13; exact False.elim (by omega)
  have i13 := ci_lt (x := bn) (y := 60) rfl (show (60 : Int32).toInt = 60 by decide) c13
  refine lv_aload_n hx hb dX2_add_19 rfl (lv_at hl 0 rfl) ?_
  refine cs_get F St 0 rfl rfl inX2 0 (by decide) kf_X2_11 rfl dX2_add_20 ?_
  refine lv_aload_n hx hb dX2_add_23 rfl (lv_at hl 0 rfl) ?_
  refine cs_get F St 0 rfl rfl inX2 1 (by decide) kf_X2_17 rfl dX2_add_24 ?_
  refine lv_aload_n hx hb dX2_add_27 rfl (lv_at hl 1 rfl) ?_
  refine cs_astq F St 1 0 2 1 rfl rfl rfl rfl (vp_in_iff.mpr ⟨by omega, by omega⟩) (w' := [(h, .inr (2, [.ref b, .int bn])), (b, .inl (ce, 60, .inr (.inr (.inr (.inr (va_up fa (bn : Int32).toNatClampNeg (some pv))))))), (pv, .inr (1, [.int pg, .int pf, .int pe, .int pz, .ref o0, .ref o1, .ref o2, .int pp, .int pa, .int pl, .int pk, .int pb]))]) rfl dX2_add_28 (fun H locs St => ?_)
  refine lv_aload_n hx hb dX2_add_29 rfl (lv_at hl 0 rfl) ?_
  refine lv_dup hx hb dX2_add_30 rfl ?_
  refine cs_get F St 0 rfl rfl inX2 1 (by decide) kf_X2_17 rfl dX2_add_31 ?_
  refine lv_iconst (v := 1) hx hb dX2_add_34 (by decide) ?_
  refine lv_iadd hx hb dX2_add_35 ?_
  refine lv_topi (fun y_1 ey_1 => ?_)
  first | have jy_1 : y_1.toInt = bn.toInt + 1 := (by have q9 := ci_add (x := bn) (y := 1) rfl (show (1 : Int32).toInt = 1 by decide) ey_1; omega) | have jy_1 := ci_add (x := bn) (y := 1) rfl (show (1 : Int32).toInt = 1 by decide) ey_1
  refine cs_put F St 0 rfl rfl inX2 tyX2_ok nmX2 1 (by decide) kf_X2_17 rfl rfl rfl (Nat.le_of_ble_eq_true rfl) (w' := [(h, .inr (2, [.ref b, .int y_1])), (b, .inl (ce, 60, .inr (.inr (.inr (.inr (va_up fa (bn : Int32).toNatClampNeg (some pv))))))), (pv, .inr (1, [.int pg, .int pf, .int pe, .int pz, .ref o0, .ref o1, .ref o2, .int pp, .int pa, .int pl, .int pk, .int pb]))]) rfl dX2_add_36 (fun H locs St => ?_)
  refine lv_aload_n hx hb dX2_add_39 rfl (lv_at hl 0 rfl) ?_
  refine cs_get F St 0 rfl rfl inX2 1 (by decide) kf_X2_17 rfl dX2_add_40 ?_
  refine lv_iconst (v := 1) hx hb dX2_add_43 (by decide) ?_
  refine lv_isub hx hb dX2_add_44 ?_
  refine lv_topi (fun y_2 ey_2 => ?_)
  first | have jy_2 : y_2.toInt = y_1.toInt - 1 := (by have q9 := ci_sub (x := y_1) (y := 1) rfl (show (1 : Int32).toInt = 1 by decide) ey_2; omega) | have jy_2 := ci_sub (x := y_1) (y := 1) rfl (show (1 : Int32).toInt = 1 by decide) ey_2
  exact cs_iret F hr hlk hQ St (y_1, va_up fa (bn : Int32).toNatClampNeg (some pv)) (r := y_2) ⟨Int32.toInt_inj.mp (by omega), by omega, rfl⟩ [0, 1, 2] rfl (by decide) [] rfl (by decide) (by decide) dX2_add_45
set_option maxHeartbeats 4000000 in
set_option maxRecDepth 100000 in
theorem x7_add (l : Launch) (G : va_G) (k : Nat → Nat) (sz : Nat) (h : Nat) (b : Nat) (cf : ClassId) (tn : Int32) (td : Int32) (fs : Nat → Option Nat) (pv : Nat) (s0 : Int32) (s1 : Int32) (s2 : Int32) (s3 : Int32) (s4 : Int32) (s5 : Int32) (hb0 : 0 ≤ tn.toInt) (hb1 : tn.toInt < 8) : Met l yX7_add (Cond.code yX7_add cX7_add 2 (some .int) :: tb) ({ frames := 0, cells := 0, slots := 0, locals := 0 } : Room) (va_Pc [.ref h, .ref pv] (cP G k [(h, .inr (7, [.ref b, .int tn, .int td])), (b, .inl (cf, 8, .inr (.inr (.inr (.inr fs))))), (pv, .inr (4, [.int s0, .int s1, .int s2, .int s3, .int s4, .int s5]))] [(cf, .object "TowerAppeal$Stage")] sz)) (va_Qi (fun (r : Int32) (u : Int32 × (Nat → Option Nat)) => match u with | (tn2, fs2) => (r = tn) ∧ (tn2.toInt = tn.toInt + 1) ∧ (fs2 = va_up fs tn.toNatClampNeg (some pv))) (cB G (fun u => match u with | (tn2, fs2) => [(h, .inr (7, [.ref b, .int tn2, .int td])), (b, .inl (cf, 8, .inr (.inr (.inr (.inr fs2))))), (pv, .inr (4, [.int s0, .int s1, .int s2, .int s3, .int s4, .int s5]))]) (fun u => match u with | (tn2, fs2) => []) (va_A [(h, .inr (7, [.ref b, .int tn, .int td])), (b, .inl (cf, 8, .inr (.inr (.inr (.inr fs))))), (pv, .inr (4, [.int s0, .int s1, .int s2, .int s3, .int s4, .int s5]))] sz)) (va_A [(h, .inr (7, [.ref b, .int tn, .int td])), (b, .inl (cf, 8, .inr (.inr (.inr (.inr fs))))), (pv, .inr (4, [.int s0, .int s1, .int s2, .int s3, .int s4, .int s5]))] sz)) 0 0 (va_A [(h, .inr (7, [.ref b, .int tn, .int td])), (b, .inl (cf, 8, .inr (.inr (.inr (.inr fs))))), (pv, .inr (4, [.int s0, .int s1, .int s2, .int s3, .int s4, .int s5]))] sz) := by
  refine ofC_i (cc := cX7_add) (maxL := 2) (ret := (some .int)) (by decide) rfl (Nat.le_of_ble_eq_true rfl) ?_
  intro p e s m args below meth c A ls Q F hr hin hlk St hl hQ
  have hx := F.1
  have hb := F.2.1
  have hl : lv_has ls 2 [(0, .ref h), (1, .ref pv)] := hl
  have St : cS G k [(h, .inr (7, [.ref b, .int tn, .int td])), (b, .inl (cf, 8, .inr (.inr (.inr (.inr fs))))), (pv, .inr (4, [.int s0, .int s1, .int s2, .int s3, .int s4, .int s5]))] [(cf, .object "TowerAppeal$Stage")] A s s.heap [] := St
  refine lv_aload_n hx hb dX7_add_0 rfl (lv_at hl 0 rfl) ?_
  refine cs_get F St 0 rfl rfl inX7 1 (by decide) kf_X7_17 rfl dX7_add_1 ?_
  refine lv_if_lt (tgt := 16) hx hb dX7_add_4 (by decide) (fun c4 => ?_) (fun c4 => ?_)
  · have i4 := ci_lt (x := tn) (y := 0) rfl (show (0 : Int32).toInt = 0 by decide) c4; exact False.elim (by omega)
  have i4 := ci_nlt (x := tn) (y := 0) rfl (show (0 : Int32).toInt = 0 by decide) c4
  refine lv_aload_n hx hb dX7_add_7 rfl (lv_at hl 0 rfl) ?_
  refine cs_get F St 0 rfl rfl inX7 1 (by decide) kf_X7_17 rfl dX7_add_8 ?_
  refine lv_bipush (v := 8) hx hb dX7_add_11 (by decide) ?_
  refine lv_icmp_lt (tgt := 19) hx hb dX7_add_13 (by decide) (fun c13 => ?_) (fun c13 => ?_)
  rotate_left
  · have i13 := ci_nlt (x := tn) (y := 8) rfl (show (8 : Int32).toInt = 8 by decide) c13; exact False.elim (by omega)
  have i13 := ci_lt (x := tn) (y := 8) rfl (show (8 : Int32).toInt = 8 by decide) c13
  refine lv_aload_n hx hb dX7_add_19 rfl (lv_at hl 0 rfl) ?_
  refine cs_get F St 0 rfl rfl inX7 0 (by decide) kf_X7_11 rfl dX7_add_20 ?_
  refine lv_aload_n hx hb dX7_add_23 rfl (lv_at hl 0 rfl) ?_
  refine cs_get F St 0 rfl rfl inX7 1 (by decide) kf_X7_17 rfl dX7_add_24 ?_
  refine lv_aload_n hx hb dX7_add_27 rfl (lv_at hl 1 rfl) ?_
  refine cs_astq F St 1 0 2 4 rfl rfl rfl rfl (vp_in_iff.mpr ⟨by omega, by omega⟩) (w' := [(h, .inr (7, [.ref b, .int tn, .int td])), (b, .inl (cf, 8, .inr (.inr (.inr (.inr (va_up fs (tn : Int32).toNatClampNeg (some pv))))))), (pv, .inr (4, [.int s0, .int s1, .int s2, .int s3, .int s4, .int s5]))]) rfl dX7_add_28 (fun H locs St => ?_)
  refine lv_aload_n hx hb dX7_add_29 rfl (lv_at hl 0 rfl) ?_
  refine lv_dup hx hb dX7_add_30 rfl ?_
  refine cs_get F St 0 rfl rfl inX7 1 (by decide) kf_X7_17 rfl dX7_add_31 ?_
  refine lv_iconst (v := 1) hx hb dX7_add_34 (by decide) ?_
  refine lv_iadd hx hb dX7_add_35 ?_
  refine lv_topi (fun y_1 ey_1 => ?_)
  first | have jy_1 : y_1.toInt = tn.toInt + 1 := (by have q9 := ci_add (x := tn) (y := 1) rfl (show (1 : Int32).toInt = 1 by decide) ey_1; omega) | have jy_1 := ci_add (x := tn) (y := 1) rfl (show (1 : Int32).toInt = 1 by decide) ey_1
  refine cs_put F St 0 rfl rfl inX7 tyX7_ok nmX7 1 (by decide) kf_X7_17 rfl rfl rfl (Nat.le_of_ble_eq_true rfl) (w' := [(h, .inr (7, [.ref b, .int y_1, .int td])), (b, .inl (cf, 8, .inr (.inr (.inr (.inr (va_up fs (tn : Int32).toNatClampNeg (some pv))))))), (pv, .inr (4, [.int s0, .int s1, .int s2, .int s3, .int s4, .int s5]))]) rfl dX7_add_36 (fun H locs St => ?_)
  refine lv_aload_n hx hb dX7_add_39 rfl (lv_at hl 0 rfl) ?_
  refine cs_get F St 0 rfl rfl inX7 1 (by decide) kf_X7_17 rfl dX7_add_40 ?_
  refine lv_iconst (v := 1) hx hb dX7_add_43 (by decide) ?_
  refine lv_isub hx hb dX7_add_44 ?_
  refine lv_topi (fun y_2 ey_2 => ?_)
  first | have jy_2 : y_2.toInt = y_1.toInt - 1 := (by have q9 := ci_sub (x := y_1) (y := 1) rfl (show (1 : Int32).toInt = 1 by decide) ey_2; omega) | have jy_2 := ci_sub (x := y_1) (y := 1) rfl (show (1 : Int32).toInt = 1 by decide) ey_2
  exact cs_iret F hr hlk hQ St (y_1, va_up fs (tn : Int32).toNatClampNeg (some pv)) (r := y_2) ⟨Int32.toInt_inj.mp (by omega), by omega, rfl⟩ [0, 1, 2] rfl (by decide) [] rfl (by decide) (by decide) dX7_add_45
set_option maxHeartbeats 4000000 in
set_option maxRecDepth 100000 in
theorem x1_init (l : Launch) (G : va_G) (k : Nat → Nat) (sz : Nat) (h : Nat) (ci : ClassId) (x1 : Int32) (x2 : Int32) (x3 : Int32) (x4 : Int32) (x5 : Int32) : Met l yX1_init (Cond.code yX1_init cX1_init 7 none :: tb) ({ frames := 1, cells := 3, slots := 252, locals := 24 } : Room) (va_Pc [.ref h, .int x1, .int x2, .int x3, .int x4, .int x5] (cP G k [(h, .inr (1, [.int 0, .int 0, .int 0, .int 0, .null, .null, .null, .int 0, .int 0, .int 0, .int 0, .int 0]))] [(ci, .int)] sz)) (va_Qv (fun (u : Int32 × Nat × Nat × Nat × Nat × (Nat → Int32) × (Nat → Int32) × (Nat → Int32)) => match u with | (sz0, o0, o1, o2, NN, w0, w1, w2) => ((NN : Int) = sz0.toInt) ∧ (NN ≤ 84)) (cB G (fun u => match u with | (sz0, o0, o1, o2, NN, w0, w1, w2) => [(h, .inr (1, [.int x1, .int x3, .int x4, .int sz0, .ref o0, .ref o1, .ref o2, .int x2, .int 0, .int 0, .int 0, .int (-1)])), (o0, .inl (ci, NN, .inl w0)), (o1, .inl (ci, NN, .inl w1)), (o2, .inl (ci, NN, .inl w2))]) (fun u => match u with | (sz0, o0, o1, o2, NN, w0, w1, w2) => []) (va_A [(h, .inr (1, [.int 0, .int 0, .int 0, .int 0, .null, .null, .null, .int 0, .int 0, .int 0, .int 0, .int 0]))] sz)) (va_A [(h, .inr (1, [.int 0, .int 0, .int 0, .int 0, .null, .null, .null, .int 0, .int 0, .int 0, .int 0, .int 0]))] sz)) 3 252 (va_A [(h, .inr (1, [.int 0, .int 0, .int 0, .int 0, .null, .null, .null, .int 0, .int 0, .int 0, .int 0, .int 0]))] sz) := by
  refine ofC_v (cc := cX1_init) (maxL := 7) (ret := none) (by decide) rfl (Nat.le_of_ble_eq_true rfl) ?_
  intro p e s m args below meth c A ls Q F hr hin hlk St hl hQ
  have hx := F.1
  have hb := F.2.1
  have hl : lv_has ls 7 [(0, .ref h), (1, .int x1), (2, .int x2), (3, .int x3), (4, .int x4), (5, .int x5)] := hl
  have St : cS G k [(h, .inr (1, [.int 0, .int 0, .int 0, .int 0, .null, .null, .null, .int 0, .int 0, .int 0, .int 0, .int 0]))] [(ci, .int)] A s s.heap [] := St
  refine lv_aload_n hx hb dX1_init_0 rfl (lv_at hl 0 rfl) ?_
  refine W.objInit hx hb F.2.2.2.1 (F.2.2.2.2 _ km_X1_3) (F.2.2.2.2 _ kj_objectInit) (F.2.2.2.2 _ kd_objectInit) rfl (by rw [F.2.2.1]; exact hl.1) rfl dX1_init_1 (Nat.le_of_ble_eq_true rfl) (Nat.le_of_ble_eq_true rfl) ?_
  refine W.eq (g2 := F0 m 4 ls []) rfl ?_
  refine lv_aload_n hx hb dX1_init_4 rfl (lv_at hl 0 rfl) ?_
  refine lv_iconst (v := (-1)) hx hb dX1_init_5 (by decide) ?_
  refine cs_put F St 0 rfl rfl inX1 tyX1_ok nmX1 11 (by decide) kf_X1_9 rfl rfl rfl (Nat.le_of_ble_eq_true rfl) (w' := [(h, .inr (1, [.int 0, .int 0, .int 0, .int 0, .null, .null, .null, .int 0, .int 0, .int 0, .int 0, .int (-1)]))]) rfl dX1_init_6 (fun H locs St => ?_)
  refine lv_aload_n hx hb dX1_init_9 rfl (lv_at hl 0 rfl) ?_
  refine lv_iload_n hx hb dX1_init_10 rfl (lv_at hl 1 rfl) ?_
  refine cs_putF F hin St 0 rfl rfl inX1 tyX1_ok nmX1 0 (by decide) kf_X1_15 rfl rfl rfl rfl (Nat.le_of_ble_eq_true rfl) (w' := [(h, .inr (1, [.int x1, .int 0, .int 0, .int 0, .null, .null, .null, .int 0, .int 0, .int 0, .int 0, .int (-1)]))]) rfl dX1_init_11 (fun H locs St => ?_)
  refine lv_aload_n hx hb dX1_init_14 rfl (lv_at hl 0 rfl) ?_
  refine lv_iload_n hx hb dX1_init_15 rfl (lv_at hl 3 rfl) ?_
  refine cs_putF F hin St 0 rfl rfl inX1 tyX1_ok nmX1 1 (by decide) kf_X1_18 rfl rfl rfl rfl (Nat.le_of_ble_eq_true rfl) (w' := [(h, .inr (1, [.int x1, .int x3, .int 0, .int 0, .null, .null, .null, .int 0, .int 0, .int 0, .int 0, .int (-1)]))]) rfl dX1_init_16 (fun H locs St => ?_)
  refine lv_aload_n hx hb dX1_init_19 rfl (lv_at hl 0 rfl) ?_
  refine lv_iload hx hb dX1_init_20 (lv_at hl 4 rfl) ?_
  refine cs_putF F hin St 0 rfl rfl inX1 tyX1_ok nmX1 2 (by decide) kf_X1_21 rfl rfl rfl rfl (Nat.le_of_ble_eq_true rfl) (w' := [(h, .inr (1, [.int x1, .int x3, .int x4, .int 0, .null, .null, .null, .int 0, .int 0, .int 0, .int 0, .int (-1)]))]) rfl dX1_init_22 (fun H locs St => ?_)
  refine lv_aload_n hx hb dX1_init_25 rfl (lv_at hl 0 rfl) ?_
  refine lv_iload_n hx hb dX1_init_26 rfl (lv_at hl 3 rfl) ?_
  refine lv_iload hx hb dX1_init_27 (lv_at hl 4 rfl) ?_
  refine lv_iload hx hb dX1_init_29 (lv_at hl 5 rfl) ?_
  refine cs_i St [] [0] (wc := []) (wr := [(h, .inr (1, [.int x1, .int x3, .int x4, .int 0, .null, .null, .null, .int 0, .int 0, .int 0, .int 0, .int (-1)]))]) rfl rfl (by decide) (by decide) (va_runS (As := [.int x3, .int x4, .int x5]) (rest := [.ref h]) F (x1_dues l G k _ x3 x4 x5) (cwSt F mf_X1_duesThatCome km_X1_24 rfl rfl ⟨Nat.le_of_ble_eq_true rfl, Nat.le_of_ble_eq_true rfl⟩) (cs_pre St [] rfl (by decide) [] rfl) rfl rfl hl.1 rfl (lv_room (Nat.le_of_ble_eq_true rfl)) dX1_init_31 ⟨Nat.le_of_ble_eq_true rfl, Nat.le_of_ble_eq_true rfl⟩) (fun r_1 u_2 H locs hw St => ?_)
  try dsimp only at hw
  have hf_3 := hw
  have St : cS G k [(h, .inr (1, [.int x1, .int x3, .int x4, .int 0, .null, .null, .null, .int 0, .int 0, .int 0, .int 0, .int (-1)]))] [(ci, .int)] A s H locs := St
  refine cs_putF F hin St 0 rfl rfl inX1 tyX1_ok nmX1 3 (by decide) kf_X1_28 rfl rfl rfl rfl (Nat.le_of_ble_eq_true rfl) (w' := [(h, .inr (1, [.int x1, .int x3, .int x4, .int r_1, .null, .null, .null, .int 0, .int 0, .int 0, .int 0, .int (-1)]))]) rfl dX1_init_34 (fun H locs St => ?_)
  refine lv_aload_n hx hb dX1_init_37 rfl (lv_at hl 0 rfl) ?_
  refine lv_aload_n hx hb dX1_init_38 rfl (lv_at hl 0 rfl) ?_
  refine cs_get F St 0 rfl rfl inX1 3 (by decide) kf_X1_28 rfl dX1_init_39 ?_
  obtain ⟨N0, hN0, hN1, hneg⟩ := nc_ex (x := r_1) (by omega)
  refine cs_newa F St (atype := .int) ka_int rfl (N' := N0) (a0 := (N0, .inl (fun _ => 0))) (fun _ => rfl) hneg hN0 (by show N0 * 4 ≤ 536870912; omega) (Nat.le_of_ble_eq_true rfl) (show 0 + N0 ≤ 252 by omega) dX1_init_42 (fun q_4 d_5 H St => ?_)
  refine W.widen (k := 1) (n := 84) (by decide) (by omega) ?_
  have St : cS G k [(h, .inr (1, [.int x1, .int x3, .int x4, .int r_1, .null, .null, .null, .int 0, .int 0, .int 0, .int 0, .int (-1)])), (q_4, .inl (d_5, N0, .inl (fun _ => 0)))] [(ci, .int), (d_5, .int)] A s _ _ := St
  obtain rfl : ci = d_5 := cs_one St 0 1 rfl rfl
  have St : cS G k [(h, .inr (1, [.int x1, .int x3, .int x4, .int r_1, .null, .null, .null, .int 0, .int 0, .int 0, .int 0, .int (-1)])), (q_4, .inl (ci, N0, .inl (fun _ => 0)))] [(ci, .int), (ci, .int)] A s _ _ := St
  refine cs_putF F hin St 0 rfl rfl inX1 tyX1_ok nmX1 4 (by decide) kf_X1_31 rfl rfl rfl rfl (Nat.le_of_ble_eq_true rfl) (w' := [(h, .inr (1, [.int x1, .int x3, .int x4, .int r_1, .ref q_4, .null, .null, .int 0, .int 0, .int 0, .int 0, .int (-1)])), (q_4, .inl (ci, N0, .inl (fun _ => 0)))]) rfl dX1_init_44 (fun H locs St => ?_)
  refine lv_aload_n hx hb dX1_init_47 rfl (lv_at hl 0 rfl) ?_
  refine lv_aload_n hx hb dX1_init_48 rfl (lv_at hl 0 rfl) ?_
  refine cs_get F St 0 rfl rfl inX1 3 (by decide) kf_X1_28 rfl dX1_init_49 ?_
  refine cs_newa F St (atype := .int) ka_int rfl (N' := N0) (a0 := (N0, .inl (fun _ => 0))) (fun _ => rfl) hneg hN0 (by show N0 * 4 ≤ 536870912; omega) (Nat.le_of_ble_eq_true rfl) (show 84 + N0 ≤ 252 by omega) dX1_init_52 (fun q_6 d_7 H St => ?_)
  refine W.widen (k := 2) (n := 168) (by decide) (by omega) ?_
  have St : cS G k [(h, .inr (1, [.int x1, .int x3, .int x4, .int r_1, .ref q_4, .null, .null, .int 0, .int 0, .int 0, .int 0, .int (-1)])), (q_4, .inl (ci, N0, .inl (fun _ => 0))), (q_6, .inl (d_7, N0, .inl (fun _ => 0)))] [(ci, .int), (ci, .int), (d_7, .int)] A s _ _ := St
  obtain rfl : ci = d_7 := cs_one St 0 2 rfl rfl
  have St : cS G k [(h, .inr (1, [.int x1, .int x3, .int x4, .int r_1, .ref q_4, .null, .null, .int 0, .int 0, .int 0, .int 0, .int (-1)])), (q_4, .inl (ci, N0, .inl (fun _ => 0))), (q_6, .inl (ci, N0, .inl (fun _ => 0)))] [(ci, .int), (ci, .int), (ci, .int)] A s _ _ := St
  refine cs_putF F hin St 0 rfl rfl inX1 tyX1_ok nmX1 5 (by decide) kf_X1_35 rfl rfl rfl rfl (Nat.le_of_ble_eq_true rfl) (w' := [(h, .inr (1, [.int x1, .int x3, .int x4, .int r_1, .ref q_4, .ref q_6, .null, .int 0, .int 0, .int 0, .int 0, .int (-1)])), (q_4, .inl (ci, N0, .inl (fun _ => 0))), (q_6, .inl (ci, N0, .inl (fun _ => 0)))]) rfl dX1_init_54 (fun H locs St => ?_)
  refine lv_aload_n hx hb dX1_init_57 rfl (lv_at hl 0 rfl) ?_
  refine lv_aload_n hx hb dX1_init_58 rfl (lv_at hl 0 rfl) ?_
  refine cs_get F St 0 rfl rfl inX1 3 (by decide) kf_X1_28 rfl dX1_init_59 ?_
  refine cs_newa F St (atype := .int) ka_int rfl (N' := N0) (a0 := (N0, .inl (fun _ => 0))) (fun _ => rfl) hneg hN0 (by show N0 * 4 ≤ 536870912; omega) (Nat.le_of_ble_eq_true rfl) (show 168 + N0 ≤ 252 by omega) dX1_init_62 (fun q_8 d_9 H St => ?_)
  refine W.widen (k := 3) (n := 252) (by decide) (by omega) ?_
  have St : cS G k [(h, .inr (1, [.int x1, .int x3, .int x4, .int r_1, .ref q_4, .ref q_6, .null, .int 0, .int 0, .int 0, .int 0, .int (-1)])), (q_4, .inl (ci, N0, .inl (fun _ => 0))), (q_6, .inl (ci, N0, .inl (fun _ => 0))), (q_8, .inl (d_9, N0, .inl (fun _ => 0)))] [(ci, .int), (ci, .int), (ci, .int), (d_9, .int)] A s _ _ := St
  obtain rfl : ci = d_9 := cs_one St 0 3 rfl rfl
  have St : cS G k [(h, .inr (1, [.int x1, .int x3, .int x4, .int r_1, .ref q_4, .ref q_6, .null, .int 0, .int 0, .int 0, .int 0, .int (-1)])), (q_4, .inl (ci, N0, .inl (fun _ => 0))), (q_6, .inl (ci, N0, .inl (fun _ => 0))), (q_8, .inl (ci, N0, .inl (fun _ => 0)))] [(ci, .int), (ci, .int), (ci, .int), (ci, .int)] A s _ _ := St
  refine cs_putF F hin St 0 rfl rfl inX1 tyX1_ok nmX1 6 (by decide) kf_X1_38 rfl rfl rfl rfl (Nat.le_of_ble_eq_true rfl) (w' := [(h, .inr (1, [.int x1, .int x3, .int x4, .int r_1, .ref q_4, .ref q_6, .ref q_8, .int 0, .int 0, .int 0, .int 0, .int (-1)])), (q_4, .inl (ci, N0, .inl (fun _ => 0))), (q_6, .inl (ci, N0, .inl (fun _ => 0))), (q_8, .inl (ci, N0, .inl (fun _ => 0)))]) rfl dX1_init_64 (fun H locs St => ?_)
  refine lv_aload_n hx hb dX1_init_67 rfl (lv_at hl 0 rfl) ?_
  refine lv_iload_n hx hb dX1_init_68 rfl (lv_at hl 2 rfl) ?_
  refine cs_put F St 0 rfl rfl inX1 tyX1_ok nmX1 7 (by decide) kf_X1_41 rfl rfl rfl (Nat.le_of_ble_eq_true rfl) (w' := [(h, .inr (1, [.int x1, .int x3, .int x4, .int r_1, .ref q_4, .ref q_6, .ref q_8, .int x2, .int 0, .int 0, .int 0, .int (-1)])), (q_4, .inl (ci, N0, .inl (fun _ => 0))), (q_6, .inl (ci, N0, .inl (fun _ => 0))), (q_8, .inl (ci, N0, .inl (fun _ => 0)))]) rfl dX1_init_69 (fun H locs St => ?_)
  refine lv_iconst (v := 0) hx hb dX1_init_72 (by decide) ?_
  refine lv_istore (lv' := [(6, .int 0), (0, .ref h), (1, .int x1), (2, .int x2), (3, .int x3), (4, .int x4), (5, .int x5)]) hx hb dX1_init_73 hl (by decide) rfl (fun ls hl => ?_)
  have lp75 : ∀ (n : Nat) (i : Int32) (fo : Nat → Int32) (H : Heap) (locs : List Loc) (ls : Array Slot), (0 ≤ i.toInt ∧ i.toInt ≤ N0) → ((85 - i.toInt).toNat) < n → cS G k [(h, .inr (1, [.int x1, .int x3, .int x4, .int r_1, .ref q_4, .ref q_6, .ref q_8, .int x2, .int 0, .int 0, .int 0, .int (-1)])), (q_4, .inl (ci, N0, .inl fo)), (q_6, .inl (ci, N0, .inl (fun _ => 0))), (q_8, .inl (ci, N0, .inl (fun _ => 0)))] [(ci, .int), (ci, .int), (ci, .int), (ci, .int)] A s H locs → lv_has ls 7 [(6, .int i), (0, .ref h), (1, .int x1), (2, .int x2), (3, .int x3), (4, .int x4), (5, .int x5)] → W p l e ({ frames := 1, cells := 3, slots := 252, locals := 24 } : Room) s m args below meth c H locs 3 252 Q (F0 m 75 ls []) := by
    intro n
    induction n with
    | zero => intro i fo H locs ls hI hn; exact absurd hn (Nat.not_lt_zero _)
    | succ n ih =>
      intro i fo H locs ls hI hn St hl
      obtain ⟨hI0, hI1⟩ := hI
      refine lv_iload hx hb dX1_init_75 (lv_at hl 0 rfl) ?_
      refine lv_aload_n hx hb dX1_init_77 rfl (lv_at hl 1 rfl) ?_
      refine cs_get F St 0 rfl rfl inX1 3 (by decide) kf_X1_28 rfl dX1_init_78 ?_
      refine lv_icmp_ge (tgt := 98) hx hb dX1_init_81 (by decide) (fun c81 => ?_) (fun c81 => ?_)
      ·
        have i81 := ci_le (x := r_1) (y := i) rfl rfl c81
        exact cs_vret F hr hlk hQ St (r_1, q_4, q_6, q_8, N0, fo, fun _ => 0, fun _ => 0) ⟨hN1, by omega⟩ [0, 1, 2, 3] rfl (by decide) [] rfl (by decide) (by decide) dX1_init_98
      ·
        have i81 := ci_nle (x := r_1) (y := i) rfl rfl c81
        refine lv_aload_n hx hb dX1_init_84 rfl (lv_at hl 1 rfl) ?_
        refine cs_get F St 0 rfl rfl inX1 4 (by decide) kf_X1_31 rfl dX1_init_85 ?_
        refine lv_iload hx hb dX1_init_88 (lv_at hl 0 rfl) ?_
        refine lv_iload_n hx hb dX1_init_90 rfl (lv_at hl 3 rfl) ?_
        refine cs_ist F St 1 0 rfl rfl (vp_in_iff.mpr ⟨by omega, by omega⟩) (w' := [(h, .inr (1, [.int x1, .int x3, .int x4, .int r_1, .ref q_4, .ref q_6, .ref q_8, .int x2, .int 0, .int 0, .int 0, .int (-1)])), (q_4, .inl (ci, N0, .inl (upd fo (i : Int32).toNatClampNeg x2))), (q_6, .inl (ci, N0, .inl (fun _ => 0))), (q_8, .inl (ci, N0, .inl (fun _ => 0)))]) rfl dX1_init_91 (fun H locs St => ?_)
        obtain ⟨f_10, ef_10⟩ : ∃ zz : Nat → Int32, zz = upd fo (i : Int32).toNatClampNeg x2 := ⟨_, rfl⟩
        rw [← ef_10] at St
        obtain ⟨y_11, ey_11⟩ : ∃ zz : Int32, zz = i + 1 := ⟨_, rfl⟩
        first | have jy_11 : y_11.toInt = i.toInt + 1 := (by have q9 := ci_add (x := i) rfl (show (1 : Int32).toInt = 1 by decide) ey_11; omega) | have jy_11 := ci_add (x := i) rfl (show (1 : Int32).toInt = 1 by decide) ey_11
        refine lv_iinc (v := y_11) (lv' := [(6, .int y_11), (0, .ref h), (1, .int x1), (2, .int x2), (3, .int x3), (4, .int x4), (5, .int x5)]) hx hb dX1_init_92 hl (k := 0) rfl (by rw [ey_11]; rfl) (by decide) rfl (fun ls hl => ?_)
        refine lv_goto (tgt := 75) hx hb dX1_init_95 (by decide) ?_
        exact ih y_11 f_10 _ _ _ ⟨by omega, by omega⟩ (by omega) St (lv_sub hl [0, 1, 2, 3, 4, 5, 6] rfl)
  exact lp75 86 0 (fun _ => 0) _ _ _ ⟨by decide, by rw [show (0 : Int32).toInt = 0 from by decide]; omega⟩ (by decide) St (lv_sub hl [0, 1, 2, 3, 4, 5, 6] rfl)

