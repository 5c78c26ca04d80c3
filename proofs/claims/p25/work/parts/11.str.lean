set_option maxHeartbeats 4000000 in
set_option maxRecDepth 100000 in
theorem cJ_coder (l : Launch) (G : va_G) (k : Nat → Nat) (sz : Nat) (i : Nat) (hi : i < 8) : Met l yJ0_coder_7d493 (Cond.code yJ0_coder_7d493 cJ0_coder_7d493 1 (some .byte) :: tb) ({ frames := 0, cells := 0, slots := 0, locals := 0 } : Room) (va_Pc [.ref (k (10 + i))] (cP G k [] [] sz)) (va_Qi (fun (r : Int32) (_ : Unit) => (r = 0)) (cB G (fun (_ : Unit) => []) (fun (_ : Unit) => []) (va_A [] sz)) (va_A [] sz)) 0 0 (va_A [] sz) := by
  refine ofC_i (cc := cJ0_coder_7d493) (maxL := 1) (ret := (some .byte)) (by decide) rfl (Nat.le_of_ble_eq_true rfl) ?_
  intro p e s m args below meth c A ls Q F hr hin hlk St hl hQ
  have hx := F.1
  have hb := F.2.1
  have hl : lv_has ls 1 [(0, .ref (k (10 + i)))] := hl
  have St : cS G k [] [] A s s.heap [] := St
  refine va_gets hx hb (St.2.2.2.2.2.2.2.2.2.2.2.2.2.2.2.2.2.2.2.2.1) St.toS F.2.2.2.1 (F.2.2.2.2 _ kf_J0_38) (fun _ h => h) dJ0_coder_7d493_0 ?_
  refine lv_if_eq (tgt := 13) hx hb dJ0_coder_7d493_3 (by decide) (fun c3 => ?_) (fun c3 => ?_)
  · exact absurd c3 (by decide)
  refine lv_aload_n hx hb dJ0_coder_7d493_6 rfl (lv_at hl 0 rfl) ?_
  refine vk_getf hx hb ((St.2.2.2.2.2.2.2.2.2.2.2.2.2.2.2.2.2.2.2.2.2.2 i hi).2.1) St.toS F.2.2.2.1 (F.2.2.2.2 _ kf_J0_15) (fun _ h => h) dJ0_coder_7d493_7 ?_
  refine lv_goto (tgt := 14) hx hb dJ0_coder_7d493_10 (by decide) ?_
  exact cs_zret F hr hlk hQ St () (r := 0) rfl rfl [] rfl (by decide) [] rfl (by decide) (by decide) dJ0_coder_7d493_14
set_option maxHeartbeats 4000000 in
set_option maxRecDepth 100000 in
theorem cJ_length (l : Launch) (G : va_G) (k : Nat → Nat) (sz : Nat) (i : Nat) (hi : i < 8) : Met l yJ0_length_8abf5 (Cond.code yJ0_length_8abf5 cJ0_length_8abf5 1 (some .int) :: tb) ({ frames := 1, cells := 0, slots := 0, locals := 20 } : Room) (va_Pc [.ref (k (10 + i))] (cP G k [] [] sz)) (va_Qi (fun (r : Int32) (_ : Unit) => (r = nI (sLen i))) (cB G (fun (_ : Unit) => []) (fun (_ : Unit) => []) (va_A [] sz)) (va_A [] sz)) 0 0 (va_A [] sz) := by
  refine ofC_i (cc := cJ0_length_8abf5) (maxL := 1) (ret := (some .int)) (by decide) rfl (Nat.le_of_ble_eq_true rfl) ?_
  intro p e s m args below meth c A ls Q F hr hin hlk St hl hQ
  have hx := F.1
  have hb := F.2.1
  have hl : lv_has ls 1 [(0, .ref (k (10 + i)))] := hl
  have St : cS G k [] [] A s s.heap [] := St
  refine lv_aload_n hx hb dJ0_length_8abf5_0 rfl (lv_at hl 0 rfl) ?_
  refine vk_getf hx hb ((St.2.2.2.2.2.2.2.2.2.2.2.2.2.2.2.2.2.2.2.2.2.2 i hi).2.2.1) St.toS F.2.2.2.1 (F.2.2.2.2 _ kf_J0_9) (fun _ h => h) dJ0_length_8abf5_1 ?_
  refine va_tlen hx hb ((St.2.2.2.2.2.2.2.2.2.2.2.2.2.2.2.2.2.2.2.2.2.2 i hi).2.2.2) St.toS (v := nI (sLen i)) rfl dJ0_length_8abf5_4 ?_
  refine lv_aload_n hx hb dJ0_length_8abf5_5 rfl (lv_at hl 0 rfl) ?_
  refine cs_i St [] [] (wc := []) (wr := []) rfl rfl (by decide) (by decide) (va_runV (As := []) (rest := [.int (nI (sLen i))]) F (cJ_coder l G k _ i (by first | assumption | decide)) (cwVt F mf_J0_coder_7d493 km_J0_335 rfl rfl ⟨Nat.le_of_ble_eq_true rfl, Nat.le_of_ble_eq_true rfl⟩) (cs_preVS St hi [] rfl) rfl rfl hl.1 rfl (lv_room (Nat.le_of_ble_eq_true rfl)) dJ0_length_8abf5_6 ⟨Nat.le_of_ble_eq_true rfl, Nat.le_of_ble_eq_true rfl⟩) (fun r_1 u_2 H locs hw St => ?_)
  try dsimp only at hw
  have z_3 := hw
  subst r_1
  have St : cS G k [] [] A s H locs := St
  refine lv_ishr hx hb dJ0_length_8abf5_9 ?_
  refine lv_topi (fun y_4 ey_4 => ?_)
  exact cs_iret F hr hlk hQ St () (r := y_4) (ey_4.trans (sc_shr0 (sL_lt hi))) [] rfl (by decide) [] rfl (by decide) (by decide) dJ0_length_8abf5_10
set_option maxHeartbeats 4000000 in
set_option maxRecDepth 100000 in
theorem cJ_isLatin1 (l : Launch) (G : va_G) (k : Nat → Nat) (sz : Nat) (i : Nat) (hi : i < 8) : Met l yJ0_isLatin1_aae02 (Cond.code yJ0_isLatin1_aae02 cJ0_isLatin1_aae02 1 (some .boolean) :: tb) ({ frames := 0, cells := 0, slots := 0, locals := 0 } : Room) (va_Pc [.ref (k (10 + i))] (cP G k [] [] sz)) (va_Qi (fun (r : Int32) (_ : Unit) => (r = 1)) (cB G (fun (_ : Unit) => []) (fun (_ : Unit) => []) (va_A [] sz)) (va_A [] sz)) 0 0 (va_A [] sz) := by
  refine ofC_i (cc := cJ0_isLatin1_aae02) (maxL := 1) (ret := (some .boolean)) (by decide) rfl (Nat.le_of_ble_eq_true rfl) ?_
  intro p e s m args below meth c A ls Q F hr hin hlk St hl hQ
  have hx := F.1
  have hb := F.2.1
  have hl : lv_has ls 1 [(0, .ref (k (10 + i)))] := hl
  have St : cS G k [] [] A s s.heap [] := St
  refine va_gets hx hb (St.2.2.2.2.2.2.2.2.2.2.2.2.2.2.2.2.2.2.2.2.1) St.toS F.2.2.2.1 (F.2.2.2.2 _ kf_J0_38) (fun _ h => h) dJ0_isLatin1_aae02_0 ?_
  refine lv_if_eq (tgt := 17) hx hb dJ0_isLatin1_aae02_3 (by decide) (fun c3 => ?_) (fun c3 => ?_)
  · exact absurd c3 (by decide)
  refine lv_aload_n hx hb dJ0_isLatin1_aae02_6 rfl (lv_at hl 0 rfl) ?_
  refine vk_getf hx hb ((St.2.2.2.2.2.2.2.2.2.2.2.2.2.2.2.2.2.2.2.2.2.2 i hi).2.1) St.toS F.2.2.2.1 (F.2.2.2.2 _ kf_J0_15) (fun _ h => h) dJ0_isLatin1_aae02_7 ?_
  refine lv_if_ne (tgt := 17) hx hb dJ0_isLatin1_aae02_10 (by decide) (fun c10 => ?_) (fun c10 => ?_)
  · exact absurd c10 (by decide)
  refine lv_iconst (v := 1) hx hb dJ0_isLatin1_aae02_13 (by decide) ?_
  refine lv_goto (tgt := 18) hx hb dJ0_isLatin1_aae02_14 (by decide) ?_
  exact cs_zret F hr hlk hQ St () (r := 1) rfl rfl [] rfl (by decide) [] rfl (by decide) (by decide) dJ0_isLatin1_aae02_18
set_option maxHeartbeats 4000000 in
set_option maxRecDepth 100000 in
theorem cJ3_n (l : Launch) (G : va_G) (k : Nat → Nat) (sz : Nat) (x : Int32) (n : Int32) (h0 : 0 ≤ x.toInt) (h1 : x.toInt < n.toInt) : Met l yJ3_checkIndex_8e157 (Cond.code yJ3_checkIndex_8e157 cJ3_checkIndex_8e157 3 (some .int) :: tb) ({ frames := 0, cells := 0, slots := 0, locals := 0 } : Room) (va_Pc [.int x, .int n, .null] (cP G k [] [] sz)) (va_Qi (fun (r : Int32) (_ : Unit) => (r = r)) (cB G (fun (_ : Unit) => []) (fun (_ : Unit) => []) (va_A [] sz)) (va_A [] sz)) 0 0 (va_A [] sz) := by
  refine ofC_i (cc := cJ3_checkIndex_8e157) (maxL := 3) (ret := (some .int)) (by decide) rfl (Nat.le_of_ble_eq_true rfl) ?_
  intro p e s m args below meth c A ls Q F hr hin hlk St hl hQ
  have hx := F.1
  have hb := F.2.1
  have hl : lv_has ls 3 [(0, .int x), (1, .int n), (2, .null)] := hl
  have St : cS G k [] [] A s s.heap [] := St
  refine lv_iload_n hx hb dJ3_checkIndex_8e157_0 rfl (lv_at hl 0 rfl) ?_
  refine lv_if_lt (tgt := 9) hx hb dJ3_checkIndex_8e157_1 (by decide) (fun c1 => ?_) (fun c1 => ?_)
  · have i1 := ci_lt (x := x) (y := 0) rfl (show (0 : Int32).toInt = 0 by decide) c1; exact False.elim (by omega)
  have i1 := ci_nlt (x := x) (y := 0) rfl (show (0 : Int32).toInt = 0 by decide) c1
  refine lv_iload_n hx hb dJ3_checkIndex_8e157_4 rfl (lv_at hl 0 rfl) ?_
  refine lv_iload_n hx hb dJ3_checkIndex_8e157_5 rfl (lv_at hl 1 rfl) ?_
  refine lv_icmp_lt (tgt := 16) hx hb dJ3_checkIndex_8e157_6 (by decide) (fun c6 => ?_) (fun c6 => ?_)
  rotate_left
  · have i6 := ci_nlt (x := x) (y := n) rfl rfl c6; exact False.elim (by omega)
  have i6 := ci_lt (x := x) (y := n) rfl rfl c6
  refine lv_iload_n hx hb dJ3_checkIndex_8e157_16 rfl (lv_at hl 0 rfl) ?_
  exact cs_iret F hr hlk hQ St () (r := x) rfl [] rfl (by decide) [] rfl (by decide) (by decide) dJ3_checkIndex_8e157_17
set_option maxHeartbeats 4000000 in
set_option maxRecDepth 100000 in
theorem cJ3_r (l : Launch) (G : va_G) (k : Nat → Nat) (sz : Nat) (w : Nat) (x : Int32) (n : Int32) (h0 : 0 ≤ x.toInt) (h1 : x.toInt < n.toInt) : Met l yJ3_checkIndex_8e157 (Cond.code yJ3_checkIndex_8e157 cJ3_checkIndex_8e157 3 (some .int) :: tb) ({ frames := 0, cells := 0, slots := 0, locals := 0 } : Room) (va_Pc [.int x, .int n, .ref w] (cP G k [] [] sz)) (va_Qi (fun (r : Int32) (_ : Unit) => (r = r)) (cB G (fun (_ : Unit) => []) (fun (_ : Unit) => []) (va_A [] sz)) (va_A [] sz)) 0 0 (va_A [] sz) := by
  refine ofC_i (cc := cJ3_checkIndex_8e157) (maxL := 3) (ret := (some .int)) (by decide) rfl (Nat.le_of_ble_eq_true rfl) ?_
  intro p e s m args below meth c A ls Q F hr hin hlk St hl hQ
  have hx := F.1
  have hb := F.2.1
  have hl : lv_has ls 3 [(0, .int x), (1, .int n), (2, .ref w)] := hl
  have St : cS G k [] [] A s s.heap [] := St
  refine lv_iload_n hx hb dJ3_checkIndex_8e157_0 rfl (lv_at hl 0 rfl) ?_
  refine lv_if_lt (tgt := 9) hx hb dJ3_checkIndex_8e157_1 (by decide) (fun c1 => ?_) (fun c1 => ?_)
  · have i1 := ci_lt (x := x) (y := 0) rfl (show (0 : Int32).toInt = 0 by decide) c1; exact False.elim (by omega)
  have i1 := ci_nlt (x := x) (y := 0) rfl (show (0 : Int32).toInt = 0 by decide) c1
  refine lv_iload_n hx hb dJ3_checkIndex_8e157_4 rfl (lv_at hl 0 rfl) ?_
  refine lv_iload_n hx hb dJ3_checkIndex_8e157_5 rfl (lv_at hl 1 rfl) ?_
  refine lv_icmp_lt (tgt := 16) hx hb dJ3_checkIndex_8e157_6 (by decide) (fun c6 => ?_) (fun c6 => ?_)
  rotate_left
  · have i6 := ci_nlt (x := x) (y := n) rfl rfl c6; exact False.elim (by omega)
  have i6 := ci_lt (x := x) (y := n) rfl rfl c6
  refine lv_iload_n hx hb dJ3_checkIndex_8e157_16 rfl (lv_at hl 0 rfl) ?_
  exact cs_iret F hr hlk hQ St () (r := x) rfl [] rfl (by decide) [] rfl (by decide) (by decide) dJ3_checkIndex_8e157_17
set_option maxHeartbeats 4000000 in
set_option maxRecDepth 100000 in
theorem cJ_checkIndex (l : Launch) (G : va_G) (k : Nat → Nat) (sz : Nat) (x : Int32) (n : Int32) (h0 : 0 ≤ x.toInt) (h1 : x.toInt < n.toInt) : Met l yJ0_checkIndex_df160 (Cond.code yJ0_checkIndex_df160 cJ0_checkIndex_df160 2 none :: tb) ({ frames := 1, cells := 0, slots := 0, locals := 22 } : Room) (va_Pc [.int x, .int n] (cP G k [] [] sz)) (va_Qv (fun (_ : Unit) => True) (cB G (fun (_ : Unit) => []) (fun (_ : Unit) => []) (va_A [] sz)) (va_A [] sz)) 0 0 (va_A [] sz) := by
  refine ofC_v (cc := cJ0_checkIndex_df160) (maxL := 2) (ret := none) (by decide) rfl (Nat.le_of_ble_eq_true rfl) ?_
  intro p e s m args below meth c A ls Q F hr hin hlk St hl hQ
  have hx := F.1
  have hb := F.2.1
  have hl : lv_has ls 2 [(0, .int x), (1, .int n)] := hl
  have St : cS G k [] [] A s s.heap [] := St
  refine lv_iload_n hx hb dJ0_checkIndex_df160_0 rfl (lv_at hl 0 rfl) ?_
  refine lv_iload_n hx hb dJ0_checkIndex_df160_1 rfl (lv_at hl 1 rfl) ?_
  rcases (St.2.2.2.2.2.2.2.2.2.2.2.2.2.2.2.2.2.2.2.2.2.1) with hz | ⟨t_1, hz⟩
  ·
    refine va_gets hx hb hz St.toS F.2.2.2.1 (F.2.2.2.2 _ kf_J0_1053) (fun _ h => h) dJ0_checkIndex_df160_2 ?_
    refine cs_i St [] [] (wc := []) (wr := []) rfl rfl (by decide) (by decide) (va_runS (As := [.int x, .int n, .null]) (rest := []) F (cJ3_n l G k _ x n (by omega) (by omega)) (cwSt F mf_J3_checkIndex_8e157 km_J0_1059 rfl rfl ⟨Nat.le_of_ble_eq_true rfl, Nat.le_of_ble_eq_true rfl⟩) (cs_pre St [] rfl (by decide) [] rfl) rfl rfl hl.1 rfl (lv_room (Nat.le_of_ble_eq_true rfl)) dJ0_checkIndex_df160_5 ⟨Nat.le_of_ble_eq_true rfl, Nat.le_of_ble_eq_true rfl⟩) (fun r_2 u_3 H locs hw St => ?_)
    try dsimp only at hw
    have hf_4 := hw
    have St : cS G k [] [] A s H locs := St
    refine lv_pop hx hb dJ0_checkIndex_df160_8 rfl ?_
    exact cs_vret F hr hlk hQ St () (by trivial) [] rfl (by decide) [] rfl (by decide) (by decide) dJ0_checkIndex_df160_9
  ·
    refine va_gets hx hb hz St.toS F.2.2.2.1 (F.2.2.2.2 _ kf_J0_1053) (fun _ h => h) dJ0_checkIndex_df160_2 ?_
    refine cs_i St [] [] (wc := []) (wr := []) rfl rfl (by decide) (by decide) (va_runS (As := [.int x, .int n, .ref t_1]) (rest := []) F (cJ3_r l G k _ t_1 x n (by omega) (by omega)) (cwSt F mf_J3_checkIndex_8e157 km_J0_1059 rfl rfl ⟨Nat.le_of_ble_eq_true rfl, Nat.le_of_ble_eq_true rfl⟩) (cs_pre St [] rfl (by decide) [] rfl) rfl rfl hl.1 rfl (lv_room (Nat.le_of_ble_eq_true rfl)) dJ0_checkIndex_df160_5 ⟨Nat.le_of_ble_eq_true rfl, Nat.le_of_ble_eq_true rfl⟩) (fun r_5 u_6 H locs hw St => ?_)
    try dsimp only at hw
    have hf_7 := hw
    have St : cS G k [] [] A s H locs := St
    refine lv_pop hx hb dJ0_checkIndex_df160_8 rfl ?_
    exact cs_vret F hr hlk hQ St () (by trivial) [] rfl (by decide) [] rfl (by decide) (by decide) dJ0_checkIndex_df160_9
set_option maxHeartbeats 4000000 in
set_option maxRecDepth 100000 in
theorem cJ1_charAt (l : Launch) (G : va_G) (k : Nat → Nat) (sz : Nat) (i : Nat) (hi : i < 8) (x : Int32) (h0 : 0 ≤ x.toInt) (h1 : x.toInt < sLen i) : Met l yJ1_charAt_3b067 (Cond.code yJ1_charAt_3b067 cJ1_charAt_3b067 2 (some .char) :: tb) ({ frames := 2, cells := 0, slots := 0, locals := 43 } : Room) (va_Pc [.ref (k (20 + i)), .int x] (cP G k [] [] sz)) (va_Qi (fun (r : Int32) (_ : Unit) => (r = sB i (x : Int32).toNatClampNeg)) (cB G (fun (_ : Unit) => []) (fun (_ : Unit) => []) (va_A [] sz)) (va_A [] sz)) 0 0 (va_A [] sz) := by
  refine ofC_i (cc := cJ1_charAt_3b067) (maxL := 2) (ret := (some .char)) (by decide) rfl (Nat.le_of_ble_eq_true rfl) ?_
  intro p e s m args below meth c A ls Q F hr hin hlk St hl hQ
  have hx := F.1
  have hb := F.2.1
  have hl : lv_has ls 2 [(0, .ref (k (20 + i))), (1, .int x)] := hl
  have St : cS G k [] [] A s s.heap [] := St
  have hs := sL_i i hi
  refine lv_iload_n hx hb dJ1_charAt_3b067_0 rfl (lv_at hl 1 rfl) ?_
  refine lv_aload_n hx hb dJ1_charAt_3b067_1 rfl (lv_at hl 0 rfl) ?_
  refine va_tlen hx hb ((St.2.2.2.2.2.2.2.2.2.2.2.2.2.2.2.2.2.2.2.2.2.2 i hi).2.2.2) St.toS (v := nI (sLen i)) rfl dJ1_charAt_3b067_2 ?_
  refine cs_v St [] [] (wc := []) (wr := []) rfl rfl (by decide) (by decide) (va_runS (As := [.int x, .int (nI (sLen i))]) (rest := []) F (cJ_checkIndex l G k _ x (nI (sLen i)) (by omega) (by omega)) (cwSt F mf_J0_checkIndex_df160 km_J1_9 rfl rfl ⟨Nat.le_of_ble_eq_true rfl, Nat.le_of_ble_eq_true rfl⟩) (cs_pre St [] rfl (by decide) [] rfl) rfl rfl hl.1 rfl (lv_room (Nat.le_of_ble_eq_true rfl)) dJ1_charAt_3b067_3 ⟨Nat.le_of_ble_eq_true rfl, Nat.le_of_ble_eq_true rfl⟩) (fun u_2 H locs hw St => ?_)
  try dsimp only at hw
  have St : cS G k [] [] A s H locs := St
  refine lv_aload_n hx hb dJ1_charAt_3b067_6 rfl (lv_at hl 0 rfl) ?_
  refine lv_iload_n hx hb dJ1_charAt_3b067_7 rfl (lv_at hl 1 rfl) ?_
  refine va_tb hx hb ((St.2.2.2.2.2.2.2.2.2.2.2.2.2.2.2.2.2.2.2.2.2.2 i hi).2.2.2) St.toS (vp_in_iff.mpr ⟨by omega, by omega⟩) (v := .int (sB i (x : Int32).toNatClampNeg)) rfl dJ1_charAt_3b067_8 ?_
  refine lv_topi (fun y_3 ey_3 => ?_)
  refine lv_sipush (v := 255) hx hb dJ1_charAt_3b067_9 (by decide) ?_
  refine lv_iand hx hb dJ1_charAt_3b067_12 ?_
  refine lv_topi (fun y_4 ey_4 => ?_)
  refine lv_i2c (v := (y_4.toUInt32 % 65536).toInt32) hx hb dJ1_charAt_3b067_13 rfl ?_
  refine top_i (y := sB i x.toNatClampNeg) (by rw [ey_4, ey_3]; exact sB_ch i hi _ (nc_lt h0 h1)) ?_
  exact cs_zret F hr hlk hQ St () (r := sB i x.toNatClampNeg) (congrArg _ (sB_nar i hi _ (nc_lt h0 h1))) rfl [] rfl (by decide) [] rfl (by decide) (by decide) dJ1_charAt_3b067_14
set_option maxHeartbeats 4000000 in
set_option maxRecDepth 100000 in
theorem cJ_charAt (l : Launch) (G : va_G) (k : Nat → Nat) (sz : Nat) (i : Nat) (hi : i < 8) (x : Int32) (h0 : 0 ≤ x.toInt) (h1 : x.toInt < sLen i) : Met l yJ0_charAt_5068e (Cond.code yJ0_charAt_5068e cJ0_charAt_5068e 2 (some .char) :: tb) ({ frames := 3, cells := 0, slots := 0, locals := 64 } : Room) (va_Pc [.ref (k (10 + i)), .int x] (cP G k [] [] sz)) (va_Qi (fun (r : Int32) (_ : Unit) => (r = sB i (x : Int32).toNatClampNeg)) (cB G (fun (_ : Unit) => []) (fun (_ : Unit) => []) (va_A [] sz)) (va_A [] sz)) 0 0 (va_A [] sz) := by
  refine ofC_i (cc := cJ0_charAt_5068e) (maxL := 2) (ret := (some .char)) (by decide) rfl (Nat.le_of_ble_eq_true rfl) ?_
  intro p e s m args below meth c A ls Q F hr hin hlk St hl hQ
  have hx := F.1
  have hb := F.2.1
  have hl : lv_has ls 2 [(0, .ref (k (10 + i))), (1, .int x)] := hl
  have St : cS G k [] [] A s s.heap [] := St
  refine lv_aload_n hx hb dJ0_charAt_5068e_0 rfl (lv_at hl 0 rfl) ?_
  refine cs_i St [] [] (wc := []) (wr := []) rfl rfl (by decide) (by decide) (va_runV (As := []) (rest := []) F (cJ_isLatin1 l G k _ i (by first | assumption | decide)) (cwVt F mf_J0_isLatin1_aae02 km_J0_492 rfl rfl ⟨Nat.le_of_ble_eq_true rfl, Nat.le_of_ble_eq_true rfl⟩) (cs_preVS St hi [] rfl) rfl rfl hl.1 rfl (lv_room (Nat.le_of_ble_eq_true rfl)) dJ0_charAt_5068e_1 ⟨Nat.le_of_ble_eq_true rfl, Nat.le_of_ble_eq_true rfl⟩) (fun r_1 u_2 H locs hw St => ?_)
  try dsimp only at hw
  have z_3 := hw
  subst r_1
  have St : cS G k [] [] A s H locs := St
  refine lv_if_eq (tgt := 16) hx hb dJ0_charAt_5068e_4 (by decide) (fun c4 => ?_) (fun c4 => ?_)
  · exact absurd c4 (by decide)
  refine lv_aload_n hx hb dJ0_charAt_5068e_7 rfl (lv_at hl 0 rfl) ?_
  refine vk_getf hx hb ((St.2.2.2.2.2.2.2.2.2.2.2.2.2.2.2.2.2.2.2.2.2.2 i hi).2.2.1) St.toS F.2.2.2.1 (F.2.2.2.2 _ kf_J0_9) (fun _ h => h) dJ0_charAt_5068e_8 ?_
  refine lv_iload_n hx hb dJ0_charAt_5068e_11 rfl (lv_at hl 1 rfl) ?_
  refine cs_i St [] [] (wc := []) (wr := []) rfl rfl (by decide) (by decide) (va_runS (As := [.ref (k (20 + i)), .int x]) (rest := []) F (cJ1_charAt l G k _ i (by first | assumption | decide) x (by omega) (by omega)) (cwSt F mf_J1_charAt_3b067 km_J0_495 rfl rfl ⟨Nat.le_of_ble_eq_true rfl, Nat.le_of_ble_eq_true rfl⟩) (cs_pre St [] rfl (by decide) [] rfl) rfl rfl hl.1 rfl (lv_room (Nat.le_of_ble_eq_true rfl)) dJ0_charAt_5068e_12 ⟨Nat.le_of_ble_eq_true rfl, Nat.le_of_ble_eq_true rfl⟩) (fun r_4 u_5 H locs hw St => ?_)
  try dsimp only at hw
  have z_6 := hw
  have St : cS G k [] [] A s H locs := St
  exact cs_zret F hr hlk hQ St () (r := r_4) (by rw [z_6]; exact congrArg _ (sB_nar i hi _ (nc_lt h0 h1))) z_6 [] rfl (by decide) [] rfl (by decide) (by decide) dJ0_charAt_5068e_15

