set_option maxHeartbeats 40000000 in
set_option maxRecDepth 100000 in
theorem whole_start {p : Program} {e : Env} {s : State} {m : MethodId} {below : List Frame} {meth : Method} {c : Code} (l : Launch) {b L : Nat} {xs : Nat → Int32} (hL : L ≤ 6) (C0 : lw_At p s m meth c b L xs) : W p l e room_1 s m #[Value.ref b] below meth c s.heap [] 0 0 (lw_Z below #[Value.ref b] s) (entryFrame m ([Value.ref b] : List Value).toArray 4) := by
  obtain ⟨hx, hb, hr, hml, hown, hts, hX, hbl, hlocks, hgv⟩ := id C0
  have hbA : ¬ (fun q : Nat => s.heap.size ≤ q) b := Nat.not_le.mpr hbl
  have F : CallFix p m c code 4 s #[Value.ref b] tb RL := ⟨hx, hb, hml, hown, fun w h => hts w (tb_in w h)⟩
  have hLt : (nI L).toInt = L := nI_toInt (by omega)
  obtain ⟨k, hg⟩ := law_gx C0
  obtain ⟨G, hK⟩ := law_K F.2.2.2.2
  have St : cS G k [] [] (fun q : Nat => s.heap.size ≤ q) s s.heap [] := ⟨hK, fun z q h => by simp at h, ⟨fun i j p q h => by simp at h, fun z q h => by simp at h⟩, va_S.rf, fun _ h => h, hg⟩
  have hl := lv_entry ([.ref b]) (n := 4) (Nat.le_of_ble_eq_true rfl)
  rw [lg_entry_eq]
  generalize (lg_sl ([.ref b]) ++ List.replicate (4 - (lg_sl ([.ref b])).length) Slot.unset).toArray = ls at hl ⊢
  have hl : lv_has ls 4 [(0, .ref b)] := hl
  refine cs_new F St (ci := 10) rfl inX10 tyX10_ok kc_L_7 kn_X10 ki_X10 (fs := [.null, .null, .null, .null, .null, .null, .null, .null, .int 0, .int 0]) (by decide +kernel) (Nat.le_of_ble_eq_true rfl) (Nat.le_of_ble_eq_true rfl) dL_law_0 (fun q_1 H St => ?_)
  refine W.widen (k := 1) (n := 10) (by decide) (by decide) ?_
  have St : cS G k [(q_1, .inr (10, [.null, .null, .null, .null, .null, .null, .null, .null, .int 0, .int 0]))] [] (fun q : Nat => s.heap.size ≤ q) s H _ := St
  refine lv_dup hx hb dL_law_3 rfl ?_
  refine cs_v St [0] [] (wc := [(q_1, .inr (10, [.null, .null, .null, .null, .null, .null, .null, .null, .int 0, .int 0]))]) (wr := []) rfl rfl (by decide) (by decide) (va_runI (As := []) (rest := [.ref q_1]) F (c10_init l G k _ q_1) (cwIt F mf_X10_init km_L_9 rfl rfl ⟨Nat.le_of_ble_eq_true rfl, Nat.le_of_ble_eq_true rfl⟩) (cs_pre St [0] rfl (by decide) [] rfl) rfl rfl hl.1 rfl (lv_room (Nat.le_of_ble_eq_true rfl)) dL_law_4 ⟨Nat.le_of_ble_eq_true rfl, Nat.le_of_ble_eq_true rfl⟩) (fun u_3 H locs hw St => ?_)
  obtain ⟨a_4, d_5⟩ := u_3
  try dsimp only at hw
  refine W.widen (k := 26) (n := 1717) (by decide) (by decide) ?_
  have St : cS G k [(q_1, .inr (10, [.ref (a_4 0), .ref (a_4 2), .ref (a_4 6), .ref (a_4 8), .ref (a_4 15), .ref (a_4 17), .ref (a_4 22), .ref (a_4 23), .int 0, .int 0])), ((a_4 0), .inr (6, [.ref (a_4 1), .int 0])), ((a_4 1), .inl ((d_5 0), 400, .inl (fun _ => 0))), ((a_4 2), .inr (9, [.ref (a_4 3), .ref (a_4 5), .int 0, .int 0, .int 0, .int 0, .int 0, .int (-1)])), ((a_4 3), .inr (8, [.ref (a_4 4)])), ((a_4 4), .inl ((d_5 1), 9, .inl untold)), ((a_4 5), .inl ((d_5 2), 6, .inl (fun _ => 0))), ((a_4 6), .inr (8, [.ref (a_4 7)])), ((a_4 7), .inl ((d_5 3), 9, .inl untold)), ((a_4 8), .inr (0, [.ref (a_4 9), .ref (a_4 10), .ref (a_4 11), .ref (a_4 12), .ref (a_4 13), .ref (a_4 14)])), ((a_4 9), .inl ((d_5 4), 30, .inl (minus 30))), ((a_4 10), .inl ((d_5 5), 30, .inl (minus 30))), ((a_4 11), .inl ((d_5 6), 30, .inl (fun _ => 0))), ((a_4 12), .inl ((d_5 7), 30, .inl (fun _ => 0))), ((a_4 13), .inl ((d_5 8), 30, .inl (fun _ => 0))), ((a_4 14), .inl ((d_5 9), 30, .inl (fun _ => 0))), ((a_4 15), .inr (2, [.ref (a_4 16), .int 0])), ((a_4 16), .inl ((d_5 10), 60, .inr (.inr (.inr (.inr (fun _ => none)))))), ((a_4 17), .inr (5, [.ref (a_4 18), .ref (a_4 19), .ref (a_4 20), .ref (a_4 21), .int 0, .long 0])), ((a_4 18), .inl ((d_5 11), 250, .inl (fun _ => 0))), ((a_4 19), .inl ((d_5 12), 250, .inl (fun _ => 0))), ((a_4 20), .inl ((d_5 13), 250, .inl (fun _ => 0))), ((a_4 21), .inl ((d_5 14), 250, .inl (fun _ => 0))), ((a_4 22), .inr (3, [.long 0, .long 0, .long 0, .long 0, .long 0, .long 0])), ((a_4 23), .inr (7, [.ref (a_4 24), .int 0, .int 0])), ((a_4 24), .inl ((d_5 15), 8, .inr (.inr (.inr (.inr (fun _ => none))))))] [((d_5 0), .byte), ((d_5 1), .int), ((d_5 2), .boolean), ((d_5 3), .int), ((d_5 4), .int), ((d_5 5), .int), ((d_5 6), .boolean), ((d_5 7), .int), ((d_5 8), .int), ((d_5 9), .int), ((d_5 10), .object "TowerAppeal$Pledge"), ((d_5 11), .int), ((d_5 12), .int), ((d_5 13), .int), ((d_5 14), .boolean), ((d_5 15), .object "TowerAppeal$Stage")] (fun q : Nat => s.heap.size ≤ q) s H locs := St
  refine lv_astore_n (lv' := [(1, .ref q_1), (0, .ref b)]) hx hb dL_law_7 rfl hl (by decide) rfl (fun ls hl => ?_)
  refine cs_new F St (ci := 12) rfl inX12 tyX12_ok kc_L_10 kn_X12 ki_X12 (fs := [.null, .null, .null, .null, .int 0, .int 0, .int 0, .int 0, .int 0, .int 0, .int 0, .int 0, .null, .int 0, .int 0, .int 0, .int 0, .int 0, .int 0, .int 0, .int 0, .int 0, .int 0, .int 0, .null, .null, .null, .null, .null, .null, .null, .null, .null, .null, .null, .null, .null, .null, .null, .null, .null, .null, .null, .null, .null, .null, .null, .null, .null, .null, .int 0, .null, .null]) (by decide +kernel) (Nat.le_of_ble_eq_true rfl) (Nat.le_of_ble_eq_true rfl) dL_law_8 (fun q_6 H St => ?_)
  refine W.widen (k := 27) (n := 1770) (by decide) (by decide) ?_
  have St : cS G k [(q_1, .inr (10, [.ref (a_4 0), .ref (a_4 2), .ref (a_4 6), .ref (a_4 8), .ref (a_4 15), .ref (a_4 17), .ref (a_4 22), .ref (a_4 23), .int 0, .int 0])), ((a_4 0), .inr (6, [.ref (a_4 1), .int 0])), ((a_4 1), .inl ((d_5 0), 400, .inl (fun _ => 0))), ((a_4 2), .inr (9, [.ref (a_4 3), .ref (a_4 5), .int 0, .int 0, .int 0, .int 0, .int 0, .int (-1)])), ((a_4 3), .inr (8, [.ref (a_4 4)])), ((a_4 4), .inl ((d_5 1), 9, .inl untold)), ((a_4 5), .inl ((d_5 2), 6, .inl (fun _ => 0))), ((a_4 6), .inr (8, [.ref (a_4 7)])), ((a_4 7), .inl ((d_5 3), 9, .inl untold)), ((a_4 8), .inr (0, [.ref (a_4 9), .ref (a_4 10), .ref (a_4 11), .ref (a_4 12), .ref (a_4 13), .ref (a_4 14)])), ((a_4 9), .inl ((d_5 4), 30, .inl (minus 30))), ((a_4 10), .inl ((d_5 5), 30, .inl (minus 30))), ((a_4 11), .inl ((d_5 6), 30, .inl (fun _ => 0))), ((a_4 12), .inl ((d_5 7), 30, .inl (fun _ => 0))), ((a_4 13), .inl ((d_5 8), 30, .inl (fun _ => 0))), ((a_4 14), .inl ((d_5 9), 30, .inl (fun _ => 0))), ((a_4 15), .inr (2, [.ref (a_4 16), .int 0])), ((a_4 16), .inl ((d_5 10), 60, .inr (.inr (.inr (.inr (fun _ => none)))))), ((a_4 17), .inr (5, [.ref (a_4 18), .ref (a_4 19), .ref (a_4 20), .ref (a_4 21), .int 0, .long 0])), ((a_4 18), .inl ((d_5 11), 250, .inl (fun _ => 0))), ((a_4 19), .inl ((d_5 12), 250, .inl (fun _ => 0))), ((a_4 20), .inl ((d_5 13), 250, .inl (fun _ => 0))), ((a_4 21), .inl ((d_5 14), 250, .inl (fun _ => 0))), ((a_4 22), .inr (3, [.long 0, .long 0, .long 0, .long 0, .long 0, .long 0])), ((a_4 23), .inr (7, [.ref (a_4 24), .int 0, .int 0])), ((a_4 24), .inl ((d_5 15), 8, .inr (.inr (.inr (.inr (fun _ => none)))))), (q_6, .inr (12, [.null, .null, .null, .null, .int 0, .int 0, .int 0, .int 0, .int 0, .int 0, .int 0, .int 0, .null, .int 0, .int 0, .int 0, .int 0, .int 0, .int 0, .int 0, .int 0, .int 0, .int 0, .int 0, .null, .null, .null, .null, .null, .null, .null, .null, .null, .null, .null, .null, .null, .null, .null, .null, .null, .null, .null, .null, .null, .null, .null, .null, .null, .null, .int 0, .null, .null]))] [((d_5 0), .byte), ((d_5 1), .int), ((d_5 2), .boolean), ((d_5 3), .int), ((d_5 4), .int), ((d_5 5), .int), ((d_5 6), .boolean), ((d_5 7), .int), ((d_5 8), .int), ((d_5 9), .int), ((d_5 10), .object "TowerAppeal$Pledge"), ((d_5 11), .int), ((d_5 12), .int), ((d_5 13), .int), ((d_5 14), .boolean), ((d_5 15), .object "TowerAppeal$Stage")] (fun q : Nat => s.heap.size ≤ q) s H _ := St
  refine lv_dup hx hb dL_law_11 rfl ?_
  refine cs_v St [26] [0, 1, 2, 3, 4, 5, 6, 7, 8, 9, 10, 11, 12, 13, 14, 15, 16, 17, 18, 19, 20, 21, 22, 23, 24, 25] (wc := [(q_6, .inr (12, [.null, .null, .null, .null, .int 0, .int 0, .int 0, .int 0, .int 0, .int 0, .int 0, .int 0, .null, .int 0, .int 0, .int 0, .int 0, .int 0, .int 0, .int 0, .int 0, .int 0, .int 0, .int 0, .null, .null, .null, .null, .null, .null, .null, .null, .null, .null, .null, .null, .null, .null, .null, .null, .null, .null, .null, .null, .null, .null, .null, .null, .null, .null, .int 0, .null, .null]))]) (wr := [(q_1, .inr (10, [.ref (a_4 0), .ref (a_4 2), .ref (a_4 6), .ref (a_4 8), .ref (a_4 15), .ref (a_4 17), .ref (a_4 22), .ref (a_4 23), .int 0, .int 0])), ((a_4 0), .inr (6, [.ref (a_4 1), .int 0])), ((a_4 1), .inl ((d_5 0), 400, .inl (fun _ => 0))), ((a_4 2), .inr (9, [.ref (a_4 3), .ref (a_4 5), .int 0, .int 0, .int 0, .int 0, .int 0, .int (-1)])), ((a_4 3), .inr (8, [.ref (a_4 4)])), ((a_4 4), .inl ((d_5 1), 9, .inl untold)), ((a_4 5), .inl ((d_5 2), 6, .inl (fun _ => 0))), ((a_4 6), .inr (8, [.ref (a_4 7)])), ((a_4 7), .inl ((d_5 3), 9, .inl untold)), ((a_4 8), .inr (0, [.ref (a_4 9), .ref (a_4 10), .ref (a_4 11), .ref (a_4 12), .ref (a_4 13), .ref (a_4 14)])), ((a_4 9), .inl ((d_5 4), 30, .inl (minus 30))), ((a_4 10), .inl ((d_5 5), 30, .inl (minus 30))), ((a_4 11), .inl ((d_5 6), 30, .inl (fun _ => 0))), ((a_4 12), .inl ((d_5 7), 30, .inl (fun _ => 0))), ((a_4 13), .inl ((d_5 8), 30, .inl (fun _ => 0))), ((a_4 14), .inl ((d_5 9), 30, .inl (fun _ => 0))), ((a_4 15), .inr (2, [.ref (a_4 16), .int 0])), ((a_4 16), .inl ((d_5 10), 60, .inr (.inr (.inr (.inr (fun _ => none)))))), ((a_4 17), .inr (5, [.ref (a_4 18), .ref (a_4 19), .ref (a_4 20), .ref (a_4 21), .int 0, .long 0])), ((a_4 18), .inl ((d_5 11), 250, .inl (fun _ => 0))), ((a_4 19), .inl ((d_5 12), 250, .inl (fun _ => 0))), ((a_4 20), .inl ((d_5 13), 250, .inl (fun _ => 0))), ((a_4 21), .inl ((d_5 14), 250, .inl (fun _ => 0))), ((a_4 22), .inr (3, [.long 0, .long 0, .long 0, .long 0, .long 0, .long 0])), ((a_4 23), .inr (7, [.ref (a_4 24), .int 0, .int 0])), ((a_4 24), .inl ((d_5 15), 8, .inr (.inr (.inr (.inr (fun _ => none))))))]) rfl rfl (by decide) (by decide) (va_runI (As := []) (rest := [.ref q_6]) F (c12_init l G k _ q_6) (cwIt F mf_X12_init km_L_12 rfl rfl ⟨Nat.le_of_ble_eq_true rfl, Nat.le_of_ble_eq_true rfl⟩) (cs_pre St [26] rfl (by decide) [] rfl) rfl rfl hl.1 rfl (lv_room (Nat.le_of_ble_eq_true rfl)) dL_law_12 ⟨Nat.le_of_ble_eq_true rfl, Nat.le_of_ble_eq_true rfl⟩) (fun u_8 H locs hw St => ?_)
  obtain ⟨a_9, d_10⟩ := u_8
  try dsimp only at hw
  refine W.widen (k := 60) (n := 24090) (by decide) (by decide) ?_
  have St : cS G k [(q_1, .inr (10, [.ref (a_4 0), .ref (a_4 2), .ref (a_4 6), .ref (a_4 8), .ref (a_4 15), .ref (a_4 17), .ref (a_4 22), .ref (a_4 23), .int 0, .int 0])), ((a_4 0), .inr (6, [.ref (a_4 1), .int 0])), ((a_4 1), .inl ((d_5 0), 400, .inl (fun _ => 0))), ((a_4 2), .inr (9, [.ref (a_4 3), .ref (a_4 5), .int 0, .int 0, .int 0, .int 0, .int 0, .int (-1)])), ((a_4 3), .inr (8, [.ref (a_4 4)])), ((a_4 4), .inl ((d_5 1), 9, .inl untold)), ((a_4 5), .inl ((d_5 2), 6, .inl (fun _ => 0))), ((a_4 6), .inr (8, [.ref (a_4 7)])), ((a_4 7), .inl ((d_5 3), 9, .inl untold)), ((a_4 8), .inr (0, [.ref (a_4 9), .ref (a_4 10), .ref (a_4 11), .ref (a_4 12), .ref (a_4 13), .ref (a_4 14)])), ((a_4 9), .inl ((d_5 4), 30, .inl (minus 30))), ((a_4 10), .inl ((d_5 5), 30, .inl (minus 30))), ((a_4 11), .inl ((d_5 6), 30, .inl (fun _ => 0))), ((a_4 12), .inl ((d_5 7), 30, .inl (fun _ => 0))), ((a_4 13), .inl ((d_5 8), 30, .inl (fun _ => 0))), ((a_4 14), .inl ((d_5 9), 30, .inl (fun _ => 0))), ((a_4 15), .inr (2, [.ref (a_4 16), .int 0])), ((a_4 16), .inl ((d_5 10), 60, .inr (.inr (.inr (.inr (fun _ => none)))))), ((a_4 17), .inr (5, [.ref (a_4 18), .ref (a_4 19), .ref (a_4 20), .ref (a_4 21), .int 0, .long 0])), ((a_4 18), .inl ((d_5 11), 250, .inl (fun _ => 0))), ((a_4 19), .inl ((d_5 12), 250, .inl (fun _ => 0))), ((a_4 20), .inl ((d_5 13), 250, .inl (fun _ => 0))), ((a_4 21), .inl ((d_5 14), 250, .inl (fun _ => 0))), ((a_4 22), .inr (3, [.long 0, .long 0, .long 0, .long 0, .long 0, .long 0])), ((a_4 23), .inr (7, [.ref (a_4 24), .int 0, .int 0])), ((a_4 24), .inl ((d_5 15), 8, .inr (.inr (.inr (.inr (fun _ => none)))))), (q_6, .inr (12, [.ref (a_9 0), .ref (a_9 1), .ref (a_9 2), .ref (a_9 3), .int 0, .int 0, .int 0, .int 0, .int 0, .int 0, .int 0, .int (-1), .ref (a_9 4), .int 0, .int 0, .int 0, .int 0, .int 0, .int 0, .int 0, .int 0, .int 0, .int 0, .int 0, .ref (a_9 5), .ref (a_9 6), .ref (a_9 7), .ref (a_9 8), .ref (a_9 9), .ref (a_9 10), .ref (a_9 11), .ref (a_9 12), .ref (a_9 13), .ref (a_9 14), .ref (a_9 15), .ref (a_9 16), .ref (a_9 17), .ref (a_9 18), .ref (a_9 19), .ref (a_9 20), .ref (a_9 21), .ref (a_9 22), .ref (a_9 23), .ref (a_9 24), .ref (a_9 25), .ref (a_9 26), .ref (a_9 27), .ref (a_9 28), .ref (a_9 29), .ref (a_9 30), .int 0, .ref (a_9 31), .ref (a_9 32)])), ((a_9 2), .inr (11, [.null, .null, .null, .null, .null, .int 0])), ((a_9 0), .inl ((d_10 0), 9, .inl untold)), ((a_9 1), .inl ((d_10 1), 9, .inl (fun _ => 0))), ((a_9 3), .inl ((d_10 3), 400, .inl (fun _ => 0))), ((a_9 4), .inl ((d_10 4), 6, .inl (fun _ => 0))), ((a_9 5), .inl ((d_10 5), 30, .inl (minus 30))), ((a_9 6), .inl ((d_10 6), 30, .inl (minus 30))), ((a_9 7), .inl ((d_10 7), 30, .inl (fun _ => 0))), ((a_9 8), .inl ((d_10 8), 30, .inl (fun _ => 0))), ((a_9 9), .inl ((d_10 9), 30, .inl (fun _ => 0))), ((a_9 10), .inl ((d_10 10), 60, .inl (fun _ => 0))), ((a_9 11), .inl ((d_10 11), 60, .inl (fun _ => 0))), ((a_9 12), .inl ((d_10 12), 60, .inl (fun _ => 0))), ((a_9 13), .inl ((d_10 13), 60, .inl (fun _ => 0))), ((a_9 14), .inl ((d_10 14), 60, .inl (fun _ => 0))), ((a_9 15), .inl ((d_10 15), 60, .inl (fun _ => 0))), ((a_9 16), .inl ((d_10 16), 60, .inl (fun _ => 0))), ((a_9 17), .inl ((d_10 17), 60, .inl (fun _ => 0))), ((a_9 18), .inl ((d_10 18), 5040, .inl (fun _ => 0))), ((a_9 19), .inl ((d_10 19), 5040, .inl (fun _ => 0))), ((a_9 20), .inl ((d_10 20), 5040, .inl (fun _ => 0))), ((a_9 21), .inl ((d_10 21), 5040, .inl (fun _ => 0))), ((a_9 22), .inl ((d_10 22), 250, .inl (fun _ => 0))), ((a_9 23), .inl ((d_10 23), 250, .inl (fun _ => 0))), ((a_9 24), .inl ((d_10 24), 250, .inl (fun _ => 0))), ((a_9 25), .inl ((d_10 25), 250, .inl (fun _ => 0))), ((a_9 26), .inl ((d_10 26), 8, .inl (fun _ => 0))), ((a_9 27), .inl ((d_10 27), 8, .inl (fun _ => 0))), ((a_9 28), .inl ((d_10 28), 8, .inl (fun _ => 0))), ((a_9 29), .inl ((d_10 29), 8, .inl (fun _ => 0))), ((a_9 30), .inl ((d_10 30), 8, .inl (fun _ => 0))), ((a_9 31), .inl ((d_10 31), 30, .inl (fun _ => 0))), ((a_9 32), .inl ((d_10 32), 30, .inl (fun _ => 0)))] [((d_5 0), .byte), ((d_5 1), .int), ((d_5 2), .boolean), ((d_5 3), .int), ((d_5 4), .int), ((d_5 5), .int), ((d_5 6), .boolean), ((d_5 7), .int), ((d_5 8), .int), ((d_5 9), .int), ((d_5 10), .object "TowerAppeal$Pledge"), ((d_5 11), .int), ((d_5 12), .int), ((d_5 13), .int), ((d_5 14), .boolean), ((d_5 15), .object "TowerAppeal$Stage"), ((d_10 0), .int), ((d_10 1), .int), ((d_10 3), .byte), ((d_10 4), .boolean), ((d_10 5), .int), ((d_10 6), .int), ((d_10 7), .int), ((d_10 8), .int), ((d_10 9), .boolean), ((d_10 10), .int), ((d_10 11), .int), ((d_10 12), .int), ((d_10 13), .int), ((d_10 14), .int), ((d_10 15), .int), ((d_10 16), .boolean), ((d_10 17), .boolean), ((d_10 18), .int), ((d_10 19), .int), ((d_10 20), .boolean), ((d_10 21), .boolean), ((d_10 22), .int), ((d_10 23), .int), ((d_10 24), .int), ((d_10 25), .boolean), ((d_10 26), .int), ((d_10 27), .int), ((d_10 28), .int), ((d_10 29), .int), ((d_10 30), .int), ((d_10 31), .int), ((d_10 32), .int)] (fun q : Nat => s.heap.size ≤ q) s H locs := St
  refine lv_astore_n (lv' := [(2, .ref q_6), (1, .ref q_1), (0, .ref b)]) hx hb dL_law_15 rfl hl (by decide) rfl (fun ls hl => ?_)
  refine lv_iconst (v := 0) hx hb dL_law_16 (by decide) ?_
  refine lv_istore_n (lv' := [(3, .int 0), (2, .ref q_6), (1, .ref q_1), (0, .ref b)]) hx hb dL_law_17 rfl hl (by decide) rfl (fun ls hl => ?_)
  refine lv_iload_n hx hb dL_law_18 rfl (lv_at hl 0 rfl) ?_
  refine lv_aload_n hx hb dL_law_19 rfl (lv_at hl 3 rfl) ?_
  refine va_slen hx hb hX hbl hbA St.toS dL_law_20 ?_
  refine lv_bipush (v := 6) hx hb dL_law_21 (by decide) ?_
  refine lv_isub hx hb dL_law_23 ?_
  refine lv_topi (fun y_11 ey_11 => ?_)
  have jy_11 := ci_sub (x := nI L) (y := 6) rfl (show (6 : Int32).toInt = 6 by decide) ey_11
  refine lv_icmp_gt (tgt := 858) hx hb dL_law_24 (by decide) (fun c24 => ?_) (fun c24 => ?_)
  ·
    have i24 := ci_lt (x := y_11) (y := 0) rfl (show (0 : Int32).toInt = 0 by decide) c24
    refine lv_iconst (v := 1) hx hb dL_law_858 (by decide) ?_
    refine va_forget (fun q hq => St.toS.2.2 q hq) ?_
    refine W.widen (k := 600002) (n := 7302232) (by decide) (by decide) ?_
    exact lw_ret hx hb hr hlocks dL_law_859
  ·
    have i24 := ci_nlt (x := y_11) (y := 0) rfl (show (0 : Int32).toInt = 0 by decide) c24
    obtain rfl : L = 6 := by omega
    refine lv_aload_n hx hb dL_law_27 rfl (lv_at hl 3 rfl) ?_
    refine lv_iload_n hx hb dL_law_28 rfl (lv_at hl 0 rfl) ?_
    refine va_sld hx hb hX hbl hbA St.toS (vp_in_iff.mpr (by decide)) dL_law_29 ?_
    refine lv_topi (fun y_12 ey_12 => ?_)
    refine lv_bipush (v := 31) hx hb dL_law_30 (by decide) ?_
    refine lv_iand hx hb dL_law_32 ?_
    refine lv_topi (fun y_13 ey_13 => ?_)
    by_cases w33_0 : y_13 = 0
    ·
      subst w33_0
      refine lv_tableIn (tgt := 144) (off := 111) hx hb dL_law_33 (by decide) (by decide) (by decide) (by decide) ?_
      exact law_case0 C0 G k q_1 q_6 a_4 a_9 d_5 d_10 _ _ _ St (lv_sub hl [0, 1, 2, 3] rfl)
    by_cases w33_1 : y_13 = 1
    ·
      subst w33_1
      refine lv_tableIn (tgt := 207) (off := 174) hx hb dL_law_33 (by decide) (by decide) (by decide) (by decide) ?_
      exact law_case1 C0 G k q_1 q_6 a_4 a_9 d_5 d_10 _ _ _ St (lv_sub hl [0, 1, 2, 3] rfl)
    by_cases w33_2 : y_13 = 2
    ·
      subst w33_2
      refine lv_tableIn (tgt := 230) (off := 197) hx hb dL_law_33 (by decide) (by decide) (by decide) (by decide) ?_
      exact law_case2 C0 G k q_1 q_6 a_4 a_9 d_5 d_10 _ _ _ St (lv_sub hl [0, 1, 2, 3] rfl)
    by_cases w33_3 : y_13 = 3
    ·
      subst w33_3
      refine lv_tableIn (tgt := 243) (off := 210) hx hb dL_law_33 (by decide) (by decide) (by decide) (by decide) ?_
      exact law_case3 C0 G k q_1 q_6 a_4 a_9 d_5 d_10 _ _ _ St (lv_sub hl [0, 1, 2, 3] rfl)
    by_cases w33_4 : y_13 = 4
    ·
      subst w33_4
      refine lv_tableIn (tgt := 266) (off := 233) hx hb dL_law_33 (by decide) (by decide) (by decide) (by decide) ?_
      exact law_case4 C0 G k q_1 q_6 a_4 a_9 d_5 d_10 _ _ _ St (lv_sub hl [0, 1, 2, 3] rfl)
    by_cases w33_5 : y_13 = 5
    ·
      subst w33_5
      refine lv_tableIn (tgt := 289) (off := 256) hx hb dL_law_33 (by decide) (by decide) (by decide) (by decide) ?_
      exact law_case5 C0 G k q_1 q_6 a_4 a_9 d_5 d_10 _ _ _ St (lv_sub hl [0, 1, 2, 3] rfl)
    by_cases w33_6 : y_13 = 6
    ·
      subst w33_6
      refine lv_tableIn (tgt := 332) (off := 299) hx hb dL_law_33 (by decide) (by decide) (by decide) (by decide) ?_
      exact law_case6 C0 G k q_1 q_6 a_4 a_9 d_5 d_10 _ _ _ St (lv_sub hl [0, 1, 2, 3] rfl)
    by_cases w33_7 : y_13 = 7
    ·
      subst w33_7
      refine lv_tableIn (tgt := 381) (off := 348) hx hb dL_law_33 (by decide) (by decide) (by decide) (by decide) ?_
      exact law_case7 C0 G k q_1 q_6 a_4 a_9 d_5 d_10 _ _ _ St (lv_sub hl [0, 1, 2, 3] rfl)
    by_cases w33_8 : y_13 = 8
    ·
      subst w33_8
      refine lv_tableIn (tgt := 444) (off := 411) hx hb dL_law_33 (by decide) (by decide) (by decide) (by decide) ?_
      exact law_case8 C0 G k q_1 q_6 a_4 a_9 d_5 d_10 _ _ _ St (lv_sub hl [0, 1, 2, 3] rfl)
    by_cases w33_9 : y_13 = 9
    ·
      subst w33_9
      refine lv_tableIn (tgt := 477) (off := 444) hx hb dL_law_33 (by decide) (by decide) (by decide) (by decide) ?_
      exact law_case9 C0 G k q_1 q_6 a_4 a_9 d_5 d_10 _ _ _ St (lv_sub hl [0, 1, 2, 3] rfl)
    by_cases w33_10 : y_13 = 10
    ·
      subst w33_10
      refine lv_tableIn (tgt := 510) (off := 477) hx hb dL_law_33 (by decide) (by decide) (by decide) (by decide) ?_
      exact law_case10 C0 G k q_1 q_6 a_4 a_9 d_5 d_10 _ _ _ St (lv_sub hl [0, 1, 2, 3] rfl)
    by_cases w33_11 : y_13 = 11
    ·
      subst w33_11
      refine lv_tableIn (tgt := 543) (off := 510) hx hb dL_law_33 (by decide) (by decide) (by decide) (by decide) ?_
      exact law_case11 C0 G k q_1 q_6 a_4 a_9 d_5 d_10 _ _ _ St (lv_sub hl [0, 1, 2, 3] rfl)
    by_cases w33_12 : y_13 = 12
    ·
      subst w33_12
      refine lv_tableIn (tgt := 566) (off := 533) hx hb dL_law_33 (by decide) (by decide) (by decide) (by decide) ?_
      exact law_case12 C0 G k q_1 q_6 a_4 a_9 d_5 d_10 _ _ _ St (lv_sub hl [0, 1, 2, 3] rfl)
    by_cases w33_13 : y_13 = 13
    ·
      subst w33_13
      refine lv_tableIn (tgt := 579) (off := 546) hx hb dL_law_33 (by decide) (by decide) (by decide) (by decide) ?_
      exact law_case13 C0 G k q_1 q_6 a_4 a_9 d_5 d_10 _ _ _ St (lv_sub hl [0, 1, 2, 3] rfl)
    by_cases w33_14 : y_13 = 14
    ·
      subst w33_14
      refine lv_tableIn (tgt := 612) (off := 579) hx hb dL_law_33 (by decide) (by decide) (by decide) (by decide) ?_
      exact law_case14 C0 G k q_1 q_6 a_4 a_9 d_5 d_10 _ _ _ St (lv_sub hl [0, 1, 2, 3] rfl)
    by_cases w33_15 : y_13 = 15
    ·
      subst w33_15
      refine lv_tableIn (tgt := 645) (off := 612) hx hb dL_law_33 (by decide) (by decide) (by decide) (by decide) ?_
      exact law_case15 C0 G k q_1 q_6 a_4 a_9 d_5 d_10 _ _ _ St (lv_sub hl [0, 1, 2, 3] rfl)
    by_cases w33_16 : y_13 = 16
    ·
      subst w33_16
      refine lv_tableIn (tgt := 678) (off := 645) hx hb dL_law_33 (by decide) (by decide) (by decide) (by decide) ?_
      exact law_case16 C0 G k q_1 q_6 a_4 a_9 d_5 d_10 _ _ _ St (lv_sub hl [0, 1, 2, 3] rfl)
    by_cases w33_17 : y_13 = 17
    ·
      subst w33_17
      refine lv_tableIn (tgt := 691) (off := 658) hx hb dL_law_33 (by decide) (by decide) (by decide) (by decide) ?_
      exact law_case17 C0 G k q_1 q_6 a_4 a_9 d_5 d_10 _ _ _ St (lv_sub hl [0, 1, 2, 3] rfl)
    by_cases w33_18 : y_13 = 18
    ·
      subst w33_18
      refine lv_tableIn (tgt := 724) (off := 691) hx hb dL_law_33 (by decide) (by decide) (by decide) (by decide) ?_
      exact law_case18 C0 G k q_1 q_6 a_4 a_9 d_5 d_10 _ _ _ St (lv_sub hl [0, 1, 2, 3] rfl)
    by_cases w33_19 : y_13 = 19
    ·
      subst w33_19
      refine lv_tableIn (tgt := 747) (off := 714) hx hb dL_law_33 (by decide) (by decide) (by decide) (by decide) ?_
      exact law_case19 C0 G k q_1 q_6 a_4 a_9 d_5 d_10 _ _ _ St (lv_sub hl [0, 1, 2, 3] rfl)
    by_cases w33_20 : y_13 = 20
    ·
      subst w33_20
      refine lv_tableIn (tgt := 770) (off := 737) hx hb dL_law_33 (by decide) (by decide) (by decide) (by decide) ?_
      exact law_case20 C0 G k q_1 q_6 a_4 a_9 d_5 d_10 _ _ _ St (lv_sub hl [0, 1, 2, 3] rfl)
    by_cases w33_21 : y_13 = 21
    ·
      subst w33_21
      refine lv_tableIn (tgt := 793) (off := 760) hx hb dL_law_33 (by decide) (by decide) (by decide) (by decide) ?_
      exact law_case21 C0 G k q_1 q_6 a_4 a_9 d_5 d_10 _ _ _ St (lv_sub hl [0, 1, 2, 3] rfl)
    by_cases w33_22 : y_13 = 22
    ·
      subst w33_22
      refine lv_tableIn (tgt := 806) (off := 773) hx hb dL_law_33 (by decide) (by decide) (by decide) (by decide) ?_
      exact law_case22 C0 G k q_1 q_6 a_4 a_9 d_5 d_10 _ _ _ St (lv_sub hl [0, 1, 2, 3] rfl)
    by_cases w33_23 : y_13 = 23
    ·
      subst w33_23
      refine lv_tableIn (tgt := 829) (off := 796) hx hb dL_law_33 (by decide) (by decide) (by decide) (by decide) ?_
      exact law_case23 C0 G k q_1 q_6 a_4 a_9 d_5 d_10 _ _ _ St (lv_sub hl [0, 1, 2, 3] rfl)
    have iw33_0 := lv_neT w33_0 (show (0 : Int32).toInt = 0 by decide)
    have iw33_1 := lv_neT w33_1 (show (1 : Int32).toInt = 1 by decide)
    have iw33_2 := lv_neT w33_2 (show (2 : Int32).toInt = 2 by decide)
    have iw33_3 := lv_neT w33_3 (show (3 : Int32).toInt = 3 by decide)
    have iw33_4 := lv_neT w33_4 (show (4 : Int32).toInt = 4 by decide)
    have iw33_5 := lv_neT w33_5 (show (5 : Int32).toInt = 5 by decide)
    have iw33_6 := lv_neT w33_6 (show (6 : Int32).toInt = 6 by decide)
    have iw33_7 := lv_neT w33_7 (show (7 : Int32).toInt = 7 by decide)
    have iw33_8 := lv_neT w33_8 (show (8 : Int32).toInt = 8 by decide)
    have iw33_9 := lv_neT w33_9 (show (9 : Int32).toInt = 9 by decide)
    have iw33_10 := lv_neT w33_10 (show (10 : Int32).toInt = 10 by decide)
    have iw33_11 := lv_neT w33_11 (show (11 : Int32).toInt = 11 by decide)
    have iw33_12 := lv_neT w33_12 (show (12 : Int32).toInt = 12 by decide)
    have iw33_13 := lv_neT w33_13 (show (13 : Int32).toInt = 13 by decide)
    have iw33_14 := lv_neT w33_14 (show (14 : Int32).toInt = 14 by decide)
    have iw33_15 := lv_neT w33_15 (show (15 : Int32).toInt = 15 by decide)
    have iw33_16 := lv_neT w33_16 (show (16 : Int32).toInt = 16 by decide)
    have iw33_17 := lv_neT w33_17 (show (17 : Int32).toInt = 17 by decide)
    have iw33_18 := lv_neT w33_18 (show (18 : Int32).toInt = 18 by decide)
    have iw33_19 := lv_neT w33_19 (show (19 : Int32).toInt = 19 by decide)
    have iw33_20 := lv_neT w33_20 (show (20 : Int32).toInt = 20 by decide)
    have iw33_21 := lv_neT w33_21 (show (21 : Int32).toInt = 21 by decide)
    have iw33_22 := lv_neT w33_22 (show (22 : Int32).toInt = 22 by decide)
    have iw33_23 := lv_neT w33_23 (show (23 : Int32).toInt = 23 by decide)
    refine lv_tableOut (tgt := 852) hx hb dL_law_33 (by omega) (by decide) ?_
    refine W.widen (k := 80) (n := 25090) (by decide) (by decide) ?_
    exact law_end C0 G k (cs_pick St [] rfl (by decide) [] rfl) _ (lv_sub hl [0, 3] rfl)
-- ===== YOUR PART ENDS =====
set_option maxHeartbeats 4000000 in
theorem lw_walk (l : Launch) (b : Addr) (xs : List Int32) : MetFree l x (headSpec (Jvm.Cond.code x code maxLocals ret :: tables_1) room_1) (lw_P b xs) (fun _ _ _ _ _ => True) lw_Q := by
  refine MetFree.of_bodyS (code := code) (maxLocals := maxLocals) (ret := ret) (by decide) ?_ ?_
  · intro args s m h hn
    obtain ⟨meth, c, h1, h2, h3, h4, h5, h6, -, -⟩ := Cond.code_spec hn (atoms_spec (ws := Jvm.Cond.code x code maxLocals ret :: tables_1) h _ List.mem_cons_self)
    exact ⟨meth, c, h1, h2, h3, h4, h5, h6⟩
  · intro p e s m args below meth c s₁ B hml0 hP _
    obtain ⟨rfl, hx, hbd, hgv⟩ := hP
    obtain ⟨scr, harrAt, hlist, hof, hsmall⟩ := hx
    obtain ⟨hcb, hkn, -, -⟩ := State.arrayAt?_spec harrAt
    have hown : s.vm.findClass R_law = some m.cls := findClass_of_methodNamed B.named
    have hts0 : ∀ c ∈ (Jvm.Cond.code x code maxLocals ret :: tables_1), c.before #[Value.ref b] s = true := atoms_spec (ws := Jvm.Cond.code x code maxLocals ret :: tables_1) B.pre
    have hts : ∀ w ∈ lw_tbl, w.before #[Value.ref b] s = true := k2_hts_sels lw_privs (fun w hw => hts0 w (List.mem_cons_of_mem _ hw)) lw_privs_ok
    have hml : c.maxLocals = 4 := B.maxLocals_eq (hts0 _ List.mem_cons_self)
    have X₀ : Stand p l e room_1 s m #[Value.ref b] below meth c s₁ [] 0 0 := Stand.of_body B
    have hh0 : s₁.heap = s.heap := by rw [B.state]; rfl
    have hsz : scr.slots.size = xs.length := by rw [← Array.length_toList, hlist, List.length_map]
    have hval : ∀ j : Nat, j < xs.length → scr.slots[j]? = some (.int (xs.getD j 0)) := fun j hj => by
      rw [← Array.getElem?_toList, hlist]
      simp [hj]
    have hbl : b < s.heap.size := (Array.getElem?_eq_some_iff.mp hcb).1
    have hX : va_X b xs.length (fun j => xs.getD j 0) s s.heap := ⟨scr, hcb, hof, hkn, hsz, hval⟩
    have K : W p l e room_1 s m #[Value.ref b] below meth c s₁.heap [] 0 0 (lw_Z below #[Value.ref b] s) (entryFrame m ([Value.ref b] : List Value).toArray 4) := by
      rw [hh0]
      exact whole_start l hbd ⟨B.exec, B.bytes, B.returns, hml, hown, hts, hX, hbl, B.notSynchronized, hgv⟩
    obtain ⟨t, a1, o, b1, b2, b3⟩ := K s₁ rfl X₀
    exact ⟨t, o, a1, b1, b2, b3⟩
theorem lw_pre_spec {args : Array Value} {s : State} (h : (Jvm.Cond.and given_1 narrow_1).before args s = true) (hr : rest_1_c.before args s = true) : ∃ (b : Addr) (xs : List Int32), lw_P b xs args s := by
  have hs := flat_of_before _ h
  have hq := flat_of_before _ hr
  have hc : (Cond.count 1).before args s = true := hs _ (by decide +kernel)
  have harr : (Cond.arrayOf (.arg 0) .int).before args s = true := hs _ (by decide +kernel)
  have hle : (Cond.le (.length (.arg 0)) (.int 6)).before args s = true := hs _ (by decide +kernel)
  have hlen : (Cond.isInt (.length (.arg 0))).before args s = true := hq _ (by decide +kernel)
  have hall : (Cond.all (.arg 0) (.isInt (.elem (.arg 0) (.index 0)))).before args s = true := hq _ (by decide +kernel)
  obtain ⟨b, xs, hb, hx⟩ := State.ints_of_pre rfl harr hlen hall
  have hsm : xs.length < 2 ^ 31 := hx.choose_spec.2.2.2
  have hev : (Term.length (.arg 0)).eval args s none [] s = some (.int xs.length.toInt32) := hx.length_eval hb
  have hv := Cond.le_ints hev (show (Term.int 6).eval args s none [] s = some (.int 6) from rfl)
  have hd : xs.length.toInt32 ≤ 6 := by
    simpa [Cond.before, Cond.holds, hv] using hle
  have hN : xs.length ≤ 6 := (Int32.ofNat_le_ofNat hsm (by decide)).mp (show Int32.ofNat xs.length ≤ Int32.ofNat 6 from hd)
  exact ⟨b, xs, Cond.one_arg hc (show args[0]? = some (.ref b) from hb), hx, hN, h⟩
theorem lw_comes (l : Launch) : Comes l x (Jvm.Cond.code x code maxLocals ret :: tables_1) room_1 (fun tb e args s => Calls_1 tb e args s ∧ rest_1 tb e args s ∧ Pre_1 tb e args s)
    (fun _ _ args s o t => lw_Q args s o t) := by
  intro p e ha hc hk s m args below hf hfit hheap happ hpre
  obtain ⟨b, xs, hP⟩ := lw_pre_spec hpre.2.2 hpre.2.1
  obtain ⟨k, o, h1, h2, h3, hQ⟩ := lw_walk l b xs p e ha hc hk s m args below hf ((Spec.applies_iff_loose hf).mp happ).1 hP trivial
  exact ⟨k, o, h1, h2, h3, hQ⟩
theorem lw_frame {s t : State} {o : Outcome} {args : Array Value} (h : Framed s o t [] 600002 7302232) :
    Framed s o t (fieldLocs frame_1_writes args s ++ arrayLocs frame_1_arrays args s ++ staticLocs frame_1_statics s) 600002 7302232 := h
theorem lw_limb (L : Cond) (hL : ∀ (args : Array Value) (s t : State), L.after args s (.returned (some (.int 1))) t = true) :
    ArmFor flags0 classFile x code maxLocals ret World_1 tables_1 room_1 Calls_1 rest_1 Pre_1
      (fun tb e a s o t => postC L tb e a s o t ∧ Framed s o t (fieldLocs frame_1_writes a s ++ arrayLocs frame_1_arrays a s ++ staticLocs frame_1_statics s) 600002 7302232) := by
  intro l _ _ _ p e ha hc hk s m args below hf hfit hheap happ hpre
  obtain ⟨k, o, h1, h2, h3, rfl, hF⟩ := lw_comes l p e ha hc hk s m args below hf hfit hheap happ hpre
  exact ⟨k, _, h1, h2, h3, hL args s _, lw_frame hF⟩
theorem i_vc : Claimed_1_1 ∧ Claimed_1_2 := ⟨lw_limb limb_1_1 (fun args s t => by simp [limb_1_1, Cond.after, Cond.holds, Cond.value]), lw_limb limb_1_2 (fun args s t => Cond.after_iff.mpr (by
  first | (rw [show limb_1_2 = Cond.eq .result (.int 1) from rfl, Cond.eq_ints (x := 1) (y := 1) rfl rfl]; simp; done) | (simp [limb_1_2, Cond.value, Term.eval]; done)))⟩
