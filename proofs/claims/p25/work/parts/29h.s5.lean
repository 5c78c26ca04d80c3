set_option maxHeartbeats 4000000 in
set_option maxRecDepth 100000 in
theorem mr_readTrust (l : Launch) (G : va_G) (k : Nat → Nat) (sz : Nat) (h : Nat) (a : Nat → Nat) (d : Nat → ClassId) (v_taped : Int32) (v_size : Int32) (v_from : Int32) (v_behind : Int32) (v_hand : Int32) (v_value : Int32) (v_fault : Int32) (v_faultAt : Int32) (v_clock : Int32) (v_coin : Int32) (v_loan : Int32) (v_matched : Int32) (v_taxed : Int32) (v_paidStages : Int32) (v_grown : Int32) (v_pledges : Int32) (v_sums : Int32) (v_stages : Int32) (v_isStopped : Int32) (v_begun : Int32) (f_tape : Nat → Int32) (f_read : Nat → Int32) (f_told : Nat → Int32) (hs0 : 0 ≤ v_size.toInt) (hs1 : v_size.toInt ≤ 400) (hby9 : Byt f_tape) (ht0 : TK f_tape v_size 0 v_hand v_from v_behind v_value) (hf0 : v_fault = 0) (hf1 : v_faultAt = (-1)) : MetT l yX12_readTrust (Cond.code yX12_readTrust cX12_readTrust 3 (some .int) :: tb) ({ frames := 6, cells := 0, slots := 0, locals := 129 } : Room) (va_Pc [.ref h] (cP G k [(cMq a h v_taped v_size v_from v_behind v_hand v_value v_fault v_faultAt v_clock v_coin v_loan v_matched v_taxed v_paidStages v_grown v_pledges v_sums v_stages v_isStopped v_begun), (qarI (a 3) (d 3) 400 f_tape), (qarI (a 1) (d 1) 9 f_read), (qarI (a 4) (d 4) 6 f_told)] [((d 3), .byte), ((d 1), .int), ((d 4), .boolean)] sz)) (QT (fun r => some (.int r)) (fun (r : Int32) (u : Int32 × Int32 × Int32 × Int32 × Int32 × Int32 × (Nat → Int32) × (Nat → Int32)) => match u with | (w_from, w_behind, w_hand, w_value, w_fault, w_faultAt, g_read, g_told) => (r = (prT f_tape v_size.toNatClampNeg).1 ∧ w_fault = (prT f_tape v_size.toNatClampNeg).2.1 ∧ w_faultAt = (prT f_tape v_size.toNatClampNeg).2.2.1 ∧ g_read = (prT f_tape v_size.toNatClampNeg).2.2.2 ∧ ¬ r = -1)) (fun (u : Int32 × Int32 × Int32 × Int32 × Int32 × Int32 × (Nat → Int32) × (Nat → Int32)) => match u with | (w_from, w_behind, w_hand, w_value, w_fault, w_faultAt, g_read, g_told) => ((prT f_tape v_size.toNatClampNeg).1 = -1 ∧ w_fault = (prT f_tape v_size.toNatClampNeg).2.1 ∧ w_faultAt = (prT f_tape v_size.toNatClampNeg).2.2.1)) (a 2) (cB G (fun u => match u with | (w_from, w_behind, w_hand, w_value, w_fault, w_faultAt, g_read, g_told) => [(cMq a h v_taped v_size w_from w_behind w_hand w_value w_fault w_faultAt v_clock v_coin v_loan v_matched v_taxed v_paidStages v_grown v_pledges v_sums v_stages v_isStopped v_begun), (qarI (a 3) (d 3) 400 f_tape), (qarI (a 1) (d 1) 9 g_read), (qarI (a 4) (d 4) 6 g_told)]) (fun u => match u with | (w_from, w_behind, w_hand, w_value, w_fault, w_faultAt, g_read, g_told) => []) (va_A [(cMq a h v_taped v_size v_from v_behind v_hand v_value v_fault v_faultAt v_clock v_coin v_loan v_matched v_taxed v_paidStages v_grown v_pledges v_sums v_stages v_isStopped v_begun), (qarI (a 3) (d 3) 400 f_tape), (qarI (a 1) (d 1) 9 f_read), (qarI (a 4) (d 4) 6 f_told)] sz)) (va_A [(cMq a h v_taped v_size v_from v_behind v_hand v_value v_fault v_faultAt v_clock v_coin v_loan v_matched v_taxed v_paidStages v_grown v_pledges v_sums v_stages v_isStopped v_begun), (qarI (a 3) (d 3) 400 f_tape), (qarI (a 1) (d 1) 9 f_read), (qarI (a 4) (d 4) 6 f_told)] sz)) 0 0 (va_A [(cMq a h v_taped v_size v_from v_behind v_hand v_value v_fault v_faultAt v_clock v_coin v_loan v_matched v_taxed v_paidStages v_grown v_pledges v_sums v_stages v_isStopped v_begun), (qarI (a 3) (d 3) 400 f_tape), (qarI (a 1) (d 1) 9 f_read), (qarI (a 4) (d 4) 6 f_told)] sz) := by
  refine ofCT (cc := cX12_readTrust) (maxL := 3) (ret := (some .int)) (by decide) rfl (Nat.le_of_ble_eq_true rfl) ?_
  intro p e s m args below meth c A ls Q F hr hin hlk hex St hl hQ
  have hx := F.1
  have hb := F.2.1
  have hl : lv_has ls 3 [(0, .ref h)] := hl
  have St : cS G k [(cMq a h v_taped v_size v_from v_behind v_hand v_value v_fault v_faultAt v_clock v_coin v_loan v_matched v_taxed v_paidStages v_grown v_pledges v_sums v_stages v_isStopped v_begun), (qarI (a 3) (d 3) 400 f_tape), (qarI (a 1) (d 1) 9 f_read), (qarI (a 4) (d 4) 6 f_told)] [((d 3), .byte), ((d 1), .int), ((d 4), .boolean)] A s s.heap [] := St
  have y0 : (0 : Int32).toInt = 0 := by decide
  refine lv_iconst (v := 0) hx hb dX12_readTrust_0 (by decide) ?_
  refine lv_istore_n (lv' := [(1, .int 0), (0, .ref h)]) hx hb dX12_readTrust_1 rfl hl (by decide) rfl (fun ls hl => ?_)
  have lp2 : ∀ (n : Nat) (i : Int32) (fr : Nat → Int32) (H : Heap) (locs : List Loc) (ls : Array Slot), ((0 ≤ i.toInt ∧ i.toInt ≤ 9) ∧ ∀ j : Nat, (j : Int) < i.toInt → fr j = untold j) → ((9 - i.toInt).toNat) < n → cS G k [(cMq a h v_taped v_size v_from v_behind v_hand v_value v_fault v_faultAt v_clock v_coin v_loan v_matched v_taxed v_paidStages v_grown v_pledges v_sums v_stages v_isStopped v_begun), (qarI (a 3) (d 3) 400 f_tape), (qarI (a 1) (d 1) 9 fr), (qarI (a 4) (d 4) 6 f_told)] [((d 3), .byte), ((d 1), .int), ((d 4), .boolean)] A s H locs → lv_has ls 3 [(1, .int i), (0, .ref h)] → W p l e ({ frames := 6, cells := 0, slots := 0, locals := 129 } : Room) s m args below meth c H locs 0 0 Q (F0 m 2 ls []) := by
    intro n
    induction n with
    | zero => intro i fr H locs ls hI hn; exact absurd hn (Nat.not_lt_zero _)
    | succ n ih =>
      intro i fr H locs ls hI hn St hl
      obtain ⟨⟨hI0, hI1⟩, hJ9⟩ := hI
      refine lv_iload_n hx hb dX12_readTrust_2 rfl (lv_at hl 0 rfl) ?_
      refine lv_bipush (v := 9) hx hb dX12_readTrust_3 (by decide) ?_
      refine lv_icmp_ge (tgt := 25) hx hb dX12_readTrust_5 (by decide) (fun c5 => ?_) (fun c5 => ?_)
      ·
        have i5 := ci_le (x := 9) (y := i) (show (9 : Int32).toInt = 9 by decide) rfl c5
        have St : cS G k [(cMq a h v_taped v_size v_from v_behind v_hand v_value v_fault v_faultAt v_clock v_coin v_loan v_matched v_taxed v_paidStages v_grown v_pledges v_sums v_stages v_isStopped v_begun), (qarI (a 3) (d 3) 400 f_tape), (qarI (a 1) (d 1) 9 untold), (qarI (a 4) (d 4) 6 f_told)] [((d 3), .byte), ((d 1), .int), ((d 4), .boolean)] A s H locs := cs_norm St 2 rfl (fun j hj => hJ9 j (by omega)) rfl
        refine lv_iconst (v := 0) hx hb dX12_readTrust_25 (by decide) ?_
        refine lv_istore_n (lv' := [(1, .int 0), (0, .ref h)]) hx hb dX12_readTrust_26 rfl hl (by decide) rfl (fun ls hl => ?_)
        have lp27 : ∀ (n : Nat) (i : Int32) (ft : Nat → Int32) (H : Heap) (locs : List Loc) (ls : Array Slot), ((0 ≤ i.toInt ∧ i.toInt ≤ 6) ∧ ∀ j : Nat, (j : Int) < i.toInt → ft j = 0) → ((6 - i.toInt).toNat) < n → cS G k [(cMq a h v_taped v_size v_from v_behind v_hand v_value v_fault v_faultAt v_clock v_coin v_loan v_matched v_taxed v_paidStages v_grown v_pledges v_sums v_stages v_isStopped v_begun), (qarI (a 3) (d 3) 400 f_tape), (qarI (a 1) (d 1) 9 untold), (qarI (a 4) (d 4) 6 ft)] [((d 3), .byte), ((d 1), .int), ((d 4), .boolean)] A s H locs → lv_has ls 3 [(1, .int i), (0, .ref h)] → W p l e ({ frames := 6, cells := 0, slots := 0, locals := 129 } : Room) s m args below meth c H locs 0 0 Q (F0 m 27 ls []) := by
          intro n
          induction n with
          | zero => intro i ft H locs ls hI hn; exact absurd hn (Nat.not_lt_zero _)
          | succ n ih27 =>
            intro i ft H locs ls hI hn St hl
            obtain ⟨⟨hI0, hI1⟩, hJ8⟩ := hI
            refine lv_iload_n hx hb dX12_readTrust_27 rfl (lv_at hl 0 rfl) ?_
            refine lv_aload_n hx hb dX12_readTrust_28 rfl (lv_at hl 1 rfl) ?_
            refine cs_get F St 0 rfl rfl inX12 12 (by decide) kf_X12_89 rfl dX12_readTrust_29 ?_
            refine cs_len F St 3 2 rfl rfl (v := 6) rfl dX12_readTrust_32 ?_
            refine lv_icmp_ge (tgt := 49) hx hb dX12_readTrust_33 (by decide) (fun c33 => ?_) (fun c33 => ?_)
            ·
              have i33 := ci_le (x := 6) (y := i) (show (6 : Int32).toInt = 6 by decide) rfl c33
              have St : cS G k [(cMq a h v_taped v_size v_from v_behind v_hand v_value v_fault v_faultAt v_clock v_coin v_loan v_matched v_taxed v_paidStages v_grown v_pledges v_sums v_stages v_isStopped v_begun), (qarI (a 3) (d 3) 400 f_tape), (qarI (a 1) (d 1) 9 untold), (qarI (a 4) (d 4) 6 (fun _ => 0))] [((d 3), .byte), ((d 1), .int), ((d 4), .boolean)] A s H locs := cs_norm St 3 rfl (fun j hj => hJ8 j (by omega)) rfl
              refine lv_iconst (v := 0) hx hb dX12_readTrust_49 (by decide) ?_
              refine lv_istore_n (lv' := [(1, .int 0), (0, .ref h)]) hx hb dX12_readTrust_50 rfl hl (by decide) rfl (fun ls hl => ?_)
              have lp51 : ∀ (n : Nat) (n5 : Int32) (q_from : Int32) (q_behind : Int32) (q_hand : Int32) (q_value : Int32) (q_fault : Int32) (q_faultAt : Int32) (q_read : Nat → Int32) (q_told : Nat → Int32) (jj : Int32) (H : Heap) (locs : List Loc) (ls : Array Slot), ((0 ≤ n5.toInt ∧ n5.toInt ≤ 6) ∧ (q_fault = 0 ∧ q_faultAt = (-1)) ∧ (0 ≤ jj.toInt ∧ jj.toInt ≤ v_size.toInt) ∧ TK f_tape v_size jj q_hand q_from q_behind q_value ∧ ct q_told = n5.toNatClampNeg ∧ prs f_tape v_size.toNatClampNeg (7 - n5.toNatClampNeg) q_told q_read jj.toNatClampNeg n5 = prT f_tape v_size.toNatClampNeg) → ((10 - n5.toInt).toNat) < n → cS G k [(cMq a h v_taped v_size q_from q_behind q_hand q_value q_fault q_faultAt v_clock v_coin v_loan v_matched v_taxed v_paidStages v_grown v_pledges v_sums v_stages v_isStopped v_begun), (qarI (a 3) (d 3) 400 f_tape), (qarI (a 1) (d 1) 9 q_read), (qarI (a 4) (d 4) 6 q_told)] [((d 3), .byte), ((d 1), .int), ((d 4), .boolean)] A s H locs → lv_has ls 3 [(1, .int n5), (0, .ref h)] → W p l e ({ frames := 6, cells := 0, slots := 0, locals := 129 } : Room) s m args below meth c H locs 0 0 Q (F0 m 51 ls []) := by
                intro n
                induction n with
                | zero => intro n5 q_from q_behind q_hand q_value q_fault q_faultAt q_read q_told jj H locs ls hI hn; exact absurd hn (Nat.not_lt_zero _)
                | succ n ih51 =>
                  intro n5 q_from q_behind q_hand q_value q_fault q_faultAt q_read q_told jj H locs ls hI hn St hl
                  obtain ⟨⟨hI0, hI1⟩, ⟨hq4, hq5⟩, ⟨hjj0, hjj1⟩, hTK, hct, hP⟩ := hI
                  have nk := nc_int hI0
                  have hTKb := TK_le hjj0 hjj1 hTK
                  obtain ⟨c9, hc9⟩ : ∃ c9 : Nat, 7 - n5.toNatClampNeg = c9 + 1 := ⟨6 - n5.toNatClampNeg, by omega⟩
                  rw [hc9] at hP
                  refine lv_aload_n hx hb dX12_readTrust_51 rfl (lv_at hl 1 rfl) ?_
                  refine cs_get F St 0 rfl rfl inX12 8 (by decide) kf_X12_31 rfl dX12_readTrust_52 ?_
                  refine lv_if_eq (tgt := 129) hx hb dX12_readTrust_55 (by decide) (fun c55 => ?_) (fun c55 => ?_)
                  ·
                    have i55 := ci_eq (x := q_hand) (y := 0) rfl (show (0 : Int32).toInt = 0 by decide) c55
                    refine lv_iload_n hx hb dX12_readTrust_129 rfl (lv_at hl 0 rfl) ?_
                    have hE := (prs_end hTK c55 (c := c9) (T := q_told) (R := q_read) (l := n5)).symm.trans hP
                    exact cs_iretT F hr hlk hQ St (q_from, q_behind, q_hand, q_value, q_fault, q_faultAt, q_read, q_told) (r := n5) ⟨by rw [← hE], by rw [← hE]; exact hq4, by rw [← hE]; exact hq5, by rw [← hE], by intro q; rw [q, show (-1 : Int32).toInt = -1 from by decide] at hI0; omega⟩ [0, 1, 2, 3] rfl (by decide) [] rfl (by decide) (by decide) dX12_readTrust_130
                  ·
                    have i55 := ci_ne (x := q_hand) (y := 0) rfl (show (0 : Int32).toInt = 0 by decide) c55
                    have hne : ¬ q_hand = 0 := c55
                    refine lv_aload_n hx hb dX12_readTrust_58 rfl (lv_at hl 1 rfl) ?_
                    refine cs_i St [0, 1] [2, 3] (wc := [(cMq a h v_taped v_size q_from q_behind q_hand q_value q_fault q_faultAt v_clock v_coin v_loan v_matched v_taxed v_paidStages v_grown v_pledges v_sums v_stages v_isStopped v_begun), (qarI (a 3) (d 3) 400 f_tape)]) (wr := [(qarI (a 1) (d 1) 9 q_read), (qarI (a 4) (d 4) 6 q_told)]) rfl rfl (by decide) (by decide) (va_runV (As := []) (rest := []) F (mr_key l G k _ h a d v_taped v_size q_from q_behind q_hand q_value q_fault q_faultAt v_clock v_coin v_loan v_matched v_taxed v_paidStages v_grown v_pledges v_sums v_stages v_isStopped v_begun f_tape (by omega) (by omega) (by omega) (by omega) (by omega) hby9) (cwVt F mf_X12_key km_X12_93 rfl rfl ⟨Nat.le_of_ble_eq_true rfl, Nat.le_of_ble_eq_true rfl⟩) (cs_preV St [0, 1] rfl (by decide) [0] rfl (ci := 12) (q0 := 0) rfl rfl) rfl rfl hl.1 rfl (lv_room (Nat.le_of_ble_eq_true rfl)) dX12_readTrust_59 ⟨Nat.le_of_ble_eq_true rfl, Nat.le_of_ble_eq_true rfl⟩) (fun r_1 u_2 H locs hw St => ?_)
                    try dsimp only at hw
                    have hk_3 := hw
                    have St : cS G k [(qarI (a 1) (d 1) 9 q_read), (qarI (a 4) (d 4) 6 q_told), (cMq a h v_taped v_size q_from q_behind q_hand q_value q_fault q_faultAt v_clock v_coin v_loan v_matched v_taxed v_paidStages v_grown v_pledges v_sums v_stages v_isStopped v_begun), (qarI (a 3) (d 3) 400 f_tape)] [((d 3), .byte), ((d 1), .int), ((d 4), .boolean)] A s H locs := St
                    refine lv_istore_n (lv' := [(2, .int r_1), (1, .int n5), (0, .ref h)]) hx hb dX12_readTrust_62 rfl hl (by decide) rfl (fun ls hl => ?_)
                    refine lv_iload_n hx hb dX12_readTrust_63 rfl (lv_at hl 0 rfl) ?_
                    refine lv_iconst (v := (-1)) hx hb dX12_readTrust_64 (by decide) ?_
                    refine lv_icmp_ne (tgt := 74) hx hb dX12_readTrust_65 (by decide) (fun c65 => ?_) (fun c65 => ?_)
                    ·
                      have i65 := ci_ne (x := r_1) (y := (-1)) rfl (show ((-1) : Int32).toInt = -1 by decide) c65
                      obtain ⟨hh1, hl9⟩ := key_ne hk_3 c65
                      have hlb := lnO_bd f_tape q_from.toNatClampNeg q_behind.toNatClampNeg
                      rw [← hl9] at hlb
                      have hl0 := key_ge c65 hlb.1
                      have nl := nc_int hl0
                      refine lv_aload_n hx hb dX12_readTrust_74 rfl (lv_at hl 2 rfl) ?_
                      refine cs_get F St 2 rfl rfl inX12 12 (by decide) kf_X12_89 rfl dX12_readTrust_75 ?_
                      refine lv_iload_n hx hb dX12_readTrust_78 rfl (lv_at hl 0 rfl) ?_
                      refine cs_zld F St 1 2 rfl rfl (vp_in_iff.mpr ⟨by omega, by omega⟩) dX12_readTrust_79 ?_
                      refine lv_topi (fun y_4 ey_4 => ?_)
                      refine lv_if_eq (tgt := 89) hx hb dX12_readTrust_80 (by decide) (fun c80 => ?_) (fun c80 => ?_)
                      ·
                        have i80 := ci_eq (x := y_4) (y := 0) rfl (show (0 : Int32).toInt = 0 by decide) c80
                        have hT0 : q_told r_1.toNatClampNeg = 0 := by rw [← ey_4]; exact c80
                        refine lv_aload_n hx hb dX12_readTrust_89 rfl (lv_at hl 2 rfl) ?_
                        refine cs_get F St 2 rfl rfl inX12 12 (by decide) kf_X12_89 rfl dX12_readTrust_90 ?_
                        refine lv_iload_n hx hb dX12_readTrust_93 rfl (lv_at hl 0 rfl) ?_
                        refine lv_iconst (v := 1) hx hb dX12_readTrust_94 (by decide) ?_
                        refine cs_zst F St 1 2 rfl rfl (vp_in_iff.mpr ⟨by omega, by omega⟩) (w' := [(qarI (a 1) (d 1) 9 q_read), (qarI (a 4) (d 4) 6 (upd q_told (r_1 : Int32).toNatClampNeg (vp_nar .boolean 1))), (cMq a h v_taped v_size q_from q_behind q_hand q_value q_fault q_faultAt v_clock v_coin v_loan v_matched v_taxed v_paidStages v_grown v_pledges v_sums v_stages v_isStopped v_begun), (qarI (a 3) (d 3) 400 f_tape)]) rfl dX12_readTrust_95 (fun H locs St => ?_)
                        obtain ⟨f_5, ef_5⟩ : ∃ zz : Nat → Int32, zz = upd q_told (r_1 : Int32).toNatClampNeg (vp_nar .boolean 1) := ⟨_, rfl⟩
                        rw [← ef_5] at St
                        refine lv_aload_n hx hb dX12_readTrust_96 rfl (lv_at hl 2 rfl) ?_
                        refine cs_v St [2, 3] [0, 1] (wc := [(cMq a h v_taped v_size q_from q_behind q_hand q_value q_fault q_faultAt v_clock v_coin v_loan v_matched v_taxed v_paidStages v_grown v_pledges v_sums v_stages v_isStopped v_begun), (qarI (a 3) (d 3) 400 f_tape)]) (wr := [(qarI (a 1) (d 1) 9 q_read), (qarI (a 4) (d 4) 6 f_5)]) rfl rfl (by decide) (by decide) (va_runV (As := []) (rest := []) F (mr_scan l G k _ h a d v_taped v_size q_from q_behind q_hand q_value q_fault q_faultAt v_clock v_coin v_loan v_matched v_taxed v_paidStages v_grown v_pledges v_sums v_stages v_isStopped v_begun f_tape (by omega) (by omega) (by omega) (by omega) hby9) (cwVt F mf_X12_scan km_X12_62 rfl rfl ⟨Nat.le_of_ble_eq_true rfl, Nat.le_of_ble_eq_true rfl⟩) (cs_preV St [2, 3] rfl (by decide) [0] rfl (ci := 12) (q0 := 2) rfl rfl) rfl rfl hl.1 rfl (lv_room (Nat.le_of_ble_eq_true rfl)) dX12_readTrust_97 ⟨Nat.le_of_ble_eq_true rfl, Nat.le_of_ble_eq_true rfl⟩) (fun u_7 H locs hw St => ?_)
                        obtain ⟨w_from_8, w_behind_9, w_hand_10, w_value_11⟩ := u_7
                        try dsimp only at hw
                        have ht_12 := hw
                        have St : cS G k [(qarI (a 1) (d 1) 9 q_read), (qarI (a 4) (d 4) 6 f_5), (cMq a h v_taped v_size w_from_8 w_behind_9 w_hand_10 w_value_11 q_fault q_faultAt v_clock v_coin v_loan v_matched v_taxed v_paidStages v_grown v_pledges v_sums v_stages v_isStopped v_begun), (qarI (a 3) (d 3) 400 f_tape)] [((d 3), .byte), ((d 1), .int), ((d 4), .boolean)] A s H locs := St
                        have ht_12b := TK_le (by omega) (by omega) ht_12
                        refine lv_aload_n hx hb dX12_readTrust_100 rfl (lv_at hl 2 rfl) ?_
                        refine lv_iload_n hx hb dX12_readTrust_101 rfl (lv_at hl 0 rfl) ?_
                        refine cs_T St [2, 3, 0] [1] (wc := [(cMq a h v_taped v_size w_from_8 w_behind_9 w_hand_10 w_value_11 q_fault q_faultAt v_clock v_coin v_loan v_matched v_taxed v_paidStages v_grown v_pledges v_sums v_stages v_isStopped v_begun), (qarI (a 3) (d 3) 400 f_tape), (qarI (a 1) (d 1) 9 q_read)]) (wr := [(qarI (a 4) (d 4) 6 f_5)]) rfl rfl (by decide) (by decide) (runVT (As := [.int r_1]) (rest := []) F (mr_readLine l G k _ h a d v_taped v_size w_from_8 w_behind_9 w_hand_10 w_value_11 q_fault q_faultAt v_clock v_coin v_loan v_matched v_taxed v_paidStages v_grown v_pledges v_sums v_stages v_isStopped v_begun f_tape q_read r_1 q_behind (by omega) (by omega) hby9 (by omega) (by omega) ht_12 (by omega) (by omega)) mf_X12_readLine km_X12_96 rfl rfl ⟨Nat.le_of_ble_eq_true rfl, Nat.le_of_ble_eq_true rfl⟩ (cs_preV St [2, 3, 0] rfl (by decide) [0, 1] rfl (ci := 12) (q0 := 2) rfl rfl) rfl rfl hl.1 rfl (lv_room (Nat.le_of_ble_eq_true rfl)) dX12_readTrust_102 ⟨Nat.le_of_ble_eq_true rfl, Nat.le_of_ble_eq_true rfl⟩) (fun r_ u_ H locs hw St => ?_) (fun u_ H locs hw St => ?_)
                        ·
                          obtain ⟨r_22, rfl⟩ : ∃ z, z = r_ := ⟨_, rfl⟩
                          obtain ⟨w_from_15, w_behind_16, w_hand_17, w_value_18, w_fault_19, w_faultAt_20, g_read_21⟩ := u_
                          try dsimp only at hw
                          obtain ⟨hml_23, hfu_24⟩ := hw
                          have St : cS G k [(qarI (a 4) (d 4) 6 f_5), (cMq a h v_taped v_size w_from_15 w_behind_16 w_hand_17 w_value_18 w_fault_19 w_faultAt_20 v_clock v_coin v_loan v_matched v_taxed v_paidStages v_grown v_pledges v_sums v_stages v_isStopped v_begun), (qarI (a 3) (d 3) 400 f_tape), (qarI (a 1) (d 1) 9 g_read_21)] [((d 3), .byte), ((d 1), .int), ((d 4), .boolean)] A s H locs := St
                          obtain ⟨j8, hj8, ht8, hS8⟩ := hml_23
                          obtain ⟨hj80, hj81⟩ := hj8
                          have ht8b := TK_le hj80 hj81 ht8
                          obtain ⟨hfu1, hfu2⟩ := hfu_24
                          refine W.eq (g2 := F0 m 105 ls []) rfl ?_
                          refine lv_aload_n hx hb dX12_readTrust_105 rfl (lv_at hl 2 rfl) ?_
                          refine cs_get F St 1 rfl rfl inX12 8 (by decide) kf_X12_31 rfl dX12_readTrust_106 ?_
                          refine lv_iconst (v := 3) hx hb dX12_readTrust_109 (by decide) ?_
                          refine lv_icmp_eq (tgt := 119) hx hb dX12_readTrust_110 (by decide) (fun c110 => ?_) (fun c110 => ?_)
                          ·
                            have i110 := ci_eq (x := w_hand_17) (y := 3) rfl (show (3 : Int32).toInt = 3 by decide) c110
                            refine lv_aload_n hx hb dX12_readTrust_119 rfl (lv_at hl 2 rfl) ?_
                            refine cs_v St [1, 2] [0, 3] (wc := [(cMq a h v_taped v_size w_from_15 w_behind_16 w_hand_17 w_value_18 w_fault_19 w_faultAt_20 v_clock v_coin v_loan v_matched v_taxed v_paidStages v_grown v_pledges v_sums v_stages v_isStopped v_begun), (qarI (a 3) (d 3) 400 f_tape)]) (wr := [(qarI (a 4) (d 4) 6 f_5), (qarI (a 1) (d 1) 9 g_read_21)]) rfl rfl (by decide) (by decide) (va_runV (As := []) (rest := []) F (mr_scan l G k _ h a d v_taped v_size w_from_15 w_behind_16 w_hand_17 w_value_18 w_fault_19 w_faultAt_20 v_clock v_coin v_loan v_matched v_taxed v_paidStages v_grown v_pledges v_sums v_stages v_isStopped v_begun f_tape (by omega) (by omega) (by omega) (by omega) hby9) (cwVt F mf_X12_scan km_X12_62 rfl rfl ⟨Nat.le_of_ble_eq_true rfl, Nat.le_of_ble_eq_true rfl⟩) (cs_preV St [1, 2] rfl (by decide) [0] rfl (ci := 12) (q0 := 1) rfl rfl) rfl rfl hl.1 rfl (lv_room (Nat.le_of_ble_eq_true rfl)) dX12_readTrust_120 ⟨Nat.le_of_ble_eq_true rfl, Nat.le_of_ble_eq_true rfl⟩) (fun u_26 H locs hw St => ?_)
                            obtain ⟨w_from_27, w_behind_28, w_hand_29, w_value_30⟩ := u_26
                            try dsimp only at hw
                            have ht_31 := hw
                            have St : cS G k [(qarI (a 4) (d 4) 6 f_5), (qarI (a 1) (d 1) 9 g_read_21), (cMq a h v_taped v_size w_from_27 w_behind_28 w_hand_29 w_value_30 w_fault_19 w_faultAt_20 v_clock v_coin v_loan v_matched v_taxed v_paidStages v_grown v_pledges v_sums v_stages v_isStopped v_begun), (qarI (a 3) (d 3) 400 f_tape)] [((d 3), .byte), ((d 1), .int), ((d 4), .boolean)] A s H locs := St
                            have ht_31b := TK_le (by omega) (by omega) ht_31
                            have hs9 := (sp_ok hTK hh1 hl9 c65 hT0 hS8 ht8 c110).trans (by rw [← nar_z1, ← ef_5])
                            have hc8 := stp_inr hs9
                            have hc7 := ct_le f_5
                            obtain ⟨y_32, ey_32⟩ : ∃ zz : Int32, zz = n5 + 1 := ⟨_, rfl⟩
                            first | have jy_32 : y_32.toInt = n5.toInt + 1 := (by have q9 := ci_add (x := n5) rfl (show (1 : Int32).toInt = 1 by decide) ey_32; omega) | have jy_32 := ci_add (x := n5) rfl (show (1 : Int32).toInt = 1 by decide) ey_32
                            refine lv_iinc (v := y_32) (lv' := [(1, .int y_32), (2, .int r_1), (0, .ref h)]) hx hb dX12_readTrust_123 hl (k := 1) rfl (by rw [ey_32]; rfl) (by decide) rfl (fun ls hl => ?_)
                            refine lv_goto (tgt := 51) hx hb dX12_readTrust_126 (by decide) ?_
                            exact ih51 y_32 w_from_27 w_behind_28 w_hand_29 w_value_30 w_fault_19 w_faultAt_20 g_read_21 f_5 w_behind_16 _ _ _ ⟨⟨by omega, by omega⟩, ⟨hfu1.trans hq4, hfu2.trans hq5⟩, ⟨by omega, by omega⟩, ht_31, by have := nc_s (x := n5) (y := y_32) (by omega) (by omega); omega, by rw [show 7 - y_32.toNatClampNeg = c9 from (by have := nc_s (x := n5) (y := y_32) (by omega) (by omega); omega), ey_32]; exact (prs_go hTK hne hs9).symm.trans hP⟩ (by omega) (cs_pick St [2, 3, 1, 0] rfl (by decide) [0, 1, 2] rfl) (lv_sub hl [0, 2] rfl)
                          ·
                            have i110 := ci_ne (x := w_hand_17) (y := 3) rfl (show (3 : Int32).toInt = 3 by decide) c110
                            refine lv_aload_n hx hb dX12_readTrust_113 rfl (lv_at hl 2 rfl) ?_
                            refine lv_iconst (v := 1) hx hb dX12_readTrust_114 (by decide) ?_
                            refine cs_q St [1] [0, 2, 3] (wc := [(cMq a h v_taped v_size w_from_15 w_behind_16 w_hand_17 w_value_18 w_fault_19 w_faultAt_20 v_clock v_coin v_loan v_matched v_taxed v_paidStages v_grown v_pledges v_sums v_stages v_isStopped v_begun)]) (wr := [(qarI (a 4) (d 4) 6 f_5), (qarI (a 3) (d 3) 400 f_tape), (qarI (a 1) (d 1) 9 g_read_21)]) rfl rfl (by decide) (by decide) (va_runV (As := [.int 1]) (rest := []) F (m_wrong l G k _ h a (fun _ => default) v_taped v_size w_from_15 w_behind_16 w_hand_17 w_value_18 w_fault_19 w_faultAt_20 v_clock v_coin v_loan v_matched v_taxed v_paidStages v_grown v_pledges v_sums v_stages v_isStopped v_begun 1) (cwVt F mf_X12_wrong km_X12_54 rfl rfl ⟨Nat.le_of_ble_eq_true rfl, Nat.le_of_ble_eq_true rfl⟩) (cs_preV St [1] rfl (by decide) [] rfl (ci := 12) (q0 := 1) rfl rfl) rfl rfl hl.1 rfl (lv_room (Nat.le_of_ble_eq_true rfl)) dX12_readTrust_115 ⟨Nat.le_of_ble_eq_true rfl, Nat.le_of_ble_eq_true rfl⟩) (fun r_33 u_34 H locs hw St => ?_)
                            try dsimp only at hw
                            have z_35 := hw
                            subst r_33
                            have St : cS G k [(qarI (a 4) (d 4) 6 f_5), (qarI (a 3) (d 3) 400 f_tape), (qarI (a 1) (d 1) 9 g_read_21), (cMq a h v_taped v_size w_from_15 w_behind_16 w_hand_17 w_value_18 1 w_from_15 v_clock v_coin v_loan v_matched v_taxed v_paidStages v_grown v_pledges v_sums v_stages v_isStopped v_begun)] [((d 3), .byte), ((d 1), .int), ((d 4), .boolean)] A s H locs := St
                            show W _ _ _ _ _ _ _ _ _ _ _ _ _ _ _ (F0 m 118 ls [.ref (a 2)])
                            exact cs_athrow F hex hlk hQ St (w_from_15, w_behind_16, w_hand_17, w_value_18, 1, w_from_15, g_read_21, f_5) (prT_thr hP hTK hne ⟨1, _, sp_semi hTK hh1 hl9 c65 hT0 hS8 ht8 c110, by decide, rfl, by omega, rfl⟩) [3, 1, 2, 0] rfl (by decide) [] rfl dX12_readTrust_118
                        ·
                          obtain ⟨w_from_36, w_behind_37, w_hand_38, w_value_39, w_fault_40, w_faultAt_41, g_read_42⟩ := u_
                          try dsimp only at hw
                          have hpl_44 := hw
                          have St : cS G k [(qarI (a 4) (d 4) 6 f_5), (cMq a h v_taped v_size w_from_36 w_behind_37 w_hand_38 w_value_39 w_fault_40 w_faultAt_41 v_clock v_coin v_loan v_matched v_taxed v_paidStages v_grown v_pledges v_sums v_stages v_isStopped v_begun), (qarI (a 3) (d 3) 400 f_tape), (qarI (a 1) (d 1) 9 g_read_42)] [((d 3), .byte), ((d 1), .int), ((d 4), .boolean)] A s H locs := St
                          exact cs_leave rfl rfl hex hlk hQ St (w_from_36, w_behind_37, w_hand_38, w_value_39, w_fault_40, w_faultAt_41, g_read_42, f_5) (prT_thr hP hTK hne (MLF_stp hTK hh1 hl9 c65 hT0 hpl_44)) [1, 2, 3, 0] rfl (by decide) [] rfl
                      ·
                        have i80 := ci_ne (x := y_4) (y := 0) rfl (show (0 : Int32).toInt = 0 by decide) c80
                        refine lv_aload_n hx hb dX12_readTrust_83 rfl (lv_at hl 2 rfl) ?_
                        refine lv_iconst (v := 3) hx hb dX12_readTrust_84 (by decide) ?_
                        refine cs_q St [2] [0, 1, 3] (wc := [(cMq a h v_taped v_size q_from q_behind q_hand q_value q_fault q_faultAt v_clock v_coin v_loan v_matched v_taxed v_paidStages v_grown v_pledges v_sums v_stages v_isStopped v_begun)]) (wr := [(qarI (a 1) (d 1) 9 q_read), (qarI (a 4) (d 4) 6 q_told), (qarI (a 3) (d 3) 400 f_tape)]) rfl rfl (by decide) (by decide) (va_runV (As := [.int 3]) (rest := []) F (m_wrong l G k _ h a (fun _ => default) v_taped v_size q_from q_behind q_hand q_value q_fault q_faultAt v_clock v_coin v_loan v_matched v_taxed v_paidStages v_grown v_pledges v_sums v_stages v_isStopped v_begun 3) (cwVt F mf_X12_wrong km_X12_54 rfl rfl ⟨Nat.le_of_ble_eq_true rfl, Nat.le_of_ble_eq_true rfl⟩) (cs_preV St [2] rfl (by decide) [] rfl (ci := 12) (q0 := 2) rfl rfl) rfl rfl hl.1 rfl (lv_room (Nat.le_of_ble_eq_true rfl)) dX12_readTrust_85 ⟨Nat.le_of_ble_eq_true rfl, Nat.le_of_ble_eq_true rfl⟩) (fun r_45 u_46 H locs hw St => ?_)
                        try dsimp only at hw
                        have z_47 := hw
                        subst r_45
                        have St : cS G k [(qarI (a 1) (d 1) 9 q_read), (qarI (a 4) (d 4) 6 q_told), (qarI (a 3) (d 3) 400 f_tape), (cMq a h v_taped v_size q_from q_behind q_hand q_value 3 q_from v_clock v_coin v_loan v_matched v_taxed v_paidStages v_grown v_pledges v_sums v_stages v_isStopped v_begun)] [((d 3), .byte), ((d 1), .int), ((d 4), .boolean)] A s H locs := St
                        show W _ _ _ _ _ _ _ _ _ _ _ _ _ _ _ (F0 m 88 ls [.ref (a 2)])
                        exact cs_athrow F hex hlk hQ St (q_from, q_behind, q_hand, q_value, 3, q_from, q_read, q_told) (prT_thr hP hTK hne ⟨3, _, sp_twice hTK hh1 hl9 c65 (by rw [← ey_4]; exact c80), by decide, rfl, by omega, rfl⟩) [3, 2, 0, 1] rfl (by decide) [] rfl dX12_readTrust_88
                    ·
                      have i65 := ci_eq (x := r_1) (y := (-1)) rfl (show ((-1) : Int32).toInt = -1 by decide) c65
                      refine lv_aload_n hx hb dX12_readTrust_68 rfl (lv_at hl 2 rfl) ?_
                      refine lv_iconst (v := 1) hx hb dX12_readTrust_69 (by decide) ?_
                      refine cs_q St [2] [0, 1, 3] (wc := [(cMq a h v_taped v_size q_from q_behind q_hand q_value q_fault q_faultAt v_clock v_coin v_loan v_matched v_taxed v_paidStages v_grown v_pledges v_sums v_stages v_isStopped v_begun)]) (wr := [(qarI (a 1) (d 1) 9 q_read), (qarI (a 4) (d 4) 6 q_told), (qarI (a 3) (d 3) 400 f_tape)]) rfl rfl (by decide) (by decide) (va_runV (As := [.int 1]) (rest := []) F (m_wrong l G k _ h a (fun _ => default) v_taped v_size q_from q_behind q_hand q_value q_fault q_faultAt v_clock v_coin v_loan v_matched v_taxed v_paidStages v_grown v_pledges v_sums v_stages v_isStopped v_begun 1) (cwVt F mf_X12_wrong km_X12_54 rfl rfl ⟨Nat.le_of_ble_eq_true rfl, Nat.le_of_ble_eq_true rfl⟩) (cs_preV St [2] rfl (by decide) [] rfl (ci := 12) (q0 := 2) rfl rfl) rfl rfl hl.1 rfl (lv_room (Nat.le_of_ble_eq_true rfl)) dX12_readTrust_70 ⟨Nat.le_of_ble_eq_true rfl, Nat.le_of_ble_eq_true rfl⟩) (fun r_48 u_49 H locs hw St => ?_)
                      try dsimp only at hw
                      have z_50 := hw
                      subst r_48
                      have St : cS G k [(qarI (a 1) (d 1) 9 q_read), (qarI (a 4) (d 4) 6 q_told), (qarI (a 3) (d 3) 400 f_tape), (cMq a h v_taped v_size q_from q_behind q_hand q_value 1 q_from v_clock v_coin v_loan v_matched v_taxed v_paidStages v_grown v_pledges v_sums v_stages v_isStopped v_begun)] [((d 3), .byte), ((d 1), .int), ((d 4), .boolean)] A s H locs := St
                      show W _ _ _ _ _ _ _ _ _ _ _ _ _ _ _ (F0 m 73 ls [.ref (a 2)])
                      exact cs_athrow F hex hlk hQ St (q_from, q_behind, q_hand, q_value, 1, q_from, q_read, q_told) (prT_thr hP hTK hne ⟨1, _, sp_no hTK (key_no hk_3 c65), by decide, rfl, by omega, rfl⟩) [3, 2, 0, 1] rfl (by decide) [] rfl dX12_readTrust_73
              exact lp51 11 0 v_from v_behind v_hand v_value v_fault v_faultAt untold (fun _ => 0) 0 _ _ _ ⟨⟨by omega, by omega⟩, ⟨hf0, hf1⟩, ⟨by omega, by omega⟩, ht0, by decide, rfl⟩ (by omega) St (lv_sub hl [0, 1] rfl)
            ·
              have i33 := ci_nle (x := 6) (y := i) (show (6 : Int32).toInt = 6 by decide) rfl c33
              refine lv_aload_n hx hb dX12_readTrust_36 rfl (lv_at hl 1 rfl) ?_
              refine cs_get F St 0 rfl rfl inX12 12 (by decide) kf_X12_89 rfl dX12_readTrust_37 ?_
              refine lv_iload_n hx hb dX12_readTrust_40 rfl (lv_at hl 0 rfl) ?_
              refine lv_iconst (v := 0) hx hb dX12_readTrust_41 (by decide) ?_
              refine cs_zst F St 3 2 rfl rfl (vp_in_iff.mpr ⟨by omega, by omega⟩) (w' := [(cMq a h v_taped v_size v_from v_behind v_hand v_value v_fault v_faultAt v_clock v_coin v_loan v_matched v_taxed v_paidStages v_grown v_pledges v_sums v_stages v_isStopped v_begun), (qarI (a 3) (d 3) 400 f_tape), (qarI (a 1) (d 1) 9 untold), (qarI (a 4) (d 4) 6 (upd ft (i : Int32).toNatClampNeg (vp_nar .boolean 0)))]) rfl dX12_readTrust_42 (fun H locs St => ?_)
              obtain ⟨f_51, ef_51⟩ : ∃ zz : Nat → Int32, zz = upd ft (i : Int32).toNatClampNeg (vp_nar .boolean 0) := ⟨_, rfl⟩
              rw [← ef_51] at St
              obtain ⟨y_52, ey_52⟩ : ∃ zz : Int32, zz = i + 1 := ⟨_, rfl⟩
              first | have jy_52 : y_52.toInt = i.toInt + 1 := (by have q9 := ci_add (x := i) rfl (show (1 : Int32).toInt = 1 by decide) ey_52; omega) | have jy_52 := ci_add (x := i) rfl (show (1 : Int32).toInt = 1 by decide) ey_52
              refine lv_iinc (v := y_52) (lv' := [(1, .int y_52), (0, .ref h)]) hx hb dX12_readTrust_43 hl (k := 0) rfl (by rw [ey_52]; rfl) (by decide) rfl (fun ls hl => ?_)
              refine lv_goto (tgt := 27) hx hb dX12_readTrust_46 (by decide) ?_
              exact ih27 y_52 f_51 _ _ _ ⟨⟨by omega, by omega⟩, by rw [ef_51, nar_z0]; exact row_up0 hI0 hJ8 (by omega)⟩ (by omega) St (lv_sub hl [0, 1] rfl)
        exact lp27 7 0 f_told _ _ _ ⟨⟨by omega, by omega⟩, fun j q => absurd q (by omega)⟩ (by decide) St (lv_sub hl [0, 1] rfl)
      ·
        have i5 := ci_nle (x := 9) (y := i) (show (9 : Int32).toInt = 9 by decide) rfl c5
        refine lv_aload_n hx hb dX12_readTrust_8 rfl (lv_at hl 1 rfl) ?_
        refine cs_get F St 0 rfl rfl inX12 1 (by decide) kf_X12_82 rfl dX12_readTrust_9 ?_
        refine lv_iload_n hx hb dX12_readTrust_12 rfl (lv_at hl 0 rfl) ?_
        refine va_gets hx hb (St.2.2.2.2.2.2.2.2.1) St.toS F.2.2.2.1 (F.2.2.2.2 _ kf_X12_86) (fun _ h => h) dX12_readTrust_13 ?_
        refine lv_iload_n hx hb dX12_readTrust_16 rfl (lv_at hl 0 rfl) ?_
        refine va_ti hx hb (St.2.2.2.2.2.2.2.2.2.1) St.toS (vp_in_iff.mpr ⟨by omega, by omega⟩) (v := .int (untold (i : Int32).toNatClampNeg)) rfl dX12_readTrust_17 ?_
        refine lv_topi (fun y_53 ey_53 => ?_)
        refine cs_ist F St 2 1 rfl rfl (vp_in_iff.mpr ⟨by omega, by omega⟩) (w' := [(cMq a h v_taped v_size v_from v_behind v_hand v_value v_fault v_faultAt v_clock v_coin v_loan v_matched v_taxed v_paidStages v_grown v_pledges v_sums v_stages v_isStopped v_begun), (qarI (a 3) (d 3) 400 f_tape), (qarI (a 1) (d 1) 9 (upd fr (i : Int32).toNatClampNeg y_53)), (qarI (a 4) (d 4) 6 f_told)]) rfl dX12_readTrust_18 (fun H locs St => ?_)
        obtain ⟨f_54, ef_54⟩ : ∃ zz : Nat → Int32, zz = upd fr (i : Int32).toNatClampNeg y_53 := ⟨_, rfl⟩
        rw [← ef_54] at St
        obtain ⟨y_55, ey_55⟩ : ∃ zz : Int32, zz = i + 1 := ⟨_, rfl⟩
        first | have jy_55 : y_55.toInt = i.toInt + 1 := (by have q9 := ci_add (x := i) rfl (show (1 : Int32).toInt = 1 by decide) ey_55; omega) | have jy_55 := ci_add (x := i) rfl (show (1 : Int32).toInt = 1 by decide) ey_55
        refine lv_iinc (v := y_55) (lv' := [(1, .int y_55), (0, .ref h)]) hx hb dX12_readTrust_19 hl (k := 0) rfl (by rw [ey_55]; rfl) (by decide) rfl (fun ls hl => ?_)
        refine lv_goto (tgt := 2) hx hb dX12_readTrust_22 (by decide) ?_
        exact ih y_55 f_54 _ _ _ ⟨⟨by omega, by omega⟩, by rw [ef_54, ey_53]; exact row_upF hI0 hJ9 (by omega)⟩ (by omega) St (lv_sub hl [0, 1] rfl)
  exact lp2 10 0 f_read _ _ _ ⟨⟨by omega, by omega⟩, fun j q => absurd q (by omega)⟩ (by decide) St (lv_sub hl [0, 1] rfl)
set_option maxHeartbeats 4000000 in
set_option maxRecDepth 100000 in
theorem mr_trust (l : Launch) (G : va_G) (k : Nat → Nat) (sz : Nat) (h : Nat) (a : Nat → Nat) (d : Nat → ClassId) (v_taped : Int32) (v_size : Int32) (v_from : Int32) (v_behind : Int32) (v_hand : Int32) (v_value : Int32) (v_fault : Int32) (v_faultAt : Int32) (v_clock : Int32) (v_coin : Int32) (v_loan : Int32) (v_matched : Int32) (v_taxed : Int32) (v_paidStages : Int32) (v_grown : Int32) (v_pledges : Int32) (v_sums : Int32) (v_stages : Int32) (v_isStopped : Int32) (v_begun : Int32) (f_tape : Nat → Int32) (f_rule : Nat → Int32) (f_read : Nat → Int32) (f_told : Nat → Int32) (ht0 : 0 ≤ v_taped.toInt) (ht1 : v_taped.toInt ≤ 400) (hby9 : Byt f_tape) : Met l yX12_trust (Cond.codeWith yX12_trust cX12_trust 3 (some .int) [((28), (37), (40), (117))] :: tb) ({ frames := 7, cells := 0, slots := 0, locals := 151 } : Room) (va_Pc [.ref h] (cP G k [(cMq a h v_taped v_size v_from v_behind v_hand v_value v_fault v_faultAt v_clock v_coin v_loan v_matched v_taxed v_paidStages v_grown v_pledges v_sums v_stages v_isStopped v_begun), ((a 2), .inr (11, [.null, .null, .null, .null, .null, .int 0])), (qarI (a 3) (d 3) 400 f_tape), (qarI (a 0) (d 0) 9 f_rule), (qarI (a 1) (d 1) 9 f_read), (qarI (a 4) (d 4) 6 f_told)] [((d 3), .byte), ((d 0), .int), ((d 1), .int), ((d 4), .boolean)] sz)) (va_Qi (fun (r : Int32) (u : Int32 × Int32 × Int32 × Int32 × Int32 × Int32 × (Nat → Int32) × (Nat → Int32) × (Nat → Int32)) => match u with | (w_from, w_behind, w_hand, w_value, w_fault, w_faultAt, g_rule, g_read, g_told) => (r = (prT f_tape v_taped.toNatClampNeg).1 ∧ w_fault = (prT f_tape v_taped.toNatClampNeg).2.1 ∧ w_faultAt = (prT f_tape v_taped.toNatClampNeg).2.2.1 ∧ g_rule = (if r = -1 then f_rule else (prT f_tape v_taped.toNatClampNeg).2.2.2))) (cB G (fun u => match u with | (w_from, w_behind, w_hand, w_value, w_fault, w_faultAt, g_rule, g_read, g_told) => [(cMq a h 0 v_taped w_from w_behind w_hand w_value w_fault w_faultAt v_clock v_coin v_loan v_matched v_taxed v_paidStages v_grown v_pledges v_sums v_stages v_isStopped v_begun), ((a 2), .inr (11, [.null, .null, .null, .null, .null, .int 0])), (qarI (a 3) (d 3) 400 f_tape), (qarI (a 0) (d 0) 9 g_rule), (qarI (a 1) (d 1) 9 g_read), (qarI (a 4) (d 4) 6 g_told)]) (fun u => match u with | (w_from, w_behind, w_hand, w_value, w_fault, w_faultAt, g_rule, g_read, g_told) => []) (va_A [(cMq a h v_taped v_size v_from v_behind v_hand v_value v_fault v_faultAt v_clock v_coin v_loan v_matched v_taxed v_paidStages v_grown v_pledges v_sums v_stages v_isStopped v_begun), ((a 2), .inr (11, [.null, .null, .null, .null, .null, .int 0])), (qarI (a 3) (d 3) 400 f_tape), (qarI (a 0) (d 0) 9 f_rule), (qarI (a 1) (d 1) 9 f_read), (qarI (a 4) (d 4) 6 f_told)] sz)) (va_A [(cMq a h v_taped v_size v_from v_behind v_hand v_value v_fault v_faultAt v_clock v_coin v_loan v_matched v_taxed v_paidStages v_grown v_pledges v_sums v_stages v_isStopped v_begun), ((a 2), .inr (11, [.null, .null, .null, .null, .null, .int 0])), (qarI (a 3) (d 3) 400 f_tape), (qarI (a 0) (d 0) 9 f_rule), (qarI (a 1) (d 1) 9 f_read), (qarI (a 4) (d 4) 6 f_told)] sz)) 0 0 (va_A [(cMq a h v_taped v_size v_from v_behind v_hand v_value v_fault v_faultAt v_clock v_coin v_loan v_matched v_taxed v_paidStages v_grown v_pledges v_sums v_stages v_isStopped v_begun), ((a 2), .inr (11, [.null, .null, .null, .null, .null, .int 0])), (qarI (a 3) (d 3) 400 f_tape), (qarI (a 0) (d 0) 9 f_rule), (qarI (a 1) (d 1) 9 f_read), (qarI (a 4) (d 4) 6 f_told)] sz) := by
  refine ofCX_i (cc := cX12_trust) (maxL := 3) (ret := (some .int)) (by decide) rfl (Nat.le_of_ble_eq_true rfl) ?_
  intro p e s m args below meth c A ls Q x9 ht9 hx1 hx2 hx3 hx4 F hr hin hlk St hl hQ
  have hx := F.1
  have hb := F.2.1
  have hl : lv_has ls 3 [(0, .ref h)] := hl
  have St : cS G k [(cMq a h v_taped v_size v_from v_behind v_hand v_value v_fault v_faultAt v_clock v_coin v_loan v_matched v_taxed v_paidStages v_grown v_pledges v_sums v_stages v_isStopped v_begun), ((a 2), .inr (11, [.null, .null, .null, .null, .null, .int 0])), (qarI (a 3) (d 3) 400 f_tape), (qarI (a 0) (d 0) 9 f_rule), (qarI (a 1) (d 1) 9 f_read), (qarI (a 4) (d 4) 6 f_told)] [((d 3), .byte), ((d 0), .int), ((d 1), .int), ((d 4), .boolean)] A s s.heap [] := St
  have y0 : (0 : Int32).toInt = 0 := by decide
  refine lv_aload_n hx hb dX12_trust_0 rfl (lv_at hl 0 rfl) ?_
  refine lv_aload_n hx hb dX12_trust_1 rfl (lv_at hl 0 rfl) ?_
  refine cs_get F St 0 rfl rfl inX12 4 (by decide) kf_X12_203 rfl dX12_trust_2 ?_
  refine cs_put F St 0 rfl rfl inX12 tyX12_ok nmX12 5 (by decide) kf_X12_17 rfl rfl rfl (Nat.le_of_ble_eq_true rfl) (w' := [(cMq a h v_taped v_taped v_from v_behind v_hand v_value v_fault v_faultAt v_clock v_coin v_loan v_matched v_taxed v_paidStages v_grown v_pledges v_sums v_stages v_isStopped v_begun), ((a 2), .inr (11, [.null, .null, .null, .null, .null, .int 0])), (qarI (a 3) (d 3) 400 f_tape), (qarI (a 0) (d 0) 9 f_rule), (qarI (a 1) (d 1) 9 f_read), (qarI (a 4) (d 4) 6 f_told)]) rfl dX12_trust_5 (fun H locs St => ?_)
  refine lv_aload_n hx hb dX12_trust_8 rfl (lv_at hl 0 rfl) ?_
  refine lv_iconst (v := 0) hx hb dX12_trust_9 (by decide) ?_
  refine cs_put F St 0 rfl rfl inX12 tyX12_ok nmX12 4 (by decide) kf_X12_203 rfl rfl rfl (Nat.le_of_ble_eq_true rfl) (w' := [(cMq a h 0 v_taped v_from v_behind v_hand v_value v_fault v_faultAt v_clock v_coin v_loan v_matched v_taxed v_paidStages v_grown v_pledges v_sums v_stages v_isStopped v_begun), ((a 2), .inr (11, [.null, .null, .null, .null, .null, .int 0])), (qarI (a 3) (d 3) 400 f_tape), (qarI (a 0) (d 0) 9 f_rule), (qarI (a 1) (d 1) 9 f_read), (qarI (a 4) (d 4) 6 f_told)]) rfl dX12_trust_10 (fun H locs St => ?_)
  refine lv_aload_n hx hb dX12_trust_13 rfl (lv_at hl 0 rfl) ?_
  refine lv_iconst (v := 0) hx hb dX12_trust_14 (by decide) ?_
  refine cs_put F St 0 rfl rfl inX12 tyX12_ok nmX12 7 (by decide) kf_X12_24 rfl rfl rfl (Nat.le_of_ble_eq_true rfl) (w' := [(cMq a h 0 v_taped v_from 0 v_hand v_value v_fault v_faultAt v_clock v_coin v_loan v_matched v_taxed v_paidStages v_grown v_pledges v_sums v_stages v_isStopped v_begun), ((a 2), .inr (11, [.null, .null, .null, .null, .null, .int 0])), (qarI (a 3) (d 3) 400 f_tape), (qarI (a 0) (d 0) 9 f_rule), (qarI (a 1) (d 1) 9 f_read), (qarI (a 4) (d 4) 6 f_told)]) rfl dX12_trust_15 (fun H locs St => ?_)
  refine lv_aload_n hx hb dX12_trust_18 rfl (lv_at hl 0 rfl) ?_
  refine lv_iconst (v := 0) hx hb dX12_trust_19 (by decide) ?_
  refine cs_put F St 0 rfl rfl inX12 tyX12_ok nmX12 10 (by decide) kf_X12_1 rfl rfl rfl (Nat.le_of_ble_eq_true rfl) (w' := [(cMq a h 0 v_taped v_from 0 v_hand v_value 0 v_faultAt v_clock v_coin v_loan v_matched v_taxed v_paidStages v_grown v_pledges v_sums v_stages v_isStopped v_begun), ((a 2), .inr (11, [.null, .null, .null, .null, .null, .int 0])), (qarI (a 3) (d 3) 400 f_tape), (qarI (a 0) (d 0) 9 f_rule), (qarI (a 1) (d 1) 9 f_read), (qarI (a 4) (d 4) 6 f_told)]) rfl dX12_trust_20 (fun H locs St => ?_)
  refine lv_aload_n hx hb dX12_trust_23 rfl (lv_at hl 0 rfl) ?_
  refine lv_iconst (v := (-1)) hx hb dX12_trust_24 (by decide) ?_
  refine cs_put F St 0 rfl rfl inX12 tyX12_ok nmX12 11 (by decide) kf_X12_10 rfl rfl rfl (Nat.le_of_ble_eq_true rfl) (w' := [(cMq a h 0 v_taped v_from 0 v_hand v_value 0 (-1) v_clock v_coin v_loan v_matched v_taxed v_paidStages v_grown v_pledges v_sums v_stages v_isStopped v_begun), ((a 2), .inr (11, [.null, .null, .null, .null, .null, .int 0])), (qarI (a 3) (d 3) 400 f_tape), (qarI (a 0) (d 0) 9 f_rule), (qarI (a 1) (d 1) 9 f_read), (qarI (a 4) (d 4) 6 f_told)]) rfl dX12_trust_25 (fun H locs St => ?_)
  refine lv_aload_n hx hb dX12_trust_28 rfl (lv_at hl 0 rfl) ?_
  refine cs_v St [0, 2] [1, 3, 4, 5] (wc := [(cMq a h 0 v_taped v_from 0 v_hand v_value 0 (-1) v_clock v_coin v_loan v_matched v_taxed v_paidStages v_grown v_pledges v_sums v_stages v_isStopped v_begun), (qarI (a 3) (d 3) 400 f_tape)]) (wr := [((a 2), .inr (11, [.null, .null, .null, .null, .null, .int 0])), (qarI (a 0) (d 0) 9 f_rule), (qarI (a 1) (d 1) 9 f_read), (qarI (a 4) (d 4) 6 f_told)]) rfl rfl (by decide) (by decide) (va_runV (As := []) (rest := []) F (mr_scan l G k _ h a d 0 v_taped v_from 0 v_hand v_value 0 (-1) v_clock v_coin v_loan v_matched v_taxed v_paidStages v_grown v_pledges v_sums v_stages v_isStopped v_begun f_tape (by omega) (by omega) (by omega) (by omega) hby9) (cwVt F mf_X12_scan km_X12_62 rfl rfl ⟨Nat.le_of_ble_eq_true rfl, Nat.le_of_ble_eq_true rfl⟩) (cs_preV St [0, 2] rfl (by decide) [0] rfl (ci := 12) (q0 := 0) rfl rfl) rfl rfl hl.1 rfl (lv_room (Nat.le_of_ble_eq_true rfl)) dX12_trust_29 ⟨Nat.le_of_ble_eq_true rfl, Nat.le_of_ble_eq_true rfl⟩) (fun u_2 H locs hw St => ?_)
  obtain ⟨w_from_3, w_behind_4, w_hand_5, w_value_6⟩ := u_2
  try dsimp only at hw
  have ht_7 := hw
  have St : cS G k [((a 2), .inr (11, [.null, .null, .null, .null, .null, .int 0])), (qarI (a 0) (d 0) 9 f_rule), (qarI (a 1) (d 1) 9 f_read), (qarI (a 4) (d 4) 6 f_told), (cMq a h 0 v_taped w_from_3 w_behind_4 w_hand_5 w_value_6 0 (-1) v_clock v_coin v_loan v_matched v_taxed v_paidStages v_grown v_pledges v_sums v_stages v_isStopped v_begun), (qarI (a 3) (d 3) 400 f_tape)] [((d 3), .byte), ((d 0), .int), ((d 1), .int), ((d 4), .boolean)] A s H locs := St
  have ht_7b := TK_le (by omega) (by omega) ht_7
  refine lv_aload_n hx hb dX12_trust_32 rfl (lv_at hl 0 rfl) ?_
  refine cs_T St [4, 5, 2, 3] [0, 1] (wc := [(cMq a h 0 v_taped w_from_3 w_behind_4 w_hand_5 w_value_6 0 (-1) v_clock v_coin v_loan v_matched v_taxed v_paidStages v_grown v_pledges v_sums v_stages v_isStopped v_begun), (qarI (a 3) (d 3) 400 f_tape), (qarI (a 1) (d 1) 9 f_read), (qarI (a 4) (d 4) 6 f_told)]) (wr := [((a 2), .inr (11, [.null, .null, .null, .null, .null, .int 0])), (qarI (a 0) (d 0) 9 f_rule)]) rfl rfl (by decide) (by decide) (runVT (As := []) (rest := []) F (mr_readTrust l G k _ h a d 0 v_taped w_from_3 w_behind_4 w_hand_5 w_value_6 0 (-1) v_clock v_coin v_loan v_matched v_taxed v_paidStages v_grown v_pledges v_sums v_stages v_isStopped v_begun f_tape f_read f_told (by omega) (by omega) hby9 ht_7 rfl rfl) mf_X12_readTrust km_X12_209 rfl rfl ⟨Nat.le_of_ble_eq_true rfl, Nat.le_of_ble_eq_true rfl⟩ (cs_preV St [4, 5, 2, 3] rfl (by decide) [0, 2, 3] rfl (ci := 12) (q0 := 4) rfl rfl) rfl rfl hl.1 rfl (lv_room (Nat.le_of_ble_eq_true rfl)) dX12_trust_33 ⟨Nat.le_of_ble_eq_true rfl, Nat.le_of_ble_eq_true rfl⟩) (fun r_ u_ H locs hw St => ?_) (fun u_ H locs hw St => ?_)
  ·
    obtain ⟨r_18, rfl⟩ : ∃ z, z = r_ := ⟨_, rfl⟩
    obtain ⟨w_from_10, w_behind_11, w_hand_12, w_value_13, w_fault_14, w_faultAt_15, g_read_16, g_told_17⟩ := u_
    try dsimp only at hw
    have hX_19 := hw
    have St : cS G k [((a 2), .inr (11, [.null, .null, .null, .null, .null, .int 0])), (qarI (a 0) (d 0) 9 f_rule), (cMq a h 0 v_taped w_from_10 w_behind_11 w_hand_12 w_value_13 w_fault_14 w_faultAt_15 v_clock v_coin v_loan v_matched v_taxed v_paidStages v_grown v_pledges v_sums v_stages v_isStopped v_begun), (qarI (a 3) (d 3) 400 f_tape), (qarI (a 1) (d 1) 9 g_read_16), (qarI (a 4) (d 4) 6 g_told_17)] [((d 3), .byte), ((d 0), .int), ((d 1), .int), ((d 4), .boolean)] A s H locs := St
    refine W.eq (g2 := F0 m 36 ls [.int r_18]) rfl ?_
    refine lv_istore_n (lv' := [(1, .int r_18), (0, .ref h)]) hx hb dX12_trust_36 rfl hl (by decide) rfl (fun ls hl => ?_)
    refine lv_goto (tgt := 43) hx hb dX12_trust_37 (by decide) ?_
    refine lv_iconst (v := 0) hx hb dX12_trust_43 (by decide) ?_
    refine lv_istore_n (lv' := [(2, .int 0), (1, .int r_18), (0, .ref h)]) hx hb dX12_trust_44 rfl hl (by decide) rfl (fun ls hl => ?_)
    have lp45 : ∀ (n : Nat) (i : Int32) (fr : Nat → Int32) (H : Heap) (locs : List Loc) (ls : Array Slot), ((0 ≤ i.toInt ∧ i.toInt ≤ 9) ∧ ∀ j : Nat, (j : Int) < i.toInt → fr j = g_read_16 j) → ((9 - i.toInt).toNat) < n → cS G k [((a 2), .inr (11, [.null, .null, .null, .null, .null, .int 0])), (qarI (a 0) (d 0) 9 fr), (cMq a h 0 v_taped w_from_10 w_behind_11 w_hand_12 w_value_13 w_fault_14 w_faultAt_15 v_clock v_coin v_loan v_matched v_taxed v_paidStages v_grown v_pledges v_sums v_stages v_isStopped v_begun), (qarI (a 3) (d 3) 400 f_tape), (qarI (a 1) (d 1) 9 g_read_16), (qarI (a 4) (d 4) 6 g_told_17)] [((d 3), .byte), ((d 0), .int), ((d 1), .int), ((d 4), .boolean)] A s H locs → lv_has ls 3 [(2, .int i), (1, .int r_18), (0, .ref h)] → W p l e ({ frames := 7, cells := 0, slots := 0, locals := 151 } : Room) s m args below meth c H locs 0 0 Q (F0 m 45 ls []) := by
      intro n
      induction n with
      | zero => intro i fr H locs ls hI hn; exact absurd hn (Nat.not_lt_zero _)
      | succ n ih =>
        intro i fr H locs ls hI hn St hl
        obtain ⟨⟨hI0, hI1⟩, hJ9⟩ := hI
        refine lv_iload_n hx hb dX12_trust_45 rfl (lv_at hl 0 rfl) ?_
        refine lv_bipush (v := 9) hx hb dX12_trust_46 (by decide) ?_
        refine lv_icmp_ge (tgt := 69) hx hb dX12_trust_48 (by decide) (fun c48 => ?_) (fun c48 => ?_)
        ·
          have i48 := ci_le (x := 9) (y := i) (show (9 : Int32).toInt = 9 by decide) rfl c48
          have St : cS G k [((a 2), .inr (11, [.null, .null, .null, .null, .null, .int 0])), (qarI (a 0) (d 0) 9 g_read_16), (cMq a h 0 v_taped w_from_10 w_behind_11 w_hand_12 w_value_13 w_fault_14 w_faultAt_15 v_clock v_coin v_loan v_matched v_taxed v_paidStages v_grown v_pledges v_sums v_stages v_isStopped v_begun), (qarI (a 3) (d 3) 400 f_tape), (qarI (a 1) (d 1) 9 g_read_16), (qarI (a 4) (d 4) 6 g_told_17)] [((d 3), .byte), ((d 0), .int), ((d 1), .int), ((d 4), .boolean)] A s H locs := cs_norm St 1 rfl (fun j hj => hJ9 j (by omega)) rfl
          refine lv_iload_n hx hb dX12_trust_69 rfl (lv_at hl 1 rfl) ?_
          exact cs_iret F hr hlk hQ St (w_from_10, w_behind_11, w_hand_12, w_value_13, w_fault_14, w_faultAt_15, g_read_16, g_read_16, g_told_17) (r := r_18) ⟨hX_19.1, hX_19.2.1, hX_19.2.2.1, (hX_19.2.2.2.1).trans (if_neg hX_19.2.2.2.2).symm⟩ [2, 0, 3, 1, 4, 5] rfl (by decide) [] rfl (by decide) (by decide) dX12_trust_70
        ·
          have i48 := ci_nle (x := 9) (y := i) (show (9 : Int32).toInt = 9 by decide) rfl c48
          refine lv_aload_n hx hb dX12_trust_51 rfl (lv_at hl 2 rfl) ?_
          refine cs_get F St 2 rfl rfl inX12 0 (by decide) kf_X12_114 rfl dX12_trust_52 ?_
          refine lv_iload_n hx hb dX12_trust_55 rfl (lv_at hl 0 rfl) ?_
          refine lv_aload_n hx hb dX12_trust_56 rfl (lv_at hl 2 rfl) ?_
          refine cs_get F St 2 rfl rfl inX12 1 (by decide) kf_X12_82 rfl dX12_trust_57 ?_
          refine lv_iload_n hx hb dX12_trust_60 rfl (lv_at hl 0 rfl) ?_
          refine cs_ild F St 4 2 rfl rfl (vp_in_iff.mpr ⟨by omega, by omega⟩) dX12_trust_61 ?_
          refine lv_topi (fun y_20 ey_20 => ?_)
          refine cs_ist F St 1 1 rfl rfl (vp_in_iff.mpr ⟨by omega, by omega⟩) (w' := [((a 2), .inr (11, [.null, .null, .null, .null, .null, .int 0])), (qarI (a 0) (d 0) 9 (upd fr (i : Int32).toNatClampNeg y_20)), (cMq a h 0 v_taped w_from_10 w_behind_11 w_hand_12 w_value_13 w_fault_14 w_faultAt_15 v_clock v_coin v_loan v_matched v_taxed v_paidStages v_grown v_pledges v_sums v_stages v_isStopped v_begun), (qarI (a 3) (d 3) 400 f_tape), (qarI (a 1) (d 1) 9 g_read_16), (qarI (a 4) (d 4) 6 g_told_17)]) rfl dX12_trust_62 (fun H locs St => ?_)
          obtain ⟨f_21, ef_21⟩ : ∃ zz : Nat → Int32, zz = upd fr (i : Int32).toNatClampNeg y_20 := ⟨_, rfl⟩
          rw [← ef_21] at St
          obtain ⟨y_22, ey_22⟩ : ∃ zz : Int32, zz = i + 1 := ⟨_, rfl⟩
          first | have jy_22 : y_22.toInt = i.toInt + 1 := (by have q9 := ci_add (x := i) rfl (show (1 : Int32).toInt = 1 by decide) ey_22; omega) | have jy_22 := ci_add (x := i) rfl (show (1 : Int32).toInt = 1 by decide) ey_22
          refine lv_iinc (v := y_22) (lv' := [(2, .int y_22), (1, .int r_18), (0, .ref h)]) hx hb dX12_trust_63 hl (k := 0) rfl (by rw [ey_22]; rfl) (by decide) rfl (fun ls hl => ?_)
          refine lv_goto (tgt := 45) hx hb dX12_trust_66 (by decide) ?_
          exact ih y_22 f_21 _ _ _ ⟨⟨by omega, by omega⟩, by rw [ef_21, ey_20]; exact row_upF hI0 hJ9 (by omega)⟩ (by omega) St (lv_sub hl [0, 1, 2] rfl)
    exact lp45 10 0 f_rule _ _ _ ⟨⟨by omega, by omega⟩, fun j q => absurd q (by omega)⟩ (by decide) St (lv_sub hl [0, 1, 2] rfl)
  ·
    obtain ⟨w_from_23, w_behind_24, w_hand_25, w_value_26, w_fault_27, w_faultAt_28, g_read_29, g_told_30⟩ := u_
    try dsimp only at hw
    have hpt_32 := hw
    have St : cS G k [((a 2), .inr (11, [.null, .null, .null, .null, .null, .int 0])), (qarI (a 0) (d 0) 9 f_rule), (cMq a h 0 v_taped w_from_23 w_behind_24 w_hand_25 w_value_26 w_fault_27 w_faultAt_28 v_clock v_coin v_loan v_matched v_taxed v_paidStages v_grown v_pledges v_sums v_stages v_isStopped v_begun), (qarI (a 3) (d 3) 400 f_tape), (qarI (a 1) (d 1) 9 g_read_29), (qarI (a 4) (d 4) 6 g_told_30)] [((d 3), .byte), ((d 0), .int), ((d 1), .int), ((d 4), .boolean)] A s H locs := St
    refine WX_catch (q0 := 0) (ci := 11) F ht9 (by simp [covers, hx1, hx2]) (by rw [hx4]; decide) (by rw [hx4]; exact kc_X12_117) St rfl rfl ?_
    rw [hx3]
    refine lv_astore_n (lv' := [(2, .ref (a 2)), (0, .ref h)]) hx hb dX12_trust_40 rfl hl (by decide) rfl (fun ls hl => ?_)
    refine lv_iconst (v := (-1)) hx hb dX12_trust_41 (by decide) ?_
    exact cs_iret F hr hlk hQ St (w_from_23, w_behind_24, w_hand_25, w_value_26, w_fault_27, w_faultAt_28, f_rule, g_read_29, g_told_30) (r := (-1)) ⟨hpt_32.1.symm, hpt_32.2.1, hpt_32.2.2, (if_pos rfl).symm⟩ [2, 0, 3, 1, 4, 5] rfl (by decide) [] rfl (by decide) (by decide) dX12_trust_42

