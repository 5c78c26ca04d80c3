set_option maxHeartbeats 4000000 in
set_option maxRecDepth 100000 in
theorem x2_size (l : Launch) (G : va_G) (k : Nat → Nat) (sz : Nat) (h : Nat) (b : Nat) (bn : Int32) : Met l yX2_size (Cond.code yX2_size cX2_size 1 (some .int) :: tb) ({ frames := 0, cells := 0, slots := 0, locals := 0 } : Room) (va_Pc [.ref h] (cP G k [(h, .inr (2, [.ref b, .int bn]))] [] sz)) (va_Qi (fun (r : Int32) (_ : Unit) => (r = bn)) (cB G (fun (_ : Unit) => [(h, .inr (2, [.ref b, .int bn]))]) (fun (_ : Unit) => []) (va_A [(h, .inr (2, [.ref b, .int bn]))] sz)) (va_A [(h, .inr (2, [.ref b, .int bn]))] sz)) 0 0 (va_A [(h, .inr (2, [.ref b, .int bn]))] sz) := by
  refine ofC_i (cc := cX2_size) (maxL := 1) (ret := (some .int)) (by decide) rfl (Nat.le_of_ble_eq_true rfl) ?_
  intro p e s m args below meth c A ls Q F hr hin hlk St hl hQ
  have hx := F.1
  have hb := F.2.1
  have hl : lv_has ls 1 [(0, .ref h)] := hl
  have St : cS G k [(h, .inr (2, [.ref b, .int bn]))] [] A s s.heap [] := St
  refine lv_aload_n hx hb dX2_size_0 rfl (lv_at hl 0 rfl) ?_
  refine cs_get F St 0 rfl rfl inX2 1 (by decide) kf_X2_17 rfl dX2_size_1 ?_
  exact cs_iret F hr hlk hQ St () (r := bn) rfl [0] rfl (by decide) [] rfl (by decide) (by decide) dX2_size_4
set_option maxHeartbeats 4000000 in
set_option maxRecDepth 100000 in
theorem x2_isFull (l : Launch) (G : va_G) (k : Nat → Nat) (sz : Nat) (h : Nat) (b : Nat) (bn : Int32) : Met l yX2_isFull (Cond.code yX2_isFull cX2_isFull 1 (some .boolean) :: tb) ({ frames := 0, cells := 0, slots := 0, locals := 0 } : Room) (va_Pc [.ref h] (cP G k [(h, .inr (2, [.ref b, .int bn]))] [] sz)) (va_Qi (fun (r : Int32) (_ : Unit) => ((r = 1) ∧ (60 ≤ bn.toInt)) ∨ ((r = 0) ∧ (¬ (60 ≤ bn.toInt)))) (cB G (fun (_ : Unit) => [(h, .inr (2, [.ref b, .int bn]))]) (fun (_ : Unit) => []) (va_A [(h, .inr (2, [.ref b, .int bn]))] sz)) (va_A [(h, .inr (2, [.ref b, .int bn]))] sz)) 0 0 (va_A [(h, .inr (2, [.ref b, .int bn]))] sz) := by
  refine ofC_i (cc := cX2_isFull) (maxL := 1) (ret := (some .boolean)) (by decide) rfl (Nat.le_of_ble_eq_true rfl) ?_
  intro p e s m args below meth c A ls Q F hr hin hlk St hl hQ
  have hx := F.1
  have hb := F.2.1
  have hl : lv_has ls 1 [(0, .ref h)] := hl
  have St : cS G k [(h, .inr (2, [.ref b, .int bn]))] [] A s s.heap [] := St
  refine lv_aload_n hx hb dX2_isFull_0 rfl (lv_at hl 0 rfl) ?_
  refine cs_get F St 0 rfl rfl inX2 1 (by decide) kf_X2_17 rfl dX2_isFull_1 ?_
  refine lv_bipush (v := 60) hx hb dX2_isFull_4 (by decide) ?_
  refine lv_icmp_lt (tgt := 13) hx hb dX2_isFull_6 (by decide) (fun c6 => ?_) (fun c6 => ?_)
  ·
    have i6 := ci_lt (x := bn) (y := 60) rfl (show (60 : Int32).toInt = 60 by decide) c6
    refine lv_iconst (v := 0) hx hb dX2_isFull_13 (by decide) ?_
    exact cs_zret F hr hlk hQ St () (r := 0) rfl (Or.inr ⟨rfl, by omega⟩) [0] rfl (by decide) [] rfl (by decide) (by decide) dX2_isFull_14
  ·
    have i6 := ci_nlt (x := bn) (y := 60) rfl (show (60 : Int32).toInt = 60 by decide) c6
    refine lv_iconst (v := 1) hx hb dX2_isFull_9 (by decide) ?_
    refine lv_goto (tgt := 14) hx hb dX2_isFull_10 (by decide) ?_
    exact cs_zret F hr hlk hQ St () (r := 1) rfl (Or.inl ⟨rfl, by omega⟩) [0] rfl (by decide) [] rfl (by decide) (by decide) dX2_isFull_14
set_option maxHeartbeats 4000000 in
set_option maxRecDepth 100000 in
theorem x2_at (l : Launch) (G : va_G) (k : Nat → Nat) (sz : Nat) (h : Nat) (b : Nat) (ce : ClassId) (bn : Int32) (fa : Nat → Option Nat) (x : Int32) (hb0 : 0 ≤ bn.toInt) (hb1 : bn.toInt ≤ 60) : Met l yX2_at (Cond.code yX2_at cX2_at 2 (some (.object "TowerAppeal$Pledge")) :: tb) ({ frames := 0, cells := 0, slots := 0, locals := 0 } : Room) (va_Pc [.ref h, .int x] (cP G k [(h, .inr (2, [.ref b, .int bn])), (b, .inl (ce, 60, .inr (.inr (.inr (.inr fa)))))] [(ce, .object "TowerAppeal$Pledge")] sz)) (va_Qq (fun (r : Option Nat) (_ : Unit) => ((r = none) ∧ (¬ (0 ≤ x.toInt ∧ x.toInt < bn.toInt))) ∨ ((r = fa x.toNatClampNeg) ∧ (0 ≤ x.toInt ∧ x.toInt < bn.toInt))) (cB G (fun (_ : Unit) => [(h, .inr (2, [.ref b, .int bn])), (b, .inl (ce, 60, .inr (.inr (.inr (.inr fa)))))]) (fun (_ : Unit) => []) (va_A [(h, .inr (2, [.ref b, .int bn])), (b, .inl (ce, 60, .inr (.inr (.inr (.inr fa)))))] sz)) (va_A [(h, .inr (2, [.ref b, .int bn])), (b, .inl (ce, 60, .inr (.inr (.inr (.inr fa)))))] sz)) 0 0 (va_A [(h, .inr (2, [.ref b, .int bn])), (b, .inl (ce, 60, .inr (.inr (.inr (.inr fa)))))] sz) := by
  refine ofC_q (cc := cX2_at) (maxL := 2) (ret := (some (.object "TowerAppeal$Pledge"))) (by decide) rfl (Nat.le_of_ble_eq_true rfl) ?_
  intro p e s m args below meth c A ls Q F hr hin hlk St hl hQ
  have hx := F.1
  have hb := F.2.1
  have hl : lv_has ls 2 [(0, .ref h), (1, .int x)] := hl
  have St : cS G k [(h, .inr (2, [.ref b, .int bn])), (b, .inl (ce, 60, .inr (.inr (.inr (.inr fa)))))] [(ce, .object "TowerAppeal$Pledge")] A s s.heap [] := St
  refine lv_iload_n hx hb dX2_at_0 rfl (lv_at hl 1 rfl) ?_
  refine lv_if_lt (tgt := 27) hx hb dX2_at_1 (by decide) (fun c1 => ?_) (fun c1 => ?_)
  ·
    have i1 := ci_lt (x := x) (y := 0) rfl (show (0 : Int32).toInt = 0 by decide) c1
    refine lv_null hx hb dX2_at_27 ?_
    exact cs_qret F hr (Or.inl ⟨_, rfl⟩) hlk hQ St () none rfl (Or.inl ⟨rfl, by omega⟩) [0, 1] rfl (by decide) [] rfl (by decide) (by decide) dX2_at_28
  ·
    have i1 := ci_nlt (x := x) (y := 0) rfl (show (0 : Int32).toInt = 0 by decide) c1
    refine lv_iload_n hx hb dX2_at_4 rfl (lv_at hl 1 rfl) ?_
    refine lv_aload_n hx hb dX2_at_5 rfl (lv_at hl 0 rfl) ?_
    refine cs_get F St 0 rfl rfl inX2 1 (by decide) kf_X2_17 rfl dX2_at_6 ?_
    refine lv_icmp_ge (tgt := 27) hx hb dX2_at_9 (by decide) (fun c9 => ?_) (fun c9 => ?_)
    ·
      have i9 := ci_le (x := bn) (y := x) rfl rfl c9
      refine lv_null hx hb dX2_at_27 ?_
      exact cs_qret F hr (Or.inl ⟨_, rfl⟩) hlk hQ St () none rfl (Or.inl ⟨rfl, by omega⟩) [0, 1] rfl (by decide) [] rfl (by decide) (by decide) dX2_at_28
    ·
      have i9 := ci_nle (x := bn) (y := x) rfl rfl c9
      refine lv_iload_n hx hb dX2_at_12 rfl (lv_at hl 1 rfl) ?_
      refine lv_bipush (v := 60) hx hb dX2_at_13 (by decide) ?_
      refine lv_icmp_ge (tgt := 27) hx hb dX2_at_15 (by decide) (fun c15 => ?_) (fun c15 => ?_)
      ·
        have i15 := ci_le (x := 60) (y := x) (show (60 : Int32).toInt = 60 by decide) rfl c15
        refine lv_null hx hb dX2_at_27 ?_
        exact cs_qret F hr (Or.inl ⟨_, rfl⟩) hlk hQ St () none rfl (Or.inl ⟨rfl, by omega⟩) [0, 1] rfl (by decide) [] rfl (by decide) (by decide) dX2_at_28
      ·
        have i15 := ci_nle (x := 60) (y := x) (show (60 : Int32).toInt = 60 by decide) rfl c15
        refine lv_aload_n hx hb dX2_at_18 rfl (lv_at hl 0 rfl) ?_
        refine cs_get F St 0 rfl rfl inX2 0 (by decide) kf_X2_11 rfl dX2_at_19 ?_
        refine lv_iload_n hx hb dX2_at_22 rfl (lv_at hl 1 rfl) ?_
        refine va_aldq hx hb St.1 St.2.1 1 0 rfl rfl (vp_in_iff.mpr ⟨by omega, by omega⟩) dX2_at_23 ?_
        refine lv_goto (tgt := 28) hx hb dX2_at_24 (by decide) ?_
        exact cs_qret F hr (Or.inl ⟨_, rfl⟩) hlk hQ St () (fa (x : Int32).toNatClampNeg) rfl (Or.inr ⟨rfl, by omega⟩) [0, 1] rfl (by decide) [] rfl (by decide) (by decide) dX2_at_28
set_option maxHeartbeats 4000000 in
set_option maxRecDepth 100000 in
theorem x7_size (l : Launch) (G : va_G) (k : Nat → Nat) (sz : Nat) (h : Nat) (b : Nat) (tn : Int32) (td : Int32) : Met l yX7_size (Cond.code yX7_size cX7_size 1 (some .int) :: tb) ({ frames := 0, cells := 0, slots := 0, locals := 0 } : Room) (va_Pc [.ref h] (cP G k [(h, .inr (7, [.ref b, .int tn, .int td]))] [] sz)) (va_Qi (fun (r : Int32) (_ : Unit) => (r = tn)) (cB G (fun (_ : Unit) => [(h, .inr (7, [.ref b, .int tn, .int td]))]) (fun (_ : Unit) => []) (va_A [(h, .inr (7, [.ref b, .int tn, .int td]))] sz)) (va_A [(h, .inr (7, [.ref b, .int tn, .int td]))] sz)) 0 0 (va_A [(h, .inr (7, [.ref b, .int tn, .int td]))] sz) := by
  refine ofC_i (cc := cX7_size) (maxL := 1) (ret := (some .int)) (by decide) rfl (Nat.le_of_ble_eq_true rfl) ?_
  intro p e s m args below meth c A ls Q F hr hin hlk St hl hQ
  have hx := F.1
  have hb := F.2.1
  have hl : lv_has ls 1 [(0, .ref h)] := hl
  have St : cS G k [(h, .inr (7, [.ref b, .int tn, .int td]))] [] A s s.heap [] := St
  refine lv_aload_n hx hb dX7_size_0 rfl (lv_at hl 0 rfl) ?_
  refine cs_get F St 0 rfl rfl inX7 1 (by decide) kf_X7_17 rfl dX7_size_1 ?_
  exact cs_iret F hr hlk hQ St () (r := tn) rfl [0] rfl (by decide) [] rfl (by decide) (by decide) dX7_size_4
set_option maxHeartbeats 4000000 in
set_option maxRecDepth 100000 in
theorem x7_isFull (l : Launch) (G : va_G) (k : Nat → Nat) (sz : Nat) (h : Nat) (b : Nat) (tn : Int32) (td : Int32) : Met l yX7_isFull (Cond.code yX7_isFull cX7_isFull 1 (some .boolean) :: tb) ({ frames := 0, cells := 0, slots := 0, locals := 0 } : Room) (va_Pc [.ref h] (cP G k [(h, .inr (7, [.ref b, .int tn, .int td]))] [] sz)) (va_Qi (fun (r : Int32) (_ : Unit) => ((r = 1) ∧ (8 ≤ tn.toInt)) ∨ ((r = 0) ∧ (¬ (8 ≤ tn.toInt)))) (cB G (fun (_ : Unit) => [(h, .inr (7, [.ref b, .int tn, .int td]))]) (fun (_ : Unit) => []) (va_A [(h, .inr (7, [.ref b, .int tn, .int td]))] sz)) (va_A [(h, .inr (7, [.ref b, .int tn, .int td]))] sz)) 0 0 (va_A [(h, .inr (7, [.ref b, .int tn, .int td]))] sz) := by
  refine ofC_i (cc := cX7_isFull) (maxL := 1) (ret := (some .boolean)) (by decide) rfl (Nat.le_of_ble_eq_true rfl) ?_
  intro p e s m args below meth c A ls Q F hr hin hlk St hl hQ
  have hx := F.1
  have hb := F.2.1
  have hl : lv_has ls 1 [(0, .ref h)] := hl
  have St : cS G k [(h, .inr (7, [.ref b, .int tn, .int td]))] [] A s s.heap [] := St
  refine lv_aload_n hx hb dX7_isFull_0 rfl (lv_at hl 0 rfl) ?_
  refine cs_get F St 0 rfl rfl inX7 1 (by decide) kf_X7_17 rfl dX7_isFull_1 ?_
  refine lv_bipush (v := 8) hx hb dX7_isFull_4 (by decide) ?_
  refine lv_icmp_lt (tgt := 13) hx hb dX7_isFull_6 (by decide) (fun c6 => ?_) (fun c6 => ?_)
  ·
    have i6 := ci_lt (x := tn) (y := 8) rfl (show (8 : Int32).toInt = 8 by decide) c6
    refine lv_iconst (v := 0) hx hb dX7_isFull_13 (by decide) ?_
    exact cs_zret F hr hlk hQ St () (r := 0) rfl (Or.inr ⟨rfl, by omega⟩) [0] rfl (by decide) [] rfl (by decide) (by decide) dX7_isFull_14
  ·
    have i6 := ci_nlt (x := tn) (y := 8) rfl (show (8 : Int32).toInt = 8 by decide) c6
    refine lv_iconst (v := 1) hx hb dX7_isFull_9 (by decide) ?_
    refine lv_goto (tgt := 14) hx hb dX7_isFull_10 (by decide) ?_
    exact cs_zret F hr hlk hQ St () (r := 1) rfl (Or.inl ⟨rfl, by omega⟩) [0] rfl (by decide) [] rfl (by decide) (by decide) dX7_isFull_14
set_option maxHeartbeats 4000000 in
set_option maxRecDepth 100000 in
theorem x7_at (l : Launch) (G : va_G) (k : Nat → Nat) (sz : Nat) (h : Nat) (b : Nat) (cf : ClassId) (tn : Int32) (td : Int32) (fs : Nat → Option Nat) (x : Int32) (ht0 : 0 ≤ tn.toInt) (ht1 : tn.toInt ≤ 8) : Met l yX7_at (Cond.code yX7_at cX7_at 2 (some (.object "TowerAppeal$Stage")) :: tb) ({ frames := 0, cells := 0, slots := 0, locals := 0 } : Room) (va_Pc [.ref h, .int x] (cP G k [(h, .inr (7, [.ref b, .int tn, .int td])), (b, .inl (cf, 8, .inr (.inr (.inr (.inr fs)))))] [(cf, .object "TowerAppeal$Stage")] sz)) (va_Qq (fun (r : Option Nat) (_ : Unit) => ((r = none) ∧ (¬ (0 ≤ x.toInt ∧ x.toInt < tn.toInt))) ∨ ((r = fs x.toNatClampNeg) ∧ (0 ≤ x.toInt ∧ x.toInt < tn.toInt))) (cB G (fun (_ : Unit) => [(h, .inr (7, [.ref b, .int tn, .int td])), (b, .inl (cf, 8, .inr (.inr (.inr (.inr fs)))))]) (fun (_ : Unit) => []) (va_A [(h, .inr (7, [.ref b, .int tn, .int td])), (b, .inl (cf, 8, .inr (.inr (.inr (.inr fs)))))] sz)) (va_A [(h, .inr (7, [.ref b, .int tn, .int td])), (b, .inl (cf, 8, .inr (.inr (.inr (.inr fs)))))] sz)) 0 0 (va_A [(h, .inr (7, [.ref b, .int tn, .int td])), (b, .inl (cf, 8, .inr (.inr (.inr (.inr fs)))))] sz) := by
  refine ofC_q (cc := cX7_at) (maxL := 2) (ret := (some (.object "TowerAppeal$Stage"))) (by decide) rfl (Nat.le_of_ble_eq_true rfl) ?_
  intro p e s m args below meth c A ls Q F hr hin hlk St hl hQ
  have hx := F.1
  have hb := F.2.1
  have hl : lv_has ls 2 [(0, .ref h), (1, .int x)] := hl
  have St : cS G k [(h, .inr (7, [.ref b, .int tn, .int td])), (b, .inl (cf, 8, .inr (.inr (.inr (.inr fs)))))] [(cf, .object "TowerAppeal$Stage")] A s s.heap [] := St
  refine lv_iload_n hx hb dX7_at_0 rfl (lv_at hl 1 rfl) ?_
  refine lv_if_lt (tgt := 27) hx hb dX7_at_1 (by decide) (fun c1 => ?_) (fun c1 => ?_)
  ·
    have i1 := ci_lt (x := x) (y := 0) rfl (show (0 : Int32).toInt = 0 by decide) c1
    refine lv_null hx hb dX7_at_27 ?_
    exact cs_qret F hr (Or.inl ⟨_, rfl⟩) hlk hQ St () none rfl (Or.inl ⟨rfl, by omega⟩) [0, 1] rfl (by decide) [] rfl (by decide) (by decide) dX7_at_28
  ·
    have i1 := ci_nlt (x := x) (y := 0) rfl (show (0 : Int32).toInt = 0 by decide) c1
    refine lv_iload_n hx hb dX7_at_4 rfl (lv_at hl 1 rfl) ?_
    refine lv_aload_n hx hb dX7_at_5 rfl (lv_at hl 0 rfl) ?_
    refine cs_get F St 0 rfl rfl inX7 1 (by decide) kf_X7_17 rfl dX7_at_6 ?_
    refine lv_icmp_ge (tgt := 27) hx hb dX7_at_9 (by decide) (fun c9 => ?_) (fun c9 => ?_)
    ·
      have i9 := ci_le (x := tn) (y := x) rfl rfl c9
      refine lv_null hx hb dX7_at_27 ?_
      exact cs_qret F hr (Or.inl ⟨_, rfl⟩) hlk hQ St () none rfl (Or.inl ⟨rfl, by omega⟩) [0, 1] rfl (by decide) [] rfl (by decide) (by decide) dX7_at_28
    ·
      have i9 := ci_nle (x := tn) (y := x) rfl rfl c9
      refine lv_iload_n hx hb dX7_at_12 rfl (lv_at hl 1 rfl) ?_
      refine lv_bipush (v := 8) hx hb dX7_at_13 (by decide) ?_
      refine lv_icmp_ge (tgt := 27) hx hb dX7_at_15 (by decide) (fun c15 => ?_) (fun c15 => ?_)
      ·
        have i15 := ci_le (x := 8) (y := x) (show (8 : Int32).toInt = 8 by decide) rfl c15
        refine lv_null hx hb dX7_at_27 ?_
        exact cs_qret F hr (Or.inl ⟨_, rfl⟩) hlk hQ St () none rfl (Or.inl ⟨rfl, by omega⟩) [0, 1] rfl (by decide) [] rfl (by decide) (by decide) dX7_at_28
      ·
        have i15 := ci_nle (x := 8) (y := x) (show (8 : Int32).toInt = 8 by decide) rfl c15
        refine lv_aload_n hx hb dX7_at_18 rfl (lv_at hl 0 rfl) ?_
        refine cs_get F St 0 rfl rfl inX7 0 (by decide) kf_X7_11 rfl dX7_at_19 ?_
        refine lv_iload_n hx hb dX7_at_22 rfl (lv_at hl 1 rfl) ?_
        refine va_aldq hx hb St.1 St.2.1 1 0 rfl rfl (vp_in_iff.mpr ⟨by omega, by omega⟩) dX7_at_23 ?_
        refine lv_goto (tgt := 28) hx hb dX7_at_24 (by decide) ?_
        exact cs_qret F hr (Or.inl ⟨_, rfl⟩) hlk hQ St () (fs (x : Int32).toNatClampNeg) rfl (Or.inr ⟨rfl, by omega⟩) [0, 1] rfl (by decide) [] rfl (by decide) (by decide) dX7_at_28
set_option maxHeartbeats 4000000 in
set_option maxRecDepth 100000 in
theorem x2_lapsedNow (l : Launch) (G : va_G) (k : Nat → Nat) (sz : Nat) (h : Nat) (b : Nat) (ce : ClassId) (bn : Int32) (fa : Nat → Option Nat) (ci : ClassId) (nP : Nat) (bP : Nat → va_W) (hnP : (nP : Int) = bn.toInt) (hn60 : nP ≤ 60) (hB : ∀ i, i < nP → okP ci (fa i) (bP i)) : Met l yX2_lapsedNow (Cond.code yX2_lapsedNow cX2_lapsedNow 4 (some .int) :: tb) ({ frames := 1, cells := 0, slots := 0, locals := 21 } : Room) (va_Pc [.ref h] (cP G k ([(h, .inr (2, [.ref b, .int bn])), (b, .inl (ce, 60, .inr (.inr (.inr (.inr fa)))))] ++ (PW nP bP ++ [])) [(ci, .int), (ce, .object "TowerAppeal$Pledge")] sz)) (va_Qi (fun (r : Int32) (bP2 : (Nat → va_W)) => (∀ i, i < nP → okP ci (fa i) (bP2 i))) (cB G (fun (bP2 : (Nat → va_W)) => ([(h, .inr (2, [.ref b, .int bn])), (b, .inl (ce, 60, .inr (.inr (.inr (.inr fa)))))] ++ (PW nP bP2 ++ []))) (fun (bP2 : (Nat → va_W)) => []) (va_A ([(h, .inr (2, [.ref b, .int bn])), (b, .inl (ce, 60, .inr (.inr (.inr (.inr fa)))))] ++ (PW nP bP ++ [])) sz)) (va_A ([(h, .inr (2, [.ref b, .int bn])), (b, .inl (ce, 60, .inr (.inr (.inr (.inr fa)))))] ++ (PW nP bP ++ [])) sz)) 0 0 (va_A ([(h, .inr (2, [.ref b, .int bn])), (b, .inl (ce, 60, .inr (.inr (.inr (.inr fa)))))] ++ (PW nP bP ++ [])) sz) := by
  refine ofC_i (cc := cX2_lapsedNow) (maxL := 4) (ret := (some .int)) (by decide) rfl (Nat.le_of_ble_eq_true rfl) ?_
  intro p e s m args below meth c A ls Q F hr hin hlk St hl hQ
  have hx := F.1
  have hb := F.2.1
  have hl : lv_has ls 4 [(0, .ref h)] := hl
  have St : cS G k ([(h, .inr (2, [.ref b, .int bn])), (b, .inl (ce, 60, .inr (.inr (.inr (.inr fa)))))] ++ (PW nP bP ++ [])) [(ci, .int), (ce, .object "TowerAppeal$Pledge")] A s s.heap [] := St
  have y0 : (0 : Int32).toInt = 0 := by decide
  refine lv_iconst (v := 0) hx hb dX2_lapsedNow_0 (by decide) ?_
  refine lv_istore_n (lv' := [(1, .int 0), (0, .ref h)]) hx hb dX2_lapsedNow_1 rfl hl (by decide) rfl (fun ls hl => ?_)
  refine lv_iconst (v := 0) hx hb dX2_lapsedNow_2 (by decide) ?_
  refine lv_istore_n (lv' := [(2, .int 0), (1, .int 0), (0, .ref h)]) hx hb dX2_lapsedNow_3 rfl hl (by decide) rfl (fun ls hl => ?_)
  have lp4 : ∀ (n : Nat) (kk : Int32) (bq : Nat → va_W) (nn : Int32) (H : Heap) (locs : List Loc) (ls : Array Slot), ((0 ≤ kk.toInt ∧ kk.toInt ≤ bn.toInt) ∧ ∀ i, i < nP → okP ci (fa i) (bq i)) → ((60 - kk.toInt).toNat) < n → cS G k ([(h, .inr (2, [.ref b, .int bn])), (b, .inl (ce, 60, .inr (.inr (.inr (.inr fa)))))] ++ (PW nP bq ++ [])) [(ci, .int), (ce, .object "TowerAppeal$Pledge")] A s H locs → lv_has ls 4 [(2, .int kk), (1, .int nn), (0, .ref h)] → W p l e ({ frames := 1, cells := 0, slots := 0, locals := 21 } : Room) s m args below meth c H locs 0 0 Q (F0 m 4 ls []) := by
    intro n
    induction n with
    | zero => intro kk bq nn H locs ls hI hn; exact absurd hn (Nat.not_lt_zero _)
    | succ n ih =>
      intro kk bq nn H locs ls hI hn St hl
      obtain ⟨⟨hI0, hI1⟩, hBq⟩ := hI
      skip
      refine lv_iload_n hx hb dX2_lapsedNow_4 rfl (lv_at hl 0 rfl) ?_
      refine lv_aload_n hx hb dX2_lapsedNow_5 rfl (lv_at hl 2 rfl) ?_
      refine ct_get F St 0 rfl rfl inX2 1 (by decide) kf_X2_17 rfl dX2_lapsedNow_6 ?_
      refine lv_icmp_ge (tgt := 38) hx hb dX2_lapsedNow_9 (by decide) (fun c9 => ?_) (fun c9 => ?_)
      ·
        have i9 := ci_le (x := bn) (y := kk) rfl rfl c9
        refine lv_iload_n hx hb dX2_lapsedNow_38 rfl (lv_at hl 1 rfl) ?_
        have St : cS G k ([(h, .inr (2, [.ref b, .int bn])), (b, .inl (ce, 60, .inr (.inr (.inr (.inr fa)))))] ++ (PW nP bq ++ [])) [(ci, .int), (ce, .object "TowerAppeal$Pledge")] A s _ _ := ct_pick St [0, 1] rfl (by decide) [0, 1] rfl
        exact cs_iret F hr hlk hQ St bq (r := nn) hBq (List.range _) (ix_all (w := ([(h, .inr (2, [.ref b, .int bn])), (b, .inl (ce, 60, .inr (.inr (.inr (.inr fa)))))] ++ (PW nP bq ++ [])))) nd_C [] rfl (by decide) (by decide) dX2_lapsedNow_39
      ·
        have i9 := ci_nle (x := bn) (y := kk) rfl rfl c9
        refine lv_aload_n hx hb dX2_lapsedNow_12 rfl (lv_at hl 2 rfl) ?_
        refine lv_iload_n hx hb dX2_lapsedNow_13 rfl (lv_at hl 0 rfl) ?_
        refine ct_q St [0, 1] [] (wc := [(h, .inr (2, [.ref b, .int bn])), (b, .inl (ce, 60, .inr (.inr (.inr (.inr fa)))))]) (wr := []) rfl rfl (by decide) (by decide) (va_runV (As := [.int kk]) (rest := []) F (x2_at l G k _ h b ce bn fa kk (by omega) (by omega)) (cwVt F mf_X2_at km_X2_21 rfl rfl ⟨Nat.le_of_ble_eq_true rfl, Nat.le_of_ble_eq_true rfl⟩) (ct_preV St [0, 1] rfl (by decide) [1] rfl (ci := 2) (q0 := 0) rfl rfl) rfl rfl hl.1 rfl (lv_room (Nat.le_of_ble_eq_true rfl)) dX2_lapsedNow_14 ⟨Nat.le_of_ble_eq_true rfl, Nat.le_of_ble_eq_true rfl⟩) (fun r_1 u_2 H locs hw St => ?_)
        try dsimp only at hw
        rcases hw with ⟨z_3, hf_4⟩ | ⟨z_5, hf_6⟩
        ·
          subst r_1
          have St : cS G k ([(h, .inr (2, [.ref b, .int bn])), (b, .inl (ce, 60, .inr (.inr (.inr (.inr fa)))))] ++ (PW nP bq ++ [])) [(ci, .int), (ce, .object "TowerAppeal$Pledge")] A s H locs := St
          show W _ _ _ _ _ _ _ _ _ _ _ _ _ _ _ (F0 m 17 ls [.null])
          refine lv_astore_nN (lv' := [(3, .null), (2, .int kk), (1, .int nn), (0, .ref h)]) hx hb dX2_lapsedNow_17 rfl hl (by decide) rfl (fun ls hl => ?_)
          refine lv_aload_nN hx hb dX2_lapsedNow_18 rfl (lv_at hl 0 rfl) ?_
          refine lv_ifnullN (tgt := 32) hx hb dX2_lapsedNow_19 (by decide) ?_
          obtain ⟨y_7, ey_7⟩ : ∃ zz : Int32, zz = kk + 1 := ⟨_, rfl⟩
          first | have jy_7 : y_7.toInt = kk.toInt + 1 := (by have q9 := ci_add (x := kk) rfl (show (1 : Int32).toInt = 1 by decide) ey_7; omega) | have jy_7 := ci_add (x := kk) rfl (show (1 : Int32).toInt = 1 by decide) ey_7
          refine lv_iinc (v := y_7) (lv' := [(2, .int y_7), (3, .null), (1, .int nn), (0, .ref h)]) hx hb dX2_lapsedNow_32 hl (k := 1) rfl (by rw [ey_7]; rfl) (by decide) rfl (fun ls hl => ?_)
          refine lv_goto (tgt := 4) hx hb dX2_lapsedNow_35 (by decide) ?_
          skip
          exact ih y_7 bq nn _ _ _ ⟨⟨by omega, by omega⟩, hBq⟩ (by omega) (show cS G k ([(h, .inr (2, [.ref b, .int bn])), (b, .inl (ce, 60, .inr (.inr (.inr (.inr fa)))))] ++ (PW nP bq ++ [])) [(ci, .int), (ce, .object "TowerAppeal$Pledge")] A s H locs from ct_pick St [0, 1] rfl (by decide) [0, 1] rfl) (lv_sub hl [0, 2, 3] rfl)
        ·
          have St : cS G k ([(h, .inr (2, [.ref b, .int bn])), (b, .inl (ce, 60, .inr (.inr (.inr (.inr fa)))))] ++ (PW nP bq ++ [])) [(ci, .int), (ce, .object "TowerAppeal$Pledge")] A s H locs := St
          obtain ⟨h_8, o0_9, o1_10, o2_11, N0_12, pg_13, pf_14, pe_15, pz_16, pp_17, pa_18, pl_19, pk_20, pb_21, w0_22, w1_23, w2_24, q_25, q_26, q_27, q_28, q_29⟩ := (hBq _ (nc_lt (x := kk) (n := nP) (by omega) (by omega)))
          have hj_30 := (nc_lt (x := kk) (n := nP) (by omega) (by omega))
          have St : cS G k ([(h, .inr (2, [.ref b, .int bn])), (b, .inl (ce, 60, .inr (.inr (.inr (.inr fa))))), (h_8, .inr (1, [.int pg_13, .int pf_14, .int pe_15, .int pz_16, .ref o0_9, .ref o1_10, .ref o2_11, .int pp_17, .int pa_18, .int pl_19, .int pk_20, .int pb_21])), (o0_9, .inl (ci, N0_12, .inl w0_22)), (o1_10, .inl (ci, N0_12, .inl w1_23)), (o2_11, .inl (ci, N0_12, .inl w2_24))] ++ (PWx nP kk.toNatClampNeg bq ++ [])) [(ci, .int), (ce, .object "TowerAppeal$Pledge")] A s H locs := cs_pull (cs := [(h, .inr (2, [.ref b, .int bn])), (b, .inl (ce, 60, .inr (.inr (.inr (.inr fa)))))]) (rs := []) (b := [(h_8, .inr (1, [.int pg_13, .int pf_14, .int pe_15, .int pz_16, .ref o0_9, .ref o1_10, .ref o2_11, .int pp_17, .int pa_18, .int pl_19, .int pk_20, .int pb_21])), (o0_9, .inl (ci, N0_12, .inl w0_22)), (o1_10, .inl (ci, N0_12, .inl w1_23)), (o2_11, .inl (ci, N0_12, .inl w2_24))]) St hj_30 q_29
          obtain rfl : r_1 = some h_8 := z_5.trans q_25
          show W _ _ _ _ _ _ _ _ _ _ _ _ _ _ _ (F0 m 17 ls [.ref h_8])
          refine lv_astore_n (lv' := [(3, .ref h_8), (2, .int kk), (1, .int nn), (0, .ref h)]) hx hb dX2_lapsedNow_17 rfl hl (by decide) rfl (fun ls hl => ?_)
          refine lv_aload_n hx hb dX2_lapsedNow_18 rfl (lv_at hl 0 rfl) ?_
          refine lv_ifnull hx hb dX2_lapsedNow_19 ?_
          refine lv_aload_n hx hb dX2_lapsedNow_22 rfl (lv_at hl 0 rfl) ?_
          refine ct_i St [2, 3, 4, 5] [0, 1] (wc := [(h_8, .inr (1, [.int pg_13, .int pf_14, .int pe_15, .int pz_16, .ref o0_9, .ref o1_10, .ref o2_11, .int pp_17, .int pa_18, .int pl_19, .int pk_20, .int pb_21])), (o0_9, .inl (ci, N0_12, .inl w0_22)), (o1_10, .inl (ci, N0_12, .inl w1_23)), (o2_11, .inl (ci, N0_12, .inl w2_24))]) (wr := [(h, .inr (2, [.ref b, .int bn])), (b, .inl (ce, 60, .inr (.inr (.inr (.inr fa)))))]) rfl rfl (by decide) (by decide) (va_runV (As := []) (rest := []) F (x1_isLapsed l G k _ h_8 o0_9 o1_10 o2_11 N0_12 ci pg_13 pf_14 pe_15 pz_16 pp_17 pa_18 pl_19 pk_20 pb_21 w0_22 w1_23 w2_24 (by first | assumption | omega) (by first | assumption | omega) (by first | assumption | exact Or.inl rfl | exact Or.inr rfl)) (cwVt F mf_X1_isLapsed km_X2_25 rfl rfl ⟨Nat.le_of_ble_eq_true rfl, Nat.le_of_ble_eq_true rfl⟩) (ct_preV St [2, 3, 4, 5] rfl (by decide) [0] rfl (ci := 1) (q0 := 2) rfl rfl) rfl rfl hl.1 rfl (lv_room (Nat.le_of_ble_eq_true rfl)) dX2_lapsedNow_23 ⟨Nat.le_of_ble_eq_true rfl, Nat.le_of_ble_eq_true rfl⟩) (fun r_31 u_32 H locs hw St => ?_)
          try dsimp only at hw
          have z_33 := hw
          subst r_31
          have St : cS G k ([(h, .inr (2, [.ref b, .int bn])), (b, .inl (ce, 60, .inr (.inr (.inr (.inr fa))))), (h_8, .inr (1, [.int pg_13, .int pf_14, .int pe_15, .int pz_16, .ref o0_9, .ref o1_10, .ref o2_11, .int pp_17, .int pa_18, .int pl_19, .int pk_20, .int pb_21])), (o0_9, .inl (ci, N0_12, .inl w0_22)), (o1_10, .inl (ci, N0_12, .inl w1_23)), (o2_11, .inl (ci, N0_12, .inl w2_24))] ++ (PWx nP kk.toNatClampNeg bq ++ [])) [(ci, .int), (ce, .object "TowerAppeal$Pledge")] A s H locs := St
          refine lv_if_eq (tgt := 32) hx hb dX2_lapsedNow_26 (by decide) (fun c26 => ?_) (fun c26 => ?_)
          ·
            have i26 := ci_eq (x := pl_19) (y := 0) rfl (show (0 : Int32).toInt = 0 by decide) c26
            obtain ⟨y_34, ey_34⟩ : ∃ zz : Int32, zz = kk + 1 := ⟨_, rfl⟩
            first | have jy_34 : y_34.toInt = kk.toInt + 1 := (by have q9 := ci_add (x := kk) rfl (show (1 : Int32).toInt = 1 by decide) ey_34; omega) | have jy_34 := ci_add (x := kk) rfl (show (1 : Int32).toInt = 1 by decide) ey_34
            refine lv_iinc (v := y_34) (lv' := [(2, .int y_34), (3, .ref h_8), (1, .int nn), (0, .ref h)]) hx hb dX2_lapsedNow_32 hl (k := 1) rfl (by rw [ey_34]; rfl) (by decide) rfl (fun ls hl => ?_)
            refine lv_goto (tgt := 4) hx hb dX2_lapsedNow_35 (by decide) ?_
            have St : cS G k ([(h, .inr (2, [.ref b, .int bn])), (b, .inl (ce, 60, .inr (.inr (.inr (.inr fa))))), (h_8, .inr (1, [.int pg_13, .int pf_14, .int pe_15, .int pz_16, .ref o0_9, .ref o1_10, .ref o2_11, .int pp_17, .int pa_18, .int pl_19, .int pk_20, .int pb_21])), (o0_9, .inl (ci, N0_12, .inl w0_22)), (o1_10, .inl (ci, N0_12, .inl w1_23)), (o2_11, .inl (ci, N0_12, .inl w2_24))] ++ (PWx nP kk.toNatClampNeg bq ++ [])) [(ci, .int), (ce, .object "TowerAppeal$Pledge")] A s H locs := ct_pick St [0, 1, 2, 3, 4, 5] rfl (by decide) [0, 1] rfl
            have St := cs_push (cs := [(h, .inr (2, [.ref b, .int bn])), (b, .inl (ce, 60, .inr (.inr (.inr (.inr fa)))))]) (b := [(h_8, .inr (1, [.int pg_13, .int pf_14, .int pe_15, .int pz_16, .ref o0_9, .ref o1_10, .ref o2_11, .int pp_17, .int pa_18, .int pl_19, .int pk_20, .int pb_21])), (o0_9, .inl (ci, N0_12, .inl w0_22)), (o1_10, .inl (ci, N0_12, .inl w1_23)), (o2_11, .inl (ci, N0_12, .inl w2_24))]) (rs := []) St hj_30
            obtain ⟨B_35, eB_35⟩ : ∃ zz : Nat → va_W, zz = setB bq kk.toNatClampNeg [(h_8, .inr (1, [.int pg_13, .int pf_14, .int pe_15, .int pz_16, .ref o0_9, .ref o1_10, .ref o2_11, .int pp_17, .int pa_18, .int pl_19, .int pk_20, .int pb_21])), (o0_9, .inl (ci, N0_12, .inl w0_22)), (o1_10, .inl (ci, N0_12, .inl w1_23)), (o2_11, .inl (ci, N0_12, .inl w2_24))] := ⟨_, rfl⟩
            rw [← eB_35] at St
            have hB_36 : ∀ i, i < nP → okP ci (fa i) (B_35 i) := by rw [eB_35]; exact ok_set (P := fun i b => okP ci (fa i) b) hBq ⟨h_8, o0_9, o1_10, o2_11, N0_12, pg_13, pf_14, pe_15, pz_16, pp_17, pa_18, pl_19, pk_20, pb_21, w0_22, w1_23, w2_24, q_25, q_26, q_27, q_28, rfl⟩
            have St : cS G k ([(h, .inr (2, [.ref b, .int bn])), (b, .inl (ce, 60, .inr (.inr (.inr (.inr fa)))))] ++ (PW nP B_35 ++ [])) [(ci, .int), (ce, .object "TowerAppeal$Pledge")] A s H locs := St
            skip
            exact ih y_34 B_35 nn _ _ _ ⟨⟨by omega, by omega⟩, hB_36⟩ (by omega) (show cS G k ([(h, .inr (2, [.ref b, .int bn])), (b, .inl (ce, 60, .inr (.inr (.inr (.inr fa)))))] ++ (PW nP B_35 ++ [])) [(ci, .int), (ce, .object "TowerAppeal$Pledge")] A s H locs from ct_pick St [0, 1] rfl (by decide) [0, 1] rfl) (lv_sub hl [0, 2, 3] rfl)
          ·
            have i26 := ci_ne (x := pl_19) (y := 0) rfl (show (0 : Int32).toInt = 0 by decide) c26
            obtain ⟨y_37, ey_37⟩ : ∃ zz : Int32, zz = nn + 1 := ⟨_, rfl⟩
            first | have jy_37 : y_37.toInt = nn.toInt + 1 := (by have q9 := ci_add (x := nn) rfl (show (1 : Int32).toInt = 1 by decide) ey_37; omega) | have jy_37 := ci_add (x := nn) rfl (show (1 : Int32).toInt = 1 by decide) ey_37
            refine lv_iinc (v := y_37) (lv' := [(1, .int y_37), (3, .ref h_8), (2, .int kk), (0, .ref h)]) hx hb dX2_lapsedNow_29 hl (k := 2) rfl (by rw [ey_37]; rfl) (by decide) rfl (fun ls hl => ?_)
            obtain ⟨y_38, ey_38⟩ : ∃ zz : Int32, zz = kk + 1 := ⟨_, rfl⟩
            first | have jy_38 : y_38.toInt = kk.toInt + 1 := (by have q9 := ci_add (x := kk) rfl (show (1 : Int32).toInt = 1 by decide) ey_38; omega) | have jy_38 := ci_add (x := kk) rfl (show (1 : Int32).toInt = 1 by decide) ey_38
            refine lv_iinc (v := y_38) (lv' := [(2, .int y_38), (1, .int y_37), (3, .ref h_8), (0, .ref h)]) hx hb dX2_lapsedNow_32 hl (k := 2) rfl (by rw [ey_38]; rfl) (by decide) rfl (fun ls hl => ?_)
            refine lv_goto (tgt := 4) hx hb dX2_lapsedNow_35 (by decide) ?_
            have St : cS G k ([(h, .inr (2, [.ref b, .int bn])), (b, .inl (ce, 60, .inr (.inr (.inr (.inr fa))))), (h_8, .inr (1, [.int pg_13, .int pf_14, .int pe_15, .int pz_16, .ref o0_9, .ref o1_10, .ref o2_11, .int pp_17, .int pa_18, .int pl_19, .int pk_20, .int pb_21])), (o0_9, .inl (ci, N0_12, .inl w0_22)), (o1_10, .inl (ci, N0_12, .inl w1_23)), (o2_11, .inl (ci, N0_12, .inl w2_24))] ++ (PWx nP kk.toNatClampNeg bq ++ [])) [(ci, .int), (ce, .object "TowerAppeal$Pledge")] A s H locs := ct_pick St [0, 1, 2, 3, 4, 5] rfl (by decide) [0, 1] rfl
            have St := cs_push (cs := [(h, .inr (2, [.ref b, .int bn])), (b, .inl (ce, 60, .inr (.inr (.inr (.inr fa)))))]) (b := [(h_8, .inr (1, [.int pg_13, .int pf_14, .int pe_15, .int pz_16, .ref o0_9, .ref o1_10, .ref o2_11, .int pp_17, .int pa_18, .int pl_19, .int pk_20, .int pb_21])), (o0_9, .inl (ci, N0_12, .inl w0_22)), (o1_10, .inl (ci, N0_12, .inl w1_23)), (o2_11, .inl (ci, N0_12, .inl w2_24))]) (rs := []) St hj_30
            obtain ⟨B_39, eB_39⟩ : ∃ zz : Nat → va_W, zz = setB bq kk.toNatClampNeg [(h_8, .inr (1, [.int pg_13, .int pf_14, .int pe_15, .int pz_16, .ref o0_9, .ref o1_10, .ref o2_11, .int pp_17, .int pa_18, .int pl_19, .int pk_20, .int pb_21])), (o0_9, .inl (ci, N0_12, .inl w0_22)), (o1_10, .inl (ci, N0_12, .inl w1_23)), (o2_11, .inl (ci, N0_12, .inl w2_24))] := ⟨_, rfl⟩
            rw [← eB_39] at St
            have hB_40 : ∀ i, i < nP → okP ci (fa i) (B_39 i) := by rw [eB_39]; exact ok_set (P := fun i b => okP ci (fa i) b) hBq ⟨h_8, o0_9, o1_10, o2_11, N0_12, pg_13, pf_14, pe_15, pz_16, pp_17, pa_18, pl_19, pk_20, pb_21, w0_22, w1_23, w2_24, q_25, q_26, q_27, q_28, rfl⟩
            have St : cS G k ([(h, .inr (2, [.ref b, .int bn])), (b, .inl (ce, 60, .inr (.inr (.inr (.inr fa)))))] ++ (PW nP B_39 ++ [])) [(ci, .int), (ce, .object "TowerAppeal$Pledge")] A s H locs := St
            skip
            exact ih y_38 B_39 y_37 _ _ _ ⟨⟨by omega, by omega⟩, hB_40⟩ (by omega) (show cS G k ([(h, .inr (2, [.ref b, .int bn])), (b, .inl (ce, 60, .inr (.inr (.inr (.inr fa)))))] ++ (PW nP B_39 ++ [])) [(ci, .int), (ce, .object "TowerAppeal$Pledge")] A s H locs from ct_pick St [0, 1] rfl (by decide) [0, 1] rfl) (lv_sub hl [0, 1, 3] rfl)
  exact lp4 61 0 bP 0 _ _ _ ⟨⟨by omega, by omega⟩, hB⟩ (by omega) St (lv_sub hl [0, 1, 2] rfl)
set_option maxHeartbeats 4000000 in
set_option maxRecDepth 100000 in
theorem x2_lapseAll (l : Launch) (G : va_G) (k : Nat → Nat) (sz : Nat) (h : Nat) (b : Nat) (ce : ClassId) (bn : Int32) (fa : Nat → Option Nat) (ci : ClassId) (nP : Nat) (bP : Nat → va_W) (x : Int32) (y : Int32) (hnP : (nP : Int) = bn.toInt) (hn60 : nP ≤ 60) (hB : ∀ i, i < nP → okP ci (fa i) (bP i)) : Met l yX2_lapseAll (Cond.code yX2_lapseAll cX2_lapseAll 5 none :: tb) ({ frames := 2, cells := 0, slots := 0, locals := 44 } : Room) (va_Pc [.ref h, .int x, .int y] (cP G k ([(h, .inr (2, [.ref b, .int bn])), (b, .inl (ce, 60, .inr (.inr (.inr (.inr fa)))))] ++ (PW nP bP ++ [])) [(ci, .int), (ce, .object "TowerAppeal$Pledge")] sz)) (va_Qv (fun (bP2 : (Nat → va_W)) => (∀ i, i < nP → okP ci (fa i) (bP2 i))) (cB G (fun (bP2 : (Nat → va_W)) => ([(h, .inr (2, [.ref b, .int bn])), (b, .inl (ce, 60, .inr (.inr (.inr (.inr fa)))))] ++ (PW nP bP2 ++ []))) (fun (bP2 : (Nat → va_W)) => []) (va_A ([(h, .inr (2, [.ref b, .int bn])), (b, .inl (ce, 60, .inr (.inr (.inr (.inr fa)))))] ++ (PW nP bP ++ [])) sz)) (va_A ([(h, .inr (2, [.ref b, .int bn])), (b, .inl (ce, 60, .inr (.inr (.inr (.inr fa)))))] ++ (PW nP bP ++ [])) sz)) 0 0 (va_A ([(h, .inr (2, [.ref b, .int bn])), (b, .inl (ce, 60, .inr (.inr (.inr (.inr fa)))))] ++ (PW nP bP ++ [])) sz) := by
  refine ofC_v (cc := cX2_lapseAll) (maxL := 5) (ret := none) (by decide) rfl (Nat.le_of_ble_eq_true rfl) ?_
  intro p e s m args below meth c A ls Q F hr hin hlk St hl hQ
  have hx := F.1
  have hb := F.2.1
  have hl : lv_has ls 5 [(0, .ref h), (1, .int x), (2, .int y)] := hl
  have St : cS G k ([(h, .inr (2, [.ref b, .int bn])), (b, .inl (ce, 60, .inr (.inr (.inr (.inr fa)))))] ++ (PW nP bP ++ [])) [(ci, .int), (ce, .object "TowerAppeal$Pledge")] A s s.heap [] := St
  have y0 : (0 : Int32).toInt = 0 := by decide
  refine lv_iconst (v := 0) hx hb dX2_lapseAll_0 (by decide) ?_
  refine lv_istore_n (lv' := [(3, .int 0), (0, .ref h), (1, .int x), (2, .int y)]) hx hb dX2_lapseAll_1 rfl hl (by decide) rfl (fun ls hl => ?_)
  have lp2 : ∀ (n : Nat) (kk : Int32) (bq : Nat → va_W) (H : Heap) (locs : List Loc) (ls : Array Slot), ((0 ≤ kk.toInt ∧ kk.toInt ≤ bn.toInt) ∧ ∀ i, i < nP → okP ci (fa i) (bq i)) → ((60 - kk.toInt).toNat) < n → cS G k ([(h, .inr (2, [.ref b, .int bn])), (b, .inl (ce, 60, .inr (.inr (.inr (.inr fa)))))] ++ (PW nP bq ++ [])) [(ci, .int), (ce, .object "TowerAppeal$Pledge")] A s H locs → lv_has ls 5 [(3, .int kk), (0, .ref h), (1, .int x), (2, .int y)] → W p l e ({ frames := 2, cells := 0, slots := 0, locals := 44 } : Room) s m args below meth c H locs 0 0 Q (F0 m 2 ls []) := by
    intro n
    induction n with
    | zero => intro kk bq H locs ls hI hn; exact absurd hn (Nat.not_lt_zero _)
    | succ n ih =>
      intro kk bq H locs ls hI hn St hl
      obtain ⟨⟨hI0, hI1⟩, hBq⟩ := hI
      skip
      refine lv_iload_n hx hb dX2_lapseAll_2 rfl (lv_at hl 0 rfl) ?_
      refine lv_aload_n hx hb dX2_lapseAll_3 rfl (lv_at hl 1 rfl) ?_
      refine ct_get F St 0 rfl rfl inX2 1 (by decide) kf_X2_17 rfl dX2_lapseAll_4 ?_
      refine lv_icmp_ge (tgt := 44) hx hb dX2_lapseAll_7 (by decide) (fun c7 => ?_) (fun c7 => ?_)
      ·
        have i7 := ci_le (x := bn) (y := kk) rfl rfl c7
        have St : cS G k ([(h, .inr (2, [.ref b, .int bn])), (b, .inl (ce, 60, .inr (.inr (.inr (.inr fa)))))] ++ (PW nP bq ++ [])) [(ci, .int), (ce, .object "TowerAppeal$Pledge")] A s _ _ := ct_pick St [0, 1] rfl (by decide) [0, 1] rfl
        exact cs_vret F hr hlk hQ St bq hBq (List.range _) (ix_all (w := ([(h, .inr (2, [.ref b, .int bn])), (b, .inl (ce, 60, .inr (.inr (.inr (.inr fa)))))] ++ (PW nP bq ++ [])))) nd_C [] rfl (by decide) (by decide) dX2_lapseAll_44
      ·
        have i7 := ci_nle (x := bn) (y := kk) rfl rfl c7
        refine lv_aload_n hx hb dX2_lapseAll_10 rfl (lv_at hl 1 rfl) ?_
        refine lv_iload_n hx hb dX2_lapseAll_11 rfl (lv_at hl 0 rfl) ?_
        refine ct_q St [0, 1] [] (wc := [(h, .inr (2, [.ref b, .int bn])), (b, .inl (ce, 60, .inr (.inr (.inr (.inr fa)))))]) (wr := []) rfl rfl (by decide) (by decide) (va_runV (As := [.int kk]) (rest := []) F (x2_at l G k _ h b ce bn fa kk (by omega) (by omega)) (cwVt F mf_X2_at km_X2_21 rfl rfl ⟨Nat.le_of_ble_eq_true rfl, Nat.le_of_ble_eq_true rfl⟩) (ct_preV St [0, 1] rfl (by decide) [1] rfl (ci := 2) (q0 := 0) rfl rfl) rfl rfl hl.1 rfl (lv_room (Nat.le_of_ble_eq_true rfl)) dX2_lapseAll_12 ⟨Nat.le_of_ble_eq_true rfl, Nat.le_of_ble_eq_true rfl⟩) (fun r_1 u_2 H locs hw St => ?_)
        try dsimp only at hw
        rcases hw with ⟨z_3, hf_4⟩ | ⟨z_5, hf_6⟩
        ·
          subst r_1
          have St : cS G k ([(h, .inr (2, [.ref b, .int bn])), (b, .inl (ce, 60, .inr (.inr (.inr (.inr fa)))))] ++ (PW nP bq ++ [])) [(ci, .int), (ce, .object "TowerAppeal$Pledge")] A s H locs := St
          show W _ _ _ _ _ _ _ _ _ _ _ _ _ _ _ (F0 m 15 ls [.null])
          refine lv_astoreN (lv' := [(4, .null), (3, .int kk), (0, .ref h), (1, .int x), (2, .int y)]) hx hb dX2_lapseAll_15 hl (by decide) rfl (fun ls hl => ?_)
          refine lv_aloadN hx hb dX2_lapseAll_17 (lv_at hl 0 rfl) ?_
          refine lv_ifnullN (tgt := 38) hx hb dX2_lapseAll_19 (by decide) ?_
          obtain ⟨y_7, ey_7⟩ : ∃ zz : Int32, zz = kk + 1 := ⟨_, rfl⟩
          first | have jy_7 : y_7.toInt = kk.toInt + 1 := (by have q9 := ci_add (x := kk) rfl (show (1 : Int32).toInt = 1 by decide) ey_7; omega) | have jy_7 := ci_add (x := kk) rfl (show (1 : Int32).toInt = 1 by decide) ey_7
          refine lv_iinc (v := y_7) (lv' := [(3, .int y_7), (4, .null), (0, .ref h), (1, .int x), (2, .int y)]) hx hb dX2_lapseAll_38 hl (k := 1) rfl (by rw [ey_7]; rfl) (by decide) rfl (fun ls hl => ?_)
          refine lv_goto (tgt := 2) hx hb dX2_lapseAll_41 (by decide) ?_
          skip
          exact ih y_7 bq _ _ _ ⟨⟨by omega, by omega⟩, hBq⟩ (by omega) (show cS G k ([(h, .inr (2, [.ref b, .int bn])), (b, .inl (ce, 60, .inr (.inr (.inr (.inr fa)))))] ++ (PW nP bq ++ [])) [(ci, .int), (ce, .object "TowerAppeal$Pledge")] A s H locs from ct_pick St [0, 1] rfl (by decide) [0, 1] rfl) (lv_sub hl [0, 2, 3, 4] rfl)
        ·
          have St : cS G k ([(h, .inr (2, [.ref b, .int bn])), (b, .inl (ce, 60, .inr (.inr (.inr (.inr fa)))))] ++ (PW nP bq ++ [])) [(ci, .int), (ce, .object "TowerAppeal$Pledge")] A s H locs := St
          obtain ⟨h_8, o0_9, o1_10, o2_11, N0_12, pg_13, pf_14, pe_15, pz_16, pp_17, pa_18, pl_19, pk_20, pb_21, w0_22, w1_23, w2_24, q_25, q_26, q_27, q_28, q_29⟩ := (hBq _ (nc_lt (x := kk) (n := nP) (by omega) (by omega)))
          have hj_30 := (nc_lt (x := kk) (n := nP) (by omega) (by omega))
          have St : cS G k ([(h, .inr (2, [.ref b, .int bn])), (b, .inl (ce, 60, .inr (.inr (.inr (.inr fa))))), (h_8, .inr (1, [.int pg_13, .int pf_14, .int pe_15, .int pz_16, .ref o0_9, .ref o1_10, .ref o2_11, .int pp_17, .int pa_18, .int pl_19, .int pk_20, .int pb_21])), (o0_9, .inl (ci, N0_12, .inl w0_22)), (o1_10, .inl (ci, N0_12, .inl w1_23)), (o2_11, .inl (ci, N0_12, .inl w2_24))] ++ (PWx nP kk.toNatClampNeg bq ++ [])) [(ci, .int), (ce, .object "TowerAppeal$Pledge")] A s H locs := cs_pull (cs := [(h, .inr (2, [.ref b, .int bn])), (b, .inl (ce, 60, .inr (.inr (.inr (.inr fa)))))]) (rs := []) (b := [(h_8, .inr (1, [.int pg_13, .int pf_14, .int pe_15, .int pz_16, .ref o0_9, .ref o1_10, .ref o2_11, .int pp_17, .int pa_18, .int pl_19, .int pk_20, .int pb_21])), (o0_9, .inl (ci, N0_12, .inl w0_22)), (o1_10, .inl (ci, N0_12, .inl w1_23)), (o2_11, .inl (ci, N0_12, .inl w2_24))]) St hj_30 q_29
          obtain rfl : r_1 = some h_8 := z_5.trans q_25
          show W _ _ _ _ _ _ _ _ _ _ _ _ _ _ _ (F0 m 15 ls [.ref h_8])
          refine lv_astore (lv' := [(4, .ref h_8), (3, .int kk), (0, .ref h), (1, .int x), (2, .int y)]) hx hb dX2_lapseAll_15 hl (by decide) rfl (fun ls hl => ?_)
          refine lv_aload hx hb dX2_lapseAll_17 (lv_at hl 0 rfl) ?_
          refine lv_ifnull hx hb dX2_lapseAll_19 ?_
          refine lv_aload hx hb dX2_lapseAll_22 (lv_at hl 0 rfl) ?_
          refine lv_iload_n hx hb dX2_lapseAll_24 rfl (lv_at hl 3 rfl) ?_
          refine ct_i St [2, 3, 4, 5] [0, 1] (wc := [(h_8, .inr (1, [.int pg_13, .int pf_14, .int pe_15, .int pz_16, .ref o0_9, .ref o1_10, .ref o2_11, .int pp_17, .int pa_18, .int pl_19, .int pk_20, .int pb_21])), (o0_9, .inl (ci, N0_12, .inl w0_22)), (o1_10, .inl (ci, N0_12, .inl w1_23)), (o2_11, .inl (ci, N0_12, .inl w2_24))]) (wr := [(h, .inr (2, [.ref b, .int bn])), (b, .inl (ce, 60, .inr (.inr (.inr (.inr fa)))))]) rfl rfl (by decide) (by decide) (va_runV (As := [.int x]) (rest := []) F (x1_overdue l G k _ h_8 o0_9 o1_10 o2_11 N0_12 ci pg_13 pf_14 pe_15 pz_16 pp_17 pa_18 pl_19 pk_20 pb_21 w0_22 w1_23 w2_24 x (by first | assumption | omega) (by first | assumption | omega)) (cwVt F mf_X1_overdue km_X2_29 rfl rfl ⟨Nat.le_of_ble_eq_true rfl, Nat.le_of_ble_eq_true rfl⟩) (ct_preV St [2, 3, 4, 5] rfl (by decide) [0] rfl (ci := 1) (q0 := 2) rfl rfl) rfl rfl hl.1 rfl (lv_room (Nat.le_of_ble_eq_true rfl)) dX2_lapseAll_25 ⟨Nat.le_of_ble_eq_true rfl, Nat.le_of_ble_eq_true rfl⟩) (fun r_31 u_32 H locs hw St => ?_)
          try dsimp only at hw
          have St : cS G k ([(h, .inr (2, [.ref b, .int bn])), (b, .inl (ce, 60, .inr (.inr (.inr (.inr fa))))), (h_8, .inr (1, [.int pg_13, .int pf_14, .int pe_15, .int pz_16, .ref o0_9, .ref o1_10, .ref o2_11, .int pp_17, .int pa_18, .int pl_19, .int pk_20, .int pb_21])), (o0_9, .inl (ci, N0_12, .inl w0_22)), (o1_10, .inl (ci, N0_12, .inl w1_23)), (o2_11, .inl (ci, N0_12, .inl w2_24))] ++ (PWx nP kk.toNatClampNeg bq ++ [])) [(ci, .int), (ce, .object "TowerAppeal$Pledge")] A s H locs := St
          refine lv_iload_n hx hb dX2_lapseAll_28 rfl (lv_at hl 4 rfl) ?_
          refine lv_icmp_lt (tgt := 38) hx hb dX2_lapseAll_29 (by decide) (fun c29 => ?_) (fun c29 => ?_)
          ·
            have i29 := ci_lt (x := r_31) (y := y) rfl rfl c29
            obtain ⟨y_33, ey_33⟩ : ∃ zz : Int32, zz = kk + 1 := ⟨_, rfl⟩
            first | have jy_33 : y_33.toInt = kk.toInt + 1 := (by have q9 := ci_add (x := kk) rfl (show (1 : Int32).toInt = 1 by decide) ey_33; omega) | have jy_33 := ci_add (x := kk) rfl (show (1 : Int32).toInt = 1 by decide) ey_33
            refine lv_iinc (v := y_33) (lv' := [(3, .int y_33), (4, .ref h_8), (0, .ref h), (1, .int x), (2, .int y)]) hx hb dX2_lapseAll_38 hl (k := 1) rfl (by rw [ey_33]; rfl) (by decide) rfl (fun ls hl => ?_)
            refine lv_goto (tgt := 2) hx hb dX2_lapseAll_41 (by decide) ?_
            have St : cS G k ([(h, .inr (2, [.ref b, .int bn])), (b, .inl (ce, 60, .inr (.inr (.inr (.inr fa))))), (h_8, .inr (1, [.int pg_13, .int pf_14, .int pe_15, .int pz_16, .ref o0_9, .ref o1_10, .ref o2_11, .int pp_17, .int pa_18, .int pl_19, .int pk_20, .int pb_21])), (o0_9, .inl (ci, N0_12, .inl w0_22)), (o1_10, .inl (ci, N0_12, .inl w1_23)), (o2_11, .inl (ci, N0_12, .inl w2_24))] ++ (PWx nP kk.toNatClampNeg bq ++ [])) [(ci, .int), (ce, .object "TowerAppeal$Pledge")] A s H locs := ct_pick St [0, 1, 2, 3, 4, 5] rfl (by decide) [0, 1] rfl
            have St := cs_push (cs := [(h, .inr (2, [.ref b, .int bn])), (b, .inl (ce, 60, .inr (.inr (.inr (.inr fa)))))]) (b := [(h_8, .inr (1, [.int pg_13, .int pf_14, .int pe_15, .int pz_16, .ref o0_9, .ref o1_10, .ref o2_11, .int pp_17, .int pa_18, .int pl_19, .int pk_20, .int pb_21])), (o0_9, .inl (ci, N0_12, .inl w0_22)), (o1_10, .inl (ci, N0_12, .inl w1_23)), (o2_11, .inl (ci, N0_12, .inl w2_24))]) (rs := []) St hj_30
            obtain ⟨B_34, eB_34⟩ : ∃ zz : Nat → va_W, zz = setB bq kk.toNatClampNeg [(h_8, .inr (1, [.int pg_13, .int pf_14, .int pe_15, .int pz_16, .ref o0_9, .ref o1_10, .ref o2_11, .int pp_17, .int pa_18, .int pl_19, .int pk_20, .int pb_21])), (o0_9, .inl (ci, N0_12, .inl w0_22)), (o1_10, .inl (ci, N0_12, .inl w1_23)), (o2_11, .inl (ci, N0_12, .inl w2_24))] := ⟨_, rfl⟩
            rw [← eB_34] at St
            have hB_35 : ∀ i, i < nP → okP ci (fa i) (B_34 i) := by rw [eB_34]; exact ok_set (P := fun i b => okP ci (fa i) b) hBq ⟨h_8, o0_9, o1_10, o2_11, N0_12, pg_13, pf_14, pe_15, pz_16, pp_17, pa_18, pl_19, pk_20, pb_21, w0_22, w1_23, w2_24, q_25, q_26, q_27, q_28, rfl⟩
            have St : cS G k ([(h, .inr (2, [.ref b, .int bn])), (b, .inl (ce, 60, .inr (.inr (.inr (.inr fa)))))] ++ (PW nP B_34 ++ [])) [(ci, .int), (ce, .object "TowerAppeal$Pledge")] A s H locs := St
            skip
            exact ih y_33 B_34 _ _ _ ⟨⟨by omega, by omega⟩, hB_35⟩ (by omega) (show cS G k ([(h, .inr (2, [.ref b, .int bn])), (b, .inl (ce, 60, .inr (.inr (.inr (.inr fa)))))] ++ (PW nP B_34 ++ [])) [(ci, .int), (ce, .object "TowerAppeal$Pledge")] A s H locs from ct_pick St [0, 1] rfl (by decide) [0, 1] rfl) (lv_sub hl [0, 2, 3, 4] rfl)
          ·
            have i29 := ci_nlt (x := r_31) (y := y) rfl rfl c29
            refine lv_aload hx hb dX2_lapseAll_32 (lv_at hl 0 rfl) ?_
            refine lv_iload_n hx hb dX2_lapseAll_34 rfl (lv_at hl 3 rfl) ?_
            refine ct_v St [2, 3, 4, 5] [0, 1] (wc := [(h_8, .inr (1, [.int pg_13, .int pf_14, .int pe_15, .int pz_16, .ref o0_9, .ref o1_10, .ref o2_11, .int pp_17, .int pa_18, .int pl_19, .int pk_20, .int pb_21])), (o0_9, .inl (ci, N0_12, .inl w0_22)), (o1_10, .inl (ci, N0_12, .inl w1_23)), (o2_11, .inl (ci, N0_12, .inl w2_24))]) (wr := [(h, .inr (2, [.ref b, .int bn])), (b, .inl (ce, 60, .inr (.inr (.inr (.inr fa)))))]) rfl rfl (by decide) (by decide) (va_runV (As := [.int x]) (rest := []) F (x1_lapseIn l G k _ h_8 o0_9 o1_10 o2_11 N0_12 ci pg_13 pf_14 pe_15 pz_16 pp_17 pa_18 pl_19 pk_20 pb_21 w0_22 w1_23 w2_24 x (by first | assumption | omega) (by first | assumption | omega)) (cwVt F mf_X1_lapseIn km_X2_33 rfl rfl ⟨Nat.le_of_ble_eq_true rfl, Nat.le_of_ble_eq_true rfl⟩) (ct_preV St [2, 3, 4, 5] rfl (by decide) [0] rfl (ci := 1) (q0 := 2) rfl rfl) rfl rfl hl.1 rfl (lv_room (Nat.le_of_ble_eq_true rfl)) dX2_lapseAll_35 ⟨Nat.le_of_ble_eq_true rfl, Nat.le_of_ble_eq_true rfl⟩) (fun u_37 H locs hw St => ?_)
            obtain ⟨pb2_38, z2_39⟩ := u_37
            try dsimp only at hw
            have St : cS G k ([(h, .inr (2, [.ref b, .int bn])), (b, .inl (ce, 60, .inr (.inr (.inr (.inr fa))))), (h_8, .inr (1, [.int pg_13, .int pf_14, .int pe_15, .int pz_16, .ref o0_9, .ref o1_10, .ref o2_11, .int pp_17, .int pa_18, .int 1, .int pk_20, .int pb2_38])), (o0_9, .inl (ci, N0_12, .inl w0_22)), (o1_10, .inl (ci, N0_12, .inl w1_23)), (o2_11, .inl (ci, N0_12, .inl z2_39))] ++ (PWx nP kk.toNatClampNeg bq ++ [])) [(ci, .int), (ce, .object "TowerAppeal$Pledge")] A s H locs := St
            obtain ⟨y_40, ey_40⟩ : ∃ zz : Int32, zz = kk + 1 := ⟨_, rfl⟩
            first | have jy_40 : y_40.toInt = kk.toInt + 1 := (by have q9 := ci_add (x := kk) rfl (show (1 : Int32).toInt = 1 by decide) ey_40; omega) | have jy_40 := ci_add (x := kk) rfl (show (1 : Int32).toInt = 1 by decide) ey_40
            refine lv_iinc (v := y_40) (lv' := [(3, .int y_40), (4, .ref h_8), (0, .ref h), (1, .int x), (2, .int y)]) hx hb dX2_lapseAll_38 hl (k := 1) rfl (by rw [ey_40]; rfl) (by decide) rfl (fun ls hl => ?_)
            refine lv_goto (tgt := 2) hx hb dX2_lapseAll_41 (by decide) ?_
            have St : cS G k ([(h, .inr (2, [.ref b, .int bn])), (b, .inl (ce, 60, .inr (.inr (.inr (.inr fa))))), (h_8, .inr (1, [.int pg_13, .int pf_14, .int pe_15, .int pz_16, .ref o0_9, .ref o1_10, .ref o2_11, .int pp_17, .int pa_18, .int 1, .int pk_20, .int pb2_38])), (o0_9, .inl (ci, N0_12, .inl w0_22)), (o1_10, .inl (ci, N0_12, .inl w1_23)), (o2_11, .inl (ci, N0_12, .inl z2_39))] ++ (PWx nP kk.toNatClampNeg bq ++ [])) [(ci, .int), (ce, .object "TowerAppeal$Pledge")] A s H locs := ct_pick St [0, 1, 2, 3, 4, 5] rfl (by decide) [0, 1] rfl
            have St := cs_push (cs := [(h, .inr (2, [.ref b, .int bn])), (b, .inl (ce, 60, .inr (.inr (.inr (.inr fa)))))]) (b := [(h_8, .inr (1, [.int pg_13, .int pf_14, .int pe_15, .int pz_16, .ref o0_9, .ref o1_10, .ref o2_11, .int pp_17, .int pa_18, .int 1, .int pk_20, .int pb2_38])), (o0_9, .inl (ci, N0_12, .inl w0_22)), (o1_10, .inl (ci, N0_12, .inl w1_23)), (o2_11, .inl (ci, N0_12, .inl z2_39))]) (rs := []) St hj_30
            obtain ⟨B_41, eB_41⟩ : ∃ zz : Nat → va_W, zz = setB bq kk.toNatClampNeg [(h_8, .inr (1, [.int pg_13, .int pf_14, .int pe_15, .int pz_16, .ref o0_9, .ref o1_10, .ref o2_11, .int pp_17, .int pa_18, .int 1, .int pk_20, .int pb2_38])), (o0_9, .inl (ci, N0_12, .inl w0_22)), (o1_10, .inl (ci, N0_12, .inl w1_23)), (o2_11, .inl (ci, N0_12, .inl z2_39))] := ⟨_, rfl⟩
            rw [← eB_41] at St
            have hB_42 : ∀ i, i < nP → okP ci (fa i) (B_41 i) := by rw [eB_41]; exact ok_set (P := fun i b => okP ci (fa i) b) hBq ⟨h_8, o0_9, o1_10, o2_11, N0_12, pg_13, pf_14, pe_15, pz_16, pp_17, pa_18, 1, pk_20, pb2_38, w0_22, w1_23, z2_39, q_25, q_26, q_27, Or.inr rfl, rfl⟩
            have St : cS G k ([(h, .inr (2, [.ref b, .int bn])), (b, .inl (ce, 60, .inr (.inr (.inr (.inr fa)))))] ++ (PW nP B_41 ++ [])) [(ci, .int), (ce, .object "TowerAppeal$Pledge")] A s H locs := St
            skip
            exact ih y_40 B_41 _ _ _ ⟨⟨by omega, by omega⟩, hB_42⟩ (by omega) (show cS G k ([(h, .inr (2, [.ref b, .int bn])), (b, .inl (ce, 60, .inr (.inr (.inr (.inr fa)))))] ++ (PW nP B_41 ++ [])) [(ci, .int), (ce, .object "TowerAppeal$Pledge")] A s H locs from ct_pick St [0, 1] rfl (by decide) [0, 1] rfl) (lv_sub hl [0, 2, 3, 4] rfl)
  exact lp2 61 0 bP _ _ _ ⟨⟨by omega, by omega⟩, hB⟩ (by omega) St (lv_sub hl [0, 1, 2, 3] rfl)
set_option maxHeartbeats 4000000 in
set_option maxRecDepth 100000 in
theorem x2_sureWithin (l : Launch) (G : va_G) (k : Nat → Nat) (sz : Nat) (h : Nat) (b : Nat) (ce : ClassId) (bn : Int32) (fa : Nat → Option Nat) (ci : ClassId) (nP : Nat) (bP : Nat → va_W) (x : Int32) (y : Int32) (hnP : (nP : Int) = bn.toInt) (hn60 : nP ≤ 60) (hB : ∀ i, i < nP → okP ci (fa i) (bP i)) : Met l yX2_sureWithin (Cond.code yX2_sureWithin cX2_sureWithin 11 (some .int) :: tb) ({ frames := 2, cells := 0, slots := 0, locals := 45 } : Room) (va_Pc [.ref h, .int x, .int y] (cP G k ([(h, .inr (2, [.ref b, .int bn])), (b, .inl (ce, 60, .inr (.inr (.inr (.inr fa)))))] ++ (PW nP bP ++ [])) [(ci, .int), (ce, .object "TowerAppeal$Pledge")] sz)) (va_Qi (fun (r : Int32) (bP2 : (Nat → va_W)) => (∀ i, i < nP → okP ci (fa i) (bP2 i))) (cB G (fun (bP2 : (Nat → va_W)) => ([(h, .inr (2, [.ref b, .int bn])), (b, .inl (ce, 60, .inr (.inr (.inr (.inr fa)))))] ++ (PW nP bP2 ++ []))) (fun (bP2 : (Nat → va_W)) => []) (va_A ([(h, .inr (2, [.ref b, .int bn])), (b, .inl (ce, 60, .inr (.inr (.inr (.inr fa)))))] ++ (PW nP bP ++ [])) sz)) (va_A ([(h, .inr (2, [.ref b, .int bn])), (b, .inl (ce, 60, .inr (.inr (.inr (.inr fa)))))] ++ (PW nP bP ++ [])) sz)) 0 0 (va_A ([(h, .inr (2, [.ref b, .int bn])), (b, .inl (ce, 60, .inr (.inr (.inr (.inr fa)))))] ++ (PW nP bP ++ [])) sz) := by
  refine ofC_i (cc := cX2_sureWithin) (maxL := 11) (ret := (some .int)) (by decide) rfl (Nat.le_of_ble_eq_true rfl) ?_
  intro p e s m args below meth c A ls Q F hr hin hlk St hl hQ
  have hx := F.1
  have hb := F.2.1
  have hl : lv_has ls 11 [(0, .ref h), (1, .int x), (2, .int y)] := hl
  have St : cS G k ([(h, .inr (2, [.ref b, .int bn])), (b, .inl (ce, 60, .inr (.inr (.inr (.inr fa)))))] ++ (PW nP bP ++ [])) [(ci, .int), (ce, .object "TowerAppeal$Pledge")] A s s.heap [] := St
  have y0 : (0 : Int32).toInt = 0 := by decide
  refine lv_lconst (v := 0) hx hb dX2_sureWithin_0 (by decide) ?_
  refine lv_lstore_n (lv' := [(3, .long 0), (0, .ref h), (1, .int x), (2, .int y)]) hx hb dX2_sureWithin_1 rfl hl (by decide) rfl (fun ls hl => ?_)
  refine lv_lconst (v := 0) hx hb dX2_sureWithin_2 (by decide) ?_
  refine lv_lstore (lv' := [(5, .long 0), (3, .long 0), (0, .ref h), (1, .int x), (2, .int y)]) hx hb dX2_sureWithin_3 hl (by decide) rfl (fun ls hl => ?_)
  refine lv_lconst (v := 0) hx hb dX2_sureWithin_5 (by decide) ?_
  refine lv_lstore (lv' := [(7, .long 0), (5, .long 0), (3, .long 0), (0, .ref h), (1, .int x), (2, .int y)]) hx hb dX2_sureWithin_6 hl (by decide) rfl (fun ls hl => ?_)
  refine lv_iconst (v := 0) hx hb dX2_sureWithin_8 (by decide) ?_
  refine lv_istore (lv' := [(9, .int 0), (7, .long 0), (5, .long 0), (3, .long 0), (0, .ref h), (1, .int x), (2, .int y)]) hx hb dX2_sureWithin_9 hl (by decide) rfl (fun ls hl => ?_)
  have lp11 : ∀ (n : Nat) (kk : Int32) (bq : Nat → va_W) (j1 : Int64) (j2 : Int64) (j3 : Int64) (H : Heap) (locs : List Loc) (ls : Array Slot), ((0 ≤ kk.toInt ∧ kk.toInt ≤ bn.toInt) ∧ ∀ i, i < nP → okP ci (fa i) (bq i)) → ((60 - kk.toInt).toNat) < n → cS G k ([(h, .inr (2, [.ref b, .int bn])), (b, .inl (ce, 60, .inr (.inr (.inr (.inr fa)))))] ++ (PW nP bq ++ [])) [(ci, .int), (ce, .object "TowerAppeal$Pledge")] A s H locs → lv_has ls 11 [(9, .int kk), (7, .long j3), (5, .long j2), (3, .long j1), (0, .ref h), (1, .int x), (2, .int y)] → W p l e ({ frames := 2, cells := 0, slots := 0, locals := 45 } : Room) s m args below meth c H locs 0 0 Q (F0 m 11 ls []) := by
    intro n
    induction n with
    | zero => intro kk bq j1 j2 j3 H locs ls hI hn; exact absurd hn (Nat.not_lt_zero _)
    | succ n ih =>
      intro kk bq j1 j2 j3 H locs ls hI hn St hl
      obtain ⟨⟨hI0, hI1⟩, hBq⟩ := hI
      skip
      refine lv_iload hx hb dX2_sureWithin_11 (lv_at hl 0 rfl) ?_
      refine lv_aload_n hx hb dX2_sureWithin_13 rfl (lv_at hl 4 rfl) ?_
      refine ct_get F St 0 rfl rfl inX2 1 (by decide) kf_X2_17 rfl dX2_sureWithin_14 ?_
      refine lv_icmp_ge (tgt := 78) hx hb dX2_sureWithin_17 (by decide) (fun c17 => ?_) (fun c17 => ?_)
      ·
        have i17 := ci_le (x := bn) (y := kk) rfl rfl c17
        refine lv_lload hx hb dX2_sureWithin_78 (lv_at hl 2 rfl) ?_
        refine lv_lconst (v := 0) hx hb dX2_sureWithin_80 (by decide) ?_
        refine W.lcmp hx hb dX2_sureWithin_81 ?_
        refine lv_if_le (tgt := 96) hx hb dX2_sureWithin_82 (by decide) (fun c82 => ?_) (fun c82 => ?_)
        ·
          have i82 := cl_le (x := j2) (y := 0) (u := j2.toInt) (v := 0) rfl (by decide) ((lg_cmp_le _ _).mp c82)
          refine lv_iconst (v := 0) hx hb dX2_sureWithin_96 (by decide) ?_
          have St : cS G k ([(h, .inr (2, [.ref b, .int bn])), (b, .inl (ce, 60, .inr (.inr (.inr (.inr fa)))))] ++ (PW nP bq ++ [])) [(ci, .int), (ce, .object "TowerAppeal$Pledge")] A s _ _ := ct_pick St [0, 1] rfl (by decide) [0, 1] rfl
          exact cs_iret F hr hlk hQ St bq (r := 0) hBq (List.range _) (ix_all (w := ([(h, .inr (2, [.ref b, .int bn])), (b, .inl (ce, 60, .inr (.inr (.inr (.inr fa)))))] ++ (PW nP bq ++ [])))) nd_C [] rfl (by decide) (by decide) dX2_sureWithin_97
        ·
          have i82 := cl_nle (x := j2) (y := 0) (u := j2.toInt) (v := 0) rfl (by decide) (fun q => c82 ((lg_cmp_le _ _).mpr q))
          refine lv_lload_n hx hb dX2_sureWithin_85 rfl (lv_at hl 3 rfl) ?_
          refine lv_lload hx hb dX2_sureWithin_86 (lv_at hl 1 rfl) ?_
          refine lv_lmul hx hb dX2_sureWithin_88 ?_
          refine lv_topl (fun y_1 ey_1 => ?_)
          refine lv_lload hx hb dX2_sureWithin_89 (lv_at hl 2 rfl) ?_
          refine lv_ldiv hx hb dX2_sureWithin_91 (ne0_l (by omega)) ?_
          refine lv_topl (fun y_2 ey_2 => ?_)
          refine lv_l2i (v := y_2.toInt32) hx hb dX2_sureWithin_92 rfl ?_
          refine lv_goto (tgt := 97) hx hb dX2_sureWithin_93 (by decide) ?_
          have St : cS G k ([(h, .inr (2, [.ref b, .int bn])), (b, .inl (ce, 60, .inr (.inr (.inr (.inr fa)))))] ++ (PW nP bq ++ [])) [(ci, .int), (ce, .object "TowerAppeal$Pledge")] A s _ _ := ct_pick St [0, 1] rfl (by decide) [0, 1] rfl
          exact cs_iret F hr hlk hQ St bq (r := y_2.toInt32) hBq (List.range _) (ix_all (w := ([(h, .inr (2, [.ref b, .int bn])), (b, .inl (ce, 60, .inr (.inr (.inr (.inr fa)))))] ++ (PW nP bq ++ [])))) nd_C [] rfl (by decide) (by decide) dX2_sureWithin_97
      ·
        have i17 := ci_nle (x := bn) (y := kk) rfl rfl c17
        refine lv_aload_n hx hb dX2_sureWithin_20 rfl (lv_at hl 4 rfl) ?_
        refine lv_iload hx hb dX2_sureWithin_21 (lv_at hl 0 rfl) ?_
        refine ct_q St [0, 1] [] (wc := [(h, .inr (2, [.ref b, .int bn])), (b, .inl (ce, 60, .inr (.inr (.inr (.inr fa)))))]) (wr := []) rfl rfl (by decide) (by decide) (va_runV (As := [.int kk]) (rest := []) F (x2_at l G k _ h b ce bn fa kk (by omega) (by omega)) (cwVt F mf_X2_at km_X2_21 rfl rfl ⟨Nat.le_of_ble_eq_true rfl, Nat.le_of_ble_eq_true rfl⟩) (ct_preV St [0, 1] rfl (by decide) [1] rfl (ci := 2) (q0 := 0) rfl rfl) rfl rfl hl.1 rfl (lv_room (Nat.le_of_ble_eq_true rfl)) dX2_sureWithin_23 ⟨Nat.le_of_ble_eq_true rfl, Nat.le_of_ble_eq_true rfl⟩) (fun r_3 u_4 H locs hw St => ?_)
        try dsimp only at hw
        rcases hw with ⟨z_5, hf_6⟩ | ⟨z_7, hf_8⟩
        ·
          subst r_3
          have St : cS G k ([(h, .inr (2, [.ref b, .int bn])), (b, .inl (ce, 60, .inr (.inr (.inr (.inr fa)))))] ++ (PW nP bq ++ [])) [(ci, .int), (ce, .object "TowerAppeal$Pledge")] A s H locs := St
          show W _ _ _ _ _ _ _ _ _ _ _ _ _ _ _ (F0 m 26 ls [.null])
          refine lv_astoreN (lv' := [(10, .null), (9, .int kk), (7, .long j3), (5, .long j2), (3, .long j1), (0, .ref h), (1, .int x), (2, .int y)]) hx hb dX2_sureWithin_26 hl (by decide) rfl (fun ls hl => ?_)
          refine lv_aloadN hx hb dX2_sureWithin_28 (lv_at hl 0 rfl) ?_
          refine lv_ifnullN (tgt := 72) hx hb dX2_sureWithin_30 (by decide) ?_
          obtain ⟨y_9, ey_9⟩ : ∃ zz : Int32, zz = kk + 1 := ⟨_, rfl⟩
          first | have jy_9 : y_9.toInt = kk.toInt + 1 := (by have q9 := ci_add (x := kk) rfl (show (1 : Int32).toInt = 1 by decide) ey_9; omega) | have jy_9 := ci_add (x := kk) rfl (show (1 : Int32).toInt = 1 by decide) ey_9
          refine lv_iinc (v := y_9) (lv' := [(9, .int y_9), (10, .null), (7, .long j3), (5, .long j2), (3, .long j1), (0, .ref h), (1, .int x), (2, .int y)]) hx hb dX2_sureWithin_72 hl (k := 1) rfl (by rw [ey_9]; rfl) (by decide) rfl (fun ls hl => ?_)
          refine lv_goto (tgt := 11) hx hb dX2_sureWithin_75 (by decide) ?_
          skip
          exact ih y_9 bq j1 j2 j3 _ _ _ ⟨⟨by omega, by omega⟩, hBq⟩ (by omega) (show cS G k ([(h, .inr (2, [.ref b, .int bn])), (b, .inl (ce, 60, .inr (.inr (.inr (.inr fa)))))] ++ (PW nP bq ++ [])) [(ci, .int), (ce, .object "TowerAppeal$Pledge")] A s H locs from ct_pick St [0, 1] rfl (by decide) [0, 1] rfl) (lv_sub hl [0, 2, 3, 4, 5, 6, 7] rfl)
        ·
          have St : cS G k ([(h, .inr (2, [.ref b, .int bn])), (b, .inl (ce, 60, .inr (.inr (.inr (.inr fa)))))] ++ (PW nP bq ++ [])) [(ci, .int), (ce, .object "TowerAppeal$Pledge")] A s H locs := St
          obtain ⟨h_10, o0_11, o1_12, o2_13, N0_14, pg_15, pf_16, pe_17, pz_18, pp_19, pa_20, pl_21, pk_22, pb_23, w0_24, w1_25, w2_26, q_27, q_28, q_29, q_30, q_31⟩ := (hBq _ (nc_lt (x := kk) (n := nP) (by omega) (by omega)))
          have hj_32 := (nc_lt (x := kk) (n := nP) (by omega) (by omega))
          have St : cS G k ([(h, .inr (2, [.ref b, .int bn])), (b, .inl (ce, 60, .inr (.inr (.inr (.inr fa))))), (h_10, .inr (1, [.int pg_15, .int pf_16, .int pe_17, .int pz_18, .ref o0_11, .ref o1_12, .ref o2_13, .int pp_19, .int pa_20, .int pl_21, .int pk_22, .int pb_23])), (o0_11, .inl (ci, N0_14, .inl w0_24)), (o1_12, .inl (ci, N0_14, .inl w1_25)), (o2_13, .inl (ci, N0_14, .inl w2_26))] ++ (PWx nP kk.toNatClampNeg bq ++ [])) [(ci, .int), (ce, .object "TowerAppeal$Pledge")] A s H locs := cs_pull (cs := [(h, .inr (2, [.ref b, .int bn])), (b, .inl (ce, 60, .inr (.inr (.inr (.inr fa)))))]) (rs := []) (b := [(h_10, .inr (1, [.int pg_15, .int pf_16, .int pe_17, .int pz_18, .ref o0_11, .ref o1_12, .ref o2_13, .int pp_19, .int pa_20, .int pl_21, .int pk_22, .int pb_23])), (o0_11, .inl (ci, N0_14, .inl w0_24)), (o1_12, .inl (ci, N0_14, .inl w1_25)), (o2_13, .inl (ci, N0_14, .inl w2_26))]) St hj_32 q_31
          obtain rfl : r_3 = some h_10 := z_7.trans q_27
          show W _ _ _ _ _ _ _ _ _ _ _ _ _ _ _ (F0 m 26 ls [.ref h_10])
          refine lv_astore (lv' := [(10, .ref h_10), (9, .int kk), (7, .long j3), (5, .long j2), (3, .long j1), (0, .ref h), (1, .int x), (2, .int y)]) hx hb dX2_sureWithin_26 hl (by decide) rfl (fun ls hl => ?_)
          refine lv_aload hx hb dX2_sureWithin_28 (lv_at hl 0 rfl) ?_
          refine lv_ifnull hx hb dX2_sureWithin_30 ?_
          refine lv_lload_n hx hb dX2_sureWithin_33 rfl (lv_at hl 4 rfl) ?_
          refine lv_aload hx hb dX2_sureWithin_34 (lv_at hl 0 rfl) ?_
          refine lv_iload_n hx hb dX2_sureWithin_36 rfl (lv_at hl 7 rfl) ?_
          refine lv_iconst (v := 1) hx hb dX2_sureWithin_37 (by decide) ?_
          refine lv_iadd hx hb dX2_sureWithin_38 ?_
          refine lv_topi (fun y_33 ey_33 => ?_)
          first | have jy_33 : y_33.toInt = y.toInt + 1 := (by have q9 := ci_add (x := y) (y := 1) rfl (show (1 : Int32).toInt = 1 by decide) ey_33; omega) | have jy_33 := ci_add (x := y) (y := 1) rfl (show (1 : Int32).toInt = 1 by decide) ey_33
          refine lv_iload_n hx hb dX2_sureWithin_39 rfl (lv_at hl 7 rfl) ?_
          refine lv_iload_n hx hb dX2_sureWithin_40 rfl (lv_at hl 6 rfl) ?_
          refine lv_iadd hx hb dX2_sureWithin_41 ?_
          refine lv_topi (fun y_34 ey_34 => ?_)
          first | have jy_34 : y_34.toInt = y.toInt + x.toInt := (by have q9 := ci_add (x := y) (y := x) rfl rfl ey_34; omega) | have jy_34 := ci_add (x := y) (y := x) rfl rfl ey_34
          refine ct_i St [2, 3, 4, 5] [0, 1] (wc := [(h_10, .inr (1, [.int pg_15, .int pf_16, .int pe_17, .int pz_18, .ref o0_11, .ref o1_12, .ref o2_13, .int pp_19, .int pa_20, .int pl_21, .int pk_22, .int pb_23])), (o0_11, .inl (ci, N0_14, .inl w0_24)), (o1_12, .inl (ci, N0_14, .inl w1_25)), (o2_13, .inl (ci, N0_14, .inl w2_26))]) (wr := [(h, .inr (2, [.ref b, .int bn])), (b, .inl (ce, 60, .inr (.inr (.inr (.inr fa)))))]) rfl rfl (by decide) (by decide) (va_runV (As := [.int y_33, .int y_34]) (rest := [.long j1]) F (x1_unfilledWithin l G k _ h_10 o0_11 o1_12 o2_13 N0_14 ci pg_15 pf_16 pe_17 pz_18 pp_19 pa_20 pl_21 pk_22 pb_23 w0_24 w1_25 w2_26 y_33 y_34 (by first | assumption | omega) (by first | assumption | omega)) (cwVt F mf_X1_unfilledWithin km_X2_37 rfl rfl ⟨Nat.le_of_ble_eq_true rfl, Nat.le_of_ble_eq_true rfl⟩) (ct_preV St [2, 3, 4, 5] rfl (by decide) [0] rfl (ci := 1) (q0 := 2) rfl rfl) rfl rfl hl.1 rfl (lv_room (Nat.le_of_ble_eq_true rfl)) dX2_sureWithin_42 ⟨Nat.le_of_ble_eq_true rfl, Nat.le_of_ble_eq_true rfl⟩) (fun r_35 u_36 H locs hw St => ?_)
          try dsimp only at hw
          have St : cS G k ([(h, .inr (2, [.ref b, .int bn])), (b, .inl (ce, 60, .inr (.inr (.inr (.inr fa))))), (h_10, .inr (1, [.int pg_15, .int pf_16, .int pe_17, .int pz_18, .ref o0_11, .ref o1_12, .ref o2_13, .int pp_19, .int pa_20, .int pl_21, .int pk_22, .int pb_23])), (o0_11, .inl (ci, N0_14, .inl w0_24)), (o1_12, .inl (ci, N0_14, .inl w1_25)), (o2_13, .inl (ci, N0_14, .inl w2_26))] ++ (PWx nP kk.toNatClampNeg bq ++ [])) [(ci, .int), (ce, .object "TowerAppeal$Pledge")] A s H locs := St
          refine lv_i2l (v := r_35.toInt64) hx hb dX2_sureWithin_45 rfl ?_
          refine lv_ladd hx hb dX2_sureWithin_46 ?_
          refine lv_topl (fun y_37 ey_37 => ?_)
          first | have jy_37 : y_37.toInt = j1.toInt + r_35.toInt := (by have q8 := ci_rng r_35; have q9 := cl_add (x := j1) (y := r_35.toInt64) (u := j1.toInt) (v := r_35.toInt) rfl (Int32.toInt_toInt64 r_35) ey_37; omega) | have jy_37 := cl_add (x := j1) (y := r_35.toInt64) (u := j1.toInt) (v := r_35.toInt) rfl (Int32.toInt_toInt64 r_35) ey_37
          refine lv_lstore_n (lv' := [(3, .long y_37), (10, .ref h_10), (9, .int kk), (7, .long j3), (5, .long j2), (0, .ref h), (1, .int x), (2, .int y)]) hx hb dX2_sureWithin_47 rfl hl (by decide) rfl (fun ls hl => ?_)
          refine lv_lload hx hb dX2_sureWithin_48 (lv_at hl 4 rfl) ?_
          refine lv_aload hx hb dX2_sureWithin_50 (lv_at hl 1 rfl) ?_
          refine lv_iload_n hx hb dX2_sureWithin_52 rfl (lv_at hl 7 rfl) ?_
          refine ct_i St [2, 3, 4, 5] [0, 1] (wc := [(h_10, .inr (1, [.int pg_15, .int pf_16, .int pe_17, .int pz_18, .ref o0_11, .ref o1_12, .ref o2_13, .int pp_19, .int pa_20, .int pl_21, .int pk_22, .int pb_23])), (o0_11, .inl (ci, N0_14, .inl w0_24)), (o1_12, .inl (ci, N0_14, .inl w1_25)), (o2_13, .inl (ci, N0_14, .inl w2_26))]) (wr := [(h, .inr (2, [.ref b, .int bn])), (b, .inl (ce, 60, .inr (.inr (.inr (.inr fa)))))]) rfl rfl (by decide) (by decide) (va_runV (As := [.int y]) (rest := [.long j2]) F (x1_dueSoFar l G k _ h_10 o0_11 o1_12 o2_13 N0_14 ci pg_15 pf_16 pe_17 pz_18 pp_19 pa_20 pl_21 pk_22 pb_23 w0_24 w1_25 w2_26 y (by first | assumption | omega) (by first | assumption | omega)) (cwVt F mf_X1_dueSoFar km_X2_41 rfl rfl ⟨Nat.le_of_ble_eq_true rfl, Nat.le_of_ble_eq_true rfl⟩) (ct_preV St [2, 3, 4, 5] rfl (by decide) [0] rfl (ci := 1) (q0 := 2) rfl rfl) rfl rfl hl.1 rfl (lv_room (Nat.le_of_ble_eq_true rfl)) dX2_sureWithin_53 ⟨Nat.le_of_ble_eq_true rfl, Nat.le_of_ble_eq_true rfl⟩) (fun r_38 u_39 H locs hw St => ?_)
          try dsimp only at hw
          have St : cS G k ([(h, .inr (2, [.ref b, .int bn])), (b, .inl (ce, 60, .inr (.inr (.inr (.inr fa))))), (h_10, .inr (1, [.int pg_15, .int pf_16, .int pe_17, .int pz_18, .ref o0_11, .ref o1_12, .ref o2_13, .int pp_19, .int pa_20, .int pl_21, .int pk_22, .int pb_23])), (o0_11, .inl (ci, N0_14, .inl w0_24)), (o1_12, .inl (ci, N0_14, .inl w1_25)), (o2_13, .inl (ci, N0_14, .inl w2_26))] ++ (PWx nP kk.toNatClampNeg bq ++ [])) [(ci, .int), (ce, .object "TowerAppeal$Pledge")] A s H locs := St
          refine lv_i2l (v := r_38.toInt64) hx hb dX2_sureWithin_56 rfl ?_
          refine lv_ladd hx hb dX2_sureWithin_57 ?_
          refine lv_topl (fun y_40 ey_40 => ?_)
          first | have jy_40 : y_40.toInt = j2.toInt + r_38.toInt := (by have q8 := ci_rng r_38; have q9 := cl_add (x := j2) (y := r_38.toInt64) (u := j2.toInt) (v := r_38.toInt) rfl (Int32.toInt_toInt64 r_38) ey_40; omega) | have jy_40 := cl_add (x := j2) (y := r_38.toInt64) (u := j2.toInt) (v := r_38.toInt) rfl (Int32.toInt_toInt64 r_38) ey_40
          refine lv_lstore (lv' := [(5, .long y_40), (3, .long y_37), (10, .ref h_10), (9, .int kk), (7, .long j3), (0, .ref h), (1, .int x), (2, .int y)]) hx hb dX2_sureWithin_58 hl (by decide) rfl (fun ls hl => ?_)
          refine lv_lload hx hb dX2_sureWithin_60 (lv_at hl 4 rfl) ?_
          refine lv_aload hx hb dX2_sureWithin_62 (lv_at hl 2 rfl) ?_
          refine lv_iload_n hx hb dX2_sureWithin_64 rfl (lv_at hl 7 rfl) ?_
          refine ct_i St [2, 3, 4, 5] [0, 1] (wc := [(h_10, .inr (1, [.int pg_15, .int pf_16, .int pe_17, .int pz_18, .ref o0_11, .ref o1_12, .ref o2_13, .int pp_19, .int pa_20, .int pl_21, .int pk_22, .int pb_23])), (o0_11, .inl (ci, N0_14, .inl w0_24)), (o1_12, .inl (ci, N0_14, .inl w1_25)), (o2_13, .inl (ci, N0_14, .inl w2_26))]) (wr := [(h, .inr (2, [.ref b, .int bn])), (b, .inl (ce, 60, .inr (.inr (.inr (.inr fa)))))]) rfl rfl (by decide) (by decide) (va_runV (As := [.int y]) (rest := [.long j3]) F (x1_filledSoFar l G k _ h_10 o0_11 o1_12 o2_13 N0_14 ci pg_15 pf_16 pe_17 pz_18 pp_19 pa_20 pl_21 pk_22 pb_23 w0_24 w1_25 w2_26 y (by first | assumption | omega) (by first | assumption | omega)) (cwVt F mf_X1_filledSoFar km_X2_44 rfl rfl ⟨Nat.le_of_ble_eq_true rfl, Nat.le_of_ble_eq_true rfl⟩) (ct_preV St [2, 3, 4, 5] rfl (by decide) [0] rfl (ci := 1) (q0 := 2) rfl rfl) rfl rfl hl.1 rfl (lv_room (Nat.le_of_ble_eq_true rfl)) dX2_sureWithin_65 ⟨Nat.le_of_ble_eq_true rfl, Nat.le_of_ble_eq_true rfl⟩) (fun r_41 u_42 H locs hw St => ?_)
          try dsimp only at hw
          have St : cS G k ([(h, .inr (2, [.ref b, .int bn])), (b, .inl (ce, 60, .inr (.inr (.inr (.inr fa))))), (h_10, .inr (1, [.int pg_15, .int pf_16, .int pe_17, .int pz_18, .ref o0_11, .ref o1_12, .ref o2_13, .int pp_19, .int pa_20, .int pl_21, .int pk_22, .int pb_23])), (o0_11, .inl (ci, N0_14, .inl w0_24)), (o1_12, .inl (ci, N0_14, .inl w1_25)), (o2_13, .inl (ci, N0_14, .inl w2_26))] ++ (PWx nP kk.toNatClampNeg bq ++ [])) [(ci, .int), (ce, .object "TowerAppeal$Pledge")] A s H locs := St
          refine lv_i2l (v := r_41.toInt64) hx hb dX2_sureWithin_68 rfl ?_
          refine lv_ladd hx hb dX2_sureWithin_69 ?_
          refine lv_topl (fun y_43 ey_43 => ?_)
          first | have jy_43 : y_43.toInt = j3.toInt + r_41.toInt := (by have q8 := ci_rng r_41; have q9 := cl_add (x := j3) (y := r_41.toInt64) (u := j3.toInt) (v := r_41.toInt) rfl (Int32.toInt_toInt64 r_41) ey_43; omega) | have jy_43 := cl_add (x := j3) (y := r_41.toInt64) (u := j3.toInt) (v := r_41.toInt) rfl (Int32.toInt_toInt64 r_41) ey_43
          refine lv_lstore (lv' := [(7, .long y_43), (5, .long y_40), (3, .long y_37), (10, .ref h_10), (9, .int kk), (0, .ref h), (1, .int x), (2, .int y)]) hx hb dX2_sureWithin_70 hl (by decide) rfl (fun ls hl => ?_)
          obtain ⟨y_44, ey_44⟩ : ∃ zz : Int32, zz = kk + 1 := ⟨_, rfl⟩
          first | have jy_44 : y_44.toInt = kk.toInt + 1 := (by have q9 := ci_add (x := kk) rfl (show (1 : Int32).toInt = 1 by decide) ey_44; omega) | have jy_44 := ci_add (x := kk) rfl (show (1 : Int32).toInt = 1 by decide) ey_44
          refine lv_iinc (v := y_44) (lv' := [(9, .int y_44), (7, .long y_43), (5, .long y_40), (3, .long y_37), (10, .ref h_10), (0, .ref h), (1, .int x), (2, .int y)]) hx hb dX2_sureWithin_72 hl (k := 4) rfl (by rw [ey_44]; rfl) (by decide) rfl (fun ls hl => ?_)
          refine lv_goto (tgt := 11) hx hb dX2_sureWithin_75 (by decide) ?_
          have St : cS G k ([(h, .inr (2, [.ref b, .int bn])), (b, .inl (ce, 60, .inr (.inr (.inr (.inr fa))))), (h_10, .inr (1, [.int pg_15, .int pf_16, .int pe_17, .int pz_18, .ref o0_11, .ref o1_12, .ref o2_13, .int pp_19, .int pa_20, .int pl_21, .int pk_22, .int pb_23])), (o0_11, .inl (ci, N0_14, .inl w0_24)), (o1_12, .inl (ci, N0_14, .inl w1_25)), (o2_13, .inl (ci, N0_14, .inl w2_26))] ++ (PWx nP kk.toNatClampNeg bq ++ [])) [(ci, .int), (ce, .object "TowerAppeal$Pledge")] A s H locs := ct_pick St [0, 1, 2, 3, 4, 5] rfl (by decide) [0, 1] rfl
          have St := cs_push (cs := [(h, .inr (2, [.ref b, .int bn])), (b, .inl (ce, 60, .inr (.inr (.inr (.inr fa)))))]) (b := [(h_10, .inr (1, [.int pg_15, .int pf_16, .int pe_17, .int pz_18, .ref o0_11, .ref o1_12, .ref o2_13, .int pp_19, .int pa_20, .int pl_21, .int pk_22, .int pb_23])), (o0_11, .inl (ci, N0_14, .inl w0_24)), (o1_12, .inl (ci, N0_14, .inl w1_25)), (o2_13, .inl (ci, N0_14, .inl w2_26))]) (rs := []) St hj_32
          obtain ⟨B_45, eB_45⟩ : ∃ zz : Nat → va_W, zz = setB bq kk.toNatClampNeg [(h_10, .inr (1, [.int pg_15, .int pf_16, .int pe_17, .int pz_18, .ref o0_11, .ref o1_12, .ref o2_13, .int pp_19, .int pa_20, .int pl_21, .int pk_22, .int pb_23])), (o0_11, .inl (ci, N0_14, .inl w0_24)), (o1_12, .inl (ci, N0_14, .inl w1_25)), (o2_13, .inl (ci, N0_14, .inl w2_26))] := ⟨_, rfl⟩
          rw [← eB_45] at St
          have hB_46 : ∀ i, i < nP → okP ci (fa i) (B_45 i) := by rw [eB_45]; exact ok_set (P := fun i b => okP ci (fa i) b) hBq ⟨h_10, o0_11, o1_12, o2_13, N0_14, pg_15, pf_16, pe_17, pz_18, pp_19, pa_20, pl_21, pk_22, pb_23, w0_24, w1_25, w2_26, q_27, q_28, q_29, q_30, rfl⟩
          have St : cS G k ([(h, .inr (2, [.ref b, .int bn])), (b, .inl (ce, 60, .inr (.inr (.inr (.inr fa)))))] ++ (PW nP B_45 ++ [])) [(ci, .int), (ce, .object "TowerAppeal$Pledge")] A s H locs := St
          skip
          exact ih y_44 B_45 y_37 y_40 y_43 _ _ _ ⟨⟨by omega, by omega⟩, hB_46⟩ (by omega) (show cS G k ([(h, .inr (2, [.ref b, .int bn])), (b, .inl (ce, 60, .inr (.inr (.inr (.inr fa)))))] ++ (PW nP B_45 ++ [])) [(ci, .int), (ce, .object "TowerAppeal$Pledge")] A s H locs from ct_pick St [0, 1] rfl (by decide) [0, 1] rfl) (lv_sub hl [0, 1, 2, 3, 5, 6, 7] rfl)
  exact lp11 61 0 bP 0 0 0 _ _ _ ⟨⟨by omega, by omega⟩, hB⟩ (by omega) St (lv_sub hl [0, 1, 2, 3, 4, 5, 6] rfl)

