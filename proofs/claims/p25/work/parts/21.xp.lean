set_option maxHeartbeats 4000000 in
set_option maxRecDepth 100000 in
theorem x2_size (l : Launch) (G : va_G) (k : Nat → Nat) (sz : Nat) (h : Nat) (b : Nat) (bn : Int32) : Met l yX2_size (Cond.code yX2_size cX2_size 1 (some .int) :: tb) ({ frames := 0, cells := 0, slots := 0, locals := 0 } : Room) (va_Pc [.ref h] (cP G k [(h, .inr (2, [.ref b, .int bn]))] [] sz)) (va_Qi (fun (r : Int32) (_ : Unit) => (r = bn)) (cB G (fun (_ : Unit) => [(h, .inr (2, [.ref b, .int bn]))]) (fun (_ : Unit) => []) (va_A [(h, .inr (2, [.ref b, .int bn]))] sz)) (va_A [(h, .inr (2, [.ref b, .int bn]))] sz)) 0 0 (va_A [(h, .inr (2, [.ref b, .int bn]))] sz) := by
  refine ofC_i (cc := cX2_size) (maxL := 1) (ret := (some .int)) (by decide) rfl (Nat.le_of_ble_eq_true rfl) ?_
  intro p e s m args below meth c A ls Q F hr hin hlk St hl hQ
  have hx := F.1
  have hb := F.2.1
  have hl : lv_has ls 1 [(0, .ref h)] := hl
  have St : cS G k [(h, .inr (2, [.ref b, .int bn]))] [] A s s.heap [] := St
  refine lv_aload_n hx hb dX2_size_0 rfl (lv_at hl 0 rfl) ?_
  refine cs_get F St 0 rfl rfl inX2 1 (by decide) kf_X2_17 rfl dX2_size_1 ?_
  exact cs_iret F hr hlk hQ St () (r := bn) rfl [0] rfl (by decide) [] rfl (by decide) (by decide) dX2_size_4
set_option maxHeartbeats 4000000 in
set_option maxRecDepth 100000 in
theorem x2_isFull (l : Launch) (G : va_G) (k : Nat → Nat) (sz : Nat) (h : Nat) (b : Nat) (bn : Int32) : Met l yX2_isFull (Cond.code yX2_isFull cX2_isFull 1 (some .boolean) :: tb) ({ frames := 0, cells := 0, slots := 0, locals := 0 } : Room) (va_Pc [.ref h] (cP G k [(h, .inr (2, [.ref b, .int bn]))] [] sz)) (va_Qi (fun (r : Int32) (_ : Unit) => ((r = 1) ∧ (60 ≤ bn.toInt)) ∨ ((r = 0) ∧ (¬ (60 ≤ bn.toInt)))) (cB G (fun (_ : Unit) => [(h, .inr (2, [.ref b, .int bn]))]) (fun (_ : Unit) => []) (va_A [(h, .inr (2, [.ref b, .int bn]))] sz)) (va_A [(h, .inr (2, [.ref b, .int bn]))] sz)) 0 0 (va_A [(h, .inr (2, [.ref b, .int bn]))] sz) := by
  refine ofC_i (cc := cX2_isFull) (maxL := 1) (ret := (some .boolean)) (by decide) rfl (Nat.le_of_ble_eq_true rfl) ?_
  intro p e s m args below meth c A ls Q F hr hin hlk St hl hQ
  have hx := F.1
  have hb := F.2.1
  have hl : lv_has ls 1 [(0, .ref h)] := hl
  have St : cS G k [(h, .inr (2, [.ref b, .int bn]))] [] A s s.heap [] := St
  refine lv_aload_n hx hb dX2_isFull_0 rfl (lv_at hl 0 rfl) ?_
  refine cs_get F St 0 rfl rfl inX2 1 (by decide) kf_X2_17 rfl dX2_isFull_1 ?_
  refine lv_bipush (v := 60) hx hb dX2_isFull_4 (by decide) ?_
  refine lv_icmp_lt (tgt := 13) hx hb dX2_isFull_6 (by decide) (fun c6 => ?_) (fun c6 => ?_)
  ·
    have i6 := ci_lt (x := bn) (y := 60) rfl (show (60 : Int32).toInt = 60 by decide) c6
    refine lv_iconst (v := 0) hx hb dX2_isFull_13 (by decide) ?_
    exact cs_zret F hr hlk hQ St () (r := 0) rfl (Or.inr ⟨rfl, by omega⟩) [0] rfl (by decide) [] rfl (by decide) (by decide) dX2_isFull_14
  ·
    have i6 := ci_nlt (x := bn) (y := 60) rfl (show (60 : Int32).toInt = 60 by decide) c6
    refine lv_iconst (v := 1) hx hb dX2_isFull_9 (by decide) ?_
    refine lv_goto (tgt := 14) hx hb dX2_isFull_10 (by decide) ?_
    exact cs_zret F hr hlk hQ St () (r := 1) rfl (Or.inl ⟨rfl, by omega⟩) [0] rfl (by decide) [] rfl (by decide) (by decide) dX2_isFull_14
set_option maxHeartbeats 4000000 in
set_option maxRecDepth 100000 in
theorem x2_at (l : Launch) (G : va_G) (k : Nat → Nat) (sz : Nat) (h : Nat) (b : Nat) (ce : ClassId) (bn : Int32) (fa : Nat → Option Nat) (x : Int32) (hb0 : 0 ≤ bn.toInt) (hb1 : bn.toInt ≤ 60) : Met l yX2_at (Cond.code yX2_at cX2_at 2 (some (.object "TowerAppeal$Pledge")) :: tb) ({ frames := 0, cells := 0, slots := 0, locals := 0 } : Room) (va_Pc [.ref h, .int x] (cP G k [(h, .inr (2, [.ref b, .int bn])), (b, .inl (ce, 60, .inr (.inr (.inr (.inr fa)))))] [(ce, .object "TowerAppeal$Pledge")] sz)) (va_Qq (fun (r : Option Nat) (_ : Unit) => ((r = none) ∧ (¬ (0 ≤ x.toInt ∧ x.toInt < bn.toInt))) ∨ ((r = fa x.toNatClampNeg) ∧ (0 ≤ x.toInt ∧ x.toInt < bn.toInt))) (cB G (fun (_ : Unit) => [(h, .inr (2, [.ref b, .int bn])), (b, .inl (ce, 60, .inr (.inr (.inr (.inr fa)))))]) (fun (_ : Unit) => []) (va_A [(h, .inr (2, [.ref b, .int bn])), (b, .inl (ce, 60, .inr (.inr (.inr (.inr fa)))))] sz)) (va_A [(h, .inr (2, [.ref b, .int bn])), (b, .inl (ce, 60, .inr (.inr (.inr (.inr fa)))))] sz)) 0 0 (va_A [(h, .inr (2, [.ref b, .int bn])), (b, .inl (ce, 60, .inr (.inr (.inr (.inr fa)))))] sz) := by
  refine ofC_q (cc := cX2_at) (maxL := 2) (ret := (some (.object "TowerAppeal$Pledge"))) (by decide) rfl (Nat.le_of_ble_eq_true rfl) ?_
  intro p e s m args below meth c A ls Q F hr hin hlk St hl hQ
  have hx := F.1
  have hb := F.2.1
  have hl : lv_has ls 2 [(0, .ref h), (1, .int x)] := hl
  have St : cS G k [(h, .inr (2, [.ref b, .int bn])), (b, .inl (ce, 60, .inr (.inr (.inr (.inr fa)))))] [(ce, .object "TowerAppeal$Pledge")] A s s.heap [] := St
  refine lv_iload_n hx hb dX2_at_0 rfl (lv_at hl 1 rfl) ?_
  refine lv_if_lt (tgt := 27) hx hb dX2_at_1 (by decide) (fun c1 => ?_) (fun c1 => ?_)
  ·
    have i1 := ci_lt (x := x) (y := 0) rfl (show (0 : Int32).toInt = 0 by decide) c1
    refine lv_null hx hb dX2_at_27 ?_
    exact cs_qret F hr (Or.inl ⟨_, rfl⟩) hlk hQ St () none rfl (Or.inl ⟨rfl, by omega⟩) [0, 1] rfl (by decide) [] rfl (by decide) (by decide) dX2_at_28
  ·
    have i1 := ci_nlt (x := x) (y := 0) rfl (show (0 : Int32).toInt = 0 by decide) c1
    refine lv_iload_n hx hb dX2_at_4 rfl (lv_at hl 1 rfl) ?_
    refine lv_aload_n hx hb dX2_at_5 rfl (lv_at hl 0 rfl) ?_
    refine cs_get F St 0 rfl rfl inX2 1 (by decide) kf_X2_17 rfl dX2_at_6 ?_
    refine lv_icmp_ge (tgt := 27) hx hb dX2_at_9 (by decide) (fun c9 => ?_) (fun c9 => ?_)
    ·
      have i9 := ci_le (x := bn) (y := x) rfl rfl c9
      refine lv_null hx hb dX2_at_27 ?_
      exact cs_qret F hr (Or.inl ⟨_, rfl⟩) hlk hQ St () none rfl (Or.inl ⟨rfl, by omega⟩) [0, 1] rfl (by decide) [] rfl (by decide) (by decide) dX2_at_28
    ·
      have i9 := ci_nle (x := bn) (y := x) rfl rfl c9
      refine lv_iload_n hx hb dX2_at_12 rfl (lv_at hl 1 rfl) ?_
      refine lv_bipush (v := 60) hx hb dX2_at_13 (by decide) ?_
      refine lv_icmp_ge (tgt := 27) hx hb dX2_at_15 (by decide) (fun c15 => ?_) (fun c15 => ?_)
      ·
        have i15 := ci_le (x := 60) (y := x) (show (60 : Int32).toInt = 60 by decide) rfl c15
        refine lv_null hx hb dX2_at_27 ?_
        exact cs_qret F hr (Or.inl ⟨_, rfl⟩) hlk hQ St () none rfl (Or.inl ⟨rfl, by omega⟩) [0, 1] rfl (by decide) [] rfl (by decide) (by decide) dX2_at_28
      ·
        have i15 := ci_nle (x := 60) (y := x) (show (60 : Int32).toInt = 60 by decide) rfl c15
        refine lv_aload_n hx hb dX2_at_18 rfl (lv_at hl 0 rfl) ?_
        refine cs_get F St 0 rfl rfl inX2 0 (by decide) kf_X2_11 rfl dX2_at_19 ?_
        refine lv_iload_n hx hb dX2_at_22 rfl (lv_at hl 1 rfl) ?_
        refine va_aldq hx hb St.1 St.2.1 1 0 rfl rfl (vp_in_iff.mpr ⟨by omega, by omega⟩) dX2_at_23 ?_
        refine lv_goto (tgt := 28) hx hb dX2_at_24 (by decide) ?_
        exact cs_qret F hr (Or.inl ⟨_, rfl⟩) hlk hQ St () (fa (x : Int32).toNatClampNeg) rfl (Or.inr ⟨rfl, by omega⟩) [0, 1] rfl (by decide) [] rfl (by decide) (by decide) dX2_at_28
set_option maxHeartbeats 4000000 in
set_option maxRecDepth 100000 in
theorem x7_size (l : Launch) (G : va_G) (k : Nat → Nat) (sz : Nat) (h : Nat) (b : Nat) (tn : Int32) (td : Int32) : Met l yX7_size (Cond.code yX7_size cX7_size 1 (some .int) :: tb) ({ frames := 0, cells := 0, slots := 0, locals := 0 } : Room) (va_Pc [.ref h] (cP G k [(h, .inr (7, [.ref b, .int tn, .int td]))] [] sz)) (va_Qi (fun (r : Int32) (_ : Unit) => (r = tn)) (cB G (fun (_ : Unit) => [(h, .inr (7, [.ref b, .int tn, .int td]))]) (fun (_ : Unit) => []) (va_A [(h, .inr (7, [.ref b, .int tn, .int td]))] sz)) (va_A [(h, .inr (7, [.ref b, .int tn, .int td]))] sz)) 0 0 (va_A [(h, .inr (7, [.ref b, .int tn, .int td]))] sz) := by
  refine ofC_i (cc := cX7_size) (maxL := 1) (ret := (some .int)) (by decide) rfl (Nat.le_of_ble_eq_true rfl) ?_
  intro p e s m args below meth c A ls Q F hr hin hlk St hl hQ
  have hx := F.1
  have hb := F.2.1
  have hl : lv_has ls 1 [(0, .ref h)] := hl
  have St : cS G k [(h, .inr (7, [.ref b, .int tn, .int td]))] [] A s s.heap [] := St
  refine lv_aload_n hx hb dX7_size_0 rfl (lv_at hl 0 rfl) ?_
  refine cs_get F St 0 rfl rfl inX7 1 (by decide) kf_X7_17 rfl dX7_size_1 ?_
  exact cs_iret F hr hlk hQ St () (r := tn) rfl [0] rfl (by decide) [] rfl (by decide) (by decide) dX7_size_4
set_option maxHeartbeats 4000000 in
set_option maxRecDepth 100000 in
theorem x7_isFull (l : Launch) (G : va_G) (k : Nat → Nat) (sz : Nat) (h : Nat) (b : Nat) (tn : Int32) (td : Int32) : Met l yX7_isFull (Cond.code yX7_isFull cX7_isFull 1 (some .boolean) :: tb) ({ frames := 0, cells := 0, slots := 0, locals := 0 } : Room) (va_Pc [.ref h] (cP G k [(h, .inr (7, [.ref b, .int tn, .int td]))] [] sz)) (va_Qi (fun (r : Int32) (_ : Unit) => ((r = 1) ∧ (8 ≤ tn.toInt)) ∨ ((r = 0) ∧ (¬ (8 ≤ tn.toInt)))) (cB G (fun (_ : Unit) => [(h, .inr (7, [.ref b, .int tn, .int td]))]) (fun (_ : Unit) => []) (va_A [(h, .inr (7, [.ref b, .int tn, .int td]))] sz)) (va_A [(h, .inr (7, [.ref b, .int tn, .int td]))] sz)) 0 0 (va_A [(h, .inr (7, [.ref b, .int tn, .int td]))] sz) := by
  refine ofC_i (cc := cX7_isFull) (maxL := 1) (ret := (some .boolean)) (by decide) rfl (Nat.le_of_ble_eq_true rfl) ?_
  intro p e s m args below meth c A ls Q F hr hin hlk St hl hQ
  have hx := F.1
  have hb := F.2.1
  have hl : lv_has ls 1 [(0, .ref h)] := hl
  have St : cS G k [(h, .inr (7, [.ref b, .int tn, .int td]))] [] A s s.heap [] := St
  refine lv_aload_n hx hb dX7_isFull_0 rfl (lv_at hl 0 rfl) ?_
  refine cs_get F St 0 rfl rfl inX7 1 (by decide) kf_X7_17 rfl dX7_isFull_1 ?_
  refine lv_bipush (v := 8) hx hb dX7_isFull_4 (by decide) ?_
  refine lv_icmp_lt (tgt := 13) hx hb dX7_isFull_6 (by decide) (fun c6 => ?_) (fun c6 => ?_)
  ·
    have i6 := ci_lt (x := tn) (y := 8) rfl (show (8 : Int32).toInt = 8 by decide) c6
    refine lv_iconst (v := 0) hx hb dX7_isFull_13 (by decide) ?_
    exact cs_zret F hr hlk hQ St () (r := 0) rfl (Or.inr ⟨rfl, by omega⟩) [0] rfl (by decide) [] rfl (by decide) (by decide) dX7_isFull_14
  ·
    have i6 := ci_nlt (x := tn) (y := 8) rfl (show (8 : Int32).toInt = 8 by decide) c6
    refine lv_iconst (v := 1) hx hb dX7_isFull_9 (by decide) ?_
    refine lv_goto (tgt := 14) hx hb dX7_isFull_10 (by decide) ?_
    exact cs_zret F hr hlk hQ St () (r := 1) rfl (Or.inl ⟨rfl, by omega⟩) [0] rfl (by decide) [] rfl (by decide) (by decide) dX7_isFull_14
set_option maxHeartbeats 4000000 in
set_option maxRecDepth 100000 in
theorem x7_at (l : Launch) (G : va_G) (k : Nat → Nat) (sz : Nat) (h : Nat) (b : Nat) (cf : ClassId) (tn : Int32) (td : Int32) (fs : Nat → Option Nat) (x : Int32) (ht0 : 0 ≤ tn.toInt) (ht1 : tn.toInt ≤ 8) : Met l yX7_at (Cond.code yX7_at cX7_at 2 (some (.object "TowerAppeal$Stage")) :: tb) ({ frames := 0, cells := 0, slots := 0, locals := 0 } : Room) (va_Pc [.ref h, .int x] (cP G k [(h, .inr (7, [.ref b, .int tn, .int td])), (b, .inl (cf, 8, .inr (.inr (.inr (.inr fs)))))] [(cf, .object "TowerAppeal$Stage")] sz)) (va_Qq (fun (r : Option Nat) (_ : Unit) => ((r = none) ∧ (¬ (0 ≤ x.toInt ∧ x.toInt < tn.toInt))) ∨ ((r = fs x.toNatClampNeg) ∧ (0 ≤ x.toInt ∧ x.toInt < tn.toInt))) (cB G (fun (_ : Unit) => [(h, .inr (7, [.ref b, .int tn, .int td])), (b, .inl (cf, 8, .inr (.inr (.inr (.inr fs)))))]) (fun (_ : Unit) => []) (va_A [(h, .inr (7, [.ref b, .int tn, .int td])), (b, .inl (cf, 8, .inr (.inr (.inr (.inr fs)))))] sz)) (va_A [(h, .inr (7, [.ref b, .int tn, .int td])), (b, .inl (cf, 8, .inr (.inr (.inr (.inr fs)))))] sz)) 0 0 (va_A [(h, .inr (7, [.ref b, .int tn, .int td])), (b, .inl (cf, 8, .inr (.inr (.inr (.inr fs)))))] sz) := by
  refine ofC_q (cc := cX7_at) (maxL := 2) (ret := (some (.object "TowerAppeal$Stage"))) (by decide) rfl (Nat.le_of_ble_eq_true rfl) ?_
  intro p e s m args below meth c A ls Q F hr hin hlk St hl hQ
  have hx := F.1
  have hb := F.2.1
  have hl : lv_has ls 2 [(0, .ref h), (1, .int x)] := hl
  have St : cS G k [(h, .inr (7, [.ref b, .int tn, .int td])), (b, .inl (cf, 8, .inr (.inr (.inr (.inr fs)))))] [(cf, .object "TowerAppeal$Stage")] A s s.heap [] := St
  refine lv_iload_n hx hb dX7_at_0 rfl (lv_at hl 1 rfl) ?_
  refine lv_if_lt (tgt := 27) hx hb dX7_at_1 (by decide) (fun c1 => ?_) (fun c1 => ?_)
  ·
    have i1 := ci_lt (x := x) (y := 0) rfl (show (0 : Int32).toInt = 0 by decide) c1
    refine lv_null hx hb dX7_at_27 ?_
    exact cs_qret F hr (Or.inl ⟨_, rfl⟩) hlk hQ St () none rfl (Or.inl ⟨rfl, by omega⟩) [0, 1] rfl (by decide) [] rfl (by decide) (by decide) dX7_at_28
  ·
    have i1 := ci_nlt (x := x) (y := 0) rfl (show (0 : Int32).toInt = 0 by decide) c1
    refine lv_iload_n hx hb dX7_at_4 rfl (lv_at hl 1 rfl) ?_
    refine lv_aload_n hx hb dX7_at_5 rfl (lv_at hl 0 rfl) ?_
    refine cs_get F St 0 rfl rfl inX7 1 (by decide) kf_X7_17 rfl dX7_at_6 ?_
    refine lv_icmp_ge (tgt := 27) hx hb dX7_at_9 (by decide) (fun c9 => ?_) (fun c9 => ?_)
    ·
      have i9 := ci_le (x := tn) (y := x) rfl rfl c9
      refine lv_null hx hb dX7_at_27 ?_
      exact cs_qret F hr (Or.inl ⟨_, rfl⟩) hlk hQ St () none rfl (Or.inl ⟨rfl, by omega⟩) [0, 1] rfl (by decide) [] rfl (by decide) (by decide) dX7_at_28
    ·
      have i9 := ci_nle (x := tn) (y := x) rfl rfl c9
      refine lv_iload_n hx hb dX7_at_12 rfl (lv_at hl 1 rfl) ?_
      refine lv_bipush (v := 8) hx hb dX7_at_13 (by decide) ?_
      refine lv_icmp_ge (tgt := 27) hx hb dX7_at_15 (by decide) (fun c15 => ?_) (fun c15 => ?_)
      ·
        have i15 := ci_le (x := 8) (y := x) (show (8 : Int32).toInt = 8 by decide) rfl c15
        refine lv_null hx hb dX7_at_27 ?_
        exact cs_qret F hr (Or.inl ⟨_, rfl⟩) hlk hQ St () none rfl (Or.inl ⟨rfl, by omega⟩) [0, 1] rfl (by decide) [] rfl (by decide) (by decide) dX7_at_28
      ·
        have i15 := ci_nle (x := 8) (y := x) (show (8 : Int32).toInt = 8 by decide) rfl c15
        refine lv_aload_n hx hb dX7_at_18 rfl (lv_at hl 0 rfl) ?_
        refine cs_get F St 0 rfl rfl inX7 0 (by decide) kf_X7_11 rfl dX7_at_19 ?_
        refine lv_iload_n hx hb dX7_at_22 rfl (lv_at hl 1 rfl) ?_
        refine va_aldq hx hb St.1 St.2.1 1 0 rfl rfl (vp_in_iff.mpr ⟨by omega, by omega⟩) dX7_at_23 ?_
        refine lv_goto (tgt := 28) hx hb dX7_at_24 (by decide) ?_
        exact cs_qret F hr (Or.inl ⟨_, rfl⟩) hlk hQ St () (fs (x : Int32).toNatClampNeg) rfl (Or.inr ⟨rfl, by omega⟩) [0, 1] rfl (by decide) [] rfl (by decide) (by decide) dX7_at_28
