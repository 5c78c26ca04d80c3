set_option maxHeartbeats 4000000 in
set_option maxRecDepth 100000 in
theorem x1_giverNumber (l : Launch) (G : va_G) (k : Nat → Nat) (sz : Nat) (h : Nat) (o0 : Nat) (o1 : Nat) (o2 : Nat) (N0 : Nat) (ci : ClassId) (pg : Int32) (pf : Int32) (pe : Int32) (pz : Int32) (pp : Int32) (pa : Int32) (pl : Int32) (pk : Int32) (pb : Int32) (w0 : Nat → Int32) (w1 : Nat → Int32) (w2 : Nat → Int32) (hN : (N0 : Int) = pz.toInt) (hN4 : N0 ≤ 84) : Met l yX1_giverNumber (Cond.code yX1_giverNumber cX1_giverNumber 1 (some .int) :: tb) ({ frames := 0, cells := 0, slots := 0, locals := 0 } : Room) (va_Pc [.ref h] (cP G k [(h, .inr (1, [.int pg, .int pf, .int pe, .int pz, .ref o0, .ref o1, .ref o2, .int pp, .int pa, .int pl, .int pk, .int pb])), (o0, .inl (ci, N0, .inl w0)), (o1, .inl (ci, N0, .inl w1)), (o2, .inl (ci, N0, .inl w2))] [(ci, .int)] sz)) (va_Qi (fun (r : Int32) (_ : Unit) => (r = pg)) (cB G (fun (_ : Unit) => [(h, .inr (1, [.int pg, .int pf, .int pe, .int pz, .ref o0, .ref o1, .ref o2, .int pp, .int pa, .int pl, .int pk, .int pb])), (o0, .inl (ci, N0, .inl w0)), (o1, .inl (ci, N0, .inl w1)), (o2, .inl (ci, N0, .inl w2))]) (fun (_ : Unit) => []) (va_A [(h, .inr (1, [.int pg, .int pf, .int pe, .int pz, .ref o0, .ref o1, .ref o2, .int pp, .int pa, .int pl, .int pk, .int pb])), (o0, .inl (ci, N0, .inl w0)), (o1, .inl (ci, N0, .inl w1)), (o2, .inl (ci, N0, .inl w2))] sz)) (va_A [(h, .inr (1, [.int pg, .int pf, .int pe, .int pz, .ref o0, .ref o1, .ref o2, .int pp, .int pa, .int pl, .int pk, .int pb])), (o0, .inl (ci, N0, .inl w0)), (o1, .inl (ci, N0, .inl w1)), (o2, .inl (ci, N0, .inl w2))] sz)) 0 0 (va_A [(h, .inr (1, [.int pg, .int pf, .int pe, .int pz, .ref o0, .ref o1, .ref o2, .int pp, .int pa, .int pl, .int pk, .int pb])), (o0, .inl (ci, N0, .inl w0)), (o1, .inl (ci, N0, .inl w1)), (o2, .inl (ci, N0, .inl w2))] sz) := by
  refine ofC_i (cc := cX1_giverNumber) (maxL := 1) (ret := (some .int)) (by decide) rfl (Nat.le_of_ble_eq_true rfl) ?_
  intro p e s m args below meth c A ls Q F hr hin hlk St hl hQ
  have hx := F.1
  have hb := F.2.1
  have hl : lv_has ls 1 [(0, .ref h)] := hl
  have St : cS G k [(h, .inr (1, [.int pg, .int pf, .int pe, .int pz, .ref o0, .ref o1, .ref o2, .int pp, .int pa, .int pl, .int pk, .int pb])), (o0, .inl (ci, N0, .inl w0)), (o1, .inl (ci, N0, .inl w1)), (o2, .inl (ci, N0, .inl w2))] [(ci, .int)] A s s.heap [] := St
  have y0 : (0 : Int32).toInt = 0 := by decide
  refine lv_aload_n hx hb dX1_giverNumber_0 rfl (lv_at hl 0 rfl) ?_
  refine cs_get F St 0 rfl rfl inX1 0 (by decide) kf_X1_15 rfl dX1_giverNumber_1 ?_
  exact cs_iret F hr hlk hQ St () (r := pg) rfl [0, 1, 2, 3] rfl (by decide) [] rfl (by decide) (by decide) dX1_giverNumber_4
set_option maxHeartbeats 4000000 in
set_option maxRecDepth 100000 in
theorem x1_penceToCome (l : Launch) (G : va_G) (k : Nat → Nat) (sz : Nat) (h : Nat) (o0 : Nat) (o1 : Nat) (o2 : Nat) (N0 : Nat) (ci : ClassId) (pg : Int32) (pf : Int32) (pe : Int32) (pz : Int32) (pp : Int32) (pa : Int32) (pl : Int32) (pk : Int32) (pb : Int32) (w0 : Nat → Int32) (w1 : Nat → Int32) (w2 : Nat → Int32) (hN : (N0 : Int) = pz.toInt) (hN4 : N0 ≤ 84) : Met l yX1_penceToCome (Cond.code yX1_penceToCome cX1_penceToCome 1 (some .int) :: tb) ({ frames := 0, cells := 0, slots := 0, locals := 0 } : Room) (va_Pc [.ref h] (cP G k [(h, .inr (1, [.int pg, .int pf, .int pe, .int pz, .ref o0, .ref o1, .ref o2, .int pp, .int pa, .int pl, .int pk, .int pb])), (o0, .inl (ci, N0, .inl w0)), (o1, .inl (ci, N0, .inl w1)), (o2, .inl (ci, N0, .inl w2))] [(ci, .int)] sz)) (va_Qi (fun (r : Int32) (_ : Unit) => (r = pp)) (cB G (fun (_ : Unit) => [(h, .inr (1, [.int pg, .int pf, .int pe, .int pz, .ref o0, .ref o1, .ref o2, .int pp, .int pa, .int pl, .int pk, .int pb])), (o0, .inl (ci, N0, .inl w0)), (o1, .inl (ci, N0, .inl w1)), (o2, .inl (ci, N0, .inl w2))]) (fun (_ : Unit) => []) (va_A [(h, .inr (1, [.int pg, .int pf, .int pe, .int pz, .ref o0, .ref o1, .ref o2, .int pp, .int pa, .int pl, .int pk, .int pb])), (o0, .inl (ci, N0, .inl w0)), (o1, .inl (ci, N0, .inl w1)), (o2, .inl (ci, N0, .inl w2))] sz)) (va_A [(h, .inr (1, [.int pg, .int pf, .int pe, .int pz, .ref o0, .ref o1, .ref o2, .int pp, .int pa, .int pl, .int pk, .int pb])), (o0, .inl (ci, N0, .inl w0)), (o1, .inl (ci, N0, .inl w1)), (o2, .inl (ci, N0, .inl w2))] sz)) 0 0 (va_A [(h, .inr (1, [.int pg, .int pf, .int pe, .int pz, .ref o0, .ref o1, .ref o2, .int pp, .int pa, .int pl, .int pk, .int pb])), (o0, .inl (ci, N0, .inl w0)), (o1, .inl (ci, N0, .inl w1)), (o2, .inl (ci, N0, .inl w2))] sz) := by
  refine ofC_i (cc := cX1_penceToCome) (maxL := 1) (ret := (some .int)) (by decide) rfl (Nat.le_of_ble_eq_true rfl) ?_
  intro p e s m args below meth c A ls Q F hr hin hlk St hl hQ
  have hx := F.1
  have hb := F.2.1
  have hl : lv_has ls 1 [(0, .ref h)] := hl
  have St : cS G k [(h, .inr (1, [.int pg, .int pf, .int pe, .int pz, .ref o0, .ref o1, .ref o2, .int pp, .int pa, .int pl, .int pk, .int pb])), (o0, .inl (ci, N0, .inl w0)), (o1, .inl (ci, N0, .inl w1)), (o2, .inl (ci, N0, .inl w2))] [(ci, .int)] A s s.heap [] := St
  have y0 : (0 : Int32).toInt = 0 := by decide
  refine lv_aload_n hx hb dX1_penceToCome_0 rfl (lv_at hl 0 rfl) ?_
  refine cs_get F St 0 rfl rfl inX1 7 (by decide) kf_X1_41 rfl dX1_penceToCome_1 ?_
  exact cs_iret F hr hlk hQ St () (r := pp) rfl [0, 1, 2, 3] rfl (by decide) [] rfl (by decide) (by decide) dX1_penceToCome_4
set_option maxHeartbeats 4000000 in
set_option maxRecDepth 100000 in
theorem x1_filledInAll (l : Launch) (G : va_G) (k : Nat → Nat) (sz : Nat) (h : Nat) (o0 : Nat) (o1 : Nat) (o2 : Nat) (N0 : Nat) (ci : ClassId) (pg : Int32) (pf : Int32) (pe : Int32) (pz : Int32) (pp : Int32) (pa : Int32) (pl : Int32) (pk : Int32) (pb : Int32) (w0 : Nat → Int32) (w1 : Nat → Int32) (w2 : Nat → Int32) (hN : (N0 : Int) = pz.toInt) (hN4 : N0 ≤ 84) : Met l yX1_filledInAll (Cond.code yX1_filledInAll cX1_filledInAll 1 (some .int) :: tb) ({ frames := 0, cells := 0, slots := 0, locals := 0 } : Room) (va_Pc [.ref h] (cP G k [(h, .inr (1, [.int pg, .int pf, .int pe, .int pz, .ref o0, .ref o1, .ref o2, .int pp, .int pa, .int pl, .int pk, .int pb])), (o0, .inl (ci, N0, .inl w0)), (o1, .inl (ci, N0, .inl w1)), (o2, .inl (ci, N0, .inl w2))] [(ci, .int)] sz)) (va_Qi (fun (r : Int32) (_ : Unit) => (r = pa)) (cB G (fun (_ : Unit) => [(h, .inr (1, [.int pg, .int pf, .int pe, .int pz, .ref o0, .ref o1, .ref o2, .int pp, .int pa, .int pl, .int pk, .int pb])), (o0, .inl (ci, N0, .inl w0)), (o1, .inl (ci, N0, .inl w1)), (o2, .inl (ci, N0, .inl w2))]) (fun (_ : Unit) => []) (va_A [(h, .inr (1, [.int pg, .int pf, .int pe, .int pz, .ref o0, .ref o1, .ref o2, .int pp, .int pa, .int pl, .int pk, .int pb])), (o0, .inl (ci, N0, .inl w0)), (o1, .inl (ci, N0, .inl w1)), (o2, .inl (ci, N0, .inl w2))] sz)) (va_A [(h, .inr (1, [.int pg, .int pf, .int pe, .int pz, .ref o0, .ref o1, .ref o2, .int pp, .int pa, .int pl, .int pk, .int pb])), (o0, .inl (ci, N0, .inl w0)), (o1, .inl (ci, N0, .inl w1)), (o2, .inl (ci, N0, .inl w2))] sz)) 0 0 (va_A [(h, .inr (1, [.int pg, .int pf, .int pe, .int pz, .ref o0, .ref o1, .ref o2, .int pp, .int pa, .int pl, .int pk, .int pb])), (o0, .inl (ci, N0, .inl w0)), (o1, .inl (ci, N0, .inl w1)), (o2, .inl (ci, N0, .inl w2))] sz) := by
  refine ofC_i (cc := cX1_filledInAll) (maxL := 1) (ret := (some .int)) (by decide) rfl (Nat.le_of_ble_eq_true rfl) ?_
  intro p e s m args below meth c A ls Q F hr hin hlk St hl hQ
  have hx := F.1
  have hb := F.2.1
  have hl : lv_has ls 1 [(0, .ref h)] := hl
  have St : cS G k [(h, .inr (1, [.int pg, .int pf, .int pe, .int pz, .ref o0, .ref o1, .ref o2, .int pp, .int pa, .int pl, .int pk, .int pb])), (o0, .inl (ci, N0, .inl w0)), (o1, .inl (ci, N0, .inl w1)), (o2, .inl (ci, N0, .inl w2))] [(ci, .int)] A s s.heap [] := St
  have y0 : (0 : Int32).toInt = 0 := by decide
  refine lv_aload_n hx hb dX1_filledInAll_0 rfl (lv_at hl 0 rfl) ?_
  refine cs_get F St 0 rfl rfl inX1 8 (by decide) kf_X1_44 rfl dX1_filledInAll_1 ?_
  exact cs_iret F hr hlk hQ St () (r := pa) rfl [0, 1, 2, 3] rfl (by decide) [] rfl (by decide) (by decide) dX1_filledInAll_4
set_option maxHeartbeats 4000000 in
set_option maxRecDepth 100000 in
theorem x1_firstLapse (l : Launch) (G : va_G) (k : Nat → Nat) (sz : Nat) (h : Nat) (o0 : Nat) (o1 : Nat) (o2 : Nat) (N0 : Nat) (ci : ClassId) (pg : Int32) (pf : Int32) (pe : Int32) (pz : Int32) (pp : Int32) (pa : Int32) (pl : Int32) (pk : Int32) (pb : Int32) (w0 : Nat → Int32) (w1 : Nat → Int32) (w2 : Nat → Int32) (hN : (N0 : Int) = pz.toInt) (hN4 : N0 ≤ 84) : Met l yX1_firstLapse (Cond.code yX1_firstLapse cX1_firstLapse 1 (some .int) :: tb) ({ frames := 0, cells := 0, slots := 0, locals := 0 } : Room) (va_Pc [.ref h] (cP G k [(h, .inr (1, [.int pg, .int pf, .int pe, .int pz, .ref o0, .ref o1, .ref o2, .int pp, .int pa, .int pl, .int pk, .int pb])), (o0, .inl (ci, N0, .inl w0)), (o1, .inl (ci, N0, .inl w1)), (o2, .inl (ci, N0, .inl w2))] [(ci, .int)] sz)) (va_Qi (fun (r : Int32) (_ : Unit) => (r = pb)) (cB G (fun (_ : Unit) => [(h, .inr (1, [.int pg, .int pf, .int pe, .int pz, .ref o0, .ref o1, .ref o2, .int pp, .int pa, .int pl, .int pk, .int pb])), (o0, .inl (ci, N0, .inl w0)), (o1, .inl (ci, N0, .inl w1)), (o2, .inl (ci, N0, .inl w2))]) (fun (_ : Unit) => []) (va_A [(h, .inr (1, [.int pg, .int pf, .int pe, .int pz, .ref o0, .ref o1, .ref o2, .int pp, .int pa, .int pl, .int pk, .int pb])), (o0, .inl (ci, N0, .inl w0)), (o1, .inl (ci, N0, .inl w1)), (o2, .inl (ci, N0, .inl w2))] sz)) (va_A [(h, .inr (1, [.int pg, .int pf, .int pe, .int pz, .ref o0, .ref o1, .ref o2, .int pp, .int pa, .int pl, .int pk, .int pb])), (o0, .inl (ci, N0, .inl w0)), (o1, .inl (ci, N0, .inl w1)), (o2, .inl (ci, N0, .inl w2))] sz)) 0 0 (va_A [(h, .inr (1, [.int pg, .int pf, .int pe, .int pz, .ref o0, .ref o1, .ref o2, .int pp, .int pa, .int pl, .int pk, .int pb])), (o0, .inl (ci, N0, .inl w0)), (o1, .inl (ci, N0, .inl w1)), (o2, .inl (ci, N0, .inl w2))] sz) := by
  refine ofC_i (cc := cX1_firstLapse) (maxL := 1) (ret := (some .int)) (by decide) rfl (Nat.le_of_ble_eq_true rfl) ?_
  intro p e s m args below meth c A ls Q F hr hin hlk St hl hQ
  have hx := F.1
  have hb := F.2.1
  have hl : lv_has ls 1 [(0, .ref h)] := hl
  have St : cS G k [(h, .inr (1, [.int pg, .int pf, .int pe, .int pz, .ref o0, .ref o1, .ref o2, .int pp, .int pa, .int pl, .int pk, .int pb])), (o0, .inl (ci, N0, .inl w0)), (o1, .inl (ci, N0, .inl w1)), (o2, .inl (ci, N0, .inl w2))] [(ci, .int)] A s s.heap [] := St
  have y0 : (0 : Int32).toInt = 0 := by decide
  refine lv_aload_n hx hb dX1_firstLapse_0 rfl (lv_at hl 0 rfl) ?_
  refine cs_get F St 0 rfl rfl inX1 11 (by decide) kf_X1_9 rfl dX1_firstLapse_1 ?_
  exact cs_iret F hr hlk hQ St () (r := pb) rfl [0, 1, 2, 3] rfl (by decide) [] rfl (by decide) (by decide) dX1_firstLapse_4
set_option maxHeartbeats 4000000 in
set_option maxRecDepth 100000 in
theorem x1_isLapsed (l : Launch) (G : va_G) (k : Nat → Nat) (sz : Nat) (h : Nat) (o0 : Nat) (o1 : Nat) (o2 : Nat) (N0 : Nat) (ci : ClassId) (pg : Int32) (pf : Int32) (pe : Int32) (pz : Int32) (pp : Int32) (pa : Int32) (pl : Int32) (pk : Int32) (pb : Int32) (w0 : Nat → Int32) (w1 : Nat → Int32) (w2 : Nat → Int32) (hN : (N0 : Int) = pz.toInt) (hN4 : N0 ≤ 84) (hl_ : pl = 0 ∨ pl = 1) : Met l yX1_isLapsed (Cond.code yX1_isLapsed cX1_isLapsed 1 (some .boolean) :: tb) ({ frames := 0, cells := 0, slots := 0, locals := 0 } : Room) (va_Pc [.ref h] (cP G k [(h, .inr (1, [.int pg, .int pf, .int pe, .int pz, .ref o0, .ref o1, .ref o2, .int pp, .int pa, .int pl, .int pk, .int pb])), (o0, .inl (ci, N0, .inl w0)), (o1, .inl (ci, N0, .inl w1)), (o2, .inl (ci, N0, .inl w2))] [(ci, .int)] sz)) (va_Qi (fun (r : Int32) (_ : Unit) => (r = pl)) (cB G (fun (_ : Unit) => [(h, .inr (1, [.int pg, .int pf, .int pe, .int pz, .ref o0, .ref o1, .ref o2, .int pp, .int pa, .int pl, .int pk, .int pb])), (o0, .inl (ci, N0, .inl w0)), (o1, .inl (ci, N0, .inl w1)), (o2, .inl (ci, N0, .inl w2))]) (fun (_ : Unit) => []) (va_A [(h, .inr (1, [.int pg, .int pf, .int pe, .int pz, .ref o0, .ref o1, .ref o2, .int pp, .int pa, .int pl, .int pk, .int pb])), (o0, .inl (ci, N0, .inl w0)), (o1, .inl (ci, N0, .inl w1)), (o2, .inl (ci, N0, .inl w2))] sz)) (va_A [(h, .inr (1, [.int pg, .int pf, .int pe, .int pz, .ref o0, .ref o1, .ref o2, .int pp, .int pa, .int pl, .int pk, .int pb])), (o0, .inl (ci, N0, .inl w0)), (o1, .inl (ci, N0, .inl w1)), (o2, .inl (ci, N0, .inl w2))] sz)) 0 0 (va_A [(h, .inr (1, [.int pg, .int pf, .int pe, .int pz, .ref o0, .ref o1, .ref o2, .int pp, .int pa, .int pl, .int pk, .int pb])), (o0, .inl (ci, N0, .inl w0)), (o1, .inl (ci, N0, .inl w1)), (o2, .inl (ci, N0, .inl w2))] sz) := by
  refine ofC_i (cc := cX1_isLapsed) (maxL := 1) (ret := (some .boolean)) (by decide) rfl (Nat.le_of_ble_eq_true rfl) ?_
  intro p e s m args below meth c A ls Q F hr hin hlk St hl hQ
  have hx := F.1
  have hb := F.2.1
  have hl : lv_has ls 1 [(0, .ref h)] := hl
  have St : cS G k [(h, .inr (1, [.int pg, .int pf, .int pe, .int pz, .ref o0, .ref o1, .ref o2, .int pp, .int pa, .int pl, .int pk, .int pb])), (o0, .inl (ci, N0, .inl w0)), (o1, .inl (ci, N0, .inl w1)), (o2, .inl (ci, N0, .inl w2))] [(ci, .int)] A s s.heap [] := St
  have y0 : (0 : Int32).toInt = 0 := by decide
  refine lv_aload_n hx hb dX1_isLapsed_0 rfl (lv_at hl 0 rfl) ?_
  refine cs_get F St 0 rfl rfl inX1 9 (by decide) kf_X1_47 rfl dX1_isLapsed_1 ?_
  exact cs_zret F hr hlk hQ St () (r := pl) (by rcases hl_ with q | q <;> (rw [q]; rfl)) rfl [0, 1, 2, 3] rfl (by decide) [] rfl (by decide) (by decide) dX1_isLapsed_4
set_option maxHeartbeats 4000000 in
set_option maxRecDepth 100000 in
theorem x1_mayBeTakenUp (l : Launch) (G : va_G) (k : Nat → Nat) (sz : Nat) (h : Nat) (o0 : Nat) (o1 : Nat) (o2 : Nat) (N0 : Nat) (ci : ClassId) (pg : Int32) (pf : Int32) (pe : Int32) (pz : Int32) (pp : Int32) (pa : Int32) (pl : Int32) (pk : Int32) (pb : Int32) (w0 : Nat → Int32) (w1 : Nat → Int32) (w2 : Nat → Int32) (hN : (N0 : Int) = pz.toInt) (hN4 : N0 ≤ 84) : Met l yX1_mayBeTakenUp (Cond.code yX1_mayBeTakenUp cX1_mayBeTakenUp 1 (some .boolean) :: tb) ({ frames := 0, cells := 0, slots := 0, locals := 0 } : Room) (va_Pc [.ref h] (cP G k [(h, .inr (1, [.int pg, .int pf, .int pe, .int pz, .ref o0, .ref o1, .ref o2, .int pp, .int pa, .int pl, .int pk, .int pb])), (o0, .inl (ci, N0, .inl w0)), (o1, .inl (ci, N0, .inl w1)), (o2, .inl (ci, N0, .inl w2))] [(ci, .int)] sz)) (va_Qi (fun (r : Int32) (_ : Unit) => ((r = 1)) ∨ ((r = 0))) (cB G (fun (_ : Unit) => [(h, .inr (1, [.int pg, .int pf, .int pe, .int pz, .ref o0, .ref o1, .ref o2, .int pp, .int pa, .int pl, .int pk, .int pb])), (o0, .inl (ci, N0, .inl w0)), (o1, .inl (ci, N0, .inl w1)), (o2, .inl (ci, N0, .inl w2))]) (fun (_ : Unit) => []) (va_A [(h, .inr (1, [.int pg, .int pf, .int pe, .int pz, .ref o0, .ref o1, .ref o2, .int pp, .int pa, .int pl, .int pk, .int pb])), (o0, .inl (ci, N0, .inl w0)), (o1, .inl (ci, N0, .inl w1)), (o2, .inl (ci, N0, .inl w2))] sz)) (va_A [(h, .inr (1, [.int pg, .int pf, .int pe, .int pz, .ref o0, .ref o1, .ref o2, .int pp, .int pa, .int pl, .int pk, .int pb])), (o0, .inl (ci, N0, .inl w0)), (o1, .inl (ci, N0, .inl w1)), (o2, .inl (ci, N0, .inl w2))] sz)) 0 0 (va_A [(h, .inr (1, [.int pg, .int pf, .int pe, .int pz, .ref o0, .ref o1, .ref o2, .int pp, .int pa, .int pl, .int pk, .int pb])), (o0, .inl (ci, N0, .inl w0)), (o1, .inl (ci, N0, .inl w1)), (o2, .inl (ci, N0, .inl w2))] sz) := by
  refine ofC_i (cc := cX1_mayBeTakenUp) (maxL := 1) (ret := (some .boolean)) (by decide) rfl (Nat.le_of_ble_eq_true rfl) ?_
  intro p e s m args below meth c A ls Q F hr hin hlk St hl hQ
  have hx := F.1
  have hb := F.2.1
  have hl : lv_has ls 1 [(0, .ref h)] := hl
  have St : cS G k [(h, .inr (1, [.int pg, .int pf, .int pe, .int pz, .ref o0, .ref o1, .ref o2, .int pp, .int pa, .int pl, .int pk, .int pb])), (o0, .inl (ci, N0, .inl w0)), (o1, .inl (ci, N0, .inl w1)), (o2, .inl (ci, N0, .inl w2))] [(ci, .int)] A s s.heap [] := St
  have y0 : (0 : Int32).toInt = 0 := by decide
  refine lv_aload_n hx hb dX1_mayBeTakenUp_0 rfl (lv_at hl 0 rfl) ?_
  refine cs_get F St 0 rfl rfl inX1 9 (by decide) kf_X1_47 rfl dX1_mayBeTakenUp_1 ?_
  refine lv_if_eq (tgt := 18) hx hb dX1_mayBeTakenUp_4 (by decide) (fun c4 => ?_) (fun c4 => ?_)
  ·
    have i4 := ci_eq (x := pl) (y := 0) rfl (show (0 : Int32).toInt = 0 by decide) c4
    refine lv_iconst (v := 0) hx hb dX1_mayBeTakenUp_18 (by decide) ?_
    exact cs_zret F hr hlk hQ St () (r := 0) rfl (Or.inr rfl) [0, 1, 2, 3] rfl (by decide) [] rfl (by decide) (by decide) dX1_mayBeTakenUp_19
  ·
    have i4 := ci_ne (x := pl) (y := 0) rfl (show (0 : Int32).toInt = 0 by decide) c4
    refine lv_aload_n hx hb dX1_mayBeTakenUp_7 rfl (lv_at hl 0 rfl) ?_
    refine cs_get F St 0 rfl rfl inX1 10 (by decide) kf_X1_51 rfl dX1_mayBeTakenUp_8 ?_
    refine lv_if_ne (tgt := 18) hx hb dX1_mayBeTakenUp_11 (by decide) (fun c11 => ?_) (fun c11 => ?_)
    ·
      have i11 := ci_ne (x := pk) (y := 0) rfl (show (0 : Int32).toInt = 0 by decide) c11
      refine lv_iconst (v := 0) hx hb dX1_mayBeTakenUp_18 (by decide) ?_
      exact cs_zret F hr hlk hQ St () (r := 0) rfl (Or.inr rfl) [0, 1, 2, 3] rfl (by decide) [] rfl (by decide) (by decide) dX1_mayBeTakenUp_19
    ·
      have i11 := ci_eq (x := pk) (y := 0) rfl (show (0 : Int32).toInt = 0 by decide) c11
      refine lv_iconst (v := 1) hx hb dX1_mayBeTakenUp_14 (by decide) ?_
      refine lv_goto (tgt := 19) hx hb dX1_mayBeTakenUp_15 (by decide) ?_
      exact cs_zret F hr hlk hQ St () (r := 1) rfl (Or.inl rfl) [0, 1, 2, 3] rfl (by decide) [] rfl (by decide) (by decide) dX1_mayBeTakenUp_19
set_option maxHeartbeats 4000000 in
set_option maxRecDepth 100000 in
theorem x1_monthOf (l : Launch) (G : va_G) (k : Nat → Nat) (sz : Nat) (h : Nat) (o0 : Nat) (o1 : Nat) (o2 : Nat) (N0 : Nat) (ci : ClassId) (pg : Int32) (pf : Int32) (pe : Int32) (pz : Int32) (pp : Int32) (pa : Int32) (pl : Int32) (pk : Int32) (pb : Int32) (w0 : Nat → Int32) (w1 : Nat → Int32) (w2 : Nat → Int32) (x : Int32) (hN : (N0 : Int) = pz.toInt) (hN4 : N0 ≤ 84) : Met l yX1_monthOf (Cond.code yX1_monthOf cX1_monthOf 2 (some .int) :: tb) ({ frames := 0, cells := 0, slots := 0, locals := 0 } : Room) (va_Pc [.ref h, .int x] (cP G k [(h, .inr (1, [.int pg, .int pf, .int pe, .int pz, .ref o0, .ref o1, .ref o2, .int pp, .int pa, .int pl, .int pk, .int pb])), (o0, .inl (ci, N0, .inl w0)), (o1, .inl (ci, N0, .inl w1)), (o2, .inl (ci, N0, .inl w2))] [(ci, .int)] sz)) (va_Qi (fun (r : Int32) (_ : Unit) => True) (cB G (fun (_ : Unit) => [(h, .inr (1, [.int pg, .int pf, .int pe, .int pz, .ref o0, .ref o1, .ref o2, .int pp, .int pa, .int pl, .int pk, .int pb])), (o0, .inl (ci, N0, .inl w0)), (o1, .inl (ci, N0, .inl w1)), (o2, .inl (ci, N0, .inl w2))]) (fun (_ : Unit) => []) (va_A [(h, .inr (1, [.int pg, .int pf, .int pe, .int pz, .ref o0, .ref o1, .ref o2, .int pp, .int pa, .int pl, .int pk, .int pb])), (o0, .inl (ci, N0, .inl w0)), (o1, .inl (ci, N0, .inl w1)), (o2, .inl (ci, N0, .inl w2))] sz)) (va_A [(h, .inr (1, [.int pg, .int pf, .int pe, .int pz, .ref o0, .ref o1, .ref o2, .int pp, .int pa, .int pl, .int pk, .int pb])), (o0, .inl (ci, N0, .inl w0)), (o1, .inl (ci, N0, .inl w1)), (o2, .inl (ci, N0, .inl w2))] sz)) 0 0 (va_A [(h, .inr (1, [.int pg, .int pf, .int pe, .int pz, .ref o0, .ref o1, .ref o2, .int pp, .int pa, .int pl, .int pk, .int pb])), (o0, .inl (ci, N0, .inl w0)), (o1, .inl (ci, N0, .inl w1)), (o2, .inl (ci, N0, .inl w2))] sz) := by
  refine ofC_i (cc := cX1_monthOf) (maxL := 2) (ret := (some .int)) (by decide) rfl (Nat.le_of_ble_eq_true rfl) ?_
  intro p e s m args below meth c A ls Q F hr hin hlk St hl hQ
  have hx := F.1
  have hb := F.2.1
  have hl : lv_has ls 2 [(0, .ref h), (1, .int x)] := hl
  have St : cS G k [(h, .inr (1, [.int pg, .int pf, .int pe, .int pz, .ref o0, .ref o1, .ref o2, .int pp, .int pa, .int pl, .int pk, .int pb])), (o0, .inl (ci, N0, .inl w0)), (o1, .inl (ci, N0, .inl w1)), (o2, .inl (ci, N0, .inl w2))] [(ci, .int)] A s s.heap [] := St
  have y0 : (0 : Int32).toInt = 0 := by decide
  refine lv_aload_n hx hb dX1_monthOf_0 rfl (lv_at hl 0 rfl) ?_
  refine cs_get F St 0 rfl rfl inX1 1 (by decide) kf_X1_18 rfl dX1_monthOf_1 ?_
  refine lv_iload_n hx hb dX1_monthOf_4 rfl (lv_at hl 1 rfl) ?_
  refine lv_aload_n hx hb dX1_monthOf_5 rfl (lv_at hl 0 rfl) ?_
  refine cs_get F St 0 rfl rfl inX1 2 (by decide) kf_X1_21 rfl dX1_monthOf_6 ?_
  refine lv_imul hx hb dX1_monthOf_9 ?_
  refine lv_topi (fun y_1 ey_1 => ?_)
  refine lv_iadd hx hb dX1_monthOf_10 ?_
  refine lv_topi (fun y_2 ey_2 => ?_)
  first | have jy_2 : y_2.toInt = pf.toInt + y_1.toInt := (by have q9 := ci_add (x := pf) (y := y_1) rfl rfl ey_2; omega) | have jy_2 := ci_add (x := pf) (y := y_1) rfl rfl ey_2
  exact cs_iret F hr hlk hQ St () (r := y_2) (by trivial) [0, 1, 2, 3] rfl (by decide) [] rfl (by decide) (by decide) dX1_monthOf_11
set_option maxHeartbeats 4000000 in
set_option maxRecDepth 100000 in
theorem x1_overdue (l : Launch) (G : va_G) (k : Nat → Nat) (sz : Nat) (h : Nat) (o0 : Nat) (o1 : Nat) (o2 : Nat) (N0 : Nat) (ci : ClassId) (pg : Int32) (pf : Int32) (pe : Int32) (pz : Int32) (pp : Int32) (pa : Int32) (pl : Int32) (pk : Int32) (pb : Int32) (w0 : Nat → Int32) (w1 : Nat → Int32) (w2 : Nat → Int32) (x : Int32) (hN : (N0 : Int) = pz.toInt) (hN4 : N0 ≤ 84) : Met l yX1_overdue (Cond.code yX1_overdue cX1_overdue 4 (some .int) :: tb) ({ frames := 1, cells := 0, slots := 0, locals := 21 } : Room) (va_Pc [.ref h, .int x] (cP G k [(h, .inr (1, [.int pg, .int pf, .int pe, .int pz, .ref o0, .ref o1, .ref o2, .int pp, .int pa, .int pl, .int pk, .int pb])), (o0, .inl (ci, N0, .inl w0)), (o1, .inl (ci, N0, .inl w1)), (o2, .inl (ci, N0, .inl w2))] [(ci, .int)] sz)) (va_Qi (fun (r : Int32) (_ : Unit) => True) (cB G (fun (_ : Unit) => [(h, .inr (1, [.int pg, .int pf, .int pe, .int pz, .ref o0, .ref o1, .ref o2, .int pp, .int pa, .int pl, .int pk, .int pb])), (o0, .inl (ci, N0, .inl w0)), (o1, .inl (ci, N0, .inl w1)), (o2, .inl (ci, N0, .inl w2))]) (fun (_ : Unit) => []) (va_A [(h, .inr (1, [.int pg, .int pf, .int pe, .int pz, .ref o0, .ref o1, .ref o2, .int pp, .int pa, .int pl, .int pk, .int pb])), (o0, .inl (ci, N0, .inl w0)), (o1, .inl (ci, N0, .inl w1)), (o2, .inl (ci, N0, .inl w2))] sz)) (va_A [(h, .inr (1, [.int pg, .int pf, .int pe, .int pz, .ref o0, .ref o1, .ref o2, .int pp, .int pa, .int pl, .int pk, .int pb])), (o0, .inl (ci, N0, .inl w0)), (o1, .inl (ci, N0, .inl w1)), (o2, .inl (ci, N0, .inl w2))] sz)) 0 0 (va_A [(h, .inr (1, [.int pg, .int pf, .int pe, .int pz, .ref o0, .ref o1, .ref o2, .int pp, .int pa, .int pl, .int pk, .int pb])), (o0, .inl (ci, N0, .inl w0)), (o1, .inl (ci, N0, .inl w1)), (o2, .inl (ci, N0, .inl w2))] sz) := by
  refine ofC_i (cc := cX1_overdue) (maxL := 4) (ret := (some .int)) (by decide) rfl (Nat.le_of_ble_eq_true rfl) ?_
  intro p e s m args below meth c A ls Q F hr hin hlk St hl hQ
  have hx := F.1
  have hb := F.2.1
  have hl : lv_has ls 4 [(0, .ref h), (1, .int x)] := hl
  have St : cS G k [(h, .inr (1, [.int pg, .int pf, .int pe, .int pz, .ref o0, .ref o1, .ref o2, .int pp, .int pa, .int pl, .int pk, .int pb])), (o0, .inl (ci, N0, .inl w0)), (o1, .inl (ci, N0, .inl w1)), (o2, .inl (ci, N0, .inl w2))] [(ci, .int)] A s s.heap [] := St
  have y0 : (0 : Int32).toInt = 0 := by decide
  refine lv_iconst (v := 0) hx hb dX1_overdue_0 (by decide) ?_
  refine lv_istore_n (lv' := [(2, .int 0), (0, .ref h), (1, .int x)]) hx hb dX1_overdue_1 rfl hl (by decide) rfl (fun ls hl => ?_)
  refine lv_iconst (v := 0) hx hb dX1_overdue_2 (by decide) ?_
  refine lv_istore_n (lv' := [(3, .int 0), (2, .int 0), (0, .ref h), (1, .int x)]) hx hb dX1_overdue_3 rfl hl (by decide) rfl (fun ls hl => ?_)
  have lp4 : ∀ (n : Nat) (kk : Int32) (nn : Int32) (H : Heap) (locs : List Loc) (ls : Array Slot), (0 ≤ kk.toInt) → ((84 - kk.toInt).toNat) < n → cS G k [(h, .inr (1, [.int pg, .int pf, .int pe, .int pz, .ref o0, .ref o1, .ref o2, .int pp, .int pa, .int pl, .int pk, .int pb])), (o0, .inl (ci, N0, .inl w0)), (o1, .inl (ci, N0, .inl w1)), (o2, .inl (ci, N0, .inl w2))] [(ci, .int)] A s H locs → lv_has ls 4 [(3, .int kk), (2, .int nn), (0, .ref h), (1, .int x)] → W p l e ({ frames := 1, cells := 0, slots := 0, locals := 21 } : Room) s m args below meth c H locs 0 0 Q (F0 m 4 ls []) := by
    intro n
    induction n with
    | zero => intro kk nn H locs ls hI hn; exact absurd hn (Nat.not_lt_zero _)
    | succ n ih =>
      intro kk nn H locs ls hI hn St hl
      refine lv_iload_n hx hb dX1_overdue_4 rfl (lv_at hl 0 rfl) ?_
      refine lv_aload_n hx hb dX1_overdue_5 rfl (lv_at hl 2 rfl) ?_
      refine cs_get F St 0 rfl rfl inX1 3 (by decide) kf_X1_28 rfl dX1_overdue_6 ?_
      refine lv_icmp_ge (tgt := 54) hx hb dX1_overdue_9 (by decide) (fun c9 => ?_) (fun c9 => ?_)
      ·
        have i9 := ci_le (x := pz) (y := kk) rfl rfl c9
        refine lv_iload_n hx hb dX1_overdue_54 rfl (lv_at hl 1 rfl) ?_
        exact cs_iret F hr hlk hQ St () (r := nn) (by trivial) [0, 1, 2, 3] rfl (by decide) [] rfl (by decide) (by decide) dX1_overdue_55
      ·
        have i9 := ci_nle (x := pz) (y := kk) rfl rfl c9
        refine lv_aload_n hx hb dX1_overdue_12 rfl (lv_at hl 2 rfl) ?_
        refine lv_iload_n hx hb dX1_overdue_13 rfl (lv_at hl 0 rfl) ?_
        refine cs_i St [0, 1, 2, 3] [] (wc := [(h, .inr (1, [.int pg, .int pf, .int pe, .int pz, .ref o0, .ref o1, .ref o2, .int pp, .int pa, .int pl, .int pk, .int pb])), (o0, .inl (ci, N0, .inl w0)), (o1, .inl (ci, N0, .inl w1)), (o2, .inl (ci, N0, .inl w2))]) (wr := []) rfl rfl (by decide) (by decide) (va_runV (As := [.int kk]) (rest := []) F (x1_monthOf l G k _ h o0 o1 o2 N0 ci pg pf pe pz pp pa pl pk pb w0 w1 w2 kk (by first | assumption | omega) (by first | assumption | omega)) (cwVt F mf_X1_monthOf km_X1_54 rfl rfl ⟨Nat.le_of_ble_eq_true rfl, Nat.le_of_ble_eq_true rfl⟩) (cs_preV St [0, 1, 2, 3] rfl (by decide) [0] rfl (ci := 1) (q0 := 0) rfl rfl) rfl rfl hl.1 rfl (lv_room (Nat.le_of_ble_eq_true rfl)) dX1_overdue_14 ⟨Nat.le_of_ble_eq_true rfl, Nat.le_of_ble_eq_true rfl⟩) (fun r_1 u_2 H locs hw St => ?_)
        try dsimp only at hw
        have St : cS G k [(h, .inr (1, [.int pg, .int pf, .int pe, .int pz, .ref o0, .ref o1, .ref o2, .int pp, .int pa, .int pl, .int pk, .int pb])), (o0, .inl (ci, N0, .inl w0)), (o1, .inl (ci, N0, .inl w1)), (o2, .inl (ci, N0, .inl w2))] [(ci, .int)] A s H locs := St
        refine lv_iload_n hx hb dX1_overdue_17 rfl (lv_at hl 3 rfl) ?_
        refine lv_icmp_gt (tgt := 54) hx hb dX1_overdue_18 (by decide) (fun c18 => ?_) (fun c18 => ?_)
        ·
          have i18 := ci_lt (x := x) (y := r_1) rfl rfl c18
          refine lv_iload_n hx hb dX1_overdue_54 rfl (lv_at hl 1 rfl) ?_
          exact cs_iret F hr hlk hQ St () (r := nn) (by trivial) [0, 1, 2, 3] rfl (by decide) [] rfl (by decide) (by decide) dX1_overdue_55
        ·
          have i18 := ci_nlt (x := x) (y := r_1) rfl rfl c18
          refine lv_aload_n hx hb dX1_overdue_21 rfl (lv_at hl 2 rfl) ?_
          refine cs_get F St 0 rfl rfl inX1 6 (by decide) kf_X1_38 rfl dX1_overdue_22 ?_
          refine lv_iload_n hx hb dX1_overdue_25 rfl (lv_at hl 0 rfl) ?_
          refine cs_ild F St 3 0 rfl rfl (vp_in_iff.mpr ⟨by omega, by omega⟩) dX1_overdue_26 ?_
          refine lv_topi (fun y_3 ey_3 => ?_)
          refine lv_if_ne (tgt := 48) hx hb dX1_overdue_27 (by decide) (fun c27 => ?_) (fun c27 => ?_)
          ·
            have i27 := ci_ne (x := y_3) (y := 0) rfl (show (0 : Int32).toInt = 0 by decide) c27
            obtain ⟨y_4, ey_4⟩ : ∃ zz : Int32, zz = kk + 1 := ⟨_, rfl⟩
            first | have jy_4 : y_4.toInt = kk.toInt + 1 := (by have q9 := ci_add (x := kk) rfl (show (1 : Int32).toInt = 1 by decide) ey_4; omega) | have jy_4 := ci_add (x := kk) rfl (show (1 : Int32).toInt = 1 by decide) ey_4
            refine lv_iinc (v := y_4) (lv' := [(3, .int y_4), (2, .int nn), (0, .ref h), (1, .int x)]) hx hb dX1_overdue_48 hl (k := 0) rfl (by rw [ey_4]; rfl) (by decide) rfl (fun ls hl => ?_)
            refine lv_goto (tgt := 4) hx hb dX1_overdue_51 (by decide) ?_
            exact ih y_4 nn _ _ _ (by omega) (by omega) St (lv_sub hl [0, 1, 2, 3] rfl)
          ·
            have i27 := ci_eq (x := y_3) (y := 0) rfl (show (0 : Int32).toInt = 0 by decide) c27
            refine lv_aload_n hx hb dX1_overdue_30 rfl (lv_at hl 2 rfl) ?_
            refine cs_get F St 0 rfl rfl inX1 5 (by decide) kf_X1_35 rfl dX1_overdue_31 ?_
            refine lv_iload_n hx hb dX1_overdue_34 rfl (lv_at hl 0 rfl) ?_
            refine cs_ild F St 2 0 rfl rfl (vp_in_iff.mpr ⟨by omega, by omega⟩) dX1_overdue_35 ?_
            refine lv_topi (fun y_5 ey_5 => ?_)
            refine lv_aload_n hx hb dX1_overdue_36 rfl (lv_at hl 2 rfl) ?_
            refine cs_get F St 0 rfl rfl inX1 4 (by decide) kf_X1_31 rfl dX1_overdue_37 ?_
            refine lv_iload_n hx hb dX1_overdue_40 rfl (lv_at hl 0 rfl) ?_
            refine cs_ild F St 1 0 rfl rfl (vp_in_iff.mpr ⟨by omega, by omega⟩) dX1_overdue_41 ?_
            refine lv_topi (fun y_6 ey_6 => ?_)
            refine lv_icmp_ge (tgt := 48) hx hb dX1_overdue_42 (by decide) (fun c42 => ?_) (fun c42 => ?_)
            ·
              have i42 := ci_le (x := y_6) (y := y_5) rfl rfl c42
              obtain ⟨y_7, ey_7⟩ : ∃ zz : Int32, zz = kk + 1 := ⟨_, rfl⟩
              first | have jy_7 : y_7.toInt = kk.toInt + 1 := (by have q9 := ci_add (x := kk) rfl (show (1 : Int32).toInt = 1 by decide) ey_7; omega) | have jy_7 := ci_add (x := kk) rfl (show (1 : Int32).toInt = 1 by decide) ey_7
              refine lv_iinc (v := y_7) (lv' := [(3, .int y_7), (2, .int nn), (0, .ref h), (1, .int x)]) hx hb dX1_overdue_48 hl (k := 0) rfl (by rw [ey_7]; rfl) (by decide) rfl (fun ls hl => ?_)
              refine lv_goto (tgt := 4) hx hb dX1_overdue_51 (by decide) ?_
              exact ih y_7 nn _ _ _ (by omega) (by omega) St (lv_sub hl [0, 1, 2, 3] rfl)
            ·
              have i42 := ci_nle (x := y_6) (y := y_5) rfl rfl c42
              obtain ⟨y_8, ey_8⟩ : ∃ zz : Int32, zz = nn + 1 := ⟨_, rfl⟩
              first | have jy_8 : y_8.toInt = nn.toInt + 1 := (by have q9 := ci_add (x := nn) rfl (show (1 : Int32).toInt = 1 by decide) ey_8; omega) | have jy_8 := ci_add (x := nn) rfl (show (1 : Int32).toInt = 1 by decide) ey_8
              refine lv_iinc (v := y_8) (lv' := [(2, .int y_8), (3, .int kk), (0, .ref h), (1, .int x)]) hx hb dX1_overdue_45 hl (k := 1) rfl (by rw [ey_8]; rfl) (by decide) rfl (fun ls hl => ?_)
              obtain ⟨y_9, ey_9⟩ : ∃ zz : Int32, zz = kk + 1 := ⟨_, rfl⟩
              first | have jy_9 : y_9.toInt = kk.toInt + 1 := (by have q9 := ci_add (x := kk) rfl (show (1 : Int32).toInt = 1 by decide) ey_9; omega) | have jy_9 := ci_add (x := kk) rfl (show (1 : Int32).toInt = 1 by decide) ey_9
              refine lv_iinc (v := y_9) (lv' := [(3, .int y_9), (2, .int y_8), (0, .ref h), (1, .int x)]) hx hb dX1_overdue_48 hl (k := 1) rfl (by rw [ey_9]; rfl) (by decide) rfl (fun ls hl => ?_)
              refine lv_goto (tgt := 4) hx hb dX1_overdue_51 (by decide) ?_
              exact ih y_9 y_8 _ _ _ (by omega) (by omega) St (lv_sub hl [0, 1, 2, 3] rfl)
  exact lp4 85 0 0 _ _ _ (by omega) (by omega) St (lv_sub hl [0, 1, 2, 3] rfl)
set_option maxHeartbeats 4000000 in
set_option maxRecDepth 100000 in
theorem x1_unfilledWithin (l : Launch) (G : va_G) (k : Nat → Nat) (sz : Nat) (h : Nat) (o0 : Nat) (o1 : Nat) (o2 : Nat) (N0 : Nat) (ci : ClassId) (pg : Int32) (pf : Int32) (pe : Int32) (pz : Int32) (pp : Int32) (pa : Int32) (pl : Int32) (pk : Int32) (pb : Int32) (w0 : Nat → Int32) (w1 : Nat → Int32) (w2 : Nat → Int32) (x : Int32) (y : Int32) (hN : (N0 : Int) = pz.toInt) (hN4 : N0 ≤ 84) : Met l yX1_unfilledWithin (Cond.code yX1_unfilledWithin cX1_unfilledWithin 5 (some .int) :: tb) ({ frames := 1, cells := 0, slots := 0, locals := 21 } : Room) (va_Pc [.ref h, .int x, .int y] (cP G k [(h, .inr (1, [.int pg, .int pf, .int pe, .int pz, .ref o0, .ref o1, .ref o2, .int pp, .int pa, .int pl, .int pk, .int pb])), (o0, .inl (ci, N0, .inl w0)), (o1, .inl (ci, N0, .inl w1)), (o2, .inl (ci, N0, .inl w2))] [(ci, .int)] sz)) (va_Qi (fun (r : Int32) (_ : Unit) => True) (cB G (fun (_ : Unit) => [(h, .inr (1, [.int pg, .int pf, .int pe, .int pz, .ref o0, .ref o1, .ref o2, .int pp, .int pa, .int pl, .int pk, .int pb])), (o0, .inl (ci, N0, .inl w0)), (o1, .inl (ci, N0, .inl w1)), (o2, .inl (ci, N0, .inl w2))]) (fun (_ : Unit) => []) (va_A [(h, .inr (1, [.int pg, .int pf, .int pe, .int pz, .ref o0, .ref o1, .ref o2, .int pp, .int pa, .int pl, .int pk, .int pb])), (o0, .inl (ci, N0, .inl w0)), (o1, .inl (ci, N0, .inl w1)), (o2, .inl (ci, N0, .inl w2))] sz)) (va_A [(h, .inr (1, [.int pg, .int pf, .int pe, .int pz, .ref o0, .ref o1, .ref o2, .int pp, .int pa, .int pl, .int pk, .int pb])), (o0, .inl (ci, N0, .inl w0)), (o1, .inl (ci, N0, .inl w1)), (o2, .inl (ci, N0, .inl w2))] sz)) 0 0 (va_A [(h, .inr (1, [.int pg, .int pf, .int pe, .int pz, .ref o0, .ref o1, .ref o2, .int pp, .int pa, .int pl, .int pk, .int pb])), (o0, .inl (ci, N0, .inl w0)), (o1, .inl (ci, N0, .inl w1)), (o2, .inl (ci, N0, .inl w2))] sz) := by
  refine ofC_i (cc := cX1_unfilledWithin) (maxL := 5) (ret := (some .int)) (by decide) rfl (Nat.le_of_ble_eq_true rfl) ?_
  intro p e s m args below meth c A ls Q F hr hin hlk St hl hQ
  have hx := F.1
  have hb := F.2.1
  have hl : lv_has ls 5 [(0, .ref h), (1, .int x), (2, .int y)] := hl
  have St : cS G k [(h, .inr (1, [.int pg, .int pf, .int pe, .int pz, .ref o0, .ref o1, .ref o2, .int pp, .int pa, .int pl, .int pk, .int pb])), (o0, .inl (ci, N0, .inl w0)), (o1, .inl (ci, N0, .inl w1)), (o2, .inl (ci, N0, .inl w2))] [(ci, .int)] A s s.heap [] := St
  have y0 : (0 : Int32).toInt = 0 := by decide
  refine lv_iconst (v := 0) hx hb dX1_unfilledWithin_0 (by decide) ?_
  refine lv_istore_n (lv' := [(3, .int 0), (0, .ref h), (1, .int x), (2, .int y)]) hx hb dX1_unfilledWithin_1 rfl hl (by decide) rfl (fun ls hl => ?_)
  refine lv_iconst (v := 0) hx hb dX1_unfilledWithin_2 (by decide) ?_
  refine lv_istore (lv' := [(4, .int 0), (3, .int 0), (0, .ref h), (1, .int x), (2, .int y)]) hx hb dX1_unfilledWithin_3 hl (by decide) rfl (fun ls hl => ?_)
  have lp5 : ∀ (n : Nat) (kk : Int32) (nn : Int32) (H : Heap) (locs : List Loc) (ls : Array Slot), (0 ≤ kk.toInt) → ((84 - kk.toInt).toNat) < n → cS G k [(h, .inr (1, [.int pg, .int pf, .int pe, .int pz, .ref o0, .ref o1, .ref o2, .int pp, .int pa, .int pl, .int pk, .int pb])), (o0, .inl (ci, N0, .inl w0)), (o1, .inl (ci, N0, .inl w1)), (o2, .inl (ci, N0, .inl w2))] [(ci, .int)] A s H locs → lv_has ls 5 [(4, .int kk), (3, .int nn), (0, .ref h), (1, .int x), (2, .int y)] → W p l e ({ frames := 1, cells := 0, slots := 0, locals := 21 } : Room) s m args below meth c H locs 0 0 Q (F0 m 5 ls []) := by
    intro n
    induction n with
    | zero => intro kk nn H locs ls hI hn; exact absurd hn (Nat.not_lt_zero _)
    | succ n ih =>
      intro kk nn H locs ls hI hn St hl
      refine lv_iload hx hb dX1_unfilledWithin_5 (lv_at hl 0 rfl) ?_
      refine lv_aload_n hx hb dX1_unfilledWithin_7 rfl (lv_at hl 2 rfl) ?_
      refine cs_get F St 0 rfl rfl inX1 3 (by decide) kf_X1_28 rfl dX1_unfilledWithin_8 ?_
      refine lv_icmp_ge (tgt := 68) hx hb dX1_unfilledWithin_11 (by decide) (fun c11 => ?_) (fun c11 => ?_)
      ·
        have i11 := ci_le (x := pz) (y := kk) rfl rfl c11
        refine lv_iload_n hx hb dX1_unfilledWithin_68 rfl (lv_at hl 1 rfl) ?_
        exact cs_iret F hr hlk hQ St () (r := nn) (by trivial) [0, 1, 2, 3] rfl (by decide) [] rfl (by decide) (by decide) dX1_unfilledWithin_69
      ·
        have i11 := ci_nle (x := pz) (y := kk) rfl rfl c11
        refine lv_aload_n hx hb dX1_unfilledWithin_14 rfl (lv_at hl 2 rfl) ?_
        refine lv_iload hx hb dX1_unfilledWithin_15 (lv_at hl 0 rfl) ?_
        refine cs_i St [0, 1, 2, 3] [] (wc := [(h, .inr (1, [.int pg, .int pf, .int pe, .int pz, .ref o0, .ref o1, .ref o2, .int pp, .int pa, .int pl, .int pk, .int pb])), (o0, .inl (ci, N0, .inl w0)), (o1, .inl (ci, N0, .inl w1)), (o2, .inl (ci, N0, .inl w2))]) (wr := []) rfl rfl (by decide) (by decide) (va_runV (As := [.int kk]) (rest := []) F (x1_monthOf l G k _ h o0 o1 o2 N0 ci pg pf pe pz pp pa pl pk pb w0 w1 w2 kk (by first | assumption | omega) (by first | assumption | omega)) (cwVt F mf_X1_monthOf km_X1_54 rfl rfl ⟨Nat.le_of_ble_eq_true rfl, Nat.le_of_ble_eq_true rfl⟩) (cs_preV St [0, 1, 2, 3] rfl (by decide) [0] rfl (ci := 1) (q0 := 0) rfl rfl) rfl rfl hl.1 rfl (lv_room (Nat.le_of_ble_eq_true rfl)) dX1_unfilledWithin_17 ⟨Nat.le_of_ble_eq_true rfl, Nat.le_of_ble_eq_true rfl⟩) (fun r_1 u_2 H locs hw St => ?_)
        try dsimp only at hw
        have St : cS G k [(h, .inr (1, [.int pg, .int pf, .int pe, .int pz, .ref o0, .ref o1, .ref o2, .int pp, .int pa, .int pl, .int pk, .int pb])), (o0, .inl (ci, N0, .inl w0)), (o1, .inl (ci, N0, .inl w1)), (o2, .inl (ci, N0, .inl w2))] [(ci, .int)] A s H locs := St
        refine lv_iload_n hx hb dX1_unfilledWithin_20 rfl (lv_at hl 4 rfl) ?_
        refine lv_icmp_gt (tgt := 68) hx hb dX1_unfilledWithin_21 (by decide) (fun c21 => ?_) (fun c21 => ?_)
        ·
          have i21 := ci_lt (x := y) (y := r_1) rfl rfl c21
          refine lv_iload_n hx hb dX1_unfilledWithin_68 rfl (lv_at hl 1 rfl) ?_
          exact cs_iret F hr hlk hQ St () (r := nn) (by trivial) [0, 1, 2, 3] rfl (by decide) [] rfl (by decide) (by decide) dX1_unfilledWithin_69
        ·
          have i21 := ci_nlt (x := y) (y := r_1) rfl rfl c21
          refine lv_aload_n hx hb dX1_unfilledWithin_24 rfl (lv_at hl 2 rfl) ?_
          refine lv_iload hx hb dX1_unfilledWithin_25 (lv_at hl 0 rfl) ?_
          refine cs_i St [0, 1, 2, 3] [] (wc := [(h, .inr (1, [.int pg, .int pf, .int pe, .int pz, .ref o0, .ref o1, .ref o2, .int pp, .int pa, .int pl, .int pk, .int pb])), (o0, .inl (ci, N0, .inl w0)), (o1, .inl (ci, N0, .inl w1)), (o2, .inl (ci, N0, .inl w2))]) (wr := []) rfl rfl (by decide) (by decide) (va_runV (As := [.int kk]) (rest := []) F (x1_monthOf l G k _ h o0 o1 o2 N0 ci pg pf pe pz pp pa pl pk pb w0 w1 w2 kk (by first | assumption | omega) (by first | assumption | omega)) (cwVt F mf_X1_monthOf km_X1_54 rfl rfl ⟨Nat.le_of_ble_eq_true rfl, Nat.le_of_ble_eq_true rfl⟩) (cs_preV St [0, 1, 2, 3] rfl (by decide) [0] rfl (ci := 1) (q0 := 0) rfl rfl) rfl rfl hl.1 rfl (lv_room (Nat.le_of_ble_eq_true rfl)) dX1_unfilledWithin_27 ⟨Nat.le_of_ble_eq_true rfl, Nat.le_of_ble_eq_true rfl⟩) (fun r_3 u_4 H locs hw St => ?_)
          try dsimp only at hw
          have St : cS G k [(h, .inr (1, [.int pg, .int pf, .int pe, .int pz, .ref o0, .ref o1, .ref o2, .int pp, .int pa, .int pl, .int pk, .int pb])), (o0, .inl (ci, N0, .inl w0)), (o1, .inl (ci, N0, .inl w1)), (o2, .inl (ci, N0, .inl w2))] [(ci, .int)] A s H locs := St
          refine lv_iload_n hx hb dX1_unfilledWithin_30 rfl (lv_at hl 3 rfl) ?_
          refine lv_icmp_lt (tgt := 62) hx hb dX1_unfilledWithin_31 (by decide) (fun c31 => ?_) (fun c31 => ?_)
          ·
            have i31 := ci_lt (x := r_3) (y := x) rfl rfl c31
            obtain ⟨y_5, ey_5⟩ : ∃ zz : Int32, zz = kk + 1 := ⟨_, rfl⟩
            first | have jy_5 : y_5.toInt = kk.toInt + 1 := (by have q9 := ci_add (x := kk) rfl (show (1 : Int32).toInt = 1 by decide) ey_5; omega) | have jy_5 := ci_add (x := kk) rfl (show (1 : Int32).toInt = 1 by decide) ey_5
            refine lv_iinc (v := y_5) (lv' := [(4, .int y_5), (3, .int nn), (0, .ref h), (1, .int x), (2, .int y)]) hx hb dX1_unfilledWithin_62 hl (k := 0) rfl (by rw [ey_5]; rfl) (by decide) rfl (fun ls hl => ?_)
            refine lv_goto (tgt := 5) hx hb dX1_unfilledWithin_65 (by decide) ?_
            exact ih y_5 nn _ _ _ (by omega) (by omega) St (lv_sub hl [0, 1, 2, 3, 4] rfl)
          ·
            have i31 := ci_nlt (x := r_3) (y := x) rfl rfl c31
            refine lv_aload_n hx hb dX1_unfilledWithin_34 rfl (lv_at hl 2 rfl) ?_
            refine cs_get F St 0 rfl rfl inX1 6 (by decide) kf_X1_38 rfl dX1_unfilledWithin_35 ?_
            refine lv_iload hx hb dX1_unfilledWithin_38 (lv_at hl 0 rfl) ?_
            refine cs_ild F St 3 0 rfl rfl (vp_in_iff.mpr ⟨by omega, by omega⟩) dX1_unfilledWithin_40 ?_
            refine lv_topi (fun y_6 ey_6 => ?_)
            refine lv_if_ne (tgt := 62) hx hb dX1_unfilledWithin_41 (by decide) (fun c41 => ?_) (fun c41 => ?_)
            ·
              have i41 := ci_ne (x := y_6) (y := 0) rfl (show (0 : Int32).toInt = 0 by decide) c41
              obtain ⟨y_7, ey_7⟩ : ∃ zz : Int32, zz = kk + 1 := ⟨_, rfl⟩
              first | have jy_7 : y_7.toInt = kk.toInt + 1 := (by have q9 := ci_add (x := kk) rfl (show (1 : Int32).toInt = 1 by decide) ey_7; omega) | have jy_7 := ci_add (x := kk) rfl (show (1 : Int32).toInt = 1 by decide) ey_7
              refine lv_iinc (v := y_7) (lv' := [(4, .int y_7), (3, .int nn), (0, .ref h), (1, .int x), (2, .int y)]) hx hb dX1_unfilledWithin_62 hl (k := 0) rfl (by rw [ey_7]; rfl) (by decide) rfl (fun ls hl => ?_)
              refine lv_goto (tgt := 5) hx hb dX1_unfilledWithin_65 (by decide) ?_
              exact ih y_7 nn _ _ _ (by omega) (by omega) St (lv_sub hl [0, 1, 2, 3, 4] rfl)
            ·
              have i41 := ci_eq (x := y_6) (y := 0) rfl (show (0 : Int32).toInt = 0 by decide) c41
              refine lv_iload_n hx hb dX1_unfilledWithin_44 rfl (lv_at hl 1 rfl) ?_
              refine lv_aload_n hx hb dX1_unfilledWithin_45 rfl (lv_at hl 2 rfl) ?_
              refine cs_get F St 0 rfl rfl inX1 4 (by decide) kf_X1_31 rfl dX1_unfilledWithin_46 ?_
              refine lv_iload hx hb dX1_unfilledWithin_49 (lv_at hl 0 rfl) ?_
              refine cs_ild F St 1 0 rfl rfl (vp_in_iff.mpr ⟨by omega, by omega⟩) dX1_unfilledWithin_51 ?_
              refine lv_topi (fun y_8 ey_8 => ?_)
              refine lv_aload_n hx hb dX1_unfilledWithin_52 rfl (lv_at hl 2 rfl) ?_
              refine cs_get F St 0 rfl rfl inX1 5 (by decide) kf_X1_35 rfl dX1_unfilledWithin_53 ?_
              refine lv_iload hx hb dX1_unfilledWithin_56 (lv_at hl 0 rfl) ?_
              refine cs_ild F St 2 0 rfl rfl (vp_in_iff.mpr ⟨by omega, by omega⟩) dX1_unfilledWithin_58 ?_
              refine lv_topi (fun y_9 ey_9 => ?_)
              refine lv_isub hx hb dX1_unfilledWithin_59 ?_
              refine lv_topi (fun y_10 ey_10 => ?_)
              first | have jy_10 : y_10.toInt = y_8.toInt - y_9.toInt := (by have q9 := ci_sub (x := y_8) (y := y_9) rfl rfl ey_10; omega) | have jy_10 := ci_sub (x := y_8) (y := y_9) rfl rfl ey_10
              refine lv_iadd hx hb dX1_unfilledWithin_60 ?_
              refine lv_topi (fun y_11 ey_11 => ?_)
              first | have jy_11 : y_11.toInt = nn.toInt + y_10.toInt := (by have q9 := ci_add (x := nn) (y := y_10) rfl rfl ey_11; omega) | have jy_11 := ci_add (x := nn) (y := y_10) rfl rfl ey_11
              refine lv_istore_n (lv' := [(3, .int y_11), (4, .int kk), (0, .ref h), (1, .int x), (2, .int y)]) hx hb dX1_unfilledWithin_61 rfl hl (by decide) rfl (fun ls hl => ?_)
              obtain ⟨y_12, ey_12⟩ : ∃ zz : Int32, zz = kk + 1 := ⟨_, rfl⟩
              first | have jy_12 : y_12.toInt = kk.toInt + 1 := (by have q9 := ci_add (x := kk) rfl (show (1 : Int32).toInt = 1 by decide) ey_12; omega) | have jy_12 := ci_add (x := kk) rfl (show (1 : Int32).toInt = 1 by decide) ey_12
              refine lv_iinc (v := y_12) (lv' := [(4, .int y_12), (3, .int y_11), (0, .ref h), (1, .int x), (2, .int y)]) hx hb dX1_unfilledWithin_62 hl (k := 1) rfl (by rw [ey_12]; rfl) (by decide) rfl (fun ls hl => ?_)
              refine lv_goto (tgt := 5) hx hb dX1_unfilledWithin_65 (by decide) ?_
              exact ih y_12 y_11 _ _ _ (by omega) (by omega) St (lv_sub hl [0, 1, 2, 3, 4] rfl)
  exact lp5 85 0 0 _ _ _ (by omega) (by omega) St (lv_sub hl [0, 1, 2, 3, 4] rfl)
set_option maxHeartbeats 4000000 in
set_option maxRecDepth 100000 in
theorem x1_unfilled (l : Launch) (G : va_G) (k : Nat → Nat) (sz : Nat) (h : Nat) (o0 : Nat) (o1 : Nat) (o2 : Nat) (N0 : Nat) (ci : ClassId) (pg : Int32) (pf : Int32) (pe : Int32) (pz : Int32) (pp : Int32) (pa : Int32) (pl : Int32) (pk : Int32) (pb : Int32) (w0 : Nat → Int32) (w1 : Nat → Int32) (w2 : Nat → Int32) (hN : (N0 : Int) = pz.toInt) (hN4 : N0 ≤ 84) : Met l yX1_unfilled (Cond.code yX1_unfilled cX1_unfilled 1 (some .int) :: tb) ({ frames := 2, cells := 0, slots := 0, locals := 45 } : Room) (va_Pc [.ref h] (cP G k [(h, .inr (1, [.int pg, .int pf, .int pe, .int pz, .ref o0, .ref o1, .ref o2, .int pp, .int pa, .int pl, .int pk, .int pb])), (o0, .inl (ci, N0, .inl w0)), (o1, .inl (ci, N0, .inl w1)), (o2, .inl (ci, N0, .inl w2))] [(ci, .int)] sz)) (va_Qi (fun (r : Int32) (_ : Unit) => True) (cB G (fun (_ : Unit) => [(h, .inr (1, [.int pg, .int pf, .int pe, .int pz, .ref o0, .ref o1, .ref o2, .int pp, .int pa, .int pl, .int pk, .int pb])), (o0, .inl (ci, N0, .inl w0)), (o1, .inl (ci, N0, .inl w1)), (o2, .inl (ci, N0, .inl w2))]) (fun (_ : Unit) => []) (va_A [(h, .inr (1, [.int pg, .int pf, .int pe, .int pz, .ref o0, .ref o1, .ref o2, .int pp, .int pa, .int pl, .int pk, .int pb])), (o0, .inl (ci, N0, .inl w0)), (o1, .inl (ci, N0, .inl w1)), (o2, .inl (ci, N0, .inl w2))] sz)) (va_A [(h, .inr (1, [.int pg, .int pf, .int pe, .int pz, .ref o0, .ref o1, .ref o2, .int pp, .int pa, .int pl, .int pk, .int pb])), (o0, .inl (ci, N0, .inl w0)), (o1, .inl (ci, N0, .inl w1)), (o2, .inl (ci, N0, .inl w2))] sz)) 0 0 (va_A [(h, .inr (1, [.int pg, .int pf, .int pe, .int pz, .ref o0, .ref o1, .ref o2, .int pp, .int pa, .int pl, .int pk, .int pb])), (o0, .inl (ci, N0, .inl w0)), (o1, .inl (ci, N0, .inl w1)), (o2, .inl (ci, N0, .inl w2))] sz) := by
  refine ofC_i (cc := cX1_unfilled) (maxL := 1) (ret := (some .int)) (by decide) rfl (Nat.le_of_ble_eq_true rfl) ?_
  intro p e s m args below meth c A ls Q F hr hin hlk St hl hQ
  have hx := F.1
  have hb := F.2.1
  have hl : lv_has ls 1 [(0, .ref h)] := hl
  have St : cS G k [(h, .inr (1, [.int pg, .int pf, .int pe, .int pz, .ref o0, .ref o1, .ref o2, .int pp, .int pa, .int pl, .int pk, .int pb])), (o0, .inl (ci, N0, .inl w0)), (o1, .inl (ci, N0, .inl w1)), (o2, .inl (ci, N0, .inl w2))] [(ci, .int)] A s s.heap [] := St
  have y0 : (0 : Int32).toInt = 0 := by decide
  refine lv_aload_n hx hb dX1_unfilled_0 rfl (lv_at hl 0 rfl) ?_
  refine lv_iconst (v := 0) hx hb dX1_unfilled_1 (by decide) ?_
  refine lv_bipush (v := 119) hx hb dX1_unfilled_2 (by decide) ?_
  refine cs_i St [0, 1, 2, 3] [] (wc := [(h, .inr (1, [.int pg, .int pf, .int pe, .int pz, .ref o0, .ref o1, .ref o2, .int pp, .int pa, .int pl, .int pk, .int pb])), (o0, .inl (ci, N0, .inl w0)), (o1, .inl (ci, N0, .inl w1)), (o2, .inl (ci, N0, .inl w2))]) (wr := []) rfl rfl (by decide) (by decide) (va_runV (As := [.int 0, .int 119]) (rest := []) F (x1_unfilledWithin l G k _ h o0 o1 o2 N0 ci pg pf pe pz pp pa pl pk pb w0 w1 w2 0 119 (by first | assumption | omega) (by first | assumption | omega)) (cwVt F mf_X1_unfilledWithin km_X1_58 rfl rfl ⟨Nat.le_of_ble_eq_true rfl, Nat.le_of_ble_eq_true rfl⟩) (cs_preV St [0, 1, 2, 3] rfl (by decide) [0] rfl (ci := 1) (q0 := 0) rfl rfl) rfl rfl hl.1 rfl (lv_room (Nat.le_of_ble_eq_true rfl)) dX1_unfilled_4 ⟨Nat.le_of_ble_eq_true rfl, Nat.le_of_ble_eq_true rfl⟩) (fun r_1 u_2 H locs hw St => ?_)
  try dsimp only at hw
  have St : cS G k [(h, .inr (1, [.int pg, .int pf, .int pe, .int pz, .ref o0, .ref o1, .ref o2, .int pp, .int pa, .int pl, .int pk, .int pb])), (o0, .inl (ci, N0, .inl w0)), (o1, .inl (ci, N0, .inl w1)), (o2, .inl (ci, N0, .inl w2))] [(ci, .int)] A s H locs := St
  exact cs_iret F hr hlk hQ St () (r := r_1) (by trivial) [0, 1, 2, 3] rfl (by decide) [] rfl (by decide) (by decide) dX1_unfilled_7
set_option maxHeartbeats 4000000 in
set_option maxRecDepth 100000 in
theorem x1_nextDue (l : Launch) (G : va_G) (k : Nat → Nat) (sz : Nat) (h : Nat) (o0 : Nat) (o1 : Nat) (o2 : Nat) (N0 : Nat) (ci : ClassId) (pg : Int32) (pf : Int32) (pe : Int32) (pz : Int32) (pp : Int32) (pa : Int32) (pl : Int32) (pk : Int32) (pb : Int32) (w0 : Nat → Int32) (w1 : Nat → Int32) (w2 : Nat → Int32) (x : Int32) (hN : (N0 : Int) = pz.toInt) (hN4 : N0 ≤ 84) : Met l yX1_nextDue (Cond.code yX1_nextDue cX1_nextDue 3 (some .int) :: tb) ({ frames := 1, cells := 0, slots := 0, locals := 21 } : Room) (va_Pc [.ref h, .int x] (cP G k [(h, .inr (1, [.int pg, .int pf, .int pe, .int pz, .ref o0, .ref o1, .ref o2, .int pp, .int pa, .int pl, .int pk, .int pb])), (o0, .inl (ci, N0, .inl w0)), (o1, .inl (ci, N0, .inl w1)), (o2, .inl (ci, N0, .inl w2))] [(ci, .int)] sz)) (va_Qi (fun (r : Int32) (_ : Unit) => True) (cB G (fun (_ : Unit) => [(h, .inr (1, [.int pg, .int pf, .int pe, .int pz, .ref o0, .ref o1, .ref o2, .int pp, .int pa, .int pl, .int pk, .int pb])), (o0, .inl (ci, N0, .inl w0)), (o1, .inl (ci, N0, .inl w1)), (o2, .inl (ci, N0, .inl w2))]) (fun (_ : Unit) => []) (va_A [(h, .inr (1, [.int pg, .int pf, .int pe, .int pz, .ref o0, .ref o1, .ref o2, .int pp, .int pa, .int pl, .int pk, .int pb])), (o0, .inl (ci, N0, .inl w0)), (o1, .inl (ci, N0, .inl w1)), (o2, .inl (ci, N0, .inl w2))] sz)) (va_A [(h, .inr (1, [.int pg, .int pf, .int pe, .int pz, .ref o0, .ref o1, .ref o2, .int pp, .int pa, .int pl, .int pk, .int pb])), (o0, .inl (ci, N0, .inl w0)), (o1, .inl (ci, N0, .inl w1)), (o2, .inl (ci, N0, .inl w2))] sz)) 0 0 (va_A [(h, .inr (1, [.int pg, .int pf, .int pe, .int pz, .ref o0, .ref o1, .ref o2, .int pp, .int pa, .int pl, .int pk, .int pb])), (o0, .inl (ci, N0, .inl w0)), (o1, .inl (ci, N0, .inl w1)), (o2, .inl (ci, N0, .inl w2))] sz) := by
  refine ofC_i (cc := cX1_nextDue) (maxL := 3) (ret := (some .int)) (by decide) rfl (Nat.le_of_ble_eq_true rfl) ?_
  intro p e s m args below meth c A ls Q F hr hin hlk St hl hQ
  have hx := F.1
  have hb := F.2.1
  have hl : lv_has ls 3 [(0, .ref h), (1, .int x)] := hl
  have St : cS G k [(h, .inr (1, [.int pg, .int pf, .int pe, .int pz, .ref o0, .ref o1, .ref o2, .int pp, .int pa, .int pl, .int pk, .int pb])), (o0, .inl (ci, N0, .inl w0)), (o1, .inl (ci, N0, .inl w1)), (o2, .inl (ci, N0, .inl w2))] [(ci, .int)] A s s.heap [] := St
  have y0 : (0 : Int32).toInt = 0 := by decide
  refine lv_aload_n hx hb dX1_nextDue_0 rfl (lv_at hl 0 rfl) ?_
  refine cs_get F St 0 rfl rfl inX1 9 (by decide) kf_X1_47 rfl dX1_nextDue_1 ?_
  refine lv_if_eq (tgt := 9) hx hb dX1_nextDue_4 (by decide) (fun c4 => ?_) (fun c4 => ?_)
  ·
    have i4 := ci_eq (x := pl) (y := 0) rfl (show (0 : Int32).toInt = 0 by decide) c4
    refine lv_iconst (v := 0) hx hb dX1_nextDue_9 (by decide) ?_
    refine lv_istore_n (lv' := [(2, .int 0), (0, .ref h), (1, .int x)]) hx hb dX1_nextDue_10 rfl hl (by decide) rfl (fun ls hl => ?_)
    have lp11 : ∀ (n : Nat) (kk : Int32) (H : Heap) (locs : List Loc) (ls : Array Slot), (0 ≤ kk.toInt) → ((84 - kk.toInt).toNat) < n → cS G k [(h, .inr (1, [.int pg, .int pf, .int pe, .int pz, .ref o0, .ref o1, .ref o2, .int pp, .int pa, .int pl, .int pk, .int pb])), (o0, .inl (ci, N0, .inl w0)), (o1, .inl (ci, N0, .inl w1)), (o2, .inl (ci, N0, .inl w2))] [(ci, .int)] A s H locs → lv_has ls 3 [(2, .int kk), (0, .ref h), (1, .int x)] → W p l e ({ frames := 1, cells := 0, slots := 0, locals := 21 } : Room) s m args below meth c H locs 0 0 Q (F0 m 11 ls []) := by
      intro n
      induction n with
      | zero => intro kk H locs ls hI hn; exact absurd hn (Nat.not_lt_zero _)
      | succ n ih =>
        intro kk H locs ls hI hn St hl
        refine lv_iload_n hx hb dX1_nextDue_11 rfl (lv_at hl 0 rfl) ?_
        refine lv_aload_n hx hb dX1_nextDue_12 rfl (lv_at hl 1 rfl) ?_
        refine cs_get F St 0 rfl rfl inX1 3 (by decide) kf_X1_28 rfl dX1_nextDue_13 ?_
        refine lv_icmp_ge (tgt := 49) hx hb dX1_nextDue_16 (by decide) (fun c16 => ?_) (fun c16 => ?_)
        ·
          have i16 := ci_le (x := pz) (y := kk) rfl rfl c16
          refine lv_iconst (v := (-1)) hx hb dX1_nextDue_49 (by decide) ?_
          exact cs_iret F hr hlk hQ St () (r := (-1)) (by trivial) [0, 1, 2, 3] rfl (by decide) [] rfl (by decide) (by decide) dX1_nextDue_50
        ·
          have i16 := ci_nle (x := pz) (y := kk) rfl rfl c16
          refine lv_aload_n hx hb dX1_nextDue_19 rfl (lv_at hl 1 rfl) ?_
          refine lv_iload_n hx hb dX1_nextDue_20 rfl (lv_at hl 0 rfl) ?_
          refine cs_i St [0, 1, 2, 3] [] (wc := [(h, .inr (1, [.int pg, .int pf, .int pe, .int pz, .ref o0, .ref o1, .ref o2, .int pp, .int pa, .int pl, .int pk, .int pb])), (o0, .inl (ci, N0, .inl w0)), (o1, .inl (ci, N0, .inl w1)), (o2, .inl (ci, N0, .inl w2))]) (wr := []) rfl rfl (by decide) (by decide) (va_runV (As := [.int kk]) (rest := []) F (x1_monthOf l G k _ h o0 o1 o2 N0 ci pg pf pe pz pp pa pl pk pb w0 w1 w2 kk (by first | assumption | omega) (by first | assumption | omega)) (cwVt F mf_X1_monthOf km_X1_54 rfl rfl ⟨Nat.le_of_ble_eq_true rfl, Nat.le_of_ble_eq_true rfl⟩) (cs_preV St [0, 1, 2, 3] rfl (by decide) [0] rfl (ci := 1) (q0 := 0) rfl rfl) rfl rfl hl.1 rfl (lv_room (Nat.le_of_ble_eq_true rfl)) dX1_nextDue_21 ⟨Nat.le_of_ble_eq_true rfl, Nat.le_of_ble_eq_true rfl⟩) (fun r_1 u_2 H locs hw St => ?_)
          try dsimp only at hw
          have St : cS G k [(h, .inr (1, [.int pg, .int pf, .int pe, .int pz, .ref o0, .ref o1, .ref o2, .int pp, .int pa, .int pl, .int pk, .int pb])), (o0, .inl (ci, N0, .inl w0)), (o1, .inl (ci, N0, .inl w1)), (o2, .inl (ci, N0, .inl w2))] [(ci, .int)] A s H locs := St
          refine lv_iload_n hx hb dX1_nextDue_24 rfl (lv_at hl 2 rfl) ?_
          refine lv_icmp_le (tgt := 43) hx hb dX1_nextDue_25 (by decide) (fun c25 => ?_) (fun c25 => ?_)
          ·
            have i25 := ci_le (x := r_1) (y := x) rfl rfl c25
            obtain ⟨y_3, ey_3⟩ : ∃ zz : Int32, zz = kk + 1 := ⟨_, rfl⟩
            first | have jy_3 : y_3.toInt = kk.toInt + 1 := (by have q9 := ci_add (x := kk) rfl (show (1 : Int32).toInt = 1 by decide) ey_3; omega) | have jy_3 := ci_add (x := kk) rfl (show (1 : Int32).toInt = 1 by decide) ey_3
            refine lv_iinc (v := y_3) (lv' := [(2, .int y_3), (0, .ref h), (1, .int x)]) hx hb dX1_nextDue_43 hl (k := 0) rfl (by rw [ey_3]; rfl) (by decide) rfl (fun ls hl => ?_)
            refine lv_goto (tgt := 11) hx hb dX1_nextDue_46 (by decide) ?_
            exact ih y_3 _ _ _ (by omega) (by omega) St (lv_sub hl [0, 1, 2] rfl)
          ·
            have i25 := ci_nle (x := r_1) (y := x) rfl rfl c25
            refine lv_aload_n hx hb dX1_nextDue_28 rfl (lv_at hl 1 rfl) ?_
            refine cs_get F St 0 rfl rfl inX1 6 (by decide) kf_X1_38 rfl dX1_nextDue_29 ?_
            refine lv_iload_n hx hb dX1_nextDue_32 rfl (lv_at hl 0 rfl) ?_
            refine cs_ild F St 3 0 rfl rfl (vp_in_iff.mpr ⟨by omega, by omega⟩) dX1_nextDue_33 ?_
            refine lv_topi (fun y_4 ey_4 => ?_)
            refine lv_if_ne (tgt := 43) hx hb dX1_nextDue_34 (by decide) (fun c34 => ?_) (fun c34 => ?_)
            ·
              have i34 := ci_ne (x := y_4) (y := 0) rfl (show (0 : Int32).toInt = 0 by decide) c34
              obtain ⟨y_5, ey_5⟩ : ∃ zz : Int32, zz = kk + 1 := ⟨_, rfl⟩
              first | have jy_5 : y_5.toInt = kk.toInt + 1 := (by have q9 := ci_add (x := kk) rfl (show (1 : Int32).toInt = 1 by decide) ey_5; omega) | have jy_5 := ci_add (x := kk) rfl (show (1 : Int32).toInt = 1 by decide) ey_5
              refine lv_iinc (v := y_5) (lv' := [(2, .int y_5), (0, .ref h), (1, .int x)]) hx hb dX1_nextDue_43 hl (k := 0) rfl (by rw [ey_5]; rfl) (by decide) rfl (fun ls hl => ?_)
              refine lv_goto (tgt := 11) hx hb dX1_nextDue_46 (by decide) ?_
              exact ih y_5 _ _ _ (by omega) (by omega) St (lv_sub hl [0, 1, 2] rfl)
            ·
              have i34 := ci_eq (x := y_4) (y := 0) rfl (show (0 : Int32).toInt = 0 by decide) c34
              refine lv_aload_n hx hb dX1_nextDue_37 rfl (lv_at hl 1 rfl) ?_
              refine lv_iload_n hx hb dX1_nextDue_38 rfl (lv_at hl 0 rfl) ?_
              refine cs_i St [0, 1, 2, 3] [] (wc := [(h, .inr (1, [.int pg, .int pf, .int pe, .int pz, .ref o0, .ref o1, .ref o2, .int pp, .int pa, .int pl, .int pk, .int pb])), (o0, .inl (ci, N0, .inl w0)), (o1, .inl (ci, N0, .inl w1)), (o2, .inl (ci, N0, .inl w2))]) (wr := []) rfl rfl (by decide) (by decide) (va_runV (As := [.int kk]) (rest := []) F (x1_monthOf l G k _ h o0 o1 o2 N0 ci pg pf pe pz pp pa pl pk pb w0 w1 w2 kk (by first | assumption | omega) (by first | assumption | omega)) (cwVt F mf_X1_monthOf km_X1_54 rfl rfl ⟨Nat.le_of_ble_eq_true rfl, Nat.le_of_ble_eq_true rfl⟩) (cs_preV St [0, 1, 2, 3] rfl (by decide) [0] rfl (ci := 1) (q0 := 0) rfl rfl) rfl rfl hl.1 rfl (lv_room (Nat.le_of_ble_eq_true rfl)) dX1_nextDue_39 ⟨Nat.le_of_ble_eq_true rfl, Nat.le_of_ble_eq_true rfl⟩) (fun r_6 u_7 H locs hw St => ?_)
              try dsimp only at hw
              have St : cS G k [(h, .inr (1, [.int pg, .int pf, .int pe, .int pz, .ref o0, .ref o1, .ref o2, .int pp, .int pa, .int pl, .int pk, .int pb])), (o0, .inl (ci, N0, .inl w0)), (o1, .inl (ci, N0, .inl w1)), (o2, .inl (ci, N0, .inl w2))] [(ci, .int)] A s H locs := St
              exact cs_iret F hr hlk hQ St () (r := r_6) (by trivial) [0, 1, 2, 3] rfl (by decide) [] rfl (by decide) (by decide) dX1_nextDue_42
    exact lp11 85 0 _ _ _ (by omega) (by omega) St (lv_sub hl [0, 1, 2] rfl)
  ·
    have i4 := ci_ne (x := pl) (y := 0) rfl (show (0 : Int32).toInt = 0 by decide) c4
    refine lv_iconst (v := (-1)) hx hb dX1_nextDue_7 (by decide) ?_
    exact cs_iret F hr hlk hQ St () (r := (-1)) (by trivial) [0, 1, 2, 3] rfl (by decide) [] rfl (by decide) (by decide) dX1_nextDue_8
set_option maxHeartbeats 4000000 in
set_option maxRecDepth 100000 in
theorem x1_duesToCome (l : Launch) (G : va_G) (k : Nat → Nat) (sz : Nat) (h : Nat) (o0 : Nat) (o1 : Nat) (o2 : Nat) (N0 : Nat) (ci : ClassId) (pg : Int32) (pf : Int32) (pe : Int32) (pz : Int32) (pp : Int32) (pa : Int32) (pl : Int32) (pk : Int32) (pb : Int32) (w0 : Nat → Int32) (w1 : Nat → Int32) (w2 : Nat → Int32) (x : Int32) (hN : (N0 : Int) = pz.toInt) (hN4 : N0 ≤ 84) : Met l yX1_duesToCome (Cond.code yX1_duesToCome cX1_duesToCome 4 (some .int) :: tb) ({ frames := 1, cells := 0, slots := 0, locals := 21 } : Room) (va_Pc [.ref h, .int x] (cP G k [(h, .inr (1, [.int pg, .int pf, .int pe, .int pz, .ref o0, .ref o1, .ref o2, .int pp, .int pa, .int pl, .int pk, .int pb])), (o0, .inl (ci, N0, .inl w0)), (o1, .inl (ci, N0, .inl w1)), (o2, .inl (ci, N0, .inl w2))] [(ci, .int)] sz)) (va_Qi (fun (r : Int32) (_ : Unit) => True) (cB G (fun (_ : Unit) => [(h, .inr (1, [.int pg, .int pf, .int pe, .int pz, .ref o0, .ref o1, .ref o2, .int pp, .int pa, .int pl, .int pk, .int pb])), (o0, .inl (ci, N0, .inl w0)), (o1, .inl (ci, N0, .inl w1)), (o2, .inl (ci, N0, .inl w2))]) (fun (_ : Unit) => []) (va_A [(h, .inr (1, [.int pg, .int pf, .int pe, .int pz, .ref o0, .ref o1, .ref o2, .int pp, .int pa, .int pl, .int pk, .int pb])), (o0, .inl (ci, N0, .inl w0)), (o1, .inl (ci, N0, .inl w1)), (o2, .inl (ci, N0, .inl w2))] sz)) (va_A [(h, .inr (1, [.int pg, .int pf, .int pe, .int pz, .ref o0, .ref o1, .ref o2, .int pp, .int pa, .int pl, .int pk, .int pb])), (o0, .inl (ci, N0, .inl w0)), (o1, .inl (ci, N0, .inl w1)), (o2, .inl (ci, N0, .inl w2))] sz)) 0 0 (va_A [(h, .inr (1, [.int pg, .int pf, .int pe, .int pz, .ref o0, .ref o1, .ref o2, .int pp, .int pa, .int pl, .int pk, .int pb])), (o0, .inl (ci, N0, .inl w0)), (o1, .inl (ci, N0, .inl w1)), (o2, .inl (ci, N0, .inl w2))] sz) := by
  refine ofC_i (cc := cX1_duesToCome) (maxL := 4) (ret := (some .int)) (by decide) rfl (Nat.le_of_ble_eq_true rfl) ?_
  intro p e s m args below meth c A ls Q F hr hin hlk St hl hQ
  have hx := F.1
  have hb := F.2.1
  have hl : lv_has ls 4 [(0, .ref h), (1, .int x)] := hl
  have St : cS G k [(h, .inr (1, [.int pg, .int pf, .int pe, .int pz, .ref o0, .ref o1, .ref o2, .int pp, .int pa, .int pl, .int pk, .int pb])), (o0, .inl (ci, N0, .inl w0)), (o1, .inl (ci, N0, .inl w1)), (o2, .inl (ci, N0, .inl w2))] [(ci, .int)] A s s.heap [] := St
  have y0 : (0 : Int32).toInt = 0 := by decide
  refine lv_iconst (v := 0) hx hb dX1_duesToCome_0 (by decide) ?_
  refine lv_istore_n (lv' := [(2, .int 0), (0, .ref h), (1, .int x)]) hx hb dX1_duesToCome_1 rfl hl (by decide) rfl (fun ls hl => ?_)
  refine lv_iconst (v := 0) hx hb dX1_duesToCome_2 (by decide) ?_
  refine lv_istore_n (lv' := [(3, .int 0), (2, .int 0), (0, .ref h), (1, .int x)]) hx hb dX1_duesToCome_3 rfl hl (by decide) rfl (fun ls hl => ?_)
  have lp4 : ∀ (n : Nat) (kk : Int32) (nn : Int32) (H : Heap) (locs : List Loc) (ls : Array Slot), (0 ≤ kk.toInt) → ((84 - kk.toInt).toNat) < n → cS G k [(h, .inr (1, [.int pg, .int pf, .int pe, .int pz, .ref o0, .ref o1, .ref o2, .int pp, .int pa, .int pl, .int pk, .int pb])), (o0, .inl (ci, N0, .inl w0)), (o1, .inl (ci, N0, .inl w1)), (o2, .inl (ci, N0, .inl w2))] [(ci, .int)] A s H locs → lv_has ls 4 [(3, .int kk), (2, .int nn), (0, .ref h), (1, .int x)] → W p l e ({ frames := 1, cells := 0, slots := 0, locals := 21 } : Room) s m args below meth c H locs 0 0 Q (F0 m 4 ls []) := by
    intro n
    induction n with
    | zero => intro kk nn H locs ls hI hn; exact absurd hn (Nat.not_lt_zero _)
    | succ n ih =>
      intro kk nn H locs ls hI hn St hl
      refine lv_iload_n hx hb dX1_duesToCome_4 rfl (lv_at hl 0 rfl) ?_
      refine lv_aload_n hx hb dX1_duesToCome_5 rfl (lv_at hl 2 rfl) ?_
      refine cs_get F St 0 rfl rfl inX1 3 (by decide) kf_X1_28 rfl dX1_duesToCome_6 ?_
      refine lv_icmp_ge (tgt := 39) hx hb dX1_duesToCome_9 (by decide) (fun c9 => ?_) (fun c9 => ?_)
      ·
        have i9 := ci_le (x := pz) (y := kk) rfl rfl c9
        refine lv_iload_n hx hb dX1_duesToCome_39 rfl (lv_at hl 1 rfl) ?_
        exact cs_iret F hr hlk hQ St () (r := nn) (by trivial) [0, 1, 2, 3] rfl (by decide) [] rfl (by decide) (by decide) dX1_duesToCome_40
      ·
        have i9 := ci_nle (x := pz) (y := kk) rfl rfl c9
        refine lv_aload_n hx hb dX1_duesToCome_12 rfl (lv_at hl 2 rfl) ?_
        refine lv_iload_n hx hb dX1_duesToCome_13 rfl (lv_at hl 0 rfl) ?_
        refine cs_i St [0, 1, 2, 3] [] (wc := [(h, .inr (1, [.int pg, .int pf, .int pe, .int pz, .ref o0, .ref o1, .ref o2, .int pp, .int pa, .int pl, .int pk, .int pb])), (o0, .inl (ci, N0, .inl w0)), (o1, .inl (ci, N0, .inl w1)), (o2, .inl (ci, N0, .inl w2))]) (wr := []) rfl rfl (by decide) (by decide) (va_runV (As := [.int kk]) (rest := []) F (x1_monthOf l G k _ h o0 o1 o2 N0 ci pg pf pe pz pp pa pl pk pb w0 w1 w2 kk (by first | assumption | omega) (by first | assumption | omega)) (cwVt F mf_X1_monthOf km_X1_54 rfl rfl ⟨Nat.le_of_ble_eq_true rfl, Nat.le_of_ble_eq_true rfl⟩) (cs_preV St [0, 1, 2, 3] rfl (by decide) [0] rfl (ci := 1) (q0 := 0) rfl rfl) rfl rfl hl.1 rfl (lv_room (Nat.le_of_ble_eq_true rfl)) dX1_duesToCome_14 ⟨Nat.le_of_ble_eq_true rfl, Nat.le_of_ble_eq_true rfl⟩) (fun r_1 u_2 H locs hw St => ?_)
        try dsimp only at hw
        have St : cS G k [(h, .inr (1, [.int pg, .int pf, .int pe, .int pz, .ref o0, .ref o1, .ref o2, .int pp, .int pa, .int pl, .int pk, .int pb])), (o0, .inl (ci, N0, .inl w0)), (o1, .inl (ci, N0, .inl w1)), (o2, .inl (ci, N0, .inl w2))] [(ci, .int)] A s H locs := St
        refine lv_iload_n hx hb dX1_duesToCome_17 rfl (lv_at hl 3 rfl) ?_
        refine lv_icmp_le (tgt := 33) hx hb dX1_duesToCome_18 (by decide) (fun c18 => ?_) (fun c18 => ?_)
        ·
          have i18 := ci_le (x := r_1) (y := x) rfl rfl c18
          obtain ⟨y_3, ey_3⟩ : ∃ zz : Int32, zz = kk + 1 := ⟨_, rfl⟩
          first | have jy_3 : y_3.toInt = kk.toInt + 1 := (by have q9 := ci_add (x := kk) rfl (show (1 : Int32).toInt = 1 by decide) ey_3; omega) | have jy_3 := ci_add (x := kk) rfl (show (1 : Int32).toInt = 1 by decide) ey_3
          refine lv_iinc (v := y_3) (lv' := [(3, .int y_3), (2, .int nn), (0, .ref h), (1, .int x)]) hx hb dX1_duesToCome_33 hl (k := 0) rfl (by rw [ey_3]; rfl) (by decide) rfl (fun ls hl => ?_)
          refine lv_goto (tgt := 4) hx hb dX1_duesToCome_36 (by decide) ?_
          exact ih y_3 nn _ _ _ (by omega) (by omega) St (lv_sub hl [0, 1, 2, 3] rfl)
        ·
          have i18 := ci_nle (x := r_1) (y := x) rfl rfl c18
          refine lv_aload_n hx hb dX1_duesToCome_21 rfl (lv_at hl 2 rfl) ?_
          refine cs_get F St 0 rfl rfl inX1 6 (by decide) kf_X1_38 rfl dX1_duesToCome_22 ?_
          refine lv_iload_n hx hb dX1_duesToCome_25 rfl (lv_at hl 0 rfl) ?_
          refine cs_ild F St 3 0 rfl rfl (vp_in_iff.mpr ⟨by omega, by omega⟩) dX1_duesToCome_26 ?_
          refine lv_topi (fun y_4 ey_4 => ?_)
          refine lv_if_ne (tgt := 33) hx hb dX1_duesToCome_27 (by decide) (fun c27 => ?_) (fun c27 => ?_)
          ·
            have i27 := ci_ne (x := y_4) (y := 0) rfl (show (0 : Int32).toInt = 0 by decide) c27
            obtain ⟨y_5, ey_5⟩ : ∃ zz : Int32, zz = kk + 1 := ⟨_, rfl⟩
            first | have jy_5 : y_5.toInt = kk.toInt + 1 := (by have q9 := ci_add (x := kk) rfl (show (1 : Int32).toInt = 1 by decide) ey_5; omega) | have jy_5 := ci_add (x := kk) rfl (show (1 : Int32).toInt = 1 by decide) ey_5
            refine lv_iinc (v := y_5) (lv' := [(3, .int y_5), (2, .int nn), (0, .ref h), (1, .int x)]) hx hb dX1_duesToCome_33 hl (k := 0) rfl (by rw [ey_5]; rfl) (by decide) rfl (fun ls hl => ?_)
            refine lv_goto (tgt := 4) hx hb dX1_duesToCome_36 (by decide) ?_
            exact ih y_5 nn _ _ _ (by omega) (by omega) St (lv_sub hl [0, 1, 2, 3] rfl)
          ·
            have i27 := ci_eq (x := y_4) (y := 0) rfl (show (0 : Int32).toInt = 0 by decide) c27
            obtain ⟨y_6, ey_6⟩ : ∃ zz : Int32, zz = nn + 1 := ⟨_, rfl⟩
            first | have jy_6 : y_6.toInt = nn.toInt + 1 := (by have q9 := ci_add (x := nn) rfl (show (1 : Int32).toInt = 1 by decide) ey_6; omega) | have jy_6 := ci_add (x := nn) rfl (show (1 : Int32).toInt = 1 by decide) ey_6
            refine lv_iinc (v := y_6) (lv' := [(2, .int y_6), (3, .int kk), (0, .ref h), (1, .int x)]) hx hb dX1_duesToCome_30 hl (k := 1) rfl (by rw [ey_6]; rfl) (by decide) rfl (fun ls hl => ?_)
            obtain ⟨y_7, ey_7⟩ : ∃ zz : Int32, zz = kk + 1 := ⟨_, rfl⟩
            first | have jy_7 : y_7.toInt = kk.toInt + 1 := (by have q9 := ci_add (x := kk) rfl (show (1 : Int32).toInt = 1 by decide) ey_7; omega) | have jy_7 := ci_add (x := kk) rfl (show (1 : Int32).toInt = 1 by decide) ey_7
            refine lv_iinc (v := y_7) (lv' := [(3, .int y_7), (2, .int y_6), (0, .ref h), (1, .int x)]) hx hb dX1_duesToCome_33 hl (k := 1) rfl (by rw [ey_7]; rfl) (by decide) rfl (fun ls hl => ?_)
            refine lv_goto (tgt := 4) hx hb dX1_duesToCome_36 (by decide) ?_
            exact ih y_7 y_6 _ _ _ (by omega) (by omega) St (lv_sub hl [0, 1, 2, 3] rfl)
  exact lp4 85 0 0 _ _ _ (by omega) (by omega) St (lv_sub hl [0, 1, 2, 3] rfl)
set_option maxHeartbeats 4000000 in
set_option maxRecDepth 100000 in
theorem x1_dueSoFar (l : Launch) (G : va_G) (k : Nat → Nat) (sz : Nat) (h : Nat) (o0 : Nat) (o1 : Nat) (o2 : Nat) (N0 : Nat) (ci : ClassId) (pg : Int32) (pf : Int32) (pe : Int32) (pz : Int32) (pp : Int32) (pa : Int32) (pl : Int32) (pk : Int32) (pb : Int32) (w0 : Nat → Int32) (w1 : Nat → Int32) (w2 : Nat → Int32) (x : Int32) (hN : (N0 : Int) = pz.toInt) (hN4 : N0 ≤ 84) : Met l yX1_dueSoFar (Cond.code yX1_dueSoFar cX1_dueSoFar 4 (some .int) :: tb) ({ frames := 1, cells := 0, slots := 0, locals := 21 } : Room) (va_Pc [.ref h, .int x] (cP G k [(h, .inr (1, [.int pg, .int pf, .int pe, .int pz, .ref o0, .ref o1, .ref o2, .int pp, .int pa, .int pl, .int pk, .int pb])), (o0, .inl (ci, N0, .inl w0)), (o1, .inl (ci, N0, .inl w1)), (o2, .inl (ci, N0, .inl w2))] [(ci, .int)] sz)) (va_Qi (fun (r : Int32) (_ : Unit) => True) (cB G (fun (_ : Unit) => [(h, .inr (1, [.int pg, .int pf, .int pe, .int pz, .ref o0, .ref o1, .ref o2, .int pp, .int pa, .int pl, .int pk, .int pb])), (o0, .inl (ci, N0, .inl w0)), (o1, .inl (ci, N0, .inl w1)), (o2, .inl (ci, N0, .inl w2))]) (fun (_ : Unit) => []) (va_A [(h, .inr (1, [.int pg, .int pf, .int pe, .int pz, .ref o0, .ref o1, .ref o2, .int pp, .int pa, .int pl, .int pk, .int pb])), (o0, .inl (ci, N0, .inl w0)), (o1, .inl (ci, N0, .inl w1)), (o2, .inl (ci, N0, .inl w2))] sz)) (va_A [(h, .inr (1, [.int pg, .int pf, .int pe, .int pz, .ref o0, .ref o1, .ref o2, .int pp, .int pa, .int pl, .int pk, .int pb])), (o0, .inl (ci, N0, .inl w0)), (o1, .inl (ci, N0, .inl w1)), (o2, .inl (ci, N0, .inl w2))] sz)) 0 0 (va_A [(h, .inr (1, [.int pg, .int pf, .int pe, .int pz, .ref o0, .ref o1, .ref o2, .int pp, .int pa, .int pl, .int pk, .int pb])), (o0, .inl (ci, N0, .inl w0)), (o1, .inl (ci, N0, .inl w1)), (o2, .inl (ci, N0, .inl w2))] sz) := by
  refine ofC_i (cc := cX1_dueSoFar) (maxL := 4) (ret := (some .int)) (by decide) rfl (Nat.le_of_ble_eq_true rfl) ?_
  intro p e s m args below meth c A ls Q F hr hin hlk St hl hQ
  have hx := F.1
  have hb := F.2.1
  have hl : lv_has ls 4 [(0, .ref h), (1, .int x)] := hl
  have St : cS G k [(h, .inr (1, [.int pg, .int pf, .int pe, .int pz, .ref o0, .ref o1, .ref o2, .int pp, .int pa, .int pl, .int pk, .int pb])), (o0, .inl (ci, N0, .inl w0)), (o1, .inl (ci, N0, .inl w1)), (o2, .inl (ci, N0, .inl w2))] [(ci, .int)] A s s.heap [] := St
  have y0 : (0 : Int32).toInt = 0 := by decide
  refine lv_iconst (v := 0) hx hb dX1_dueSoFar_0 (by decide) ?_
  refine lv_istore_n (lv' := [(2, .int 0), (0, .ref h), (1, .int x)]) hx hb dX1_dueSoFar_1 rfl hl (by decide) rfl (fun ls hl => ?_)
  refine lv_iconst (v := 0) hx hb dX1_dueSoFar_2 (by decide) ?_
  refine lv_istore_n (lv' := [(3, .int 0), (2, .int 0), (0, .ref h), (1, .int x)]) hx hb dX1_dueSoFar_3 rfl hl (by decide) rfl (fun ls hl => ?_)
  have lp4 : ∀ (n : Nat) (kk : Int32) (nn : Int32) (H : Heap) (locs : List Loc) (ls : Array Slot), (0 ≤ kk.toInt) → ((84 - kk.toInt).toNat) < n → cS G k [(h, .inr (1, [.int pg, .int pf, .int pe, .int pz, .ref o0, .ref o1, .ref o2, .int pp, .int pa, .int pl, .int pk, .int pb])), (o0, .inl (ci, N0, .inl w0)), (o1, .inl (ci, N0, .inl w1)), (o2, .inl (ci, N0, .inl w2))] [(ci, .int)] A s H locs → lv_has ls 4 [(3, .int kk), (2, .int nn), (0, .ref h), (1, .int x)] → W p l e ({ frames := 1, cells := 0, slots := 0, locals := 21 } : Room) s m args below meth c H locs 0 0 Q (F0 m 4 ls []) := by
    intro n
    induction n with
    | zero => intro kk nn H locs ls hI hn; exact absurd hn (Nat.not_lt_zero _)
    | succ n ih =>
      intro kk nn H locs ls hI hn St hl
      refine lv_iload_n hx hb dX1_dueSoFar_4 rfl (lv_at hl 0 rfl) ?_
      refine lv_aload_n hx hb dX1_dueSoFar_5 rfl (lv_at hl 2 rfl) ?_
      refine cs_get F St 0 rfl rfl inX1 3 (by decide) kf_X1_28 rfl dX1_dueSoFar_6 ?_
      refine lv_icmp_ge (tgt := 46) hx hb dX1_dueSoFar_9 (by decide) (fun c9 => ?_) (fun c9 => ?_)
      ·
        have i9 := ci_le (x := pz) (y := kk) rfl rfl c9
        refine lv_iload_n hx hb dX1_dueSoFar_46 rfl (lv_at hl 1 rfl) ?_
        exact cs_iret F hr hlk hQ St () (r := nn) (by trivial) [0, 1, 2, 3] rfl (by decide) [] rfl (by decide) (by decide) dX1_dueSoFar_47
      ·
        have i9 := ci_nle (x := pz) (y := kk) rfl rfl c9
        refine lv_aload_n hx hb dX1_dueSoFar_12 rfl (lv_at hl 2 rfl) ?_
        refine lv_iload_n hx hb dX1_dueSoFar_13 rfl (lv_at hl 0 rfl) ?_
        refine cs_i St [0, 1, 2, 3] [] (wc := [(h, .inr (1, [.int pg, .int pf, .int pe, .int pz, .ref o0, .ref o1, .ref o2, .int pp, .int pa, .int pl, .int pk, .int pb])), (o0, .inl (ci, N0, .inl w0)), (o1, .inl (ci, N0, .inl w1)), (o2, .inl (ci, N0, .inl w2))]) (wr := []) rfl rfl (by decide) (by decide) (va_runV (As := [.int kk]) (rest := []) F (x1_monthOf l G k _ h o0 o1 o2 N0 ci pg pf pe pz pp pa pl pk pb w0 w1 w2 kk (by first | assumption | omega) (by first | assumption | omega)) (cwVt F mf_X1_monthOf km_X1_54 rfl rfl ⟨Nat.le_of_ble_eq_true rfl, Nat.le_of_ble_eq_true rfl⟩) (cs_preV St [0, 1, 2, 3] rfl (by decide) [0] rfl (ci := 1) (q0 := 0) rfl rfl) rfl rfl hl.1 rfl (lv_room (Nat.le_of_ble_eq_true rfl)) dX1_dueSoFar_14 ⟨Nat.le_of_ble_eq_true rfl, Nat.le_of_ble_eq_true rfl⟩) (fun r_1 u_2 H locs hw St => ?_)
        try dsimp only at hw
        have St : cS G k [(h, .inr (1, [.int pg, .int pf, .int pe, .int pz, .ref o0, .ref o1, .ref o2, .int pp, .int pa, .int pl, .int pk, .int pb])), (o0, .inl (ci, N0, .inl w0)), (o1, .inl (ci, N0, .inl w1)), (o2, .inl (ci, N0, .inl w2))] [(ci, .int)] A s H locs := St
        refine lv_iload_n hx hb dX1_dueSoFar_17 rfl (lv_at hl 3 rfl) ?_
        refine lv_icmp_gt (tgt := 46) hx hb dX1_dueSoFar_18 (by decide) (fun c18 => ?_) (fun c18 => ?_)
        ·
          have i18 := ci_lt (x := x) (y := r_1) rfl rfl c18
          refine lv_iload_n hx hb dX1_dueSoFar_46 rfl (lv_at hl 1 rfl) ?_
          exact cs_iret F hr hlk hQ St () (r := nn) (by trivial) [0, 1, 2, 3] rfl (by decide) [] rfl (by decide) (by decide) dX1_dueSoFar_47
        ·
          have i18 := ci_nlt (x := x) (y := r_1) rfl rfl c18
          refine lv_aload_n hx hb dX1_dueSoFar_21 rfl (lv_at hl 2 rfl) ?_
          refine cs_get F St 0 rfl rfl inX1 6 (by decide) kf_X1_38 rfl dX1_dueSoFar_22 ?_
          refine lv_iload_n hx hb dX1_dueSoFar_25 rfl (lv_at hl 0 rfl) ?_
          refine cs_ild F St 3 0 rfl rfl (vp_in_iff.mpr ⟨by omega, by omega⟩) dX1_dueSoFar_26 ?_
          refine lv_topi (fun y_3 ey_3 => ?_)
          refine lv_iconst (v := 2) hx hb dX1_dueSoFar_27 (by decide) ?_
          refine lv_icmp_eq (tgt := 40) hx hb dX1_dueSoFar_28 (by decide) (fun c28 => ?_) (fun c28 => ?_)
          ·
            have i28 := ci_eq (x := y_3) (y := 2) rfl (show (2 : Int32).toInt = 2 by decide) c28
            obtain ⟨y_4, ey_4⟩ : ∃ zz : Int32, zz = kk + 1 := ⟨_, rfl⟩
            first | have jy_4 : y_4.toInt = kk.toInt + 1 := (by have q9 := ci_add (x := kk) rfl (show (1 : Int32).toInt = 1 by decide) ey_4; omega) | have jy_4 := ci_add (x := kk) rfl (show (1 : Int32).toInt = 1 by decide) ey_4
            refine lv_iinc (v := y_4) (lv' := [(3, .int y_4), (2, .int nn), (0, .ref h), (1, .int x)]) hx hb dX1_dueSoFar_40 hl (k := 0) rfl (by rw [ey_4]; rfl) (by decide) rfl (fun ls hl => ?_)
            refine lv_goto (tgt := 4) hx hb dX1_dueSoFar_43 (by decide) ?_
            exact ih y_4 nn _ _ _ (by omega) (by omega) St (lv_sub hl [0, 1, 2, 3] rfl)
          ·
            have i28 := ci_ne (x := y_3) (y := 2) rfl (show (2 : Int32).toInt = 2 by decide) c28
            refine lv_iload_n hx hb dX1_dueSoFar_31 rfl (lv_at hl 1 rfl) ?_
            refine lv_aload_n hx hb dX1_dueSoFar_32 rfl (lv_at hl 2 rfl) ?_
            refine cs_get F St 0 rfl rfl inX1 4 (by decide) kf_X1_31 rfl dX1_dueSoFar_33 ?_
            refine lv_iload_n hx hb dX1_dueSoFar_36 rfl (lv_at hl 0 rfl) ?_
            refine cs_ild F St 1 0 rfl rfl (vp_in_iff.mpr ⟨by omega, by omega⟩) dX1_dueSoFar_37 ?_
            refine lv_topi (fun y_5 ey_5 => ?_)
            refine lv_iadd hx hb dX1_dueSoFar_38 ?_
            refine lv_topi (fun y_6 ey_6 => ?_)
            first | have jy_6 : y_6.toInt = nn.toInt + y_5.toInt := (by have q9 := ci_add (x := nn) (y := y_5) rfl rfl ey_6; omega) | have jy_6 := ci_add (x := nn) (y := y_5) rfl rfl ey_6
            refine lv_istore_n (lv' := [(2, .int y_6), (3, .int kk), (0, .ref h), (1, .int x)]) hx hb dX1_dueSoFar_39 rfl hl (by decide) rfl (fun ls hl => ?_)
            obtain ⟨y_7, ey_7⟩ : ∃ zz : Int32, zz = kk + 1 := ⟨_, rfl⟩
            first | have jy_7 : y_7.toInt = kk.toInt + 1 := (by have q9 := ci_add (x := kk) rfl (show (1 : Int32).toInt = 1 by decide) ey_7; omega) | have jy_7 := ci_add (x := kk) rfl (show (1 : Int32).toInt = 1 by decide) ey_7
            refine lv_iinc (v := y_7) (lv' := [(3, .int y_7), (2, .int y_6), (0, .ref h), (1, .int x)]) hx hb dX1_dueSoFar_40 hl (k := 1) rfl (by rw [ey_7]; rfl) (by decide) rfl (fun ls hl => ?_)
            refine lv_goto (tgt := 4) hx hb dX1_dueSoFar_43 (by decide) ?_
            exact ih y_7 y_6 _ _ _ (by omega) (by omega) St (lv_sub hl [0, 1, 2, 3] rfl)
  exact lp4 85 0 0 _ _ _ (by omega) (by omega) St (lv_sub hl [0, 1, 2, 3] rfl)
set_option maxHeartbeats 4000000 in
set_option maxRecDepth 100000 in
theorem x1_filledSoFar (l : Launch) (G : va_G) (k : Nat → Nat) (sz : Nat) (h : Nat) (o0 : Nat) (o1 : Nat) (o2 : Nat) (N0 : Nat) (ci : ClassId) (pg : Int32) (pf : Int32) (pe : Int32) (pz : Int32) (pp : Int32) (pa : Int32) (pl : Int32) (pk : Int32) (pb : Int32) (w0 : Nat → Int32) (w1 : Nat → Int32) (w2 : Nat → Int32) (x : Int32) (hN : (N0 : Int) = pz.toInt) (hN4 : N0 ≤ 84) : Met l yX1_filledSoFar (Cond.code yX1_filledSoFar cX1_filledSoFar 4 (some .int) :: tb) ({ frames := 1, cells := 0, slots := 0, locals := 21 } : Room) (va_Pc [.ref h, .int x] (cP G k [(h, .inr (1, [.int pg, .int pf, .int pe, .int pz, .ref o0, .ref o1, .ref o2, .int pp, .int pa, .int pl, .int pk, .int pb])), (o0, .inl (ci, N0, .inl w0)), (o1, .inl (ci, N0, .inl w1)), (o2, .inl (ci, N0, .inl w2))] [(ci, .int)] sz)) (va_Qi (fun (r : Int32) (_ : Unit) => True) (cB G (fun (_ : Unit) => [(h, .inr (1, [.int pg, .int pf, .int pe, .int pz, .ref o0, .ref o1, .ref o2, .int pp, .int pa, .int pl, .int pk, .int pb])), (o0, .inl (ci, N0, .inl w0)), (o1, .inl (ci, N0, .inl w1)), (o2, .inl (ci, N0, .inl w2))]) (fun (_ : Unit) => []) (va_A [(h, .inr (1, [.int pg, .int pf, .int pe, .int pz, .ref o0, .ref o1, .ref o2, .int pp, .int pa, .int pl, .int pk, .int pb])), (o0, .inl (ci, N0, .inl w0)), (o1, .inl (ci, N0, .inl w1)), (o2, .inl (ci, N0, .inl w2))] sz)) (va_A [(h, .inr (1, [.int pg, .int pf, .int pe, .int pz, .ref o0, .ref o1, .ref o2, .int pp, .int pa, .int pl, .int pk, .int pb])), (o0, .inl (ci, N0, .inl w0)), (o1, .inl (ci, N0, .inl w1)), (o2, .inl (ci, N0, .inl w2))] sz)) 0 0 (va_A [(h, .inr (1, [.int pg, .int pf, .int pe, .int pz, .ref o0, .ref o1, .ref o2, .int pp, .int pa, .int pl, .int pk, .int pb])), (o0, .inl (ci, N0, .inl w0)), (o1, .inl (ci, N0, .inl w1)), (o2, .inl (ci, N0, .inl w2))] sz) := by
  refine ofC_i (cc := cX1_filledSoFar) (maxL := 4) (ret := (some .int)) (by decide) rfl (Nat.le_of_ble_eq_true rfl) ?_
  intro p e s m args below meth c A ls Q F hr hin hlk St hl hQ
  have hx := F.1
  have hb := F.2.1
  have hl : lv_has ls 4 [(0, .ref h), (1, .int x)] := hl
  have St : cS G k [(h, .inr (1, [.int pg, .int pf, .int pe, .int pz, .ref o0, .ref o1, .ref o2, .int pp, .int pa, .int pl, .int pk, .int pb])), (o0, .inl (ci, N0, .inl w0)), (o1, .inl (ci, N0, .inl w1)), (o2, .inl (ci, N0, .inl w2))] [(ci, .int)] A s s.heap [] := St
  have y0 : (0 : Int32).toInt = 0 := by decide
  refine lv_iconst (v := 0) hx hb dX1_filledSoFar_0 (by decide) ?_
  refine lv_istore_n (lv' := [(2, .int 0), (0, .ref h), (1, .int x)]) hx hb dX1_filledSoFar_1 rfl hl (by decide) rfl (fun ls hl => ?_)
  refine lv_iconst (v := 0) hx hb dX1_filledSoFar_2 (by decide) ?_
  refine lv_istore_n (lv' := [(3, .int 0), (2, .int 0), (0, .ref h), (1, .int x)]) hx hb dX1_filledSoFar_3 rfl hl (by decide) rfl (fun ls hl => ?_)
  have lp4 : ∀ (n : Nat) (kk : Int32) (nn : Int32) (H : Heap) (locs : List Loc) (ls : Array Slot), (0 ≤ kk.toInt) → ((84 - kk.toInt).toNat) < n → cS G k [(h, .inr (1, [.int pg, .int pf, .int pe, .int pz, .ref o0, .ref o1, .ref o2, .int pp, .int pa, .int pl, .int pk, .int pb])), (o0, .inl (ci, N0, .inl w0)), (o1, .inl (ci, N0, .inl w1)), (o2, .inl (ci, N0, .inl w2))] [(ci, .int)] A s H locs → lv_has ls 4 [(3, .int kk), (2, .int nn), (0, .ref h), (1, .int x)] → W p l e ({ frames := 1, cells := 0, slots := 0, locals := 21 } : Room) s m args below meth c H locs 0 0 Q (F0 m 4 ls []) := by
    intro n
    induction n with
    | zero => intro kk nn H locs ls hI hn; exact absurd hn (Nat.not_lt_zero _)
    | succ n ih =>
      intro kk nn H locs ls hI hn St hl
      refine lv_iload_n hx hb dX1_filledSoFar_4 rfl (lv_at hl 0 rfl) ?_
      refine lv_aload_n hx hb dX1_filledSoFar_5 rfl (lv_at hl 2 rfl) ?_
      refine cs_get F St 0 rfl rfl inX1 3 (by decide) kf_X1_28 rfl dX1_filledSoFar_6 ?_
      refine lv_icmp_ge (tgt := 46) hx hb dX1_filledSoFar_9 (by decide) (fun c9 => ?_) (fun c9 => ?_)
      ·
        have i9 := ci_le (x := pz) (y := kk) rfl rfl c9
        refine lv_iload_n hx hb dX1_filledSoFar_46 rfl (lv_at hl 1 rfl) ?_
        exact cs_iret F hr hlk hQ St () (r := nn) (by trivial) [0, 1, 2, 3] rfl (by decide) [] rfl (by decide) (by decide) dX1_filledSoFar_47
      ·
        have i9 := ci_nle (x := pz) (y := kk) rfl rfl c9
        refine lv_aload_n hx hb dX1_filledSoFar_12 rfl (lv_at hl 2 rfl) ?_
        refine lv_iload_n hx hb dX1_filledSoFar_13 rfl (lv_at hl 0 rfl) ?_
        refine cs_i St [0, 1, 2, 3] [] (wc := [(h, .inr (1, [.int pg, .int pf, .int pe, .int pz, .ref o0, .ref o1, .ref o2, .int pp, .int pa, .int pl, .int pk, .int pb])), (o0, .inl (ci, N0, .inl w0)), (o1, .inl (ci, N0, .inl w1)), (o2, .inl (ci, N0, .inl w2))]) (wr := []) rfl rfl (by decide) (by decide) (va_runV (As := [.int kk]) (rest := []) F (x1_monthOf l G k _ h o0 o1 o2 N0 ci pg pf pe pz pp pa pl pk pb w0 w1 w2 kk (by first | assumption | omega) (by first | assumption | omega)) (cwVt F mf_X1_monthOf km_X1_54 rfl rfl ⟨Nat.le_of_ble_eq_true rfl, Nat.le_of_ble_eq_true rfl⟩) (cs_preV St [0, 1, 2, 3] rfl (by decide) [0] rfl (ci := 1) (q0 := 0) rfl rfl) rfl rfl hl.1 rfl (lv_room (Nat.le_of_ble_eq_true rfl)) dX1_filledSoFar_14 ⟨Nat.le_of_ble_eq_true rfl, Nat.le_of_ble_eq_true rfl⟩) (fun r_1 u_2 H locs hw St => ?_)
        try dsimp only at hw
        have St : cS G k [(h, .inr (1, [.int pg, .int pf, .int pe, .int pz, .ref o0, .ref o1, .ref o2, .int pp, .int pa, .int pl, .int pk, .int pb])), (o0, .inl (ci, N0, .inl w0)), (o1, .inl (ci, N0, .inl w1)), (o2, .inl (ci, N0, .inl w2))] [(ci, .int)] A s H locs := St
        refine lv_iload_n hx hb dX1_filledSoFar_17 rfl (lv_at hl 3 rfl) ?_
        refine lv_icmp_gt (tgt := 46) hx hb dX1_filledSoFar_18 (by decide) (fun c18 => ?_) (fun c18 => ?_)
        ·
          have i18 := ci_lt (x := x) (y := r_1) rfl rfl c18
          refine lv_iload_n hx hb dX1_filledSoFar_46 rfl (lv_at hl 1 rfl) ?_
          exact cs_iret F hr hlk hQ St () (r := nn) (by trivial) [0, 1, 2, 3] rfl (by decide) [] rfl (by decide) (by decide) dX1_filledSoFar_47
        ·
          have i18 := ci_nlt (x := x) (y := r_1) rfl rfl c18
          refine lv_aload_n hx hb dX1_filledSoFar_21 rfl (lv_at hl 2 rfl) ?_
          refine cs_get F St 0 rfl rfl inX1 6 (by decide) kf_X1_38 rfl dX1_filledSoFar_22 ?_
          refine lv_iload_n hx hb dX1_filledSoFar_25 rfl (lv_at hl 0 rfl) ?_
          refine cs_ild F St 3 0 rfl rfl (vp_in_iff.mpr ⟨by omega, by omega⟩) dX1_filledSoFar_26 ?_
          refine lv_topi (fun y_3 ey_3 => ?_)
          refine lv_iconst (v := 2) hx hb dX1_filledSoFar_27 (by decide) ?_
          refine lv_icmp_eq (tgt := 40) hx hb dX1_filledSoFar_28 (by decide) (fun c28 => ?_) (fun c28 => ?_)
          ·
            have i28 := ci_eq (x := y_3) (y := 2) rfl (show (2 : Int32).toInt = 2 by decide) c28
            obtain ⟨y_4, ey_4⟩ : ∃ zz : Int32, zz = kk + 1 := ⟨_, rfl⟩
            first | have jy_4 : y_4.toInt = kk.toInt + 1 := (by have q9 := ci_add (x := kk) rfl (show (1 : Int32).toInt = 1 by decide) ey_4; omega) | have jy_4 := ci_add (x := kk) rfl (show (1 : Int32).toInt = 1 by decide) ey_4
            refine lv_iinc (v := y_4) (lv' := [(3, .int y_4), (2, .int nn), (0, .ref h), (1, .int x)]) hx hb dX1_filledSoFar_40 hl (k := 0) rfl (by rw [ey_4]; rfl) (by decide) rfl (fun ls hl => ?_)
            refine lv_goto (tgt := 4) hx hb dX1_filledSoFar_43 (by decide) ?_
            exact ih y_4 nn _ _ _ (by omega) (by omega) St (lv_sub hl [0, 1, 2, 3] rfl)
          ·
            have i28 := ci_ne (x := y_3) (y := 2) rfl (show (2 : Int32).toInt = 2 by decide) c28
            refine lv_iload_n hx hb dX1_filledSoFar_31 rfl (lv_at hl 1 rfl) ?_
            refine lv_aload_n hx hb dX1_filledSoFar_32 rfl (lv_at hl 2 rfl) ?_
            refine cs_get F St 0 rfl rfl inX1 5 (by decide) kf_X1_35 rfl dX1_filledSoFar_33 ?_
            refine lv_iload_n hx hb dX1_filledSoFar_36 rfl (lv_at hl 0 rfl) ?_
            refine cs_ild F St 2 0 rfl rfl (vp_in_iff.mpr ⟨by omega, by omega⟩) dX1_filledSoFar_37 ?_
            refine lv_topi (fun y_5 ey_5 => ?_)
            refine lv_iadd hx hb dX1_filledSoFar_38 ?_
            refine lv_topi (fun y_6 ey_6 => ?_)
            first | have jy_6 : y_6.toInt = nn.toInt + y_5.toInt := (by have q9 := ci_add (x := nn) (y := y_5) rfl rfl ey_6; omega) | have jy_6 := ci_add (x := nn) (y := y_5) rfl rfl ey_6
            refine lv_istore_n (lv' := [(2, .int y_6), (3, .int kk), (0, .ref h), (1, .int x)]) hx hb dX1_filledSoFar_39 rfl hl (by decide) rfl (fun ls hl => ?_)
            obtain ⟨y_7, ey_7⟩ : ∃ zz : Int32, zz = kk + 1 := ⟨_, rfl⟩
            first | have jy_7 : y_7.toInt = kk.toInt + 1 := (by have q9 := ci_add (x := kk) rfl (show (1 : Int32).toInt = 1 by decide) ey_7; omega) | have jy_7 := ci_add (x := kk) rfl (show (1 : Int32).toInt = 1 by decide) ey_7
            refine lv_iinc (v := y_7) (lv' := [(3, .int y_7), (2, .int y_6), (0, .ref h), (1, .int x)]) hx hb dX1_filledSoFar_40 hl (k := 1) rfl (by rw [ey_7]; rfl) (by decide) rfl (fun ls hl => ?_)
            refine lv_goto (tgt := 4) hx hb dX1_filledSoFar_43 (by decide) ?_
            exact ih y_7 y_6 _ _ _ (by omega) (by omega) St (lv_sub hl [0, 1, 2, 3] rfl)
  exact lp4 85 0 0 _ _ _ (by omega) (by omega) St (lv_sub hl [0, 1, 2, 3] rfl)
set_option maxHeartbeats 4000000 in
set_option maxRecDepth 100000 in
theorem x1_setPence (l : Launch) (G : va_G) (k : Nat → Nat) (sz : Nat) (h : Nat) (o0 : Nat) (o1 : Nat) (o2 : Nat) (N0 : Nat) (ci : ClassId) (pg : Int32) (pf : Int32) (pe : Int32) (pz : Int32) (pp : Int32) (pa : Int32) (pl : Int32) (pk : Int32) (pb : Int32) (w0 : Nat → Int32) (w1 : Nat → Int32) (w2 : Nat → Int32) (x : Int32) (y : Int32) (hN : (N0 : Int) = pz.toInt) (hN4 : N0 ≤ 84) : Met l yX1_setPence (Cond.code yX1_setPence cX1_setPence 4 none :: tb) ({ frames := 1, cells := 0, slots := 0, locals := 21 } : Room) (va_Pc [.ref h, .int x, .int y] (cP G k [(h, .inr (1, [.int pg, .int pf, .int pe, .int pz, .ref o0, .ref o1, .ref o2, .int pp, .int pa, .int pl, .int pk, .int pb])), (o0, .inl (ci, N0, .inl w0)), (o1, .inl (ci, N0, .inl w1)), (o2, .inl (ci, N0, .inl w2))] [(ci, .int)] sz)) (va_Qv (fun (z0 : (Nat → Int32)) => True) (cB G (fun (z0 : (Nat → Int32)) => [(h, .inr (1, [.int pg, .int pf, .int pe, .int pz, .ref o0, .ref o1, .ref o2, .int x, .int pa, .int pl, .int pk, .int pb])), (o0, .inl (ci, N0, .inl z0)), (o1, .inl (ci, N0, .inl w1)), (o2, .inl (ci, N0, .inl w2))]) (fun (z0 : (Nat → Int32)) => []) (va_A [(h, .inr (1, [.int pg, .int pf, .int pe, .int pz, .ref o0, .ref o1, .ref o2, .int pp, .int pa, .int pl, .int pk, .int pb])), (o0, .inl (ci, N0, .inl w0)), (o1, .inl (ci, N0, .inl w1)), (o2, .inl (ci, N0, .inl w2))] sz)) (va_A [(h, .inr (1, [.int pg, .int pf, .int pe, .int pz, .ref o0, .ref o1, .ref o2, .int pp, .int pa, .int pl, .int pk, .int pb])), (o0, .inl (ci, N0, .inl w0)), (o1, .inl (ci, N0, .inl w1)), (o2, .inl (ci, N0, .inl w2))] sz)) 0 0 (va_A [(h, .inr (1, [.int pg, .int pf, .int pe, .int pz, .ref o0, .ref o1, .ref o2, .int pp, .int pa, .int pl, .int pk, .int pb])), (o0, .inl (ci, N0, .inl w0)), (o1, .inl (ci, N0, .inl w1)), (o2, .inl (ci, N0, .inl w2))] sz) := by
  refine ofC_v (cc := cX1_setPence) (maxL := 4) (ret := none) (by decide) rfl (Nat.le_of_ble_eq_true rfl) ?_
  intro p e s m args below meth c A ls Q F hr hin hlk St hl hQ
  have hx := F.1
  have hb := F.2.1
  have hl : lv_has ls 4 [(0, .ref h), (1, .int x), (2, .int y)] := hl
  have St : cS G k [(h, .inr (1, [.int pg, .int pf, .int pe, .int pz, .ref o0, .ref o1, .ref o2, .int pp, .int pa, .int pl, .int pk, .int pb])), (o0, .inl (ci, N0, .inl w0)), (o1, .inl (ci, N0, .inl w1)), (o2, .inl (ci, N0, .inl w2))] [(ci, .int)] A s s.heap [] := St
  have y0 : (0 : Int32).toInt = 0 := by decide
  refine lv_aload_n hx hb dX1_setPence_0 rfl (lv_at hl 0 rfl) ?_
  refine lv_iload_n hx hb dX1_setPence_1 rfl (lv_at hl 1 rfl) ?_
  refine cs_put F St 0 rfl rfl inX1 tyX1_ok nmX1 7 (by decide) kf_X1_41 rfl rfl rfl (Nat.le_of_ble_eq_true rfl) (w' := [(h, .inr (1, [.int pg, .int pf, .int pe, .int pz, .ref o0, .ref o1, .ref o2, .int x, .int pa, .int pl, .int pk, .int pb])), (o0, .inl (ci, N0, .inl w0)), (o1, .inl (ci, N0, .inl w1)), (o2, .inl (ci, N0, .inl w2))]) rfl dX1_setPence_2 (fun H locs St => ?_)
  refine lv_iconst (v := 0) hx hb dX1_setPence_5 (by decide) ?_
  refine lv_istore_n (lv' := [(3, .int 0), (0, .ref h), (1, .int x), (2, .int y)]) hx hb dX1_setPence_6 rfl hl (by decide) rfl (fun ls hl => ?_)
  have lp7 : ∀ (n : Nat) (kk : Int32) (q0 : Nat → Int32) (H : Heap) (locs : List Loc) (ls : Array Slot), (0 ≤ kk.toInt) → ((84 - kk.toInt).toNat) < n → cS G k [(h, .inr (1, [.int pg, .int pf, .int pe, .int pz, .ref o0, .ref o1, .ref o2, .int x, .int pa, .int pl, .int pk, .int pb])), (o0, .inl (ci, N0, .inl q0)), (o1, .inl (ci, N0, .inl w1)), (o2, .inl (ci, N0, .inl w2))] [(ci, .int)] A s H locs → lv_has ls 4 [(3, .int kk), (0, .ref h), (1, .int x), (2, .int y)] → W p l e ({ frames := 1, cells := 0, slots := 0, locals := 21 } : Room) s m args below meth c H locs 0 0 Q (F0 m 7 ls []) := by
    intro n
    induction n with
    | zero => intro kk q0 H locs ls hI hn; exact absurd hn (Nat.not_lt_zero _)
    | succ n ih =>
      intro kk q0 H locs ls hI hn St hl
      refine lv_iload_n hx hb dX1_setPence_7 rfl (lv_at hl 0 rfl) ?_
      refine lv_aload_n hx hb dX1_setPence_8 rfl (lv_at hl 1 rfl) ?_
      refine cs_get F St 0 rfl rfl inX1 3 (by decide) kf_X1_28 rfl dX1_setPence_9 ?_
      refine lv_icmp_ge (tgt := 46) hx hb dX1_setPence_12 (by decide) (fun c12 => ?_) (fun c12 => ?_)
      ·
        have i12 := ci_le (x := pz) (y := kk) rfl rfl c12
        exact cs_vret F hr hlk hQ St q0 (by trivial) [0, 1, 2, 3] rfl (by decide) [] rfl (by decide) (by decide) dX1_setPence_46
      ·
        have i12 := ci_nle (x := pz) (y := kk) rfl rfl c12
        refine lv_aload_n hx hb dX1_setPence_15 rfl (lv_at hl 1 rfl) ?_
        refine lv_iload_n hx hb dX1_setPence_16 rfl (lv_at hl 0 rfl) ?_
        refine cs_i St [0, 1, 2, 3] [] (wc := [(h, .inr (1, [.int pg, .int pf, .int pe, .int pz, .ref o0, .ref o1, .ref o2, .int x, .int pa, .int pl, .int pk, .int pb])), (o0, .inl (ci, N0, .inl q0)), (o1, .inl (ci, N0, .inl w1)), (o2, .inl (ci, N0, .inl w2))]) (wr := []) rfl rfl (by decide) (by decide) (va_runV (As := [.int kk]) (rest := []) F (x1_monthOf l G k _ h o0 o1 o2 N0 ci pg pf pe pz x pa pl pk pb q0 w1 w2 kk (by first | assumption | omega) (by first | assumption | omega)) (cwVt F mf_X1_monthOf km_X1_54 rfl rfl ⟨Nat.le_of_ble_eq_true rfl, Nat.le_of_ble_eq_true rfl⟩) (cs_preV St [0, 1, 2, 3] rfl (by decide) [0] rfl (ci := 1) (q0 := 0) rfl rfl) rfl rfl hl.1 rfl (lv_room (Nat.le_of_ble_eq_true rfl)) dX1_setPence_17 ⟨Nat.le_of_ble_eq_true rfl, Nat.le_of_ble_eq_true rfl⟩) (fun r_1 u_2 H locs hw St => ?_)
        try dsimp only at hw
        have St : cS G k [(h, .inr (1, [.int pg, .int pf, .int pe, .int pz, .ref o0, .ref o1, .ref o2, .int x, .int pa, .int pl, .int pk, .int pb])), (o0, .inl (ci, N0, .inl q0)), (o1, .inl (ci, N0, .inl w1)), (o2, .inl (ci, N0, .inl w2))] [(ci, .int)] A s H locs := St
        refine lv_iload_n hx hb dX1_setPence_20 rfl (lv_at hl 3 rfl) ?_
        refine lv_icmp_le (tgt := 40) hx hb dX1_setPence_21 (by decide) (fun c21 => ?_) (fun c21 => ?_)
        ·
          have i21 := ci_le (x := r_1) (y := y) rfl rfl c21
          obtain ⟨y_3, ey_3⟩ : ∃ zz : Int32, zz = kk + 1 := ⟨_, rfl⟩
          first | have jy_3 : y_3.toInt = kk.toInt + 1 := (by have q9 := ci_add (x := kk) rfl (show (1 : Int32).toInt = 1 by decide) ey_3; omega) | have jy_3 := ci_add (x := kk) rfl (show (1 : Int32).toInt = 1 by decide) ey_3
          refine lv_iinc (v := y_3) (lv' := [(3, .int y_3), (0, .ref h), (1, .int x), (2, .int y)]) hx hb dX1_setPence_40 hl (k := 0) rfl (by rw [ey_3]; rfl) (by decide) rfl (fun ls hl => ?_)
          refine lv_goto (tgt := 7) hx hb dX1_setPence_43 (by decide) ?_
          exact ih y_3 q0 _ _ _ (by omega) (by omega) St (lv_sub hl [0, 1, 2, 3] rfl)
        ·
          have i21 := ci_nle (x := r_1) (y := y) rfl rfl c21
          refine lv_aload_n hx hb dX1_setPence_24 rfl (lv_at hl 1 rfl) ?_
          refine cs_get F St 0 rfl rfl inX1 5 (by decide) kf_X1_35 rfl dX1_setPence_25 ?_
          refine lv_iload_n hx hb dX1_setPence_28 rfl (lv_at hl 0 rfl) ?_
          refine cs_ild F St 2 0 rfl rfl (vp_in_iff.mpr ⟨by omega, by omega⟩) dX1_setPence_29 ?_
          refine lv_topi (fun y_4 ey_4 => ?_)
          refine lv_if_ne (tgt := 40) hx hb dX1_setPence_30 (by decide) (fun c30 => ?_) (fun c30 => ?_)
          ·
            have i30 := ci_ne (x := y_4) (y := 0) rfl (show (0 : Int32).toInt = 0 by decide) c30
            obtain ⟨y_5, ey_5⟩ : ∃ zz : Int32, zz = kk + 1 := ⟨_, rfl⟩
            first | have jy_5 : y_5.toInt = kk.toInt + 1 := (by have q9 := ci_add (x := kk) rfl (show (1 : Int32).toInt = 1 by decide) ey_5; omega) | have jy_5 := ci_add (x := kk) rfl (show (1 : Int32).toInt = 1 by decide) ey_5
            refine lv_iinc (v := y_5) (lv' := [(3, .int y_5), (0, .ref h), (1, .int x), (2, .int y)]) hx hb dX1_setPence_40 hl (k := 0) rfl (by rw [ey_5]; rfl) (by decide) rfl (fun ls hl => ?_)
            refine lv_goto (tgt := 7) hx hb dX1_setPence_43 (by decide) ?_
            exact ih y_5 q0 _ _ _ (by omega) (by omega) St (lv_sub hl [0, 1, 2, 3] rfl)
          ·
            have i30 := ci_eq (x := y_4) (y := 0) rfl (show (0 : Int32).toInt = 0 by decide) c30
            refine lv_aload_n hx hb dX1_setPence_33 rfl (lv_at hl 1 rfl) ?_
            refine cs_get F St 0 rfl rfl inX1 4 (by decide) kf_X1_31 rfl dX1_setPence_34 ?_
            refine lv_iload_n hx hb dX1_setPence_37 rfl (lv_at hl 0 rfl) ?_
            refine lv_iload_n hx hb dX1_setPence_38 rfl (lv_at hl 2 rfl) ?_
            refine cs_ist F St 1 0 rfl rfl (vp_in_iff.mpr ⟨by omega, by omega⟩) (w' := [(h, .inr (1, [.int pg, .int pf, .int pe, .int pz, .ref o0, .ref o1, .ref o2, .int x, .int pa, .int pl, .int pk, .int pb])), (o0, .inl (ci, N0, .inl (upd q0 (kk : Int32).toNatClampNeg x))), (o1, .inl (ci, N0, .inl w1)), (o2, .inl (ci, N0, .inl w2))]) rfl dX1_setPence_39 (fun H locs St => ?_)
            obtain ⟨f_6, ef_6⟩ : ∃ zz : Nat → Int32, zz = upd q0 (kk : Int32).toNatClampNeg x := ⟨_, rfl⟩
            rw [← ef_6] at St
            obtain ⟨y_7, ey_7⟩ : ∃ zz : Int32, zz = kk + 1 := ⟨_, rfl⟩
            first | have jy_7 : y_7.toInt = kk.toInt + 1 := (by have q9 := ci_add (x := kk) rfl (show (1 : Int32).toInt = 1 by decide) ey_7; omega) | have jy_7 := ci_add (x := kk) rfl (show (1 : Int32).toInt = 1 by decide) ey_7
            refine lv_iinc (v := y_7) (lv' := [(3, .int y_7), (0, .ref h), (1, .int x), (2, .int y)]) hx hb dX1_setPence_40 hl (k := 0) rfl (by rw [ey_7]; rfl) (by decide) rfl (fun ls hl => ?_)
            refine lv_goto (tgt := 7) hx hb dX1_setPence_43 (by decide) ?_
            exact ih y_7 f_6 _ _ _ (by omega) (by omega) St (lv_sub hl [0, 1, 2, 3] rfl)
  exact lp7 85 0 w0 _ _ _ (by omega) (by omega) St (lv_sub hl [0, 1, 2, 3] rfl)
set_option maxHeartbeats 4000000 in
set_option maxRecDepth 100000 in
theorem x1_fill (l : Launch) (G : va_G) (k : Nat → Nat) (sz : Nat) (h : Nat) (o0 : Nat) (o1 : Nat) (o2 : Nat) (N0 : Nat) (ci : ClassId) (pg : Int32) (pf : Int32) (pe : Int32) (pz : Int32) (pp : Int32) (pa : Int32) (pl : Int32) (pk : Int32) (pb : Int32) (w0 : Nat → Int32) (w1 : Nat → Int32) (w2 : Nat → Int32) (x : Int32) (hN : (N0 : Int) = pz.toInt) (hN4 : N0 ≤ 84) : Met l yX1_fill (Cond.code yX1_fill cX1_fill 5 none :: tb) ({ frames := 1, cells := 0, slots := 0, locals := 23 } : Room) (va_Pc [.ref h, .int x] (cP G k [(h, .inr (1, [.int pg, .int pf, .int pe, .int pz, .ref o0, .ref o1, .ref o2, .int pp, .int pa, .int pl, .int pk, .int pb])), (o0, .inl (ci, N0, .inl w0)), (o1, .inl (ci, N0, .inl w1)), (o2, .inl (ci, N0, .inl w2))] [(ci, .int)] sz)) (va_Qv (fun (u : Int32 × (Nat → Int32)) => match u with | (pa2, z1) => True) (cB G (fun u => match u with | (pa2, z1) => [(h, .inr (1, [.int pg, .int pf, .int pe, .int pz, .ref o0, .ref o1, .ref o2, .int pp, .int pa2, .int pl, .int pk, .int pb])), (o0, .inl (ci, N0, .inl w0)), (o1, .inl (ci, N0, .inl z1)), (o2, .inl (ci, N0, .inl w2))]) (fun u => match u with | (pa2, z1) => []) (va_A [(h, .inr (1, [.int pg, .int pf, .int pe, .int pz, .ref o0, .ref o1, .ref o2, .int pp, .int pa, .int pl, .int pk, .int pb])), (o0, .inl (ci, N0, .inl w0)), (o1, .inl (ci, N0, .inl w1)), (o2, .inl (ci, N0, .inl w2))] sz)) (va_A [(h, .inr (1, [.int pg, .int pf, .int pe, .int pz, .ref o0, .ref o1, .ref o2, .int pp, .int pa, .int pl, .int pk, .int pb])), (o0, .inl (ci, N0, .inl w0)), (o1, .inl (ci, N0, .inl w1)), (o2, .inl (ci, N0, .inl w2))] sz)) 0 0 (va_A [(h, .inr (1, [.int pg, .int pf, .int pe, .int pz, .ref o0, .ref o1, .ref o2, .int pp, .int pa, .int pl, .int pk, .int pb])), (o0, .inl (ci, N0, .inl w0)), (o1, .inl (ci, N0, .inl w1)), (o2, .inl (ci, N0, .inl w2))] sz) := by
  refine ofC_v (cc := cX1_fill) (maxL := 5) (ret := none) (by decide) rfl (Nat.le_of_ble_eq_true rfl) ?_
  intro p e s m args below meth c A ls Q F hr hin hlk St hl hQ
  have hx := F.1
  have hb := F.2.1
  have hl : lv_has ls 5 [(0, .ref h), (1, .int x)] := hl
  have St : cS G k [(h, .inr (1, [.int pg, .int pf, .int pe, .int pz, .ref o0, .ref o1, .ref o2, .int pp, .int pa, .int pl, .int pk, .int pb])), (o0, .inl (ci, N0, .inl w0)), (o1, .inl (ci, N0, .inl w1)), (o2, .inl (ci, N0, .inl w2))] [(ci, .int)] A s s.heap [] := St
  have y0 : (0 : Int32).toInt = 0 := by decide
  refine lv_iload_n hx hb dX1_fill_0 rfl (lv_at hl 1 rfl) ?_
  refine lv_istore_n (lv' := [(2, .int x), (0, .ref h), (1, .int x)]) hx hb dX1_fill_1 rfl hl (by decide) rfl (fun ls hl => ?_)
  refine lv_iconst (v := 0) hx hb dX1_fill_2 (by decide) ?_
  refine lv_istore_n (lv' := [(3, .int 0), (2, .int x), (0, .ref h), (1, .int x)]) hx hb dX1_fill_3 rfl hl (by decide) rfl (fun ls hl => ?_)
  have lp4 : ∀ (n : Nat) (kk : Int32) (nn : Int32) (q1 : Nat → Int32) (H : Heap) (locs : List Loc) (ls : Array Slot), (0 ≤ kk.toInt) → ((84 - kk.toInt).toNat) < n → cS G k [(h, .inr (1, [.int pg, .int pf, .int pe, .int pz, .ref o0, .ref o1, .ref o2, .int pp, .int pa, .int pl, .int pk, .int pb])), (o0, .inl (ci, N0, .inl w0)), (o1, .inl (ci, N0, .inl q1)), (o2, .inl (ci, N0, .inl w2))] [(ci, .int)] A s H locs → lv_has ls 5 [(3, .int kk), (2, .int nn), (0, .ref h), (1, .int x)] → W p l e ({ frames := 1, cells := 0, slots := 0, locals := 23 } : Room) s m args below meth c H locs 0 0 Q (F0 m 4 ls []) := by
    intro n
    induction n with
    | zero => intro kk nn q1 H locs ls hI hn; exact absurd hn (Nat.not_lt_zero _)
    | succ n ih =>
      intro kk nn q1 H locs ls hI hn St hl
      refine lv_iload_n hx hb dX1_fill_4 rfl (lv_at hl 0 rfl) ?_
      refine lv_aload_n hx hb dX1_fill_5 rfl (lv_at hl 2 rfl) ?_
      refine cs_get F St 0 rfl rfl inX1 3 (by decide) kf_X1_28 rfl dX1_fill_6 ?_
      refine lv_icmp_ge (tgt := 66) hx hb dX1_fill_9 (by decide) (fun c9 => ?_) (fun c9 => ?_)
      ·
        have i9 := ci_le (x := pz) (y := kk) rfl rfl c9
        refine lv_aload_n hx hb dX1_fill_66 rfl (lv_at hl 2 rfl) ?_
        refine lv_dup hx hb dX1_fill_67 rfl ?_
        refine cs_get F St 0 rfl rfl inX1 8 (by decide) kf_X1_44 rfl dX1_fill_68 ?_
        refine lv_iload_n hx hb dX1_fill_71 rfl (lv_at hl 3 rfl) ?_
        refine lv_iload_n hx hb dX1_fill_72 rfl (lv_at hl 1 rfl) ?_
        refine lv_isub hx hb dX1_fill_73 ?_
        refine lv_topi (fun y_1 ey_1 => ?_)
        first | have jy_1 : y_1.toInt = x.toInt - nn.toInt := (by have q9 := ci_sub (x := x) (y := nn) rfl rfl ey_1; omega) | have jy_1 := ci_sub (x := x) (y := nn) rfl rfl ey_1
        refine lv_iadd hx hb dX1_fill_74 ?_
        refine lv_topi (fun y_2 ey_2 => ?_)
        first | have jy_2 : y_2.toInt = pa.toInt + y_1.toInt := (by have q9 := ci_add (x := pa) (y := y_1) rfl rfl ey_2; omega) | have jy_2 := ci_add (x := pa) (y := y_1) rfl rfl ey_2
        refine cs_put F St 0 rfl rfl inX1 tyX1_ok nmX1 8 (by decide) kf_X1_44 rfl rfl rfl (Nat.le_of_ble_eq_true rfl) (w' := [(h, .inr (1, [.int pg, .int pf, .int pe, .int pz, .ref o0, .ref o1, .ref o2, .int pp, .int y_2, .int pl, .int pk, .int pb])), (o0, .inl (ci, N0, .inl w0)), (o1, .inl (ci, N0, .inl q1)), (o2, .inl (ci, N0, .inl w2))]) rfl dX1_fill_75 (fun H locs St => ?_)
        exact cs_vret F hr hlk hQ St (y_2, q1) (by trivial) [0, 1, 2, 3] rfl (by decide) [] rfl (by decide) (by decide) dX1_fill_78
      ·
        have i9 := ci_nle (x := pz) (y := kk) rfl rfl c9
        refine lv_iload_n hx hb dX1_fill_12 rfl (lv_at hl 1 rfl) ?_
        refine lv_if_le (tgt := 66) hx hb dX1_fill_13 (by decide) (fun c13 => ?_) (fun c13 => ?_)
        ·
          have i13 := ci_le (x := nn) (y := 0) rfl (show (0 : Int32).toInt = 0 by decide) c13
          refine lv_aload_n hx hb dX1_fill_66 rfl (lv_at hl 2 rfl) ?_
          refine lv_dup hx hb dX1_fill_67 rfl ?_
          refine cs_get F St 0 rfl rfl inX1 8 (by decide) kf_X1_44 rfl dX1_fill_68 ?_
          refine lv_iload_n hx hb dX1_fill_71 rfl (lv_at hl 3 rfl) ?_
          refine lv_iload_n hx hb dX1_fill_72 rfl (lv_at hl 1 rfl) ?_
          refine lv_isub hx hb dX1_fill_73 ?_
          refine lv_topi (fun y_3 ey_3 => ?_)
          first | have jy_3 : y_3.toInt = x.toInt - nn.toInt := (by have q9 := ci_sub (x := x) (y := nn) rfl rfl ey_3; omega) | have jy_3 := ci_sub (x := x) (y := nn) rfl rfl ey_3
          refine lv_iadd hx hb dX1_fill_74 ?_
          refine lv_topi (fun y_4 ey_4 => ?_)
          first | have jy_4 : y_4.toInt = pa.toInt + y_3.toInt := (by have q9 := ci_add (x := pa) (y := y_3) rfl rfl ey_4; omega) | have jy_4 := ci_add (x := pa) (y := y_3) rfl rfl ey_4
          refine cs_put F St 0 rfl rfl inX1 tyX1_ok nmX1 8 (by decide) kf_X1_44 rfl rfl rfl (Nat.le_of_ble_eq_true rfl) (w' := [(h, .inr (1, [.int pg, .int pf, .int pe, .int pz, .ref o0, .ref o1, .ref o2, .int pp, .int y_4, .int pl, .int pk, .int pb])), (o0, .inl (ci, N0, .inl w0)), (o1, .inl (ci, N0, .inl q1)), (o2, .inl (ci, N0, .inl w2))]) rfl dX1_fill_75 (fun H locs St => ?_)
          exact cs_vret F hr hlk hQ St (y_4, q1) (by trivial) [0, 1, 2, 3] rfl (by decide) [] rfl (by decide) (by decide) dX1_fill_78
        ·
          have i13 := ci_nle (x := nn) (y := 0) rfl (show (0 : Int32).toInt = 0 by decide) c13
          refine lv_aload_n hx hb dX1_fill_16 rfl (lv_at hl 2 rfl) ?_
          refine cs_get F St 0 rfl rfl inX1 6 (by decide) kf_X1_38 rfl dX1_fill_17 ?_
          refine lv_iload_n hx hb dX1_fill_20 rfl (lv_at hl 0 rfl) ?_
          refine cs_ild F St 3 0 rfl rfl (vp_in_iff.mpr ⟨by omega, by omega⟩) dX1_fill_21 ?_
          refine lv_topi (fun y_5 ey_5 => ?_)
          refine lv_if_ne (tgt := 60) hx hb dX1_fill_22 (by decide) (fun c22 => ?_) (fun c22 => ?_)
          ·
            have i22 := ci_ne (x := y_5) (y := 0) rfl (show (0 : Int32).toInt = 0 by decide) c22
            obtain ⟨y_6, ey_6⟩ : ∃ zz : Int32, zz = kk + 1 := ⟨_, rfl⟩
            first | have jy_6 : y_6.toInt = kk.toInt + 1 := (by have q9 := ci_add (x := kk) rfl (show (1 : Int32).toInt = 1 by decide) ey_6; omega) | have jy_6 := ci_add (x := kk) rfl (show (1 : Int32).toInt = 1 by decide) ey_6
            refine lv_iinc (v := y_6) (lv' := [(3, .int y_6), (2, .int nn), (0, .ref h), (1, .int x)]) hx hb dX1_fill_60 hl (k := 0) rfl (by rw [ey_6]; rfl) (by decide) rfl (fun ls hl => ?_)
            refine lv_goto (tgt := 4) hx hb dX1_fill_63 (by decide) ?_
            exact ih y_6 nn q1 _ _ _ (by omega) (by omega) St (lv_sub hl [0, 1, 2, 3] rfl)
          ·
            have i22 := ci_eq (x := y_5) (y := 0) rfl (show (0 : Int32).toInt = 0 by decide) c22
            refine lv_iload_n hx hb dX1_fill_25 rfl (lv_at hl 1 rfl) ?_
            refine lv_aload_n hx hb dX1_fill_26 rfl (lv_at hl 2 rfl) ?_
            refine cs_get F St 0 rfl rfl inX1 4 (by decide) kf_X1_31 rfl dX1_fill_27 ?_
            refine lv_iload_n hx hb dX1_fill_30 rfl (lv_at hl 0 rfl) ?_
            refine cs_ild F St 1 0 rfl rfl (vp_in_iff.mpr ⟨by omega, by omega⟩) dX1_fill_31 ?_
            refine lv_topi (fun y_7 ey_7 => ?_)
            refine lv_aload_n hx hb dX1_fill_32 rfl (lv_at hl 2 rfl) ?_
            refine cs_get F St 0 rfl rfl inX1 5 (by decide) kf_X1_35 rfl dX1_fill_33 ?_
            refine lv_iload_n hx hb dX1_fill_36 rfl (lv_at hl 0 rfl) ?_
            refine cs_ild F St 2 0 rfl rfl (vp_in_iff.mpr ⟨by omega, by omega⟩) dX1_fill_37 ?_
            refine lv_topi (fun y_8 ey_8 => ?_)
            refine lv_isub hx hb dX1_fill_38 ?_
            refine lv_topi (fun y_9 ey_9 => ?_)
            first | have jy_9 : y_9.toInt = y_7.toInt - y_8.toInt := (by have q9 := ci_sub (x := y_7) (y := y_8) rfl rfl ey_9; omega) | have jy_9 := ci_sub (x := y_7) (y := y_8) rfl rfl ey_9
            refine va_mmin hx hb (F.2.2.1.trans hl.1.symm) F.2.2.2.1 (F.2.2.2.2 _ km_X1_62) (F.2.2.2.2 _ ks_J9_min_7cf53) (F.2.2.2.2 _ ki_J9) (F.2.2.2.2 _ kd_J9_min_7cf53) (Nat.le_of_ble_eq_true rfl) (Nat.le_of_ble_eq_true rfl) (Nat.le_of_ble_eq_true rfl) (Nat.le_of_ble_eq_true rfl) dX1_fill_39 ?_
            refine lv_topi (fun y_10 ey_10 => ?_)
            refine lv_istore (lv' := [(4, .int y_10), (3, .int kk), (2, .int nn), (0, .ref h), (1, .int x)]) hx hb dX1_fill_42 hl (by decide) rfl (fun ls hl => ?_)
            refine lv_aload_n hx hb dX1_fill_44 rfl (lv_at hl 3 rfl) ?_
            refine cs_get F St 0 rfl rfl inX1 5 (by decide) kf_X1_35 rfl dX1_fill_45 ?_
            refine lv_iload_n hx hb dX1_fill_48 rfl (lv_at hl 1 rfl) ?_
            refine lv_dup2_11 hx hb dX1_fill_49 rfl rfl ?_
            refine cs_ild F St 2 0 rfl rfl (vp_in_iff.mpr ⟨by omega, by omega⟩) dX1_fill_50 ?_
            refine lv_topi (fun y_11 ey_11 => ?_)
            refine lv_iload hx hb dX1_fill_51 (lv_at hl 0 rfl) ?_
            refine lv_iadd hx hb dX1_fill_53 ?_
            refine lv_topi (fun y_12 ey_12 => ?_)
            first | have jy_12 : y_12.toInt = y_11.toInt + y_10.toInt := (by have q9 := ci_add (x := y_11) (y := y_10) rfl rfl ey_12; omega) | have jy_12 := ci_add (x := y_11) (y := y_10) rfl rfl ey_12
            refine cs_ist F St 2 0 rfl rfl (vp_in_iff.mpr ⟨by omega, by omega⟩) (w' := [(h, .inr (1, [.int pg, .int pf, .int pe, .int pz, .ref o0, .ref o1, .ref o2, .int pp, .int pa, .int pl, .int pk, .int pb])), (o0, .inl (ci, N0, .inl w0)), (o1, .inl (ci, N0, .inl (upd q1 (kk : Int32).toNatClampNeg y_12))), (o2, .inl (ci, N0, .inl w2))]) rfl dX1_fill_54 (fun H locs St => ?_)
            obtain ⟨f_13, ef_13⟩ : ∃ zz : Nat → Int32, zz = upd q1 (kk : Int32).toNatClampNeg y_12 := ⟨_, rfl⟩
            rw [← ef_13] at St
            refine lv_iload_n hx hb dX1_fill_55 rfl (lv_at hl 2 rfl) ?_
            refine lv_iload hx hb dX1_fill_56 (lv_at hl 0 rfl) ?_
            refine lv_isub hx hb dX1_fill_58 ?_
            refine lv_topi (fun y_14 ey_14 => ?_)
            first | have jy_14 : y_14.toInt = nn.toInt - y_10.toInt := (by have q9 := ci_sub (x := nn) (y := y_10) rfl rfl ey_14; omega) | have jy_14 := ci_sub (x := nn) (y := y_10) rfl rfl ey_14
            refine lv_istore_n (lv' := [(2, .int y_14), (4, .int y_10), (3, .int kk), (0, .ref h), (1, .int x)]) hx hb dX1_fill_59 rfl hl (by decide) rfl (fun ls hl => ?_)
            obtain ⟨y_15, ey_15⟩ : ∃ zz : Int32, zz = kk + 1 := ⟨_, rfl⟩
            first | have jy_15 : y_15.toInt = kk.toInt + 1 := (by have q9 := ci_add (x := kk) rfl (show (1 : Int32).toInt = 1 by decide) ey_15; omega) | have jy_15 := ci_add (x := kk) rfl (show (1 : Int32).toInt = 1 by decide) ey_15
            refine lv_iinc (v := y_15) (lv' := [(3, .int y_15), (2, .int y_14), (4, .int y_10), (0, .ref h), (1, .int x)]) hx hb dX1_fill_60 hl (k := 2) rfl (by rw [ey_15]; rfl) (by decide) rfl (fun ls hl => ?_)
            refine lv_goto (tgt := 4) hx hb dX1_fill_63 (by decide) ?_
            exact ih y_15 y_14 f_13 _ _ _ (by omega) (by omega) St (lv_sub hl [0, 1, 3, 4] rfl)
  exact lp4 85 0 x w1 _ _ _ (by omega) (by omega) St (lv_sub hl [0, 1, 2, 3] rfl)
set_option maxHeartbeats 4000000 in
set_option maxRecDepth 100000 in
theorem x1_lapseIn (l : Launch) (G : va_G) (k : Nat → Nat) (sz : Nat) (h : Nat) (o0 : Nat) (o1 : Nat) (o2 : Nat) (N0 : Nat) (ci : ClassId) (pg : Int32) (pf : Int32) (pe : Int32) (pz : Int32) (pp : Int32) (pa : Int32) (pl : Int32) (pk : Int32) (pb : Int32) (w0 : Nat → Int32) (w1 : Nat → Int32) (w2 : Nat → Int32) (x : Int32) (hN : (N0 : Int) = pz.toInt) (hN4 : N0 ≤ 84) : Met l yX1_lapseIn (Cond.code yX1_lapseIn cX1_lapseIn 3 none :: tb) ({ frames := 1, cells := 0, slots := 0, locals := 21 } : Room) (va_Pc [.ref h, .int x] (cP G k [(h, .inr (1, [.int pg, .int pf, .int pe, .int pz, .ref o0, .ref o1, .ref o2, .int pp, .int pa, .int pl, .int pk, .int pb])), (o0, .inl (ci, N0, .inl w0)), (o1, .inl (ci, N0, .inl w1)), (o2, .inl (ci, N0, .inl w2))] [(ci, .int)] sz)) (va_Qv (fun (u : Int32 × (Nat → Int32)) => match u with | (pb2, z2) => True) (cB G (fun u => match u with | (pb2, z2) => [(h, .inr (1, [.int pg, .int pf, .int pe, .int pz, .ref o0, .ref o1, .ref o2, .int pp, .int pa, .int 1, .int pk, .int pb2])), (o0, .inl (ci, N0, .inl w0)), (o1, .inl (ci, N0, .inl w1)), (o2, .inl (ci, N0, .inl z2))]) (fun u => match u with | (pb2, z2) => []) (va_A [(h, .inr (1, [.int pg, .int pf, .int pe, .int pz, .ref o0, .ref o1, .ref o2, .int pp, .int pa, .int pl, .int pk, .int pb])), (o0, .inl (ci, N0, .inl w0)), (o1, .inl (ci, N0, .inl w1)), (o2, .inl (ci, N0, .inl w2))] sz)) (va_A [(h, .inr (1, [.int pg, .int pf, .int pe, .int pz, .ref o0, .ref o1, .ref o2, .int pp, .int pa, .int pl, .int pk, .int pb])), (o0, .inl (ci, N0, .inl w0)), (o1, .inl (ci, N0, .inl w1)), (o2, .inl (ci, N0, .inl w2))] sz)) 0 0 (va_A [(h, .inr (1, [.int pg, .int pf, .int pe, .int pz, .ref o0, .ref o1, .ref o2, .int pp, .int pa, .int pl, .int pk, .int pb])), (o0, .inl (ci, N0, .inl w0)), (o1, .inl (ci, N0, .inl w1)), (o2, .inl (ci, N0, .inl w2))] sz) := by
  refine ofC_v (cc := cX1_lapseIn) (maxL := 3) (ret := none) (by decide) rfl (Nat.le_of_ble_eq_true rfl) ?_
  intro p e s m args below meth c A ls Q F hr hin hlk St hl hQ
  have hx := F.1
  have hb := F.2.1
  have hl : lv_has ls 3 [(0, .ref h), (1, .int x)] := hl
  have St : cS G k [(h, .inr (1, [.int pg, .int pf, .int pe, .int pz, .ref o0, .ref o1, .ref o2, .int pp, .int pa, .int pl, .int pk, .int pb])), (o0, .inl (ci, N0, .inl w0)), (o1, .inl (ci, N0, .inl w1)), (o2, .inl (ci, N0, .inl w2))] [(ci, .int)] A s s.heap [] := St
  have y0 : (0 : Int32).toInt = 0 := by decide
  refine lv_aload_n hx hb dX1_lapseIn_0 rfl (lv_at hl 0 rfl) ?_
  refine lv_iconst (v := 1) hx hb dX1_lapseIn_1 (by decide) ?_
  refine cs_put F St 0 rfl rfl inX1 tyX1_ok nmX1 9 (by decide) kf_X1_47 rfl rfl rfl (Nat.le_of_ble_eq_true rfl) (w' := [(h, .inr (1, [.int pg, .int pf, .int pe, .int pz, .ref o0, .ref o1, .ref o2, .int pp, .int pa, .int 1, .int pk, .int pb])), (o0, .inl (ci, N0, .inl w0)), (o1, .inl (ci, N0, .inl w1)), (o2, .inl (ci, N0, .inl w2))]) rfl dX1_lapseIn_2 (fun H locs St => ?_)
  refine lv_aload_n hx hb dX1_lapseIn_5 rfl (lv_at hl 0 rfl) ?_
  refine cs_get F St 0 rfl rfl inX1 11 (by decide) kf_X1_9 rfl dX1_lapseIn_6 ?_
  refine lv_iconst (v := (-1)) hx hb dX1_lapseIn_9 (by decide) ?_
  refine lv_icmp_ne (tgt := 18) hx hb dX1_lapseIn_10 (by decide) (fun c10 => ?_) (fun c10 => ?_)
  ·
    have i10 := ci_ne (x := pb) (y := (-1)) rfl (show ((-1) : Int32).toInt = -1 by decide) c10
    refine lv_iconst (v := 0) hx hb dX1_lapseIn_18 (by decide) ?_
    refine lv_istore_n (lv' := [(2, .int 0), (0, .ref h), (1, .int x)]) hx hb dX1_lapseIn_19 rfl hl (by decide) rfl (fun ls hl => ?_)
    have lp20 : ∀ (n : Nat) (kk : Int32) (q2 : Nat → Int32) (H : Heap) (locs : List Loc) (ls : Array Slot), (0 ≤ kk.toInt) → ((84 - kk.toInt).toNat) < n → cS G k [(h, .inr (1, [.int pg, .int pf, .int pe, .int pz, .ref o0, .ref o1, .ref o2, .int pp, .int pa, .int 1, .int pk, .int pb])), (o0, .inl (ci, N0, .inl w0)), (o1, .inl (ci, N0, .inl w1)), (o2, .inl (ci, N0, .inl q2))] [(ci, .int)] A s H locs → lv_has ls 3 [(2, .int kk), (0, .ref h), (1, .int x)] → W p l e ({ frames := 1, cells := 0, slots := 0, locals := 21 } : Room) s m args below meth c H locs 0 0 Q (F0 m 20 ls []) := by
      intro n
      induction n with
      | zero => intro kk q2 H locs ls hI hn; exact absurd hn (Nat.not_lt_zero _)
      | succ n ih =>
        intro kk q2 H locs ls hI hn St hl
        refine lv_iload_n hx hb dX1_lapseIn_20 rfl (lv_at hl 0 rfl) ?_
        refine lv_aload_n hx hb dX1_lapseIn_21 rfl (lv_at hl 1 rfl) ?_
        refine cs_get F St 0 rfl rfl inX1 3 (by decide) kf_X1_28 rfl dX1_lapseIn_22 ?_
        refine lv_icmp_ge (tgt := 78) hx hb dX1_lapseIn_25 (by decide) (fun c25 => ?_) (fun c25 => ?_)
        ·
          have i25 := ci_le (x := pz) (y := kk) rfl rfl c25
          exact cs_vret F hr hlk hQ St (pb, q2) (by trivial) [0, 1, 2, 3] rfl (by decide) [] rfl (by decide) (by decide) dX1_lapseIn_78
        ·
          have i25 := ci_nle (x := pz) (y := kk) rfl rfl c25
          refine lv_aload_n hx hb dX1_lapseIn_28 rfl (lv_at hl 1 rfl) ?_
          refine cs_get F St 0 rfl rfl inX1 6 (by decide) kf_X1_38 rfl dX1_lapseIn_29 ?_
          refine lv_iload_n hx hb dX1_lapseIn_32 rfl (lv_at hl 0 rfl) ?_
          refine cs_ild F St 3 0 rfl rfl (vp_in_iff.mpr ⟨by omega, by omega⟩) dX1_lapseIn_33 ?_
          refine lv_topi (fun y_1 ey_1 => ?_)
          refine lv_if_ne (tgt := 72) hx hb dX1_lapseIn_34 (by decide) (fun c34 => ?_) (fun c34 => ?_)
          ·
            have i34 := ci_ne (x := y_1) (y := 0) rfl (show (0 : Int32).toInt = 0 by decide) c34
            obtain ⟨y_2, ey_2⟩ : ∃ zz : Int32, zz = kk + 1 := ⟨_, rfl⟩
            first | have jy_2 : y_2.toInt = kk.toInt + 1 := (by have q9 := ci_add (x := kk) rfl (show (1 : Int32).toInt = 1 by decide) ey_2; omega) | have jy_2 := ci_add (x := kk) rfl (show (1 : Int32).toInt = 1 by decide) ey_2
            refine lv_iinc (v := y_2) (lv' := [(2, .int y_2), (0, .ref h), (1, .int x)]) hx hb dX1_lapseIn_72 hl (k := 0) rfl (by rw [ey_2]; rfl) (by decide) rfl (fun ls hl => ?_)
            refine lv_goto (tgt := 20) hx hb dX1_lapseIn_75 (by decide) ?_
            exact ih y_2 q2 _ _ _ (by omega) (by omega) St (lv_sub hl [0, 1, 2] rfl)
          ·
            have i34 := ci_eq (x := y_1) (y := 0) rfl (show (0 : Int32).toInt = 0 by decide) c34
            refine lv_aload_n hx hb dX1_lapseIn_37 rfl (lv_at hl 1 rfl) ?_
            refine cs_get F St 0 rfl rfl inX1 5 (by decide) kf_X1_35 rfl dX1_lapseIn_38 ?_
            refine lv_iload_n hx hb dX1_lapseIn_41 rfl (lv_at hl 0 rfl) ?_
            refine cs_ild F St 2 0 rfl rfl (vp_in_iff.mpr ⟨by omega, by omega⟩) dX1_lapseIn_42 ?_
            refine lv_topi (fun y_3 ey_3 => ?_)
            refine lv_aload_n hx hb dX1_lapseIn_43 rfl (lv_at hl 1 rfl) ?_
            refine cs_get F St 0 rfl rfl inX1 4 (by decide) kf_X1_31 rfl dX1_lapseIn_44 ?_
            refine lv_iload_n hx hb dX1_lapseIn_47 rfl (lv_at hl 0 rfl) ?_
            refine cs_ild F St 1 0 rfl rfl (vp_in_iff.mpr ⟨by omega, by omega⟩) dX1_lapseIn_48 ?_
            refine lv_topi (fun y_4 ey_4 => ?_)
            refine lv_icmp_ge (tgt := 72) hx hb dX1_lapseIn_49 (by decide) (fun c49 => ?_) (fun c49 => ?_)
            ·
              have i49 := ci_le (x := y_4) (y := y_3) rfl rfl c49
              obtain ⟨y_5, ey_5⟩ : ∃ zz : Int32, zz = kk + 1 := ⟨_, rfl⟩
              first | have jy_5 : y_5.toInt = kk.toInt + 1 := (by have q9 := ci_add (x := kk) rfl (show (1 : Int32).toInt = 1 by decide) ey_5; omega) | have jy_5 := ci_add (x := kk) rfl (show (1 : Int32).toInt = 1 by decide) ey_5
              refine lv_iinc (v := y_5) (lv' := [(2, .int y_5), (0, .ref h), (1, .int x)]) hx hb dX1_lapseIn_72 hl (k := 0) rfl (by rw [ey_5]; rfl) (by decide) rfl (fun ls hl => ?_)
              refine lv_goto (tgt := 20) hx hb dX1_lapseIn_75 (by decide) ?_
              exact ih y_5 q2 _ _ _ (by omega) (by omega) St (lv_sub hl [0, 1, 2] rfl)
            ·
              have i49 := ci_nle (x := y_4) (y := y_3) rfl rfl c49
              refine lv_aload_n hx hb dX1_lapseIn_52 rfl (lv_at hl 1 rfl) ?_
              refine cs_get F St 0 rfl rfl inX1 6 (by decide) kf_X1_38 rfl dX1_lapseIn_53 ?_
              refine lv_iload_n hx hb dX1_lapseIn_56 rfl (lv_at hl 0 rfl) ?_
              refine lv_aload_n hx hb dX1_lapseIn_57 rfl (lv_at hl 1 rfl) ?_
              refine lv_iload_n hx hb dX1_lapseIn_58 rfl (lv_at hl 0 rfl) ?_
              refine cs_i St [0, 1, 2, 3] [] (wc := [(h, .inr (1, [.int pg, .int pf, .int pe, .int pz, .ref o0, .ref o1, .ref o2, .int pp, .int pa, .int 1, .int pk, .int pb])), (o0, .inl (ci, N0, .inl w0)), (o1, .inl (ci, N0, .inl w1)), (o2, .inl (ci, N0, .inl q2))]) (wr := []) rfl rfl (by decide) (by decide) (va_runV (As := [.int kk]) (rest := [.int kk, .ref o2]) F (x1_monthOf l G k _ h o0 o1 o2 N0 ci pg pf pe pz pp pa 1 pk pb w0 w1 q2 kk (by first | assumption | omega) (by first | assumption | omega)) (cwVt F mf_X1_monthOf km_X1_54 rfl rfl ⟨Nat.le_of_ble_eq_true rfl, Nat.le_of_ble_eq_true rfl⟩) (cs_preV St [0, 1, 2, 3] rfl (by decide) [0] rfl (ci := 1) (q0 := 0) rfl rfl) rfl rfl hl.1 rfl (lv_room (Nat.le_of_ble_eq_true rfl)) dX1_lapseIn_59 ⟨Nat.le_of_ble_eq_true rfl, Nat.le_of_ble_eq_true rfl⟩) (fun r_6 u_7 H locs hw St => ?_)
              try dsimp only at hw
              have St : cS G k [(h, .inr (1, [.int pg, .int pf, .int pe, .int pz, .ref o0, .ref o1, .ref o2, .int pp, .int pa, .int 1, .int pk, .int pb])), (o0, .inl (ci, N0, .inl w0)), (o1, .inl (ci, N0, .inl w1)), (o2, .inl (ci, N0, .inl q2))] [(ci, .int)] A s H locs := St
              refine lv_iload_n hx hb dX1_lapseIn_62 rfl (lv_at hl 2 rfl) ?_
              refine lv_icmp_gt (tgt := 70) hx hb dX1_lapseIn_63 (by decide) (fun c63 => ?_) (fun c63 => ?_)
              ·
                have i63 := ci_lt (x := x) (y := r_6) rfl rfl c63
                refine lv_iconst (v := 2) hx hb dX1_lapseIn_70 (by decide) ?_
                refine cs_ist F St 3 0 rfl rfl (vp_in_iff.mpr ⟨by omega, by omega⟩) (w' := [(h, .inr (1, [.int pg, .int pf, .int pe, .int pz, .ref o0, .ref o1, .ref o2, .int pp, .int pa, .int 1, .int pk, .int pb])), (o0, .inl (ci, N0, .inl w0)), (o1, .inl (ci, N0, .inl w1)), (o2, .inl (ci, N0, .inl (upd q2 (kk : Int32).toNatClampNeg 2)))]) rfl dX1_lapseIn_71 (fun H locs St => ?_)
                obtain ⟨f_8, ef_8⟩ : ∃ zz : Nat → Int32, zz = upd q2 (kk : Int32).toNatClampNeg 2 := ⟨_, rfl⟩
                rw [← ef_8] at St
                obtain ⟨y_9, ey_9⟩ : ∃ zz : Int32, zz = kk + 1 := ⟨_, rfl⟩
                first | have jy_9 : y_9.toInt = kk.toInt + 1 := (by have q9 := ci_add (x := kk) rfl (show (1 : Int32).toInt = 1 by decide) ey_9; omega) | have jy_9 := ci_add (x := kk) rfl (show (1 : Int32).toInt = 1 by decide) ey_9
                refine lv_iinc (v := y_9) (lv' := [(2, .int y_9), (0, .ref h), (1, .int x)]) hx hb dX1_lapseIn_72 hl (k := 0) rfl (by rw [ey_9]; rfl) (by decide) rfl (fun ls hl => ?_)
                refine lv_goto (tgt := 20) hx hb dX1_lapseIn_75 (by decide) ?_
                exact ih y_9 f_8 _ _ _ (by omega) (by omega) St (lv_sub hl [0, 1, 2] rfl)
              ·
                have i63 := ci_nlt (x := x) (y := r_6) rfl rfl c63
                refine lv_iconst (v := 1) hx hb dX1_lapseIn_66 (by decide) ?_
                refine lv_goto (tgt := 71) hx hb dX1_lapseIn_67 (by decide) ?_
                refine cs_ist F St 3 0 rfl rfl (vp_in_iff.mpr ⟨by omega, by omega⟩) (w' := [(h, .inr (1, [.int pg, .int pf, .int pe, .int pz, .ref o0, .ref o1, .ref o2, .int pp, .int pa, .int 1, .int pk, .int pb])), (o0, .inl (ci, N0, .inl w0)), (o1, .inl (ci, N0, .inl w1)), (o2, .inl (ci, N0, .inl (upd q2 (kk : Int32).toNatClampNeg 1)))]) rfl dX1_lapseIn_71 (fun H locs St => ?_)
                obtain ⟨f_10, ef_10⟩ : ∃ zz : Nat → Int32, zz = upd q2 (kk : Int32).toNatClampNeg 1 := ⟨_, rfl⟩
                rw [← ef_10] at St
                obtain ⟨y_11, ey_11⟩ : ∃ zz : Int32, zz = kk + 1 := ⟨_, rfl⟩
                first | have jy_11 : y_11.toInt = kk.toInt + 1 := (by have q9 := ci_add (x := kk) rfl (show (1 : Int32).toInt = 1 by decide) ey_11; omega) | have jy_11 := ci_add (x := kk) rfl (show (1 : Int32).toInt = 1 by decide) ey_11
                refine lv_iinc (v := y_11) (lv' := [(2, .int y_11), (0, .ref h), (1, .int x)]) hx hb dX1_lapseIn_72 hl (k := 0) rfl (by rw [ey_11]; rfl) (by decide) rfl (fun ls hl => ?_)
                refine lv_goto (tgt := 20) hx hb dX1_lapseIn_75 (by decide) ?_
                exact ih y_11 f_10 _ _ _ (by omega) (by omega) St (lv_sub hl [0, 1, 2] rfl)
    exact lp20 85 0 w2 _ _ _ (by omega) (by omega) St (lv_sub hl [0, 1, 2] rfl)
  ·
    have i10 := ci_eq (x := pb) (y := (-1)) rfl (show ((-1) : Int32).toInt = -1 by decide) c10
    refine lv_aload_n hx hb dX1_lapseIn_13 rfl (lv_at hl 0 rfl) ?_
    refine lv_iload_n hx hb dX1_lapseIn_14 rfl (lv_at hl 1 rfl) ?_
    refine cs_put F St 0 rfl rfl inX1 tyX1_ok nmX1 11 (by decide) kf_X1_9 rfl rfl rfl (Nat.le_of_ble_eq_true rfl) (w' := [(h, .inr (1, [.int pg, .int pf, .int pe, .int pz, .ref o0, .ref o1, .ref o2, .int pp, .int pa, .int 1, .int pk, .int x])), (o0, .inl (ci, N0, .inl w0)), (o1, .inl (ci, N0, .inl w1)), (o2, .inl (ci, N0, .inl w2))]) rfl dX1_lapseIn_15 (fun H locs St => ?_)
    refine lv_iconst (v := 0) hx hb dX1_lapseIn_18 (by decide) ?_
    refine lv_istore_n (lv' := [(2, .int 0), (0, .ref h), (1, .int x)]) hx hb dX1_lapseIn_19 rfl hl (by decide) rfl (fun ls hl => ?_)
    have lp20 : ∀ (n : Nat) (kk : Int32) (q2 : Nat → Int32) (H : Heap) (locs : List Loc) (ls : Array Slot), (0 ≤ kk.toInt) → ((84 - kk.toInt).toNat) < n → cS G k [(h, .inr (1, [.int pg, .int pf, .int pe, .int pz, .ref o0, .ref o1, .ref o2, .int pp, .int pa, .int 1, .int pk, .int x])), (o0, .inl (ci, N0, .inl w0)), (o1, .inl (ci, N0, .inl w1)), (o2, .inl (ci, N0, .inl q2))] [(ci, .int)] A s H locs → lv_has ls 3 [(2, .int kk), (0, .ref h), (1, .int x)] → W p l e ({ frames := 1, cells := 0, slots := 0, locals := 21 } : Room) s m args below meth c H locs 0 0 Q (F0 m 20 ls []) := by
      intro n
      induction n with
      | zero => intro kk q2 H locs ls hI hn; exact absurd hn (Nat.not_lt_zero _)
      | succ n ih =>
        intro kk q2 H locs ls hI hn St hl
        refine lv_iload_n hx hb dX1_lapseIn_20 rfl (lv_at hl 0 rfl) ?_
        refine lv_aload_n hx hb dX1_lapseIn_21 rfl (lv_at hl 1 rfl) ?_
        refine cs_get F St 0 rfl rfl inX1 3 (by decide) kf_X1_28 rfl dX1_lapseIn_22 ?_
        refine lv_icmp_ge (tgt := 78) hx hb dX1_lapseIn_25 (by decide) (fun c25 => ?_) (fun c25 => ?_)
        ·
          have i25 := ci_le (x := pz) (y := kk) rfl rfl c25
          exact cs_vret F hr hlk hQ St (x, q2) (by trivial) [0, 1, 2, 3] rfl (by decide) [] rfl (by decide) (by decide) dX1_lapseIn_78
        ·
          have i25 := ci_nle (x := pz) (y := kk) rfl rfl c25
          refine lv_aload_n hx hb dX1_lapseIn_28 rfl (lv_at hl 1 rfl) ?_
          refine cs_get F St 0 rfl rfl inX1 6 (by decide) kf_X1_38 rfl dX1_lapseIn_29 ?_
          refine lv_iload_n hx hb dX1_lapseIn_32 rfl (lv_at hl 0 rfl) ?_
          refine cs_ild F St 3 0 rfl rfl (vp_in_iff.mpr ⟨by omega, by omega⟩) dX1_lapseIn_33 ?_
          refine lv_topi (fun y_12 ey_12 => ?_)
          refine lv_if_ne (tgt := 72) hx hb dX1_lapseIn_34 (by decide) (fun c34 => ?_) (fun c34 => ?_)
          ·
            have i34 := ci_ne (x := y_12) (y := 0) rfl (show (0 : Int32).toInt = 0 by decide) c34
            obtain ⟨y_13, ey_13⟩ : ∃ zz : Int32, zz = kk + 1 := ⟨_, rfl⟩
            first | have jy_13 : y_13.toInt = kk.toInt + 1 := (by have q9 := ci_add (x := kk) rfl (show (1 : Int32).toInt = 1 by decide) ey_13; omega) | have jy_13 := ci_add (x := kk) rfl (show (1 : Int32).toInt = 1 by decide) ey_13
            refine lv_iinc (v := y_13) (lv' := [(2, .int y_13), (0, .ref h), (1, .int x)]) hx hb dX1_lapseIn_72 hl (k := 0) rfl (by rw [ey_13]; rfl) (by decide) rfl (fun ls hl => ?_)
            refine lv_goto (tgt := 20) hx hb dX1_lapseIn_75 (by decide) ?_
            exact ih y_13 q2 _ _ _ (by omega) (by omega) St (lv_sub hl [0, 1, 2] rfl)
          ·
            have i34 := ci_eq (x := y_12) (y := 0) rfl (show (0 : Int32).toInt = 0 by decide) c34
            refine lv_aload_n hx hb dX1_lapseIn_37 rfl (lv_at hl 1 rfl) ?_
            refine cs_get F St 0 rfl rfl inX1 5 (by decide) kf_X1_35 rfl dX1_lapseIn_38 ?_
            refine lv_iload_n hx hb dX1_lapseIn_41 rfl (lv_at hl 0 rfl) ?_
            refine cs_ild F St 2 0 rfl rfl (vp_in_iff.mpr ⟨by omega, by omega⟩) dX1_lapseIn_42 ?_
            refine lv_topi (fun y_14 ey_14 => ?_)
            refine lv_aload_n hx hb dX1_lapseIn_43 rfl (lv_at hl 1 rfl) ?_
            refine cs_get F St 0 rfl rfl inX1 4 (by decide) kf_X1_31 rfl dX1_lapseIn_44 ?_
            refine lv_iload_n hx hb dX1_lapseIn_47 rfl (lv_at hl 0 rfl) ?_
            refine cs_ild F St 1 0 rfl rfl (vp_in_iff.mpr ⟨by omega, by omega⟩) dX1_lapseIn_48 ?_
            refine lv_topi (fun y_15 ey_15 => ?_)
            refine lv_icmp_ge (tgt := 72) hx hb dX1_lapseIn_49 (by decide) (fun c49 => ?_) (fun c49 => ?_)
            ·
              have i49 := ci_le (x := y_15) (y := y_14) rfl rfl c49
              obtain ⟨y_16, ey_16⟩ : ∃ zz : Int32, zz = kk + 1 := ⟨_, rfl⟩
              first | have jy_16 : y_16.toInt = kk.toInt + 1 := (by have q9 := ci_add (x := kk) rfl (show (1 : Int32).toInt = 1 by decide) ey_16; omega) | have jy_16 := ci_add (x := kk) rfl (show (1 : Int32).toInt = 1 by decide) ey_16
              refine lv_iinc (v := y_16) (lv' := [(2, .int y_16), (0, .ref h), (1, .int x)]) hx hb dX1_lapseIn_72 hl (k := 0) rfl (by rw [ey_16]; rfl) (by decide) rfl (fun ls hl => ?_)
              refine lv_goto (tgt := 20) hx hb dX1_lapseIn_75 (by decide) ?_
              exact ih y_16 q2 _ _ _ (by omega) (by omega) St (lv_sub hl [0, 1, 2] rfl)
            ·
              have i49 := ci_nle (x := y_15) (y := y_14) rfl rfl c49
              refine lv_aload_n hx hb dX1_lapseIn_52 rfl (lv_at hl 1 rfl) ?_
              refine cs_get F St 0 rfl rfl inX1 6 (by decide) kf_X1_38 rfl dX1_lapseIn_53 ?_
              refine lv_iload_n hx hb dX1_lapseIn_56 rfl (lv_at hl 0 rfl) ?_
              refine lv_aload_n hx hb dX1_lapseIn_57 rfl (lv_at hl 1 rfl) ?_
              refine lv_iload_n hx hb dX1_lapseIn_58 rfl (lv_at hl 0 rfl) ?_
              refine cs_i St [0, 1, 2, 3] [] (wc := [(h, .inr (1, [.int pg, .int pf, .int pe, .int pz, .ref o0, .ref o1, .ref o2, .int pp, .int pa, .int 1, .int pk, .int x])), (o0, .inl (ci, N0, .inl w0)), (o1, .inl (ci, N0, .inl w1)), (o2, .inl (ci, N0, .inl q2))]) (wr := []) rfl rfl (by decide) (by decide) (va_runV (As := [.int kk]) (rest := [.int kk, .ref o2]) F (x1_monthOf l G k _ h o0 o1 o2 N0 ci pg pf pe pz pp pa 1 pk x w0 w1 q2 kk (by first | assumption | omega) (by first | assumption | omega)) (cwVt F mf_X1_monthOf km_X1_54 rfl rfl ⟨Nat.le_of_ble_eq_true rfl, Nat.le_of_ble_eq_true rfl⟩) (cs_preV St [0, 1, 2, 3] rfl (by decide) [0] rfl (ci := 1) (q0 := 0) rfl rfl) rfl rfl hl.1 rfl (lv_room (Nat.le_of_ble_eq_true rfl)) dX1_lapseIn_59 ⟨Nat.le_of_ble_eq_true rfl, Nat.le_of_ble_eq_true rfl⟩) (fun r_17 u_18 H locs hw St => ?_)
              try dsimp only at hw
              have St : cS G k [(h, .inr (1, [.int pg, .int pf, .int pe, .int pz, .ref o0, .ref o1, .ref o2, .int pp, .int pa, .int 1, .int pk, .int x])), (o0, .inl (ci, N0, .inl w0)), (o1, .inl (ci, N0, .inl w1)), (o2, .inl (ci, N0, .inl q2))] [(ci, .int)] A s H locs := St
              refine lv_iload_n hx hb dX1_lapseIn_62 rfl (lv_at hl 2 rfl) ?_
              refine lv_icmp_gt (tgt := 70) hx hb dX1_lapseIn_63 (by decide) (fun c63 => ?_) (fun c63 => ?_)
              ·
                have i63 := ci_lt (x := x) (y := r_17) rfl rfl c63
                refine lv_iconst (v := 2) hx hb dX1_lapseIn_70 (by decide) ?_
                refine cs_ist F St 3 0 rfl rfl (vp_in_iff.mpr ⟨by omega, by omega⟩) (w' := [(h, .inr (1, [.int pg, .int pf, .int pe, .int pz, .ref o0, .ref o1, .ref o2, .int pp, .int pa, .int 1, .int pk, .int x])), (o0, .inl (ci, N0, .inl w0)), (o1, .inl (ci, N0, .inl w1)), (o2, .inl (ci, N0, .inl (upd q2 (kk : Int32).toNatClampNeg 2)))]) rfl dX1_lapseIn_71 (fun H locs St => ?_)
                obtain ⟨f_19, ef_19⟩ : ∃ zz : Nat → Int32, zz = upd q2 (kk : Int32).toNatClampNeg 2 := ⟨_, rfl⟩
                rw [← ef_19] at St
                obtain ⟨y_20, ey_20⟩ : ∃ zz : Int32, zz = kk + 1 := ⟨_, rfl⟩
                first | have jy_20 : y_20.toInt = kk.toInt + 1 := (by have q9 := ci_add (x := kk) rfl (show (1 : Int32).toInt = 1 by decide) ey_20; omega) | have jy_20 := ci_add (x := kk) rfl (show (1 : Int32).toInt = 1 by decide) ey_20
                refine lv_iinc (v := y_20) (lv' := [(2, .int y_20), (0, .ref h), (1, .int x)]) hx hb dX1_lapseIn_72 hl (k := 0) rfl (by rw [ey_20]; rfl) (by decide) rfl (fun ls hl => ?_)
                refine lv_goto (tgt := 20) hx hb dX1_lapseIn_75 (by decide) ?_
                exact ih y_20 f_19 _ _ _ (by omega) (by omega) St (lv_sub hl [0, 1, 2] rfl)
              ·
                have i63 := ci_nlt (x := x) (y := r_17) rfl rfl c63
                refine lv_iconst (v := 1) hx hb dX1_lapseIn_66 (by decide) ?_
                refine lv_goto (tgt := 71) hx hb dX1_lapseIn_67 (by decide) ?_
                refine cs_ist F St 3 0 rfl rfl (vp_in_iff.mpr ⟨by omega, by omega⟩) (w' := [(h, .inr (1, [.int pg, .int pf, .int pe, .int pz, .ref o0, .ref o1, .ref o2, .int pp, .int pa, .int 1, .int pk, .int x])), (o0, .inl (ci, N0, .inl w0)), (o1, .inl (ci, N0, .inl w1)), (o2, .inl (ci, N0, .inl (upd q2 (kk : Int32).toNatClampNeg 1)))]) rfl dX1_lapseIn_71 (fun H locs St => ?_)
                obtain ⟨f_21, ef_21⟩ : ∃ zz : Nat → Int32, zz = upd q2 (kk : Int32).toNatClampNeg 1 := ⟨_, rfl⟩
                rw [← ef_21] at St
                obtain ⟨y_22, ey_22⟩ : ∃ zz : Int32, zz = kk + 1 := ⟨_, rfl⟩
                first | have jy_22 : y_22.toInt = kk.toInt + 1 := (by have q9 := ci_add (x := kk) rfl (show (1 : Int32).toInt = 1 by decide) ey_22; omega) | have jy_22 := ci_add (x := kk) rfl (show (1 : Int32).toInt = 1 by decide) ey_22
                refine lv_iinc (v := y_22) (lv' := [(2, .int y_22), (0, .ref h), (1, .int x)]) hx hb dX1_lapseIn_72 hl (k := 0) rfl (by rw [ey_22]; rfl) (by decide) rfl (fun ls hl => ?_)
                refine lv_goto (tgt := 20) hx hb dX1_lapseIn_75 (by decide) ?_
                exact ih y_22 f_21 _ _ _ (by omega) (by omega) St (lv_sub hl [0, 1, 2] rfl)
    exact lp20 85 0 w2 _ _ _ (by omega) (by omega) St (lv_sub hl [0, 1, 2] rfl)
set_option maxHeartbeats 4000000 in
set_option maxRecDepth 100000 in
theorem x1_standAgain (l : Launch) (G : va_G) (k : Nat → Nat) (sz : Nat) (h : Nat) (o0 : Nat) (o1 : Nat) (o2 : Nat) (N0 : Nat) (ci : ClassId) (pg : Int32) (pf : Int32) (pe : Int32) (pz : Int32) (pp : Int32) (pa : Int32) (pl : Int32) (pk : Int32) (pb : Int32) (w0 : Nat → Int32) (w1 : Nat → Int32) (w2 : Nat → Int32) (x : Int32) (hN : (N0 : Int) = pz.toInt) (hN4 : N0 ≤ 84) : Met l yX1_standAgain (Cond.code yX1_standAgain cX1_standAgain 3 none :: tb) ({ frames := 1, cells := 0, slots := 0, locals := 21 } : Room) (va_Pc [.ref h, .int x] (cP G k [(h, .inr (1, [.int pg, .int pf, .int pe, .int pz, .ref o0, .ref o1, .ref o2, .int pp, .int pa, .int pl, .int pk, .int pb])), (o0, .inl (ci, N0, .inl w0)), (o1, .inl (ci, N0, .inl w1)), (o2, .inl (ci, N0, .inl w2))] [(ci, .int)] sz)) (va_Qv (fun (z2 : (Nat → Int32)) => True) (cB G (fun (z2 : (Nat → Int32)) => [(h, .inr (1, [.int pg, .int pf, .int pe, .int pz, .ref o0, .ref o1, .ref o2, .int pp, .int pa, .int 0, .int 1, .int pb])), (o0, .inl (ci, N0, .inl w0)), (o1, .inl (ci, N0, .inl w1)), (o2, .inl (ci, N0, .inl z2))]) (fun (z2 : (Nat → Int32)) => []) (va_A [(h, .inr (1, [.int pg, .int pf, .int pe, .int pz, .ref o0, .ref o1, .ref o2, .int pp, .int pa, .int pl, .int pk, .int pb])), (o0, .inl (ci, N0, .inl w0)), (o1, .inl (ci, N0, .inl w1)), (o2, .inl (ci, N0, .inl w2))] sz)) (va_A [(h, .inr (1, [.int pg, .int pf, .int pe, .int pz, .ref o0, .ref o1, .ref o2, .int pp, .int pa, .int pl, .int pk, .int pb])), (o0, .inl (ci, N0, .inl w0)), (o1, .inl (ci, N0, .inl w1)), (o2, .inl (ci, N0, .inl w2))] sz)) 0 0 (va_A [(h, .inr (1, [.int pg, .int pf, .int pe, .int pz, .ref o0, .ref o1, .ref o2, .int pp, .int pa, .int pl, .int pk, .int pb])), (o0, .inl (ci, N0, .inl w0)), (o1, .inl (ci, N0, .inl w1)), (o2, .inl (ci, N0, .inl w2))] sz) := by
  refine ofC_v (cc := cX1_standAgain) (maxL := 3) (ret := none) (by decide) rfl (Nat.le_of_ble_eq_true rfl) ?_
  intro p e s m args below meth c A ls Q F hr hin hlk St hl hQ
  have hx := F.1
  have hb := F.2.1
  have hl : lv_has ls 3 [(0, .ref h), (1, .int x)] := hl
  have St : cS G k [(h, .inr (1, [.int pg, .int pf, .int pe, .int pz, .ref o0, .ref o1, .ref o2, .int pp, .int pa, .int pl, .int pk, .int pb])), (o0, .inl (ci, N0, .inl w0)), (o1, .inl (ci, N0, .inl w1)), (o2, .inl (ci, N0, .inl w2))] [(ci, .int)] A s s.heap [] := St
  have y0 : (0 : Int32).toInt = 0 := by decide
  refine lv_aload_n hx hb dX1_standAgain_0 rfl (lv_at hl 0 rfl) ?_
  refine lv_iconst (v := 0) hx hb dX1_standAgain_1 (by decide) ?_
  refine cs_put F St 0 rfl rfl inX1 tyX1_ok nmX1 9 (by decide) kf_X1_47 rfl rfl rfl (Nat.le_of_ble_eq_true rfl) (w' := [(h, .inr (1, [.int pg, .int pf, .int pe, .int pz, .ref o0, .ref o1, .ref o2, .int pp, .int pa, .int 0, .int pk, .int pb])), (o0, .inl (ci, N0, .inl w0)), (o1, .inl (ci, N0, .inl w1)), (o2, .inl (ci, N0, .inl w2))]) rfl dX1_standAgain_2 (fun H locs St => ?_)
  refine lv_aload_n hx hb dX1_standAgain_5 rfl (lv_at hl 0 rfl) ?_
  refine lv_iconst (v := 1) hx hb dX1_standAgain_6 (by decide) ?_
  refine cs_put F St 0 rfl rfl inX1 tyX1_ok nmX1 10 (by decide) kf_X1_51 rfl rfl rfl (Nat.le_of_ble_eq_true rfl) (w' := [(h, .inr (1, [.int pg, .int pf, .int pe, .int pz, .ref o0, .ref o1, .ref o2, .int pp, .int pa, .int 0, .int 1, .int pb])), (o0, .inl (ci, N0, .inl w0)), (o1, .inl (ci, N0, .inl w1)), (o2, .inl (ci, N0, .inl w2))]) rfl dX1_standAgain_7 (fun H locs St => ?_)
  refine lv_iconst (v := 0) hx hb dX1_standAgain_10 (by decide) ?_
  refine lv_istore_n (lv' := [(2, .int 0), (0, .ref h), (1, .int x)]) hx hb dX1_standAgain_11 rfl hl (by decide) rfl (fun ls hl => ?_)
  have lp12 : ∀ (n : Nat) (kk : Int32) (q2 : Nat → Int32) (H : Heap) (locs : List Loc) (ls : Array Slot), (0 ≤ kk.toInt) → ((84 - kk.toInt).toNat) < n → cS G k [(h, .inr (1, [.int pg, .int pf, .int pe, .int pz, .ref o0, .ref o1, .ref o2, .int pp, .int pa, .int 0, .int 1, .int pb])), (o0, .inl (ci, N0, .inl w0)), (o1, .inl (ci, N0, .inl w1)), (o2, .inl (ci, N0, .inl q2))] [(ci, .int)] A s H locs → lv_has ls 3 [(2, .int kk), (0, .ref h), (1, .int x)] → W p l e ({ frames := 1, cells := 0, slots := 0, locals := 21 } : Room) s m args below meth c H locs 0 0 Q (F0 m 12 ls []) := by
    intro n
    induction n with
    | zero => intro kk q2 H locs ls hI hn; exact absurd hn (Nat.not_lt_zero _)
    | succ n ih =>
      intro kk q2 H locs ls hI hn St hl
      refine lv_iload_n hx hb dX1_standAgain_12 rfl (lv_at hl 0 rfl) ?_
      refine lv_aload_n hx hb dX1_standAgain_13 rfl (lv_at hl 1 rfl) ?_
      refine cs_get F St 0 rfl rfl inX1 3 (by decide) kf_X1_28 rfl dX1_standAgain_14 ?_
      refine lv_icmp_ge (tgt := 52) hx hb dX1_standAgain_17 (by decide) (fun c17 => ?_) (fun c17 => ?_)
      ·
        have i17 := ci_le (x := pz) (y := kk) rfl rfl c17
        exact cs_vret F hr hlk hQ St q2 (by trivial) [0, 1, 2, 3] rfl (by decide) [] rfl (by decide) (by decide) dX1_standAgain_52
      ·
        have i17 := ci_nle (x := pz) (y := kk) rfl rfl c17
        refine lv_aload_n hx hb dX1_standAgain_20 rfl (lv_at hl 1 rfl) ?_
        refine lv_iload_n hx hb dX1_standAgain_21 rfl (lv_at hl 0 rfl) ?_
        refine cs_i St [0, 1, 2, 3] [] (wc := [(h, .inr (1, [.int pg, .int pf, .int pe, .int pz, .ref o0, .ref o1, .ref o2, .int pp, .int pa, .int 0, .int 1, .int pb])), (o0, .inl (ci, N0, .inl w0)), (o1, .inl (ci, N0, .inl w1)), (o2, .inl (ci, N0, .inl q2))]) (wr := []) rfl rfl (by decide) (by decide) (va_runV (As := [.int kk]) (rest := []) F (x1_monthOf l G k _ h o0 o1 o2 N0 ci pg pf pe pz pp pa 0 1 pb w0 w1 q2 kk (by first | assumption | omega) (by first | assumption | omega)) (cwVt F mf_X1_monthOf km_X1_54 rfl rfl ⟨Nat.le_of_ble_eq_true rfl, Nat.le_of_ble_eq_true rfl⟩) (cs_preV St [0, 1, 2, 3] rfl (by decide) [0] rfl (ci := 1) (q0 := 0) rfl rfl) rfl rfl hl.1 rfl (lv_room (Nat.le_of_ble_eq_true rfl)) dX1_standAgain_22 ⟨Nat.le_of_ble_eq_true rfl, Nat.le_of_ble_eq_true rfl⟩) (fun r_1 u_2 H locs hw St => ?_)
        try dsimp only at hw
        have St : cS G k [(h, .inr (1, [.int pg, .int pf, .int pe, .int pz, .ref o0, .ref o1, .ref o2, .int pp, .int pa, .int 0, .int 1, .int pb])), (o0, .inl (ci, N0, .inl w0)), (o1, .inl (ci, N0, .inl w1)), (o2, .inl (ci, N0, .inl q2))] [(ci, .int)] A s H locs := St
        refine lv_iload_n hx hb dX1_standAgain_25 rfl (lv_at hl 2 rfl) ?_
        refine lv_icmp_le (tgt := 46) hx hb dX1_standAgain_26 (by decide) (fun c26 => ?_) (fun c26 => ?_)
        ·
          have i26 := ci_le (x := r_1) (y := x) rfl rfl c26
          obtain ⟨y_3, ey_3⟩ : ∃ zz : Int32, zz = kk + 1 := ⟨_, rfl⟩
          first | have jy_3 : y_3.toInt = kk.toInt + 1 := (by have q9 := ci_add (x := kk) rfl (show (1 : Int32).toInt = 1 by decide) ey_3; omega) | have jy_3 := ci_add (x := kk) rfl (show (1 : Int32).toInt = 1 by decide) ey_3
          refine lv_iinc (v := y_3) (lv' := [(2, .int y_3), (0, .ref h), (1, .int x)]) hx hb dX1_standAgain_46 hl (k := 0) rfl (by rw [ey_3]; rfl) (by decide) rfl (fun ls hl => ?_)
          refine lv_goto (tgt := 12) hx hb dX1_standAgain_49 (by decide) ?_
          exact ih y_3 q2 _ _ _ (by omega) (by omega) St (lv_sub hl [0, 1, 2] rfl)
        ·
          have i26 := ci_nle (x := r_1) (y := x) rfl rfl c26
          refine lv_aload_n hx hb dX1_standAgain_29 rfl (lv_at hl 1 rfl) ?_
          refine cs_get F St 0 rfl rfl inX1 6 (by decide) kf_X1_38 rfl dX1_standAgain_30 ?_
          refine lv_iload_n hx hb dX1_standAgain_33 rfl (lv_at hl 0 rfl) ?_
          refine cs_ild F St 3 0 rfl rfl (vp_in_iff.mpr ⟨by omega, by omega⟩) dX1_standAgain_34 ?_
          refine lv_topi (fun y_4 ey_4 => ?_)
          refine lv_iconst (v := 2) hx hb dX1_standAgain_35 (by decide) ?_
          refine lv_icmp_ne (tgt := 46) hx hb dX1_standAgain_36 (by decide) (fun c36 => ?_) (fun c36 => ?_)
          ·
            have i36 := ci_ne (x := y_4) (y := 2) rfl (show (2 : Int32).toInt = 2 by decide) c36
            obtain ⟨y_5, ey_5⟩ : ∃ zz : Int32, zz = kk + 1 := ⟨_, rfl⟩
            first | have jy_5 : y_5.toInt = kk.toInt + 1 := (by have q9 := ci_add (x := kk) rfl (show (1 : Int32).toInt = 1 by decide) ey_5; omega) | have jy_5 := ci_add (x := kk) rfl (show (1 : Int32).toInt = 1 by decide) ey_5
            refine lv_iinc (v := y_5) (lv' := [(2, .int y_5), (0, .ref h), (1, .int x)]) hx hb dX1_standAgain_46 hl (k := 0) rfl (by rw [ey_5]; rfl) (by decide) rfl (fun ls hl => ?_)
            refine lv_goto (tgt := 12) hx hb dX1_standAgain_49 (by decide) ?_
            exact ih y_5 q2 _ _ _ (by omega) (by omega) St (lv_sub hl [0, 1, 2] rfl)
          ·
            have i36 := ci_eq (x := y_4) (y := 2) rfl (show (2 : Int32).toInt = 2 by decide) c36
            refine lv_aload_n hx hb dX1_standAgain_39 rfl (lv_at hl 1 rfl) ?_
            refine cs_get F St 0 rfl rfl inX1 6 (by decide) kf_X1_38 rfl dX1_standAgain_40 ?_
            refine lv_iload_n hx hb dX1_standAgain_43 rfl (lv_at hl 0 rfl) ?_
            refine lv_iconst (v := 0) hx hb dX1_standAgain_44 (by decide) ?_
            refine cs_ist F St 3 0 rfl rfl (vp_in_iff.mpr ⟨by omega, by omega⟩) (w' := [(h, .inr (1, [.int pg, .int pf, .int pe, .int pz, .ref o0, .ref o1, .ref o2, .int pp, .int pa, .int 0, .int 1, .int pb])), (o0, .inl (ci, N0, .inl w0)), (o1, .inl (ci, N0, .inl w1)), (o2, .inl (ci, N0, .inl (upd q2 (kk : Int32).toNatClampNeg 0)))]) rfl dX1_standAgain_45 (fun H locs St => ?_)
            obtain ⟨f_6, ef_6⟩ : ∃ zz : Nat → Int32, zz = upd q2 (kk : Int32).toNatClampNeg 0 := ⟨_, rfl⟩
            rw [← ef_6] at St
            obtain ⟨y_7, ey_7⟩ : ∃ zz : Int32, zz = kk + 1 := ⟨_, rfl⟩
            first | have jy_7 : y_7.toInt = kk.toInt + 1 := (by have q9 := ci_add (x := kk) rfl (show (1 : Int32).toInt = 1 by decide) ey_7; omega) | have jy_7 := ci_add (x := kk) rfl (show (1 : Int32).toInt = 1 by decide) ey_7
            refine lv_iinc (v := y_7) (lv' := [(2, .int y_7), (0, .ref h), (1, .int x)]) hx hb dX1_standAgain_46 hl (k := 0) rfl (by rw [ey_7]; rfl) (by decide) rfl (fun ls hl => ?_)
            refine lv_goto (tgt := 12) hx hb dX1_standAgain_49 (by decide) ?_
            exact ih y_7 f_6 _ _ _ (by omega) (by omega) St (lv_sub hl [0, 1, 2] rfl)
  exact lp12 85 0 w2 _ _ _ (by omega) (by omega) St (lv_sub hl [0, 1, 2] rfl)
set_option maxHeartbeats 4000000 in
set_option maxRecDepth 100000 in
theorem x1_dues (l : Launch) (G : va_G) (k : Nat → Nat) (sz : Nat) (x : Int32) (y : Int32) (z : Int32) : Met l yX1_duesThatCome (Cond.code yX1_duesThatCome cX1_duesThatCome 5 (some .int) :: tb) ({ frames := 0, cells := 0, slots := 0, locals := 0 } : Room) (va_Pc [.int x, .int y, .int z] (cP G k [] [] sz)) (va_Qi (fun (r : Int32) (_ : Unit) => (0 ≤ r.toInt ∧ r.toInt ≤ 84)) (cB G (fun (_ : Unit) => []) (fun (_ : Unit) => []) (va_A [] sz)) (va_A [] sz)) 0 0 (va_A [] sz) := by
  refine ofC_i (cc := cX1_duesThatCome) (maxL := 5) (ret := (some .int)) (by decide) rfl (Nat.le_of_ble_eq_true rfl) ?_
  intro p e s m args below meth c A ls Q F hr hin hlk St hl hQ
  have hx := F.1
  have hb := F.2.1
  have hl : lv_has ls 5 [(0, .int x), (1, .int y), (2, .int z)] := hl
  have St : cS G k [] [] A s s.heap [] := St
  refine lv_iconst (v := 0) hx hb dX1_duesThatCome_0 (by decide) ?_
  refine lv_istore_n (lv' := [(3, .int 0), (0, .int x), (1, .int y), (2, .int z)]) hx hb dX1_duesThatCome_1 rfl hl (by decide) rfl (fun ls hl => ?_)
  refine lv_iconst (v := 0) hx hb dX1_duesThatCome_2 (by decide) ?_
  refine lv_istore (lv' := [(4, .int 0), (3, .int 0), (0, .int x), (1, .int y), (2, .int z)]) hx hb dX1_duesThatCome_3 hl (by decide) rfl (fun ls hl => ?_)
  have lp5 : ∀ (n : Nat) (q : Int32) (i : Int32) (H : Heap) (locs : List Loc) (ls : Array Slot), (0 ≤ i.toInt ∧ i.toInt ≤ 84 ∧ 0 ≤ q.toInt ∧ q.toInt ≤ i.toInt) → ((84 - i.toInt).toNat) < n → cS G k [] [] A s H locs → lv_has ls 5 [(4, .int i), (3, .int q), (0, .int x), (1, .int y), (2, .int z)] → W p l e ({ frames := 0, cells := 0, slots := 0, locals := 0 } : Room) s m args below meth c H locs 0 0 Q (F0 m 5 ls []) := by
    intro n
    induction n with
    | zero => intro q i H locs ls hI hn; exact absurd hn (Nat.not_lt_zero _)
    | succ n ih =>
      intro q i H locs ls hI hn St hl
      obtain ⟨hI0, hI1, hI2, hI3⟩ := hI
      refine lv_iload hx hb dX1_duesThatCome_5 (lv_at hl 0 rfl) ?_
      refine lv_iload_n hx hb dX1_duesThatCome_7 rfl (lv_at hl 4 rfl) ?_
      refine lv_icmp_ge (tgt := 38) hx hb dX1_duesThatCome_8 (by decide) (fun c8 => ?_) (fun c8 => ?_)
      ·
        have i8 := ci_le (x := z) (y := i) rfl rfl c8
        refine lv_iload_n hx hb dX1_duesThatCome_38 rfl (lv_at hl 1 rfl) ?_
        exact cs_iret F hr hlk hQ St () (r := q) ⟨by omega, by omega⟩ [] rfl (by decide) [] rfl (by decide) (by decide) dX1_duesThatCome_39
      ·
        have i8 := ci_nle (x := z) (y := i) rfl rfl c8
        refine lv_iload hx hb dX1_duesThatCome_11 (lv_at hl 0 rfl) ?_
        refine lv_bipush (v := 84) hx hb dX1_duesThatCome_13 (by decide) ?_
        refine lv_icmp_ge (tgt := 38) hx hb dX1_duesThatCome_15 (by decide) (fun c15 => ?_) (fun c15 => ?_)
        ·
          have i15 := ci_le (x := 84) (y := i) (show (84 : Int32).toInt = 84 by decide) rfl c15
          refine lv_iload_n hx hb dX1_duesThatCome_38 rfl (lv_at hl 1 rfl) ?_
          exact cs_iret F hr hlk hQ St () (r := q) ⟨by omega, by omega⟩ [] rfl (by decide) [] rfl (by decide) (by decide) dX1_duesThatCome_39
        ·
          have i15 := ci_nle (x := 84) (y := i) (show (84 : Int32).toInt = 84 by decide) rfl c15
          refine lv_iload_n hx hb dX1_duesThatCome_18 rfl (lv_at hl 2 rfl) ?_
          refine lv_iload hx hb dX1_duesThatCome_19 (lv_at hl 0 rfl) ?_
          refine lv_iload_n hx hb dX1_duesThatCome_21 rfl (lv_at hl 3 rfl) ?_
          refine lv_imul hx hb dX1_duesThatCome_22 ?_
          refine lv_topi (fun y_1 ey_1 => ?_)
          refine lv_iadd hx hb dX1_duesThatCome_23 ?_
          refine lv_topi (fun y_2 ey_2 => ?_)
          first | have jy_2 : y_2.toInt = x.toInt + y_1.toInt := (by have q9 := ci_add (x := x) (y := y_1) rfl rfl ey_2; omega) | have jy_2 := ci_add (x := x) (y := y_1) rfl rfl ey_2
          refine lv_bipush (v := 119) hx hb dX1_duesThatCome_24 (by decide) ?_
          refine lv_icmp_gt (tgt := 32) hx hb dX1_duesThatCome_26 (by decide) (fun c26 => ?_) (fun c26 => ?_)
          ·
            have i26 := ci_lt (x := 119) (y := y_2) (show (119 : Int32).toInt = 119 by decide) rfl c26
            obtain ⟨y_3, ey_3⟩ : ∃ zz : Int32, zz = i + 1 := ⟨_, rfl⟩
            first | have jy_3 : y_3.toInt = i.toInt + 1 := (by have q9 := ci_add (x := i) rfl (show (1 : Int32).toInt = 1 by decide) ey_3; omega) | have jy_3 := ci_add (x := i) rfl (show (1 : Int32).toInt = 1 by decide) ey_3
            refine lv_iinc (v := y_3) (lv' := [(4, .int y_3), (3, .int q), (0, .int x), (1, .int y), (2, .int z)]) hx hb dX1_duesThatCome_32 hl (k := 0) rfl (by rw [ey_3]; rfl) (by decide) rfl (fun ls hl => ?_)
            refine lv_goto (tgt := 5) hx hb dX1_duesThatCome_35 (by decide) ?_
            exact ih q y_3 _ _ _ ⟨by omega, by omega, by omega, by omega⟩ (by omega) St (lv_sub hl [0, 1, 2, 3, 4] rfl)
          ·
            have i26 := ci_nlt (x := 119) (y := y_2) (show (119 : Int32).toInt = 119 by decide) rfl c26
            obtain ⟨y_4, ey_4⟩ : ∃ zz : Int32, zz = q + 1 := ⟨_, rfl⟩
            first | have jy_4 : y_4.toInt = q.toInt + 1 := (by have q9 := ci_add (x := q) rfl (show (1 : Int32).toInt = 1 by decide) ey_4; omega) | have jy_4 := ci_add (x := q) rfl (show (1 : Int32).toInt = 1 by decide) ey_4
            refine lv_iinc (v := y_4) (lv' := [(3, .int y_4), (4, .int i), (0, .int x), (1, .int y), (2, .int z)]) hx hb dX1_duesThatCome_29 hl (k := 1) rfl (by rw [ey_4]; rfl) (by decide) rfl (fun ls hl => ?_)
            obtain ⟨y_5, ey_5⟩ : ∃ zz : Int32, zz = i + 1 := ⟨_, rfl⟩
            first | have jy_5 : y_5.toInt = i.toInt + 1 := (by have q9 := ci_add (x := i) rfl (show (1 : Int32).toInt = 1 by decide) ey_5; omega) | have jy_5 := ci_add (x := i) rfl (show (1 : Int32).toInt = 1 by decide) ey_5
            refine lv_iinc (v := y_5) (lv' := [(4, .int y_5), (3, .int y_4), (0, .int x), (1, .int y), (2, .int z)]) hx hb dX1_duesThatCome_32 hl (k := 1) rfl (by rw [ey_5]; rfl) (by decide) rfl (fun ls hl => ?_)
            refine lv_goto (tgt := 5) hx hb dX1_duesThatCome_35 (by decide) ?_
            exact ih y_4 y_5 _ _ _ ⟨by omega, by omega, by omega, by omega⟩ (by omega) St (lv_sub hl [0, 1, 2, 3, 4] rfl)
  exact lp5 85 0 0 _ _ _ ⟨by decide, by decide, by decide, by decide⟩ (by decide) St (lv_sub hl [0, 1, 2, 3, 4] rfl)
set_option maxHeartbeats 4000000 in
set_option maxRecDepth 100000 in
theorem x4_cost (l : Launch) (G : va_G) (k : Nat → Nat) (sz : Nat) (h : Nat) (s0 : Int32) (s1 : Int32) (s2 : Int32) (s3 : Int32) (s4 : Int32) (s5 : Int32) : Met l yX4_cost (Cond.code yX4_cost cX4_cost 1 (some .int) :: tb) ({ frames := 0, cells := 0, slots := 0, locals := 0 } : Room) (va_Pc [.ref h] (cP G k [(h, .inr (4, [.int s0, .int s1, .int s2, .int s3, .int s4, .int s5]))] [] sz)) (va_Qi (fun (r : Int32) (_ : Unit) => (r = s0)) (cB G (fun (_ : Unit) => [(h, .inr (4, [.int s0, .int s1, .int s2, .int s3, .int s4, .int s5]))]) (fun (_ : Unit) => []) (va_A [(h, .inr (4, [.int s0, .int s1, .int s2, .int s3, .int s4, .int s5]))] sz)) (va_A [(h, .inr (4, [.int s0, .int s1, .int s2, .int s3, .int s4, .int s5]))] sz)) 0 0 (va_A [(h, .inr (4, [.int s0, .int s1, .int s2, .int s3, .int s4, .int s5]))] sz) := by
  refine ofC_i (cc := cX4_cost) (maxL := 1) (ret := (some .int)) (by decide) rfl (Nat.le_of_ble_eq_true rfl) ?_
  intro p e s m args below meth c A ls Q F hr hin hlk St hl hQ
  have hx := F.1
  have hb := F.2.1
  have hl : lv_has ls 1 [(0, .ref h)] := hl
  have St : cS G k [(h, .inr (4, [.int s0, .int s1, .int s2, .int s3, .int s4, .int s5]))] [] A s s.heap [] := St
  refine lv_aload_n hx hb dX4_cost_0 rfl (lv_at hl 0 rfl) ?_
  refine cs_get F St 0 rfl rfl inX4 0 (by decide) kf_X4_13 rfl dX4_cost_1 ?_
  exact cs_iret F hr hlk hQ St () (r := s0) rfl [0] rfl (by decide) [] rfl (by decide) (by decide) dX4_cost_4
set_option maxHeartbeats 4000000 in
set_option maxRecDepth 100000 in
theorem x4_parts (l : Launch) (G : va_G) (k : Nat → Nat) (sz : Nat) (h : Nat) (s0 : Int32) (s1 : Int32) (s2 : Int32) (s3 : Int32) (s4 : Int32) (s5 : Int32) : Met l yX4_parts (Cond.code yX4_parts cX4_parts 1 (some .int) :: tb) ({ frames := 0, cells := 0, slots := 0, locals := 0 } : Room) (va_Pc [.ref h] (cP G k [(h, .inr (4, [.int s0, .int s1, .int s2, .int s3, .int s4, .int s5]))] [] sz)) (va_Qi (fun (r : Int32) (_ : Unit) => (r = s1)) (cB G (fun (_ : Unit) => [(h, .inr (4, [.int s0, .int s1, .int s2, .int s3, .int s4, .int s5]))]) (fun (_ : Unit) => []) (va_A [(h, .inr (4, [.int s0, .int s1, .int s2, .int s3, .int s4, .int s5]))] sz)) (va_A [(h, .inr (4, [.int s0, .int s1, .int s2, .int s3, .int s4, .int s5]))] sz)) 0 0 (va_A [(h, .inr (4, [.int s0, .int s1, .int s2, .int s3, .int s4, .int s5]))] sz) := by
  refine ofC_i (cc := cX4_parts) (maxL := 1) (ret := (some .int)) (by decide) rfl (Nat.le_of_ble_eq_true rfl) ?_
  intro p e s m args below meth c A ls Q F hr hin hlk St hl hQ
  have hx := F.1
  have hb := F.2.1
  have hl : lv_has ls 1 [(0, .ref h)] := hl
  have St : cS G k [(h, .inr (4, [.int s0, .int s1, .int s2, .int s3, .int s4, .int s5]))] [] A s s.heap [] := St
  refine lv_aload_n hx hb dX4_parts_0 rfl (lv_at hl 0 rfl) ?_
  refine cs_get F St 0 rfl rfl inX4 1 (by decide) kf_X4_16 rfl dX4_parts_1 ?_
  exact cs_iret F hr hlk hQ St () (r := s1) rfl [0] rfl (by decide) [] rfl (by decide) (by decide) dX4_parts_4
set_option maxHeartbeats 4000000 in
set_option maxRecDepth 100000 in
theorem x4_progress (l : Launch) (G : va_G) (k : Nat → Nat) (sz : Nat) (h : Nat) (s0 : Int32) (s1 : Int32) (s2 : Int32) (s3 : Int32) (s4 : Int32) (s5 : Int32) : Met l yX4_progress (Cond.code yX4_progress cX4_progress 1 (some .int) :: tb) ({ frames := 0, cells := 0, slots := 0, locals := 0 } : Room) (va_Pc [.ref h] (cP G k [(h, .inr (4, [.int s0, .int s1, .int s2, .int s3, .int s4, .int s5]))] [] sz)) (va_Qi (fun (r : Int32) (_ : Unit) => (r = s2)) (cB G (fun (_ : Unit) => [(h, .inr (4, [.int s0, .int s1, .int s2, .int s3, .int s4, .int s5]))]) (fun (_ : Unit) => []) (va_A [(h, .inr (4, [.int s0, .int s1, .int s2, .int s3, .int s4, .int s5]))] sz)) (va_A [(h, .inr (4, [.int s0, .int s1, .int s2, .int s3, .int s4, .int s5]))] sz)) 0 0 (va_A [(h, .inr (4, [.int s0, .int s1, .int s2, .int s3, .int s4, .int s5]))] sz) := by
  refine ofC_i (cc := cX4_progress) (maxL := 1) (ret := (some .int)) (by decide) rfl (Nat.le_of_ble_eq_true rfl) ?_
  intro p e s m args below meth c A ls Q F hr hin hlk St hl hQ
  have hx := F.1
  have hb := F.2.1
  have hl : lv_has ls 1 [(0, .ref h)] := hl
  have St : cS G k [(h, .inr (4, [.int s0, .int s1, .int s2, .int s3, .int s4, .int s5]))] [] A s s.heap [] := St
  refine lv_aload_n hx hb dX4_progress_0 rfl (lv_at hl 0 rfl) ?_
  refine cs_get F St 0 rfl rfl inX4 2 (by decide) kf_X4_9 rfl dX4_progress_1 ?_
  exact cs_iret F hr hlk hQ St () (r := s2) rfl [0] rfl (by decide) [] rfl (by decide) (by decide) dX4_progress_4
set_option maxHeartbeats 4000000 in
set_option maxRecDepth 100000 in
theorem x4_paid (l : Launch) (G : va_G) (k : Nat → Nat) (sz : Nat) (h : Nat) (s0 : Int32) (s1 : Int32) (s2 : Int32) (s3 : Int32) (s4 : Int32) (s5 : Int32) : Met l yX4_paid (Cond.code yX4_paid cX4_paid 1 (some .int) :: tb) ({ frames := 0, cells := 0, slots := 0, locals := 0 } : Room) (va_Pc [.ref h] (cP G k [(h, .inr (4, [.int s0, .int s1, .int s2, .int s3, .int s4, .int s5]))] [] sz)) (va_Qi (fun (r : Int32) (_ : Unit) => (r = s4)) (cB G (fun (_ : Unit) => [(h, .inr (4, [.int s0, .int s1, .int s2, .int s3, .int s4, .int s5]))]) (fun (_ : Unit) => []) (va_A [(h, .inr (4, [.int s0, .int s1, .int s2, .int s3, .int s4, .int s5]))] sz)) (va_A [(h, .inr (4, [.int s0, .int s1, .int s2, .int s3, .int s4, .int s5]))] sz)) 0 0 (va_A [(h, .inr (4, [.int s0, .int s1, .int s2, .int s3, .int s4, .int s5]))] sz) := by
  refine ofC_i (cc := cX4_paid) (maxL := 1) (ret := (some .int)) (by decide) rfl (Nat.le_of_ble_eq_true rfl) ?_
  intro p e s m args below meth c A ls Q F hr hin hlk St hl hQ
  have hx := F.1
  have hb := F.2.1
  have hl : lv_has ls 1 [(0, .ref h)] := hl
  have St : cS G k [(h, .inr (4, [.int s0, .int s1, .int s2, .int s3, .int s4, .int s5]))] [] A s s.heap [] := St
  refine lv_aload_n hx hb dX4_paid_0 rfl (lv_at hl 0 rfl) ?_
  refine cs_get F St 0 rfl rfl inX4 4 (by decide) kf_X4_19 rfl dX4_paid_1 ?_
  exact cs_iret F hr hlk hQ St () (r := s4) rfl [0] rfl (by decide) [] rfl (by decide) (by decide) dX4_paid_4
set_option maxHeartbeats 4000000 in
set_option maxRecDepth 100000 in
theorem x4_paused (l : Launch) (G : va_G) (k : Nat → Nat) (sz : Nat) (h : Nat) (s0 : Int32) (s1 : Int32) (s2 : Int32) (s3 : Int32) (s4 : Int32) (s5 : Int32) : Met l yX4_paused (Cond.code yX4_paused cX4_paused 1 (some .int) :: tb) ({ frames := 0, cells := 0, slots := 0, locals := 0 } : Room) (va_Pc [.ref h] (cP G k [(h, .inr (4, [.int s0, .int s1, .int s2, .int s3, .int s4, .int s5]))] [] sz)) (va_Qi (fun (r : Int32) (_ : Unit) => (r = s5)) (cB G (fun (_ : Unit) => [(h, .inr (4, [.int s0, .int s1, .int s2, .int s3, .int s4, .int s5]))]) (fun (_ : Unit) => []) (va_A [(h, .inr (4, [.int s0, .int s1, .int s2, .int s3, .int s4, .int s5]))] sz)) (va_A [(h, .inr (4, [.int s0, .int s1, .int s2, .int s3, .int s4, .int s5]))] sz)) 0 0 (va_A [(h, .inr (4, [.int s0, .int s1, .int s2, .int s3, .int s4, .int s5]))] sz) := by
  refine ofC_i (cc := cX4_paused) (maxL := 1) (ret := (some .int)) (by decide) rfl (Nat.le_of_ble_eq_true rfl) ?_
  intro p e s m args below meth c A ls Q F hr hin hlk St hl hQ
  have hx := F.1
  have hb := F.2.1
  have hl : lv_has ls 1 [(0, .ref h)] := hl
  have St : cS G k [(h, .inr (4, [.int s0, .int s1, .int s2, .int s3, .int s4, .int s5]))] [] A s s.heap [] := St
  refine lv_aload_n hx hb dX4_paused_0 rfl (lv_at hl 0 rfl) ?_
  refine cs_get F St 0 rfl rfl inX4 5 (by decide) kf_X4_22 rfl dX4_paused_1 ?_
  exact cs_iret F hr hlk hQ St () (r := s5) rfl [0] rfl (by decide) [] rfl (by decide) (by decide) dX4_paused_4
set_option maxHeartbeats 4000000 in
set_option maxRecDepth 100000 in
theorem x4_runs (l : Launch) (G : va_G) (k : Nat → Nat) (sz : Nat) (h : Nat) (s0 : Int32) (s1 : Int32) (s2 : Int32) (s3 : Int32) (s4 : Int32) (s5 : Int32) : Met l yX4_runs (Cond.code yX4_runs cX4_runs 1 (some .boolean) :: tb) ({ frames := 0, cells := 0, slots := 0, locals := 0 } : Room) (va_Pc [.ref h] (cP G k [(h, .inr (4, [.int s0, .int s1, .int s2, .int s3, .int s4, .int s5]))] [] sz)) (va_Qi (fun (r : Int32) (_ : Unit) => ((r = 1)) ∨ ((r = 0))) (cB G (fun (_ : Unit) => [(h, .inr (4, [.int s0, .int s1, .int s2, .int s3, .int s4, .int s5]))]) (fun (_ : Unit) => []) (va_A [(h, .inr (4, [.int s0, .int s1, .int s2, .int s3, .int s4, .int s5]))] sz)) (va_A [(h, .inr (4, [.int s0, .int s1, .int s2, .int s3, .int s4, .int s5]))] sz)) 0 0 (va_A [(h, .inr (4, [.int s0, .int s1, .int s2, .int s3, .int s4, .int s5]))] sz) := by
  refine ofC_i (cc := cX4_runs) (maxL := 1) (ret := (some .boolean)) (by decide) rfl (Nat.le_of_ble_eq_true rfl) ?_
  intro p e s m args below meth c A ls Q F hr hin hlk St hl hQ
  have hx := F.1
  have hb := F.2.1
  have hl : lv_has ls 1 [(0, .ref h)] := hl
  have St : cS G k [(h, .inr (4, [.int s0, .int s1, .int s2, .int s3, .int s4, .int s5]))] [] A s s.heap [] := St
  refine lv_aload_n hx hb dX4_runs_0 rfl (lv_at hl 0 rfl) ?_
  refine cs_get F St 0 rfl rfl inX4 2 (by decide) kf_X4_9 rfl dX4_runs_1 ?_
  refine lv_iconst (v := 1) hx hb dX4_runs_4 (by decide) ?_
  refine lv_icmp_ne (tgt := 12) hx hb dX4_runs_5 (by decide) (fun c5 => ?_) (fun c5 => ?_)
  ·
    have i5 := ci_ne (x := s2) (y := 1) rfl (show (1 : Int32).toInt = 1 by decide) c5
    refine lv_iconst (v := 0) hx hb dX4_runs_12 (by decide) ?_
    exact cs_zret F hr hlk hQ St () (r := 0) rfl (Or.inr rfl) [0] rfl (by decide) [] rfl (by decide) (by decide) dX4_runs_13
  ·
    have i5 := ci_eq (x := s2) (y := 1) rfl (show (1 : Int32).toInt = 1 by decide) c5
    refine lv_iconst (v := 1) hx hb dX4_runs_8 (by decide) ?_
    refine lv_goto (tgt := 13) hx hb dX4_runs_9 (by decide) ?_
    exact cs_zret F hr hlk hQ St () (r := 1) rfl (Or.inl rfl) [0] rfl (by decide) [] rfl (by decide) (by decide) dX4_runs_13
set_option maxHeartbeats 4000000 in
set_option maxRecDepth 100000 in
theorem x4_start (l : Launch) (G : va_G) (k : Nat → Nat) (sz : Nat) (h : Nat) (s0 : Int32) (s1 : Int32) (s2 : Int32) (s3 : Int32) (s4 : Int32) (s5 : Int32) : Met l yX4_start (Cond.code yX4_start cX4_start 1 none :: tb) ({ frames := 0, cells := 0, slots := 0, locals := 0 } : Room) (va_Pc [.ref h] (cP G k [(h, .inr (4, [.int s0, .int s1, .int s2, .int s3, .int s4, .int s5]))] [] sz)) (va_Qv (fun (_ : Unit) => True) (cB G (fun (_ : Unit) => [(h, .inr (4, [.int s0, .int s1, .int 1, .int s3, .int s4, .int s5]))]) (fun (_ : Unit) => []) (va_A [(h, .inr (4, [.int s0, .int s1, .int s2, .int s3, .int s4, .int s5]))] sz)) (va_A [(h, .inr (4, [.int s0, .int s1, .int s2, .int s3, .int s4, .int s5]))] sz)) 0 0 (va_A [(h, .inr (4, [.int s0, .int s1, .int s2, .int s3, .int s4, .int s5]))] sz) := by
  refine ofC_v (cc := cX4_start) (maxL := 1) (ret := none) (by decide) rfl (Nat.le_of_ble_eq_true rfl) ?_
  intro p e s m args below meth c A ls Q F hr hin hlk St hl hQ
  have hx := F.1
  have hb := F.2.1
  have hl : lv_has ls 1 [(0, .ref h)] := hl
  have St : cS G k [(h, .inr (4, [.int s0, .int s1, .int s2, .int s3, .int s4, .int s5]))] [] A s s.heap [] := St
  refine lv_aload_n hx hb dX4_start_0 rfl (lv_at hl 0 rfl) ?_
  refine lv_iconst (v := 1) hx hb dX4_start_1 (by decide) ?_
  refine cs_put F St 0 rfl rfl inX4 tyX4_ok nmX4 2 (by decide) kf_X4_9 rfl rfl rfl (Nat.le_of_ble_eq_true rfl) (w' := [(h, .inr (4, [.int s0, .int s1, .int 1, .int s3, .int s4, .int s5]))]) rfl dX4_start_2 (fun H locs St => ?_)
  exact cs_vret F hr hlk hQ St () (by trivial) [0] rfl (by decide) [] rfl (by decide) (by decide) dX4_start_5
set_option maxHeartbeats 4000000 in
set_option maxRecDepth 100000 in
theorem x4_nextPart (l : Launch) (G : va_G) (k : Nat → Nat) (sz : Nat) (h : Nat) (s0 : Int32) (s1 : Int32) (s2 : Int32) (s3 : Int32) (s4 : Int32) (s5 : Int32) : Met l yX4_nextPart (Cond.code yX4_nextPart cX4_nextPart 1 (some .int) :: tb) ({ frames := 0, cells := 0, slots := 0, locals := 0 } : Room) (va_Pc [.ref h] (cP G k [(h, .inr (4, [.int s0, .int s1, .int s2, .int s3, .int s4, .int s5]))] [] sz)) (va_Qi (fun (r : Int32) (_ : Unit) => True) (cB G (fun (_ : Unit) => [(h, .inr (4, [.int s0, .int s1, .int s2, .int s3, .int s4, .int s5]))]) (fun (_ : Unit) => []) (va_A [(h, .inr (4, [.int s0, .int s1, .int s2, .int s3, .int s4, .int s5]))] sz)) (va_A [(h, .inr (4, [.int s0, .int s1, .int s2, .int s3, .int s4, .int s5]))] sz)) 0 0 (va_A [(h, .inr (4, [.int s0, .int s1, .int s2, .int s3, .int s4, .int s5]))] sz) := by
  refine ofC_i (cc := cX4_nextPart) (maxL := 1) (ret := (some .int)) (by decide) rfl (Nat.le_of_ble_eq_true rfl) ?_
  intro p e s m args below meth c A ls Q F hr hin hlk St hl hQ
  have hx := F.1
  have hb := F.2.1
  have hl : lv_has ls 1 [(0, .ref h)] := hl
  have St : cS G k [(h, .inr (4, [.int s0, .int s1, .int s2, .int s3, .int s4, .int s5]))] [] A s s.heap [] := St
  refine lv_aload_n hx hb dX4_nextPart_0 rfl (lv_at hl 0 rfl) ?_
  refine cs_get F St 0 rfl rfl inX4 3 (by decide) kf_X4_25 rfl dX4_nextPart_1 ?_
  refine lv_aload_n hx hb dX4_nextPart_4 rfl (lv_at hl 0 rfl) ?_
  refine cs_get F St 0 rfl rfl inX4 1 (by decide) kf_X4_16 rfl dX4_nextPart_5 ?_
  refine lv_iconst (v := 1) hx hb dX4_nextPart_8 (by decide) ?_
  refine lv_isub hx hb dX4_nextPart_9 ?_
  refine lv_topi (fun y_1 ey_1 => ?_)
  first | have jy_1 : y_1.toInt = s1.toInt - 1 := (by have q9 := ci_sub (x := s1) (y := 1) rfl (show (1 : Int32).toInt = 1 by decide) ey_1; omega) | have jy_1 := ci_sub (x := s1) (y := 1) rfl (show (1 : Int32).toInt = 1 by decide) ey_1
  refine lv_icmp_ge (tgt := 21) hx hb dX4_nextPart_10 (by decide) (fun c10 => ?_) (fun c10 => ?_)
  ·
    have i10 := ci_le (x := y_1) (y := s3) rfl rfl c10
    refine lv_aload_n hx hb dX4_nextPart_21 rfl (lv_at hl 0 rfl) ?_
    refine cs_get F St 0 rfl rfl inX4 0 (by decide) kf_X4_13 rfl dX4_nextPart_22 ?_
    refine lv_aload_n hx hb dX4_nextPart_25 rfl (lv_at hl 0 rfl) ?_
    refine cs_get F St 0 rfl rfl inX4 4 (by decide) kf_X4_19 rfl dX4_nextPart_26 ?_
    refine lv_isub hx hb dX4_nextPart_29 ?_
    refine lv_topi (fun y_2 ey_2 => ?_)
    first | have jy_2 : y_2.toInt = s0.toInt - s4.toInt := (by have q9 := ci_sub (x := s0) (y := s4) rfl rfl ey_2; omega) | have jy_2 := ci_sub (x := s0) (y := s4) rfl rfl ey_2
    exact cs_iret F hr hlk hQ St () (r := y_2) (by trivial) [0] rfl (by decide) [] rfl (by decide) (by decide) dX4_nextPart_30
  ·
    have i10 := ci_nle (x := y_1) (y := s3) rfl rfl c10
    refine lv_aload_n hx hb dX4_nextPart_13 rfl (lv_at hl 0 rfl) ?_
    refine cs_get F St 0 rfl rfl inX4 1 (by decide) kf_X4_16 rfl dX4_nextPart_14 ?_
    refine lv_iconst (v := 1) hx hb dX4_nextPart_17 (by decide) ?_
    refine lv_icmp_ge (tgt := 31) hx hb dX4_nextPart_18 (by decide) (fun c18 => ?_) (fun c18 => ?_)
    ·
      have i18 := ci_le (x := 1) (y := s1) (show (1 : Int32).toInt = 1 by decide) rfl c18
      refine lv_aload_n hx hb dX4_nextPart_31 rfl (lv_at hl 0 rfl) ?_
      refine cs_get F St 0 rfl rfl inX4 0 (by decide) kf_X4_13 rfl dX4_nextPart_32 ?_
      refine lv_aload_n hx hb dX4_nextPart_35 rfl (lv_at hl 0 rfl) ?_
      refine cs_get F St 0 rfl rfl inX4 1 (by decide) kf_X4_16 rfl dX4_nextPart_36 ?_
      refine lv_idiv hx hb dX4_nextPart_39 (ne0_i (by omega)) ?_
      refine lv_topi (fun y_3 ey_3 => ?_)
      exact cs_iret F hr hlk hQ St () (r := y_3) (by trivial) [0] rfl (by decide) [] rfl (by decide) (by decide) dX4_nextPart_40
    ·
      have i18 := ci_nle (x := 1) (y := s1) (show (1 : Int32).toInt = 1 by decide) rfl c18
      refine lv_aload_n hx hb dX4_nextPart_21 rfl (lv_at hl 0 rfl) ?_
      refine cs_get F St 0 rfl rfl inX4 0 (by decide) kf_X4_13 rfl dX4_nextPart_22 ?_
      refine lv_aload_n hx hb dX4_nextPart_25 rfl (lv_at hl 0 rfl) ?_
      refine cs_get F St 0 rfl rfl inX4 4 (by decide) kf_X4_19 rfl dX4_nextPart_26 ?_
      refine lv_isub hx hb dX4_nextPart_29 ?_
      refine lv_topi (fun y_4 ey_4 => ?_)
      first | have jy_4 : y_4.toInt = s0.toInt - s4.toInt := (by have q9 := ci_sub (x := s0) (y := s4) rfl rfl ey_4; omega) | have jy_4 := ci_sub (x := s0) (y := s4) rfl rfl ey_4
      exact cs_iret F hr hlk hQ St () (r := y_4) (by trivial) [0] rfl (by decide) [] rfl (by decide) (by decide) dX4_nextPart_30
set_option maxHeartbeats 4000000 in
set_option maxRecDepth 100000 in
theorem x4_bookPart (l : Launch) (G : va_G) (k : Nat → Nat) (sz : Nat) (h : Nat) (s0 : Int32) (s1 : Int32) (s2 : Int32) (s3 : Int32) (s4 : Int32) (s5 : Int32) (x : Int32) : Met l yX4_bookPart (Cond.code yX4_bookPart cX4_bookPart 2 none :: tb) ({ frames := 0, cells := 0, slots := 0, locals := 0 } : Room) (va_Pc [.ref h, .int x] (cP G k [(h, .inr (4, [.int s0, .int s1, .int s2, .int s3, .int s4, .int s5]))] [] sz)) (va_Qv (fun (u : Int32 × Int32 × Int32) => match u with | (z2, z3, z4) => True) (cB G (fun u => match u with | (z2, z3, z4) => [(h, .inr (4, [.int s0, .int s1, .int z2, .int z3, .int z4, .int s5]))]) (fun u => match u with | (z2, z3, z4) => []) (va_A [(h, .inr (4, [.int s0, .int s1, .int s2, .int s3, .int s4, .int s5]))] sz)) (va_A [(h, .inr (4, [.int s0, .int s1, .int s2, .int s3, .int s4, .int s5]))] sz)) 0 0 (va_A [(h, .inr (4, [.int s0, .int s1, .int s2, .int s3, .int s4, .int s5]))] sz) := by
  refine ofC_v (cc := cX4_bookPart) (maxL := 2) (ret := none) (by decide) rfl (Nat.le_of_ble_eq_true rfl) ?_
  intro p e s m args below meth c A ls Q F hr hin hlk St hl hQ
  have hx := F.1
  have hb := F.2.1
  have hl : lv_has ls 2 [(0, .ref h), (1, .int x)] := hl
  have St : cS G k [(h, .inr (4, [.int s0, .int s1, .int s2, .int s3, .int s4, .int s5]))] [] A s s.heap [] := St
  refine lv_aload_n hx hb dX4_bookPart_0 rfl (lv_at hl 0 rfl) ?_
  refine lv_dup hx hb dX4_bookPart_1 rfl ?_
  refine cs_get F St 0 rfl rfl inX4 4 (by decide) kf_X4_19 rfl dX4_bookPart_2 ?_
  refine lv_iload_n hx hb dX4_bookPart_5 rfl (lv_at hl 1 rfl) ?_
  refine lv_iadd hx hb dX4_bookPart_6 ?_
  refine lv_topi (fun y_1 ey_1 => ?_)
  first | have jy_1 : y_1.toInt = s4.toInt + x.toInt := (by have q9 := ci_add (x := s4) (y := x) rfl rfl ey_1; omega) | have jy_1 := ci_add (x := s4) (y := x) rfl rfl ey_1
  refine cs_put F St 0 rfl rfl inX4 tyX4_ok nmX4 4 (by decide) kf_X4_19 rfl rfl rfl (Nat.le_of_ble_eq_true rfl) (w' := [(h, .inr (4, [.int s0, .int s1, .int s2, .int s3, .int y_1, .int s5]))]) rfl dX4_bookPart_7 (fun H locs St => ?_)
  refine lv_aload_n hx hb dX4_bookPart_10 rfl (lv_at hl 0 rfl) ?_
  refine lv_dup hx hb dX4_bookPart_11 rfl ?_
  refine cs_get F St 0 rfl rfl inX4 3 (by decide) kf_X4_25 rfl dX4_bookPart_12 ?_
  refine lv_iconst (v := 1) hx hb dX4_bookPart_15 (by decide) ?_
  refine lv_iadd hx hb dX4_bookPart_16 ?_
  refine lv_topi (fun y_2 ey_2 => ?_)
  first | have jy_2 : y_2.toInt = s3.toInt + 1 := (by have q9 := ci_add (x := s3) (y := 1) rfl (show (1 : Int32).toInt = 1 by decide) ey_2; omega) | have jy_2 := ci_add (x := s3) (y := 1) rfl (show (1 : Int32).toInt = 1 by decide) ey_2
  refine cs_put F St 0 rfl rfl inX4 tyX4_ok nmX4 3 (by decide) kf_X4_25 rfl rfl rfl (Nat.le_of_ble_eq_true rfl) (w' := [(h, .inr (4, [.int s0, .int s1, .int s2, .int y_2, .int y_1, .int s5]))]) rfl dX4_bookPart_17 (fun H locs St => ?_)
  refine lv_aload_n hx hb dX4_bookPart_20 rfl (lv_at hl 0 rfl) ?_
  refine cs_get F St 0 rfl rfl inX4 3 (by decide) kf_X4_25 rfl dX4_bookPart_21 ?_
  refine lv_aload_n hx hb dX4_bookPart_24 rfl (lv_at hl 0 rfl) ?_
  refine cs_get F St 0 rfl rfl inX4 1 (by decide) kf_X4_16 rfl dX4_bookPart_25 ?_
  refine lv_icmp_lt (tgt := 36) hx hb dX4_bookPart_28 (by decide) (fun c28 => ?_) (fun c28 => ?_)
  ·
    have i28 := ci_lt (x := y_2) (y := s1) rfl rfl c28
    exact cs_vret F hr hlk hQ St (s2, y_2, y_1) (by trivial) [0] rfl (by decide) [] rfl (by decide) (by decide) dX4_bookPart_36
  ·
    have i28 := ci_nlt (x := y_2) (y := s1) rfl rfl c28
    refine lv_aload_n hx hb dX4_bookPart_31 rfl (lv_at hl 0 rfl) ?_
    refine lv_iconst (v := 2) hx hb dX4_bookPart_32 (by decide) ?_
    refine cs_put F St 0 rfl rfl inX4 tyX4_ok nmX4 2 (by decide) kf_X4_9 rfl rfl rfl (Nat.le_of_ble_eq_true rfl) (w' := [(h, .inr (4, [.int s0, .int s1, .int 2, .int y_2, .int y_1, .int s5]))]) rfl dX4_bookPart_33 (fun H locs St => ?_)
    exact cs_vret F hr hlk hQ St (2, y_2, y_1) (by trivial) [0] rfl (by decide) [] rfl (by decide) (by decide) dX4_bookPart_36
set_option maxHeartbeats 4000000 in
set_option maxRecDepth 100000 in
theorem x4_bookPause (l : Launch) (G : va_G) (k : Nat → Nat) (sz : Nat) (h : Nat) (s0 : Int32) (s1 : Int32) (s2 : Int32) (s3 : Int32) (s4 : Int32) (s5 : Int32) : Met l yX4_bookPause (Cond.code yX4_bookPause cX4_bookPause 1 none :: tb) ({ frames := 0, cells := 0, slots := 0, locals := 0 } : Room) (va_Pc [.ref h] (cP G k [(h, .inr (4, [.int s0, .int s1, .int s2, .int s3, .int s4, .int s5]))] [] sz)) (va_Qv (fun (z5 : Int32) => True) (cB G (fun (z5 : Int32) => [(h, .inr (4, [.int s0, .int s1, .int s2, .int s3, .int s4, .int z5]))]) (fun (z5 : Int32) => []) (va_A [(h, .inr (4, [.int s0, .int s1, .int s2, .int s3, .int s4, .int s5]))] sz)) (va_A [(h, .inr (4, [.int s0, .int s1, .int s2, .int s3, .int s4, .int s5]))] sz)) 0 0 (va_A [(h, .inr (4, [.int s0, .int s1, .int s2, .int s3, .int s4, .int s5]))] sz) := by
  refine ofC_v (cc := cX4_bookPause) (maxL := 1) (ret := none) (by decide) rfl (Nat.le_of_ble_eq_true rfl) ?_
  intro p e s m args below meth c A ls Q F hr hin hlk St hl hQ
  have hx := F.1
  have hb := F.2.1
  have hl : lv_has ls 1 [(0, .ref h)] := hl
  have St : cS G k [(h, .inr (4, [.int s0, .int s1, .int s2, .int s3, .int s4, .int s5]))] [] A s s.heap [] := St
  refine lv_aload_n hx hb dX4_bookPause_0 rfl (lv_at hl 0 rfl) ?_
  refine lv_dup hx hb dX4_bookPause_1 rfl ?_
  refine cs_get F St 0 rfl rfl inX4 5 (by decide) kf_X4_22 rfl dX4_bookPause_2 ?_
  refine lv_iconst (v := 1) hx hb dX4_bookPause_5 (by decide) ?_
  refine lv_iadd hx hb dX4_bookPause_6 ?_
  refine lv_topi (fun y_1 ey_1 => ?_)
  first | have jy_1 : y_1.toInt = s5.toInt + 1 := (by have q9 := ci_add (x := s5) (y := 1) rfl (show (1 : Int32).toInt = 1 by decide) ey_1; omega) | have jy_1 := ci_add (x := s5) (y := 1) rfl (show (1 : Int32).toInt = 1 by decide) ey_1
  refine cs_put F St 0 rfl rfl inX4 tyX4_ok nmX4 5 (by decide) kf_X4_22 rfl rfl rfl (Nat.le_of_ble_eq_true rfl) (w' := [(h, .inr (4, [.int s0, .int s1, .int s2, .int s3, .int s4, .int y_1]))]) rfl dX4_bookPause_7 (fun H locs St => ?_)
  exact cs_vret F hr hlk hQ St y_1 (by trivial) [0] rfl (by decide) [] rfl (by decide) (by decide) dX4_bookPause_10
set_option maxHeartbeats 4000000 in
set_option maxRecDepth 100000 in
theorem x4_init (l : Launch) (G : va_G) (k : Nat → Nat) (sz : Nat) (h : Nat) (x : Int32) (y : Int32) : Met l yX4_init (Cond.code yX4_init cX4_init 3 none :: tb) ({ frames := 1, cells := 0, slots := 0, locals := 20 } : Room) (va_Pc [.ref h, .int x, .int y] (cP G k [(h, .inr (4, [.int 0, .int 0, .int 0, .int 0, .int 0, .int 0]))] [] sz)) (va_Qv (fun (_ : Unit) => True) (cB G (fun (_ : Unit) => [(h, .inr (4, [.int x, .int y, .int 0, .int 0, .int 0, .int 0]))]) (fun (_ : Unit) => []) (va_A [(h, .inr (4, [.int 0, .int 0, .int 0, .int 0, .int 0, .int 0]))] sz)) (va_A [(h, .inr (4, [.int 0, .int 0, .int 0, .int 0, .int 0, .int 0]))] sz)) 0 0 (va_A [(h, .inr (4, [.int 0, .int 0, .int 0, .int 0, .int 0, .int 0]))] sz) := by
  refine ofC_v (cc := cX4_init) (maxL := 3) (ret := none) (by decide) rfl (Nat.le_of_ble_eq_true rfl) ?_
  intro p e s m args below meth c A ls Q F hr hin hlk St hl hQ
  have hx := F.1
  have hb := F.2.1
  have hl : lv_has ls 3 [(0, .ref h), (1, .int x), (2, .int y)] := hl
  have St : cS G k [(h, .inr (4, [.int 0, .int 0, .int 0, .int 0, .int 0, .int 0]))] [] A s s.heap [] := St
  refine lv_aload_n hx hb dX4_init_0 rfl (lv_at hl 0 rfl) ?_
  refine W.objInit hx hb F.2.2.2.1 (F.2.2.2.2 _ km_X4_1) (F.2.2.2.2 _ kj_objectInit) (F.2.2.2.2 _ kd_objectInit) rfl (by rw [F.2.2.1]; exact hl.1) rfl dX4_init_1 (Nat.le_of_ble_eq_true rfl) (Nat.le_of_ble_eq_true rfl) ?_
  refine W.eq (g2 := F0 m 4 ls []) rfl ?_
  refine lv_aload_n hx hb dX4_init_4 rfl (lv_at hl 0 rfl) ?_
  refine lv_iconst (v := 0) hx hb dX4_init_5 (by decide) ?_
  refine cs_put F St 0 rfl rfl inX4 tyX4_ok nmX4 2 (by decide) kf_X4_9 rfl rfl rfl (Nat.le_of_ble_eq_true rfl) (w' := [(h, .inr (4, [.int 0, .int 0, .int 0, .int 0, .int 0, .int 0]))]) rfl dX4_init_6 (fun H locs St => ?_)
  refine lv_aload_n hx hb dX4_init_9 rfl (lv_at hl 0 rfl) ?_
  refine lv_iload_n hx hb dX4_init_10 rfl (lv_at hl 1 rfl) ?_
  refine cs_putF F hin St 0 rfl rfl inX4 tyX4_ok nmX4 0 (by decide) kf_X4_13 rfl rfl rfl rfl (Nat.le_of_ble_eq_true rfl) (w' := [(h, .inr (4, [.int x, .int 0, .int 0, .int 0, .int 0, .int 0]))]) rfl dX4_init_11 (fun H locs St => ?_)
  refine lv_aload_n hx hb dX4_init_14 rfl (lv_at hl 0 rfl) ?_
  refine lv_iload_n hx hb dX4_init_15 rfl (lv_at hl 2 rfl) ?_
  refine cs_putF F hin St 0 rfl rfl inX4 tyX4_ok nmX4 1 (by decide) kf_X4_16 rfl rfl rfl rfl (Nat.le_of_ble_eq_true rfl) (w' := [(h, .inr (4, [.int x, .int y, .int 0, .int 0, .int 0, .int 0]))]) rfl dX4_init_16 (fun H locs St => ?_)
  exact cs_vret F hr hlk hQ St () (by trivial) [0] rfl (by decide) [] rfl (by decide) (by decide) dX4_init_19

