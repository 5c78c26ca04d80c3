set_option maxHeartbeats 4000000 in
set_option maxRecDepth 100000 in
theorem x1_giverNumber (l : Launch) (G : va_G) (k : Nat → Nat) (sz : Nat) (h : Nat) (o0 : Nat) (o1 : Nat) (o2 : Nat) (N0 : Nat) (ci : ClassId) (pg : Int32) (pf : Int32) (pe : Int32) (pz : Int32) (pp : Int32) (pa : Int32) (pl : Int32) (pk : Int32) (pb : Int32) (w0 : Nat → Int32) (w1 : Nat → Int32) (w2 : Nat → Int32) (hN : (N0 : Int) = pz.toInt) (hN4 : N0 ≤ 84) : Met l yX1_giverNumber (Cond.code yX1_giverNumber cX1_giverNumber 1 (some .int) :: tb) ({ frames := 0, cells := 0, slots := 0, locals := 0 } : Room) (va_Pc [.ref h] (cP G k [(h, .inr (1, [.int pg, .int pf, .int pe, .int pz, .ref o0, .ref o1, .ref o2, .int pp, .int pa, .int pl, .int pk, .int pb])), (o0, .inl (ci, N0, .inl w0)), (o1, .inl (ci, N0, .inl w1)), (o2, .inl (ci, N0, .inl w2))] [(ci, .int)] sz)) (va_Qi (fun (r : Int32) (_ : Unit) => (r = pg)) (cB G (fun (_ : Unit) => [(h, .inr (1, [.int pg, .int pf, .int pe, .int pz, .ref o0, .ref o1, .ref o2, .int pp, .int pa, .int pl, .int pk, .int pb])), (o0, .inl (ci, N0, .inl w0)), (o1, .inl (ci, N0, .inl w1)), (o2, .inl (ci, N0, .inl w2))]) (fun (_ : Unit) => []) (va_A [(h, .inr (1, [.int pg, .int pf, .int pe, .int pz, .ref o0, .ref o1, .ref o2, .int pp, .int pa, .int pl, .int pk, .int pb])), (o0, .inl (ci, N0, .inl w0)), (o1, .inl (ci, N0, .inl w1)), (o2, .inl (ci, N0, .inl w2))] sz)) (va_A [(h, .inr (1, [.int pg, .int pf, .int pe, .int pz, .ref o0, .ref o1, .ref o2, .int pp, .int pa, .int pl, .int pk, .int pb])), (o0, .inl (ci, N0, .inl w0)), (o1, .inl (ci, N0, .inl w1)), (o2, .inl (ci, N0, .inl w2))] sz)) 0 0 (va_A [(h, .inr (1, [.int pg, .int pf, .int pe, .int pz, .ref o0, .ref o1, .ref o2, .int pp, .int pa, .int pl, .int pk, .int pb])), (o0, .inl (ci, N0, .inl w0)), (o1, .inl (ci, N0, .inl w1)), (o2, .inl (ci, N0, .inl w2))] sz) := by
  refine ofC_i (cc := cX1_giverNumber) (maxL := 1) (ret := (some .int)) (by decide) rfl (Nat.le_of_ble_eq_true rfl) ?_
  intro p e s m args below meth c A ls Q F hr hin hlk St hl hQ
  have hx := F.1
  have hb := F.2.1
  have hl : lv_has ls 1 [(0, .ref h)] := hl
  have St : cS G k [(h, .inr (1, [.int pg, .int pf, .int pe, .int pz, .ref o0, .ref o1, .ref o2, .int pp, .int pa, .int pl, .int pk, .int pb])), (o0, .inl (ci, N0, .inl w0)), (o1, .inl (ci, N0, .inl w1)), (o2, .inl (ci, N0, .inl w2))] [(ci, .int)] A s s.heap [] := St
  have y0 : (0 : Int32).toInt = 0 := by decide
  refine lv_aload_n hx hb dX1_giverNumber_0 rfl (lv_at hl 0 rfl) ?_
  refine cs_get F St 0 rfl rfl inX1 0 (by decide) kf_X1_15 rfl dX1_giverNumber_1 ?_
  exact cs_iret F hr hlk hQ St () (r := pg) rfl [0, 1, 2, 3] rfl (by decide) [] rfl (by decide) (by decide) dX1_giverNumber_4
set_option maxHeartbeats 4000000 in
set_option maxRecDepth 100000 in
theorem x1_penceToCome (l : Launch) (G : va_G) (k : Nat → Nat) (sz : Nat) (h : Nat) (o0 : Nat) (o1 : Nat) (o2 : Nat) (N0 : Nat) (ci : ClassId) (pg : Int32) (pf : Int32) (pe : Int32) (pz : Int32) (pp : Int32) (pa : Int32) (pl : Int32) (pk : Int32) (pb : Int32) (w0 : Nat → Int32) (w1 : Nat → Int32) (w2 : Nat → Int32) (hN : (N0 : Int) = pz.toInt) (hN4 : N0 ≤ 84) : Met l yX1_penceToCome (Cond.code yX1_penceToCome cX1_penceToCome 1 (some .int) :: tb) ({ frames := 0, cells := 0, slots := 0, locals := 0 } : Room) (va_Pc [.ref h] (cP G k [(h, .inr (1, [.int pg, .int pf, .int pe, .int pz, .ref o0, .ref o1, .ref o2, .int pp, .int pa, .int pl, .int pk, .int pb])), (o0, .inl (ci, N0, .inl w0)), (o1, .inl (ci, N0, .inl w1)), (o2, .inl (ci, N0, .inl w2))] [(ci, .int)] sz)) (va_Qi (fun (r : Int32) (_ : Unit) => (r = pp)) (cB G (fun (_ : Unit) => [(h, .inr (1, [.int pg, .int pf, .int pe, .int pz, .ref o0, .ref o1, .ref o2, .int pp, .int pa, .int pl, .int pk, .int pb])), (o0, .inl (ci, N0, .inl w0)), (o1, .inl (ci, N0, .inl w1)), (o2, .inl (ci, N0, .inl w2))]) (fun (_ : Unit) => []) (va_A [(h, .inr (1, [.int pg, .int pf, .int pe, .int pz, .ref o0, .ref o1, .ref o2, .int pp, .int pa, .int pl, .int pk, .int pb])), (o0, .inl (ci, N0, .inl w0)), (o1, .inl (ci, N0, .inl w1)), (o2, .inl (ci, N0, .inl w2))] sz)) (va_A [(h, .inr (1, [.int pg, .int pf, .int pe, .int pz, .ref o0, .ref o1, .ref o2, .int pp, .int pa, .int pl, .int pk, .int pb])), (o0, .inl (ci, N0, .inl w0)), (o1, .inl (ci, N0, .inl w1)), (o2, .inl (ci, N0, .inl w2))] sz)) 0 0 (va_A [(h, .inr (1, [.int pg, .int pf, .int pe, .int pz, .ref o0, .ref o1, .ref o2, .int pp, .int pa, .int pl, .int pk, .int pb])), (o0, .inl (ci, N0, .inl w0)), (o1, .inl (ci, N0, .inl w1)), (o2, .inl (ci, N0, .inl w2))] sz) := by
  refine ofC_i (cc := cX1_penceToCome) (maxL := 1) (ret := (some .int)) (by decide) rfl (Nat.le_of_ble_eq_true rfl) ?_
  intro p e s m args below meth c A ls Q F hr hin hlk St hl hQ
  have hx := F.1
  have hb := F.2.1
  have hl : lv_has ls 1 [(0, .ref h)] := hl
  have St : cS G k [(h, .inr (1, [.int pg, .int pf, .int pe, .int pz, .ref o0, .ref o1, .ref o2, .int pp, .int pa, .int pl, .int pk, .int pb])), (o0, .inl (ci, N0, .inl w0)), (o1, .inl (ci, N0, .inl w1)), (o2, .inl (ci, N0, .inl w2))] [(ci, .int)] A s s.heap [] := St
  have y0 : (0 : Int32).toInt = 0 := by decide
  refine lv_aload_n hx hb dX1_penceToCome_0 rfl (lv_at hl 0 rfl) ?_
  refine cs_get F St 0 rfl rfl inX1 7 (by decide) kf_X1_41 rfl dX1_penceToCome_1 ?_
  exact cs_iret F hr hlk hQ St () (r := pp) rfl [0, 1, 2, 3] rfl (by decide) [] rfl (by decide) (by decide) dX1_penceToCome_4
set_option maxHeartbeats 4000000 in
set_option maxRecDepth 100000 in
theorem x1_filledInAll (l : Launch) (G : va_G) (k : Nat → Nat) (sz : Nat) (h : Nat) (o0 : Nat) (o1 : Nat) (o2 : Nat) (N0 : Nat) (ci : ClassId) (pg : Int32) (pf : Int32) (pe : Int32) (pz : Int32) (pp : Int32) (pa : Int32) (pl : Int32) (pk : Int32) (pb : Int32) (w0 : Nat → Int32) (w1 : Nat → Int32) (w2 : Nat → Int32) (hN : (N0 : Int) = pz.toInt) (hN4 : N0 ≤ 84) : Met l yX1_filledInAll (Cond.code yX1_filledInAll cX1_filledInAll 1 (some .int) :: tb) ({ frames := 0, cells := 0, slots := 0, locals := 0 } : Room) (va_Pc [.ref h] (cP G k [(h, .inr (1, [.int pg, .int pf, .int pe, .int pz, .ref o0, .ref o1, .ref o2, .int pp, .int pa, .int pl, .int pk, .int pb])), (o0, .inl (ci, N0, .inl w0)), (o1, .inl (ci, N0, .inl w1)), (o2, .inl (ci, N0, .inl w2))] [(ci, .int)] sz)) (va_Qi (fun (r : Int32) (_ : Unit) => (r = pa)) (cB G (fun (_ : Unit) => [(h, .inr (1, [.int pg, .int pf, .int pe, .int pz, .ref o0, .ref o1, .ref o2, .int pp, .int pa, .int pl, .int pk, .int pb])), (o0, .inl (ci, N0, .inl w0)), (o1, .inl (ci, N0, .inl w1)), (o2, .inl (ci, N0, .inl w2))]) (fun (_ : Unit) => []) (va_A [(h, .inr (1, [.int pg, .int pf, .int pe, .int pz, .ref o0, .ref o1, .ref o2, .int pp, .int pa, .int pl, .int pk, .int pb])), (o0, .inl (ci, N0, .inl w0)), (o1, .inl (ci, N0, .inl w1)), (o2, .inl (ci, N0, .inl w2))] sz)) (va_A [(h, .inr (1, [.int pg, .int pf, .int pe, .int pz, .ref o0, .ref o1, .ref o2, .int pp, .int pa, .int pl, .int pk, .int pb])), (o0, .inl (ci, N0, .inl w0)), (o1, .inl (ci, N0, .inl w1)), (o2, .inl (ci, N0, .inl w2))] sz)) 0 0 (va_A [(h, .inr (1, [.int pg, .int pf, .int pe, .int pz, .ref o0, .ref o1, .ref o2, .int pp, .int pa, .int pl, .int pk, .int pb])), (o0, .inl (ci, N0, .inl w0)), (o1, .inl (ci, N0, .inl w1)), (o2, .inl (ci, N0, .inl w2))] sz) := by
  refine ofC_i (cc := cX1_filledInAll) (maxL := 1) (ret := (some .int)) (by decide) rfl (Nat.le_of_ble_eq_true rfl) ?_
  intro p e s m args below meth c A ls Q F hr hin hlk St hl hQ
  have hx := F.1
  have hb := F.2.1
  have hl : lv_has ls 1 [(0, .ref h)] := hl
  have St : cS G k [(h, .inr (1, [.int pg, .int pf, .int pe, .int pz, .ref o0, .ref o1, .ref o2, .int pp, .int pa, .int pl, .int pk, .int pb])), (o0, .inl (ci, N0, .inl w0)), (o1, .inl (ci, N0, .inl w1)), (o2, .inl (ci, N0, .inl w2))] [(ci, .int)] A s s.heap [] := St
  have y0 : (0 : Int32).toInt = 0 := by decide
  refine lv_aload_n hx hb dX1_filledInAll_0 rfl (lv_at hl 0 rfl) ?_
  refine cs_get F St 0 rfl rfl inX1 8 (by decide) kf_X1_44 rfl dX1_filledInAll_1 ?_
  exact cs_iret F hr hlk hQ St () (r := pa) rfl [0, 1, 2, 3] rfl (by decide) [] rfl (by decide) (by decide) dX1_filledInAll_4
set_option maxHeartbeats 4000000 in
set_option maxRecDepth 100000 in
theorem x1_firstLapse (l : Launch) (G : va_G) (k : Nat → Nat) (sz : Nat) (h : Nat) (o0 : Nat) (o1 : Nat) (o2 : Nat) (N0 : Nat) (ci : ClassId) (pg : Int32) (pf : Int32) (pe : Int32) (pz : Int32) (pp : Int32) (pa : Int32) (pl : Int32) (pk : Int32) (pb : Int32) (w0 : Nat → Int32) (w1 : Nat → Int32) (w2 : Nat → Int32) (hN : (N0 : Int) = pz.toInt) (hN4 : N0 ≤ 84) : Met l yX1_firstLapse (Cond.code yX1_firstLapse cX1_firstLapse 1 (some .int) :: tb) ({ frames := 0, cells := 0, slots := 0, locals := 0 } : Room) (va_Pc [.ref h] (cP G k [(h, .inr (1, [.int pg, .int pf, .int pe, .int pz, .ref o0, .ref o1, .ref o2, .int pp, .int pa, .int pl, .int pk, .int pb])), (o0, .inl (ci, N0, .inl w0)), (o1, .inl (ci, N0, .inl w1)), (o2, .inl (ci, N0, .inl w2))] [(ci, .int)] sz)) (va_Qi (fun (r : Int32) (_ : Unit) => (r = pb)) (cB G (fun (_ : Unit) => [(h, .inr (1, [.int pg, .int pf, .int pe, .int pz, .ref o0, .ref o1, .ref o2, .int pp, .int pa, .int pl, .int pk, .int pb])), (o0, .inl (ci, N0, .inl w0)), (o1, .inl (ci, N0, .inl w1)), (o2, .inl (ci, N0, .inl w2))]) (fun (_ : Unit) => []) (va_A [(h, .inr (1, [.int pg, .int pf, .int pe, .int pz, .ref o0, .ref o1, .ref o2, .int pp, .int pa, .int pl, .int pk, .int pb])), (o0, .inl (ci, N0, .inl w0)), (o1, .inl (ci, N0, .inl w1)), (o2, .inl (ci, N0, .inl w2))] sz)) (va_A [(h, .inr (1, [.int pg, .int pf, .int pe, .int pz, .ref o0, .ref o1, .ref o2, .int pp, .int pa, .int pl, .int pk, .int pb])), (o0, .inl (ci, N0, .inl w0)), (o1, .inl (ci, N0, .inl w1)), (o2, .inl (ci, N0, .inl w2))] sz)) 0 0 (va_A [(h, .inr (1, [.int pg, .int pf, .int pe, .int pz, .ref o0, .ref o1, .ref o2, .int pp, .int pa, .int pl, .int pk, .int pb])), (o0, .inl (ci, N0, .inl w0)), (o1, .inl (ci, N0, .inl w1)), (o2, .inl (ci, N0, .inl w2))] sz) := by
  refine ofC_i (cc := cX1_firstLapse) (maxL := 1) (ret := (some .int)) (by decide) rfl (Nat.le_of_ble_eq_true rfl) ?_
  intro p e s m args below meth c A ls Q F hr hin hlk St hl hQ
  have hx := F.1
  have hb := F.2.1
  have hl : lv_has ls 1 [(0, .ref h)] := hl
  have St : cS G k [(h, .inr (1, [.int pg, .int pf, .int pe, .int pz, .ref o0, .ref o1, .ref o2, .int pp, .int pa, .int pl, .int pk, .int pb])), (o0, .inl (ci, N0, .inl w0)), (o1, .inl (ci, N0, .inl w1)), (o2, .inl (ci, N0, .inl w2))] [(ci, .int)] A s s.heap [] := St
  have y0 : (0 : Int32).toInt = 0 := by decide
  refine lv_aload_n hx hb dX1_firstLapse_0 rfl (lv_at hl 0 rfl) ?_
  refine cs_get F St 0 rfl rfl inX1 11 (by decide) kf_X1_9 rfl dX1_firstLapse_1 ?_
  exact cs_iret F hr hlk hQ St () (r := pb) rfl [0, 1, 2, 3] rfl (by decide) [] rfl (by decide) (by decide) dX1_firstLapse_4
set_option maxHeartbeats 4000000 in
set_option maxRecDepth 100000 in
theorem x1_isLapsed (l : Launch) (G : va_G) (k : Nat → Nat) (sz : Nat) (h : Nat) (o0 : Nat) (o1 : Nat) (o2 : Nat) (N0 : Nat) (ci : ClassId) (pg : Int32) (pf : Int32) (pe : Int32) (pz : Int32) (pp : Int32) (pa : Int32) (pl : Int32) (pk : Int32) (pb : Int32) (w0 : Nat → Int32) (w1 : Nat → Int32) (w2 : Nat → Int32) (hN : (N0 : Int) = pz.toInt) (hN4 : N0 ≤ 84) (hl_ : pl = 0 ∨ pl = 1) : Met l yX1_isLapsed (Cond.code yX1_isLapsed cX1_isLapsed 1 (some .boolean) :: tb) ({ frames := 0, cells := 0, slots := 0, locals := 0 } : Room) (va_Pc [.ref h] (cP G k [(h, .inr (1, [.int pg, .int pf, .int pe, .int pz, .ref o0, .ref o1, .ref o2, .int pp, .int pa, .int pl, .int pk, .int pb])), (o0, .inl (ci, N0, .inl w0)), (o1, .inl (ci, N0, .inl w1)), (o2, .inl (ci, N0, .inl w2))] [(ci, .int)] sz)) (va_Qi (fun (r : Int32) (_ : Unit) => (r = pl)) (cB G (fun (_ : Unit) => [(h, .inr (1, [.int pg, .int pf, .int pe, .int pz, .ref o0, .ref o1, .ref o2, .int pp, .int pa, .int pl, .int pk, .int pb])), (o0, .inl (ci, N0, .inl w0)), (o1, .inl (ci, N0, .inl w1)), (o2, .inl (ci, N0, .inl w2))]) (fun (_ : Unit) => []) (va_A [(h, .inr (1, [.int pg, .int pf, .int pe, .int pz, .ref o0, .ref o1, .ref o2, .int pp, .int pa, .int pl, .int pk, .int pb])), (o0, .inl (ci, N0, .inl w0)), (o1, .inl (ci, N0, .inl w1)), (o2, .inl (ci, N0, .inl w2))] sz)) (va_A [(h, .inr (1, [.int pg, .int pf, .int pe, .int pz, .ref o0, .ref o1, .ref o2, .int pp, .int pa, .int pl, .int pk, .int pb])), (o0, .inl (ci, N0, .inl w0)), (o1, .inl (ci, N0, .inl w1)), (o2, .inl (ci, N0, .inl w2))] sz)) 0 0 (va_A [(h, .inr (1, [.int pg, .int pf, .int pe, .int pz, .ref o0, .ref o1, .ref o2, .int pp, .int pa, .int pl, .int pk, .int pb])), (o0, .inl (ci, N0, .inl w0)), (o1, .inl (ci, N0, .inl w1)), (o2, .inl (ci, N0, .inl w2))] sz) := by
  refine ofC_i (cc := cX1_isLapsed) (maxL := 1) (ret := (some .boolean)) (by decide) rfl (Nat.le_of_ble_eq_true rfl) ?_
  intro p e s m args below meth c A ls Q F hr hin hlk St hl hQ
  have hx := F.1
  have hb := F.2.1
  have hl : lv_has ls 1 [(0, .ref h)] := hl
  have St : cS G k [(h, .inr (1, [.int pg, .int pf, .int pe, .int pz, .ref o0, .ref o1, .ref o2, .int pp, .int pa, .int pl, .int pk, .int pb])), (o0, .inl (ci, N0, .inl w0)), (o1, .inl (ci, N0, .inl w1)), (o2, .inl (ci, N0, .inl w2))] [(ci, .int)] A s s.heap [] := St
  have y0 : (0 : Int32).toInt = 0 := by decide
  refine lv_aload_n hx hb dX1_isLapsed_0 rfl (lv_at hl 0 rfl) ?_
  refine cs_get F St 0 rfl rfl inX1 9 (by decide) kf_X1_47 rfl dX1_isLapsed_1 ?_
  exact cs_zret F hr hlk hQ St () (r := pl) (by rcases hl_ with q | q <;> (rw [q]; rfl)) rfl [0, 1, 2, 3] rfl (by decide) [] rfl (by decide) (by decide) dX1_isLapsed_4
set_option maxHeartbeats 4000000 in
set_option maxRecDepth 100000 in
theorem x1_monthOf (l : Launch) (G : va_G) (k : Nat → Nat) (sz : Nat) (h : Nat) (o0 : Nat) (o1 : Nat) (o2 : Nat) (N0 : Nat) (ci : ClassId) (pg : Int32) (pf : Int32) (pe : Int32) (pz : Int32) (pp : Int32) (pa : Int32) (pl : Int32) (pk : Int32) (pb : Int32) (w0 : Nat → Int32) (w1 : Nat → Int32) (w2 : Nat → Int32) (x : Int32) (hN : (N0 : Int) = pz.toInt) (hN4 : N0 ≤ 84) : Met l yX1_monthOf (Cond.code yX1_monthOf cX1_monthOf 2 (some .int) :: tb) ({ frames := 0, cells := 0, slots := 0, locals := 0 } : Room) (va_Pc [.ref h, .int x] (cP G k [(h, .inr (1, [.int pg, .int pf, .int pe, .int pz, .ref o0, .ref o1, .ref o2, .int pp, .int pa, .int pl, .int pk, .int pb])), (o0, .inl (ci, N0, .inl w0)), (o1, .inl (ci, N0, .inl w1)), (o2, .inl (ci, N0, .inl w2))] [(ci, .int)] sz)) (va_Qi (fun (r : Int32) (_ : Unit) => True) (cB G (fun (_ : Unit) => [(h, .inr (1, [.int pg, .int pf, .int pe, .int pz, .ref o0, .ref o1, .ref o2, .int pp, .int pa, .int pl, .int pk, .int pb])), (o0, .inl (ci, N0, .inl w0)), (o1, .inl (ci, N0, .inl w1)), (o2, .inl (ci, N0, .inl w2))]) (fun (_ : Unit) => []) (va_A [(h, .inr (1, [.int pg, .int pf, .int pe, .int pz, .ref o0, .ref o1, .ref o2, .int pp, .int pa, .int pl, .int pk, .int pb])), (o0, .inl (ci, N0, .inl w0)), (o1, .inl (ci, N0, .inl w1)), (o2, .inl (ci, N0, .inl w2))] sz)) (va_A [(h, .inr (1, [.int pg, .int pf, .int pe, .int pz, .ref o0, .ref o1, .ref o2, .int pp, .int pa, .int pl, .int pk, .int pb])), (o0, .inl (ci, N0, .inl w0)), (o1, .inl (ci, N0, .inl w1)), (o2, .inl (ci, N0, .inl w2))] sz)) 0 0 (va_A [(h, .inr (1, [.int pg, .int pf, .int pe, .int pz, .ref o0, .ref o1, .ref o2, .int pp, .int pa, .int pl, .int pk, .int pb])), (o0, .inl (ci, N0, .inl w0)), (o1, .inl (ci, N0, .inl w1)), (o2, .inl (ci, N0, .inl w2))] sz) := by
  refine ofC_i (cc := cX1_monthOf) (maxL := 2) (ret := (some .int)) (by decide) rfl (Nat.le_of_ble_eq_true rfl) ?_
  intro p e s m args below meth c A ls Q F hr hin hlk St hl hQ
  have hx := F.1
  have hb := F.2.1
  have hl : lv_has ls 2 [(0, .ref h), (1, .int x)] := hl
  have St : cS G k [(h, .inr (1, [.int pg, .int pf, .int pe, .int pz, .ref o0, .ref o1, .ref o2, .int pp, .int pa, .int pl, .int pk, .int pb])), (o0, .inl (ci, N0, .inl w0)), (o1, .inl (ci, N0, .inl w1)), (o2, .inl (ci, N0, .inl w2))] [(ci, .int)] A s s.heap [] := St
  have y0 : (0 : Int32).toInt = 0 := by decide
  refine lv_aload_n hx hb dX1_monthOf_0 rfl (lv_at hl 0 rfl) ?_
  refine cs_get F St 0 rfl rfl inX1 1 (by decide) kf_X1_18 rfl dX1_monthOf_1 ?_
  refine lv_iload_n hx hb dX1_monthOf_4 rfl (lv_at hl 1 rfl) ?_
  refine lv_aload_n hx hb dX1_monthOf_5 rfl (lv_at hl 0 rfl) ?_
  refine cs_get F St 0 rfl rfl inX1 2 (by decide) kf_X1_21 rfl dX1_monthOf_6 ?_
  refine lv_imul hx hb dX1_monthOf_9 ?_
  refine lv_topi (fun y_1 ey_1 => ?_)
  refine lv_iadd hx hb dX1_monthOf_10 ?_
  refine lv_topi (fun y_2 ey_2 => ?_)
  first | have jy_2 : y_2.toInt = pf.toInt + y_1.toInt := (by have q9 := ci_add (x := pf) (y := y_1) rfl rfl ey_2; omega) | have jy_2 := ci_add (x := pf) (y := y_1) rfl rfl ey_2
  exact cs_iret F hr hlk hQ St () (r := y_2) (by trivial) [0, 1, 2, 3] rfl (by decide) [] rfl (by decide) (by decide) dX1_monthOf_11
set_option maxHeartbeats 4000000 in
set_option maxRecDepth 100000 in
theorem x1_nextDue (l : Launch) (G : va_G) (k : Nat → Nat) (sz : Nat) (h : Nat) (o0 : Nat) (o1 : Nat) (o2 : Nat) (N0 : Nat) (ci : ClassId) (pg : Int32) (pf : Int32) (pe : Int32) (pz : Int32) (pp : Int32) (pa : Int32) (pl : Int32) (pk : Int32) (pb : Int32) (w0 : Nat → Int32) (w1 : Nat → Int32) (w2 : Nat → Int32) (x : Int32) (hN : (N0 : Int) = pz.toInt) (hN4 : N0 ≤ 84) : Met l yX1_nextDue (Cond.code yX1_nextDue cX1_nextDue 3 (some .int) :: tb) ({ frames := 1, cells := 0, slots := 0, locals := 21 } : Room) (va_Pc [.ref h, .int x] (cP G k [(h, .inr (1, [.int pg, .int pf, .int pe, .int pz, .ref o0, .ref o1, .ref o2, .int pp, .int pa, .int pl, .int pk, .int pb])), (o0, .inl (ci, N0, .inl w0)), (o1, .inl (ci, N0, .inl w1)), (o2, .inl (ci, N0, .inl w2))] [(ci, .int)] sz)) (va_Qi (fun (r : Int32) (_ : Unit) => True) (cB G (fun (_ : Unit) => [(h, .inr (1, [.int pg, .int pf, .int pe, .int pz, .ref o0, .ref o1, .ref o2, .int pp, .int pa, .int pl, .int pk, .int pb])), (o0, .inl (ci, N0, .inl w0)), (o1, .inl (ci, N0, .inl w1)), (o2, .inl (ci, N0, .inl w2))]) (fun (_ : Unit) => []) (va_A [(h, .inr (1, [.int pg, .int pf, .int pe, .int pz, .ref o0, .ref o1, .ref o2, .int pp, .int pa, .int pl, .int pk, .int pb])), (o0, .inl (ci, N0, .inl w0)), (o1, .inl (ci, N0, .inl w1)), (o2, .inl (ci, N0, .inl w2))] sz)) (va_A [(h, .inr (1, [.int pg, .int pf, .int pe, .int pz, .ref o0, .ref o1, .ref o2, .int pp, .int pa, .int pl, .int pk, .int pb])), (o0, .inl (ci, N0, .inl w0)), (o1, .inl (ci, N0, .inl w1)), (o2, .inl (ci, N0, .inl w2))] sz)) 0 0 (va_A [(h, .inr (1, [.int pg, .int pf, .int pe, .int pz, .ref o0, .ref o1, .ref o2, .int pp, .int pa, .int pl, .int pk, .int pb])), (o0, .inl (ci, N0, .inl w0)), (o1, .inl (ci, N0, .inl w1)), (o2, .inl (ci, N0, .inl w2))] sz) := by
  refine ofC_i (cc := cX1_nextDue) (maxL := 3) (ret := (some .int)) (by decide) rfl (Nat.le_of_ble_eq_true rfl) ?_
  intro p e s m args below meth c A ls Q F hr hin hlk St hl hQ
  have hx := F.1
  have hb := F.2.1
  have hl : lv_has ls 3 [(0, .ref h), (1, .int x)] := hl
  have St : cS G k [(h, .inr (1, [.int pg, .int pf, .int pe, .int pz, .ref o0, .ref o1, .ref o2, .int pp, .int pa, .int pl, .int pk, .int pb])), (o0, .inl (ci, N0, .inl w0)), (o1, .inl (ci, N0, .inl w1)), (o2, .inl (ci, N0, .inl w2))] [(ci, .int)] A s s.heap [] := St
  have y0 : (0 : Int32).toInt = 0 := by decide
  refine lv_aload_n hx hb dX1_nextDue_0 rfl (lv_at hl 0 rfl) ?_
  refine cs_get F St 0 rfl rfl inX1 9 (by decide) kf_X1_47 rfl dX1_nextDue_1 ?_
  refine lv_if_eq (tgt := 9) hx hb dX1_nextDue_4 (by decide) (fun c4 => ?_) (fun c4 => ?_)
  ·
    have i4 := ci_eq (x := pl) (y := 0) rfl (show (0 : Int32).toInt = 0 by decide) c4
    refine lv_iconst (v := 0) hx hb dX1_nextDue_9 (by decide) ?_
    refine lv_istore_n (lv' := [(2, .int 0), (0, .ref h), (1, .int x)]) hx hb dX1_nextDue_10 rfl hl (by decide) rfl (fun ls hl => ?_)
    have lp11 : ∀ (n : Nat) (kk : Int32) (H : Heap) (locs : List Loc) (ls : Array Slot), (0 ≤ kk.toInt) → ((84 - kk.toInt).toNat) < n → cS G k [(h, .inr (1, [.int pg, .int pf, .int pe, .int pz, .ref o0, .ref o1, .ref o2, .int pp, .int pa, .int pl, .int pk, .int pb])), (o0, .inl (ci, N0, .inl w0)), (o1, .inl (ci, N0, .inl w1)), (o2, .inl (ci, N0, .inl w2))] [(ci, .int)] A s H locs → lv_has ls 3 [(2, .int kk), (0, .ref h), (1, .int x)] → W p l e ({ frames := 1, cells := 0, slots := 0, locals := 21 } : Room) s m args below meth c H locs 0 0 Q (F0 m 11 ls []) := by
      intro n
      induction n with
      | zero => intro kk H locs ls hI hn; exact absurd hn (Nat.not_lt_zero _)
      | succ n ih =>
        intro kk H locs ls hI hn St hl
        refine lv_iload_n hx hb dX1_nextDue_11 rfl (lv_at hl 0 rfl) ?_
        refine lv_aload_n hx hb dX1_nextDue_12 rfl (lv_at hl 1 rfl) ?_
        refine cs_get F St 0 rfl rfl inX1 3 (by decide) kf_X1_28 rfl dX1_nextDue_13 ?_
        refine lv_icmp_ge (tgt := 49) hx hb dX1_nextDue_16 (by decide) (fun c16 => ?_) (fun c16 => ?_)
        ·
          have i16 := ci_le (x := pz) (y := kk) rfl rfl c16
          refine lv_iconst (v := (-1)) hx hb dX1_nextDue_49 (by decide) ?_
          exact cs_iret F hr hlk hQ St () (r := (-1)) (by trivial) [0, 1, 2, 3] rfl (by decide) [] rfl (by decide) (by decide) dX1_nextDue_50
        ·
          have i16 := ci_nle (x := pz) (y := kk) rfl rfl c16
          refine lv_aload_n hx hb dX1_nextDue_19 rfl (lv_at hl 1 rfl) ?_
          refine lv_iload_n hx hb dX1_nextDue_20 rfl (lv_at hl 0 rfl) ?_
          refine cs_i St [0, 1, 2, 3] [] (wc := [(h, .inr (1, [.int pg, .int pf, .int pe, .int pz, .ref o0, .ref o1, .ref o2, .int pp, .int pa, .int pl, .int pk, .int pb])), (o0, .inl (ci, N0, .inl w0)), (o1, .inl (ci, N0, .inl w1)), (o2, .inl (ci, N0, .inl w2))]) (wr := []) rfl rfl (by decide) (by decide) (va_runV (As := [.int kk]) (rest := []) F (x1_monthOf l G k _ h o0 o1 o2 N0 ci pg pf pe pz pp pa pl pk pb w0 w1 w2 kk (by first | assumption | omega) (by first | assumption | omega)) (cwVt F mf_X1_monthOf km_X1_54 rfl rfl ⟨Nat.le_of_ble_eq_true rfl, Nat.le_of_ble_eq_true rfl⟩) (cs_preV St [0, 1, 2, 3] rfl (by decide) [0] rfl (ci := 1) (q0 := 0) rfl rfl) rfl rfl hl.1 rfl (lv_room (Nat.le_of_ble_eq_true rfl)) dX1_nextDue_21 ⟨Nat.le_of_ble_eq_true rfl, Nat.le_of_ble_eq_true rfl⟩) (fun r_1 u_2 H locs hw St => ?_)
          try dsimp only at hw
          have St : cS G k [(h, .inr (1, [.int pg, .int pf, .int pe, .int pz, .ref o0, .ref o1, .ref o2, .int pp, .int pa, .int pl, .int pk, .int pb])), (o0, .inl (ci, N0, .inl w0)), (o1, .inl (ci, N0, .inl w1)), (o2, .inl (ci, N0, .inl w2))] [(ci, .int)] A s H locs := St
          refine lv_iload_n hx hb dX1_nextDue_24 rfl (lv_at hl 2 rfl) ?_
          refine lv_icmp_le (tgt := 43) hx hb dX1_nextDue_25 (by decide) (fun c25 => ?_) (fun c25 => ?_)
          ·
            have i25 := ci_le (x := r_1) (y := x) rfl rfl c25
            obtain ⟨y_3, ey_3⟩ : ∃ zz : Int32, zz = kk + 1 := ⟨_, rfl⟩
            first | have jy_3 : y_3.toInt = kk.toInt + 1 := (by have q9 := ci_add (x := kk) rfl (show (1 : Int32).toInt = 1 by decide) ey_3; omega) | have jy_3 := ci_add (x := kk) rfl (show (1 : Int32).toInt = 1 by decide) ey_3
            refine lv_iinc (v := y_3) (lv' := [(2, .int y_3), (0, .ref h), (1, .int x)]) hx hb dX1_nextDue_43 hl (k := 0) rfl (by rw [ey_3]; rfl) (by decide) rfl (fun ls hl => ?_)
            refine lv_goto (tgt := 11) hx hb dX1_nextDue_46 (by decide) ?_
            exact ih y_3 _ _ _ (by omega) (by omega) St (lv_sub hl [0, 1, 2] rfl)
          ·
            have i25 := ci_nle (x := r_1) (y := x) rfl rfl c25
            refine lv_aload_n hx hb dX1_nextDue_28 rfl (lv_at hl 1 rfl) ?_
            refine cs_get F St 0 rfl rfl inX1 6 (by decide) kf_X1_38 rfl dX1_nextDue_29 ?_
            refine lv_iload_n hx hb dX1_nextDue_32 rfl (lv_at hl 0 rfl) ?_
            refine cs_ild F St 3 0 rfl rfl (vp_in_iff.mpr ⟨by omega, by omega⟩) dX1_nextDue_33 ?_
            refine lv_topi (fun y_4 ey_4 => ?_)
            refine lv_if_ne (tgt := 43) hx hb dX1_nextDue_34 (by decide) (fun c34 => ?_) (fun c34 => ?_)
            ·
              have i34 := ci_ne (x := y_4) (y := 0) rfl (show (0 : Int32).toInt = 0 by decide) c34
              obtain ⟨y_5, ey_5⟩ : ∃ zz : Int32, zz = kk + 1 := ⟨_, rfl⟩
              first | have jy_5 : y_5.toInt = kk.toInt + 1 := (by have q9 := ci_add (x := kk) rfl (show (1 : Int32).toInt = 1 by decide) ey_5; omega) | have jy_5 := ci_add (x := kk) rfl (show (1 : Int32).toInt = 1 by decide) ey_5
              refine lv_iinc (v := y_5) (lv' := [(2, .int y_5), (0, .ref h), (1, .int x)]) hx hb dX1_nextDue_43 hl (k := 0) rfl (by rw [ey_5]; rfl) (by decide) rfl (fun ls hl => ?_)
              refine lv_goto (tgt := 11) hx hb dX1_nextDue_46 (by decide) ?_
              exact ih y_5 _ _ _ (by omega) (by omega) St (lv_sub hl [0, 1, 2] rfl)
            ·
              have i34 := ci_eq (x := y_4) (y := 0) rfl (show (0 : Int32).toInt = 0 by decide) c34
              refine lv_aload_n hx hb dX1_nextDue_37 rfl (lv_at hl 1 rfl) ?_
              refine lv_iload_n hx hb dX1_nextDue_38 rfl (lv_at hl 0 rfl) ?_
              refine cs_i St [0, 1, 2, 3] [] (wc := [(h, .inr (1, [.int pg, .int pf, .int pe, .int pz, .ref o0, .ref o1, .ref o2, .int pp, .int pa, .int pl, .int pk, .int pb])), (o0, .inl (ci, N0, .inl w0)), (o1, .inl (ci, N0, .inl w1)), (o2, .inl (ci, N0, .inl w2))]) (wr := []) rfl rfl (by decide) (by decide) (va_runV (As := [.int kk]) (rest := []) F (x1_monthOf l G k _ h o0 o1 o2 N0 ci pg pf pe pz pp pa pl pk pb w0 w1 w2 kk (by first | assumption | omega) (by first | assumption | omega)) (cwVt F mf_X1_monthOf km_X1_54 rfl rfl ⟨Nat.le_of_ble_eq_true rfl, Nat.le_of_ble_eq_true rfl⟩) (cs_preV St [0, 1, 2, 3] rfl (by decide) [0] rfl (ci := 1) (q0 := 0) rfl rfl) rfl rfl hl.1 rfl (lv_room (Nat.le_of_ble_eq_true rfl)) dX1_nextDue_39 ⟨Nat.le_of_ble_eq_true rfl, Nat.le_of_ble_eq_true rfl⟩) (fun r_6 u_7 H locs hw St => ?_)
              try dsimp only at hw
              have St : cS G k [(h, .inr (1, [.int pg, .int pf, .int pe, .int pz, .ref o0, .ref o1, .ref o2, .int pp, .int pa, .int pl, .int pk, .int pb])), (o0, .inl (ci, N0, .inl w0)), (o1, .inl (ci, N0, .inl w1)), (o2, .inl (ci, N0, .inl w2))] [(ci, .int)] A s H locs := St
              exact cs_iret F hr hlk hQ St () (r := r_6) (by trivial) [0, 1, 2, 3] rfl (by decide) [] rfl (by decide) (by decide) dX1_nextDue_42
    exact lp11 85 0 _ _ _ (by omega) (by omega) St (lv_sub hl [0, 1, 2] rfl)
  ·
    have i4 := ci_ne (x := pl) (y := 0) rfl (show (0 : Int32).toInt = 0 by decide) c4
    refine lv_iconst (v := (-1)) hx hb dX1_nextDue_7 (by decide) ?_
    exact cs_iret F hr hlk hQ St () (r := (-1)) (by trivial) [0, 1, 2, 3] rfl (by decide) [] rfl (by decide) (by decide) dX1_nextDue_8
set_option maxHeartbeats 4000000 in
set_option maxRecDepth 100000 in
theorem x4_cost (l : Launch) (G : va_G) (k : Nat → Nat) (sz : Nat) (h : Nat) (s0 : Int32) (s1 : Int32) (s2 : Int32) (s3 : Int32) (s4 : Int32) (s5 : Int32) : Met l yX4_cost (Cond.code yX4_cost cX4_cost 1 (some .int) :: tb) ({ frames := 0, cells := 0, slots := 0, locals := 0 } : Room) (va_Pc [.ref h] (cP G k [(h, .inr (4, [.int s0, .int s1, .int s2, .int s3, .int s4, .int s5]))] [] sz)) (va_Qi (fun (r : Int32) (_ : Unit) => (r = s0)) (cB G (fun (_ : Unit) => [(h, .inr (4, [.int s0, .int s1, .int s2, .int s3, .int s4, .int s5]))]) (fun (_ : Unit) => []) (va_A [(h, .inr (4, [.int s0, .int s1, .int s2, .int s3, .int s4, .int s5]))] sz)) (va_A [(h, .inr (4, [.int s0, .int s1, .int s2, .int s3, .int s4, .int s5]))] sz)) 0 0 (va_A [(h, .inr (4, [.int s0, .int s1, .int s2, .int s3, .int s4, .int s5]))] sz) := by
  refine ofC_i (cc := cX4_cost) (maxL := 1) (ret := (some .int)) (by decide) rfl (Nat.le_of_ble_eq_true rfl) ?_
  intro p e s m args below meth c A ls Q F hr hin hlk St hl hQ
  have hx := F.1
  have hb := F.2.1
  have hl : lv_has ls 1 [(0, .ref h)] := hl
  have St : cS G k [(h, .inr (4, [.int s0, .int s1, .int s2, .int s3, .int s4, .int s5]))] [] A s s.heap [] := St
  refine lv_aload_n hx hb dX4_cost_0 rfl (lv_at hl 0 rfl) ?_
  refine cs_get F St 0 rfl rfl inX4 0 (by decide) kf_X4_13 rfl dX4_cost_1 ?_
  exact cs_iret F hr hlk hQ St () (r := s0) rfl [0] rfl (by decide) [] rfl (by decide) (by decide) dX4_cost_4
set_option maxHeartbeats 4000000 in
set_option maxRecDepth 100000 in
theorem x4_parts (l : Launch) (G : va_G) (k : Nat → Nat) (sz : Nat) (h : Nat) (s0 : Int32) (s1 : Int32) (s2 : Int32) (s3 : Int32) (s4 : Int32) (s5 : Int32) : Met l yX4_parts (Cond.code yX4_parts cX4_parts 1 (some .int) :: tb) ({ frames := 0, cells := 0, slots := 0, locals := 0 } : Room) (va_Pc [.ref h] (cP G k [(h, .inr (4, [.int s0, .int s1, .int s2, .int s3, .int s4, .int s5]))] [] sz)) (va_Qi (fun (r : Int32) (_ : Unit) => (r = s1)) (cB G (fun (_ : Unit) => [(h, .inr (4, [.int s0, .int s1, .int s2, .int s3, .int s4, .int s5]))]) (fun (_ : Unit) => []) (va_A [(h, .inr (4, [.int s0, .int s1, .int s2, .int s3, .int s4, .int s5]))] sz)) (va_A [(h, .inr (4, [.int s0, .int s1, .int s2, .int s3, .int s4, .int s5]))] sz)) 0 0 (va_A [(h, .inr (4, [.int s0, .int s1, .int s2, .int s3, .int s4, .int s5]))] sz) := by
  refine ofC_i (cc := cX4_parts) (maxL := 1) (ret := (some .int)) (by decide) rfl (Nat.le_of_ble_eq_true rfl) ?_
  intro p e s m args below meth c A ls Q F hr hin hlk St hl hQ
  have hx := F.1
  have hb := F.2.1
  have hl : lv_has ls 1 [(0, .ref h)] := hl
  have St : cS G k [(h, .inr (4, [.int s0, .int s1, .int s2, .int s3, .int s4, .int s5]))] [] A s s.heap [] := St
  refine lv_aload_n hx hb dX4_parts_0 rfl (lv_at hl 0 rfl) ?_
  refine cs_get F St 0 rfl rfl inX4 1 (by decide) kf_X4_16 rfl dX4_parts_1 ?_
  exact cs_iret F hr hlk hQ St () (r := s1) rfl [0] rfl (by decide) [] rfl (by decide) (by decide) dX4_parts_4
set_option maxHeartbeats 4000000 in
set_option maxRecDepth 100000 in
theorem x4_progress (l : Launch) (G : va_G) (k : Nat → Nat) (sz : Nat) (h : Nat) (s0 : Int32) (s1 : Int32) (s2 : Int32) (s3 : Int32) (s4 : Int32) (s5 : Int32) : Met l yX4_progress (Cond.code yX4_progress cX4_progress 1 (some .int) :: tb) ({ frames := 0, cells := 0, slots := 0, locals := 0 } : Room) (va_Pc [.ref h] (cP G k [(h, .inr (4, [.int s0, .int s1, .int s2, .int s3, .int s4, .int s5]))] [] sz)) (va_Qi (fun (r : Int32) (_ : Unit) => (r = s2)) (cB G (fun (_ : Unit) => [(h, .inr (4, [.int s0, .int s1, .int s2, .int s3, .int s4, .int s5]))]) (fun (_ : Unit) => []) (va_A [(h, .inr (4, [.int s0, .int s1, .int s2, .int s3, .int s4, .int s5]))] sz)) (va_A [(h, .inr (4, [.int s0, .int s1, .int s2, .int s3, .int s4, .int s5]))] sz)) 0 0 (va_A [(h, .inr (4, [.int s0, .int s1, .int s2, .int s3, .int s4, .int s5]))] sz) := by
  refine ofC_i (cc := cX4_progress) (maxL := 1) (ret := (some .int)) (by decide) rfl (Nat.le_of_ble_eq_true rfl) ?_
  intro p e s m args below meth c A ls Q F hr hin hlk St hl hQ
  have hx := F.1
  have hb := F.2.1
  have hl : lv_has ls 1 [(0, .ref h)] := hl
  have St : cS G k [(h, .inr (4, [.int s0, .int s1, .int s2, .int s3, .int s4, .int s5]))] [] A s s.heap [] := St
  refine lv_aload_n hx hb dX4_progress_0 rfl (lv_at hl 0 rfl) ?_
  refine cs_get F St 0 rfl rfl inX4 2 (by decide) kf_X4_9 rfl dX4_progress_1 ?_
  exact cs_iret F hr hlk hQ St () (r := s2) rfl [0] rfl (by decide) [] rfl (by decide) (by decide) dX4_progress_4
set_option maxHeartbeats 4000000 in
set_option maxRecDepth 100000 in
theorem x4_paid (l : Launch) (G : va_G) (k : Nat → Nat) (sz : Nat) (h : Nat) (s0 : Int32) (s1 : Int32) (s2 : Int32) (s3 : Int32) (s4 : Int32) (s5 : Int32) : Met l yX4_paid (Cond.code yX4_paid cX4_paid 1 (some .int) :: tb) ({ frames := 0, cells := 0, slots := 0, locals := 0 } : Room) (va_Pc [.ref h] (cP G k [(h, .inr (4, [.int s0, .int s1, .int s2, .int s3, .int s4, .int s5]))] [] sz)) (va_Qi (fun (r : Int32) (_ : Unit) => (r = s4)) (cB G (fun (_ : Unit) => [(h, .inr (4, [.int s0, .int s1, .int s2, .int s3, .int s4, .int s5]))]) (fun (_ : Unit) => []) (va_A [(h, .inr (4, [.int s0, .int s1, .int s2, .int s3, .int s4, .int s5]))] sz)) (va_A [(h, .inr (4, [.int s0, .int s1, .int s2, .int s3, .int s4, .int s5]))] sz)) 0 0 (va_A [(h, .inr (4, [.int s0, .int s1, .int s2, .int s3, .int s4, .int s5]))] sz) := by
  refine ofC_i (cc := cX4_paid) (maxL := 1) (ret := (some .int)) (by decide) rfl (Nat.le_of_ble_eq_true rfl) ?_
  intro p e s m args below meth c A ls Q F hr hin hlk St hl hQ
  have hx := F.1
  have hb := F.2.1
  have hl : lv_has ls 1 [(0, .ref h)] := hl
  have St : cS G k [(h, .inr (4, [.int s0, .int s1, .int s2, .int s3, .int s4, .int s5]))] [] A s s.heap [] := St
  refine lv_aload_n hx hb dX4_paid_0 rfl (lv_at hl 0 rfl) ?_
  refine cs_get F St 0 rfl rfl inX4 4 (by decide) kf_X4_19 rfl dX4_paid_1 ?_
  exact cs_iret F hr hlk hQ St () (r := s4) rfl [0] rfl (by decide) [] rfl (by decide) (by decide) dX4_paid_4
set_option maxHeartbeats 4000000 in
set_option maxRecDepth 100000 in
theorem x4_paused (l : Launch) (G : va_G) (k : Nat → Nat) (sz : Nat) (h : Nat) (s0 : Int32) (s1 : Int32) (s2 : Int32) (s3 : Int32) (s4 : Int32) (s5 : Int32) : Met l yX4_paused (Cond.code yX4_paused cX4_paused 1 (some .int) :: tb) ({ frames := 0, cells := 0, slots := 0, locals := 0 } : Room) (va_Pc [.ref h] (cP G k [(h, .inr (4, [.int s0, .int s1, .int s2, .int s3, .int s4, .int s5]))] [] sz)) (va_Qi (fun (r : Int32) (_ : Unit) => (r = s5)) (cB G (fun (_ : Unit) => [(h, .inr (4, [.int s0, .int s1, .int s2, .int s3, .int s4, .int s5]))]) (fun (_ : Unit) => []) (va_A [(h, .inr (4, [.int s0, .int s1, .int s2, .int s3, .int s4, .int s5]))] sz)) (va_A [(h, .inr (4, [.int s0, .int s1, .int s2, .int s3, .int s4, .int s5]))] sz)) 0 0 (va_A [(h, .inr (4, [.int s0, .int s1, .int s2, .int s3, .int s4, .int s5]))] sz) := by
  refine ofC_i (cc := cX4_paused) (maxL := 1) (ret := (some .int)) (by decide) rfl (Nat.le_of_ble_eq_true rfl) ?_
  intro p e s m args below meth c A ls Q F hr hin hlk St hl hQ
  have hx := F.1
  have hb := F.2.1
  have hl : lv_has ls 1 [(0, .ref h)] := hl
  have St : cS G k [(h, .inr (4, [.int s0, .int s1, .int s2, .int s3, .int s4, .int s5]))] [] A s s.heap [] := St
  refine lv_aload_n hx hb dX4_paused_0 rfl (lv_at hl 0 rfl) ?_
  refine cs_get F St 0 rfl rfl inX4 5 (by decide) kf_X4_22 rfl dX4_paused_1 ?_
  exact cs_iret F hr hlk hQ St () (r := s5) rfl [0] rfl (by decide) [] rfl (by decide) (by decide) dX4_paused_4
set_option maxHeartbeats 4000000 in
set_option maxRecDepth 100000 in
theorem x4_start (l : Launch) (G : va_G) (k : Nat → Nat) (sz : Nat) (h : Nat) (s0 : Int32) (s1 : Int32) (s2 : Int32) (s3 : Int32) (s4 : Int32) (s5 : Int32) : Met l yX4_start (Cond.code yX4_start cX4_start 1 none :: tb) ({ frames := 0, cells := 0, slots := 0, locals := 0 } : Room) (va_Pc [.ref h] (cP G k [(h, .inr (4, [.int s0, .int s1, .int s2, .int s3, .int s4, .int s5]))] [] sz)) (va_Qv (fun (_ : Unit) => True) (cB G (fun (_ : Unit) => [(h, .inr (4, [.int s0, .int s1, .int 1, .int s3, .int s4, .int s5]))]) (fun (_ : Unit) => []) (va_A [(h, .inr (4, [.int s0, .int s1, .int s2, .int s3, .int s4, .int s5]))] sz)) (va_A [(h, .inr (4, [.int s0, .int s1, .int s2, .int s3, .int s4, .int s5]))] sz)) 0 0 (va_A [(h, .inr (4, [.int s0, .int s1, .int s2, .int s3, .int s4, .int s5]))] sz) := by
  refine ofC_v (cc := cX4_start) (maxL := 1) (ret := none) (by decide) rfl (Nat.le_of_ble_eq_true rfl) ?_
  intro p e s m args below meth c A ls Q F hr hin hlk St hl hQ
  have hx := F.1
  have hb := F.2.1
  have hl : lv_has ls 1 [(0, .ref h)] := hl
  have St : cS G k [(h, .inr (4, [.int s0, .int s1, .int s2, .int s3, .int s4, .int s5]))] [] A s s.heap [] := St
  refine lv_aload_n hx hb dX4_start_0 rfl (lv_at hl 0 rfl) ?_
  refine lv_iconst (v := 1) hx hb dX4_start_1 (by decide) ?_
  refine cs_put F St 0 rfl rfl inX4 tyX4_ok nmX4 2 (by decide) kf_X4_9 rfl rfl rfl (Nat.le_of_ble_eq_true rfl) (w' := [(h, .inr (4, [.int s0, .int s1, .int 1, .int s3, .int s4, .int s5]))]) rfl dX4_start_2 (fun H locs St => ?_)
  exact cs_vret F hr hlk hQ St () (by trivial) [0] rfl (by decide) [] rfl (by decide) (by decide) dX4_start_5
set_option maxHeartbeats 4000000 in
set_option maxRecDepth 100000 in
theorem x4_init (l : Launch) (G : va_G) (k : Nat → Nat) (sz : Nat) (h : Nat) (x : Int32) (y : Int32) : Met l yX4_init (Cond.code yX4_init cX4_init 3 none :: tb) ({ frames := 1, cells := 0, slots := 0, locals := 20 } : Room) (va_Pc [.ref h, .int x, .int y] (cP G k [(h, .inr (4, [.int 0, .int 0, .int 0, .int 0, .int 0, .int 0]))] [] sz)) (va_Qv (fun (_ : Unit) => True) (cB G (fun (_ : Unit) => [(h, .inr (4, [.int x, .int y, .int 0, .int 0, .int 0, .int 0]))]) (fun (_ : Unit) => []) (va_A [(h, .inr (4, [.int 0, .int 0, .int 0, .int 0, .int 0, .int 0]))] sz)) (va_A [(h, .inr (4, [.int 0, .int 0, .int 0, .int 0, .int 0, .int 0]))] sz)) 0 0 (va_A [(h, .inr (4, [.int 0, .int 0, .int 0, .int 0, .int 0, .int 0]))] sz) := by
  refine ofC_v (cc := cX4_init) (maxL := 3) (ret := none) (by decide) rfl (Nat.le_of_ble_eq_true rfl) ?_
  intro p e s m args below meth c A ls Q F hr hin hlk St hl hQ
  have hx := F.1
  have hb := F.2.1
  have hl : lv_has ls 3 [(0, .ref h), (1, .int x), (2, .int y)] := hl
  have St : cS G k [(h, .inr (4, [.int 0, .int 0, .int 0, .int 0, .int 0, .int 0]))] [] A s s.heap [] := St
  refine lv_aload_n hx hb dX4_init_0 rfl (lv_at hl 0 rfl) ?_
  refine W.objInit hx hb F.2.2.2.1 (F.2.2.2.2 _ km_X4_1) (F.2.2.2.2 _ kj_objectInit) (F.2.2.2.2 _ kd_objectInit) rfl (by rw [F.2.2.1]; exact hl.1) rfl dX4_init_1 (Nat.le_of_ble_eq_true rfl) (Nat.le_of_ble_eq_true rfl) ?_
  refine W.eq (g2 := F0 m 4 ls []) rfl ?_
  refine lv_aload_n hx hb dX4_init_4 rfl (lv_at hl 0 rfl) ?_
  refine lv_iconst (v := 0) hx hb dX4_init_5 (by decide) ?_
  refine cs_put F St 0 rfl rfl inX4 tyX4_ok nmX4 2 (by decide) kf_X4_9 rfl rfl rfl (Nat.le_of_ble_eq_true rfl) (w' := [(h, .inr (4, [.int 0, .int 0, .int 0, .int 0, .int 0, .int 0]))]) rfl dX4_init_6 (fun H locs St => ?_)
  refine lv_aload_n hx hb dX4_init_9 rfl (lv_at hl 0 rfl) ?_
  refine lv_iload_n hx hb dX4_init_10 rfl (lv_at hl 1 rfl) ?_
  refine cs_putF F hin St 0 rfl rfl inX4 tyX4_ok nmX4 0 (by decide) kf_X4_13 rfl rfl rfl rfl (Nat.le_of_ble_eq_true rfl) (w' := [(h, .inr (4, [.int x, .int 0, .int 0, .int 0, .int 0, .int 0]))]) rfl dX4_init_11 (fun H locs St => ?_)
  refine lv_aload_n hx hb dX4_init_14 rfl (lv_at hl 0 rfl) ?_
  refine lv_iload_n hx hb dX4_init_15 rfl (lv_at hl 2 rfl) ?_
  refine cs_putF F hin St 0 rfl rfl inX4 tyX4_ok nmX4 1 (by decide) kf_X4_16 rfl rfl rfl rfl (Nat.le_of_ble_eq_true rfl) (w' := [(h, .inr (4, [.int x, .int y, .int 0, .int 0, .int 0, .int 0]))]) rfl dX4_init_16 (fun H locs St => ?_)
  exact cs_vret F hr hlk hQ St () (by trivial) [0] rfl (by decide) [] rfl (by decide) (by decide) dX4_init_19

