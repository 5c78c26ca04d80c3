-- ===== end of PART A; then your names; then what follows =====
/-! THE CLAIM OUT OF ONE WALK OF THE LAW'S BODY. Your part is whole_start (and what it stands on); all else here is the same for every law, but numbers. -/
def R_law : String := "TowerAppealLaw"
def lw_P (b : Addr) (xs : List Int32) (args : Array Value) (s : State) : Prop := args = #[.ref b] ∧ s.IntsAt b xs ∧ xs.length ≤ 6 ∧ (Jvm.Cond.and given_1 narrow_1).before args s = true
def lw_Q (_ : Array Value) (s : State) (o : Outcome) (t : State) : Prop := o = .returned (some (.int 1)) ∧ Framed s o t [] 600002 7302232
def lw_Z (below : List Frame) (a : Array Value) (s : State) : State → Prop := fun t => ∃ o, t.status = .running ∧ Ended t below o ∧ lw_Q a s o t
/-- the law's own end, with 1 on the stack, nothing written that was there before, its room as the claim has it -/
theorem lw_ret {p : Program} {l : Launch} {e : Env} {s : State} {m : MethodId} {below : List Frame} {meth : Method} {c : Code} {b : Nat} (hx : p.tables.exec = Jvm.exec) (hb : c.code = code) (hr : meth.sig.returnType = ret) (hlocks : meth.locks = false) {pc : Nat} {H : Heap} {ls : Array Slot} (hdg : decode code pc = .ok (.ireturn, 1)) : W p l e room_1 s m #[Value.ref b] below meth c H [] 600002 7302232 (lw_Z below #[Value.ref b] s) (F0 m pc ls [.int 1]) := by
  intro T hT X
  obtain ⟨fs, hret, hrun, hended, hW, hframe⟩ := X.leave (v := some (.int 1)) (hlocks := hlocks) (fun h => by rw [hr] at h; cases h)
  have hmeth' : T.vm.method? m = some meth := X.method'
  refine ⟨T.setFrames fs, ?_, .returned (some (.int 1)), hrun, hended, rfl, ⟨_, rfl⟩, hW, hframe⟩
  jvm_step X.here [X.here.top, hx, hb, hdg, hmeth', hr, ret, narrow_b1]
  (try refine ⟨rfl, ?_⟩); (try refine ⟨rfl, ?_⟩)
  first | (intro acts; rw [hret _ acts rfl rfl rfl]) | rw [hret _ _ rfl rfl rfl]
  exact Steps.refl _
/-- what holds at the law's entry: the machine, the code, the tables' words (any of lw_tbl by 'hts w (by decide +kernel)'), the script of L ints xs at the cell b, what the Statement gives of the start (any of its parts by flat_of_before) -/
def lw_At (p : Program) (s : State) (m : MethodId) (meth : Method) (c : Code) (b L : Nat) (xs : Nat → Int32) : Prop :=
  p.tables.exec = Jvm.exec ∧ c.code = code ∧ meth.sig.returnType = ret ∧ c.maxLocals = 4 ∧ s.vm.findClass R_law = some m.cls ∧ (∀ w ∈ lw_tbl, w.before #[Value.ref b] s = true) ∧ va_X b L xs s s.heap ∧ b < s.heap.size ∧ meth.locks = false ∧ (Jvm.Cond.and given_1 narrow_1).before #[Value.ref b] s = true

set_option maxRecDepth 100000 in
set_option maxHeartbeats 4000000 in
theorem law_gx {p : Program} {s : State} {m : MethodId} {meth : Method} {c : Code} {b L : Nat} {xs : Nat → Int32} (C0 : lw_At p s m meth c b L xs) : ∃ k : Nat → Nat, gx k (fun q : Nat => s.heap.size ≤ q) s s.heap := by
  obtain ⟨hx, hb, hr, hml, hown, hts, hX, hbl, hlocks, hgv⟩ := C0
  have hs := flat_of_before _ hgv
  have hA : ∀ a : Nat, a < s.heap.size → ¬ (fun q : Nat => s.heap.size ≤ q) a := fun a h => Nat.not_le.mpr h
  obtain ⟨t0, e0, hT0⟩ := va_Tof (args := #[Value.ref b]) (tm := (.static "TowerAppeal$Trust" "UNTOLD" "[I")) (ty := .int) (N := 9) (f := fun j => .int (untold j)) (by decide) (hs (Cond.arrayOf (.static "TowerAppeal$Trust" "UNTOLD" "[I") .int) (by decide +kernel)) (va_eqt (hs (Cond.eq (.length (.static "TowerAppeal$Trust" "UNTOLD" "[I")) (.int 9)) (by decide +kernel))) (fun j hj => match j, hj with | 0, _ => va_eqt (hs (Cond.eq (.elem (.static "TowerAppeal$Trust" "UNTOLD" "[I") (.int 0)) (.int 0)) (by decide +kernel)) | 1, _ => va_eqt (hs (Cond.eq (.elem (.static "TowerAppeal$Trust" "UNTOLD" "[I") (.int 1)) (.int 0)) (by decide +kernel)) | 2, _ => va_eqt (hs (Cond.eq (.elem (.static "TowerAppeal$Trust" "UNTOLD" "[I") (.int 2)) (.int 0)) (by decide +kernel)) | 3, _ => va_eqt (hs (Cond.eq (.elem (.static "TowerAppeal$Trust" "UNTOLD" "[I") (.int 3)) (.int 0)) (by decide +kernel)) | 4, _ => va_eqt (hs (Cond.eq (.elem (.static "TowerAppeal$Trust" "UNTOLD" "[I") (.int 4)) (.int 3)) (by decide +kernel)) | 5, _ => va_eqt (hs (Cond.eq (.elem (.static "TowerAppeal$Trust" "UNTOLD" "[I") (.int 5)) (.int 0)) (by decide +kernel)) | 6, _ => va_eqt (hs (Cond.eq (.elem (.static "TowerAppeal$Trust" "UNTOLD" "[I") (.int 6)) (.int 0)) (by decide +kernel)) | 7, _ => va_eqt (hs (Cond.eq (.elem (.static "TowerAppeal$Trust" "UNTOLD" "[I") (.int 7)) (.int 1000)) (by decide +kernel)) | 8, _ => va_eqt (hs (Cond.eq (.elem (.static "TowerAppeal$Trust" "UNTOLD" "[I") (.int 8)) (.int 0)) (by decide +kernel)) | j + 9, h => absurd h (by omega)) hA
  obtain ⟨t1, e1, hT1⟩ := va_Tof (args := #[Value.ref b]) (tm := (.static "TowerAppealModel" "PLAIN" "[I")) (ty := .int) (N := 9) (f := fun j => .int (untold j)) (by decide) (hs (Cond.arrayOf (.static "TowerAppealModel" "PLAIN" "[I") .int) (by decide +kernel)) (va_eqt (hs (Cond.eq (.length (.static "TowerAppealModel" "PLAIN" "[I")) (.int 9)) (by decide +kernel))) (fun j hj => match j, hj with | 0, _ => va_eqt (hs (Cond.eq (.elem (.static "TowerAppealModel" "PLAIN" "[I") (.int 0)) (.int 0)) (by decide +kernel)) | 1, _ => va_eqt (hs (Cond.eq (.elem (.static "TowerAppealModel" "PLAIN" "[I") (.int 1)) (.int 0)) (by decide +kernel)) | 2, _ => va_eqt (hs (Cond.eq (.elem (.static "TowerAppealModel" "PLAIN" "[I") (.int 2)) (.int 0)) (by decide +kernel)) | 3, _ => va_eqt (hs (Cond.eq (.elem (.static "TowerAppealModel" "PLAIN" "[I") (.int 3)) (.int 0)) (by decide +kernel)) | 4, _ => va_eqt (hs (Cond.eq (.elem (.static "TowerAppealModel" "PLAIN" "[I") (.int 4)) (.int 3)) (by decide +kernel)) | 5, _ => va_eqt (hs (Cond.eq (.elem (.static "TowerAppealModel" "PLAIN" "[I") (.int 5)) (.int 0)) (by decide +kernel)) | 6, _ => va_eqt (hs (Cond.eq (.elem (.static "TowerAppealModel" "PLAIN" "[I") (.int 6)) (.int 0)) (by decide +kernel)) | 7, _ => va_eqt (hs (Cond.eq (.elem (.static "TowerAppealModel" "PLAIN" "[I") (.int 7)) (.int 1000)) (by decide +kernel)) | 8, _ => va_eqt (hs (Cond.eq (.elem (.static "TowerAppealModel" "PLAIN" "[I") (.int 8)) (.int 0)) (by decide +kernel)) | j + 9, h => absurd h (by omega)) hA
  refine ⟨fun z => if z = 0 then t0 else t1, ⟨va_Nw.of rfl (hts (Cond.methodLinkNest RX10 9 yX6_init "TowerAppeal") (List.mem_of_getElem? (i := 68) (by decide +kernel))), va_Nw.of rfl (hts (Cond.methodLinkNest RX10 18 yX9_init "TowerAppeal") (List.mem_of_getElem? (i := 82) (by decide +kernel))), va_Nw.of rfl (hts (Cond.methodLinkNest RX10 39 yX2_init "TowerAppeal") (List.mem_of_getElem? (i := 157) (by decide +kernel))), va_Nw.of rfl (hts (Cond.methodLinkNest RX10 46 yX5_init "TowerAppeal") (List.mem_of_getElem? (i := 172) (by decide +kernel))), va_Nw.of rfl (hts (Cond.methodLinkNest RX10 53 yX3_init "TowerAppeal") (List.mem_of_getElem? (i := 197) (by decide +kernel))), va_Nw.of rfl (hts (Cond.methodLinkNest RX10 60 yX7_init "TowerAppeal") (List.mem_of_getElem? (i := 222) (by decide +kernel))), va_Nw.of rfl (hts (Cond.methodLinkNest RX0 31 yX10_isGiver "TowerAppeal") (List.mem_of_getElem? (i := 469) (by decide +kernel))), va_AO.of (hts (Cond.arrayOver (.object RX1)) (List.mem_of_getElem? (i := 162) (by decide +kernel))), va_AO.of (hts (Cond.arrayOver (.object RX4)) (List.mem_of_getElem? (i := 227) (by decide +kernel)))⟩, (va_Zref (hts (Cond.laysStatic "TowerAppeal$Trust" "UNTOLD" "[I") (List.mem_of_getElem? (i := 93) (by decide +kernel))) (hts (Cond.initialized "TowerAppeal$Trust") (List.mem_of_getElem? (i := 40) (by decide +kernel))) e0 hA), hT0, (va_Zref (hts (Cond.laysStatic "TowerAppealModel" "PLAIN" "[I") (List.mem_of_getElem? (i := 1044) (by decide +kernel))) (hts (Cond.initialized "TowerAppealModel") (List.mem_of_getElem? (i := 47) (by decide +kernel))) e1 hA), hT1, (va_Zqof (hts (Cond.laysStatic "java/lang/Throwable" "UNASSIGNED_STACK" "[Ljava/lang/StackTraceElement;") (List.mem_of_getElem? (i := 1009) (by decide +kernel))) (hts (Cond.initialized "java/lang/Throwable") (List.mem_of_getElem? (i := 48) (by decide +kernel))) (hs (Cond.isRef (.static "java/lang/Throwable" "UNASSIGNED_STACK" "[Ljava/lang/StackTraceElement;")) (by decide +kernel)) hA), (va_Zqof (hts (Cond.laysStatic "java/lang/Throwable" "SUPPRESSED_SENTINEL" "Ljava/util/List;") (List.mem_of_getElem? (i := 1011) (by decide +kernel))) (hts (Cond.initialized "java/lang/Throwable") (List.mem_of_getElem? (i := 48) (by decide +kernel))) (hs (Cond.isRef (.static "java/lang/Throwable" "SUPPRESSED_SENTINEL" "Ljava/util/List;")) (by decide +kernel)) hA)⟩
set_option maxRecDepth 100000 in
theorem law_K {s : State} {args : Array Value} (htb : ∀ w ∈ tb, w.before args s = true) : ∃ G : va_G, va_K G vwCl [] s := by
  obtain ⟨c0, i0, h0⟩ := u_known (C := RX0) (T := TX0) (N := 6) (n := 6) htb inX0 (htb _ kn_X0)
  obtain ⟨c1, i1, h1⟩ := u_known (C := RX1) (T := TX1) (N := 12) (n := 12) htb inX1 (htb _ kn_X1)
  obtain ⟨c2, i2, h2⟩ := u_known (C := RX2) (T := TX2) (N := 2) (n := 2) htb inX2 (htb _ kn_X2)
  obtain ⟨c3, i3, h3⟩ := u_known (C := RX3) (T := TX3) (N := 6) (n := 6) htb inX3 (htb _ kn_X3)
  obtain ⟨c4, i4, h4⟩ := u_known (C := RX4) (T := TX4) (N := 6) (n := 6) htb inX4 (htb _ kn_X4)
  obtain ⟨c5, i5, h5⟩ := u_known (C := RX5) (T := TX5) (N := 6) (n := 6) htb inX5 (htb _ kn_X5)
  obtain ⟨c6, i6, h6⟩ := u_known (C := RX6) (T := TX6) (N := 2) (n := 2) htb inX6 (htb _ kn_X6)
  obtain ⟨c7, i7, h7⟩ := u_known (C := RX7) (T := TX7) (N := 3) (n := 3) htb inX7 (htb _ kn_X7)
  obtain ⟨c8, i8, h8⟩ := u_known (C := RX8) (T := TX8) (N := 1) (n := 1) htb inX8 (htb _ kn_X8)
  obtain ⟨c9, i9, h9⟩ := u_known (C := RX9) (T := TX9) (N := 8) (n := 8) htb inX9 (htb _ kn_X9)
  obtain ⟨c10, i10, h10⟩ := u_known (C := RX10) (T := TX10) (N := 10) (n := 10) htb inX10 (htb _ kn_X10)
  obtain ⟨c11, i11, h11⟩ := u_known (C := RX11) (T := TX11) (N := 6) (n := 6) htb inX11 (htb _ kn_X11)
  obtain ⟨c12, i12, h12⟩ := u_known (C := RX12) (T := TX12) (N := 53) (n := 53) htb inX12 (htb _ kn_X12)
  refine ⟨(fun z => if z = 0 then c0 else if z = 1 then c1 else if z = 2 then c2 else if z = 3 then c3 else if z = 4 then c4 else if z = 5 then c5 else if z = 6 then c6 else if z = 7 then c7 else if z = 8 then c8 else if z = 9 then c9 else if z = 10 then c10 else if z = 11 then c11 else c12, fun z => if z = 0 then i0 else if z = 1 then i1 else if z = 2 then i2 else if z = 3 then i3 else if z = 4 then i4 else if z = 5 then i5 else if z = 6 then i6 else if z = 7 then i7 else if z = 8 then i8 else if z = 9 then i9 else if z = 10 then i10 else if z = 11 then i11 else i12), ?_, fun z q h => by simp at h⟩
  intro z q hq
  match z, hq with
  | 0, hq => cases hq; exact h0
  | 1, hq => cases hq; exact h1
  | 2, hq => cases hq; exact h2
  | 3, hq => cases hq; exact h3
  | 4, hq => cases hq; exact h4
  | 5, hq => cases hq; exact h5
  | 6, hq => cases hq; exact h6
  | 7, hq => cases hq; exact h7
  | 8, hq => cases hq; exact h8
  | 9, hq => cases hq; exact h9
  | 10, hq => cases hq; exact h10
  | 11, hq => cases hq; exact h11
  | 12, hq => cases hq; exact h12
  | z + 13, hq => simp [vwCl] at hq
