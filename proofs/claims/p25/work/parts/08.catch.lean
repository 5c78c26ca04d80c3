-- ===== an exception caught by a handler whose class may not be resolved yet =====
theorem st_cold {e : Env} {s : State} {a : Addr} {f : JFrame} {r : List Frame} {meth : Method} {code : Code} {x : ExceptionTableEntry} {c0 : ClassId} {cell : Cell} {vm' : Vm} (hm : s.vm.method? f.method = some meth) (hc : meth.code = some code) (ht : code.exceptionTable.toList = [x]) (hx : covers x f.pc = true) (h0 : x.catchType ≠ 0) (hg : (Jvm.resolveClass f.method.cls x.catchType).Gives e.toSetting s.vm (.ok c0) vm') (hsz : vm'.classes.size ≤ s.vm.classes.size) (hcell : s.heap[a]? = some cell) (hobj : ∀ k, cell.vm ≠ .statics k) (hk : ∃ k, vm'.classes[cell.cls]? = some k) (hc0 : ∃ k, vm'.classes[c0]? = some k) (hfit : vm'.assignable cell.cls c0 = true) :
    (stepThrowing e s a (.java f :: r)).Is ((s.setVm vm').setFrames (.java { f with pc := x.handlerPc, stack := [.ref a] } :: r)) [] := by
  have g9 : (VmOp.resolveClass f.method.cls x.catchType).answer e s.vm = .ok c0 ∧ (VmOp.resolveClass f.method.cls x.catchType).tables e s.vm = vm' := hg.op rfl
  obtain ⟨g1, g2⟩ := g9
  have g3 := VmOp.lands_eq g2 hsz
  simp only [covers] at hx
  simp only [stepThrowing, searchFrame, vmDo]
  generalize hr : Sem.go _ e false [] s = res
  obtain ⟨as, rfl, ha⟩ := Sem.eq_ok_of hr (a := Handler.found x.handlerPc) (s' := s.setVm vm') (acts' := [])
    (by
      simp only [wp_bind', Jvm.W.findHandler_eq hm hc, ht]
      simp [findHandler.go, hx, h0, g1, g2, VmOp.dirties, VmOp.acts]
      refine ⟨s.setVm vm', g3, cell, hcell, hobj, hk, hc0, ?_⟩
      have hf2 : (s.setVm vm').vm.assignable cell.cls c0 = true := hfit
      rw [if_pos hf2])
  exact ⟨rfl, ha⟩
theorem steps_cold {tb : Tables} {e : Env} {s : State} {a : Addr} {g : JFrame} {c : Code} {below : List Frame} {meth : Method} {x : ExceptionTableEntry} {c0 : ClassId} {cell : Cell} {vm' : Vm} {target : State} (h : At s g.method c below) (hm : s.vm.method? g.method = some meth) (hc : meth.code = some c) (ht : c.exceptionTable.toList = [x]) (hx : covers x g.pc = true) (h0 : x.catchType ≠ 0) (hg : (Jvm.resolveClass g.method.cls x.catchType).Gives e.toSetting s.vm (.ok c0) vm') (hsz : vm'.classes.size ≤ s.vm.classes.size) (hcell : s.heap[a]? = some cell) (hobj : ∀ k, cell.vm ≠ .statics k) (hk : ∃ k, vm'.classes[cell.cls]? = some k) (hc0 : ∃ k, vm'.classes[c0]? = some k) (hfit : vm'.assignable cell.cls c0 = true)
    (hrest : Steps tb e below ((s.setVm vm').setTop { g with pc := x.handlerPc, stack := [.ref a] }) target) : Steps tb e below ((s.setTop g).pushFrame (.throwing a)) target := by
  obtain ⟨hgo, hw⟩ := h.throwing a
  refine Steps.head hgo hw ?_
  have hvm : ((s.setTop g).pushFrame (.throwing a)).vm = s.vm := throwing_vm s g a
  have hhp : ((s.setTop g).pushFrame (.throwing a)).heap = s.heap := throwing_heap s g a
  rw [stepThread_throwing (frames_entered h.top _), (st_cold (s := (s.setTop g).pushFrame (.throwing a)) (f := g) (x := x) (by rw [hvm]; exact hm) hc ht hx h0 (by rw [hvm]; exact hg) (by rw [hvm]; exact hsz) (by rw [hhp]; exact hcell) hobj hk hc0 hfit).1]
  obtain ⟨g₀, hg0⟩ := Option.isSome_iff_exists.mp h.top
  obtain ⟨r, hr⟩ := State.topJava?_eq_some.mp hg0
  have hr' : (s.setVm vm').frames = .java g₀ :: r := hr
  rw [State.setTop_of_frames _ hr'] at hrest
  have e1 : (((s.setTop g).pushFrame (.throwing a)).setVm vm').setFrames (.java { g with pc := x.handlerPc, stack := [.ref a] } :: s.frames.tail) = (s.setVm vm').setFrames (.java { g with pc := x.handlerPc, stack := [.ref a] } :: r) := by
    rw [State.pushFrame, State.setTop_of_frames _ hr, State.setFrames_setFrames, hr]
    show ((s.setFrames _).setVm vm').setFrames _ = _
    exact State.setFrames_setFrames (s.setVm vm') _ _
  rw [e1]
  exact hrest
section CC
variable {p : Program} {l : Launch} {e : Env} {R : Room} {s : State} {m : MethodId} {args : Array Value} {below : List Frame} {meth : Method} {c : Code} {H : Heap} {locs : List Loc} {cells slots : Nat} {Q Q' : State → Prop}
variable {cc : ByteArray} {pc nL : Nat} {ls : Array Slot} {rest : List Value} {G : va_G} {k : Nat → Nat} {A : Nat → Prop} {a : Nat} {tys tc : List (ClassId × FieldType)} {ws wc wr w' : va_W} {own : String}
theorem WX_catch {x : ExceptionTableEntry} {q0 ci N : Nat} {C : String} {T0 : u_T} {fs : List Value} (F : CallFix p m c cc nL s args tb own) (ht : c.exceptionTable.toList = [x]) (hx : covers x pc = true) (h0 : x.catchType ≠ 0) (hlink : Cond.classLink own x.catchType C ∈ tb) (St : cS G k ws tys A s H locs) (he : ws[q0]? = some (a, .inr (ci, fs))) (hc : vwCl[ci]? = some (C, T0, N))
    (kk : W p l e R s m args below meth c H locs cells slots Q (F0 m x.handlerPc ls [.ref a])) : WX p l e R s m args below meth c H locs cells slots Q (F0 m pc ls rest) a := by
  intro T hT X
  have hpl : e.platform.magicAccessors = ({} : Platform).magicAccessors := by rw [X.admits.platform]
  obtain ⟨c', hc', hcl⟩ := Cond.classLink_spec F.2.2.2.1 (F.2.2.2.2 _ hlink) e.platform hpl
  obtain ⟨cell, r1, r2, r3⟩ := va_recv St.1 St.2.1 hc he
  obtain ⟨dk, _, _, kt, hd, _, _, _, _, hkt, _, hopen⟩ := hcl.here
  have hcl₀ := X.warmed.classLinks hcl
  have hW' : s.WarmedH (T.vm.noted m.cls x.catchType (.cls c')) := X.warmed.noted hd hopen (State.rightAt_cls hcl)
  obtain ⟨kt', hkt', -⟩ := hW'.alike.2.2 _ _ hkt
  have ecc : cell.cls = c' := Option.some.inj (r3.symm.trans hc')
  have hasg : s.vm.assignable cell.cls c' = true := by rw [ecc]; exact va_asg _ _
  obtain ⟨t, a1, b1⟩ := kk (T.setVm (T.vm.noted m.cls x.catchType (.cls c'))) hT (X.noted hW')
  refine ⟨t, ?_, b1⟩
  exact steps_cold (g := F0 m pc ls rest) (x := x) (c0 := c') (cell := cell) (vm' := T.vm.noted m.cls x.catchType (.cls c')) X.here X.method' X.code ht hx h0 (resolveClass_links e.toSetting hcl₀) (Nat.le_of_eq (Vm.size_noted _ _ _ _)) (by rw [hT]; exact r1) (VmData.noStatics_of r2) (by rw [ecc]; exact ⟨kt', hkt'⟩) ⟨kt', hkt'⟩ (by rw [hW'.alike.assignable]; exact hasg) a1
end CC

