-- ===== methods that may throw =====
def FEnd (first t : State) (L : List Loc) (k n : Nat) : Prop := first.WarmedH t.vm ∧ first.sameButNew ({ t with vm := first.vm } : State) L k n
/-- a contract of a method that returns or throws -/
def MetT (l : Launch) (y : MethodName) (ws : List Cond) (rm : Room) (Pc : Array Value → State → Prop) (Qc : Array Value → State → Outcome → State → Prop) (mc ms : Nat) (free : Addr → Prop) : Prop :=
  MetFree l y (headSpec ws rm) Pc (fun _ _ _ _ _ => True) (fun a st o t => Qc a st o t ∧ ∃ L, FEnd st t L mc ms ∧ ∀ q ∈ L, free q.base)
def MQT (below : List Frame) (Qc : Array Value → State → Outcome → State → Prop) (a : Array Value) (s : State) (mc ms : Nat) (free : Addr → Prop) : State → Prop := fun t =>
  ∃ o, t.status = .running ∧ Ended t below o ∧ Qc a s o t ∧ ∃ L, FEnd s t L mc ms ∧ ∀ q ∈ L, free q.base
theorem MQ_T {below : List Frame} {Qc : Array Value → State → Outcome → State → Prop} {a : Array Value} {s : State} {mc ms : Nat} {free : Addr → Prop} {t : State} (h : MQ below Qc a s mc ms free t) : MQT below Qc a s mc ms free t := by
  obtain ⟨o, h1, h2, h3, L, h4, h5⟩ := h
  exact ⟨o, h1, h2, h3, L, h4.2, h5⟩
/-- the end: an int or nothing came back (by v), or ax was thrown -/
def QT {S : Type} (v : Int32 → Option Value) (post : Int32 → S → Prop) (px : S → Prop) (ax : Nat) (B : S → State → Prop) (A : Nat → Prop) : Array Value → State → Outcome → State → Prop :=
  fun _ st oc t => ((∃ (r : Int32) (u : S), oc = .returned (v r) ∧ post r u ∧ B u t) ∨ (∃ u : S, oc = .threw ax ∧ px u ∧ B u t)) ∧ va_F A st t
/-- a walk with an exception under way in its own frame -/
def WX (p : Program) (l : Launch) (e : Env) (R : Room) (s : State) (m : MethodId) (args : Array Value) (below : List Frame) (meth : Method) (c : Code) (H : Heap) (locs : List Loc) (cells slots : Nat) (Q : State → Prop) (g : JFrame) (a : Addr) : Prop :=
  ∀ T : State, T.heap = H → Stand p l e R s m args below meth c T locs cells slots → ∃ t, Steps p.tables e below ((T.setTop g).pushFrame (.throwing a)) t ∧ Q t
def RunT (p : Program) (l : Launch) (e : Env) (R : Room) (s : State) (m : MethodId) (args : Array Value) (below : List Frame) (meth : Method) (c : Code) (H : Heap) (locs : List Loc) (cells slots mc ms : Nat) (g : JFrame) (rest : List Value) (Qa : State → Outcome → State → Prop) (free : Addr → Prop) : Prop :=
  ∀ T : State, T.heap = H → Stand p l e R s m args below meth c T locs cells slots → ∃ (o : Outcome) (st₀ t T' : State) (L : List Loc), st₀.heap = H ∧ Stand p l e R s m args below meth c T' (locs ++ L) (cells + mc) (slots + ms) ∧ (∀ q ∈ L, free q.base) ∧ T'.heap = t.heap ∧ T'.vm = t.vm ∧ Qa st₀ o t ∧
    (∀ v, o = .returned v → ∀ target, Steps p.tables e below (T'.setTop { g with pc := g.pc + 3, stack := v.toList ++ rest }) target → Steps p.tables e below (T.setTop g) target) ∧
    (∀ a, o = .threw a → ∀ target, Steps p.tables e below ((T'.setTop { g with stack := rest }).pushFrame (.throwing a)) target → Steps p.tables e below (T.setTop g) target)
section CT
variable {p : Program} {l : Launch} {e : Env} {R : Room} {s : State} {m : MethodId} {args : Array Value} {below : List Frame} {meth : Method} {c : Code} {H : Heap} {locs : List Loc} {cells slots : Nat} {Q Q' : State → Prop}
variable {cc : ByteArray} {pc nL : Nat} {ls : Array Slot} {rest : List Value} {G : va_G} {k : Nat → Nat} {A : Nat → Prop} {a : Nat} {tys tc : List (ClassId × FieldType)} {ws wc wr w' : va_W} {own : String}
theorem W_mono {g : JFrame} (h : ∀ t, Q t → Q' t) (kk : W p l e R s m args below meth c H locs cells slots Q g) : W p l e R s m args below meth c H locs cells slots Q' g := fun T hT X => by
  obtain ⟨t, a1, b1⟩ := kk T hT X
  exact ⟨t, a1, h t b1⟩
theorem no_out (h : c.exceptionTable.isEmpty = true) (pc : Nat) : ∀ x ∈ c.exceptionTable.toList, covers x pc = false := by
  intro x hx
  have h2 : c.exceptionTable.toList = [] := by simpa using h
  rw [h2] at hx
  exact absurd hx List.not_mem_nil
theorem WX_leave {Qc : Array Value → State → Outcome → State → Prop} {free : Addr → Prop} {g : JFrame} (hg : g.method = m) (h1 : g.locked = none) (h2 : g.entered = []) (hex : c.exceptionTable.isEmpty = true) (hlk : meth.locks = false) (hq : ∀ t : State, t.heap = H → s.WarmedH t.vm → Qc args s (.threw a) t) (hf : ∀ q ∈ locs, free q.base) : WX p l e R s m args below meth c H locs cells slots (MQT below Qc args s cells slots free) g a := by
  intro T hT X
  obtain ⟨hs, hrun, hend, hW, hsame⟩ := X.leaveThrown a (g := g) hg h1 h2 (no_out hex _) hlk
  exact ⟨_, hs, .threw a, hrun, hend, hq _ hT hW, locs, ⟨hW, hsame⟩, hf⟩
theorem W_athrow {Qc : Array Value → State → Outcome → State → Prop} {free : Addr → Prop} (hx : p.tables.exec = Jvm.exec) (hb : c.code = cc) (hex : c.exceptionTable.isEmpty = true) (hlk : meth.locks = false) (hq : ∀ t : State, t.heap = H → s.WarmedH t.vm → Qc args s (.threw a) t) (hf : ∀ q ∈ locs, free q.base) (hdg : decode cc pc = .ok (.athrow, 1)) : W p l e R s m args below meth c H locs cells slots (MQT below Qc args s cells slots free) (F0 m pc ls (.ref a :: rest)) := by
  intro T hT X
  obtain ⟨hs, hrun, hend, hW, hsame⟩ := X.athrowLeaves hx (g := F0 m pc ls (.ref a :: rest)) rfl rfl rfl (no_out hex _) (a := a) (rest := rest) rfl (by rw [hb]; exact hdg) hlk
  exact ⟨_, hs, .threw a, hrun, hend, hq _ hT hW, locs, ⟨hW, hsame⟩, hf⟩
theorem ofCT {S : Type} {v : Int32 → Option Value} {post : Int32 → S → Prop} {px : S → Prop} {ax : Nat} {wo : S → va_W} {to : S → List (ClassId × FieldType)} {y : MethodName} {wsY : List Cond} {rm : Room} {sz mc ms maxL : Nat} {av : List Value} {ret : Option FieldType}
    (hy : plainName y.cls = true) (hw : wsY = Cond.code y cc maxL ret :: tb) (hlen : (lg_sl av).length ≤ maxL)
    (body : ∀ (p : Program) (e : Env) (s : State) (m : MethodId) (args : Array Value) (below : List Frame) (meth : Method) (c : Code) (A : Nat → Prop) (ls : Array Slot) (Q : State → Prop), CallFix p m c cc maxL s args tb y.cls → meth.sig.returnType = ret → meth.name = y.name → meth.locks = false → c.exceptionTable.isEmpty = true → cS G k ws tys A s s.heap [] → lv_has ls maxL (lv_args 0 av) → Q = MQT below (QT v post px ax (cB G wo to A) A) args s mc ms A → W p l e rm s m args below meth c s.heap [] 0 0 Q (F0 m 0 ls [])) :
    MetT l y wsY rm (va_Pc av (cP G k ws tys sz)) (QT v post px ax (cB G wo to (va_A ws sz)) (va_A ws sz)) mc ms (va_A ws sz) := by
  subst hw
  refine MetFree.of_bodyS (code := cc) (maxLocals := maxL) (ret := ret) hy ?_ ?_
  · intro args s m h hn
    obtain ⟨meth, c, h1, h2, h3, h4, h5, h6, -, -⟩ := Cond.code_spec hn (atoms_spec (ws := Cond.code y cc maxL ret :: tb) h _ List.mem_cons_self)
    exact ⟨meth, c, h1, h2, h3, h4, h5, h6⟩
  · intro p e s m args below meth c s₁ B hml hv _
    obtain ⟨rfl, hsz, hP, hK, hD0, hg⟩ := hv
    have hts := atoms_spec (ws := Cond.code y cc maxL ret :: tb) B.pre
    have X₀ : Stand p l e rm s m av.toArray below meth c s₁ [] 0 0 := Stand.of_body B
    have hh0 : s₁.heap = s.heap := by rw [B.state]; rfl
    obtain ⟨meth9, c9, g1, g2, -, -, -, -, g7, -⟩ := Cond.code_spec B.named (hts _ List.mem_cons_self)
    cases g1.symm.trans B.method
    cases g2.symm.trans X₀.code
    have hl := lv_entry av (n := maxL) hlen
    subst hsz
    have KK := body p e s m _ below meth c _ _ _ ⟨B.exec, B.bytes, hml, findClass_of_methodNamed B.named, fun w h => hts w (List.mem_cons_of_mem _ h)⟩ B.returns (name_of_methodNamed B.named B.method).1 B.notSynchronized g7 ⟨hK, hP, hD0.self, va_S.rf, fun q h => Or.inr h, hg⟩ hl rfl
    rw [← lg_entry_eq] at KK
    obtain ⟨t, a1, o, b1, b2, b3⟩ := KK s₁ hh0 X₀
    exact ⟨t, o, a1, b1, b2, b3⟩
theorem runVT {y : MethodName} {bytes : ByteArray} {maxL n index mc ms : Nat} {ret : Option FieldType} {rm : Room} {Pc : Array Value → State → Prop} {Qc : Array Value → State → Outcome → State → Prop} {free : Addr → Prop} {b : Addr} {As : List Value} {g : JFrame}
    (F : CallFix p m c cc nL s args tb own) (hM : MetT l y (Cond.code y bytes maxL ret :: tb) rm Pc Qc mc ms free) (h : mV y bytes maxL ret n) (hlk : Cond.methodLink own index y ∈ tb) (hrc : rm.cells = mc) (hrs : rm.slots = ms) (hR : rm.frames + 1 ≤ R.frames ∧ 8 + (maxL + 11) + rm.locals ≤ R.locals) (hp : PreV s H y.cls b Pc As)
    (hg : g.method = m) (hn : As.length = n) (hsize : g.locals.size = nL) (hstack : g.stack = As.reverse ++ .ref b :: rest) (hW : 2 * g.monitorRoom + (rest.map fun v => v.category).sum ≤ 8) (hdg : decode cc g.pc = .ok (.invokevirtual index, 3)) (hf : cells + mc ≤ R.cells ∧ slots + ms ≤ R.slots) :
    RunT p l e R s m args below meth c H locs cells slots mc ms g rest (Qc (Value.ref b :: As).toArray) free := by
  obtain ⟨hcd, hini, hinst, hsel, hmh, hvh, hds⟩ := h
  obtain ⟨hx, hb, hml, ho, ht⟩ := F
  have hpay : ∀ w ∈ Cond.code y bytes maxL ret :: tb, ∀ (a' : Array Value) (U : State), s.WarmedH U.vm → w.before a' U = true := pay_in ht (tb_GoodT hcd)
  obtain ⟨mk, methM, hnamed, hmethM, hstM, habM⟩ := Cond.instanceMethod_spec (ht _ hinst)
  obtain ⟨meth9, c9, hm9, hc9, -, hl9, -, -, -, hsig⟩ := Cond.code_spec hnamed (ht _ hcd)
  cases hmethM.symm.trans hm9
  obtain ⟨hblind, ⟨cellB, hcB, hoB, hclB⟩, hPc⟩ := hp
  obtain ⟨c2, r2, m2, q1, q2, q3, q4, kP, hkP, hkPi⟩ := Cond.selects_spec (ht _ hsel)
  cases hclB.symm.trans q1
  cases (State.methodFound?_of_named hnamed ⟨hmh, hvh⟩).symm.trans q2
  cases hnamed.symm.trans q3
  have hnp : As.length = methM.sig.parameters.length := by
    rw [hsig] at hds
    exact hn.trans (Option.some.inj hds).symm
  intro T hT X
  have hse : selectMethod e.platform s.vm cellB.cls mk = .method mk := by rw [Launch.admits_selectMethod X.admits]; exact q4
  obtain ⟨vm₁, X₁, st₁⟩ := X.invokevirtual hx ho (ht _ hlk) hnamed hmethM hstM hkP hkPi ⟨hmh, hvh⟩ (a := b) (cell := cellB) (by rw [hT]; exact hcB) (fun z h => by rw [h] at hoB; cases hoB) hse hmethM habM hkP hkPi (g := g) hg (argsL := As) (rest := rest) hnp hstack (by rw [hb]; exact hdg)
  have hnU : (T.setVm vm₁).methodNamed? y = some mk := X₁.named hnamed
  have hcU := hpay _ List.mem_cons_self (Value.ref b :: As).toArray (T.setVm vm₁) X₁.warmed
  obtain ⟨methY, cY, hmY, hcY, -, hlY, -, -, -, -⟩ := Cond.code_spec hnU hcU
  obtain ⟨kY, hkY, -⟩ := className_of_methodNamed hnU
  have hinitY : kY.init = .initialized := Cond.initialized_spec (findClass_of_methodNamed hnU) hkY (hpay _ (List.mem_cons_of_mem _ hini) (Value.ref b :: As).toArray (T.setVm vm₁) X₁.warmed)
  have hAt : At (T.setVm vm₁) ({ g with stack := rest } : JFrame).method c below := by rw [show ({ g with stack := rest } : JFrame).method = m from hg]; exact X₁.here
  have happ : (headSpec (Cond.code y bytes maxL ret :: tb) rm).appliesLoose y e.platform ((T.setVm vm₁).calling { g with stack := rest } mk (Value.ref b :: As).toArray) = true :=
    Spec.appliesLoose_calling (g := { g with stack := rest }) hAt (by rw [hb]; exact hdg) hnU hkY hinitY
      (X₁.room_calling (g := { g with stack := rest }) (R' := (headSpec (Cond.code y bytes maxL ret :: tb) rm).room) (hsize.trans hml.symm) hmY hcY hR.1 (by show 2 * g.monitorRoom + (rest.map fun v => v.category).sum + (cY.maxLocals + 11) + rm.locals ≤ R.locals; omega) (by show cells + rm.cells ≤ _; rw [hrc]; exact hf.1) (by show slots + rm.slots ≤ _; rw [hrs]; exact hf.2))
      (atoms_intro fun w hw => hpay w hw _ _ X₁.warmed)
  obtain ⟨mid, hmid⟩ := hAt.above
  have hfr : ((T.setVm vm₁).setTop { g with stack := rest }).frames = (.java { g with stack := rest } :: mid) ++ below := by rw [State.frames_setTop' _ hAt.top, hmid]; rfl
  obtain ⟨o, s₂, hsteps, -, hend, hq⟩ := Steps.callFree hM p X₁.admits X₁.cas X₁.clock (acts := []) hfr happ (hblind _ _ _ _ (hPc (T.setVm vm₁) hT X₁.warmed)) trivial
  rw [State.frames_setTop' _ hAt.top] at hend
  obtain ⟨hQ, L, ⟨hW₂, e2, w2, w3, w4, w5, w6⟩, hL⟩ := hq
  have hW' : (T.setVm vm₁).WarmedH s₂.vm := hW₂
  have e3 : s₂ = ({ ((T.setVm vm₁).calling { g with stack := rest } mk (Value.ref b :: As).toArray).setFrames s₂.frames with heap := s₂.heap, slotsUsed := s₂.slotsUsed } : State).setVm s₂.vm := by
    have e4 : s₂ = ({ s₂ with vm := ((T.setVm vm₁).calling { g with stack := rest } mk (Value.ref b :: As).toArray).vm } : State).setVm s₂.vm := rfl
    exact e4.trans (congrArg (fun z : State => z.setVm s₂.vm) e2)
  obtain ⟨g₀, hg0⟩ := Option.isSome_iff_exists.mp hAt.top
  obtain ⟨r, hr⟩ := State.topJava?_eq_some.mp hg0
  have hr' : (({ T.setVm vm₁ with heap := s₂.heap, slotsUsed := s₂.slotsUsed } : State).setVm s₂.vm).frames = .java g₀ :: r := hr
  have hsame : (T.setVm vm₁).sameButNew ({ T.setVm vm₁ with heap := s₂.heap, slotsUsed := s₂.slotsUsed } : State) L mc ms := by
    refine ⟨?_, w2, w3, w4, w5, w6⟩
    obtain ⟨t, ht9, -⟩ := State.frames_cons hr
    show ({ T.setVm vm₁ with heap := s₂.heap, slotsUsed := s₂.slotsUsed } : State) = { (T.setVm vm₁).setFrames (T.setVm vm₁).frames with heap := s₂.heap, slotsUsed := s₂.slotsUsed }
    rw [State.setFrames_self ht9]
  subst hg
  refine ⟨o, (T.setVm vm₁).calling { g with stack := rest } mk (Value.ref b :: As).toArray, s₂, (({ T.setVm vm₁ with heap := s₂.heap, slotsUsed := s₂.slotsUsed } : State).setVm s₂.vm), L, hT, ⟨X₁.admits, X₁.cas, X₁.clock, X₁.frames, X₁.room, X₁.hears, X₁.method, X₁.code, (X₁.here.setHeapUsed s₂.heap s₂.slotsUsed).setVm hW'.alike, X₁.tail, State.WarmedH.trans X₁.warmed hW', X₁.limits, X₁.bytes, X₁.same.trans (hsame.setVm s.vm)⟩, hL, rfl, rfl, hQ, ?_, ?_⟩
  · intro v hv target htg
    subst hv
    obtain ⟨c₂, i₂, len₂, hc₂, hd₂, hf₂⟩ := hend
    have hcc : c₂ = c := by
      have h1 : s₂.code? g.method = (T.setVm vm₁).code? g.method := by
        rw [State.code?_eq, State.code?_eq, hW'.alike.method?]
      exact Option.some.inj (hc₂.symm.trans (h1.trans hAt.code))
    subst hcc
    have hlen : len₂ = 3 := by
      have hd3 : decode c₂.code g.pc = .ok (.invokevirtual index, 3) := by rw [hb]; exact hdg
      have hd4 : decode c₂.code g.pc = .ok (i₂, len₂) := hd₂
      rw [hd3] at hd4
      cases hd4
      rfl
    subst hlen
    have hs₂ : s₂ = (({ T.setVm vm₁ with heap := s₂.heap, slotsUsed := s₂.slotsUsed } : State).setVm s₂.vm).setTop { g with pc := g.pc + 3, stack := v.toList ++ rest } := by
      refine e3.trans ?_
      rw [hf₂, State.calling_eq hAt.top, State.setFrames_setFrames, State.setTop_of_frames _ hr', hr]
      rfl
    refine st₁ _ fun acts => ?_
    rw [doInvoke_state]
    refine hsteps.trans ?_
    rw [hs₂]
    exact htg
  · intro a hv target htg
    subst hv
    have hf₂ : s₂.frames = .throwing a :: .java { g with stack := rest } :: (T.setVm vm₁).frames.tail := hend
    have hs₂ : s₂ = ((({ T.setVm vm₁ with heap := s₂.heap, slotsUsed := s₂.slotsUsed } : State).setVm s₂.vm).setTop { g with stack := rest }).pushFrame (.throwing a) := by
      refine e3.trans ?_
      rw [hf₂, State.calling_eq hAt.top, State.setFrames_setFrames, State.pushFrame, State.frames_setTop _ hr', State.setTop_of_frames _ hr', State.setFrames_setFrames, hr]
      rfl
    refine st₁ _ fun acts => ?_
    rw [doInvoke_state]
    refine hsteps.trans ?_
    rw [hs₂]
    exact htg
/-- behind a call that may throw -/
theorem cs_T {S : Type} {v : Int32 → Option Value} {post : Int32 → S → Prop} {px : S → Prop} {ax : Nat} {wo : S → va_W} {to : S → List (ClassId × FieldType)} {mc ms : Nat} {st0 : List Value} {av : Array Value} (St : cS G k ws tys A s H locs) (isC isR : List Nat) (hC : isC.map (fun i => ws[i]?) = wc.map some) (hR : isR.map (fun i => ws[i]?) = wr.map some) (hn : va_nd isR = true) (hdis : ∀ i ∈ isR, i ∉ isC)
    (hr : RunT p l e R s m args below meth c H locs cells slots mc ms (F0 m pc ls st0) rest (QT v post px ax (cB G wo to (va_A wc H.size)) (va_A wc H.size) av) (va_A wc H.size))
    (kk : ∀ (r : Int32) (u : S) (H1 : Heap) (locs1 : List Loc), post r u → cS G k (wr ++ wo u) (tys ++ to u) A s H1 locs1 → W p l e R s m args below meth c H1 locs1 (cells + mc) (slots + ms) Q (F0 m (pc + 3) ls ((v r).toList ++ rest)))
    (kx : ∀ (u : S) (H1 : Heap) (locs1 : List Loc), px u → cS G k (wr ++ wo u) (tys ++ to u) A s H1 locs1 → WX p l e R s m args below meth c H1 locs1 (cells + mc) (slots + ms) Q (F0 m pc ls rest) ax) : W p l e R s m args below meth c H locs cells slots Q (F0 m pc ls st0) := by
  have hF := va_free (wc := wc) St.2.2.1 St.toS St.2.2.2.2.1 isC hC
  intro T hT X
  obtain ⟨o, st₀, t, T', L, h0, X', hL, e1, e2, ⟨hcase, hz, hk⟩, stR, stT⟩ := hr T hT X
  have hvm : s.vm.Alike t.vm := by rw [← e2]; exact X'.warmed.alike
  have hk2 : ∀ q : Nat, q < H.size → ¬ va_A wc H.size q → T'.heap[q]? = H[q]? := fun q h1 h2 => by
    rw [e1, hk q (by rw [h0]; exact h1) h2, h0]
  have hS1 : va_S A s.heap T'.heap (locs ++ L) := by
    refine ⟨Nat.le_trans St.toS.1 ?_, fun q h1 h2 => ?_, fun q hq => ?_⟩
    · rw [e1, ← h0]; exact hz
    · rw [hk2 q (Nat.lt_of_lt_of_le h1 St.toS.1) (fun h => h2 (hF q h))]
      exact St.toS.2.1 q h1 h2
    · rcases List.mem_append.mp hq with h | h
      · exact St.toS.2.2 q h
      · exact hF _ (hL q h)
  rcases hcase with ⟨r, u, rfl, hp, hB⟩ | ⟨u, rfl, hp, hB⟩
  · obtain ⟨t2, a1, b1⟩ := kk r u T'.heap (locs ++ L) hp (cs_back St isC isR hC hR hn hdis e1.symm hvm hB hk2 hS1) T' rfl X'
    exact ⟨t2, stR _ rfl t2 a1, b1⟩
  · obtain ⟨t2, a1, b1⟩ := kx u T'.heap (locs ++ L) hp (cs_back St isC isR hC hR hn hdis e1.symm hvm hB hk2 hS1) T' rfl X'
    exact ⟨t2, stT _ rfl t2 a1, b1⟩
end CT

