theorem dE_init_0 : decode cE_init 0 = .ok (.aload_n 0, 1) := by decide +kernel
theorem dE_init_1 : decode cE_init 1 = .ok (.aload_n 1, 1) := by decide +kernel
theorem dE_init_2 : decode cE_init 2 = .ok (.aload_n 2, 1) := by decide +kernel
theorem dE_init_3 : decode cE_init 3 = .ok (.iload_n 3, 1) := by decide +kernel
theorem dE_init_4 : decode cE_init 4 = .ok (.iload 4, 2) := by decide +kernel
theorem dE_init_6 : decode cE_init 6 = .ok (.invokespecial 16, 3) := by decide +kernel
theorem dE_init_9 : decode cE_init 9 = .ok (.return_, 1) := by decide +kernel
theorem dH_init_0 : decode cH_init 0 = .ok (.aload_n 0, 1) := by decide +kernel
theorem dH_init_1 : decode cH_init 1 = .ok (.invokespecial 1, 3) := by decide +kernel
theorem dH_init_4 : decode cH_init 4 = .ok (.aload_n 0, 1) := by decide +kernel
theorem dH_init_5 : decode cH_init 5 = .ok (.aload_n 0, 1) := by decide +kernel
theorem dH_init_6 : decode cH_init 6 = .ok (.putfield 7, 3) := by decide +kernel
theorem dH_init_9 : decode cH_init 9 = .ok (.aload_n 0, 1) := by decide +kernel
theorem dH_init_10 : decode cH_init 10 = .ok (.getstatic 13, 3) := by decide +kernel
theorem dH_init_13 : decode cH_init 13 = .ok (.putfield 17, 3) := by decide +kernel
theorem dH_init_16 : decode cH_init 16 = .ok (.aload_n 0, 1) := by decide +kernel
theorem dH_init_17 : decode cH_init 17 = .ok (.getstatic 20, 3) := by decide +kernel
theorem dH_init_20 : decode cH_init 20 = .ok (.putfield 24, 3) := by decide +kernel
theorem dH_init_23 : decode cH_init 23 = .ok (.iload 4, 2) := by decide +kernel
theorem dH_init_25 : decode cH_init 25 = .ok (.ifCond .eq 11, 3) := by decide +kernel
theorem dH_init_36 : decode cH_init 36 = .ok (.aload_n 0, 1) := by decide +kernel
theorem dH_init_37 : decode cH_init 37 = .ok (.aconst_null, 1) := by decide +kernel
theorem dH_init_38 : decode cH_init 38 = .ok (.putfield 17, 3) := by decide +kernel
theorem dH_init_41 : decode cH_init 41 = .ok (.aload_n 0, 1) := by decide +kernel
theorem dH_init_42 : decode cH_init 42 = .ok (.aload_n 1, 1) := by decide +kernel
theorem dH_init_43 : decode cH_init 43 = .ok (.putfield 31, 3) := by decide +kernel
theorem dH_init_46 : decode cH_init 46 = .ok (.aload_n 0, 1) := by decide +kernel
theorem dH_init_47 : decode cH_init 47 = .ok (.aload_n 2, 1) := by decide +kernel
theorem dH_init_48 : decode cH_init 48 = .ok (.putfield 7, 3) := by decide +kernel
theorem dH_init_51 : decode cH_init 51 = .ok (.iload_n 3, 1) := by decide +kernel
theorem dH_init_52 : decode cH_init 52 = .ok (.ifCond .ne 8, 3) := by decide +kernel
theorem dH_init_55 : decode cH_init 55 = .ok (.aload_n 0, 1) := by decide +kernel
theorem dH_init_56 : decode cH_init 56 = .ok (.aconst_null, 1) := by decide +kernel
theorem dH_init_57 : decode cH_init 57 = .ok (.putfield 24, 3) := by decide +kernel
theorem dH_init_60 : decode cH_init 60 = .ok (.return_, 1) := by decide +kernel
-- a method whose code has a table of handlers: its start, its call
def mVW (y : MethodName) (bytes : ByteArray) (maxL : Nat) (ret : Option FieldType) (hh : List (Nat × Nat × Nat × Nat)) (n : Nat) : Prop := Cond.codeWith y bytes maxL ret hh ∈ tb ∧ Cond.initialized y.cls ∈ tb ∧ Cond.instanceMethod y ∈ tb ∧ Cond.selects y.cls y y ∈ tb ∧ (y.cls ≠ "java/lang/invoke/MethodHandle" ∧ y.cls ≠ "java/lang/invoke/VarHandle" ∧ (parseMethodDescriptor y.desc).map (fun d => d.parameters.length) = some n)
section CW
variable {p : Program} {l : Launch} {e : Env} {R : Room} {s : State} {m : MethodId} {args : Array Value} {below : List Frame} {meth : Method} {c : Code} {H : Heap} {locs : List Loc} {cells slots : Nat} {Q : State → Prop}
variable {cc : ByteArray} {pc nL : Nat} {ls : Array Slot} {rest : List Value} {G : va_G} {k : Nat → Nat} {A : Nat → Prop} {a : Nat} {tys tc : List (ClassId × FieldType)} {ws wc wr w' : va_W} {own : String}
theorem ofCW_i {S : Type} {post : Int32 → S → Prop} {wo : S → va_W} {to : S → List (ClassId × FieldType)} {y : MethodName} {wsY : List Cond} {rm : Room} {sz mc ms maxL : Nat} {av : List Value} {ret : Option FieldType} {hh : List (Nat × Nat × Nat × Nat)}
    (hy : plainName y.cls = true) (hw : wsY = Cond.codeWith y cc maxL ret hh :: tb) (hlen : (lg_sl av).length ≤ maxL)
    (body : ∀ (p : Program) (e : Env) (s : State) (m : MethodId) (args : Array Value) (below : List Frame) (meth : Method) (c : Code) (A : Nat → Prop) (ls : Array Slot) (Q : State → Prop), CallFix p m c cc maxL s args tb y.cls → meth.sig.returnType = ret → meth.name = y.name → meth.locks = false → cS G k ws tys A s s.heap [] → lv_has ls maxL (lv_args 0 av) → Q = MQ below (va_Qi post (cB G wo to A) A) args s mc ms A → W p l e rm s m args below meth c s.heap [] 0 0 Q (F0 m 0 ls [])) :
    Met l y wsY rm (va_Pc av (cP G k ws tys sz)) (va_Qi post (cB G wo to (va_A ws sz)) (va_A ws sz)) mc ms (va_A ws sz) := by
  subst hw
  refine va_MetW (cc := cc) (maxL := maxL) (ret := ret) hy rfl ?_
  intro p e s m args below meth c s₁ B hml hv
  obtain ⟨rfl, hsz, hP, hK, hD0, hg⟩ := hv
  have hl := lv_entry av (n := maxL) hlen
  rw [lg_entry_eq]
  subst hsz
  have hts := atoms_spec (ws := Cond.codeWith y cc maxL ret hh :: tb) B.pre
  exact body p e s m _ below meth c _ _ _ ⟨B.exec, B.bytes, hml, findClass_of_methodNamed B.named, fun w h => hts w (List.mem_cons_of_mem _ h)⟩ B.returns (name_of_methodNamed B.named B.method).1 B.notSynchronized ⟨hK, hP, hD0.self, va_S.rf, fun q h => Or.inr h, hg⟩ hl rfl
theorem runVW {y : MethodName} {bytes : ByteArray} {maxL n index mc ms : Nat} {ret : Option FieldType} {hh : List (Nat × Nat × Nat × Nat)} {rm : Room} {Pc : Array Value → State → Prop} {Qc : Array Value → State → Outcome → State → Prop} {free : Addr → Prop} {b : Addr} {As : List Value} {g : JFrame}
    (F : CallFix p m c cc nL s args tb own) (hM : Met l y (Cond.codeWith y bytes maxL ret hh :: tb) rm Pc Qc mc ms free) (h : mVW y bytes maxL ret hh n) (hlk : Cond.methodLink own index y ∈ tb) (hrc : rm.cells = mc) (hrs : rm.slots = ms) (hR : rm.frames + 1 ≤ R.frames ∧ 8 + (maxL + 11) + rm.locals ≤ R.locals) (hp : PreV s H y.cls b Pc As)
    (hg : g.method = m) (hn : As.length = n) (hsize : g.locals.size = nL) (hstack : g.stack = As.reverse ++ .ref b :: rest) (hW : 2 * g.monitorRoom + (rest.map fun v => v.category).sum ≤ 8) (hdg : decode cc g.pc = .ok (.invokevirtual index, 3)) (hf : cells + mc ≤ R.cells ∧ slots + ms ≤ R.slots) :
    va_Run p l e R s m args below meth c H locs cells slots mc ms g rest (Qc (Value.ref b :: As).toArray) free := by
  obtain ⟨hcd, hini, hinst, hsel, hmh, hvh, hds⟩ := h
  obtain ⟨hx, hb, hml, ho, ht⟩ := F
  have hpay : ∀ w ∈ Cond.codeWith y bytes maxL ret hh :: tb, ∀ (a' : Array Value) (U : State), s.WarmedH U.vm → w.before a' U = true := pay_in ht (tb_GoodT hcd)
  have hK : Back l R p e below s args y 3 8 (PreOf R mc ms Pc) (PostOf Qc mc ms free) := va_backW (bytes := bytes) (maxL := maxL) (ret := ret) (hh := hh) hM hp.1 hrc hrs hR.1 hR.2 hpay List.mem_cons_self (fun a' U hU => hpay _ (List.mem_cons_of_mem _ hini) a' U hU)
  obtain ⟨mk, methM, hnamed, hmethM, hstM, habM⟩ := Cond.instanceMethod_spec (ht _ hinst)
  obtain ⟨m9, meth9, c9, hn9, hm9, -, -, -, -, -, -, hsig⟩ := Cond.codeWith_spec (ht _ hcd)
  cases hnamed.symm.trans hn9
  cases hmethM.symm.trans hm9
  obtain ⟨-, ⟨cellB, hcB, hoB, hclB⟩, hPc⟩ := hp
  obtain ⟨c2, r2, m2, q1, q2, q3, q4, kP, hkP, hkPi⟩ := Cond.selects_spec (ht _ hsel)
  cases hclB.symm.trans q1
  cases (State.methodFound?_of_named hnamed ⟨hmh, hvh⟩).symm.trans q2
  cases hnamed.symm.trans q3
  have hnp : As.length = methM.sig.parameters.length := by
    rw [hsig] at hds
    exact hn.trans (Option.some.inj hds).symm
  intro T hT X
  have hse : selectMethod e.platform s.vm cellB.cls mk = .method mk := by rw [Launch.admits_selectMethod X.admits]; exact q4
  obtain ⟨vm₁, X₁, st₁⟩ := X.invokevirtual hx ho (ht _ hlk) hnamed hmethM hstM hkP hkPi ⟨hmh, hvh⟩ (a := b) (cell := cellB) (by rw [hT]; exact hcB) (fun z h => by rw [h] at hoB; cases hoB) hse hmethM habM hkP hkPi (g := g) hg (argsL := As) (rest := rest) hnp hstack (by rw [hb]; exact hdg)
  obtain ⟨v, ⟨U', l2, c2', s2⟩, X', ⟨g', mk', t, L, e1, e2, hq, h1, hL, h2, h3⟩, st⟩ := hK m meth c ⟨T.setVm vm₁, locs, cells, slots⟩ { g with stack := rest } (.invokevirtual index) mk (Value.ref b :: As).toArray X₁ hg (hsize.trans hml.symm) (by rw [hb]; exact hdg) hW (X₁.named hnamed) ⟨hf.1, hf.2, hPc (T.setVm vm₁) hT X₁.warmed⟩
  dsimp only [Pt.U, Pt.locs, Pt.cells, Pt.slots] at X' e1 e2 h1 h2 h3 st
  subst h1; subst h2; subst h3
  exact ⟨v, (T.setVm vm₁).calling g' mk' (Value.ref b :: As).toArray, t, U', L, hT, X', hL, e1, e2, hq, fun target h => st₁ _ fun acts => by rw [doInvoke_state]; exact st.trans h⟩
end CW
set_option maxRecDepth 100000 in
theorem mf_X12_trust : mVW yX12_trust cX12_trust 3 (some .int) [((28), (37), (40), (117))] 0 := ⟨kd_X12_trust, ki_X12, kj_X12_trust, kl_X12_trust, by decide +kernel⟩
def ufill (n : Int) : Nat → Int32 := fun j => if (j : Int) < n then untold j else 0
theorem ufill_0 : (fun _ => 0) = ufill 0 := by
  funext j
  have : ¬ (j : Int) < 0 := by omega
  simp [ufill, this]
theorem ufill_up {i y : Int32} (h0 : 0 ≤ i.toInt) (h : y.toInt = i.toInt + 1) : upd (ufill i.toInt) i.toNatClampNeg (untold i.toNatClampNeg) = ufill y.toInt := by
  have hn := nc_int h0
  funext j
  by_cases hj : j = i.toNatClampNeg
  · subst hj
    rw [pk_us]
    have : ((i.toNatClampNeg : Nat) : Int) < y.toInt := by omega
    simp [ufill, this]
  · rw [pk_un hj]
    have e : (j : Int) < i.toInt ↔ (j : Int) < y.toInt := by omega
    simp only [ufill, e]
theorem ufill_9 : ufill 9 = untold := by
  funext j
  simp only [ufill, untold]
  split <;> rename_i h
  · rfl
  · have : ¬ j = 4 ∧ ¬ j = 7 := by omega
    simp [this.1, this.2]
