section CR
variable {p : Program} {l : Launch} {e : Env} {R : Room} {s : State} {m : MethodId} {args : Array Value} {below : List Frame} {meth : Method} {c : Code} {H : Heap} {locs : List Loc} {cells slots : Nat} {Q Q' : State → Prop}
variable {cc : ByteArray} {pc nL : Nat} {ls : Array Slot} {rest : List Value} {G : va_G} {k : Nat → Nat} {A : Nat → Prop} {a : Nat} {tys tc : List (ClassId × FieldType)} {ws wc wr w' : va_W} {own : String}
theorem cs_iretT {S : Type} {post : Int32 → S → Prop} {px : S → Prop} {ax : Nat} {wo : S → va_W} {to : S → List (ClassId × FieldType)} {mc ms : Nat} (F : CallFix p m c cc nL s args tb own) (hr : meth.sig.returnType = some .int) (hlk : meth.locks = false) (hQ : Q = MQT below (QT (fun r => some (.int r)) post px ax (cB G wo to A) A) args s mc ms A) (St : cS G k ws tys A s H locs) (u : S) {r : Int32} (hp : post r u) (is : List Nat) (hw : is.map (fun i => ws[i]?) = (wo u).map some) (hnd : va_nd is = true) (it : List Nat) (ht : it.filterMap (fun i => tys[i]?) = to u) (h1 : cells ≤ mc) (h2 : slots ≤ ms) (hdg : decode cc pc = .ok (.ireturn, 1)) : W p l e R s m args below meth c H locs cells slots Q (F0 m pc ls [.int r]) := by
  subst hQ
  refine W.widen h1 h2 ?_
  have hP9 := St.2.1.sub (ws' := wo u) is (fm_of_map _ _ _ hw)
  have hD9 := St.2.2.1.sub (ws' := wo u) is hnd hw
  have hK9 := St.1.sub (tys' := to u) it ht
  exact W_mono (fun t h => MQ_T h) (W.iret (v := r) F.1 F.2.1 hr (fun t ht hW => ⟨Or.inl ⟨r, u, rfl, hp, by rw [ht]; exact hP9, va_K.moved hW.alike hK9, hD9⟩, St.toS.F ht⟩) St.toS.2.2 hdg hlk)
theorem cs_vretT {S : Type} {post : Int32 → S → Prop} {px : S → Prop} {ax : Nat} {wo : S → va_W} {to : S → List (ClassId × FieldType)} {mc ms : Nat} (F : CallFix p m c cc nL s args tb own) (hr : meth.sig.returnType = none) (hlk : meth.locks = false) (hQ : Q = MQT below (QT (fun _ => none) post px ax (cB G wo to A) A) args s mc ms A) (St : cS G k ws tys A s H locs) (u : S) (hp : post 0 u) (is : List Nat) (hw : is.map (fun i => ws[i]?) = (wo u).map some) (hnd : va_nd is = true) (it : List Nat) (ht : it.filterMap (fun i => tys[i]?) = to u) (h1 : cells ≤ mc) (h2 : slots ≤ ms) (hdg : decode cc pc = .ok (.return_, 1)) : W p l e R s m args below meth c H locs cells slots Q (F0 m pc ls []) := by
  subst hQ
  refine W.widen h1 h2 ?_
  have hP9 := St.2.1.sub (ws' := wo u) is (fm_of_map _ _ _ hw)
  have hD9 := St.2.2.1.sub (ws' := wo u) is hnd hw
  have hK9 := St.1.sub (tys' := to u) it ht
  exact W_mono (fun t h => MQ_T h) (W.vret F.1 F.2.1 hr (fun t ht hW => ⟨Or.inl ⟨0, u, rfl, hp, by rw [ht]; exact hP9, va_K.moved hW.alike hK9, hD9⟩, St.toS.F ht⟩) St.toS.2.2 hdg hlk)
theorem cs_athrow {S : Type} {v : Int32 → Option Value} {post : Int32 → S → Prop} {px : S → Prop} {ax : Nat} {wo : S → va_W} {to : S → List (ClassId × FieldType)} (F : CallFix p m c cc nL s args tb own) (hex : c.exceptionTable.isEmpty = true) (hlk : meth.locks = false) (hQ : Q = MQT below (QT v post px ax (cB G wo to A) A) args s cells slots A) (St : cS G k ws tys A s H locs) (u : S) (hp : px u) (is : List Nat) (hw : is.map (fun i => ws[i]?) = (wo u).map some) (hnd : va_nd is = true) (it : List Nat) (ht : it.filterMap (fun i => tys[i]?) = to u) (hdg : decode cc pc = .ok (.athrow, 1)) : W p l e R s m args below meth c H locs cells slots Q (F0 m pc ls (.ref ax :: rest)) := by
  subst hQ
  have hP9 := St.2.1.sub (ws' := wo u) is (fm_of_map _ _ _ hw)
  have hD9 := St.2.2.1.sub (ws' := wo u) is hnd hw
  have hK9 := St.1.sub (tys' := to u) it ht
  exact W_athrow F.1 F.2.1 hex hlk (fun t ht hW => ⟨Or.inr ⟨u, rfl, hp, by rw [ht]; exact hP9, va_K.moved hW.alike hK9, hD9⟩, St.toS.F ht⟩) St.toS.2.2 hdg
theorem cs_leave {S : Type} {v : Int32 → Option Value} {post : Int32 → S → Prop} {px : S → Prop} {ax : Nat} {wo : S → va_W} {to : S → List (ClassId × FieldType)} {mc ms : Nat} (hc : cells = mc) (hs : slots = ms) (hex : c.exceptionTable.isEmpty = true) (hlk : meth.locks = false) (hQ : Q = MQT below (QT v post px ax (cB G wo to A) A) args s mc ms A) (St : cS G k ws tys A s H locs) (u : S) (hp : px u) (is : List Nat) (hw : is.map (fun i => ws[i]?) = (wo u).map some) (hnd : va_nd is = true) (it : List Nat) (ht : it.filterMap (fun i => tys[i]?) = to u) : WX p l e R s m args below meth c H locs cells slots Q (F0 m pc ls rest) ax := by
  subst hQ
  subst hc
  subst hs
  have hP9 := St.2.1.sub (ws' := wo u) is (fm_of_map _ _ _ hw)
  have hD9 := St.2.2.1.sub (ws' := wo u) is hnd hw
  have hK9 := St.1.sub (tys' := to u) it ht
  exact WX_leave rfl rfl rfl hex hlk (fun t ht hW => ⟨Or.inr ⟨u, rfl, hp, by rw [ht]; exact hP9, va_K.moved hW.alike hK9, hD9⟩, St.toS.F ht⟩) St.toS.2.2
/-- a String's receiver -/
theorem cs_preVS (St : cS G k ws tys A s H locs) {av : List Value} {i : Nat} (hi : i < 8) (itC : List Nat) (hT : itC.filterMap (fun i => tys[i]?) = tc) : PreV s H "java/lang/String" (k (10 + i)) (va_Pc (.ref (k (10 + i)) :: av) (cP G k [] tc H.size)) av := by
  have hg : gxS k A s s.heap := St.2.2.2.2.2.2.2.2.2.2.2.2.2.2.2.2.2.2.2.2.2.2
  obtain ⟨cell, h1, h2, h3, -⟩ := (hg i hi).1.kept St.toS.2.1
  exact ⟨(cs_pre St [] rfl (by decide) itC hT (av := .ref (k (10 + i)) :: av)).1, ⟨cell, h1, h2, h3⟩, (cs_pre St [] rfl (by decide) itC hT).2⟩
/-- a method with one handler -/
theorem ofCX_i {S : Type} {post : Int32 → S → Prop} {wo : S → va_W} {to : S → List (ClassId × FieldType)} {y : MethodName} {wsY : List Cond} {rm : Room} {sz mc ms maxL : Nat} {av : List Value} {ret : Option FieldType} {x1 x2 x3 x4 : Nat}
    (hy : plainName y.cls = true) (hw : wsY = Cond.codeWith y cc maxL ret [(x1, x2, x3, x4)] :: tb) (hlen : (lg_sl av).length ≤ maxL)
    (body : ∀ (p : Program) (e : Env) (s : State) (m : MethodId) (args : Array Value) (below : List Frame) (meth : Method) (c : Code) (A : Nat → Prop) (ls : Array Slot) (Q : State → Prop) (x : ExceptionTableEntry), c.exceptionTable.toList = [x] → x.startPc = x1 → x.endPc = x2 → x.handlerPc = x3 → x.catchType = x4 → CallFix p m c cc maxL s args tb y.cls → meth.sig.returnType = ret → meth.name = y.name → meth.locks = false → cS G k ws tys A s s.heap [] → lv_has ls maxL (lv_args 0 av) → Q = MQ below (va_Qi post (cB G wo to A) A) args s mc ms A → W p l e rm s m args below meth c s.heap [] 0 0 Q (F0 m 0 ls [])) :
    Met l y wsY rm (va_Pc av (cP G k ws tys sz)) (va_Qi post (cB G wo to (va_A ws sz)) (va_A ws sz)) mc ms (va_A ws sz) := by
  subst hw
  refine va_MetW (cc := cc) (maxL := maxL) (ret := ret) hy rfl ?_
  intro p e s m args below meth c s₁ B hml hv
  obtain ⟨rfl, hsz, hP, hK, hD0, hg⟩ := hv
  have hl := lv_entry av (n := maxL) hlen
  rw [lg_entry_eq]
  subst hsz
  have hts := atoms_spec (ws := Cond.codeWith y cc maxL ret [(x1, x2, x3, x4)] :: tb) B.pre
  have X₀ : Stand p l e rm s m av.toArray below meth c s₁ [] 0 0 := Stand.of_body B
  obtain ⟨m9, meth9, c9, hn9, g1, g2, -, -, g5, -⟩ := Cond.codeWith_spec (hts _ List.mem_cons_self)
  cases hn9.symm.trans B.named
  cases g1.symm.trans B.method
  cases g2.symm.trans X₀.code
  obtain ⟨x, hx, hf⟩ : ∃ x : ExceptionTableEntry, c.exceptionTable.toList = [x] ∧ (x.startPc, x.endPc, x.handlerPc, x.catchType) = (x1, x2, x3, x4) := by
    cases hl9 : c.exceptionTable.toList with
    | nil => rw [hl9] at g5; cases g5
    | cons x t =>
      rw [hl9] at g5
      rw [List.map_cons] at g5
      injection g5 with q1 q2
      cases t with
      | nil => exact ⟨x, rfl, q1⟩
      | cons y t => cases q2
  injection hf with f1 f2
  injection f2 with f2 f3
  injection f3 with f3 f4
  exact body p e s m _ below meth c _ _ _ x hx f1 f2 f3 f4 ⟨B.exec, B.bytes, hml, findClass_of_methodNamed B.named, fun w h => hts w (List.mem_cons_of_mem _ h)⟩ B.returns (name_of_methodNamed B.named B.method).1 B.notSynchronized ⟨hK, hP, hD0.self, va_S.rf, fun q h => Or.inr h, hg⟩ hl rfl
end CR

