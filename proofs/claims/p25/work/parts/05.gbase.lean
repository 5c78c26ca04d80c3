-- ===== the words of my contracts: statics and nest words (gx), a contract's start (cP), its end's world (cB), where a walk stands (cS) =====
def untold : Nat → Int32 := fun j => if j = 4 then 3 else if j = 7 then 1000 else 0
def tFirst : Nat → Int32 := fun j => ([0, 3, 4, 5, 7] : List Int32).getD j 0
def tNums : Nat → Int32 := fun j => ([3, 1, 1, 2, 1] : List Int32).getD j 0
def tLeast : Nat → Int32 := fun j => ([0, 0, 0, 0, 1, 0, 0, 1] : List Int32).getD j 0
def tMost : Nat → Int32 := fun j => ([100, 999999, 119, 50, 12, 999999, 10, 999999] : List Int32).getD j 0
def sLen : Nat → Nat := fun i => ([5, 3, 5, 4, 5, 4, 3, 4] : List Nat).getD i 0
def sB : Nat → Nat → Int32 := fun i j => (([[109, 97, 116, 99, 104], [116, 97, 120], [108, 97, 112, 115, 101], [108, 111, 97, 110], [115, 116, 111, 110, 101], [115, 116, 111, 112], [97, 108, 108], [108, 101, 102, 116]] : List (List Int32)).getD i []).getD j 0
/-- a String constant: the object, its coder, its bytes -/
def stW (t u n : Nat) (f : Nat → Int32) (A : Nat → Prop) (U : State) (H : Heap) : Prop := va_O "java/lang/String" t A U H ∧ va_OF "java/lang/String" "coder" "B" (.int 0) t A U H ∧ va_OF "java/lang/String" "value" "[B" (.ref u) t A U H ∧ va_T .byte u n (fun j => .int (f j)) A U H
def gxS (k : Nat → Nat) (A : Nat → Prop) (U : State) (H : Heap) : Prop := ∀ i : Nat, i < 8 → stW (k (10 + i)) (k (20 + i)) (sLen i) (sB i) A U H
theorem gxS.moved {k : Nat → Nat} {A : Nat → Prop} {u U : State} {H : Heap} (hvm : u.vm.Alike U.vm) (h : gxS k A u H) : gxS k A U H := fun i hi => ⟨va_O.moved hvm (h i hi).1, va_OF.moved hvm (h i hi).2.1, va_OF.moved hvm (h i hi).2.2.1, va_T.moved hvm (h i hi).2.2.2⟩
theorem gxS.kept {k : Nat → Nat} {A : Nat → Prop} {U : State} {H H1 : Heap} (h : gxS k A U H) (hq : ∀ a : Nat, a < H.size → ¬ A a → H1[a]? = H[a]?) : gxS k A U H1 := fun i hi => ⟨(h i hi).1.kept hq, (h i hi).2.1.kept hq, (h i hi).2.2.1.kept hq, (h i hi).2.2.2.kept hq⟩
theorem gxS.narrow {k : Nat → Nat} {A B : Nat → Prop} {U : State} {H : Heap} (h : gxS k A U H) (hAB : ∀ q, B q → A q) : gxS k B U H := fun i hi => ⟨(h i hi).1.narrow hAB, (h i hi).2.1.narrow hAB, (h i hi).2.2.1.narrow hAB, (h i hi).2.2.2.narrow hAB⟩
def gxW (k : Nat → Nat) (U : State) : Prop :=
  va_Nw (.methodLinkNest RX10 9 yX6_init "TowerAppeal") U ∧ va_Nw (.methodLinkNest RX10 18 yX9_init "TowerAppeal") U ∧ va_Nw (.methodLinkNest RX10 39 yX2_init "TowerAppeal") U ∧ va_Nw (.methodLinkNest RX10 46 yX5_init "TowerAppeal") U ∧ va_Nw (.methodLinkNest RX10 53 yX3_init "TowerAppeal") U ∧ va_Nw (.methodLinkNest RX10 60 yX7_init "TowerAppeal") U ∧ va_Nw (.methodLinkNest RX0 31 yX10_isGiver "TowerAppeal") U ∧ va_AO RX1 U ∧ va_AO RX4 U ∧ vk_R RX9 98 "match" (k 10) U ∧ vk_R RX9 100 "tax" (k 11) U ∧ vk_R RX9 102 "lapse" (k 12) U ∧ vk_R RX9 104 "loan" (k 13) U ∧ vk_R RX9 106 "stone" (k 14) U ∧ vk_R RX9 108 "stop" (k 15) U ∧ vk_R RX9 90 "all" (k 16) U ∧ vk_R RX9 96 "left" (k 17) U ∧ vk_R RX12 66 "match" (k 10) U ∧ vk_R RX12 72 "tax" (k 11) U ∧ vk_R RX12 74 "lapse" (k 12) U ∧ vk_R RX12 76 "loan" (k 13) U ∧ vk_R RX12 78 "stone" (k 14) U ∧ vk_R RX12 80 "stop" (k 15) U ∧ vk_R RX12 105 "all" (k 16) U ∧ vk_R RX12 107 "left" (k 17) U
def gxH (k : Nat → Nat) (A : Nat → Prop) (U : State) (H : Heap) : Prop :=
  va_Z "TowerAppeal$Trust" "UNTOLD" "[I" (.ref (k 0)) A U H ∧ va_T .int (k 0) 9 (fun j => .int (untold j)) A U H ∧ va_Z "TowerAppealModel" "PLAIN" "[I" (.ref (k 1)) A U H ∧ va_T .int (k 1) 9 (fun j => .int (untold j)) A U H ∧ va_Zq "java/lang/Throwable" "UNASSIGNED_STACK" "[Ljava/lang/StackTraceElement;" A U H ∧ va_Zq "java/lang/Throwable" "SUPPRESSED_SENTINEL" "Ljava/util/List;" A U H ∧ va_Z "TowerAppeal$TrustReader" "FIRST_RULE" "[I" (.ref (k 2)) A U H ∧ va_T .int (k 2) 5 (fun j => .int (tFirst j)) A U H ∧ va_Z "TowerAppeal$TrustReader" "NUMBERS" "[I" (.ref (k 3)) A U H ∧ va_T .int (k 3) 5 (fun j => .int (tNums j)) A U H ∧ va_Z "TowerAppeal$TrustReader" "LEAST" "[I" (.ref (k 4)) A U H ∧ va_T .int (k 4) 8 (fun j => .int (tLeast j)) A U H ∧ va_Z "TowerAppeal$TrustReader" "MOST" "[I" (.ref (k 5)) A U H ∧ va_T .int (k 5) 8 (fun j => .int (tMost j)) A U H ∧ va_Z "java/lang/String" "COMPACT_STRINGS" "Z" (.int 1) A U H ∧ va_Zq "jdk/internal/util/Preconditions" "SIOOBE_FORMATTER" "Ljava/util/function/BiFunction;" A U H ∧ gxS k A U H
def gx (k : Nat → Nat) (A : Nat → Prop) (U : State) (H : Heap) : Prop := gxW k U ∧ gxH k A U H
theorem gxW.calling {k : Nat → Nat} {U : State} (h : gxW k U) (g : JFrame) (mk : MethodId) (a : Array Value) : gxW k (U.calling g mk a) := by
  obtain ⟨h1, h2, h3, h4, h5, h6, h7, h8, h9, h10, h11, h12, h13, h14, h15, h16, h17, h18, h19, h20, h21, h22, h23, h24, h25⟩ := h
  exact ⟨va_Nw.same (u := U) rfl rfl h1, va_Nw.same (u := U) rfl rfl h2, va_Nw.same (u := U) rfl rfl h3, va_Nw.same (u := U) rfl rfl h4, va_Nw.same (u := U) rfl rfl h5, va_Nw.same (u := U) rfl rfl h6, va_Nw.same (u := U) rfl rfl h7, va_AO.moved (u := U) (Vm.Alike.refl U.vm) h8, va_AO.moved (u := U) (Vm.Alike.refl U.vm) h9, vk_R.same (u := U) rfl h10, vk_R.same (u := U) rfl h11, vk_R.same (u := U) rfl h12, vk_R.same (u := U) rfl h13, vk_R.same (u := U) rfl h14, vk_R.same (u := U) rfl h15, vk_R.same (u := U) rfl h16, vk_R.same (u := U) rfl h17, vk_R.same (u := U) rfl h18, vk_R.same (u := U) rfl h19, vk_R.same (u := U) rfl h20, vk_R.same (u := U) rfl h21, vk_R.same (u := U) rfl h22, vk_R.same (u := U) rfl h23, vk_R.same (u := U) rfl h24, vk_R.same (u := U) rfl h25⟩
theorem gxW.warm {k : Nat → Nat} {s U : State} (hW : s.WarmedH U.vm) (h : gxW k s) : gxW k U := by
  obtain ⟨h1, h2, h3, h4, h5, h6, h7, h8, h9, h10, h11, h12, h13, h14, h15, h16, h17, h18, h19, h20, h21, h22, h23, h24, h25⟩ := h
  exact ⟨va_Nw.warmM hW h1, va_Nw.warmM hW h2, va_Nw.warmM hW h3, va_Nw.warmM hW h4, va_Nw.warmM hW h5, va_Nw.warmM hW h6, va_Nw.warmM hW h7, va_AO.moved hW.alike h8, va_AO.moved hW.alike h9, vk_R.warm hW h10, vk_R.warm hW h11, vk_R.warm hW h12, vk_R.warm hW h13, vk_R.warm hW h14, vk_R.warm hW h15, vk_R.warm hW h16, vk_R.warm hW h17, vk_R.warm hW h18, vk_R.warm hW h19, vk_R.warm hW h20, vk_R.warm hW h21, vk_R.warm hW h22, vk_R.warm hW h23, vk_R.warm hW h24, vk_R.warm hW h25⟩
theorem gxH.moved {k : Nat → Nat} {A : Nat → Prop} {u U : State} {H : Heap} (hvm : u.vm.Alike U.vm) (h : gxH k A u H) : gxH k A U H := by
  obtain ⟨h1, h2, h3, h4, h5, h6, h7, h8, h9, h10, h11, h12, h13, h14, h15, h16, h17⟩ := h
  exact ⟨h1.moved hvm, h2.moved hvm, h3.moved hvm, h4.moved hvm, h5.moved hvm, h6.moved hvm, h7.moved hvm, h8.moved hvm, h9.moved hvm, h10.moved hvm, h11.moved hvm, h12.moved hvm, h13.moved hvm, h14.moved hvm, h15.moved hvm, h16.moved hvm, h17.moved hvm⟩
theorem gxH.kept {k : Nat → Nat} {A : Nat → Prop} {U : State} {H H1 : Heap} (h : gxH k A U H) (hq : ∀ a : Nat, a < H.size → ¬ A a → H1[a]? = H[a]?) : gxH k A U H1 := by
  obtain ⟨h1, h2, h3, h4, h5, h6, h7, h8, h9, h10, h11, h12, h13, h14, h15, h16, h17⟩ := h
  exact ⟨h1.kept hq, h2.kept hq, h3.kept hq, h4.kept hq, h5.kept hq, h6.kept hq, h7.kept hq, h8.kept hq, h9.kept hq, h10.kept hq, h11.kept hq, h12.kept hq, h13.kept hq, h14.kept hq, h15.kept hq, h16.kept hq, h17.kept hq⟩
theorem gxH.narrow {k : Nat → Nat} {A : Nat → Prop} {B : Nat → Prop} {U : State} {H : Heap} (h : gxH k A U H) (hAB : ∀ q, B q → A q) : gxH k B U H := by
  obtain ⟨h1, h2, h3, h4, h5, h6, h7, h8, h9, h10, h11, h12, h13, h14, h15, h16, h17⟩ := h
  exact ⟨h1.narrow hAB, h2.narrow hAB, h3.narrow hAB, h4.narrow hAB, h5.narrow hAB, h6.narrow hAB, h7.narrow hAB, h8.narrow hAB, h9.narrow hAB, h10.narrow hAB, h11.narrow hAB, h12.narrow hAB, h13.narrow hAB, h14.narrow hAB, h15.narrow hAB, h16.narrow hAB, h17.narrow hAB⟩
/-- a contract's start: the heap's size, the cells, the classes, apart, the statics -/
def cP (G : va_G) (k : Nat → Nat) (ws : va_W) (tys : List (ClassId × FieldType)) (sz : Nat) (U : State) : Prop :=
  U.heap.size = sz ∧ va_P G vwCl ws U.heap ∧ va_K G vwCl tys U ∧ va_D (fun _ => True) ws ∧ gx k (va_A ws sz) U U.heap
/-- a contract's end: the cells that it hands back, new array classes -/
def cB {S : Type} (G : va_G) (wo : S → va_W) (to : S → List (ClassId × FieldType)) (A : Nat → Prop) (u : S) (t : State) : Prop :=
  va_P G vwCl (wo u) t.heap ∧ va_K G vwCl (to u) t ∧ va_D A (wo u)
/-- where a walk stands -/
def cS (G : va_G) (k : Nat → Nat) (ws : va_W) (tys : List (ClassId × FieldType)) (A : Nat → Prop) (s : State) (H : Heap) (locs : List Loc) : Prop :=
  va_K G vwCl tys s ∧ va_P G vwCl ws H ∧ va_D A ws ∧ va_S A s.heap H locs ∧ (∀ q, s.heap.size ≤ q → A q) ∧ gx k A s s.heap
theorem cP_blind {G : va_G} {k : Nat → Nat} {ws : va_W} {tys : List (ClassId × FieldType)} {sz : Nat} {av : List Value} : FrameBlind (va_Pc av (cP G k ws tys sz)) := by
  intro a U g mk q
  obtain ⟨q0, q1, q2, q3, q4, q5, q6⟩ := q
  exact ⟨q0, q1, q2, va_K.moved (u := U) (U := U.calling g mk a) (Vm.Alike.refl U.vm) q3, q4, q5.calling g mk a, gxH.moved (u := U) (U := U.calling g mk a) (Vm.Alike.refl U.vm) q6⟩
theorem fm_of_map {α β : Type} (f : α → Option β) : ∀ (l : List α) (w : List β), l.map f = w.map some → l.filterMap f = w
  | [], w, h => by cases w with
    | nil => rfl
    | cons b w => cases h
  | x :: l, w, h => by
    cases w with
    | nil => cases h
    | cons b w =>
      rw [List.map_cons, List.map_cons] at h
      injection h with h1 h2
      rw [List.filterMap_cons, h1, fm_of_map f l w h2]
/-- what a call takes of the tables, by the method -/
def mV (y : MethodName) (bytes : ByteArray) (maxL : Nat) (ret : Option FieldType) (n : Nat) : Prop := Cond.code y bytes maxL ret ∈ tb ∧ Cond.initialized y.cls ∈ tb ∧ Cond.instanceMethod y ∈ tb ∧ Cond.selects y.cls y y ∈ tb ∧ (y.cls ≠ "java/lang/invoke/MethodHandle" ∧ y.cls ≠ "java/lang/invoke/VarHandle" ∧ (parseMethodDescriptor y.desc).map (fun d => d.parameters.length) = some n)
def mS (y : MethodName) (bytes : ByteArray) (maxL : Nat) (ret : Option FieldType) (n : Nat) : Prop := Cond.code y bytes maxL ret ∈ tb ∧ Cond.initialized y.cls ∈ tb ∧ Cond.static y ∈ tb ∧ (y.cls ≠ "java/lang/invoke/MethodHandle" ∧ y.cls ≠ "java/lang/invoke/VarHandle" ∧ (parseMethodDescriptor y.desc).map (fun d => d.parameters.length) = some n)
def mI (y : MethodName) (bytes : ByteArray) (maxL : Nat) (n : Nat) : Prop := Cond.code y bytes maxL none ∈ tb ∧ Cond.initialized y.cls ∈ tb ∧ Cond.instanceMethod y ∈ tb ∧ y.name = "<init>" ∧ (y.cls ≠ "java/lang/invoke/MethodHandle" ∧ y.cls ≠ "java/lang/invoke/VarHandle" ∧ (parseMethodDescriptor y.desc).map (fun d => d.parameters.length) = some n)
theorem in_of {C : String} {T : u_T} {N : Nat} (ps : List Nat) (h : ∀ j, j < N → lw_tbl[ps.getD j 0]? = some (u_lay C T j) ∧ goodWord (u_lay C T j) = true) : ∀ w ∈ u_ws C T N, w ∈ tb := by
  intro w hw
  obtain ⟨j, hj, rfl⟩ := List.mem_map.mp hw
  have hj := List.mem_range.mp hj
  exact tb_mem _ (h j hj).1 (h j hj).2
theorem ci_lt {x y : Int32} {u v : Int} (hx : x.toInt = u) (hy : y.toInt = v) (h : x < y) : u < v := by rw [← hx, ← hy]; exact Int32.lt_iff_toInt_lt.mp h
theorem ci_nlt {x y : Int32} {u v : Int} (hx : x.toInt = u) (hy : y.toInt = v) (h : ¬ x < y) : ¬ u < v := by rw [← hx, ← hy]; exact fun q => h (Int32.lt_iff_toInt_lt.mpr q)
theorem ci_le {x y : Int32} {u v : Int} (hx : x.toInt = u) (hy : y.toInt = v) (h : x ≤ y) : u ≤ v := by rw [← hx, ← hy]; exact Int32.le_iff_toInt_le.mp h
theorem ci_nle {x y : Int32} {u v : Int} (hx : x.toInt = u) (hy : y.toInt = v) (h : ¬ x ≤ y) : ¬ u ≤ v := by rw [← hx, ← hy]; exact fun q => h (Int32.le_iff_toInt_le.mpr q)
theorem ci_eq {x y : Int32} {u v : Int} (hx : x.toInt = u) (hy : y.toInt = v) (h : x = y) : u = v := by rw [← hx, ← hy, h]
theorem ci_ne {x y : Int32} {u v : Int} (hx : x.toInt = u) (hy : y.toInt = v) (h : ¬ x = y) : ¬ u = v := by rw [← hx, ← hy]; exact fun q => h (Int32.toInt_inj.mp q)
theorem ci_bm (z : Int) : z.bmod (2 ^ 32) = (z + 2147483648) % 4294967296 - 2147483648 := by simp only [Int.bmod]; omega
theorem ci_add {x y z : Int32} {u v : Int} (hx : x.toInt = u) (hy : y.toInt = v) (h : z = x + y) : z.toInt = (u + v + 2147483648) % 4294967296 - 2147483648 := by rw [h, Int32.toInt_add, hx, hy]; exact ci_bm _
theorem ci_sub {x y z : Int32} {u v : Int} (hx : x.toInt = u) (hy : y.toInt = v) (h : z = x - y) : z.toInt = (u - v + 2147483648) % 4294967296 - 2147483648 := by rw [h, Int32.toInt_sub, hx, hy]; exact ci_bm _
theorem ci_rng (x : Int32) : -2147483648 ≤ x.toInt ∧ x.toInt < 2147483648 := ⟨by have := Int32.le_toInt x; omega, by have := Int32.toInt_lt x; omega⟩
section CB
variable {p : Program} {l : Launch} {e : Env} {R : Room} {s : State} {m : MethodId} {args : Array Value} {below : List Frame} {meth : Method} {c : Code} {H : Heap} {locs : List Loc} {cells slots : Nat} {Q : State → Prop}
variable {cc : ByteArray} {pc nL : Nat} {ls : Array Slot} {rest : List Value} {G : va_G} {k : Nat → Nat} {A : Nat → Prop} {a : Nat} {tys tc : List (ClassId × FieldType)} {ws wc wr w' : va_W} {own : String}
theorem top_i {x y : Int32} (h : x = y) (kk : W p l e R s m args below meth c H locs cells slots Q (F0 m pc ls (.int y :: rest))) : W p l e R s m args below meth c H locs cells slots Q (F0 m pc ls (.int x :: rest)) := h ▸ kk
/-- a method's start -/
theorem ofC {y : MethodName} {wsY : List Cond} {cd : Cond} {rm : Room} {sz mc ms maxL : Nat} {av : List Value} {ret : Option FieldType} {Qc : (Nat → Prop) → Array Value → State → Outcome → State → Prop}
    (hy : plainName y.cls = true) (hcd : cd = Cond.code y cc maxL ret) (hw : wsY = cd :: tb) (hlen : (lg_sl av).length ≤ maxL)
    (body : ∀ (p : Program) (e : Env) (s : State) (m : MethodId) (args : Array Value) (below : List Frame) (meth : Method) (c : Code) (A : Nat → Prop) (ls : Array Slot) (Q : State → Prop), CallFix p m c cc maxL s args tb y.cls → meth.sig.returnType = ret → meth.name = y.name → meth.locks = false → cS G k ws tys A s s.heap [] → lv_has ls maxL (lv_args 0 av) → Q = MQ below (Qc A) args s mc ms A → W p l e rm s m args below meth c s.heap [] 0 0 Q (F0 m 0 ls [])) :
    Met l y wsY rm (va_Pc av (cP G k ws tys sz)) (Qc (va_A ws sz)) mc ms (va_A ws sz) := by
  subst hcd
  subst hw
  refine Met.ofW (cc := cc) (maxL := maxL) (ret := ret) hy rfl ?_
  intro p e s m args below meth c s₁ B hml hv
  obtain ⟨rfl, hsz, hP, hK, hD0, hg⟩ := hv
  have hl := lv_entry av (n := maxL) hlen
  rw [lg_entry_eq]
  subst hsz
  have hts := atoms_spec (ws := Cond.code y cc maxL ret :: tb) B.pre
  exact body p e s m _ below meth c _ _ _ ⟨B.exec, B.bytes, hml, findClass_of_methodNamed B.named, fun w h => hts w (List.mem_cons_of_mem _ h)⟩ B.returns (name_of_methodNamed B.named B.method).1 B.notSynchronized ⟨hK, hP, hD0.self, va_S.rf, fun q h => Or.inr h, hg⟩ hl rfl
theorem ofC_i {S : Type} {post : Int32 → S → Prop} {wo : S → va_W} {to : S → List (ClassId × FieldType)} {y : MethodName} {wsY : List Cond} {rm : Room} {sz mc ms maxL : Nat} {av : List Value} {ret : Option FieldType}
    (hy : plainName y.cls = true) (hw : wsY = Cond.code y cc maxL ret :: tb) (hlen : (lg_sl av).length ≤ maxL)
    (body : ∀ (p : Program) (e : Env) (s : State) (m : MethodId) (args : Array Value) (below : List Frame) (meth : Method) (c : Code) (A : Nat → Prop) (ls : Array Slot) (Q : State → Prop), CallFix p m c cc maxL s args tb y.cls → meth.sig.returnType = ret → meth.name = y.name → meth.locks = false → cS G k ws tys A s s.heap [] → lv_has ls maxL (lv_args 0 av) → Q = MQ below (va_Qi post (cB G wo to A) A) args s mc ms A → W p l e rm s m args below meth c s.heap [] 0 0 Q (F0 m 0 ls [])) :
    Met l y wsY rm (va_Pc av (cP G k ws tys sz)) (va_Qi post (cB G wo to (va_A ws sz)) (va_A ws sz)) mc ms (va_A ws sz) := ofC (Qc := fun A => va_Qi post (cB G wo to A) A) hy rfl hw hlen body
theorem ofC_l {S : Type} {post : Int64 → S → Prop} {wo : S → va_W} {to : S → List (ClassId × FieldType)} {y : MethodName} {wsY : List Cond} {rm : Room} {sz mc ms maxL : Nat} {av : List Value} {ret : Option FieldType}
    (hy : plainName y.cls = true) (hw : wsY = Cond.code y cc maxL ret :: tb) (hlen : (lg_sl av).length ≤ maxL)
    (body : ∀ (p : Program) (e : Env) (s : State) (m : MethodId) (args : Array Value) (below : List Frame) (meth : Method) (c : Code) (A : Nat → Prop) (ls : Array Slot) (Q : State → Prop), CallFix p m c cc maxL s args tb y.cls → meth.sig.returnType = ret → meth.name = y.name → meth.locks = false → cS G k ws tys A s s.heap [] → lv_has ls maxL (lv_args 0 av) → Q = MQ below (va_Ql post (cB G wo to A) A) args s mc ms A → W p l e rm s m args below meth c s.heap [] 0 0 Q (F0 m 0 ls [])) :
    Met l y wsY rm (va_Pc av (cP G k ws tys sz)) (va_Ql post (cB G wo to (va_A ws sz)) (va_A ws sz)) mc ms (va_A ws sz) := ofC (Qc := fun A => va_Ql post (cB G wo to A) A) hy rfl hw hlen body
theorem ofC_v {S : Type} {post : S → Prop} {wo : S → va_W} {to : S → List (ClassId × FieldType)} {y : MethodName} {wsY : List Cond} {rm : Room} {sz mc ms maxL : Nat} {av : List Value} {ret : Option FieldType}
    (hy : plainName y.cls = true) (hw : wsY = Cond.code y cc maxL ret :: tb) (hlen : (lg_sl av).length ≤ maxL)
    (body : ∀ (p : Program) (e : Env) (s : State) (m : MethodId) (args : Array Value) (below : List Frame) (meth : Method) (c : Code) (A : Nat → Prop) (ls : Array Slot) (Q : State → Prop), CallFix p m c cc maxL s args tb y.cls → meth.sig.returnType = ret → meth.name = y.name → meth.locks = false → cS G k ws tys A s s.heap [] → lv_has ls maxL (lv_args 0 av) → Q = MQ below (va_Qv post (cB G wo to A) A) args s mc ms A → W p l e rm s m args below meth c s.heap [] 0 0 Q (F0 m 0 ls [])) :
    Met l y wsY rm (va_Pc av (cP G k ws tys sz)) (va_Qv post (cB G wo to (va_A ws sz)) (va_A ws sz)) mc ms (va_A ws sz) := ofC (Qc := fun A => va_Qv post (cB G wo to A) A) hy rfl hw hlen body
theorem ofC_q {S : Type} {post : Option Nat → S → Prop} {wo : S → va_W} {to : S → List (ClassId × FieldType)} {y : MethodName} {wsY : List Cond} {rm : Room} {sz mc ms maxL : Nat} {av : List Value} {ret : Option FieldType}
    (hy : plainName y.cls = true) (hw : wsY = Cond.code y cc maxL ret :: tb) (hlen : (lg_sl av).length ≤ maxL)
    (body : ∀ (p : Program) (e : Env) (s : State) (m : MethodId) (args : Array Value) (below : List Frame) (meth : Method) (c : Code) (A : Nat → Prop) (ls : Array Slot) (Q : State → Prop), CallFix p m c cc maxL s args tb y.cls → meth.sig.returnType = ret → meth.name = y.name → meth.locks = false → cS G k ws tys A s s.heap [] → lv_has ls maxL (lv_args 0 av) → Q = MQ below (va_Qq post (cB G wo to A) A) args s mc ms A → W p l e rm s m args below meth c s.heap [] 0 0 Q (F0 m 0 ls [])) :
    Met l y wsY rm (va_Pc av (cP G k ws tys sz)) (va_Qq post (cB G wo to (va_A ws sz)) (va_A ws sz)) mc ms (va_A ws sz) := ofC (Qc := fun A => va_Qq post (cB G wo to A) A) hy rfl hw hlen body
theorem cS.toS (St : cS G k ws tys A s H locs) : va_S A s.heap H locs := St.2.2.2.1
/-- what a callee asks, out of where the walk stands -/
theorem cs_pre (St : cS G k ws tys A s H locs) {av : List Value} (isC : List Nat) (hC : isC.map (fun i => ws[i]?) = wc.map some) (hn : va_nd isC = true) (itC : List Nat) (hT : itC.filterMap (fun i => tys[i]?) = tc) : PreS s H (va_Pc av (cP G k wc tc H.size)) av := by
  obtain ⟨hK, hP, hD, hS, hA, hg⟩ := St
  have hF := va_free (wc := wc) hD hS hA isC hC
  have hP2 := hP.sub (ws' := wc) isC (fm_of_map _ _ _ hC)
  have hD2 := hD.sub (ws' := wc) isC hn hC
  have hK2 := hK.sub (tys' := tc) itC hT
  refine ⟨cP_blind, fun U hU hW => ⟨rfl, by rw [hU], by rw [hU]; exact hP2, va_K.moved hW.alike hK2, hD2.weaken (fun _ _ _ _ => trivial), hg.1.warm hW, ?_⟩⟩
  have h2 := ((hg.2.moved hW.alike).kept (H1 := H) (fun q h1 h2 => hS.2.1 q h1 h2)).narrow hF
  rw [hU]
  exact h2
theorem cs_preV (St : cS G k ws tys A s H locs) {av : List Value} {b : Addr} {C : String} (isC : List Nat) (hC : isC.map (fun i => ws[i]?) = wc.map some) (hn : va_nd isC = true) (itC : List Nat) (hT : itC.filterMap (fun i => tys[i]?) = tc) {ci q0 : Nat} {T : u_T} {N : Nat} {fs : List Value} (hc : vwCl[ci]? = some (C, T, N)) (he : ws[q0]? = some (b, .inr (ci, fs))) : PreV s H C b (va_Pc (.ref b :: av) (cP G k wc tc H.size)) av :=
  ⟨(cs_pre St isC hC hn itC hT (av := .ref b :: av)).1, va_recv St.1 St.2.1 hc he, (cs_pre St isC hC hn itC hT).2⟩
theorem cs_back {S : Type} {wo : S → va_W} {to : S → List (ClassId × FieldType)} (St : cS G k ws tys A s H locs) (isC isR : List Nat) (hC : isC.map (fun i => ws[i]?) = wc.map some) (hR : isR.map (fun i => ws[i]?) = wr.map some) (hn : va_nd isR = true) (hdis : ∀ i ∈ isR, i ∉ isC) {u : S} {t : State} {H1 : Heap} {locs1 : List Loc} (ht : t.heap = H1) (hvm : s.vm.Alike t.vm) (hB : cB G wo to (va_A wc H.size) u t) (hk : ∀ q : Nat, q < H.size → ¬ va_A wc H.size q → H1[q]? = H[q]?) (hS1 : va_S A s.heap H1 locs1) : cS G k (wr ++ wo u) (tys ++ to u) A s H1 locs1 := by
  obtain ⟨hK, hP, hD, hS, hA, hg⟩ := St
  obtain ⟨hP1, hK1, hD1⟩ := hB
  rw [ht] at hP1
  obtain ⟨hP2, hD2⟩ := va_join (wr := wr) (w1 := wo u) hP hD isC isR hC hR hn hdis hk (va_free (wc := wc) hD hS hA isC hC) hP1 hD1
  exact ⟨hK.app (va_K.moved hvm.symm hK1), hP2, hD2, hS1, hA, hg⟩
theorem cs_i {S : Type} {post : Int32 → S → Prop} {wo : S → va_W} {to : S → List (ClassId × FieldType)} {mc ms : Nat} {st0 : List Value} {av : Array Value} (St : cS G k ws tys A s H locs) (isC isR : List Nat) (hC : isC.map (fun i => ws[i]?) = wc.map some) (hR : isR.map (fun i => ws[i]?) = wr.map some) (hn : va_nd isR = true) (hdis : ∀ i ∈ isR, i ∉ isC)
    (hr : va_Run p l e R s m args below meth c H locs cells slots mc ms (F0 m pc ls st0) rest (va_Qi post (cB G wo to (va_A wc H.size)) (va_A wc H.size) av) (va_A wc H.size))
    (kk : ∀ (r : Int32) (u : S) (H1 : Heap) (locs1 : List Loc), post r u → cS G k (wr ++ wo u) (tys ++ to u) A s H1 locs1 → W p l e R s m args below meth c H1 locs1 (cells + mc) (slots + ms) Q (F0 m (pc + 3) ls (.int r :: rest))) : W p l e R s m args below meth c H locs cells slots Q (F0 m pc ls st0) := by
  have hF := va_free (wc := wc) St.2.2.1 St.toS St.2.2.2.2.1 isC hC
  exact va_calli hr St.toS (fun q _ h => hF q h) hF (fun r u t H1 locs1 ht hvm hp hB hz hk hS1 => kk r u H1 locs1 hp (cs_back St isC isR hC hR hn hdis ht hvm hB hk hS1))
theorem cs_l {S : Type} {post : Int64 → S → Prop} {wo : S → va_W} {to : S → List (ClassId × FieldType)} {mc ms : Nat} {st0 : List Value} {av : Array Value} (St : cS G k ws tys A s H locs) (isC isR : List Nat) (hC : isC.map (fun i => ws[i]?) = wc.map some) (hR : isR.map (fun i => ws[i]?) = wr.map some) (hn : va_nd isR = true) (hdis : ∀ i ∈ isR, i ∉ isC)
    (hr : va_Run p l e R s m args below meth c H locs cells slots mc ms (F0 m pc ls st0) rest (va_Ql post (cB G wo to (va_A wc H.size)) (va_A wc H.size) av) (va_A wc H.size))
    (kk : ∀ (r : Int64) (u : S) (H1 : Heap) (locs1 : List Loc), post r u → cS G k (wr ++ wo u) (tys ++ to u) A s H1 locs1 → W p l e R s m args below meth c H1 locs1 (cells + mc) (slots + ms) Q (F0 m (pc + 3) ls (.long r :: rest))) : W p l e R s m args below meth c H locs cells slots Q (F0 m pc ls st0) := by
  have hF := va_free (wc := wc) St.2.2.1 St.toS St.2.2.2.2.1 isC hC
  exact va_calll hr St.toS (fun q _ h => hF q h) hF (fun r u t H1 locs1 ht hvm hp hB hz hk hS1 => kk r u H1 locs1 hp (cs_back St isC isR hC hR hn hdis ht hvm hB hk hS1))
theorem cs_v {S : Type} {post : S → Prop} {wo : S → va_W} {to : S → List (ClassId × FieldType)} {mc ms : Nat} {st0 : List Value} {av : Array Value} (St : cS G k ws tys A s H locs) (isC isR : List Nat) (hC : isC.map (fun i => ws[i]?) = wc.map some) (hR : isR.map (fun i => ws[i]?) = wr.map some) (hn : va_nd isR = true) (hdis : ∀ i ∈ isR, i ∉ isC)
    (hr : va_Run p l e R s m args below meth c H locs cells slots mc ms (F0 m pc ls st0) rest (va_Qv post (cB G wo to (va_A wc H.size)) (va_A wc H.size) av) (va_A wc H.size))
    (kk : ∀ (u : S) (H1 : Heap) (locs1 : List Loc), post u → cS G k (wr ++ wo u) (tys ++ to u) A s H1 locs1 → W p l e R s m args below meth c H1 locs1 (cells + mc) (slots + ms) Q (F0 m (pc + 3) ls rest)) : W p l e R s m args below meth c H locs cells slots Q (F0 m pc ls st0) := by
  have hF := va_free (wc := wc) St.2.2.1 St.toS St.2.2.2.2.1 isC hC
  exact va_callv hr St.toS (fun q _ h => hF q h) hF (fun u t H1 locs1 ht hvm hp hB hz hk hS1 => kk u H1 locs1 hp (cs_back St isC isR hC hR hn hdis ht hvm hB hk hS1))
theorem cs_q {S : Type} {post : Option Nat → S → Prop} {wo : S → va_W} {to : S → List (ClassId × FieldType)} {mc ms : Nat} {st0 : List Value} {av : Array Value} (St : cS G k ws tys A s H locs) (isC isR : List Nat) (hC : isC.map (fun i => ws[i]?) = wc.map some) (hR : isR.map (fun i => ws[i]?) = wr.map some) (hn : va_nd isR = true) (hdis : ∀ i ∈ isR, i ∉ isC)
    (hr : va_Run p l e R s m args below meth c H locs cells slots mc ms (F0 m pc ls st0) rest (va_Qq post (cB G wo to (va_A wc H.size)) (va_A wc H.size) av) (va_A wc H.size))
    (kk : ∀ (r : Option Nat) (u : S) (H1 : Heap) (locs1 : List Loc), post r u → cS G k (wr ++ wo u) (tys ++ to u) A s H1 locs1 → W p l e R s m args below meth c H1 locs1 (cells + mc) (slots + ms) Q (F0 m (pc + 3) ls (va_rf r :: rest))) : W p l e R s m args below meth c H locs cells slots Q (F0 m pc ls st0) := by
  have hF := va_free (wc := wc) St.2.2.1 St.toS St.2.2.2.2.1 isC hC
  exact va_callq hr St.toS (fun q _ h => hF q h) hF (fun r u t H1 locs1 ht hvm hp hB hz hk hS1 => kk r u H1 locs1 hp (cs_back St isC isR hC hR hn hdis ht hvm hB hk hS1))
-- calls
theorem cwVt {y : MethodName} {bytes : ByteArray} {maxL n index mc ms : Nat} {ret : Option FieldType} {rm : Room} (F : CallFix p m c cc nL s args tb own) (h : mV y bytes maxL ret n) (hl : Cond.methodLink own index y ∈ tb) (hrc : rm.cells = mc) (hrs : rm.slots = ms) (hR : rm.frames + 1 ≤ R.frames ∧ 8 + (maxL + 11) + rm.locals ≤ R.locals) : CallW R s args own y.cls index y bytes maxL ret (Cond.code y bytes maxL ret :: tb) rm mc ms n :=
  ⟨callB_of n F.2.2.2.2 (tb_GoodT h.1) rfl hrc hrs (F.2.2.2.2 _ h.2.1) (F.2.2.2.2 _ hl) h.2.2.2.2 hR, F.2.2.2.2 _ h.2.2.1, F.2.2.2.2 _ h.2.2.2.1⟩
theorem cwSt {y : MethodName} {bytes : ByteArray} {maxL n index mc ms : Nat} {ret : Option FieldType} {rm : Room} (F : CallFix p m c cc nL s args tb own) (h : mS y bytes maxL ret n) (hl : Cond.methodLink own index y ∈ tb) (hrc : rm.cells = mc) (hrs : rm.slots = ms) (hR : rm.frames + 1 ≤ R.frames ∧ 8 + (maxL + 11) + rm.locals ≤ R.locals) : CallB R s args own index y bytes maxL ret (Cond.code y bytes maxL ret :: tb) rm mc ms n ∧ (Cond.static y).before args s = true :=
  ⟨callB_of n F.2.2.2.2 (tb_GoodT h.1) rfl hrc hrs (F.2.2.2.2 _ h.2.1) (F.2.2.2.2 _ hl) h.2.2.2 hR, F.2.2.2.2 _ h.2.2.1⟩
theorem cwIt {y : MethodName} {bytes : ByteArray} {maxL n index mc ms : Nat} {rm : Room} (F : CallFix p m c cc nL s args tb own) (h : mI y bytes maxL n) (hl : Cond.methodLink own index y ∈ tb) (hrc : rm.cells = mc) (hrs : rm.slots = ms) (hR : rm.frames + 1 ≤ R.frames ∧ 8 + (maxL + 11) + rm.locals ≤ R.locals) : CallB R s args own index y bytes maxL none (Cond.code y bytes maxL none :: tb) rm mc ms n ∧ y.name = "<init>" ∧ (Cond.instanceMethod y).before args s = true :=
  ⟨callB_of n F.2.2.2.2 (tb_GoodT h.1) rfl hrc hrs (F.2.2.2.2 _ h.2.1) (F.2.2.2.2 _ hl) h.2.2.2.2 hR, h.2.2.2.1, F.2.2.2.2 _ h.2.2.1⟩
theorem cwINt {y : MethodName} {bytes : ByteArray} {maxL n index mc ms : Nat} {host : String} {rm : Room} (F : CallFix p m c cc nL s args tb own) (h : mI y bytes maxL n) (hl : va_Nw (.methodLinkNest own index y host) s) (hrc : rm.cells = mc) (hrs : rm.slots = ms) (hR : rm.frames + 1 ≤ R.frames ∧ 8 + (maxL + 11) + rm.locals ≤ R.locals) : va_CN R s args own index y host bytes maxL none (Cond.code y bytes maxL none :: tb) rm mc ms n ∧ y.name = "<init>" ∧ (Cond.instanceMethod y).before args s = true :=
  ⟨va_cnB n F.2.2.2.2 (tb_GoodT h.1) rfl hrc hrs hl (F.2.2.2.2 _ h.2.1) h.2.2.2.2 hR, h.2.2.2.1, F.2.2.2.2 _ h.2.2.1⟩
theorem cwSNt {y : MethodName} {bytes : ByteArray} {maxL n index mc ms : Nat} {ret : Option FieldType} {host : String} {rm : Room} (F : CallFix p m c cc nL s args tb own) (h : mS y bytes maxL ret n) (hl : va_Nw (.methodLinkNest own index y host) s) (hrc : rm.cells = mc) (hrs : rm.slots = ms) (hR : rm.frames + 1 ≤ R.frames ∧ 8 + (maxL + 11) + rm.locals ≤ R.locals) : va_CN R s args own index y host bytes maxL ret (Cond.code y bytes maxL ret :: tb) rm mc ms n ∧ (Cond.static y).before args s = true ∧ True :=
  ⟨va_cnB n F.2.2.2.2 (tb_GoodT h.1) rfl hrc hrs hl (F.2.2.2.2 _ h.2.1) h.2.2.2 hR, F.2.2.2.2 _ h.2.2.1, trivial⟩
-- fields
theorem cs_get (F : CallFix p m c cc nL s args tb own) (St : cS G k ws tys A s H locs) (q0 : Nat) {C : String} {T : u_T} {N ci index : Nat} {fs : List Value} (he : ws[q0]? = some (a, .inr (ci, fs))) (hc : vwCl[ci]? = some (C, T, N)) (hin : ∀ w ∈ u_ws C T N, w ∈ tb) (j : Nat) (hj : j < N) (hlink : Cond.fieldLink own index (T j).1 (T j).2.1 (T j).2.2.1 ∈ tb) {v : Value} (hv : fs[j]? = some v) (hdg : decode cc pc = .ok (.getfield index, 3))
    (kk : W p l e R s m args below meth c H locs cells slots Q (F0 m (pc + 3) ls (v :: rest))) : W p l e R s m args below meth c H locs cells slots Q (F0 m pc ls (.ref a :: rest)) :=
  va_get F.1 F.2.1 F.2.2.2.2 hin F.2.2.2.1 St.1 St.2.1 q0 he hc j hj (F.2.2.2.2 _ hlink) (fun _ h => h) hv hdg kk
theorem cs_put (F : CallFix p m c cc nL s args tb own) (St : cS G k ws tys A s H locs) (q0 : Nat) {C : String} {T : u_T} {N ci index : Nat} {fs : List Value} (he : ws[q0]? = some (a, .inr (ci, fs))) (hc : vwCl[ci]? = some (C, T, N)) (hin : ∀ w ∈ u_ws C T N, w ∈ tb) {ty0 : Nat → FieldType} (hty : ∀ k, k < N → parseFieldDescriptor (T k).2.2.1 = some (ty0 k)) (hnm : ∀ a, a < N → ∀ b, b < N → a ≠ b → (T a).2.1 ≠ (T b).2.1) (j : Nat) (hj : j < N) (hlink : Cond.fieldLink own index (T j).1 (T j).2.1 (T j).2.2.1 ∈ tb) (hfin : (T j).2.2.2 = false) {v : Value} (hn : narrow (ty0 j) v = v) (hfit : fits (ty0 j) v = true) (hl : j < fs.length) (hw : ws.set q0 (a, .inr (ci, fs.set j v)) = w') (hdg : decode cc pc = .ok (.putfield index, 3))
    (kk : ∀ (H1 : Heap) (locs1 : List Loc), cS G k w' tys A s H1 locs1 → W p l e R s m args below meth c H1 locs1 cells slots Q (F0 m (pc + 3) ls rest)) : W p l e R s m args below meth c H locs cells slots Q (F0 m pc ls (v :: .ref a :: rest)) := by
  subst hw
  exact va_put F.1 F.2.1 F.2.2.2.2 hin ty0 hty hnm F.2.2.2.1 St.1 St.2.1 St.2.2.1 St.toS q0 he hc j hj (F.2.2.2.2 _ hlink) (fun _ h => h) hfin (hty j hj) hn hfit hl hdg (fun H1 locs1 hP hD hS => kk H1 locs1 ⟨St.1, hP, hD, hS, St.2.2.2.2.1, St.2.2.2.2.2⟩)
theorem cs_putF (F : CallFix p m c cc nL s args tb own) (hin2 : meth.name = "<init>") (St : cS G k ws tys A s H locs) (q0 : Nat) {C : String} {T : u_T} {N ci index : Nat} {fs : List Value} (he : ws[q0]? = some (a, .inr (ci, fs))) (hc : vwCl[ci]? = some (C, T, N)) (hin : ∀ w ∈ u_ws C T N, w ∈ tb) {ty0 : Nat → FieldType} (hty : ∀ k, k < N → parseFieldDescriptor (T k).2.2.1 = some (ty0 k)) (hnm : ∀ a, a < N → ∀ b, b < N → a ≠ b → (T a).2.1 ≠ (T b).2.1) (j : Nat) (hj : j < N) (hlink : Cond.fieldLink own index (T j).1 (T j).2.1 (T j).2.2.1 ∈ tb) (hfin : (T j).2.2.2 = true) (hdecl : (T j).1 = own) {v : Value} (hn : narrow (ty0 j) v = v) (hfit : fits (ty0 j) v = true) (hl : j < fs.length) (hw : ws.set q0 (a, .inr (ci, fs.set j v)) = w') (hdg : decode cc pc = .ok (.putfield index, 3))
    (kk : ∀ (H1 : Heap) (locs1 : List Loc), cS G k w' tys A s H1 locs1 → W p l e R s m args below meth c H1 locs1 cells slots Q (F0 m (pc + 3) ls rest)) : W p l e R s m args below meth c H locs cells slots Q (F0 m pc ls (v :: .ref a :: rest)) := by
  subst hw
  exact va_putF F.1 F.2.1 F.2.2.2.2 hin ty0 hty hnm F.2.2.2.1 St.1 St.2.1 St.2.2.1 St.toS q0 he hc j hj (F.2.2.2.2 _ hlink) (fun _ h => h) hfin hin2 hdecl (hty j hj) hn hfit hl hdg (fun H1 locs1 hP hD hS => kk H1 locs1 ⟨St.1, hP, hD, hS, St.2.2.2.2.1, St.2.2.2.2.2⟩)
-- arrays
theorem cs_ild (F : CallFix p m c cc nL s args tb own) (St : cS G k ws tys A s H locs) (q0 t0 : Nat) {cA : ClassId} {n : Nat} {f : Nat → Int32} (ha : ws[q0]? = some (a, .inl (cA, n, .inl f))) (ht : tys[t0]? = some (cA, .int)) {i : Int32} (hin : vp_in i n) (hdg : decode cc pc = .ok (.iaload, 1))
    (kk : W p l e R s m args below meth c H locs cells slots Q (F0 m (pc + 1) ls (.int (f i.toNatClampNeg) :: rest))) : W p l e R s m args below meth c H locs cells slots Q (F0 m pc ls (.int i :: .ref a :: rest)) := va_iald F.1 F.2.1 St.1 St.2.1 q0 t0 ha ht hin hdg kk
theorem cs_bld (F : CallFix p m c cc nL s args tb own) (St : cS G k ws tys A s H locs) (q0 t0 : Nat) {cA : ClassId} {n : Nat} {f : Nat → Int32} (ha : ws[q0]? = some (a, .inl (cA, n, .inl f))) (ht : tys[t0]? = some (cA, .byte)) {i : Int32} (hin : vp_in i n) (hdg : decode cc pc = .ok (.baload, 1))
    (kk : W p l e R s m args below meth c H locs cells slots Q (F0 m (pc + 1) ls (.int (f i.toNatClampNeg) :: rest))) : W p l e R s m args below meth c H locs cells slots Q (F0 m pc ls (.int i :: .ref a :: rest)) := va_bald F.1 F.2.1 St.1 St.2.1 q0 t0 ha ht hin hdg kk
theorem cs_zld (F : CallFix p m c cc nL s args tb own) (St : cS G k ws tys A s H locs) (q0 t0 : Nat) {cA : ClassId} {n : Nat} {f : Nat → Int32} (ha : ws[q0]? = some (a, .inl (cA, n, .inl f))) (ht : tys[t0]? = some (cA, .boolean)) {i : Int32} (hin : vp_in i n) (hdg : decode cc pc = .ok (.baload, 1))
    (kk : W p l e R s m args below meth c H locs cells slots Q (F0 m (pc + 1) ls (.int (f i.toNatClampNeg) :: rest))) : W p l e R s m args below meth c H locs cells slots Q (F0 m pc ls (.int i :: .ref a :: rest)) := va_zald F.1 F.2.1 St.1 St.2.1 q0 t0 ha ht hin hdg kk
theorem cs_ist (F : CallFix p m c cc nL s args tb own) (St : cS G k ws tys A s H locs) (q0 t0 : Nat) {cA : ClassId} {n : Nat} {f : Nat → Int32} (ha : ws[q0]? = some (a, .inl (cA, n, .inl f))) (ht : tys[t0]? = some (cA, .int)) {i x : Int32} (hin : vp_in i n) (hw : ws.set q0 (a, .inl (cA, n, .inl (upd f i.toNatClampNeg x))) = w') (hdg : decode cc pc = .ok (.iastore, 1))
    (kk : ∀ (H1 : Heap) (locs1 : List Loc), cS G k w' tys A s H1 locs1 → W p l e R s m args below meth c H1 locs1 cells slots Q (F0 m (pc + 1) ls rest)) : W p l e R s m args below meth c H locs cells slots Q (F0 m pc ls (.int x :: .int i :: .ref a :: rest)) := by
  subst hw
  exact va_iast F.1 F.2.1 St.1 St.2.1 St.2.2.1 St.toS q0 t0 ha ht hin hdg (fun H1 locs1 hP hD hS => kk H1 locs1 ⟨St.1, hP, hD, hS, St.2.2.2.2.1, St.2.2.2.2.2⟩)
theorem cs_bst (F : CallFix p m c cc nL s args tb own) (St : cS G k ws tys A s H locs) (q0 t0 : Nat) {cA : ClassId} {n : Nat} {f : Nat → Int32} (ha : ws[q0]? = some (a, .inl (cA, n, .inl f))) (ht : tys[t0]? = some (cA, .byte)) {i x : Int32} (hin : vp_in i n) (hw : ws.set q0 (a, .inl (cA, n, .inl (upd f i.toNatClampNeg (vp_nar .byte x)))) = w') (hdg : decode cc pc = .ok (.bastore, 1))
    (kk : ∀ (H1 : Heap) (locs1 : List Loc), cS G k w' tys A s H1 locs1 → W p l e R s m args below meth c H1 locs1 cells slots Q (F0 m (pc + 1) ls rest)) : W p l e R s m args below meth c H locs cells slots Q (F0 m pc ls (.int x :: .int i :: .ref a :: rest)) := by
  subst hw
  exact va_bast F.1 F.2.1 St.1 St.2.1 St.2.2.1 St.toS q0 t0 ha ht hin hdg (fun H1 locs1 hP hD hS => kk H1 locs1 ⟨St.1, hP, hD, hS, St.2.2.2.2.1, St.2.2.2.2.2⟩)
theorem cs_zst (F : CallFix p m c cc nL s args tb own) (St : cS G k ws tys A s H locs) (q0 t0 : Nat) {cA : ClassId} {n : Nat} {f : Nat → Int32} (ha : ws[q0]? = some (a, .inl (cA, n, .inl f))) (ht : tys[t0]? = some (cA, .boolean)) {i x : Int32} (hin : vp_in i n) (hw : ws.set q0 (a, .inl (cA, n, .inl (upd f i.toNatClampNeg (vp_nar .boolean x)))) = w') (hdg : decode cc pc = .ok (.bastore, 1))
    (kk : ∀ (H1 : Heap) (locs1 : List Loc), cS G k w' tys A s H1 locs1 → W p l e R s m args below meth c H1 locs1 cells slots Q (F0 m (pc + 1) ls rest)) : W p l e R s m args below meth c H locs cells slots Q (F0 m pc ls (.int x :: .int i :: .ref a :: rest)) := by
  subst hw
  exact va_zast F.1 F.2.1 St.1 St.2.1 St.2.2.1 St.toS q0 t0 ha ht hin hdg (fun H1 locs1 hP hD hS => kk H1 locs1 ⟨St.1, hP, hD, hS, St.2.2.2.2.1, St.2.2.2.2.2⟩)
theorem cs_len (F : CallFix p m c cc nL s args tb own) (St : cS G k ws tys A s H locs) (q0 t0 : Nat) {cA : ClassId} {x : vp_A} (ha : ws[q0]? = some (a, .inl (cA, x))) {ty : FieldType} (ht : tys[t0]? = some (cA, ty)) {v : Int32} (hv : Int32.ofNat x.1 = v) (hdg : decode cc pc = .ok (.arraylength, 1))
    (kk : W p l e R s m args below meth c H locs cells slots Q (F0 m (pc + 1) ls (.int v :: rest))) : W p l e R s m args below meth c H locs cells slots Q (F0 m pc ls (.ref a :: rest)) := va_alen F.1 F.2.1 St.1 St.2.1 q0 t0 ha ht hv hdg kk
theorem cs_newa (F : CallFix p m c cc nL s args tb own) (St : cS G k ws tys A s H locs) {atype : ArrayType} (harr : Cond.arrayClass (newarray.typeOf atype) ∈ tb) {ty : FieldType} (hty : newarray.typeOf atype = ty) {n : Int32} {N' : Nat} {a0 : vp_A} (ha : ∀ cA : ClassId, vp_cell cA a0 = arrV cA N' (fun _ => defaultValue ty)) (hn : ¬ n < 0) (hN : n.toNatClampNeg = N') (hbytes : N' * componentBytes ty ≤ 536870912) (hcells : cells + 1 ≤ R.cells) (hslots : slots + N' ≤ R.slots) (hdg : decode cc pc = .ok (.newarray atype, 2))
    (kk : ∀ (q : Nat) (cA : ClassId) (H1 : Heap), cS G k (ws ++ [(q, .inl (cA, a0))]) (tys ++ [(cA, ty)]) A s H1 locs → W p l e R s m args below meth c H1 locs (cells + 1) (slots + N') Q (F0 m (pc + 2) ls (.ref q :: rest))) : W p l e R s m args below meth c H locs cells slots Q (F0 m pc ls (.int n :: rest)) :=
  va_newa F.1 F.2.1 (F.2.2.2.2 _ harr) hty St.1 St.2.1 St.2.2.1 St.toS St.2.2.2.2.1 ha hn hN hbytes hcells hslots hdg (fun q cA H1 hK hP hD hS => kk q cA H1 ⟨hK, hP, hD, hS, St.2.2.2.2.1, St.2.2.2.2.2⟩)
theorem cs_new (F : CallFix p m c cc nL s args tb own) (St : cS G k ws tys A s H locs) {C : String} {T : u_T} {N ci index : Nat} (hc : vwCl[ci]? = some (C, T, N)) (hin : ∀ w ∈ u_ws C T N, w ∈ tb) {ty : Nat → FieldType} (hty : ∀ k, k < N → parseFieldDescriptor (T k).2.2.1 = some (ty k)) (hcl : Cond.classLink own index C ∈ tb) (hinst : Cond.instantiable C N ∈ tb) (hini : Cond.initialized C ∈ tb) {fs : List Value} (hfs : ∀ j, j < N → defaultValue (ty j) = vp_V fs j) (hcells : cells + 1 ≤ R.cells) (hslots : slots + N ≤ R.slots) (hdg : decode cc pc = .ok (.new index, 3))
    (kk : ∀ (q : Nat) (H1 : Heap), cS G k (ws ++ [(q, .inr (ci, fs))]) tys A s H1 locs → W p l e R s m args below meth c H1 locs (cells + 1) (slots + N) Q (F0 m (pc + 3) ls (.ref q :: rest))) : W p l e R s m args below meth c H locs cells slots Q (F0 m pc ls rest) :=
  va_new F.1 F.2.1 F.2.2.2.2 hin ty hty F.2.2.2.1 (F.2.2.2.2 _ hcl) (F.2.2.2.2 _ hinst) (F.2.2.2.2 _ hini) St.1 St.2.1 St.2.2.1 St.toS St.2.2.2.2.1 hc hfs hcells hslots hdg (fun q H1 hP hD hS => kk q H1 ⟨St.1, hP, hD, hS, St.2.2.2.2.1, St.2.2.2.2.2⟩)
-- ends
theorem cs_iret {S : Type} {post : Int32 → S → Prop} {wo : S → va_W} {to : S → List (ClassId × FieldType)} {mc ms : Nat} (F : CallFix p m c cc nL s args tb own) (hr : meth.sig.returnType = some .int) (hlk : meth.locks = false) (hQ : Q = MQ below (va_Qi post (cB G wo to A) A) args s mc ms A) (St : cS G k ws tys A s H locs) (u : S) {r : Int32} (hp : post r u) (is : List Nat) (hw : is.map (fun i => ws[i]?) = (wo u).map some) (hnd : va_nd is = true) (it : List Nat) (ht : it.filterMap (fun i => tys[i]?) = to u) (h1 : cells ≤ mc) (h2 : slots ≤ ms) (hdg : decode cc pc = .ok (.ireturn, 1)) : W p l e R s m args below meth c H locs cells slots Q (F0 m pc ls [.int r]) := by
  subst hQ
  refine W.widen h1 h2 ?_
  have hP9 := St.2.1.sub (ws' := wo u) is (fm_of_map _ _ _ hw)
  have hD9 := St.2.2.1.sub (ws' := wo u) is hnd hw
  have hK9 := St.1.sub (tys' := to u) it ht
  exact W.iret (v := r) F.1 F.2.1 hr (fun t ht hW => ⟨⟨r, u, rfl, hp, by rw [ht]; exact hP9, va_K.moved hW.alike hK9, hD9⟩, St.toS.F ht⟩) St.toS.2.2 hdg hlk
theorem cs_zret {S : Type} {post : Int32 → S → Prop} {wo : S → va_W} {to : S → List (ClassId × FieldType)} {mc ms : Nat} {ty : FieldType} (F : CallFix p m c cc nL s args tb own) (hr : meth.sig.returnType = some ty) (hlk : meth.locks = false) (hQ : Q = MQ below (va_Qi post (cB G wo to A) A) args s mc ms A) (St : cS G k ws tys A s H locs) (u : S) {r : Int32} (hz : narrow ty (.int r) = .int r) (hp : post r u) (is : List Nat) (hw : is.map (fun i => ws[i]?) = (wo u).map some) (hnd : va_nd is = true) (it : List Nat) (ht : it.filterMap (fun i => tys[i]?) = to u) (h1 : cells ≤ mc) (h2 : slots ≤ ms) (hdg : decode cc pc = .ok (.ireturn, 1)) : W p l e R s m args below meth c H locs cells slots Q (F0 m pc ls [.int r]) := by
  subst hQ
  refine W.widen h1 h2 ?_
  have hP9 := St.2.1.sub (ws' := wo u) is (fm_of_map _ _ _ hw)
  have hD9 := St.2.2.1.sub (ws' := wo u) is hnd hw
  have hK9 := St.1.sub (tys' := to u) it ht
  exact W.zret (v := r) F.1 F.2.1 hr hz (fun t ht hW => ⟨⟨r, u, rfl, hp, by rw [ht]; exact hP9, va_K.moved hW.alike hK9, hD9⟩, St.toS.F ht⟩) St.toS.2.2 hdg hlk
theorem cs_lret {S : Type} {post : Int64 → S → Prop} {wo : S → va_W} {to : S → List (ClassId × FieldType)} {mc ms : Nat} (F : CallFix p m c cc nL s args tb own) (hr : meth.sig.returnType = some .long) (hlk : meth.locks = false) (hQ : Q = MQ below (va_Ql post (cB G wo to A) A) args s mc ms A) (St : cS G k ws tys A s H locs) (u : S) {r : Int64} (hp : post r u) (is : List Nat) (hw : is.map (fun i => ws[i]?) = (wo u).map some) (hnd : va_nd is = true) (it : List Nat) (ht : it.filterMap (fun i => tys[i]?) = to u) (h1 : cells ≤ mc) (h2 : slots ≤ ms) (hdg : decode cc pc = .ok (.lreturn, 1)) : W p l e R s m args below meth c H locs cells slots Q (F0 m pc ls [.long r]) := by
  subst hQ
  refine W.widen h1 h2 ?_
  have hP9 := St.2.1.sub (ws' := wo u) is (fm_of_map _ _ _ hw)
  have hD9 := St.2.2.1.sub (ws' := wo u) is hnd hw
  have hK9 := St.1.sub (tys' := to u) it ht
  exact W.lret (v := r) F.1 F.2.1 hr (fun t ht hW => ⟨⟨r, u, rfl, hp, by rw [ht]; exact hP9, va_K.moved hW.alike hK9, hD9⟩, St.toS.F ht⟩) St.toS.2.2 hdg hlk
theorem cs_vret {S : Type} {post : S → Prop} {wo : S → va_W} {to : S → List (ClassId × FieldType)} {mc ms : Nat} (F : CallFix p m c cc nL s args tb own) (hr : meth.sig.returnType = none) (hlk : meth.locks = false) (hQ : Q = MQ below (va_Qv post (cB G wo to A) A) args s mc ms A) (St : cS G k ws tys A s H locs) (u : S) (hp : post u) (is : List Nat) (hw : is.map (fun i => ws[i]?) = (wo u).map some) (hnd : va_nd is = true) (it : List Nat) (ht : it.filterMap (fun i => tys[i]?) = to u) (h1 : cells ≤ mc) (h2 : slots ≤ ms) (hdg : decode cc pc = .ok (.return_, 1)) : W p l e R s m args below meth c H locs cells slots Q (F0 m pc ls []) := by
  subst hQ
  refine W.widen h1 h2 ?_
  have hP9 := St.2.1.sub (ws' := wo u) is (fm_of_map _ _ _ hw)
  have hD9 := St.2.2.1.sub (ws' := wo u) is hnd hw
  have hK9 := St.1.sub (tys' := to u) it ht
  exact W.vret F.1 F.2.1 hr (fun t ht hW => ⟨⟨u, rfl, hp, by rw [ht]; exact hP9, va_K.moved hW.alike hK9, hD9⟩, St.toS.F ht⟩) St.toS.2.2 hdg hlk
theorem cs_qret {S : Type} {post : Option Nat → S → Prop} {wo : S → va_W} {to : S → List (ClassId × FieldType)} {mc ms : Nat} {rt : FieldType} (F : CallFix p m c cc nL s args tb own) (hr : meth.sig.returnType = some rt) (hrt : (∃ n, rt = .object n) ∨ ∃ t, rt = .array t) (hlk : meth.locks = false) (hQ : Q = MQ below (va_Qq post (cB G wo to A) A) args s mc ms A) (St : cS G k ws tys A s H locs) (u : S) (r : Option Nat) {v : Value} (hv : v = va_rf r) (hp : post r u) (is : List Nat) (hw : is.map (fun i => ws[i]?) = (wo u).map some) (hnd : va_nd is = true) (it : List Nat) (ht : it.filterMap (fun i => tys[i]?) = to u) (h1 : cells ≤ mc) (h2 : slots ≤ ms) (hdg : decode cc pc = .ok (.areturn, 1)) : W p l e R s m args below meth c H locs cells slots Q (F0 m pc ls [v]) := by
  subst hQ
  subst hv
  refine W.widen h1 h2 ?_
  have hP9 := St.2.1.sub (ws' := wo u) is (fm_of_map _ _ _ hw)
  have hD9 := St.2.2.1.sub (ws' := wo u) is hnd hw
  have hK9 := St.1.sub (tys' := to u) it ht
  exact W.aret F.1 F.2.1 hr hrt (va_rf_or r) (fun t ht hW => ⟨⟨r, u, rfl, hp, by rw [ht]; exact hP9, va_K.moved hW.alike hK9, hD9⟩, St.toS.F ht⟩) St.toS.2.2 hdg hlk
end CB

