-- ===== rows over a world with a tail that they don't touch =====
theorem ap_get {α : Type} {ws tl : List α} {q : Nat} {x : α} (h : ws[q]? = some x) : (ws ++ tl)[q]? = some x := by
  obtain ⟨hq, -⟩ := List.getElem?_eq_some_iff.mp h
  rw [List.getElem?_append_left hq]; exact h
theorem ap_set {α : Type} {ws tl w' : List α} {q : Nat} {x y : α} (h : ws[q]? = some x) (hw : ws.set q y = w') : (ws ++ tl).set q y = w' ++ tl := by
  obtain ⟨hq, -⟩ := List.getElem?_eq_some_iff.mp h
  rw [← hw, List.set_append_left q y hq]
theorem ap_map {α : Type} {ws tl : List α} : ∀ {is : List Nat} {w : List α}, is.map (fun i => ws[i]?) = w.map some → is.map (fun i => (ws ++ tl)[i]?) = w.map some
  | [], w, h => by rw [← h]; rfl
  | x :: is, w, h => by
    cases w with
    | nil => cases h
    | cons b w =>
      rw [List.map_cons, List.map_cons] at h
      injection h with h1 h2
      rw [List.map_cons, List.map_cons, ap_map h2, ap_get h1]
theorem ap_lt {α : Type} {ws : List α} : ∀ {is : List Nat} {w : List α}, is.map (fun i => ws[i]?) = w.map some → ∀ i ∈ is, i < ws.length
  | [], w, h => by intro i hi; cases hi
  | x :: is, w, h => by
    cases w with
    | nil => cases h
    | cons b w =>
      rw [List.map_cons, List.map_cons] at h
      injection h with h1 h2
      intro i hi
      cases List.mem_cons.mp hi with
      | inl e => rw [e]; exact (List.getElem?_eq_some_iff.mp h1).1
      | inr e => exact ap_lt h2 i e
theorem ap_R {α : Type} {ws tl w : List α} {is : List Nat} (h : is.map (fun i => ws[i]?) = w.map some) : (is ++ (List.range tl.length).map (fun i => ws.length + i)).map (fun i => (ws ++ tl)[i]?) = (w ++ tl).map some := by
  rw [List.map_append, List.map_append, ap_map h, ix_R]
theorem nd_va : ∀ {l : List Nat}, va_nd l = true → l.Nodup
  | [], _ => List.nodup_nil
  | a :: l, h => by
    simp only [va_nd, Bool.and_eq_true, decide_eq_true_eq] at h
    exact List.nodup_cons.mpr ⟨h.1, nd_va h.2⟩
theorem ap_nd {α : Type} {ws tl w : List α} {is : List Nat} (h : is.map (fun i => ws[i]?) = w.map some) (hn : va_nd is = true) : va_nd (is ++ (List.range tl.length).map (fun i => ws.length + i)) = true := by
  apply nd_nd
  refine List.nodup_append.mpr ⟨nd_va hn, nd_va nd_R, fun x hx y hy e => ?_⟩
  obtain ⟨j, -, rfl⟩ := List.mem_map.mp hy
  have := ap_lt h x hx
  omega
theorem ap_dis {α : Type} {ws tl w : List α} {is isC : List Nat} (h : isC.map (fun i => ws[i]?) = w.map some) (hd : ∀ i ∈ is, i ∉ isC) : ∀ i ∈ is ++ (List.range tl.length).map (fun i => ws.length + i), i ∉ isC := by
  intro i hi hc
  cases List.mem_append.mp hi with
  | inl e => exact hd i e hc
  | inr e =>
    obtain ⟨j, -, rfl⟩ := List.mem_map.mp e
    have := ap_lt h _ hc
    omega
theorem ap_pm {α : Type} {a b c : List α} : ((a ++ b) ++ c).Perm ((a ++ c) ++ b) := by
  rw [List.append_assoc, List.append_assoc]
  exact List.Perm.append (List.Perm.refl a) List.perm_append_comm
theorem ix_all {α : Type} {w : List α} : (List.range w.length).map (fun i => w[i]?) = w.map some := by
  have := ix_C (w := w) (wr := [])
  rw [List.append_nil] at this
  exact this
section CTT
variable {p : Program} {l : Launch} {e : Env} {R : Room} {s : State} {m : MethodId} {args : Array Value} {below : List Frame} {meth : Method} {c : Code} {H : Heap} {locs : List Loc} {cells slots : Nat} {Q : State → Prop}
variable {cc : ByteArray} {pc nL : Nat} {ls : Array Slot} {rest : List Value} {G : va_G} {k : Nat → Nat} {A : Nat → Prop} {a : Nat} {tys tc t' : List (ClassId × FieldType)} {ws wc wr w' tl : va_W} {own : String}
theorem ct_pre (St : cS G k (ws ++ tl) tys A s H locs) {av : List Value} (isC : List Nat) (hC : isC.map (fun i => ws[i]?) = wc.map some) (hn : va_nd isC = true) (itC : List Nat) (hT : itC.filterMap (fun i => tys[i]?) = tc) : PreS s H (va_Pc av (cP G k wc tc H.size)) av := cs_pre St isC (ap_map hC) hn itC hT
theorem ct_preV (St : cS G k (ws ++ tl) tys A s H locs) {av : List Value} {b : Addr} {C : String} (isC : List Nat) (hC : isC.map (fun i => ws[i]?) = wc.map some) (hn : va_nd isC = true) (itC : List Nat) (hT : itC.filterMap (fun i => tys[i]?) = tc) {ci q0 : Nat} {T : u_T} {N : Nat} {fs : List Value} (hc : vwCl[ci]? = some (C, T, N)) (he : ws[q0]? = some (b, .inr (ci, fs))) : PreV s H C b (va_Pc (.ref b :: av) (cP G k wc tc H.size)) av := cs_preV St isC (ap_map hC) hn itC hT hc (ap_get he)
theorem ct_i {S : Type} {post : Int32 → S → Prop} {wo : S → va_W} {to : S → List (ClassId × FieldType)} {mc ms : Nat} {st0 : List Value} {av : Array Value} (St : cS G k (ws ++ tl) tys A s H locs) (isC isR : List Nat) (hC : isC.map (fun i => ws[i]?) = wc.map some) (hR : isR.map (fun i => ws[i]?) = wr.map some) (hn : va_nd isR = true) (hdis : ∀ i ∈ isR, i ∉ isC)
    (hr : va_Run p l e R s m args below meth c H locs cells slots mc ms (F0 m pc ls st0) rest (va_Qi post (cB G wo to (va_A wc H.size)) (va_A wc H.size) av) (va_A wc H.size))
    (kk : ∀ (r : Int32) (u : S) (H1 : Heap) (locs1 : List Loc), post r u → cS G k ((wr ++ wo u) ++ tl) (tys ++ to u) A s H1 locs1 → W p l e R s m args below meth c H1 locs1 (cells + mc) (slots + ms) Q (F0 m (pc + 3) ls (.int r :: rest))) : W p l e R s m args below meth c H locs cells slots Q (F0 m pc ls st0) := cs_i St isC _ (ap_map hC) (ap_R hR) (ap_nd hR hn) (ap_dis hC hdis) hr (fun r u H1 locs1 hp St => kk r u H1 locs1 hp (cs_perm St ap_pm))
theorem ct_l {S : Type} {post : Int64 → S → Prop} {wo : S → va_W} {to : S → List (ClassId × FieldType)} {mc ms : Nat} {st0 : List Value} {av : Array Value} (St : cS G k (ws ++ tl) tys A s H locs) (isC isR : List Nat) (hC : isC.map (fun i => ws[i]?) = wc.map some) (hR : isR.map (fun i => ws[i]?) = wr.map some) (hn : va_nd isR = true) (hdis : ∀ i ∈ isR, i ∉ isC)
    (hr : va_Run p l e R s m args below meth c H locs cells slots mc ms (F0 m pc ls st0) rest (va_Ql post (cB G wo to (va_A wc H.size)) (va_A wc H.size) av) (va_A wc H.size))
    (kk : ∀ (r : Int64) (u : S) (H1 : Heap) (locs1 : List Loc), post r u → cS G k ((wr ++ wo u) ++ tl) (tys ++ to u) A s H1 locs1 → W p l e R s m args below meth c H1 locs1 (cells + mc) (slots + ms) Q (F0 m (pc + 3) ls (.long r :: rest))) : W p l e R s m args below meth c H locs cells slots Q (F0 m pc ls st0) := cs_l St isC _ (ap_map hC) (ap_R hR) (ap_nd hR hn) (ap_dis hC hdis) hr (fun r u H1 locs1 hp St => kk r u H1 locs1 hp (cs_perm St ap_pm))
theorem ct_q {S : Type} {post : Option Nat → S → Prop} {wo : S → va_W} {to : S → List (ClassId × FieldType)} {mc ms : Nat} {st0 : List Value} {av : Array Value} (St : cS G k (ws ++ tl) tys A s H locs) (isC isR : List Nat) (hC : isC.map (fun i => ws[i]?) = wc.map some) (hR : isR.map (fun i => ws[i]?) = wr.map some) (hn : va_nd isR = true) (hdis : ∀ i ∈ isR, i ∉ isC)
    (hr : va_Run p l e R s m args below meth c H locs cells slots mc ms (F0 m pc ls st0) rest (va_Qq post (cB G wo to (va_A wc H.size)) (va_A wc H.size) av) (va_A wc H.size))
    (kk : ∀ (r : Option Nat) (u : S) (H1 : Heap) (locs1 : List Loc), post r u → cS G k ((wr ++ wo u) ++ tl) (tys ++ to u) A s H1 locs1 → W p l e R s m args below meth c H1 locs1 (cells + mc) (slots + ms) Q (F0 m (pc + 3) ls (va_rf r :: rest))) : W p l e R s m args below meth c H locs cells slots Q (F0 m pc ls st0) := cs_q St isC _ (ap_map hC) (ap_R hR) (ap_nd hR hn) (ap_dis hC hdis) hr (fun r u H1 locs1 hp St => kk r u H1 locs1 hp (cs_perm St ap_pm))
theorem ct_v {S : Type} {post : S → Prop} {wo : S → va_W} {to : S → List (ClassId × FieldType)} {mc ms : Nat} {st0 : List Value} {av : Array Value} (St : cS G k (ws ++ tl) tys A s H locs) (isC isR : List Nat) (hC : isC.map (fun i => ws[i]?) = wc.map some) (hR : isR.map (fun i => ws[i]?) = wr.map some) (hn : va_nd isR = true) (hdis : ∀ i ∈ isR, i ∉ isC)
    (hr : va_Run p l e R s m args below meth c H locs cells slots mc ms (F0 m pc ls st0) rest (va_Qv post (cB G wo to (va_A wc H.size)) (va_A wc H.size) av) (va_A wc H.size))
    (kk : ∀ (u : S) (H1 : Heap) (locs1 : List Loc), post u → cS G k ((wr ++ wo u) ++ tl) (tys ++ to u) A s H1 locs1 → W p l e R s m args below meth c H1 locs1 (cells + mc) (slots + ms) Q (F0 m (pc + 3) ls rest)) : W p l e R s m args below meth c H locs cells slots Q (F0 m pc ls st0) := cs_v St isC _ (ap_map hC) (ap_R hR) (ap_nd hR hn) (ap_dis hC hdis) hr (fun u H1 locs1 hp St => kk u H1 locs1 hp (cs_perm St ap_pm))
theorem ct_get (F : CallFix p m c cc nL s args tb own) (St : cS G k (ws ++ tl) tys A s H locs) (q0 : Nat) {C : String} {T : u_T} {N ci index : Nat} {fs : List Value} (he : ws[q0]? = some (a, .inr (ci, fs))) (hc : vwCl[ci]? = some (C, T, N)) (hin : ∀ w ∈ u_ws C T N, w ∈ tb) (j : Nat) (hj : j < N) (hlink : Cond.fieldLink own index (T j).1 (T j).2.1 (T j).2.2.1 ∈ tb) {v : Value} (hv : fs[j]? = some v) (hdg : decode cc pc = .ok (.getfield index, 3))
    (kk : W p l e R s m args below meth c H locs cells slots Q (F0 m (pc + 3) ls (v :: rest))) : W p l e R s m args below meth c H locs cells slots Q (F0 m pc ls (.ref a :: rest)) := cs_get F St q0 (ap_get he) hc hin j hj hlink hv hdg kk
theorem ct_put (F : CallFix p m c cc nL s args tb own) (St : cS G k (ws ++ tl) tys A s H locs) (q0 : Nat) {C : String} {T : u_T} {N ci index : Nat} {fs : List Value} (he : ws[q0]? = some (a, .inr (ci, fs))) (hc : vwCl[ci]? = some (C, T, N)) (hin : ∀ w ∈ u_ws C T N, w ∈ tb) {ty0 : Nat → FieldType} (hty : ∀ k, k < N → parseFieldDescriptor (T k).2.2.1 = some (ty0 k)) (hnm : ∀ a, a < N → ∀ b, b < N → a ≠ b → (T a).2.1 ≠ (T b).2.1) (j : Nat) (hj : j < N) (hlink : Cond.fieldLink own index (T j).1 (T j).2.1 (T j).2.2.1 ∈ tb) (hfin : (T j).2.2.2 = false) {v : Value} (hn : narrow (ty0 j) v = v) (hfit : fits (ty0 j) v = true) (hl : j < fs.length) (hw : ws.set q0 (a, .inr (ci, fs.set j v)) = w') (hdg : decode cc pc = .ok (.putfield index, 3))
    (kk : ∀ (H1 : Heap) (locs1 : List Loc), cS G k (w' ++ tl) tys A s H1 locs1 → W p l e R s m args below meth c H1 locs1 cells slots Q (F0 m (pc + 3) ls rest)) : W p l e R s m args below meth c H locs cells slots Q (F0 m pc ls (v :: .ref a :: rest)) := cs_put F St q0 (ap_get he) hc hin hty hnm j hj hlink hfin hn hfit hl (ap_set he hw) hdg kk
theorem ct_new (F : CallFix p m c cc nL s args tb own) (St : cS G k (ws ++ tl) tys A s H locs) {C : String} {T : u_T} {N ci index : Nat} (hc : vwCl[ci]? = some (C, T, N)) (hin : ∀ w ∈ u_ws C T N, w ∈ tb) {ty : Nat → FieldType} (hty : ∀ k, k < N → parseFieldDescriptor (T k).2.2.1 = some (ty k)) (hcl : Cond.classLink own index C ∈ tb) (hinst : Cond.instantiable C N ∈ tb) (hini : Cond.initialized C ∈ tb) {fs : List Value} (hfs : ∀ j, j < N → defaultValue (ty j) = vp_V fs j) (hcells : cells + 1 ≤ R.cells) (hslots : slots + N ≤ R.slots) (hdg : decode cc pc = .ok (.new index, 3))
    (kk : ∀ (q : Nat) (H1 : Heap), cS G k ((ws ++ [(q, .inr (ci, fs))]) ++ tl) tys A s H1 locs → W p l e R s m args below meth c H1 locs (cells + 1) (slots + N) Q (F0 m (pc + 3) ls (.ref q :: rest))) : W p l e R s m args below meth c H locs cells slots Q (F0 m pc ls rest) := cs_new F St hc hin hty hcl hinst hini hfs hcells hslots hdg (fun q H1 St => kk q H1 (cs_perm St ap_pm))
theorem ct_pick (St : cS G k (ws ++ tl) tys A s H locs) (is : List Nat) (hw : is.map (fun i => ws[i]?) = w'.map some) (hn : va_nd is = true) (it : List Nat) (ht : it.filterMap (fun i => tys[i]?) = t') : cS G k (w' ++ tl) t' A s H locs := cs_pick St _ (ap_R hw) (ap_nd hw hn) it ht
end CTT
