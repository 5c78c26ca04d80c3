-- ===== worlds with a tail: pools of blocks, segments =====
theorem seg_pm {α : Type} {sg s1 : List α} (is : List Nat) (h : is.map (fun i => sg[i]?) = s1.map some) (hp : is.isPerm (List.range sg.length) = true) : sg.Perm s1 := by
  have e1 : (List.range sg.length).map (fun i => sg[i]?) = sg.map some := by
    apply List.ext_getElem?
    intro i
    by_cases hi : i < sg.length
    · simp [hi]
    · simp [hi]
  have p1 := (List.isPerm_iff.mp hp).map (fun i => sg[i]?)
  rw [h, e1] at p1
  have p2 := p1.filterMap id
  have e2 : ∀ l : List α, (l.map some).filterMap id = l := by
    intro l
    induction l with
    | nil => rfl
    | cons a l ih => simp [ih]
  rw [e2, e2] at p2
  exact p2.symm
def PW {α : Type} (n : Nat) (B : Nat → List α) : List α := ((List.range n).map B).flatten
def PWx {α : Type} (n j : Nat) (B : Nat → List α) : List α := (((List.range n).erase j).map B).flatten
def setB {α : Type} (B : Nat → List α) (j : Nat) (b : List α) : Nat → List α := fun i => if i = j then b else B i
theorem PW_pull {α : Type} {n j : Nat} {B : Nat → List α} (hj : j < n) : (PW n B).Perm (B j ++ PWx n j B) := by
  have h1 := (List.perm_cons_erase (List.mem_range.mpr hj)).map B
  exact h1.flatten
theorem setB_s {α : Type} {B : Nat → List α} {j : Nat} {b : List α} : setB B j b j = b := if_pos rfl
theorem setB_n {α : Type} {B : Nat → List α} {j i : Nat} {b : List α} (h : ¬ i = j) : setB B j b i = B i := if_neg h
theorem PWx_set {α : Type} {n j : Nat} {B : Nat → List α} {b : List α} : PWx n j (setB B j b) = PWx n j B := by
  show (((List.range n).erase j).map (setB B j b)).flatten = (((List.range n).erase j).map B).flatten
  have : ((List.range n).erase j).map (setB B j b) = ((List.range n).erase j).map B := by
    apply List.map_congr_left
    intro i hi
    exact setB_n ((List.nodup_range.mem_erase_iff.mp hi).1)
  rw [this]
theorem PW_push {α : Type} {n j : Nat} {B : Nat → List α} {b : List α} (hj : j < n) : (b ++ PWx n j B).Perm (PW n (setB B j b)) := by
  have := PW_pull (B := setB B j b) hj
  rw [setB_s, PWx_set] at this
  exact this.symm
theorem PW_new {α : Type} {n : Nat} {B : Nat → List α} {b : List α} : (PW n B ++ b).Perm (PW (n + 1) (setB B n b)) := by
  have e : PW (n + 1) (setB B n b) = PW n B ++ b := by
    show ((List.range (n + 1)).map (setB B n b)).flatten = _
    rw [List.range_succ, List.map_append, List.flatten_append]
    have : (List.range n).map (setB B n b) = (List.range n).map B := by
      apply List.map_congr_left
      intro i hi
      have := List.mem_range.mp hi
      exact setB_n (by omega)
    rw [this]
    simp [PW, setB_s]
  rw [e]
theorem nd_of {β : Type} {ws : List (Nat × β)} (h : ∀ (i j : Nat) (p q : Nat × β), ws[i]? = some p → ws[j]? = some q → p.1 = q.1 → i = j) : (ws.map (·.1)).Nodup := by
  refine List.pairwise_iff_getElem.mpr (fun i j hi hj hij e => ?_)
  rw [List.length_map] at hi hj
  rw [List.getElem_map, List.getElem_map] at e
  have := h i j ws[i] ws[j] (List.getElem?_eq_getElem hi) (List.getElem?_eq_getElem hj) e
  omega
theorem of_nd {β : Type} {ws : List (Nat × β)} (h : (ws.map (·.1)).Nodup) : ∀ (i j : Nat) (p q : Nat × β), ws[i]? = some p → ws[j]? = some q → p.1 = q.1 → i = j := by
  intro i j p q hp hq e
  have h1 : (ws.map (·.1))[i]? = some p.1 := by rw [List.getElem?_map, hp]; rfl
  have h2 : (ws.map (·.1))[j]? = some q.1 := by rw [List.getElem?_map, hq]; rfl
  obtain ⟨hi, -⟩ := List.getElem?_eq_some_iff.mp h1
  exact (List.getElem?_inj hi h).mp (by rw [h1, h2, e])
theorem ix_C {α : Type} {w wr : List α} : (List.range w.length).map (fun i => (w ++ wr)[i]?) = w.map some := by
  apply List.ext_getElem?
  intro i
  by_cases hi : i < w.length
  · simp [hi, List.getElem?_append_left]
  · simp [hi]
theorem ix_R {α : Type} {w wr : List α} : ((List.range wr.length).map (fun i => w.length + i)).map (fun i => (w ++ wr)[i]?) = wr.map some := by
  apply List.ext_getElem?
  intro i
  by_cases hi : i < wr.length
  · simp [hi]
  · simp [hi]
theorem nd_nd : ∀ {l : List Nat}, l.Nodup → va_nd l = true
  | [], _ => rfl
  | a :: l, h => by
    obtain ⟨h1, h2⟩ := List.nodup_cons.mp h
    simp only [va_nd, Bool.and_eq_true, decide_eq_true_eq]
    exact ⟨h1, nd_nd h2⟩
theorem nd_C {n : Nat} : va_nd (List.range n) = true := nd_nd List.nodup_range
theorem nd_R {n a : Nat} : va_nd ((List.range n).map (fun i => a + i)) = true := by
  apply nd_nd
  refine List.Pairwise.map _ (fun x y h e => h ?_) (List.nodup_range (n := n))
  omega
theorem dis_CR {a b : Nat} : ∀ i ∈ (List.range b).map (fun i => a + i), i ∉ List.range a := by
  intro i hi h
  obtain ⟨j, -, rfl⟩ := List.mem_map.mp hi
  have := List.mem_range.mp h
  omega
section CT
variable {p : Program} {l : Launch} {e : Env} {R : Room} {s : State} {m : MethodId} {args : Array Value} {below : List Frame} {meth : Method} {c : Code} {H : Heap} {locs : List Loc} {cells slots : Nat} {Q : State → Prop}
variable {cc : ByteArray} {pc nL : Nat} {ls : Array Slot} {rest : List Value} {G : va_G} {k : Nat → Nat} {A : Nat → Prop} {a : Nat} {tys tc : List (ClassId × FieldType)} {ws wc wr w' : va_W} {own : String}
theorem cs_perm (St : cS G k ws tys A s H locs) (h : ws.Perm w') : cS G k w' tys A s H locs := by
  obtain ⟨hK, hP, hD, hr⟩ := St
  refine ⟨hK, fun i q hq => ?_, ⟨of_nd ((h.map (·.1)).nodup_iff.mp (nd_of hD.1)), fun i q hq => ?_⟩, hr⟩
  · obtain ⟨j, hj⟩ := List.getElem?_of_mem (h.mem_iff.mpr (List.mem_of_getElem? hq))
    exact hP j q hj
  · obtain ⟨j, hj⟩ := List.getElem?_of_mem (h.mem_iff.mpr (List.mem_of_getElem? hq))
    exact hD.2 j q hj
theorem cs_seg {sg s1 : List va_W} (St : cS G k sg.flatten tys A s H locs) (is : List Nat) (h : is.map (fun i => sg[i]?) = s1.map some) (hp : is.isPerm (List.range sg.length) = true) : cS G k s1.flatten tys A s H locs := cs_perm St (seg_pm is h hp).flatten
theorem cs_seg2 {sg s1 s2 : List va_W} (St : cS G k sg.flatten tys A s H locs) (is : List Nat) (h : is.map (fun i => sg[i]?) = (s1 ++ s2).map some) (hp : is.isPerm (List.range sg.length) = true) : cS G k (s1.flatten ++ s2.flatten) tys A s H locs := by
  have := cs_seg St is h hp
  rw [List.flatten_append] at this
  exact this
theorem cs_join {s1 s2 s3 : List va_W} (St : cS G k (s1.flatten ++ s2.flatten) tys A s H locs) (is : List Nat) (h : is.map (fun i => (s1 ++ s2)[i]?) = s3.map some) (hp : is.isPerm (List.range (s1 ++ s2).length) = true) : cS G k s3.flatten tys A s H locs := by
  rw [← List.flatten_append] at St
  exact cs_seg St is h hp
theorem cs_pull {cs rs : va_W} {n j : Nat} {B : Nat → va_W} {b : va_W} (St : cS G k (cs ++ (PW n B ++ rs)) tys A s H locs) (hj : j < n) (hb : B j = b) : cS G k ((cs ++ b) ++ (PWx n j B ++ rs)) tys A s H locs := by
  refine cs_perm St ?_
  rw [← hb, List.append_assoc]
  refine List.Perm.append (List.Perm.refl cs) ?_
  rw [← List.append_assoc]
  exact List.Perm.append (PW_pull hj) (List.Perm.refl rs)
theorem cs_push {cs rs : va_W} {n j : Nat} {B : Nat → va_W} {b : va_W} (St : cS G k ((cs ++ b) ++ (PWx n j B ++ rs)) tys A s H locs) (hj : j < n) : cS G k (cs ++ (PW n (setB B j b) ++ rs)) tys A s H locs := by
  refine cs_perm St ?_
  rw [List.append_assoc]
  refine List.Perm.append (List.Perm.refl cs) ?_
  rw [← List.append_assoc]
  exact List.Perm.append (PW_push hj) (List.Perm.refl rs)
theorem cs_grow {cs rs : va_W} {n : Nat} {B : Nat → va_W} {b : va_W} (St : cS G k ((cs ++ b) ++ (PW n B ++ rs)) tys A s H locs) : cS G k (cs ++ (PW (n + 1) (setB B n b) ++ rs)) tys A s H locs := by
  refine cs_perm St ?_
  rw [List.append_assoc]
  refine List.Perm.append (List.Perm.refl cs) ?_
  rw [← List.append_assoc]
  exact List.Perm.append (List.perm_append_comm.trans PW_new) (List.Perm.refl rs)
theorem cs_preVT (St : cS G k (wc ++ wr) tys A s H locs) {av : List Value} {b : Addr} {C : String} (itC : List Nat) (hT : itC.filterMap (fun i => tys[i]?) = tc) {ci q0 : Nat} {T : u_T} {N : Nat} {fs : List Value} (hc : vwCl[ci]? = some (C, T, N)) (he : (wc ++ wr)[q0]? = some (b, .inr (ci, fs))) : PreV s H C b (va_Pc (.ref b :: av) (cP G k wc tc H.size)) av := cs_preV St (List.range wc.length) ix_C nd_C itC hT hc he
theorem cs_iT {S : Type} {post : Int32 → S → Prop} {wo : S → va_W} {to : S → List (ClassId × FieldType)} {mc ms : Nat} {st0 : List Value} {av : Array Value} (St : cS G k (wc ++ wr) tys A s H locs)
    (hr : va_Run p l e R s m args below meth c H locs cells slots mc ms (F0 m pc ls st0) rest (va_Qi post (cB G wo to (va_A wc H.size)) (va_A wc H.size) av) (va_A wc H.size))
    (kk : ∀ (r : Int32) (u : S) (H1 : Heap) (locs1 : List Loc), post r u → cS G k (wr ++ wo u) (tys ++ to u) A s H1 locs1 → W p l e R s m args below meth c H1 locs1 (cells + mc) (slots + ms) Q (F0 m (pc + 3) ls (.int r :: rest))) : W p l e R s m args below meth c H locs cells slots Q (F0 m pc ls st0) := cs_i St (List.range wc.length) ((List.range wr.length).map (fun i => wc.length + i)) ix_C ix_R nd_R dis_CR hr kk
theorem cs_vT {S : Type} {post : S → Prop} {wo : S → va_W} {to : S → List (ClassId × FieldType)} {mc ms : Nat} {st0 : List Value} {av : Array Value} (St : cS G k (wc ++ wr) tys A s H locs)
    (hr : va_Run p l e R s m args below meth c H locs cells slots mc ms (F0 m pc ls st0) rest (va_Qv post (cB G wo to (va_A wc H.size)) (va_A wc H.size) av) (va_A wc H.size))
    (kk : ∀ (u : S) (H1 : Heap) (locs1 : List Loc), post u → cS G k (wr ++ wo u) (tys ++ to u) A s H1 locs1 → W p l e R s m args below meth c H1 locs1 (cells + mc) (slots + ms) Q (F0 m (pc + 3) ls rest)) : W p l e R s m args below meth c H locs cells slots Q (F0 m pc ls st0) := cs_v St (List.range wc.length) ((List.range wr.length).map (fun i => wc.length + i)) ix_C ix_R nd_R dis_CR hr kk
theorem cs_qT {S : Type} {post : Option Nat → S → Prop} {wo : S → va_W} {to : S → List (ClassId × FieldType)} {mc ms : Nat} {st0 : List Value} {av : Array Value} (St : cS G k (wc ++ wr) tys A s H locs)
    (hr : va_Run p l e R s m args below meth c H locs cells slots mc ms (F0 m pc ls st0) rest (va_Qq post (cB G wo to (va_A wc H.size)) (va_A wc H.size) av) (va_A wc H.size))
    (kk : ∀ (r : Option Nat) (u : S) (H1 : Heap) (locs1 : List Loc), post r u → cS G k (wr ++ wo u) (tys ++ to u) A s H1 locs1 → W p l e R s m args below meth c H1 locs1 (cells + mc) (slots + ms) Q (F0 m (pc + 3) ls (va_rf r :: rest))) : W p l e R s m args below meth c H locs cells slots Q (F0 m pc ls st0) := cs_q St (List.range wc.length) ((List.range wr.length).map (fun i => wc.length + i)) ix_C ix_R nd_R dis_CR hr kk
/-- two arrays of one type have one class -/
theorem cs_one (St : cS G k ws tys A s H locs) {c1 c2 : ClassId} (i j : Nat) (h1 : tys[i]? = some (c1, .int)) (h2 : tys[j]? = some (c2, .int)) : c1 = c2 := by
  have q1 : s.vm.findClass _ = some c1 := (St.1.2 i _ h1).2
  have q2 : s.vm.findClass _ = some c2 := (St.1.2 j _ h2).2
  exact Option.some.inj (q1.symm.trans q2)
end CT
