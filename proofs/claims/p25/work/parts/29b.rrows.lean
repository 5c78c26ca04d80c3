-- ===== an array's cell by any function that agrees below its length =====
section NRM
variable {s : State} {H : Heap} {locs : List Loc} {G : va_G} {k : Nat → Nat} {A : Nat → Prop} {tys : List (ClassId × FieldType)} {ws w' : va_W} {a : Nat}
theorem cs_norm (St : cS G k ws tys A s H locs) (q0 : Nat) {cA : ClassId} {n : Nat} {f f' : Nat → Int32} (ha : ws[q0]? = some (a, .inl (cA, n, .inl f))) (h : ∀ j, j < n → f j = f' j) (hw : ws.set q0 (a, .inl (cA, n, .inl f')) = w') : cS G k w' tys A s H locs := by
  subst hw
  obtain ⟨hK, hP, hD, hr⟩ := St
  have e0 : (fun j : Fin n => Value.int (f j.val)) = (fun j : Fin n => Value.int (f' j.val)) := funext (fun j => by rw [h j.val j.isLt])
  have e : vp_cell cA (n, .inl f) = vp_cell cA (n, .inl f') := by
    show ({ cls := cA, slots := Array.ofFn (fun j : Fin n => Value.int (f j.val)), vm := .none } : Cell) = { cls := cA, slots := Array.ofFn (fun j : Fin n => Value.int (f' j.val)), vm := .none }
    rw [e0]
  have h9 : H[a]? = some (vp_cell cA (n, .inl f)) := hP q0 _ ha
  refine ⟨hK, hP.set hD ha (show H[a]? = some (vp_cell cA (n, .inl f')) from ?_) (fun _ _ => rfl), hD.set ha, hr⟩
  rw [← e]; exact h9
end NRM
theorem cpy9 {f g : Nat → Int32} {j : Nat} (h : j < 9) : va_cpy f g 0 0 9 j = f j := by
  show (if 0 ≤ j ∧ j < 0 + 9 then f (0 + (j - 0)) else g j) = f j
  rw [if_pos ⟨Nat.zero_le _, by omega⟩]
  congr 1
  omega
/-- a row that is v up to n -/
theorem row_up0 {f : Nat → Int32} {kk y v : Int32} (h0 : 0 ≤ kk.toInt) (h : ∀ j : Nat, (j : Int) < kk.toInt → f j = v) (hy : y.toInt = kk.toInt + 1) : ∀ j : Nat, (j : Int) < y.toInt → upd f kk.toNatClampNeg v j = v := by
  intro j hj
  have e := nc_int h0
  by_cases q : j = kk.toNatClampNeg
  · rw [q, pk_us]
  · rw [pk_un q]; exact h j (by omega)

