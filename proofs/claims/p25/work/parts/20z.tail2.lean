-- segments again, with a number for the length: quicker to check
section CT2
variable {s : State} {H : Heap} {locs : List Loc} {G : va_G} {k : Nat → Nat} {A : Nat → Prop} {tys : List (ClassId × FieldType)}
theorem sg_seg {sg s1 : List va_W} (St : cS G k sg.flatten tys A s H locs) (n : Nat) (hl : sg.length = n) (is : List Nat) (h : is.map (fun i => sg[i]?) = s1.map some) (hp : is.isPerm (List.range n) = true) : cS G k s1.flatten tys A s H locs := cs_seg St is h (by rw [hl]; exact hp)
theorem sg_two {sg s1 s2 : List va_W} (St : cS G k sg.flatten tys A s H locs) (n : Nat) (hl : sg.length = n) (is : List Nat) (h : is.map (fun i => sg[i]?) = (s1 ++ s2).map some) (hp : is.isPerm (List.range n) = true) : cS G k (s1.flatten ++ s2.flatten) tys A s H locs := cs_seg2 St is h (by rw [hl]; exact hp)
theorem sg_join {s1 s2 s3 : List va_W} (St : cS G k (s1.flatten ++ s2.flatten) tys A s H locs) (n : Nat) (hl : (s1 ++ s2).length = n) (is : List Nat) (h : is.map (fun i => (s1 ++ s2)[i]?) = s3.map some) (hp : is.isPerm (List.range n) = true) : cS G k s3.flatten tys A s H locs := cs_join St is h (by rw [hl]; exact hp)
end CT2

