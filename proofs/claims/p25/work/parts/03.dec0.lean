theorem dc_at {E T : Type} {f : Nat → Except E T} {L : List (Nat × T)} (h : ∀ x ∈ L, f x.1 = .ok x.2) (j : Nat) {n : Nat} {t : T} (e : L[j]? = some (n, t)) : f n = .ok t := h (n, t) (List.mem_of_getElem? e)
def dPX0_init_q0 : List (Nat × (Jvm.ClassFile.Instr × Nat)) := [(0, (.aload_n 0, 1)), (1, (.invokespecial 3, 3)), (4, (.aload_n 0, 1)), (5, (.bipush 30, 2)), (7, (.newarray .int, 2)), (9, (.putfield 9, 3)), (12, (.aload_n 0, 1)), (13, (.bipush 30, 2)), (15, (.newarray .int, 2)), (17, (.putfield 15, 3)), (20, (.aload_n 0, 1)), (21, (.bipush 30, 2)), (23, (.newarray .boolean, 2)), (25, (.putfield 18, 3)), (28, (.aload_n 0, 1)), (29, (.bipush 30, 2)), (31, (.newarray .int, 2)), (33, (.putfield 22, 3)), (36, (.aload_n 0, 1)), (37, (.bipush 30, 2)), (39, (.newarray .int, 2)), (41, (.putfield 25, 3)), (44, (.aload_n 0, 1)), (45, (.bipush 30, 2)), (47, (.newarray .int, 2)), (49, (.putfield 28, 3)), (52, (.iconst 0, 1)), (53, (.istore_n 1, 1)), (54, (.iload_n 1, 1)), (55, (.bipush 30, 2)), (57, (.if_icmp .ge 23, 3)), (60, (.aload_n 0, 1)), (61, (.getfield 9, 3)), (64, (.iload_n 1, 1)), (65, (.iconst (-1), 1)), (66, (.iastore, 1)), (67, (.aload_n 0, 1)), (68, (.getfield 15, 3)), (71, (.iload_n 1, 1)), (72, (.iconst (-1), 1)), (73, (.iastore, 1)), (74, (.iinc 1 1, 3)), (77, (.goto (-23), 3)), (80, (.return_, 1))]
theorem dAX0_init_q0 : ∀ x ∈ dPX0_init_q0, decode cX0_init x.1 = .ok x.2 := by decide +kernel
theorem dX0_init_0 : decode cX0_init 0 = .ok (.aload_n 0, 1) := dc_at (f := decode cX0_init) dAX0_init_q0 0 rfl
theorem dX0_init_1 : decode cX0_init 1 = .ok (.invokespecial 3, 3) := dc_at (f := decode cX0_init) dAX0_init_q0 1 rfl
theorem dX0_init_4 : decode cX0_init 4 = .ok (.aload_n 0, 1) := dc_at (f := decode cX0_init) dAX0_init_q0 2 rfl
theorem dX0_init_5 : decode cX0_init 5 = .ok (.bipush 30, 2) := dc_at (f := decode cX0_init) dAX0_init_q0 3 rfl
theorem dX0_init_7 : decode cX0_init 7 = .ok (.newarray .int, 2) := dc_at (f := decode cX0_init) dAX0_init_q0 4 rfl
theorem dX0_init_9 : decode cX0_init 9 = .ok (.putfield 9, 3) := dc_at (f := decode cX0_init) dAX0_init_q0 5 rfl
theorem dX0_init_12 : decode cX0_init 12 = .ok (.aload_n 0, 1) := dc_at (f := decode cX0_init) dAX0_init_q0 6 rfl
theorem dX0_init_13 : decode cX0_init 13 = .ok (.bipush 30, 2) := dc_at (f := decode cX0_init) dAX0_init_q0 7 rfl
theorem dX0_init_15 : decode cX0_init 15 = .ok (.newarray .int, 2) := dc_at (f := decode cX0_init) dAX0_init_q0 8 rfl
theorem dX0_init_17 : decode cX0_init 17 = .ok (.putfield 15, 3) := dc_at (f := decode cX0_init) dAX0_init_q0 9 rfl
theorem dX0_init_20 : decode cX0_init 20 = .ok (.aload_n 0, 1) := dc_at (f := decode cX0_init) dAX0_init_q0 10 rfl
theorem dX0_init_21 : decode cX0_init 21 = .ok (.bipush 30, 2) := dc_at (f := decode cX0_init) dAX0_init_q0 11 rfl
theorem dX0_init_23 : decode cX0_init 23 = .ok (.newarray .boolean, 2) := dc_at (f := decode cX0_init) dAX0_init_q0 12 rfl
theorem dX0_init_25 : decode cX0_init 25 = .ok (.putfield 18, 3) := dc_at (f := decode cX0_init) dAX0_init_q0 13 rfl
theorem dX0_init_28 : decode cX0_init 28 = .ok (.aload_n 0, 1) := dc_at (f := decode cX0_init) dAX0_init_q0 14 rfl
theorem dX0_init_29 : decode cX0_init 29 = .ok (.bipush 30, 2) := dc_at (f := decode cX0_init) dAX0_init_q0 15 rfl
theorem dX0_init_31 : decode cX0_init 31 = .ok (.newarray .int, 2) := dc_at (f := decode cX0_init) dAX0_init_q0 16 rfl
theorem dX0_init_33 : decode cX0_init 33 = .ok (.putfield 22, 3) := dc_at (f := decode cX0_init) dAX0_init_q0 17 rfl
theorem dX0_init_36 : decode cX0_init 36 = .ok (.aload_n 0, 1) := dc_at (f := decode cX0_init) dAX0_init_q0 18 rfl
theorem dX0_init_37 : decode cX0_init 37 = .ok (.bipush 30, 2) := dc_at (f := decode cX0_init) dAX0_init_q0 19 rfl
theorem dX0_init_39 : decode cX0_init 39 = .ok (.newarray .int, 2) := dc_at (f := decode cX0_init) dAX0_init_q0 20 rfl
theorem dX0_init_41 : decode cX0_init 41 = .ok (.putfield 25, 3) := dc_at (f := decode cX0_init) dAX0_init_q0 21 rfl
theorem dX0_init_44 : decode cX0_init 44 = .ok (.aload_n 0, 1) := dc_at (f := decode cX0_init) dAX0_init_q0 22 rfl
theorem dX0_init_45 : decode cX0_init 45 = .ok (.bipush 30, 2) := dc_at (f := decode cX0_init) dAX0_init_q0 23 rfl
theorem dX0_init_47 : decode cX0_init 47 = .ok (.newarray .int, 2) := dc_at (f := decode cX0_init) dAX0_init_q0 24 rfl
theorem dX0_init_49 : decode cX0_init 49 = .ok (.putfield 28, 3) := dc_at (f := decode cX0_init) dAX0_init_q0 25 rfl
theorem dX0_init_52 : decode cX0_init 52 = .ok (.iconst 0, 1) := dc_at (f := decode cX0_init) dAX0_init_q0 26 rfl
theorem dX0_init_53 : decode cX0_init 53 = .ok (.istore_n 1, 1) := dc_at (f := decode cX0_init) dAX0_init_q0 27 rfl
theorem dX0_init_54 : decode cX0_init 54 = .ok (.iload_n 1, 1) := dc_at (f := decode cX0_init) dAX0_init_q0 28 rfl
theorem dX0_init_55 : decode cX0_init 55 = .ok (.bipush 30, 2) := dc_at (f := decode cX0_init) dAX0_init_q0 29 rfl
theorem dX0_init_57 : decode cX0_init 57 = .ok (.if_icmp .ge 23, 3) := dc_at (f := decode cX0_init) dAX0_init_q0 30 rfl
theorem dX0_init_60 : decode cX0_init 60 = .ok (.aload_n 0, 1) := dc_at (f := decode cX0_init) dAX0_init_q0 31 rfl
theorem dX0_init_61 : decode cX0_init 61 = .ok (.getfield 9, 3) := dc_at (f := decode cX0_init) dAX0_init_q0 32 rfl
theorem dX0_init_64 : decode cX0_init 64 = .ok (.iload_n 1, 1) := dc_at (f := decode cX0_init) dAX0_init_q0 33 rfl
theorem dX0_init_65 : decode cX0_init 65 = .ok (.iconst (-1), 1) := dc_at (f := decode cX0_init) dAX0_init_q0 34 rfl
theorem dX0_init_66 : decode cX0_init 66 = .ok (.iastore, 1) := dc_at (f := decode cX0_init) dAX0_init_q0 35 rfl
theorem dX0_init_67 : decode cX0_init 67 = .ok (.aload_n 0, 1) := dc_at (f := decode cX0_init) dAX0_init_q0 36 rfl
theorem dX0_init_68 : decode cX0_init 68 = .ok (.getfield 15, 3) := dc_at (f := decode cX0_init) dAX0_init_q0 37 rfl
theorem dX0_init_71 : decode cX0_init 71 = .ok (.iload_n 1, 1) := dc_at (f := decode cX0_init) dAX0_init_q0 38 rfl
theorem dX0_init_72 : decode cX0_init 72 = .ok (.iconst (-1), 1) := dc_at (f := decode cX0_init) dAX0_init_q0 39 rfl
theorem dX0_init_73 : decode cX0_init 73 = .ok (.iastore, 1) := dc_at (f := decode cX0_init) dAX0_init_q0 40 rfl
theorem dX0_init_74 : decode cX0_init 74 = .ok (.iinc 1 1, 3) := dc_at (f := decode cX0_init) dAX0_init_q0 41 rfl
theorem dX0_init_77 : decode cX0_init 77 = .ok (.goto (-23), 3) := dc_at (f := decode cX0_init) dAX0_init_q0 42 rfl
theorem dX0_init_80 : decode cX0_init 80 = .ok (.return_, 1) := dc_at (f := decode cX0_init) dAX0_init_q0 43 rfl
def dPX0_setDeclaration_q0 : List (Nat × (Jvm.ClassFile.Instr × Nat)) := [(0, (.iload_n 1, 1)), (1, (.invokestatic 31, 3)), (4, (.ifCond .eq 17, 3)), (7, (.aload_n 0, 1)), (8, (.getfield 9, 3)), (11, (.iload_n 1, 1)), (12, (.iload_n 2, 1)), (13, (.iastore, 1)), (14, (.aload_n 0, 1)), (15, (.getfield 15, 3)), (18, (.iload_n 1, 1)), (19, (.iload_n 3, 1)), (20, (.iastore, 1)), (21, (.return_, 1))]
theorem dAX0_setDeclaration_q0 : ∀ x ∈ dPX0_setDeclaration_q0, decode cX0_setDeclaration x.1 = .ok x.2 := by decide +kernel
theorem dX0_setDeclaration_0 : decode cX0_setDeclaration 0 = .ok (.iload_n 1, 1) := dc_at (f := decode cX0_setDeclaration) dAX0_setDeclaration_q0 0 rfl
theorem dX0_setDeclaration_1 : decode cX0_setDeclaration 1 = .ok (.invokestatic 31, 3) := dc_at (f := decode cX0_setDeclaration) dAX0_setDeclaration_q0 1 rfl
theorem dX0_setDeclaration_4 : decode cX0_setDeclaration 4 = .ok (.ifCond .eq 17, 3) := dc_at (f := decode cX0_setDeclaration) dAX0_setDeclaration_q0 2 rfl
theorem dX0_setDeclaration_7 : decode cX0_setDeclaration 7 = .ok (.aload_n 0, 1) := dc_at (f := decode cX0_setDeclaration) dAX0_setDeclaration_q0 3 rfl
theorem dX0_setDeclaration_8 : decode cX0_setDeclaration 8 = .ok (.getfield 9, 3) := dc_at (f := decode cX0_setDeclaration) dAX0_setDeclaration_q0 4 rfl
theorem dX0_setDeclaration_11 : decode cX0_setDeclaration 11 = .ok (.iload_n 1, 1) := dc_at (f := decode cX0_setDeclaration) dAX0_setDeclaration_q0 5 rfl
theorem dX0_setDeclaration_12 : decode cX0_setDeclaration 12 = .ok (.iload_n 2, 1) := dc_at (f := decode cX0_setDeclaration) dAX0_setDeclaration_q0 6 rfl
theorem dX0_setDeclaration_13 : decode cX0_setDeclaration 13 = .ok (.iastore, 1) := dc_at (f := decode cX0_setDeclaration) dAX0_setDeclaration_q0 7 rfl
theorem dX0_setDeclaration_14 : decode cX0_setDeclaration 14 = .ok (.aload_n 0, 1) := dc_at (f := decode cX0_setDeclaration) dAX0_setDeclaration_q0 8 rfl
theorem dX0_setDeclaration_15 : decode cX0_setDeclaration 15 = .ok (.getfield 15, 3) := dc_at (f := decode cX0_setDeclaration) dAX0_setDeclaration_q0 9 rfl
theorem dX0_setDeclaration_18 : decode cX0_setDeclaration 18 = .ok (.iload_n 1, 1) := dc_at (f := decode cX0_setDeclaration) dAX0_setDeclaration_q0 10 rfl
theorem dX0_setDeclaration_19 : decode cX0_setDeclaration 19 = .ok (.iload_n 3, 1) := dc_at (f := decode cX0_setDeclaration) dAX0_setDeclaration_q0 11 rfl
theorem dX0_setDeclaration_20 : decode cX0_setDeclaration 20 = .ok (.iastore, 1) := dc_at (f := decode cX0_setDeclaration) dAX0_setDeclaration_q0 12 rfl
theorem dX0_setDeclaration_21 : decode cX0_setDeclaration 21 = .ok (.return_, 1) := dc_at (f := decode cX0_setDeclaration) dAX0_setDeclaration_q0 13 rfl
def dPX0_declaredFrom_q0 : List (Nat × (Jvm.ClassFile.Instr × Nat)) := [(0, (.iload_n 1, 1)), (1, (.invokestatic 31, 3)), (4, (.ifCond .eq 12, 3)), (7, (.aload_n 0, 1)), (8, (.getfield 9, 3)), (11, (.iload_n 1, 1)), (12, (.iaload, 1)), (13, (.goto 4, 3)), (16, (.iconst (-1), 1)), (17, (.ireturn, 1))]
theorem dAX0_declaredFrom_q0 : ∀ x ∈ dPX0_declaredFrom_q0, decode cX0_declaredFrom x.1 = .ok x.2 := by decide +kernel
theorem dX0_declaredFrom_0 : decode cX0_declaredFrom 0 = .ok (.iload_n 1, 1) := dc_at (f := decode cX0_declaredFrom) dAX0_declaredFrom_q0 0 rfl
theorem dX0_declaredFrom_1 : decode cX0_declaredFrom 1 = .ok (.invokestatic 31, 3) := dc_at (f := decode cX0_declaredFrom) dAX0_declaredFrom_q0 1 rfl
theorem dX0_declaredFrom_4 : decode cX0_declaredFrom 4 = .ok (.ifCond .eq 12, 3) := dc_at (f := decode cX0_declaredFrom) dAX0_declaredFrom_q0 2 rfl
theorem dX0_declaredFrom_7 : decode cX0_declaredFrom 7 = .ok (.aload_n 0, 1) := dc_at (f := decode cX0_declaredFrom) dAX0_declaredFrom_q0 3 rfl
theorem dX0_declaredFrom_8 : decode cX0_declaredFrom 8 = .ok (.getfield 9, 3) := dc_at (f := decode cX0_declaredFrom) dAX0_declaredFrom_q0 4 rfl
theorem dX0_declaredFrom_11 : decode cX0_declaredFrom 11 = .ok (.iload_n 1, 1) := dc_at (f := decode cX0_declaredFrom) dAX0_declaredFrom_q0 5 rfl
theorem dX0_declaredFrom_12 : decode cX0_declaredFrom 12 = .ok (.iaload, 1) := dc_at (f := decode cX0_declaredFrom) dAX0_declaredFrom_q0 6 rfl
theorem dX0_declaredFrom_13 : decode cX0_declaredFrom 13 = .ok (.goto 4, 3) := dc_at (f := decode cX0_declaredFrom) dAX0_declaredFrom_q0 7 rfl
theorem dX0_declaredFrom_16 : decode cX0_declaredFrom 16 = .ok (.iconst (-1), 1) := dc_at (f := decode cX0_declaredFrom) dAX0_declaredFrom_q0 8 rfl
theorem dX0_declaredFrom_17 : decode cX0_declaredFrom 17 = .ok (.ireturn, 1) := dc_at (f := decode cX0_declaredFrom) dAX0_declaredFrom_q0 9 rfl
def dPX0_declaredTo_q0 : List (Nat × (Jvm.ClassFile.Instr × Nat)) := [(0, (.iload_n 1, 1)), (1, (.invokestatic 31, 3)), (4, (.ifCond .eq 12, 3)), (7, (.aload_n 0, 1)), (8, (.getfield 15, 3)), (11, (.iload_n 1, 1)), (12, (.iaload, 1)), (13, (.goto 4, 3)), (16, (.iconst (-1), 1)), (17, (.ireturn, 1))]
theorem dAX0_declaredTo_q0 : ∀ x ∈ dPX0_declaredTo_q0, decode cX0_declaredTo x.1 = .ok x.2 := by decide +kernel
theorem dX0_declaredTo_0 : decode cX0_declaredTo 0 = .ok (.iload_n 1, 1) := dc_at (f := decode cX0_declaredTo) dAX0_declaredTo_q0 0 rfl
theorem dX0_declaredTo_1 : decode cX0_declaredTo 1 = .ok (.invokestatic 31, 3) := dc_at (f := decode cX0_declaredTo) dAX0_declaredTo_q0 1 rfl
theorem dX0_declaredTo_4 : decode cX0_declaredTo 4 = .ok (.ifCond .eq 12, 3) := dc_at (f := decode cX0_declaredTo) dAX0_declaredTo_q0 2 rfl
theorem dX0_declaredTo_7 : decode cX0_declaredTo 7 = .ok (.aload_n 0, 1) := dc_at (f := decode cX0_declaredTo) dAX0_declaredTo_q0 3 rfl
theorem dX0_declaredTo_8 : decode cX0_declaredTo 8 = .ok (.getfield 15, 3) := dc_at (f := decode cX0_declaredTo) dAX0_declaredTo_q0 4 rfl
theorem dX0_declaredTo_11 : decode cX0_declaredTo 11 = .ok (.iload_n 1, 1) := dc_at (f := decode cX0_declaredTo) dAX0_declaredTo_q0 5 rfl
theorem dX0_declaredTo_12 : decode cX0_declaredTo 12 = .ok (.iaload, 1) := dc_at (f := decode cX0_declaredTo) dAX0_declaredTo_q0 6 rfl
theorem dX0_declaredTo_13 : decode cX0_declaredTo 13 = .ok (.goto 4, 3) := dc_at (f := decode cX0_declaredTo) dAX0_declaredTo_q0 7 rfl
theorem dX0_declaredTo_16 : decode cX0_declaredTo 16 = .ok (.iconst (-1), 1) := dc_at (f := decode cX0_declaredTo) dAX0_declaredTo_q0 8 rfl
theorem dX0_declaredTo_17 : decode cX0_declaredTo 17 = .ok (.ireturn, 1) := dc_at (f := decode cX0_declaredTo) dAX0_declaredTo_q0 9 rfl
def dPX0_hasDeclared_q0 : List (Nat × (Jvm.ClassFile.Instr × Nat)) := [(0, (.iload_n 1, 1)), (1, (.invokestatic 31, 3)), (4, (.ifCond .eq 37, 3)), (7, (.aload_n 0, 1)), (8, (.getfield 9, 3)), (11, (.iload_n 1, 1)), (12, (.iaload, 1)), (13, (.iconst (-1), 1)), (14, (.if_icmp .eq 27, 3)), (17, (.iload_n 2, 1)), (18, (.aload_n 0, 1)), (19, (.getfield 9, 3)), (22, (.iload_n 1, 1)), (23, (.iaload, 1)), (24, (.if_icmp .lt 17, 3)), (27, (.iload_n 2, 1)), (28, (.aload_n 0, 1)), (29, (.getfield 15, 3)), (32, (.iload_n 1, 1)), (33, (.iaload, 1)), (34, (.if_icmp .gt 7, 3)), (37, (.iconst 1, 1)), (38, (.goto 4, 3)), (41, (.iconst 0, 1)), (42, (.ireturn, 1))]
theorem dAX0_hasDeclared_q0 : ∀ x ∈ dPX0_hasDeclared_q0, decode cX0_hasDeclared x.1 = .ok x.2 := by decide +kernel
theorem dX0_hasDeclared_0 : decode cX0_hasDeclared 0 = .ok (.iload_n 1, 1) := dc_at (f := decode cX0_hasDeclared) dAX0_hasDeclared_q0 0 rfl
theorem dX0_hasDeclared_1 : decode cX0_hasDeclared 1 = .ok (.invokestatic 31, 3) := dc_at (f := decode cX0_hasDeclared) dAX0_hasDeclared_q0 1 rfl
theorem dX0_hasDeclared_4 : decode cX0_hasDeclared 4 = .ok (.ifCond .eq 37, 3) := dc_at (f := decode cX0_hasDeclared) dAX0_hasDeclared_q0 2 rfl
theorem dX0_hasDeclared_7 : decode cX0_hasDeclared 7 = .ok (.aload_n 0, 1) := dc_at (f := decode cX0_hasDeclared) dAX0_hasDeclared_q0 3 rfl
theorem dX0_hasDeclared_8 : decode cX0_hasDeclared 8 = .ok (.getfield 9, 3) := dc_at (f := decode cX0_hasDeclared) dAX0_hasDeclared_q0 4 rfl
theorem dX0_hasDeclared_11 : decode cX0_hasDeclared 11 = .ok (.iload_n 1, 1) := dc_at (f := decode cX0_hasDeclared) dAX0_hasDeclared_q0 5 rfl
theorem dX0_hasDeclared_12 : decode cX0_hasDeclared 12 = .ok (.iaload, 1) := dc_at (f := decode cX0_hasDeclared) dAX0_hasDeclared_q0 6 rfl
theorem dX0_hasDeclared_13 : decode cX0_hasDeclared 13 = .ok (.iconst (-1), 1) := dc_at (f := decode cX0_hasDeclared) dAX0_hasDeclared_q0 7 rfl
theorem dX0_hasDeclared_14 : decode cX0_hasDeclared 14 = .ok (.if_icmp .eq 27, 3) := dc_at (f := decode cX0_hasDeclared) dAX0_hasDeclared_q0 8 rfl
theorem dX0_hasDeclared_17 : decode cX0_hasDeclared 17 = .ok (.iload_n 2, 1) := dc_at (f := decode cX0_hasDeclared) dAX0_hasDeclared_q0 9 rfl
theorem dX0_hasDeclared_18 : decode cX0_hasDeclared 18 = .ok (.aload_n 0, 1) := dc_at (f := decode cX0_hasDeclared) dAX0_hasDeclared_q0 10 rfl
theorem dX0_hasDeclared_19 : decode cX0_hasDeclared 19 = .ok (.getfield 9, 3) := dc_at (f := decode cX0_hasDeclared) dAX0_hasDeclared_q0 11 rfl
theorem dX0_hasDeclared_22 : decode cX0_hasDeclared 22 = .ok (.iload_n 1, 1) := dc_at (f := decode cX0_hasDeclared) dAX0_hasDeclared_q0 12 rfl
theorem dX0_hasDeclared_23 : decode cX0_hasDeclared 23 = .ok (.iaload, 1) := dc_at (f := decode cX0_hasDeclared) dAX0_hasDeclared_q0 13 rfl
theorem dX0_hasDeclared_24 : decode cX0_hasDeclared 24 = .ok (.if_icmp .lt 17, 3) := dc_at (f := decode cX0_hasDeclared) dAX0_hasDeclared_q0 14 rfl
theorem dX0_hasDeclared_27 : decode cX0_hasDeclared 27 = .ok (.iload_n 2, 1) := dc_at (f := decode cX0_hasDeclared) dAX0_hasDeclared_q0 15 rfl
theorem dX0_hasDeclared_28 : decode cX0_hasDeclared 28 = .ok (.aload_n 0, 1) := dc_at (f := decode cX0_hasDeclared) dAX0_hasDeclared_q0 16 rfl
theorem dX0_hasDeclared_29 : decode cX0_hasDeclared 29 = .ok (.getfield 15, 3) := dc_at (f := decode cX0_hasDeclared) dAX0_hasDeclared_q0 17 rfl
theorem dX0_hasDeclared_32 : decode cX0_hasDeclared 32 = .ok (.iload_n 1, 1) := dc_at (f := decode cX0_hasDeclared) dAX0_hasDeclared_q0 18 rfl
theorem dX0_hasDeclared_33 : decode cX0_hasDeclared 33 = .ok (.iaload, 1) := dc_at (f := decode cX0_hasDeclared) dAX0_hasDeclared_q0 19 rfl
theorem dX0_hasDeclared_34 : decode cX0_hasDeclared 34 = .ok (.if_icmp .gt 7, 3) := dc_at (f := decode cX0_hasDeclared) dAX0_hasDeclared_q0 20 rfl
theorem dX0_hasDeclared_37 : decode cX0_hasDeclared 37 = .ok (.iconst 1, 1) := dc_at (f := decode cX0_hasDeclared) dAX0_hasDeclared_q0 21 rfl
theorem dX0_hasDeclared_38 : decode cX0_hasDeclared 38 = .ok (.goto 4, 3) := dc_at (f := decode cX0_hasDeclared) dAX0_hasDeclared_q0 22 rfl
theorem dX0_hasDeclared_41 : decode cX0_hasDeclared 41 = .ok (.iconst 0, 1) := dc_at (f := decode cX0_hasDeclared) dAX0_hasDeclared_q0 23 rfl
theorem dX0_hasDeclared_42 : decode cX0_hasDeclared 42 = .ok (.ireturn, 1) := dc_at (f := decode cX0_hasDeclared) dAX0_hasDeclared_q0 24 rfl
def dPX0_setWithoutName_q0 : List (Nat × (Jvm.ClassFile.Instr × Nat)) := [(0, (.iload_n 1, 1)), (1, (.invokestatic 31, 3)), (4, (.ifCond .eq 13, 3)), (7, (.aload_n 0, 1)), (8, (.getfield 18, 3)), (11, (.iload_n 1, 1)), (12, (.baload, 1)), (13, (.iload_n 2, 1)), (14, (.if_icmp .ne 5, 3)), (17, (.iconst 0, 1)), (18, (.ireturn, 1)), (19, (.aload_n 0, 1)), (20, (.getfield 18, 3)), (23, (.iload_n 1, 1)), (24, (.iload_n 2, 1)), (25, (.bastore, 1)), (26, (.iconst 1, 1)), (27, (.ireturn, 1))]
theorem dAX0_setWithoutName_q0 : ∀ x ∈ dPX0_setWithoutName_q0, decode cX0_setWithoutName x.1 = .ok x.2 := by decide +kernel
theorem dX0_setWithoutName_0 : decode cX0_setWithoutName 0 = .ok (.iload_n 1, 1) := dc_at (f := decode cX0_setWithoutName) dAX0_setWithoutName_q0 0 rfl
theorem dX0_setWithoutName_1 : decode cX0_setWithoutName 1 = .ok (.invokestatic 31, 3) := dc_at (f := decode cX0_setWithoutName) dAX0_setWithoutName_q0 1 rfl
theorem dX0_setWithoutName_4 : decode cX0_setWithoutName 4 = .ok (.ifCond .eq 13, 3) := dc_at (f := decode cX0_setWithoutName) dAX0_setWithoutName_q0 2 rfl
theorem dX0_setWithoutName_7 : decode cX0_setWithoutName 7 = .ok (.aload_n 0, 1) := dc_at (f := decode cX0_setWithoutName) dAX0_setWithoutName_q0 3 rfl
theorem dX0_setWithoutName_8 : decode cX0_setWithoutName 8 = .ok (.getfield 18, 3) := dc_at (f := decode cX0_setWithoutName) dAX0_setWithoutName_q0 4 rfl
theorem dX0_setWithoutName_11 : decode cX0_setWithoutName 11 = .ok (.iload_n 1, 1) := dc_at (f := decode cX0_setWithoutName) dAX0_setWithoutName_q0 5 rfl
theorem dX0_setWithoutName_12 : decode cX0_setWithoutName 12 = .ok (.baload, 1) := dc_at (f := decode cX0_setWithoutName) dAX0_setWithoutName_q0 6 rfl
theorem dX0_setWithoutName_13 : decode cX0_setWithoutName 13 = .ok (.iload_n 2, 1) := dc_at (f := decode cX0_setWithoutName) dAX0_setWithoutName_q0 7 rfl
theorem dX0_setWithoutName_14 : decode cX0_setWithoutName 14 = .ok (.if_icmp .ne 5, 3) := dc_at (f := decode cX0_setWithoutName) dAX0_setWithoutName_q0 8 rfl
theorem dX0_setWithoutName_17 : decode cX0_setWithoutName 17 = .ok (.iconst 0, 1) := dc_at (f := decode cX0_setWithoutName) dAX0_setWithoutName_q0 9 rfl
theorem dX0_setWithoutName_18 : decode cX0_setWithoutName 18 = .ok (.ireturn, 1) := dc_at (f := decode cX0_setWithoutName) dAX0_setWithoutName_q0 10 rfl
theorem dX0_setWithoutName_19 : decode cX0_setWithoutName 19 = .ok (.aload_n 0, 1) := dc_at (f := decode cX0_setWithoutName) dAX0_setWithoutName_q0 11 rfl
theorem dX0_setWithoutName_20 : decode cX0_setWithoutName 20 = .ok (.getfield 18, 3) := dc_at (f := decode cX0_setWithoutName) dAX0_setWithoutName_q0 12 rfl
theorem dX0_setWithoutName_23 : decode cX0_setWithoutName 23 = .ok (.iload_n 1, 1) := dc_at (f := decode cX0_setWithoutName) dAX0_setWithoutName_q0 13 rfl
theorem dX0_setWithoutName_24 : decode cX0_setWithoutName 24 = .ok (.iload_n 2, 1) := dc_at (f := decode cX0_setWithoutName) dAX0_setWithoutName_q0 14 rfl
theorem dX0_setWithoutName_25 : decode cX0_setWithoutName 25 = .ok (.bastore, 1) := dc_at (f := decode cX0_setWithoutName) dAX0_setWithoutName_q0 15 rfl
theorem dX0_setWithoutName_26 : decode cX0_setWithoutName 26 = .ok (.iconst 1, 1) := dc_at (f := decode cX0_setWithoutName) dAX0_setWithoutName_q0 16 rfl
theorem dX0_setWithoutName_27 : decode cX0_setWithoutName 27 = .ok (.ireturn, 1) := dc_at (f := decode cX0_setWithoutName) dAX0_setWithoutName_q0 17 rfl
def dPX0_isWithoutName_q0 : List (Nat × (Jvm.ClassFile.Instr × Nat)) := [(0, (.iload_n 1, 1)), (1, (.invokestatic 31, 3)), (4, (.ifCond .eq 16, 3)), (7, (.aload_n 0, 1)), (8, (.getfield 18, 3)), (11, (.iload_n 1, 1)), (12, (.baload, 1)), (13, (.ifCond .eq 7, 3)), (16, (.iconst 1, 1)), (17, (.goto 4, 3)), (20, (.iconst 0, 1)), (21, (.ireturn, 1))]
theorem dAX0_isWithoutName_q0 : ∀ x ∈ dPX0_isWithoutName_q0, decode cX0_isWithoutName x.1 = .ok x.2 := by decide +kernel
theorem dX0_isWithoutName_0 : decode cX0_isWithoutName 0 = .ok (.iload_n 1, 1) := dc_at (f := decode cX0_isWithoutName) dAX0_isWithoutName_q0 0 rfl
theorem dX0_isWithoutName_1 : decode cX0_isWithoutName 1 = .ok (.invokestatic 31, 3) := dc_at (f := decode cX0_isWithoutName) dAX0_isWithoutName_q0 1 rfl
theorem dX0_isWithoutName_4 : decode cX0_isWithoutName 4 = .ok (.ifCond .eq 16, 3) := dc_at (f := decode cX0_isWithoutName) dAX0_isWithoutName_q0 2 rfl
theorem dX0_isWithoutName_7 : decode cX0_isWithoutName 7 = .ok (.aload_n 0, 1) := dc_at (f := decode cX0_isWithoutName) dAX0_isWithoutName_q0 3 rfl
theorem dX0_isWithoutName_8 : decode cX0_isWithoutName 8 = .ok (.getfield 18, 3) := dc_at (f := decode cX0_isWithoutName) dAX0_isWithoutName_q0 4 rfl
theorem dX0_isWithoutName_11 : decode cX0_isWithoutName 11 = .ok (.iload_n 1, 1) := dc_at (f := decode cX0_isWithoutName) dAX0_isWithoutName_q0 5 rfl
theorem dX0_isWithoutName_12 : decode cX0_isWithoutName 12 = .ok (.baload, 1) := dc_at (f := decode cX0_isWithoutName) dAX0_isWithoutName_q0 6 rfl
theorem dX0_isWithoutName_13 : decode cX0_isWithoutName 13 = .ok (.ifCond .eq 7, 3) := dc_at (f := decode cX0_isWithoutName) dAX0_isWithoutName_q0 7 rfl
theorem dX0_isWithoutName_16 : decode cX0_isWithoutName 16 = .ok (.iconst 1, 1) := dc_at (f := decode cX0_isWithoutName) dAX0_isWithoutName_q0 8 rfl
theorem dX0_isWithoutName_17 : decode cX0_isWithoutName 17 = .ok (.goto 4, 3) := dc_at (f := decode cX0_isWithoutName) dAX0_isWithoutName_q0 9 rfl
theorem dX0_isWithoutName_20 : decode cX0_isWithoutName 20 = .ok (.iconst 0, 1) := dc_at (f := decode cX0_isWithoutName) dAX0_isWithoutName_q0 10 rfl
theorem dX0_isWithoutName_21 : decode cX0_isWithoutName 21 = .ok (.ireturn, 1) := dc_at (f := decode cX0_isWithoutName) dAX0_isWithoutName_q0 11 rfl
def dPX0_gotBack_q0 : List (Nat × (Jvm.ClassFile.Instr × Nat)) := [(0, (.iload_n 1, 1)), (1, (.invokestatic 31, 3)), (4, (.ifCond .eq 12, 3)), (7, (.aload_n 0, 1)), (8, (.getfield 22, 3)), (11, (.iload_n 1, 1)), (12, (.iaload, 1)), (13, (.goto 4, 3)), (16, (.iconst 0, 1)), (17, (.ireturn, 1))]
theorem dAX0_gotBack_q0 : ∀ x ∈ dPX0_gotBack_q0, decode cX0_gotBack x.1 = .ok x.2 := by decide +kernel
theorem dX0_gotBack_0 : decode cX0_gotBack 0 = .ok (.iload_n 1, 1) := dc_at (f := decode cX0_gotBack) dAX0_gotBack_q0 0 rfl
theorem dX0_gotBack_1 : decode cX0_gotBack 1 = .ok (.invokestatic 31, 3) := dc_at (f := decode cX0_gotBack) dAX0_gotBack_q0 1 rfl
theorem dX0_gotBack_4 : decode cX0_gotBack 4 = .ok (.ifCond .eq 12, 3) := dc_at (f := decode cX0_gotBack) dAX0_gotBack_q0 2 rfl
theorem dX0_gotBack_7 : decode cX0_gotBack 7 = .ok (.aload_n 0, 1) := dc_at (f := decode cX0_gotBack) dAX0_gotBack_q0 3 rfl
theorem dX0_gotBack_8 : decode cX0_gotBack 8 = .ok (.getfield 22, 3) := dc_at (f := decode cX0_gotBack) dAX0_gotBack_q0 4 rfl
theorem dX0_gotBack_11 : decode cX0_gotBack 11 = .ok (.iload_n 1, 1) := dc_at (f := decode cX0_gotBack) dAX0_gotBack_q0 5 rfl
theorem dX0_gotBack_12 : decode cX0_gotBack 12 = .ok (.iaload, 1) := dc_at (f := decode cX0_gotBack) dAX0_gotBack_q0 6 rfl
theorem dX0_gotBack_13 : decode cX0_gotBack 13 = .ok (.goto 4, 3) := dc_at (f := decode cX0_gotBack) dAX0_gotBack_q0 7 rfl
theorem dX0_gotBack_17 : decode cX0_gotBack 17 = .ok (.ireturn, 1) := dc_at (f := decode cX0_gotBack) dAX0_gotBack_q0 9 rfl
def dPX0_ofStone_q0 : List (Nat × (Jvm.ClassFile.Instr × Nat)) := [(0, (.iload_n 1, 1)), (1, (.ifCond .lt 18, 3)), (4, (.iload_n 1, 1)), (5, (.bipush 30, 2)), (7, (.if_icmp .ge 12, 3)), (10, (.aload_n 0, 1)), (11, (.getfield 28, 3)), (14, (.iload_n 1, 1)), (15, (.iaload, 1)), (16, (.goto 4, 3)), (19, (.iconst (-1), 1)), (20, (.ireturn, 1))]
theorem dAX0_ofStone_q0 : ∀ x ∈ dPX0_ofStone_q0, decode cX0_ofStone x.1 = .ok x.2 := by decide +kernel
theorem dX0_ofStone_0 : decode cX0_ofStone 0 = .ok (.iload_n 1, 1) := dc_at (f := decode cX0_ofStone) dAX0_ofStone_q0 0 rfl
theorem dX0_ofStone_1 : decode cX0_ofStone 1 = .ok (.ifCond .lt 18, 3) := dc_at (f := decode cX0_ofStone) dAX0_ofStone_q0 1 rfl
theorem dX0_ofStone_4 : decode cX0_ofStone 4 = .ok (.iload_n 1, 1) := dc_at (f := decode cX0_ofStone) dAX0_ofStone_q0 2 rfl
theorem dX0_ofStone_5 : decode cX0_ofStone 5 = .ok (.bipush 30, 2) := dc_at (f := decode cX0_ofStone) dAX0_ofStone_q0 3 rfl
theorem dX0_ofStone_7 : decode cX0_ofStone 7 = .ok (.if_icmp .ge 12, 3) := dc_at (f := decode cX0_ofStone) dAX0_ofStone_q0 4 rfl
theorem dX0_ofStone_10 : decode cX0_ofStone 10 = .ok (.aload_n 0, 1) := dc_at (f := decode cX0_ofStone) dAX0_ofStone_q0 5 rfl
theorem dX0_ofStone_11 : decode cX0_ofStone 11 = .ok (.getfield 28, 3) := dc_at (f := decode cX0_ofStone) dAX0_ofStone_q0 6 rfl
theorem dX0_ofStone_14 : decode cX0_ofStone 14 = .ok (.iload_n 1, 1) := dc_at (f := decode cX0_ofStone) dAX0_ofStone_q0 7 rfl
theorem dX0_ofStone_15 : decode cX0_ofStone 15 = .ok (.iaload, 1) := dc_at (f := decode cX0_ofStone) dAX0_ofStone_q0 8 rfl
theorem dX0_ofStone_16 : decode cX0_ofStone 16 = .ok (.goto 4, 3) := dc_at (f := decode cX0_ofStone) dAX0_ofStone_q0 9 rfl
theorem dX0_ofStone_20 : decode cX0_ofStone 20 = .ok (.ireturn, 1) := dc_at (f := decode cX0_ofStone) dAX0_ofStone_q0 11 rfl
def dPX0_orderStones_q0 : List (Nat × (Jvm.ClassFile.Instr × Nat)) := [(0, (.iconst 0, 1)), (1, (.istore_n 3, 1)), (2, (.iload_n 3, 1)), (3, (.bipush 30, 2)), (5, (.if_icmp .ge 16, 3)), (8, (.aload_n 0, 1)), (9, (.getfield 25, 3)), (12, (.iload_n 3, 1)), (13, (.iconst 0, 1)), (14, (.iastore, 1)), (15, (.iinc 3 1, 3)), (18, (.goto (-16), 3)), (21, (.iconst 0, 1)), (22, (.istore_n 3, 1)), (23, (.iconst 0, 1)), (24, (.istore 4, 2)), (26, (.iload 4, 2)), (28, (.aload_n 1, 1)), (29, (.invokevirtual 35, 3)), (32, (.if_icmp .ge 114, 3)), (35, (.aload_n 1, 1)), (36, (.iload 4, 2)), (38, (.invokevirtual 41, 3)), (41, (.istore 5, 2)), (43, (.iload 5, 2)), (45, (.invokestatic 31, 3)), (48, (.ifCond .eq 92, 3)), (51, (.aload_n 0, 1)), (52, (.getfield 25, 3)), (55, (.iload 5, 2)), (57, (.iaload, 1)), (58, (.iload_n 2, 1)), (59, (.if_icmp .lt 7, 3)), (62, (.iconst 1, 1)), (63, (.goto 4, 3)), (66, (.iconst 0, 1)), (67, (.istore 6, 2)), (69, (.aload_n 0, 1)), (70, (.getfield 25, 3)), (73, (.iload 5, 2)), (75, (.dup2, 1)), (76, (.iaload, 1)), (77, (.aload_n 1, 1)), (78, (.iload 4, 2)), (80, (.invokevirtual 45, 3)), (83, (.iadd, 1)), (84, (.iastore, 1)), (85, (.iload 6, 2))]
theorem dAX0_orderStones_q0 : ∀ x ∈ dPX0_orderStones_q0, decode cX0_orderStones x.1 = .ok x.2 := by decide +kernel
theorem dX0_orderStones_0 : decode cX0_orderStones 0 = .ok (.iconst 0, 1) := dc_at (f := decode cX0_orderStones) dAX0_orderStones_q0 0 rfl
theorem dX0_orderStones_1 : decode cX0_orderStones 1 = .ok (.istore_n 3, 1) := dc_at (f := decode cX0_orderStones) dAX0_orderStones_q0 1 rfl
theorem dX0_orderStones_2 : decode cX0_orderStones 2 = .ok (.iload_n 3, 1) := dc_at (f := decode cX0_orderStones) dAX0_orderStones_q0 2 rfl
theorem dX0_orderStones_3 : decode cX0_orderStones 3 = .ok (.bipush 30, 2) := dc_at (f := decode cX0_orderStones) dAX0_orderStones_q0 3 rfl
theorem dX0_orderStones_5 : decode cX0_orderStones 5 = .ok (.if_icmp .ge 16, 3) := dc_at (f := decode cX0_orderStones) dAX0_orderStones_q0 4 rfl
theorem dX0_orderStones_8 : decode cX0_orderStones 8 = .ok (.aload_n 0, 1) := dc_at (f := decode cX0_orderStones) dAX0_orderStones_q0 5 rfl
theorem dX0_orderStones_9 : decode cX0_orderStones 9 = .ok (.getfield 25, 3) := dc_at (f := decode cX0_orderStones) dAX0_orderStones_q0 6 rfl
theorem dX0_orderStones_12 : decode cX0_orderStones 12 = .ok (.iload_n 3, 1) := dc_at (f := decode cX0_orderStones) dAX0_orderStones_q0 7 rfl
theorem dX0_orderStones_13 : decode cX0_orderStones 13 = .ok (.iconst 0, 1) := dc_at (f := decode cX0_orderStones) dAX0_orderStones_q0 8 rfl
theorem dX0_orderStones_14 : decode cX0_orderStones 14 = .ok (.iastore, 1) := dc_at (f := decode cX0_orderStones) dAX0_orderStones_q0 9 rfl
theorem dX0_orderStones_15 : decode cX0_orderStones 15 = .ok (.iinc 3 1, 3) := dc_at (f := decode cX0_orderStones) dAX0_orderStones_q0 10 rfl
theorem dX0_orderStones_18 : decode cX0_orderStones 18 = .ok (.goto (-16), 3) := dc_at (f := decode cX0_orderStones) dAX0_orderStones_q0 11 rfl
theorem dX0_orderStones_21 : decode cX0_orderStones 21 = .ok (.iconst 0, 1) := dc_at (f := decode cX0_orderStones) dAX0_orderStones_q0 12 rfl
theorem dX0_orderStones_22 : decode cX0_orderStones 22 = .ok (.istore_n 3, 1) := dc_at (f := decode cX0_orderStones) dAX0_orderStones_q0 13 rfl
theorem dX0_orderStones_23 : decode cX0_orderStones 23 = .ok (.iconst 0, 1) := dc_at (f := decode cX0_orderStones) dAX0_orderStones_q0 14 rfl
theorem dX0_orderStones_24 : decode cX0_orderStones 24 = .ok (.istore 4, 2) := dc_at (f := decode cX0_orderStones) dAX0_orderStones_q0 15 rfl
theorem dX0_orderStones_26 : decode cX0_orderStones 26 = .ok (.iload 4, 2) := dc_at (f := decode cX0_orderStones) dAX0_orderStones_q0 16 rfl
theorem dX0_orderStones_28 : decode cX0_orderStones 28 = .ok (.aload_n 1, 1) := dc_at (f := decode cX0_orderStones) dAX0_orderStones_q0 17 rfl
theorem dX0_orderStones_29 : decode cX0_orderStones 29 = .ok (.invokevirtual 35, 3) := dc_at (f := decode cX0_orderStones) dAX0_orderStones_q0 18 rfl
theorem dX0_orderStones_32 : decode cX0_orderStones 32 = .ok (.if_icmp .ge 114, 3) := dc_at (f := decode cX0_orderStones) dAX0_orderStones_q0 19 rfl
theorem dX0_orderStones_35 : decode cX0_orderStones 35 = .ok (.aload_n 1, 1) := dc_at (f := decode cX0_orderStones) dAX0_orderStones_q0 20 rfl
theorem dX0_orderStones_36 : decode cX0_orderStones 36 = .ok (.iload 4, 2) := dc_at (f := decode cX0_orderStones) dAX0_orderStones_q0 21 rfl
theorem dX0_orderStones_38 : decode cX0_orderStones 38 = .ok (.invokevirtual 41, 3) := dc_at (f := decode cX0_orderStones) dAX0_orderStones_q0 22 rfl
theorem dX0_orderStones_41 : decode cX0_orderStones 41 = .ok (.istore 5, 2) := dc_at (f := decode cX0_orderStones) dAX0_orderStones_q0 23 rfl
theorem dX0_orderStones_43 : decode cX0_orderStones 43 = .ok (.iload 5, 2) := dc_at (f := decode cX0_orderStones) dAX0_orderStones_q0 24 rfl
theorem dX0_orderStones_45 : decode cX0_orderStones 45 = .ok (.invokestatic 31, 3) := dc_at (f := decode cX0_orderStones) dAX0_orderStones_q0 25 rfl
theorem dX0_orderStones_48 : decode cX0_orderStones 48 = .ok (.ifCond .eq 92, 3) := dc_at (f := decode cX0_orderStones) dAX0_orderStones_q0 26 rfl
theorem dX0_orderStones_51 : decode cX0_orderStones 51 = .ok (.aload_n 0, 1) := dc_at (f := decode cX0_orderStones) dAX0_orderStones_q0 27 rfl
theorem dX0_orderStones_52 : decode cX0_orderStones 52 = .ok (.getfield 25, 3) := dc_at (f := decode cX0_orderStones) dAX0_orderStones_q0 28 rfl
theorem dX0_orderStones_55 : decode cX0_orderStones 55 = .ok (.iload 5, 2) := dc_at (f := decode cX0_orderStones) dAX0_orderStones_q0 29 rfl
theorem dX0_orderStones_57 : decode cX0_orderStones 57 = .ok (.iaload, 1) := dc_at (f := decode cX0_orderStones) dAX0_orderStones_q0 30 rfl
theorem dX0_orderStones_58 : decode cX0_orderStones 58 = .ok (.iload_n 2, 1) := dc_at (f := decode cX0_orderStones) dAX0_orderStones_q0 31 rfl
theorem dX0_orderStones_59 : decode cX0_orderStones 59 = .ok (.if_icmp .lt 7, 3) := dc_at (f := decode cX0_orderStones) dAX0_orderStones_q0 32 rfl
theorem dX0_orderStones_62 : decode cX0_orderStones 62 = .ok (.iconst 1, 1) := dc_at (f := decode cX0_orderStones) dAX0_orderStones_q0 33 rfl
theorem dX0_orderStones_63 : decode cX0_orderStones 63 = .ok (.goto 4, 3) := dc_at (f := decode cX0_orderStones) dAX0_orderStones_q0 34 rfl
theorem dX0_orderStones_66 : decode cX0_orderStones 66 = .ok (.iconst 0, 1) := dc_at (f := decode cX0_orderStones) dAX0_orderStones_q0 35 rfl
theorem dX0_orderStones_67 : decode cX0_orderStones 67 = .ok (.istore 6, 2) := dc_at (f := decode cX0_orderStones) dAX0_orderStones_q0 36 rfl
theorem dX0_orderStones_69 : decode cX0_orderStones 69 = .ok (.aload_n 0, 1) := dc_at (f := decode cX0_orderStones) dAX0_orderStones_q0 37 rfl
theorem dX0_orderStones_70 : decode cX0_orderStones 70 = .ok (.getfield 25, 3) := dc_at (f := decode cX0_orderStones) dAX0_orderStones_q0 38 rfl
theorem dX0_orderStones_73 : decode cX0_orderStones 73 = .ok (.iload 5, 2) := dc_at (f := decode cX0_orderStones) dAX0_orderStones_q0 39 rfl
theorem dX0_orderStones_75 : decode cX0_orderStones 75 = .ok (.dup2, 1) := dc_at (f := decode cX0_orderStones) dAX0_orderStones_q0 40 rfl
theorem dX0_orderStones_76 : decode cX0_orderStones 76 = .ok (.iaload, 1) := dc_at (f := decode cX0_orderStones) dAX0_orderStones_q0 41 rfl
theorem dX0_orderStones_77 : decode cX0_orderStones 77 = .ok (.aload_n 1, 1) := dc_at (f := decode cX0_orderStones) dAX0_orderStones_q0 42 rfl
theorem dX0_orderStones_78 : decode cX0_orderStones 78 = .ok (.iload 4, 2) := dc_at (f := decode cX0_orderStones) dAX0_orderStones_q0 43 rfl
theorem dX0_orderStones_80 : decode cX0_orderStones 80 = .ok (.invokevirtual 45, 3) := dc_at (f := decode cX0_orderStones) dAX0_orderStones_q0 44 rfl
theorem dX0_orderStones_83 : decode cX0_orderStones 83 = .ok (.iadd, 1) := dc_at (f := decode cX0_orderStones) dAX0_orderStones_q0 45 rfl
theorem dX0_orderStones_84 : decode cX0_orderStones 84 = .ok (.iastore, 1) := dc_at (f := decode cX0_orderStones) dAX0_orderStones_q0 46 rfl
theorem dX0_orderStones_85 : decode cX0_orderStones 85 = .ok (.iload 6, 2) := dc_at (f := decode cX0_orderStones) dAX0_orderStones_q0 47 rfl
def dPX0_orderStones_q1 : List (Nat × (Jvm.ClassFile.Instr × Nat)) := [(87, (.ifCond .ne 18, 3)), (90, (.aload_n 0, 1)), (91, (.getfield 25, 3)), (94, (.iload 5, 2)), (96, (.iaload, 1)), (97, (.iload_n 2, 1)), (98, (.if_icmp .lt 7, 3)), (101, (.iconst 1, 1)), (102, (.goto 4, 3)), (105, (.iconst 0, 1)), (106, (.istore 7, 2)), (108, (.iload 7, 2)), (110, (.ifCond .eq 30, 3)), (113, (.aload_n 0, 1)), (114, (.getfield 18, 3)), (117, (.iload 5, 2)), (119, (.baload, 1)), (120, (.ifCond .ne 20, 3)), (123, (.iload_n 3, 1)), (124, (.bipush 30, 2)), (126, (.if_icmp .ge 14, 3)), (129, (.aload_n 0, 1)), (130, (.getfield 28, 3)), (133, (.iload_n 3, 1)), (134, (.iload 5, 2)), (136, (.iastore, 1)), (137, (.iinc 3 1, 3)), (140, (.iinc 4 1, 3)), (143, (.goto (-117), 3)), (146, (.iload_n 3, 1)), (147, (.ireturn, 1))]
theorem dAX0_orderStones_q1 : ∀ x ∈ dPX0_orderStones_q1, decode cX0_orderStones x.1 = .ok x.2 := by decide +kernel
theorem dX0_orderStones_87 : decode cX0_orderStones 87 = .ok (.ifCond .ne 18, 3) := dc_at (f := decode cX0_orderStones) dAX0_orderStones_q1 0 rfl
theorem dX0_orderStones_90 : decode cX0_orderStones 90 = .ok (.aload_n 0, 1) := dc_at (f := decode cX0_orderStones) dAX0_orderStones_q1 1 rfl
theorem dX0_orderStones_91 : decode cX0_orderStones 91 = .ok (.getfield 25, 3) := dc_at (f := decode cX0_orderStones) dAX0_orderStones_q1 2 rfl
theorem dX0_orderStones_94 : decode cX0_orderStones 94 = .ok (.iload 5, 2) := dc_at (f := decode cX0_orderStones) dAX0_orderStones_q1 3 rfl
theorem dX0_orderStones_96 : decode cX0_orderStones 96 = .ok (.iaload, 1) := dc_at (f := decode cX0_orderStones) dAX0_orderStones_q1 4 rfl
theorem dX0_orderStones_97 : decode cX0_orderStones 97 = .ok (.iload_n 2, 1) := dc_at (f := decode cX0_orderStones) dAX0_orderStones_q1 5 rfl
theorem dX0_orderStones_98 : decode cX0_orderStones 98 = .ok (.if_icmp .lt 7, 3) := dc_at (f := decode cX0_orderStones) dAX0_orderStones_q1 6 rfl
theorem dX0_orderStones_101 : decode cX0_orderStones 101 = .ok (.iconst 1, 1) := dc_at (f := decode cX0_orderStones) dAX0_orderStones_q1 7 rfl
theorem dX0_orderStones_102 : decode cX0_orderStones 102 = .ok (.goto 4, 3) := dc_at (f := decode cX0_orderStones) dAX0_orderStones_q1 8 rfl
theorem dX0_orderStones_105 : decode cX0_orderStones 105 = .ok (.iconst 0, 1) := dc_at (f := decode cX0_orderStones) dAX0_orderStones_q1 9 rfl
theorem dX0_orderStones_106 : decode cX0_orderStones 106 = .ok (.istore 7, 2) := dc_at (f := decode cX0_orderStones) dAX0_orderStones_q1 10 rfl
theorem dX0_orderStones_108 : decode cX0_orderStones 108 = .ok (.iload 7, 2) := dc_at (f := decode cX0_orderStones) dAX0_orderStones_q1 11 rfl
theorem dX0_orderStones_110 : decode cX0_orderStones 110 = .ok (.ifCond .eq 30, 3) := dc_at (f := decode cX0_orderStones) dAX0_orderStones_q1 12 rfl
theorem dX0_orderStones_113 : decode cX0_orderStones 113 = .ok (.aload_n 0, 1) := dc_at (f := decode cX0_orderStones) dAX0_orderStones_q1 13 rfl
theorem dX0_orderStones_114 : decode cX0_orderStones 114 = .ok (.getfield 18, 3) := dc_at (f := decode cX0_orderStones) dAX0_orderStones_q1 14 rfl
theorem dX0_orderStones_117 : decode cX0_orderStones 117 = .ok (.iload 5, 2) := dc_at (f := decode cX0_orderStones) dAX0_orderStones_q1 15 rfl
theorem dX0_orderStones_119 : decode cX0_orderStones 119 = .ok (.baload, 1) := dc_at (f := decode cX0_orderStones) dAX0_orderStones_q1 16 rfl
theorem dX0_orderStones_120 : decode cX0_orderStones 120 = .ok (.ifCond .ne 20, 3) := dc_at (f := decode cX0_orderStones) dAX0_orderStones_q1 17 rfl
theorem dX0_orderStones_123 : decode cX0_orderStones 123 = .ok (.iload_n 3, 1) := dc_at (f := decode cX0_orderStones) dAX0_orderStones_q1 18 rfl
theorem dX0_orderStones_124 : decode cX0_orderStones 124 = .ok (.bipush 30, 2) := dc_at (f := decode cX0_orderStones) dAX0_orderStones_q1 19 rfl
theorem dX0_orderStones_126 : decode cX0_orderStones 126 = .ok (.if_icmp .ge 14, 3) := dc_at (f := decode cX0_orderStones) dAX0_orderStones_q1 20 rfl
theorem dX0_orderStones_129 : decode cX0_orderStones 129 = .ok (.aload_n 0, 1) := dc_at (f := decode cX0_orderStones) dAX0_orderStones_q1 21 rfl
theorem dX0_orderStones_130 : decode cX0_orderStones 130 = .ok (.getfield 28, 3) := dc_at (f := decode cX0_orderStones) dAX0_orderStones_q1 22 rfl
theorem dX0_orderStones_133 : decode cX0_orderStones 133 = .ok (.iload_n 3, 1) := dc_at (f := decode cX0_orderStones) dAX0_orderStones_q1 23 rfl
theorem dX0_orderStones_134 : decode cX0_orderStones 134 = .ok (.iload 5, 2) := dc_at (f := decode cX0_orderStones) dAX0_orderStones_q1 24 rfl
theorem dX0_orderStones_136 : decode cX0_orderStones 136 = .ok (.iastore, 1) := dc_at (f := decode cX0_orderStones) dAX0_orderStones_q1 25 rfl
theorem dX0_orderStones_137 : decode cX0_orderStones 137 = .ok (.iinc 3 1, 3) := dc_at (f := decode cX0_orderStones) dAX0_orderStones_q1 26 rfl
theorem dX0_orderStones_140 : decode cX0_orderStones 140 = .ok (.iinc 4 1, 3) := dc_at (f := decode cX0_orderStones) dAX0_orderStones_q1 27 rfl
theorem dX0_orderStones_143 : decode cX0_orderStones 143 = .ok (.goto (-117), 3) := dc_at (f := decode cX0_orderStones) dAX0_orderStones_q1 28 rfl
theorem dX0_orderStones_146 : decode cX0_orderStones 146 = .ok (.iload_n 3, 1) := dc_at (f := decode cX0_orderStones) dAX0_orderStones_q1 29 rfl
theorem dX0_orderStones_147 : decode cX0_orderStones 147 = .ok (.ireturn, 1) := dc_at (f := decode cX0_orderStones) dAX0_orderStones_q1 30 rfl
def dPX0_partCoin_q0 : List (Nat × (Jvm.ClassFile.Instr × Nat)) := [(0, (.aload_n 3, 1)), (1, (.invokevirtual 48, 3)), (4, (.lstore 5, 2)), (6, (.iload 4, 2)), (8, (.ifCond .eq 14, 3)), (11, (.lload_n 1, 1)), (12, (.lload 5, 2)), (14, (.lcmp, 1)), (15, (.ifCond .lt 7, 3)), (18, (.iconst 1, 1)), (19, (.goto 4, 3)), (22, (.iconst 0, 1)), (23, (.istore 7, 2)), (25, (.iconst 0, 1)), (26, (.istore 8, 2)), (28, (.iconst 0, 1)), (29, (.istore 9, 2)), (31, (.iload 9, 2)), (33, (.bipush 30, 2)), (35, (.if_icmp .ge 69, 3)), (38, (.aload_n 3, 1)), (39, (.iload 9, 2)), (41, (.invokevirtual 52, 3)), (44, (.istore 10, 2)), (46, (.iload 7, 2)), (48, (.ifCond .eq 15, 3)), (51, (.aload_n 0, 1)), (52, (.getfield 22, 3)), (55, (.iload 9, 2)), (57, (.iload 10, 2)), (59, (.iastore, 1)), (60, (.goto 26, 3)), (63, (.lload 5, 2)), (65, (.lconst 0, 1)), (66, (.lcmp, 1)), (67, (.ifCond .le 19, 3)), (70, (.aload_n 0, 1)), (71, (.getfield 22, 3)), (74, (.iload 9, 2)), (76, (.lload_n 1, 1)), (77, (.iload 10, 2)), (79, (.i2l, 1)), (80, (.lmul, 1)), (81, (.lload 5, 2)), (83, (.ldiv, 1)), (84, (.l2i, 1)), (85, (.iastore, 1)), (86, (.iload 8, 2))]
theorem dAX0_partCoin_q0 : ∀ x ∈ dPX0_partCoin_q0, decode cX0_partCoin x.1 = .ok x.2 := by decide +kernel
theorem dX0_partCoin_0 : decode cX0_partCoin 0 = .ok (.aload_n 3, 1) := dc_at (f := decode cX0_partCoin) dAX0_partCoin_q0 0 rfl
theorem dX0_partCoin_1 : decode cX0_partCoin 1 = .ok (.invokevirtual 48, 3) := dc_at (f := decode cX0_partCoin) dAX0_partCoin_q0 1 rfl
theorem dX0_partCoin_4 : decode cX0_partCoin 4 = .ok (.lstore 5, 2) := dc_at (f := decode cX0_partCoin) dAX0_partCoin_q0 2 rfl
theorem dX0_partCoin_6 : decode cX0_partCoin 6 = .ok (.iload 4, 2) := dc_at (f := decode cX0_partCoin) dAX0_partCoin_q0 3 rfl
theorem dX0_partCoin_8 : decode cX0_partCoin 8 = .ok (.ifCond .eq 14, 3) := dc_at (f := decode cX0_partCoin) dAX0_partCoin_q0 4 rfl
theorem dX0_partCoin_11 : decode cX0_partCoin 11 = .ok (.lload_n 1, 1) := dc_at (f := decode cX0_partCoin) dAX0_partCoin_q0 5 rfl
theorem dX0_partCoin_12 : decode cX0_partCoin 12 = .ok (.lload 5, 2) := dc_at (f := decode cX0_partCoin) dAX0_partCoin_q0 6 rfl
theorem dX0_partCoin_14 : decode cX0_partCoin 14 = .ok (.lcmp, 1) := dc_at (f := decode cX0_partCoin) dAX0_partCoin_q0 7 rfl
theorem dX0_partCoin_15 : decode cX0_partCoin 15 = .ok (.ifCond .lt 7, 3) := dc_at (f := decode cX0_partCoin) dAX0_partCoin_q0 8 rfl
theorem dX0_partCoin_18 : decode cX0_partCoin 18 = .ok (.iconst 1, 1) := dc_at (f := decode cX0_partCoin) dAX0_partCoin_q0 9 rfl
theorem dX0_partCoin_19 : decode cX0_partCoin 19 = .ok (.goto 4, 3) := dc_at (f := decode cX0_partCoin) dAX0_partCoin_q0 10 rfl
theorem dX0_partCoin_22 : decode cX0_partCoin 22 = .ok (.iconst 0, 1) := dc_at (f := decode cX0_partCoin) dAX0_partCoin_q0 11 rfl
theorem dX0_partCoin_23 : decode cX0_partCoin 23 = .ok (.istore 7, 2) := dc_at (f := decode cX0_partCoin) dAX0_partCoin_q0 12 rfl
theorem dX0_partCoin_25 : decode cX0_partCoin 25 = .ok (.iconst 0, 1) := dc_at (f := decode cX0_partCoin) dAX0_partCoin_q0 13 rfl
theorem dX0_partCoin_26 : decode cX0_partCoin 26 = .ok (.istore 8, 2) := dc_at (f := decode cX0_partCoin) dAX0_partCoin_q0 14 rfl
theorem dX0_partCoin_28 : decode cX0_partCoin 28 = .ok (.iconst 0, 1) := dc_at (f := decode cX0_partCoin) dAX0_partCoin_q0 15 rfl
theorem dX0_partCoin_29 : decode cX0_partCoin 29 = .ok (.istore 9, 2) := dc_at (f := decode cX0_partCoin) dAX0_partCoin_q0 16 rfl
theorem dX0_partCoin_31 : decode cX0_partCoin 31 = .ok (.iload 9, 2) := dc_at (f := decode cX0_partCoin) dAX0_partCoin_q0 17 rfl
theorem dX0_partCoin_33 : decode cX0_partCoin 33 = .ok (.bipush 30, 2) := dc_at (f := decode cX0_partCoin) dAX0_partCoin_q0 18 rfl
theorem dX0_partCoin_35 : decode cX0_partCoin 35 = .ok (.if_icmp .ge 69, 3) := dc_at (f := decode cX0_partCoin) dAX0_partCoin_q0 19 rfl
theorem dX0_partCoin_38 : decode cX0_partCoin 38 = .ok (.aload_n 3, 1) := dc_at (f := decode cX0_partCoin) dAX0_partCoin_q0 20 rfl
theorem dX0_partCoin_39 : decode cX0_partCoin 39 = .ok (.iload 9, 2) := dc_at (f := decode cX0_partCoin) dAX0_partCoin_q0 21 rfl
theorem dX0_partCoin_41 : decode cX0_partCoin 41 = .ok (.invokevirtual 52, 3) := dc_at (f := decode cX0_partCoin) dAX0_partCoin_q0 22 rfl
theorem dX0_partCoin_44 : decode cX0_partCoin 44 = .ok (.istore 10, 2) := dc_at (f := decode cX0_partCoin) dAX0_partCoin_q0 23 rfl
theorem dX0_partCoin_46 : decode cX0_partCoin 46 = .ok (.iload 7, 2) := dc_at (f := decode cX0_partCoin) dAX0_partCoin_q0 24 rfl
theorem dX0_partCoin_48 : decode cX0_partCoin 48 = .ok (.ifCond .eq 15, 3) := dc_at (f := decode cX0_partCoin) dAX0_partCoin_q0 25 rfl
theorem dX0_partCoin_51 : decode cX0_partCoin 51 = .ok (.aload_n 0, 1) := dc_at (f := decode cX0_partCoin) dAX0_partCoin_q0 26 rfl
theorem dX0_partCoin_52 : decode cX0_partCoin 52 = .ok (.getfield 22, 3) := dc_at (f := decode cX0_partCoin) dAX0_partCoin_q0 27 rfl
theorem dX0_partCoin_55 : decode cX0_partCoin 55 = .ok (.iload 9, 2) := dc_at (f := decode cX0_partCoin) dAX0_partCoin_q0 28 rfl
theorem dX0_partCoin_57 : decode cX0_partCoin 57 = .ok (.iload 10, 2) := dc_at (f := decode cX0_partCoin) dAX0_partCoin_q0 29 rfl
theorem dX0_partCoin_59 : decode cX0_partCoin 59 = .ok (.iastore, 1) := dc_at (f := decode cX0_partCoin) dAX0_partCoin_q0 30 rfl
theorem dX0_partCoin_60 : decode cX0_partCoin 60 = .ok (.goto 26, 3) := dc_at (f := decode cX0_partCoin) dAX0_partCoin_q0 31 rfl
theorem dX0_partCoin_63 : decode cX0_partCoin 63 = .ok (.lload 5, 2) := dc_at (f := decode cX0_partCoin) dAX0_partCoin_q0 32 rfl
theorem dX0_partCoin_65 : decode cX0_partCoin 65 = .ok (.lconst 0, 1) := dc_at (f := decode cX0_partCoin) dAX0_partCoin_q0 33 rfl
theorem dX0_partCoin_66 : decode cX0_partCoin 66 = .ok (.lcmp, 1) := dc_at (f := decode cX0_partCoin) dAX0_partCoin_q0 34 rfl
theorem dX0_partCoin_67 : decode cX0_partCoin 67 = .ok (.ifCond .le 19, 3) := dc_at (f := decode cX0_partCoin) dAX0_partCoin_q0 35 rfl
theorem dX0_partCoin_70 : decode cX0_partCoin 70 = .ok (.aload_n 0, 1) := dc_at (f := decode cX0_partCoin) dAX0_partCoin_q0 36 rfl
theorem dX0_partCoin_71 : decode cX0_partCoin 71 = .ok (.getfield 22, 3) := dc_at (f := decode cX0_partCoin) dAX0_partCoin_q0 37 rfl
theorem dX0_partCoin_74 : decode cX0_partCoin 74 = .ok (.iload 9, 2) := dc_at (f := decode cX0_partCoin) dAX0_partCoin_q0 38 rfl
theorem dX0_partCoin_76 : decode cX0_partCoin 76 = .ok (.lload_n 1, 1) := dc_at (f := decode cX0_partCoin) dAX0_partCoin_q0 39 rfl
theorem dX0_partCoin_77 : decode cX0_partCoin 77 = .ok (.iload 10, 2) := dc_at (f := decode cX0_partCoin) dAX0_partCoin_q0 40 rfl
theorem dX0_partCoin_79 : decode cX0_partCoin 79 = .ok (.i2l, 1) := dc_at (f := decode cX0_partCoin) dAX0_partCoin_q0 41 rfl
theorem dX0_partCoin_80 : decode cX0_partCoin 80 = .ok (.lmul, 1) := dc_at (f := decode cX0_partCoin) dAX0_partCoin_q0 42 rfl
theorem dX0_partCoin_81 : decode cX0_partCoin 81 = .ok (.lload 5, 2) := dc_at (f := decode cX0_partCoin) dAX0_partCoin_q0 43 rfl
theorem dX0_partCoin_83 : decode cX0_partCoin 83 = .ok (.ldiv, 1) := dc_at (f := decode cX0_partCoin) dAX0_partCoin_q0 44 rfl
theorem dX0_partCoin_84 : decode cX0_partCoin 84 = .ok (.l2i, 1) := dc_at (f := decode cX0_partCoin) dAX0_partCoin_q0 45 rfl
theorem dX0_partCoin_85 : decode cX0_partCoin 85 = .ok (.iastore, 1) := dc_at (f := decode cX0_partCoin) dAX0_partCoin_q0 46 rfl
theorem dX0_partCoin_86 : decode cX0_partCoin 86 = .ok (.iload 8, 2) := dc_at (f := decode cX0_partCoin) dAX0_partCoin_q0 47 rfl
def dPX0_partCoin_q1 : List (Nat × (Jvm.ClassFile.Instr × Nat)) := [(88, (.aload_n 0, 1)), (89, (.getfield 22, 3)), (92, (.iload 9, 2)), (94, (.iaload, 1)), (95, (.iadd, 1)), (96, (.istore 8, 2)), (98, (.iinc 9 1, 3)), (101, (.goto (-70), 3)), (104, (.iload 8, 2)), (106, (.ireturn, 1))]
theorem dAX0_partCoin_q1 : ∀ x ∈ dPX0_partCoin_q1, decode cX0_partCoin x.1 = .ok x.2 := by decide +kernel
theorem dX0_partCoin_88 : decode cX0_partCoin 88 = .ok (.aload_n 0, 1) := dc_at (f := decode cX0_partCoin) dAX0_partCoin_q1 0 rfl
theorem dX0_partCoin_89 : decode cX0_partCoin 89 = .ok (.getfield 22, 3) := dc_at (f := decode cX0_partCoin) dAX0_partCoin_q1 1 rfl
theorem dX0_partCoin_92 : decode cX0_partCoin 92 = .ok (.iload 9, 2) := dc_at (f := decode cX0_partCoin) dAX0_partCoin_q1 2 rfl
theorem dX0_partCoin_94 : decode cX0_partCoin 94 = .ok (.iaload, 1) := dc_at (f := decode cX0_partCoin) dAX0_partCoin_q1 3 rfl
theorem dX0_partCoin_95 : decode cX0_partCoin 95 = .ok (.iadd, 1) := dc_at (f := decode cX0_partCoin) dAX0_partCoin_q1 4 rfl
theorem dX0_partCoin_96 : decode cX0_partCoin 96 = .ok (.istore 8, 2) := dc_at (f := decode cX0_partCoin) dAX0_partCoin_q1 5 rfl
theorem dX0_partCoin_98 : decode cX0_partCoin 98 = .ok (.iinc 9 1, 3) := dc_at (f := decode cX0_partCoin) dAX0_partCoin_q1 6 rfl
theorem dX0_partCoin_101 : decode cX0_partCoin 101 = .ok (.goto (-70), 3) := dc_at (f := decode cX0_partCoin) dAX0_partCoin_q1 7 rfl
theorem dX0_partCoin_104 : decode cX0_partCoin 104 = .ok (.iload 8, 2) := dc_at (f := decode cX0_partCoin) dAX0_partCoin_q1 8 rfl
theorem dX0_partCoin_106 : decode cX0_partCoin 106 = .ok (.ireturn, 1) := dc_at (f := decode cX0_partCoin) dAX0_partCoin_q1 9 rfl
def dPX1_init_q0 : List (Nat × (Jvm.ClassFile.Instr × Nat)) := [(0, (.aload_n 0, 1)), (1, (.invokespecial 3, 3)), (4, (.aload_n 0, 1)), (5, (.iconst (-1), 1)), (6, (.putfield 9, 3)), (9, (.aload_n 0, 1)), (10, (.iload_n 1, 1)), (11, (.putfield 15, 3)), (14, (.aload_n 0, 1)), (15, (.iload_n 3, 1)), (16, (.putfield 18, 3)), (19, (.aload_n 0, 1)), (20, (.iload 4, 2)), (22, (.putfield 21, 3)), (25, (.aload_n 0, 1)), (26, (.iload_n 3, 1)), (27, (.iload 4, 2)), (29, (.iload 5, 2)), (31, (.invokestatic 24, 3)), (34, (.putfield 28, 3)), (37, (.aload_n 0, 1)), (38, (.aload_n 0, 1)), (39, (.getfield 28, 3)), (42, (.newarray .int, 2)), (44, (.putfield 31, 3)), (47, (.aload_n 0, 1)), (48, (.aload_n 0, 1)), (49, (.getfield 28, 3)), (52, (.newarray .int, 2)), (54, (.putfield 35, 3)), (57, (.aload_n 0, 1)), (58, (.aload_n 0, 1)), (59, (.getfield 28, 3)), (62, (.newarray .int, 2)), (64, (.putfield 38, 3)), (67, (.aload_n 0, 1)), (68, (.iload_n 2, 1)), (69, (.putfield 41, 3)), (72, (.iconst 0, 1)), (73, (.istore 6, 2)), (75, (.iload 6, 2)), (77, (.aload_n 0, 1)), (78, (.getfield 28, 3)), (81, (.if_icmp .ge 17, 3)), (84, (.aload_n 0, 1)), (85, (.getfield 31, 3)), (88, (.iload 6, 2)), (90, (.iload_n 2, 1))]
theorem dAX1_init_q0 : ∀ x ∈ dPX1_init_q0, decode cX1_init x.1 = .ok x.2 := by decide +kernel
theorem dX1_init_0 : decode cX1_init 0 = .ok (.aload_n 0, 1) := dc_at (f := decode cX1_init) dAX1_init_q0 0 rfl
theorem dX1_init_1 : decode cX1_init 1 = .ok (.invokespecial 3, 3) := dc_at (f := decode cX1_init) dAX1_init_q0 1 rfl
theorem dX1_init_4 : decode cX1_init 4 = .ok (.aload_n 0, 1) := dc_at (f := decode cX1_init) dAX1_init_q0 2 rfl
theorem dX1_init_5 : decode cX1_init 5 = .ok (.iconst (-1), 1) := dc_at (f := decode cX1_init) dAX1_init_q0 3 rfl
theorem dX1_init_6 : decode cX1_init 6 = .ok (.putfield 9, 3) := dc_at (f := decode cX1_init) dAX1_init_q0 4 rfl
theorem dX1_init_9 : decode cX1_init 9 = .ok (.aload_n 0, 1) := dc_at (f := decode cX1_init) dAX1_init_q0 5 rfl
theorem dX1_init_10 : decode cX1_init 10 = .ok (.iload_n 1, 1) := dc_at (f := decode cX1_init) dAX1_init_q0 6 rfl
theorem dX1_init_11 : decode cX1_init 11 = .ok (.putfield 15, 3) := dc_at (f := decode cX1_init) dAX1_init_q0 7 rfl
theorem dX1_init_14 : decode cX1_init 14 = .ok (.aload_n 0, 1) := dc_at (f := decode cX1_init) dAX1_init_q0 8 rfl
theorem dX1_init_15 : decode cX1_init 15 = .ok (.iload_n 3, 1) := dc_at (f := decode cX1_init) dAX1_init_q0 9 rfl
theorem dX1_init_16 : decode cX1_init 16 = .ok (.putfield 18, 3) := dc_at (f := decode cX1_init) dAX1_init_q0 10 rfl
theorem dX1_init_19 : decode cX1_init 19 = .ok (.aload_n 0, 1) := dc_at (f := decode cX1_init) dAX1_init_q0 11 rfl
theorem dX1_init_20 : decode cX1_init 20 = .ok (.iload 4, 2) := dc_at (f := decode cX1_init) dAX1_init_q0 12 rfl
theorem dX1_init_22 : decode cX1_init 22 = .ok (.putfield 21, 3) := dc_at (f := decode cX1_init) dAX1_init_q0 13 rfl
theorem dX1_init_25 : decode cX1_init 25 = .ok (.aload_n 0, 1) := dc_at (f := decode cX1_init) dAX1_init_q0 14 rfl
theorem dX1_init_26 : decode cX1_init 26 = .ok (.iload_n 3, 1) := dc_at (f := decode cX1_init) dAX1_init_q0 15 rfl
theorem dX1_init_27 : decode cX1_init 27 = .ok (.iload 4, 2) := dc_at (f := decode cX1_init) dAX1_init_q0 16 rfl
theorem dX1_init_29 : decode cX1_init 29 = .ok (.iload 5, 2) := dc_at (f := decode cX1_init) dAX1_init_q0 17 rfl
theorem dX1_init_31 : decode cX1_init 31 = .ok (.invokestatic 24, 3) := dc_at (f := decode cX1_init) dAX1_init_q0 18 rfl
theorem dX1_init_34 : decode cX1_init 34 = .ok (.putfield 28, 3) := dc_at (f := decode cX1_init) dAX1_init_q0 19 rfl
theorem dX1_init_37 : decode cX1_init 37 = .ok (.aload_n 0, 1) := dc_at (f := decode cX1_init) dAX1_init_q0 20 rfl
theorem dX1_init_38 : decode cX1_init 38 = .ok (.aload_n 0, 1) := dc_at (f := decode cX1_init) dAX1_init_q0 21 rfl
theorem dX1_init_39 : decode cX1_init 39 = .ok (.getfield 28, 3) := dc_at (f := decode cX1_init) dAX1_init_q0 22 rfl
theorem dX1_init_42 : decode cX1_init 42 = .ok (.newarray .int, 2) := dc_at (f := decode cX1_init) dAX1_init_q0 23 rfl
theorem dX1_init_44 : decode cX1_init 44 = .ok (.putfield 31, 3) := dc_at (f := decode cX1_init) dAX1_init_q0 24 rfl
theorem dX1_init_47 : decode cX1_init 47 = .ok (.aload_n 0, 1) := dc_at (f := decode cX1_init) dAX1_init_q0 25 rfl
theorem dX1_init_48 : decode cX1_init 48 = .ok (.aload_n 0, 1) := dc_at (f := decode cX1_init) dAX1_init_q0 26 rfl
theorem dX1_init_49 : decode cX1_init 49 = .ok (.getfield 28, 3) := dc_at (f := decode cX1_init) dAX1_init_q0 27 rfl
theorem dX1_init_52 : decode cX1_init 52 = .ok (.newarray .int, 2) := dc_at (f := decode cX1_init) dAX1_init_q0 28 rfl
theorem dX1_init_54 : decode cX1_init 54 = .ok (.putfield 35, 3) := dc_at (f := decode cX1_init) dAX1_init_q0 29 rfl
theorem dX1_init_57 : decode cX1_init 57 = .ok (.aload_n 0, 1) := dc_at (f := decode cX1_init) dAX1_init_q0 30 rfl
theorem dX1_init_58 : decode cX1_init 58 = .ok (.aload_n 0, 1) := dc_at (f := decode cX1_init) dAX1_init_q0 31 rfl
theorem dX1_init_59 : decode cX1_init 59 = .ok (.getfield 28, 3) := dc_at (f := decode cX1_init) dAX1_init_q0 32 rfl
theorem dX1_init_62 : decode cX1_init 62 = .ok (.newarray .int, 2) := dc_at (f := decode cX1_init) dAX1_init_q0 33 rfl
theorem dX1_init_64 : decode cX1_init 64 = .ok (.putfield 38, 3) := dc_at (f := decode cX1_init) dAX1_init_q0 34 rfl
theorem dX1_init_67 : decode cX1_init 67 = .ok (.aload_n 0, 1) := dc_at (f := decode cX1_init) dAX1_init_q0 35 rfl
theorem dX1_init_68 : decode cX1_init 68 = .ok (.iload_n 2, 1) := dc_at (f := decode cX1_init) dAX1_init_q0 36 rfl
theorem dX1_init_69 : decode cX1_init 69 = .ok (.putfield 41, 3) := dc_at (f := decode cX1_init) dAX1_init_q0 37 rfl
theorem dX1_init_72 : decode cX1_init 72 = .ok (.iconst 0, 1) := dc_at (f := decode cX1_init) dAX1_init_q0 38 rfl
theorem dX1_init_73 : decode cX1_init 73 = .ok (.istore 6, 2) := dc_at (f := decode cX1_init) dAX1_init_q0 39 rfl
theorem dX1_init_75 : decode cX1_init 75 = .ok (.iload 6, 2) := dc_at (f := decode cX1_init) dAX1_init_q0 40 rfl
theorem dX1_init_77 : decode cX1_init 77 = .ok (.aload_n 0, 1) := dc_at (f := decode cX1_init) dAX1_init_q0 41 rfl
theorem dX1_init_78 : decode cX1_init 78 = .ok (.getfield 28, 3) := dc_at (f := decode cX1_init) dAX1_init_q0 42 rfl
theorem dX1_init_81 : decode cX1_init 81 = .ok (.if_icmp .ge 17, 3) := dc_at (f := decode cX1_init) dAX1_init_q0 43 rfl
theorem dX1_init_84 : decode cX1_init 84 = .ok (.aload_n 0, 1) := dc_at (f := decode cX1_init) dAX1_init_q0 44 rfl
theorem dX1_init_85 : decode cX1_init 85 = .ok (.getfield 31, 3) := dc_at (f := decode cX1_init) dAX1_init_q0 45 rfl
theorem dX1_init_88 : decode cX1_init 88 = .ok (.iload 6, 2) := dc_at (f := decode cX1_init) dAX1_init_q0 46 rfl
theorem dX1_init_90 : decode cX1_init 90 = .ok (.iload_n 2, 1) := dc_at (f := decode cX1_init) dAX1_init_q0 47 rfl
def dPX1_init_q1 : List (Nat × (Jvm.ClassFile.Instr × Nat)) := [(91, (.iastore, 1)), (92, (.iinc 6 1, 3)), (95, (.goto (-20), 3)), (98, (.return_, 1))]
theorem dAX1_init_q1 : ∀ x ∈ dPX1_init_q1, decode cX1_init x.1 = .ok x.2 := by decide +kernel
theorem dX1_init_91 : decode cX1_init 91 = .ok (.iastore, 1) := dc_at (f := decode cX1_init) dAX1_init_q1 0 rfl
theorem dX1_init_92 : decode cX1_init 92 = .ok (.iinc 6 1, 3) := dc_at (f := decode cX1_init) dAX1_init_q1 1 rfl
theorem dX1_init_95 : decode cX1_init 95 = .ok (.goto (-20), 3) := dc_at (f := decode cX1_init) dAX1_init_q1 2 rfl
theorem dX1_init_98 : decode cX1_init 98 = .ok (.return_, 1) := dc_at (f := decode cX1_init) dAX1_init_q1 3 rfl
def dPX1_duesThatCome_q0 : List (Nat × (Jvm.ClassFile.Instr × Nat)) := [(0, (.iconst 0, 1)), (1, (.istore_n 3, 1)), (2, (.iconst 0, 1)), (3, (.istore 4, 2)), (5, (.iload 4, 2)), (7, (.iload_n 2, 1)), (8, (.if_icmp .ge 30, 3)), (11, (.iload 4, 2)), (13, (.bipush 84, 2)), (15, (.if_icmp .ge 23, 3)), (18, (.iload_n 0, 1)), (19, (.iload 4, 2)), (21, (.iload_n 1, 1)), (22, (.imul, 1)), (23, (.iadd, 1)), (24, (.bipush 119, 2)), (26, (.if_icmp .gt 6, 3)), (29, (.iinc 3 1, 3)), (32, (.iinc 4 1, 3)), (35, (.goto (-30), 3)), (38, (.iload_n 3, 1)), (39, (.ireturn, 1))]
theorem dAX1_duesThatCome_q0 : ∀ x ∈ dPX1_duesThatCome_q0, decode cX1_duesThatCome x.1 = .ok x.2 := by decide +kernel
theorem dX1_duesThatCome_0 : decode cX1_duesThatCome 0 = .ok (.iconst 0, 1) := dc_at (f := decode cX1_duesThatCome) dAX1_duesThatCome_q0 0 rfl
theorem dX1_duesThatCome_1 : decode cX1_duesThatCome 1 = .ok (.istore_n 3, 1) := dc_at (f := decode cX1_duesThatCome) dAX1_duesThatCome_q0 1 rfl
theorem dX1_duesThatCome_2 : decode cX1_duesThatCome 2 = .ok (.iconst 0, 1) := dc_at (f := decode cX1_duesThatCome) dAX1_duesThatCome_q0 2 rfl
theorem dX1_duesThatCome_3 : decode cX1_duesThatCome 3 = .ok (.istore 4, 2) := dc_at (f := decode cX1_duesThatCome) dAX1_duesThatCome_q0 3 rfl
theorem dX1_duesThatCome_5 : decode cX1_duesThatCome 5 = .ok (.iload 4, 2) := dc_at (f := decode cX1_duesThatCome) dAX1_duesThatCome_q0 4 rfl
theorem dX1_duesThatCome_7 : decode cX1_duesThatCome 7 = .ok (.iload_n 2, 1) := dc_at (f := decode cX1_duesThatCome) dAX1_duesThatCome_q0 5 rfl
theorem dX1_duesThatCome_8 : decode cX1_duesThatCome 8 = .ok (.if_icmp .ge 30, 3) := dc_at (f := decode cX1_duesThatCome) dAX1_duesThatCome_q0 6 rfl
theorem dX1_duesThatCome_11 : decode cX1_duesThatCome 11 = .ok (.iload 4, 2) := dc_at (f := decode cX1_duesThatCome) dAX1_duesThatCome_q0 7 rfl
theorem dX1_duesThatCome_13 : decode cX1_duesThatCome 13 = .ok (.bipush 84, 2) := dc_at (f := decode cX1_duesThatCome) dAX1_duesThatCome_q0 8 rfl
theorem dX1_duesThatCome_15 : decode cX1_duesThatCome 15 = .ok (.if_icmp .ge 23, 3) := dc_at (f := decode cX1_duesThatCome) dAX1_duesThatCome_q0 9 rfl
theorem dX1_duesThatCome_18 : decode cX1_duesThatCome 18 = .ok (.iload_n 0, 1) := dc_at (f := decode cX1_duesThatCome) dAX1_duesThatCome_q0 10 rfl
theorem dX1_duesThatCome_19 : decode cX1_duesThatCome 19 = .ok (.iload 4, 2) := dc_at (f := decode cX1_duesThatCome) dAX1_duesThatCome_q0 11 rfl
theorem dX1_duesThatCome_21 : decode cX1_duesThatCome 21 = .ok (.iload_n 1, 1) := dc_at (f := decode cX1_duesThatCome) dAX1_duesThatCome_q0 12 rfl
theorem dX1_duesThatCome_22 : decode cX1_duesThatCome 22 = .ok (.imul, 1) := dc_at (f := decode cX1_duesThatCome) dAX1_duesThatCome_q0 13 rfl
theorem dX1_duesThatCome_23 : decode cX1_duesThatCome 23 = .ok (.iadd, 1) := dc_at (f := decode cX1_duesThatCome) dAX1_duesThatCome_q0 14 rfl
theorem dX1_duesThatCome_24 : decode cX1_duesThatCome 24 = .ok (.bipush 119, 2) := dc_at (f := decode cX1_duesThatCome) dAX1_duesThatCome_q0 15 rfl
theorem dX1_duesThatCome_26 : decode cX1_duesThatCome 26 = .ok (.if_icmp .gt 6, 3) := dc_at (f := decode cX1_duesThatCome) dAX1_duesThatCome_q0 16 rfl
theorem dX1_duesThatCome_29 : decode cX1_duesThatCome 29 = .ok (.iinc 3 1, 3) := dc_at (f := decode cX1_duesThatCome) dAX1_duesThatCome_q0 17 rfl
theorem dX1_duesThatCome_32 : decode cX1_duesThatCome 32 = .ok (.iinc 4 1, 3) := dc_at (f := decode cX1_duesThatCome) dAX1_duesThatCome_q0 18 rfl
theorem dX1_duesThatCome_35 : decode cX1_duesThatCome 35 = .ok (.goto (-30), 3) := dc_at (f := decode cX1_duesThatCome) dAX1_duesThatCome_q0 19 rfl
theorem dX1_duesThatCome_38 : decode cX1_duesThatCome 38 = .ok (.iload_n 3, 1) := dc_at (f := decode cX1_duesThatCome) dAX1_duesThatCome_q0 20 rfl
theorem dX1_duesThatCome_39 : decode cX1_duesThatCome 39 = .ok (.ireturn, 1) := dc_at (f := decode cX1_duesThatCome) dAX1_duesThatCome_q0 21 rfl
def dPX1_monthOf_q0 : List (Nat × (Jvm.ClassFile.Instr × Nat)) := [(0, (.aload_n 0, 1)), (1, (.getfield 18, 3)), (4, (.iload_n 1, 1)), (5, (.aload_n 0, 1)), (6, (.getfield 21, 3)), (9, (.imul, 1)), (10, (.iadd, 1)), (11, (.ireturn, 1))]
theorem dAX1_monthOf_q0 : ∀ x ∈ dPX1_monthOf_q0, decode cX1_monthOf x.1 = .ok x.2 := by decide +kernel
theorem dX1_monthOf_0 : decode cX1_monthOf 0 = .ok (.aload_n 0, 1) := dc_at (f := decode cX1_monthOf) dAX1_monthOf_q0 0 rfl
theorem dX1_monthOf_1 : decode cX1_monthOf 1 = .ok (.getfield 18, 3) := dc_at (f := decode cX1_monthOf) dAX1_monthOf_q0 1 rfl
theorem dX1_monthOf_4 : decode cX1_monthOf 4 = .ok (.iload_n 1, 1) := dc_at (f := decode cX1_monthOf) dAX1_monthOf_q0 2 rfl
theorem dX1_monthOf_5 : decode cX1_monthOf 5 = .ok (.aload_n 0, 1) := dc_at (f := decode cX1_monthOf) dAX1_monthOf_q0 3 rfl
theorem dX1_monthOf_6 : decode cX1_monthOf 6 = .ok (.getfield 21, 3) := dc_at (f := decode cX1_monthOf) dAX1_monthOf_q0 4 rfl
theorem dX1_monthOf_9 : decode cX1_monthOf 9 = .ok (.imul, 1) := dc_at (f := decode cX1_monthOf) dAX1_monthOf_q0 5 rfl
theorem dX1_monthOf_10 : decode cX1_monthOf 10 = .ok (.iadd, 1) := dc_at (f := decode cX1_monthOf) dAX1_monthOf_q0 6 rfl
theorem dX1_monthOf_11 : decode cX1_monthOf 11 = .ok (.ireturn, 1) := dc_at (f := decode cX1_monthOf) dAX1_monthOf_q0 7 rfl
def dPX1_giverNumber_q0 : List (Nat × (Jvm.ClassFile.Instr × Nat)) := [(0, (.aload_n 0, 1)), (1, (.getfield 15, 3)), (4, (.ireturn, 1))]
theorem dAX1_giverNumber_q0 : ∀ x ∈ dPX1_giverNumber_q0, decode cX1_giverNumber x.1 = .ok x.2 := by decide +kernel
theorem dX1_giverNumber_0 : decode cX1_giverNumber 0 = .ok (.aload_n 0, 1) := dc_at (f := decode cX1_giverNumber) dAX1_giverNumber_q0 0 rfl
theorem dX1_giverNumber_1 : decode cX1_giverNumber 1 = .ok (.getfield 15, 3) := dc_at (f := decode cX1_giverNumber) dAX1_giverNumber_q0 1 rfl
theorem dX1_giverNumber_4 : decode cX1_giverNumber 4 = .ok (.ireturn, 1) := dc_at (f := decode cX1_giverNumber) dAX1_giverNumber_q0 2 rfl
def dPX1_penceToCome_q0 : List (Nat × (Jvm.ClassFile.Instr × Nat)) := [(0, (.aload_n 0, 1)), (1, (.getfield 41, 3)), (4, (.ireturn, 1))]
theorem dAX1_penceToCome_q0 : ∀ x ∈ dPX1_penceToCome_q0, decode cX1_penceToCome x.1 = .ok x.2 := by decide +kernel
theorem dX1_penceToCome_0 : decode cX1_penceToCome 0 = .ok (.aload_n 0, 1) := dc_at (f := decode cX1_penceToCome) dAX1_penceToCome_q0 0 rfl
theorem dX1_penceToCome_1 : decode cX1_penceToCome 1 = .ok (.getfield 41, 3) := dc_at (f := decode cX1_penceToCome) dAX1_penceToCome_q0 1 rfl
theorem dX1_penceToCome_4 : decode cX1_penceToCome 4 = .ok (.ireturn, 1) := dc_at (f := decode cX1_penceToCome) dAX1_penceToCome_q0 2 rfl
def dPX1_filledInAll_q0 : List (Nat × (Jvm.ClassFile.Instr × Nat)) := [(0, (.aload_n 0, 1)), (1, (.getfield 44, 3)), (4, (.ireturn, 1))]
theorem dAX1_filledInAll_q0 : ∀ x ∈ dPX1_filledInAll_q0, decode cX1_filledInAll x.1 = .ok x.2 := by decide +kernel
theorem dX1_filledInAll_0 : decode cX1_filledInAll 0 = .ok (.aload_n 0, 1) := dc_at (f := decode cX1_filledInAll) dAX1_filledInAll_q0 0 rfl
theorem dX1_filledInAll_1 : decode cX1_filledInAll 1 = .ok (.getfield 44, 3) := dc_at (f := decode cX1_filledInAll) dAX1_filledInAll_q0 1 rfl
theorem dX1_filledInAll_4 : decode cX1_filledInAll 4 = .ok (.ireturn, 1) := dc_at (f := decode cX1_filledInAll) dAX1_filledInAll_q0 2 rfl
def dPX1_isLapsed_q0 : List (Nat × (Jvm.ClassFile.Instr × Nat)) := [(0, (.aload_n 0, 1)), (1, (.getfield 47, 3)), (4, (.ireturn, 1))]
theorem dAX1_isLapsed_q0 : ∀ x ∈ dPX1_isLapsed_q0, decode cX1_isLapsed x.1 = .ok x.2 := by decide +kernel
theorem dX1_isLapsed_0 : decode cX1_isLapsed 0 = .ok (.aload_n 0, 1) := dc_at (f := decode cX1_isLapsed) dAX1_isLapsed_q0 0 rfl
theorem dX1_isLapsed_1 : decode cX1_isLapsed 1 = .ok (.getfield 47, 3) := dc_at (f := decode cX1_isLapsed) dAX1_isLapsed_q0 1 rfl
theorem dX1_isLapsed_4 : decode cX1_isLapsed 4 = .ok (.ireturn, 1) := dc_at (f := decode cX1_isLapsed) dAX1_isLapsed_q0 2 rfl
def dPX1_firstLapse_q0 : List (Nat × (Jvm.ClassFile.Instr × Nat)) := [(0, (.aload_n 0, 1)), (1, (.getfield 9, 3)), (4, (.ireturn, 1))]
theorem dAX1_firstLapse_q0 : ∀ x ∈ dPX1_firstLapse_q0, decode cX1_firstLapse x.1 = .ok x.2 := by decide +kernel
theorem dX1_firstLapse_0 : decode cX1_firstLapse 0 = .ok (.aload_n 0, 1) := dc_at (f := decode cX1_firstLapse) dAX1_firstLapse_q0 0 rfl
theorem dX1_firstLapse_1 : decode cX1_firstLapse 1 = .ok (.getfield 9, 3) := dc_at (f := decode cX1_firstLapse) dAX1_firstLapse_q0 1 rfl
theorem dX1_firstLapse_4 : decode cX1_firstLapse 4 = .ok (.ireturn, 1) := dc_at (f := decode cX1_firstLapse) dAX1_firstLapse_q0 2 rfl
def dPX1_mayBeTakenUp_q0 : List (Nat × (Jvm.ClassFile.Instr × Nat)) := [(0, (.aload_n 0, 1)), (1, (.getfield 47, 3)), (4, (.ifCond .eq 14, 3)), (7, (.aload_n 0, 1)), (8, (.getfield 51, 3)), (11, (.ifCond .ne 7, 3)), (14, (.iconst 1, 1)), (15, (.goto 4, 3)), (18, (.iconst 0, 1)), (19, (.ireturn, 1))]
theorem dAX1_mayBeTakenUp_q0 : ∀ x ∈ dPX1_mayBeTakenUp_q0, decode cX1_mayBeTakenUp x.1 = .ok x.2 := by decide +kernel
theorem dX1_mayBeTakenUp_0 : decode cX1_mayBeTakenUp 0 = .ok (.aload_n 0, 1) := dc_at (f := decode cX1_mayBeTakenUp) dAX1_mayBeTakenUp_q0 0 rfl
theorem dX1_mayBeTakenUp_1 : decode cX1_mayBeTakenUp 1 = .ok (.getfield 47, 3) := dc_at (f := decode cX1_mayBeTakenUp) dAX1_mayBeTakenUp_q0 1 rfl
theorem dX1_mayBeTakenUp_4 : decode cX1_mayBeTakenUp 4 = .ok (.ifCond .eq 14, 3) := dc_at (f := decode cX1_mayBeTakenUp) dAX1_mayBeTakenUp_q0 2 rfl
theorem dX1_mayBeTakenUp_7 : decode cX1_mayBeTakenUp 7 = .ok (.aload_n 0, 1) := dc_at (f := decode cX1_mayBeTakenUp) dAX1_mayBeTakenUp_q0 3 rfl
theorem dX1_mayBeTakenUp_8 : decode cX1_mayBeTakenUp 8 = .ok (.getfield 51, 3) := dc_at (f := decode cX1_mayBeTakenUp) dAX1_mayBeTakenUp_q0 4 rfl
theorem dX1_mayBeTakenUp_11 : decode cX1_mayBeTakenUp 11 = .ok (.ifCond .ne 7, 3) := dc_at (f := decode cX1_mayBeTakenUp) dAX1_mayBeTakenUp_q0 5 rfl
theorem dX1_mayBeTakenUp_14 : decode cX1_mayBeTakenUp 14 = .ok (.iconst 1, 1) := dc_at (f := decode cX1_mayBeTakenUp) dAX1_mayBeTakenUp_q0 6 rfl
theorem dX1_mayBeTakenUp_15 : decode cX1_mayBeTakenUp 15 = .ok (.goto 4, 3) := dc_at (f := decode cX1_mayBeTakenUp) dAX1_mayBeTakenUp_q0 7 rfl
theorem dX1_mayBeTakenUp_18 : decode cX1_mayBeTakenUp 18 = .ok (.iconst 0, 1) := dc_at (f := decode cX1_mayBeTakenUp) dAX1_mayBeTakenUp_q0 8 rfl
theorem dX1_mayBeTakenUp_19 : decode cX1_mayBeTakenUp 19 = .ok (.ireturn, 1) := dc_at (f := decode cX1_mayBeTakenUp) dAX1_mayBeTakenUp_q0 9 rfl
def dPX1_overdue_q0 : List (Nat × (Jvm.ClassFile.Instr × Nat)) := [(0, (.iconst 0, 1)), (1, (.istore_n 2, 1)), (2, (.iconst 0, 1)), (3, (.istore_n 3, 1)), (4, (.iload_n 3, 1)), (5, (.aload_n 0, 1)), (6, (.getfield 28, 3)), (9, (.if_icmp .ge 45, 3)), (12, (.aload_n 0, 1)), (13, (.iload_n 3, 1)), (14, (.invokevirtual 54, 3)), (17, (.iload_n 1, 1)), (18, (.if_icmp .gt 36, 3)), (21, (.aload_n 0, 1)), (22, (.getfield 38, 3)), (25, (.iload_n 3, 1)), (26, (.iaload, 1)), (27, (.ifCond .ne 21, 3)), (30, (.aload_n 0, 1)), (31, (.getfield 35, 3)), (34, (.iload_n 3, 1)), (35, (.iaload, 1)), (36, (.aload_n 0, 1)), (37, (.getfield 31, 3)), (40, (.iload_n 3, 1)), (41, (.iaload, 1)), (42, (.if_icmp .ge 6, 3)), (45, (.iinc 2 1, 3)), (48, (.iinc 3 1, 3)), (51, (.goto (-47), 3)), (54, (.iload_n 2, 1)), (55, (.ireturn, 1))]
theorem dAX1_overdue_q0 : ∀ x ∈ dPX1_overdue_q0, decode cX1_overdue x.1 = .ok x.2 := by decide +kernel
theorem dX1_overdue_0 : decode cX1_overdue 0 = .ok (.iconst 0, 1) := dc_at (f := decode cX1_overdue) dAX1_overdue_q0 0 rfl
theorem dX1_overdue_1 : decode cX1_overdue 1 = .ok (.istore_n 2, 1) := dc_at (f := decode cX1_overdue) dAX1_overdue_q0 1 rfl
theorem dX1_overdue_2 : decode cX1_overdue 2 = .ok (.iconst 0, 1) := dc_at (f := decode cX1_overdue) dAX1_overdue_q0 2 rfl
theorem dX1_overdue_3 : decode cX1_overdue 3 = .ok (.istore_n 3, 1) := dc_at (f := decode cX1_overdue) dAX1_overdue_q0 3 rfl
theorem dX1_overdue_4 : decode cX1_overdue 4 = .ok (.iload_n 3, 1) := dc_at (f := decode cX1_overdue) dAX1_overdue_q0 4 rfl
theorem dX1_overdue_5 : decode cX1_overdue 5 = .ok (.aload_n 0, 1) := dc_at (f := decode cX1_overdue) dAX1_overdue_q0 5 rfl
theorem dX1_overdue_6 : decode cX1_overdue 6 = .ok (.getfield 28, 3) := dc_at (f := decode cX1_overdue) dAX1_overdue_q0 6 rfl
theorem dX1_overdue_9 : decode cX1_overdue 9 = .ok (.if_icmp .ge 45, 3) := dc_at (f := decode cX1_overdue) dAX1_overdue_q0 7 rfl
theorem dX1_overdue_12 : decode cX1_overdue 12 = .ok (.aload_n 0, 1) := dc_at (f := decode cX1_overdue) dAX1_overdue_q0 8 rfl
theorem dX1_overdue_13 : decode cX1_overdue 13 = .ok (.iload_n 3, 1) := dc_at (f := decode cX1_overdue) dAX1_overdue_q0 9 rfl
theorem dX1_overdue_14 : decode cX1_overdue 14 = .ok (.invokevirtual 54, 3) := dc_at (f := decode cX1_overdue) dAX1_overdue_q0 10 rfl
theorem dX1_overdue_17 : decode cX1_overdue 17 = .ok (.iload_n 1, 1) := dc_at (f := decode cX1_overdue) dAX1_overdue_q0 11 rfl
theorem dX1_overdue_18 : decode cX1_overdue 18 = .ok (.if_icmp .gt 36, 3) := dc_at (f := decode cX1_overdue) dAX1_overdue_q0 12 rfl
theorem dX1_overdue_21 : decode cX1_overdue 21 = .ok (.aload_n 0, 1) := dc_at (f := decode cX1_overdue) dAX1_overdue_q0 13 rfl
theorem dX1_overdue_22 : decode cX1_overdue 22 = .ok (.getfield 38, 3) := dc_at (f := decode cX1_overdue) dAX1_overdue_q0 14 rfl
theorem dX1_overdue_25 : decode cX1_overdue 25 = .ok (.iload_n 3, 1) := dc_at (f := decode cX1_overdue) dAX1_overdue_q0 15 rfl
theorem dX1_overdue_26 : decode cX1_overdue 26 = .ok (.iaload, 1) := dc_at (f := decode cX1_overdue) dAX1_overdue_q0 16 rfl
theorem dX1_overdue_27 : decode cX1_overdue 27 = .ok (.ifCond .ne 21, 3) := dc_at (f := decode cX1_overdue) dAX1_overdue_q0 17 rfl
theorem dX1_overdue_30 : decode cX1_overdue 30 = .ok (.aload_n 0, 1) := dc_at (f := decode cX1_overdue) dAX1_overdue_q0 18 rfl
theorem dX1_overdue_31 : decode cX1_overdue 31 = .ok (.getfield 35, 3) := dc_at (f := decode cX1_overdue) dAX1_overdue_q0 19 rfl
theorem dX1_overdue_34 : decode cX1_overdue 34 = .ok (.iload_n 3, 1) := dc_at (f := decode cX1_overdue) dAX1_overdue_q0 20 rfl
theorem dX1_overdue_35 : decode cX1_overdue 35 = .ok (.iaload, 1) := dc_at (f := decode cX1_overdue) dAX1_overdue_q0 21 rfl
theorem dX1_overdue_36 : decode cX1_overdue 36 = .ok (.aload_n 0, 1) := dc_at (f := decode cX1_overdue) dAX1_overdue_q0 22 rfl
theorem dX1_overdue_37 : decode cX1_overdue 37 = .ok (.getfield 31, 3) := dc_at (f := decode cX1_overdue) dAX1_overdue_q0 23 rfl
theorem dX1_overdue_40 : decode cX1_overdue 40 = .ok (.iload_n 3, 1) := dc_at (f := decode cX1_overdue) dAX1_overdue_q0 24 rfl
theorem dX1_overdue_41 : decode cX1_overdue 41 = .ok (.iaload, 1) := dc_at (f := decode cX1_overdue) dAX1_overdue_q0 25 rfl
theorem dX1_overdue_42 : decode cX1_overdue 42 = .ok (.if_icmp .ge 6, 3) := dc_at (f := decode cX1_overdue) dAX1_overdue_q0 26 rfl
theorem dX1_overdue_45 : decode cX1_overdue 45 = .ok (.iinc 2 1, 3) := dc_at (f := decode cX1_overdue) dAX1_overdue_q0 27 rfl
theorem dX1_overdue_48 : decode cX1_overdue 48 = .ok (.iinc 3 1, 3) := dc_at (f := decode cX1_overdue) dAX1_overdue_q0 28 rfl
theorem dX1_overdue_51 : decode cX1_overdue 51 = .ok (.goto (-47), 3) := dc_at (f := decode cX1_overdue) dAX1_overdue_q0 29 rfl
theorem dX1_overdue_54 : decode cX1_overdue 54 = .ok (.iload_n 2, 1) := dc_at (f := decode cX1_overdue) dAX1_overdue_q0 30 rfl
theorem dX1_overdue_55 : decode cX1_overdue 55 = .ok (.ireturn, 1) := dc_at (f := decode cX1_overdue) dAX1_overdue_q0 31 rfl
def dPX1_unfilled_q0 : List (Nat × (Jvm.ClassFile.Instr × Nat)) := [(0, (.aload_n 0, 1)), (1, (.iconst 0, 1)), (2, (.bipush 119, 2)), (4, (.invokevirtual 58, 3)), (7, (.ireturn, 1))]
theorem dAX1_unfilled_q0 : ∀ x ∈ dPX1_unfilled_q0, decode cX1_unfilled x.1 = .ok x.2 := by decide +kernel
theorem dX1_unfilled_0 : decode cX1_unfilled 0 = .ok (.aload_n 0, 1) := dc_at (f := decode cX1_unfilled) dAX1_unfilled_q0 0 rfl
theorem dX1_unfilled_1 : decode cX1_unfilled 1 = .ok (.iconst 0, 1) := dc_at (f := decode cX1_unfilled) dAX1_unfilled_q0 1 rfl
theorem dX1_unfilled_2 : decode cX1_unfilled 2 = .ok (.bipush 119, 2) := dc_at (f := decode cX1_unfilled) dAX1_unfilled_q0 2 rfl
theorem dX1_unfilled_4 : decode cX1_unfilled 4 = .ok (.invokevirtual 58, 3) := dc_at (f := decode cX1_unfilled) dAX1_unfilled_q0 3 rfl
theorem dX1_unfilled_7 : decode cX1_unfilled 7 = .ok (.ireturn, 1) := dc_at (f := decode cX1_unfilled) dAX1_unfilled_q0 4 rfl
def dPX1_unfilledWithin_q0 : List (Nat × (Jvm.ClassFile.Instr × Nat)) := [(0, (.iconst 0, 1)), (1, (.istore_n 3, 1)), (2, (.iconst 0, 1)), (3, (.istore 4, 2)), (5, (.iload 4, 2)), (7, (.aload_n 0, 1)), (8, (.getfield 28, 3)), (11, (.if_icmp .ge 57, 3)), (14, (.aload_n 0, 1)), (15, (.iload 4, 2)), (17, (.invokevirtual 54, 3)), (20, (.iload_n 2, 1)), (21, (.if_icmp .gt 47, 3)), (24, (.aload_n 0, 1)), (25, (.iload 4, 2)), (27, (.invokevirtual 54, 3)), (30, (.iload_n 1, 1)), (31, (.if_icmp .lt 31, 3)), (34, (.aload_n 0, 1)), (35, (.getfield 38, 3)), (38, (.iload 4, 2)), (40, (.iaload, 1)), (41, (.ifCond .ne 21, 3)), (44, (.iload_n 3, 1)), (45, (.aload_n 0, 1)), (46, (.getfield 31, 3)), (49, (.iload 4, 2)), (51, (.iaload, 1)), (52, (.aload_n 0, 1)), (53, (.getfield 35, 3)), (56, (.iload 4, 2)), (58, (.iaload, 1)), (59, (.isub, 1)), (60, (.iadd, 1)), (61, (.istore_n 3, 1)), (62, (.iinc 4 1, 3)), (65, (.goto (-60), 3)), (68, (.iload_n 3, 1)), (69, (.ireturn, 1))]
theorem dAX1_unfilledWithin_q0 : ∀ x ∈ dPX1_unfilledWithin_q0, decode cX1_unfilledWithin x.1 = .ok x.2 := by decide +kernel
theorem dX1_unfilledWithin_0 : decode cX1_unfilledWithin 0 = .ok (.iconst 0, 1) := dc_at (f := decode cX1_unfilledWithin) dAX1_unfilledWithin_q0 0 rfl
theorem dX1_unfilledWithin_1 : decode cX1_unfilledWithin 1 = .ok (.istore_n 3, 1) := dc_at (f := decode cX1_unfilledWithin) dAX1_unfilledWithin_q0 1 rfl
theorem dX1_unfilledWithin_2 : decode cX1_unfilledWithin 2 = .ok (.iconst 0, 1) := dc_at (f := decode cX1_unfilledWithin) dAX1_unfilledWithin_q0 2 rfl
theorem dX1_unfilledWithin_3 : decode cX1_unfilledWithin 3 = .ok (.istore 4, 2) := dc_at (f := decode cX1_unfilledWithin) dAX1_unfilledWithin_q0 3 rfl
theorem dX1_unfilledWithin_5 : decode cX1_unfilledWithin 5 = .ok (.iload 4, 2) := dc_at (f := decode cX1_unfilledWithin) dAX1_unfilledWithin_q0 4 rfl
theorem dX1_unfilledWithin_7 : decode cX1_unfilledWithin 7 = .ok (.aload_n 0, 1) := dc_at (f := decode cX1_unfilledWithin) dAX1_unfilledWithin_q0 5 rfl
theorem dX1_unfilledWithin_8 : decode cX1_unfilledWithin 8 = .ok (.getfield 28, 3) := dc_at (f := decode cX1_unfilledWithin) dAX1_unfilledWithin_q0 6 rfl
theorem dX1_unfilledWithin_11 : decode cX1_unfilledWithin 11 = .ok (.if_icmp .ge 57, 3) := dc_at (f := decode cX1_unfilledWithin) dAX1_unfilledWithin_q0 7 rfl
theorem dX1_unfilledWithin_14 : decode cX1_unfilledWithin 14 = .ok (.aload_n 0, 1) := dc_at (f := decode cX1_unfilledWithin) dAX1_unfilledWithin_q0 8 rfl
theorem dX1_unfilledWithin_15 : decode cX1_unfilledWithin 15 = .ok (.iload 4, 2) := dc_at (f := decode cX1_unfilledWithin) dAX1_unfilledWithin_q0 9 rfl
theorem dX1_unfilledWithin_17 : decode cX1_unfilledWithin 17 = .ok (.invokevirtual 54, 3) := dc_at (f := decode cX1_unfilledWithin) dAX1_unfilledWithin_q0 10 rfl
theorem dX1_unfilledWithin_20 : decode cX1_unfilledWithin 20 = .ok (.iload_n 2, 1) := dc_at (f := decode cX1_unfilledWithin) dAX1_unfilledWithin_q0 11 rfl
theorem dX1_unfilledWithin_21 : decode cX1_unfilledWithin 21 = .ok (.if_icmp .gt 47, 3) := dc_at (f := decode cX1_unfilledWithin) dAX1_unfilledWithin_q0 12 rfl
theorem dX1_unfilledWithin_24 : decode cX1_unfilledWithin 24 = .ok (.aload_n 0, 1) := dc_at (f := decode cX1_unfilledWithin) dAX1_unfilledWithin_q0 13 rfl
theorem dX1_unfilledWithin_25 : decode cX1_unfilledWithin 25 = .ok (.iload 4, 2) := dc_at (f := decode cX1_unfilledWithin) dAX1_unfilledWithin_q0 14 rfl
theorem dX1_unfilledWithin_27 : decode cX1_unfilledWithin 27 = .ok (.invokevirtual 54, 3) := dc_at (f := decode cX1_unfilledWithin) dAX1_unfilledWithin_q0 15 rfl
theorem dX1_unfilledWithin_30 : decode cX1_unfilledWithin 30 = .ok (.iload_n 1, 1) := dc_at (f := decode cX1_unfilledWithin) dAX1_unfilledWithin_q0 16 rfl
theorem dX1_unfilledWithin_31 : decode cX1_unfilledWithin 31 = .ok (.if_icmp .lt 31, 3) := dc_at (f := decode cX1_unfilledWithin) dAX1_unfilledWithin_q0 17 rfl
theorem dX1_unfilledWithin_34 : decode cX1_unfilledWithin 34 = .ok (.aload_n 0, 1) := dc_at (f := decode cX1_unfilledWithin) dAX1_unfilledWithin_q0 18 rfl
theorem dX1_unfilledWithin_35 : decode cX1_unfilledWithin 35 = .ok (.getfield 38, 3) := dc_at (f := decode cX1_unfilledWithin) dAX1_unfilledWithin_q0 19 rfl
theorem dX1_unfilledWithin_38 : decode cX1_unfilledWithin 38 = .ok (.iload 4, 2) := dc_at (f := decode cX1_unfilledWithin) dAX1_unfilledWithin_q0 20 rfl
theorem dX1_unfilledWithin_40 : decode cX1_unfilledWithin 40 = .ok (.iaload, 1) := dc_at (f := decode cX1_unfilledWithin) dAX1_unfilledWithin_q0 21 rfl
theorem dX1_unfilledWithin_41 : decode cX1_unfilledWithin 41 = .ok (.ifCond .ne 21, 3) := dc_at (f := decode cX1_unfilledWithin) dAX1_unfilledWithin_q0 22 rfl
theorem dX1_unfilledWithin_44 : decode cX1_unfilledWithin 44 = .ok (.iload_n 3, 1) := dc_at (f := decode cX1_unfilledWithin) dAX1_unfilledWithin_q0 23 rfl
theorem dX1_unfilledWithin_45 : decode cX1_unfilledWithin 45 = .ok (.aload_n 0, 1) := dc_at (f := decode cX1_unfilledWithin) dAX1_unfilledWithin_q0 24 rfl
theorem dX1_unfilledWithin_46 : decode cX1_unfilledWithin 46 = .ok (.getfield 31, 3) := dc_at (f := decode cX1_unfilledWithin) dAX1_unfilledWithin_q0 25 rfl
theorem dX1_unfilledWithin_49 : decode cX1_unfilledWithin 49 = .ok (.iload 4, 2) := dc_at (f := decode cX1_unfilledWithin) dAX1_unfilledWithin_q0 26 rfl
theorem dX1_unfilledWithin_51 : decode cX1_unfilledWithin 51 = .ok (.iaload, 1) := dc_at (f := decode cX1_unfilledWithin) dAX1_unfilledWithin_q0 27 rfl
theorem dX1_unfilledWithin_52 : decode cX1_unfilledWithin 52 = .ok (.aload_n 0, 1) := dc_at (f := decode cX1_unfilledWithin) dAX1_unfilledWithin_q0 28 rfl
theorem dX1_unfilledWithin_53 : decode cX1_unfilledWithin 53 = .ok (.getfield 35, 3) := dc_at (f := decode cX1_unfilledWithin) dAX1_unfilledWithin_q0 29 rfl
theorem dX1_unfilledWithin_56 : decode cX1_unfilledWithin 56 = .ok (.iload 4, 2) := dc_at (f := decode cX1_unfilledWithin) dAX1_unfilledWithin_q0 30 rfl
theorem dX1_unfilledWithin_58 : decode cX1_unfilledWithin 58 = .ok (.iaload, 1) := dc_at (f := decode cX1_unfilledWithin) dAX1_unfilledWithin_q0 31 rfl
theorem dX1_unfilledWithin_59 : decode cX1_unfilledWithin 59 = .ok (.isub, 1) := dc_at (f := decode cX1_unfilledWithin) dAX1_unfilledWithin_q0 32 rfl
theorem dX1_unfilledWithin_60 : decode cX1_unfilledWithin 60 = .ok (.iadd, 1) := dc_at (f := decode cX1_unfilledWithin) dAX1_unfilledWithin_q0 33 rfl
theorem dX1_unfilledWithin_61 : decode cX1_unfilledWithin 61 = .ok (.istore_n 3, 1) := dc_at (f := decode cX1_unfilledWithin) dAX1_unfilledWithin_q0 34 rfl
theorem dX1_unfilledWithin_62 : decode cX1_unfilledWithin 62 = .ok (.iinc 4 1, 3) := dc_at (f := decode cX1_unfilledWithin) dAX1_unfilledWithin_q0 35 rfl
theorem dX1_unfilledWithin_65 : decode cX1_unfilledWithin 65 = .ok (.goto (-60), 3) := dc_at (f := decode cX1_unfilledWithin) dAX1_unfilledWithin_q0 36 rfl
theorem dX1_unfilledWithin_68 : decode cX1_unfilledWithin 68 = .ok (.iload_n 3, 1) := dc_at (f := decode cX1_unfilledWithin) dAX1_unfilledWithin_q0 37 rfl
theorem dX1_unfilledWithin_69 : decode cX1_unfilledWithin 69 = .ok (.ireturn, 1) := dc_at (f := decode cX1_unfilledWithin) dAX1_unfilledWithin_q0 38 rfl
def dPX1_nextDue_q0 : List (Nat × (Jvm.ClassFile.Instr × Nat)) := [(0, (.aload_n 0, 1)), (1, (.getfield 47, 3)), (4, (.ifCond .eq 5, 3)), (7, (.iconst (-1), 1)), (8, (.ireturn, 1)), (9, (.iconst 0, 1)), (10, (.istore_n 2, 1)), (11, (.iload_n 2, 1)), (12, (.aload_n 0, 1)), (13, (.getfield 28, 3)), (16, (.if_icmp .ge 33, 3)), (19, (.aload_n 0, 1)), (20, (.iload_n 2, 1)), (21, (.invokevirtual 54, 3)), (24, (.iload_n 1, 1)), (25, (.if_icmp .le 18, 3)), (28, (.aload_n 0, 1)), (29, (.getfield 38, 3)), (32, (.iload_n 2, 1)), (33, (.iaload, 1)), (34, (.ifCond .ne 9, 3)), (37, (.aload_n 0, 1)), (38, (.iload_n 2, 1)), (39, (.invokevirtual 54, 3)), (42, (.ireturn, 1)), (43, (.iinc 2 1, 3)), (46, (.goto (-35), 3)), (49, (.iconst (-1), 1)), (50, (.ireturn, 1))]
theorem dAX1_nextDue_q0 : ∀ x ∈ dPX1_nextDue_q0, decode cX1_nextDue x.1 = .ok x.2 := by decide +kernel
theorem dX1_nextDue_0 : decode cX1_nextDue 0 = .ok (.aload_n 0, 1) := dc_at (f := decode cX1_nextDue) dAX1_nextDue_q0 0 rfl
theorem dX1_nextDue_1 : decode cX1_nextDue 1 = .ok (.getfield 47, 3) := dc_at (f := decode cX1_nextDue) dAX1_nextDue_q0 1 rfl
theorem dX1_nextDue_4 : decode cX1_nextDue 4 = .ok (.ifCond .eq 5, 3) := dc_at (f := decode cX1_nextDue) dAX1_nextDue_q0 2 rfl
theorem dX1_nextDue_7 : decode cX1_nextDue 7 = .ok (.iconst (-1), 1) := dc_at (f := decode cX1_nextDue) dAX1_nextDue_q0 3 rfl
theorem dX1_nextDue_8 : decode cX1_nextDue 8 = .ok (.ireturn, 1) := dc_at (f := decode cX1_nextDue) dAX1_nextDue_q0 4 rfl
theorem dX1_nextDue_9 : decode cX1_nextDue 9 = .ok (.iconst 0, 1) := dc_at (f := decode cX1_nextDue) dAX1_nextDue_q0 5 rfl
theorem dX1_nextDue_10 : decode cX1_nextDue 10 = .ok (.istore_n 2, 1) := dc_at (f := decode cX1_nextDue) dAX1_nextDue_q0 6 rfl
theorem dX1_nextDue_11 : decode cX1_nextDue 11 = .ok (.iload_n 2, 1) := dc_at (f := decode cX1_nextDue) dAX1_nextDue_q0 7 rfl
theorem dX1_nextDue_12 : decode cX1_nextDue 12 = .ok (.aload_n 0, 1) := dc_at (f := decode cX1_nextDue) dAX1_nextDue_q0 8 rfl
theorem dX1_nextDue_13 : decode cX1_nextDue 13 = .ok (.getfield 28, 3) := dc_at (f := decode cX1_nextDue) dAX1_nextDue_q0 9 rfl
theorem dX1_nextDue_16 : decode cX1_nextDue 16 = .ok (.if_icmp .ge 33, 3) := dc_at (f := decode cX1_nextDue) dAX1_nextDue_q0 10 rfl
theorem dX1_nextDue_19 : decode cX1_nextDue 19 = .ok (.aload_n 0, 1) := dc_at (f := decode cX1_nextDue) dAX1_nextDue_q0 11 rfl
theorem dX1_nextDue_20 : decode cX1_nextDue 20 = .ok (.iload_n 2, 1) := dc_at (f := decode cX1_nextDue) dAX1_nextDue_q0 12 rfl
theorem dX1_nextDue_21 : decode cX1_nextDue 21 = .ok (.invokevirtual 54, 3) := dc_at (f := decode cX1_nextDue) dAX1_nextDue_q0 13 rfl
theorem dX1_nextDue_24 : decode cX1_nextDue 24 = .ok (.iload_n 1, 1) := dc_at (f := decode cX1_nextDue) dAX1_nextDue_q0 14 rfl
theorem dX1_nextDue_25 : decode cX1_nextDue 25 = .ok (.if_icmp .le 18, 3) := dc_at (f := decode cX1_nextDue) dAX1_nextDue_q0 15 rfl
theorem dX1_nextDue_28 : decode cX1_nextDue 28 = .ok (.aload_n 0, 1) := dc_at (f := decode cX1_nextDue) dAX1_nextDue_q0 16 rfl
theorem dX1_nextDue_29 : decode cX1_nextDue 29 = .ok (.getfield 38, 3) := dc_at (f := decode cX1_nextDue) dAX1_nextDue_q0 17 rfl
theorem dX1_nextDue_32 : decode cX1_nextDue 32 = .ok (.iload_n 2, 1) := dc_at (f := decode cX1_nextDue) dAX1_nextDue_q0 18 rfl
theorem dX1_nextDue_33 : decode cX1_nextDue 33 = .ok (.iaload, 1) := dc_at (f := decode cX1_nextDue) dAX1_nextDue_q0 19 rfl
theorem dX1_nextDue_34 : decode cX1_nextDue 34 = .ok (.ifCond .ne 9, 3) := dc_at (f := decode cX1_nextDue) dAX1_nextDue_q0 20 rfl
theorem dX1_nextDue_37 : decode cX1_nextDue 37 = .ok (.aload_n 0, 1) := dc_at (f := decode cX1_nextDue) dAX1_nextDue_q0 21 rfl
theorem dX1_nextDue_38 : decode cX1_nextDue 38 = .ok (.iload_n 2, 1) := dc_at (f := decode cX1_nextDue) dAX1_nextDue_q0 22 rfl
theorem dX1_nextDue_39 : decode cX1_nextDue 39 = .ok (.invokevirtual 54, 3) := dc_at (f := decode cX1_nextDue) dAX1_nextDue_q0 23 rfl
theorem dX1_nextDue_42 : decode cX1_nextDue 42 = .ok (.ireturn, 1) := dc_at (f := decode cX1_nextDue) dAX1_nextDue_q0 24 rfl
theorem dX1_nextDue_43 : decode cX1_nextDue 43 = .ok (.iinc 2 1, 3) := dc_at (f := decode cX1_nextDue) dAX1_nextDue_q0 25 rfl
theorem dX1_nextDue_46 : decode cX1_nextDue 46 = .ok (.goto (-35), 3) := dc_at (f := decode cX1_nextDue) dAX1_nextDue_q0 26 rfl
theorem dX1_nextDue_49 : decode cX1_nextDue 49 = .ok (.iconst (-1), 1) := dc_at (f := decode cX1_nextDue) dAX1_nextDue_q0 27 rfl
theorem dX1_nextDue_50 : decode cX1_nextDue 50 = .ok (.ireturn, 1) := dc_at (f := decode cX1_nextDue) dAX1_nextDue_q0 28 rfl
def dPX1_duesToCome_q0 : List (Nat × (Jvm.ClassFile.Instr × Nat)) := [(0, (.iconst 0, 1)), (1, (.istore_n 2, 1)), (2, (.iconst 0, 1)), (3, (.istore_n 3, 1)), (4, (.iload_n 3, 1)), (5, (.aload_n 0, 1)), (6, (.getfield 28, 3)), (9, (.if_icmp .ge 30, 3)), (12, (.aload_n 0, 1)), (13, (.iload_n 3, 1)), (14, (.invokevirtual 54, 3)), (17, (.iload_n 1, 1)), (18, (.if_icmp .le 15, 3)), (21, (.aload_n 0, 1)), (22, (.getfield 38, 3)), (25, (.iload_n 3, 1)), (26, (.iaload, 1)), (27, (.ifCond .ne 6, 3)), (30, (.iinc 2 1, 3)), (33, (.iinc 3 1, 3)), (36, (.goto (-32), 3)), (39, (.iload_n 2, 1)), (40, (.ireturn, 1))]
theorem dAX1_duesToCome_q0 : ∀ x ∈ dPX1_duesToCome_q0, decode cX1_duesToCome x.1 = .ok x.2 := by decide +kernel
theorem dX1_duesToCome_0 : decode cX1_duesToCome 0 = .ok (.iconst 0, 1) := dc_at (f := decode cX1_duesToCome) dAX1_duesToCome_q0 0 rfl
theorem dX1_duesToCome_1 : decode cX1_duesToCome 1 = .ok (.istore_n 2, 1) := dc_at (f := decode cX1_duesToCome) dAX1_duesToCome_q0 1 rfl
theorem dX1_duesToCome_2 : decode cX1_duesToCome 2 = .ok (.iconst 0, 1) := dc_at (f := decode cX1_duesToCome) dAX1_duesToCome_q0 2 rfl
theorem dX1_duesToCome_3 : decode cX1_duesToCome 3 = .ok (.istore_n 3, 1) := dc_at (f := decode cX1_duesToCome) dAX1_duesToCome_q0 3 rfl
theorem dX1_duesToCome_4 : decode cX1_duesToCome 4 = .ok (.iload_n 3, 1) := dc_at (f := decode cX1_duesToCome) dAX1_duesToCome_q0 4 rfl
theorem dX1_duesToCome_5 : decode cX1_duesToCome 5 = .ok (.aload_n 0, 1) := dc_at (f := decode cX1_duesToCome) dAX1_duesToCome_q0 5 rfl
theorem dX1_duesToCome_6 : decode cX1_duesToCome 6 = .ok (.getfield 28, 3) := dc_at (f := decode cX1_duesToCome) dAX1_duesToCome_q0 6 rfl
theorem dX1_duesToCome_9 : decode cX1_duesToCome 9 = .ok (.if_icmp .ge 30, 3) := dc_at (f := decode cX1_duesToCome) dAX1_duesToCome_q0 7 rfl
theorem dX1_duesToCome_12 : decode cX1_duesToCome 12 = .ok (.aload_n 0, 1) := dc_at (f := decode cX1_duesToCome) dAX1_duesToCome_q0 8 rfl
theorem dX1_duesToCome_13 : decode cX1_duesToCome 13 = .ok (.iload_n 3, 1) := dc_at (f := decode cX1_duesToCome) dAX1_duesToCome_q0 9 rfl
theorem dX1_duesToCome_14 : decode cX1_duesToCome 14 = .ok (.invokevirtual 54, 3) := dc_at (f := decode cX1_duesToCome) dAX1_duesToCome_q0 10 rfl
theorem dX1_duesToCome_17 : decode cX1_duesToCome 17 = .ok (.iload_n 1, 1) := dc_at (f := decode cX1_duesToCome) dAX1_duesToCome_q0 11 rfl
theorem dX1_duesToCome_18 : decode cX1_duesToCome 18 = .ok (.if_icmp .le 15, 3) := dc_at (f := decode cX1_duesToCome) dAX1_duesToCome_q0 12 rfl
theorem dX1_duesToCome_21 : decode cX1_duesToCome 21 = .ok (.aload_n 0, 1) := dc_at (f := decode cX1_duesToCome) dAX1_duesToCome_q0 13 rfl
theorem dX1_duesToCome_22 : decode cX1_duesToCome 22 = .ok (.getfield 38, 3) := dc_at (f := decode cX1_duesToCome) dAX1_duesToCome_q0 14 rfl
theorem dX1_duesToCome_25 : decode cX1_duesToCome 25 = .ok (.iload_n 3, 1) := dc_at (f := decode cX1_duesToCome) dAX1_duesToCome_q0 15 rfl
theorem dX1_duesToCome_26 : decode cX1_duesToCome 26 = .ok (.iaload, 1) := dc_at (f := decode cX1_duesToCome) dAX1_duesToCome_q0 16 rfl
theorem dX1_duesToCome_27 : decode cX1_duesToCome 27 = .ok (.ifCond .ne 6, 3) := dc_at (f := decode cX1_duesToCome) dAX1_duesToCome_q0 17 rfl
theorem dX1_duesToCome_30 : decode cX1_duesToCome 30 = .ok (.iinc 2 1, 3) := dc_at (f := decode cX1_duesToCome) dAX1_duesToCome_q0 18 rfl
theorem dX1_duesToCome_33 : decode cX1_duesToCome 33 = .ok (.iinc 3 1, 3) := dc_at (f := decode cX1_duesToCome) dAX1_duesToCome_q0 19 rfl
theorem dX1_duesToCome_36 : decode cX1_duesToCome 36 = .ok (.goto (-32), 3) := dc_at (f := decode cX1_duesToCome) dAX1_duesToCome_q0 20 rfl
theorem dX1_duesToCome_39 : decode cX1_duesToCome 39 = .ok (.iload_n 2, 1) := dc_at (f := decode cX1_duesToCome) dAX1_duesToCome_q0 21 rfl
theorem dX1_duesToCome_40 : decode cX1_duesToCome 40 = .ok (.ireturn, 1) := dc_at (f := decode cX1_duesToCome) dAX1_duesToCome_q0 22 rfl
def dPX1_dueSoFar_q0 : List (Nat × (Jvm.ClassFile.Instr × Nat)) := [(0, (.iconst 0, 1)), (1, (.istore_n 2, 1)), (2, (.iconst 0, 1)), (3, (.istore_n 3, 1)), (4, (.iload_n 3, 1)), (5, (.aload_n 0, 1)), (6, (.getfield 28, 3)), (9, (.if_icmp .ge 37, 3)), (12, (.aload_n 0, 1)), (13, (.iload_n 3, 1)), (14, (.invokevirtual 54, 3)), (17, (.iload_n 1, 1)), (18, (.if_icmp .gt 28, 3)), (21, (.aload_n 0, 1)), (22, (.getfield 38, 3)), (25, (.iload_n 3, 1)), (26, (.iaload, 1)), (27, (.iconst 2, 1)), (28, (.if_icmp .eq 12, 3)), (31, (.iload_n 2, 1)), (32, (.aload_n 0, 1)), (33, (.getfield 31, 3)), (36, (.iload_n 3, 1)), (37, (.iaload, 1)), (38, (.iadd, 1)), (39, (.istore_n 2, 1)), (40, (.iinc 3 1, 3)), (43, (.goto (-39), 3)), (46, (.iload_n 2, 1)), (47, (.ireturn, 1))]
theorem dAX1_dueSoFar_q0 : ∀ x ∈ dPX1_dueSoFar_q0, decode cX1_dueSoFar x.1 = .ok x.2 := by decide +kernel
theorem dX1_dueSoFar_0 : decode cX1_dueSoFar 0 = .ok (.iconst 0, 1) := dc_at (f := decode cX1_dueSoFar) dAX1_dueSoFar_q0 0 rfl
theorem dX1_dueSoFar_1 : decode cX1_dueSoFar 1 = .ok (.istore_n 2, 1) := dc_at (f := decode cX1_dueSoFar) dAX1_dueSoFar_q0 1 rfl
theorem dX1_dueSoFar_2 : decode cX1_dueSoFar 2 = .ok (.iconst 0, 1) := dc_at (f := decode cX1_dueSoFar) dAX1_dueSoFar_q0 2 rfl
theorem dX1_dueSoFar_3 : decode cX1_dueSoFar 3 = .ok (.istore_n 3, 1) := dc_at (f := decode cX1_dueSoFar) dAX1_dueSoFar_q0 3 rfl
theorem dX1_dueSoFar_4 : decode cX1_dueSoFar 4 = .ok (.iload_n 3, 1) := dc_at (f := decode cX1_dueSoFar) dAX1_dueSoFar_q0 4 rfl
theorem dX1_dueSoFar_5 : decode cX1_dueSoFar 5 = .ok (.aload_n 0, 1) := dc_at (f := decode cX1_dueSoFar) dAX1_dueSoFar_q0 5 rfl
theorem dX1_dueSoFar_6 : decode cX1_dueSoFar 6 = .ok (.getfield 28, 3) := dc_at (f := decode cX1_dueSoFar) dAX1_dueSoFar_q0 6 rfl
theorem dX1_dueSoFar_9 : decode cX1_dueSoFar 9 = .ok (.if_icmp .ge 37, 3) := dc_at (f := decode cX1_dueSoFar) dAX1_dueSoFar_q0 7 rfl
theorem dX1_dueSoFar_12 : decode cX1_dueSoFar 12 = .ok (.aload_n 0, 1) := dc_at (f := decode cX1_dueSoFar) dAX1_dueSoFar_q0 8 rfl
theorem dX1_dueSoFar_13 : decode cX1_dueSoFar 13 = .ok (.iload_n 3, 1) := dc_at (f := decode cX1_dueSoFar) dAX1_dueSoFar_q0 9 rfl
theorem dX1_dueSoFar_14 : decode cX1_dueSoFar 14 = .ok (.invokevirtual 54, 3) := dc_at (f := decode cX1_dueSoFar) dAX1_dueSoFar_q0 10 rfl
theorem dX1_dueSoFar_17 : decode cX1_dueSoFar 17 = .ok (.iload_n 1, 1) := dc_at (f := decode cX1_dueSoFar) dAX1_dueSoFar_q0 11 rfl
theorem dX1_dueSoFar_18 : decode cX1_dueSoFar 18 = .ok (.if_icmp .gt 28, 3) := dc_at (f := decode cX1_dueSoFar) dAX1_dueSoFar_q0 12 rfl
theorem dX1_dueSoFar_21 : decode cX1_dueSoFar 21 = .ok (.aload_n 0, 1) := dc_at (f := decode cX1_dueSoFar) dAX1_dueSoFar_q0 13 rfl
theorem dX1_dueSoFar_22 : decode cX1_dueSoFar 22 = .ok (.getfield 38, 3) := dc_at (f := decode cX1_dueSoFar) dAX1_dueSoFar_q0 14 rfl
theorem dX1_dueSoFar_25 : decode cX1_dueSoFar 25 = .ok (.iload_n 3, 1) := dc_at (f := decode cX1_dueSoFar) dAX1_dueSoFar_q0 15 rfl
theorem dX1_dueSoFar_26 : decode cX1_dueSoFar 26 = .ok (.iaload, 1) := dc_at (f := decode cX1_dueSoFar) dAX1_dueSoFar_q0 16 rfl
theorem dX1_dueSoFar_27 : decode cX1_dueSoFar 27 = .ok (.iconst 2, 1) := dc_at (f := decode cX1_dueSoFar) dAX1_dueSoFar_q0 17 rfl
theorem dX1_dueSoFar_28 : decode cX1_dueSoFar 28 = .ok (.if_icmp .eq 12, 3) := dc_at (f := decode cX1_dueSoFar) dAX1_dueSoFar_q0 18 rfl
theorem dX1_dueSoFar_31 : decode cX1_dueSoFar 31 = .ok (.iload_n 2, 1) := dc_at (f := decode cX1_dueSoFar) dAX1_dueSoFar_q0 19 rfl
theorem dX1_dueSoFar_32 : decode cX1_dueSoFar 32 = .ok (.aload_n 0, 1) := dc_at (f := decode cX1_dueSoFar) dAX1_dueSoFar_q0 20 rfl
theorem dX1_dueSoFar_33 : decode cX1_dueSoFar 33 = .ok (.getfield 31, 3) := dc_at (f := decode cX1_dueSoFar) dAX1_dueSoFar_q0 21 rfl
theorem dX1_dueSoFar_36 : decode cX1_dueSoFar 36 = .ok (.iload_n 3, 1) := dc_at (f := decode cX1_dueSoFar) dAX1_dueSoFar_q0 22 rfl
theorem dX1_dueSoFar_37 : decode cX1_dueSoFar 37 = .ok (.iaload, 1) := dc_at (f := decode cX1_dueSoFar) dAX1_dueSoFar_q0 23 rfl
theorem dX1_dueSoFar_38 : decode cX1_dueSoFar 38 = .ok (.iadd, 1) := dc_at (f := decode cX1_dueSoFar) dAX1_dueSoFar_q0 24 rfl
theorem dX1_dueSoFar_39 : decode cX1_dueSoFar 39 = .ok (.istore_n 2, 1) := dc_at (f := decode cX1_dueSoFar) dAX1_dueSoFar_q0 25 rfl
theorem dX1_dueSoFar_40 : decode cX1_dueSoFar 40 = .ok (.iinc 3 1, 3) := dc_at (f := decode cX1_dueSoFar) dAX1_dueSoFar_q0 26 rfl
theorem dX1_dueSoFar_43 : decode cX1_dueSoFar 43 = .ok (.goto (-39), 3) := dc_at (f := decode cX1_dueSoFar) dAX1_dueSoFar_q0 27 rfl
theorem dX1_dueSoFar_46 : decode cX1_dueSoFar 46 = .ok (.iload_n 2, 1) := dc_at (f := decode cX1_dueSoFar) dAX1_dueSoFar_q0 28 rfl
theorem dX1_dueSoFar_47 : decode cX1_dueSoFar 47 = .ok (.ireturn, 1) := dc_at (f := decode cX1_dueSoFar) dAX1_dueSoFar_q0 29 rfl
def dPX1_filledSoFar_q0 : List (Nat × (Jvm.ClassFile.Instr × Nat)) := [(0, (.iconst 0, 1)), (1, (.istore_n 2, 1)), (2, (.iconst 0, 1)), (3, (.istore_n 3, 1)), (4, (.iload_n 3, 1)), (5, (.aload_n 0, 1)), (6, (.getfield 28, 3)), (9, (.if_icmp .ge 37, 3)), (12, (.aload_n 0, 1)), (13, (.iload_n 3, 1)), (14, (.invokevirtual 54, 3)), (17, (.iload_n 1, 1)), (18, (.if_icmp .gt 28, 3)), (21, (.aload_n 0, 1)), (22, (.getfield 38, 3)), (25, (.iload_n 3, 1)), (26, (.iaload, 1)), (27, (.iconst 2, 1)), (28, (.if_icmp .eq 12, 3)), (31, (.iload_n 2, 1)), (32, (.aload_n 0, 1)), (33, (.getfield 35, 3)), (36, (.iload_n 3, 1)), (37, (.iaload, 1)), (38, (.iadd, 1)), (39, (.istore_n 2, 1)), (40, (.iinc 3 1, 3)), (43, (.goto (-39), 3)), (46, (.iload_n 2, 1)), (47, (.ireturn, 1))]
theorem dAX1_filledSoFar_q0 : ∀ x ∈ dPX1_filledSoFar_q0, decode cX1_filledSoFar x.1 = .ok x.2 := by decide +kernel
theorem dX1_filledSoFar_0 : decode cX1_filledSoFar 0 = .ok (.iconst 0, 1) := dc_at (f := decode cX1_filledSoFar) dAX1_filledSoFar_q0 0 rfl
theorem dX1_filledSoFar_1 : decode cX1_filledSoFar 1 = .ok (.istore_n 2, 1) := dc_at (f := decode cX1_filledSoFar) dAX1_filledSoFar_q0 1 rfl
theorem dX1_filledSoFar_2 : decode cX1_filledSoFar 2 = .ok (.iconst 0, 1) := dc_at (f := decode cX1_filledSoFar) dAX1_filledSoFar_q0 2 rfl
theorem dX1_filledSoFar_3 : decode cX1_filledSoFar 3 = .ok (.istore_n 3, 1) := dc_at (f := decode cX1_filledSoFar) dAX1_filledSoFar_q0 3 rfl
theorem dX1_filledSoFar_4 : decode cX1_filledSoFar 4 = .ok (.iload_n 3, 1) := dc_at (f := decode cX1_filledSoFar) dAX1_filledSoFar_q0 4 rfl
theorem dX1_filledSoFar_5 : decode cX1_filledSoFar 5 = .ok (.aload_n 0, 1) := dc_at (f := decode cX1_filledSoFar) dAX1_filledSoFar_q0 5 rfl
theorem dX1_filledSoFar_6 : decode cX1_filledSoFar 6 = .ok (.getfield 28, 3) := dc_at (f := decode cX1_filledSoFar) dAX1_filledSoFar_q0 6 rfl
theorem dX1_filledSoFar_9 : decode cX1_filledSoFar 9 = .ok (.if_icmp .ge 37, 3) := dc_at (f := decode cX1_filledSoFar) dAX1_filledSoFar_q0 7 rfl
theorem dX1_filledSoFar_12 : decode cX1_filledSoFar 12 = .ok (.aload_n 0, 1) := dc_at (f := decode cX1_filledSoFar) dAX1_filledSoFar_q0 8 rfl
theorem dX1_filledSoFar_13 : decode cX1_filledSoFar 13 = .ok (.iload_n 3, 1) := dc_at (f := decode cX1_filledSoFar) dAX1_filledSoFar_q0 9 rfl
theorem dX1_filledSoFar_14 : decode cX1_filledSoFar 14 = .ok (.invokevirtual 54, 3) := dc_at (f := decode cX1_filledSoFar) dAX1_filledSoFar_q0 10 rfl
theorem dX1_filledSoFar_17 : decode cX1_filledSoFar 17 = .ok (.iload_n 1, 1) := dc_at (f := decode cX1_filledSoFar) dAX1_filledSoFar_q0 11 rfl
theorem dX1_filledSoFar_18 : decode cX1_filledSoFar 18 = .ok (.if_icmp .gt 28, 3) := dc_at (f := decode cX1_filledSoFar) dAX1_filledSoFar_q0 12 rfl
theorem dX1_filledSoFar_21 : decode cX1_filledSoFar 21 = .ok (.aload_n 0, 1) := dc_at (f := decode cX1_filledSoFar) dAX1_filledSoFar_q0 13 rfl
theorem dX1_filledSoFar_22 : decode cX1_filledSoFar 22 = .ok (.getfield 38, 3) := dc_at (f := decode cX1_filledSoFar) dAX1_filledSoFar_q0 14 rfl
theorem dX1_filledSoFar_25 : decode cX1_filledSoFar 25 = .ok (.iload_n 3, 1) := dc_at (f := decode cX1_filledSoFar) dAX1_filledSoFar_q0 15 rfl
theorem dX1_filledSoFar_26 : decode cX1_filledSoFar 26 = .ok (.iaload, 1) := dc_at (f := decode cX1_filledSoFar) dAX1_filledSoFar_q0 16 rfl
theorem dX1_filledSoFar_27 : decode cX1_filledSoFar 27 = .ok (.iconst 2, 1) := dc_at (f := decode cX1_filledSoFar) dAX1_filledSoFar_q0 17 rfl
theorem dX1_filledSoFar_28 : decode cX1_filledSoFar 28 = .ok (.if_icmp .eq 12, 3) := dc_at (f := decode cX1_filledSoFar) dAX1_filledSoFar_q0 18 rfl
theorem dX1_filledSoFar_31 : decode cX1_filledSoFar 31 = .ok (.iload_n 2, 1) := dc_at (f := decode cX1_filledSoFar) dAX1_filledSoFar_q0 19 rfl
theorem dX1_filledSoFar_32 : decode cX1_filledSoFar 32 = .ok (.aload_n 0, 1) := dc_at (f := decode cX1_filledSoFar) dAX1_filledSoFar_q0 20 rfl
theorem dX1_filledSoFar_33 : decode cX1_filledSoFar 33 = .ok (.getfield 35, 3) := dc_at (f := decode cX1_filledSoFar) dAX1_filledSoFar_q0 21 rfl
theorem dX1_filledSoFar_36 : decode cX1_filledSoFar 36 = .ok (.iload_n 3, 1) := dc_at (f := decode cX1_filledSoFar) dAX1_filledSoFar_q0 22 rfl
theorem dX1_filledSoFar_37 : decode cX1_filledSoFar 37 = .ok (.iaload, 1) := dc_at (f := decode cX1_filledSoFar) dAX1_filledSoFar_q0 23 rfl
theorem dX1_filledSoFar_38 : decode cX1_filledSoFar 38 = .ok (.iadd, 1) := dc_at (f := decode cX1_filledSoFar) dAX1_filledSoFar_q0 24 rfl
theorem dX1_filledSoFar_39 : decode cX1_filledSoFar 39 = .ok (.istore_n 2, 1) := dc_at (f := decode cX1_filledSoFar) dAX1_filledSoFar_q0 25 rfl
theorem dX1_filledSoFar_40 : decode cX1_filledSoFar 40 = .ok (.iinc 3 1, 3) := dc_at (f := decode cX1_filledSoFar) dAX1_filledSoFar_q0 26 rfl
theorem dX1_filledSoFar_43 : decode cX1_filledSoFar 43 = .ok (.goto (-39), 3) := dc_at (f := decode cX1_filledSoFar) dAX1_filledSoFar_q0 27 rfl
theorem dX1_filledSoFar_46 : decode cX1_filledSoFar 46 = .ok (.iload_n 2, 1) := dc_at (f := decode cX1_filledSoFar) dAX1_filledSoFar_q0 28 rfl
theorem dX1_filledSoFar_47 : decode cX1_filledSoFar 47 = .ok (.ireturn, 1) := dc_at (f := decode cX1_filledSoFar) dAX1_filledSoFar_q0 29 rfl
def dPX1_setPence_q0 : List (Nat × (Jvm.ClassFile.Instr × Nat)) := [(0, (.aload_n 0, 1)), (1, (.iload_n 1, 1)), (2, (.putfield 41, 3)), (5, (.iconst 0, 1)), (6, (.istore_n 3, 1)), (7, (.iload_n 3, 1)), (8, (.aload_n 0, 1)), (9, (.getfield 28, 3)), (12, (.if_icmp .ge 34, 3)), (15, (.aload_n 0, 1)), (16, (.iload_n 3, 1)), (17, (.invokevirtual 54, 3)), (20, (.iload_n 2, 1)), (21, (.if_icmp .le 19, 3)), (24, (.aload_n 0, 1)), (25, (.getfield 35, 3)), (28, (.iload_n 3, 1)), (29, (.iaload, 1)), (30, (.ifCond .ne 10, 3)), (33, (.aload_n 0, 1)), (34, (.getfield 31, 3)), (37, (.iload_n 3, 1)), (38, (.iload_n 1, 1)), (39, (.iastore, 1)), (40, (.iinc 3 1, 3)), (43, (.goto (-36), 3)), (46, (.return_, 1))]
theorem dAX1_setPence_q0 : ∀ x ∈ dPX1_setPence_q0, decode cX1_setPence x.1 = .ok x.2 := by decide +kernel
theorem dX1_setPence_0 : decode cX1_setPence 0 = .ok (.aload_n 0, 1) := dc_at (f := decode cX1_setPence) dAX1_setPence_q0 0 rfl
theorem dX1_setPence_1 : decode cX1_setPence 1 = .ok (.iload_n 1, 1) := dc_at (f := decode cX1_setPence) dAX1_setPence_q0 1 rfl
theorem dX1_setPence_2 : decode cX1_setPence 2 = .ok (.putfield 41, 3) := dc_at (f := decode cX1_setPence) dAX1_setPence_q0 2 rfl
theorem dX1_setPence_5 : decode cX1_setPence 5 = .ok (.iconst 0, 1) := dc_at (f := decode cX1_setPence) dAX1_setPence_q0 3 rfl
theorem dX1_setPence_6 : decode cX1_setPence 6 = .ok (.istore_n 3, 1) := dc_at (f := decode cX1_setPence) dAX1_setPence_q0 4 rfl
theorem dX1_setPence_7 : decode cX1_setPence 7 = .ok (.iload_n 3, 1) := dc_at (f := decode cX1_setPence) dAX1_setPence_q0 5 rfl
theorem dX1_setPence_8 : decode cX1_setPence 8 = .ok (.aload_n 0, 1) := dc_at (f := decode cX1_setPence) dAX1_setPence_q0 6 rfl
theorem dX1_setPence_9 : decode cX1_setPence 9 = .ok (.getfield 28, 3) := dc_at (f := decode cX1_setPence) dAX1_setPence_q0 7 rfl
theorem dX1_setPence_12 : decode cX1_setPence 12 = .ok (.if_icmp .ge 34, 3) := dc_at (f := decode cX1_setPence) dAX1_setPence_q0 8 rfl
theorem dX1_setPence_15 : decode cX1_setPence 15 = .ok (.aload_n 0, 1) := dc_at (f := decode cX1_setPence) dAX1_setPence_q0 9 rfl
theorem dX1_setPence_16 : decode cX1_setPence 16 = .ok (.iload_n 3, 1) := dc_at (f := decode cX1_setPence) dAX1_setPence_q0 10 rfl
theorem dX1_setPence_17 : decode cX1_setPence 17 = .ok (.invokevirtual 54, 3) := dc_at (f := decode cX1_setPence) dAX1_setPence_q0 11 rfl
theorem dX1_setPence_20 : decode cX1_setPence 20 = .ok (.iload_n 2, 1) := dc_at (f := decode cX1_setPence) dAX1_setPence_q0 12 rfl
theorem dX1_setPence_21 : decode cX1_setPence 21 = .ok (.if_icmp .le 19, 3) := dc_at (f := decode cX1_setPence) dAX1_setPence_q0 13 rfl
theorem dX1_setPence_24 : decode cX1_setPence 24 = .ok (.aload_n 0, 1) := dc_at (f := decode cX1_setPence) dAX1_setPence_q0 14 rfl
theorem dX1_setPence_25 : decode cX1_setPence 25 = .ok (.getfield 35, 3) := dc_at (f := decode cX1_setPence) dAX1_setPence_q0 15 rfl
theorem dX1_setPence_28 : decode cX1_setPence 28 = .ok (.iload_n 3, 1) := dc_at (f := decode cX1_setPence) dAX1_setPence_q0 16 rfl
theorem dX1_setPence_29 : decode cX1_setPence 29 = .ok (.iaload, 1) := dc_at (f := decode cX1_setPence) dAX1_setPence_q0 17 rfl
theorem dX1_setPence_30 : decode cX1_setPence 30 = .ok (.ifCond .ne 10, 3) := dc_at (f := decode cX1_setPence) dAX1_setPence_q0 18 rfl
theorem dX1_setPence_33 : decode cX1_setPence 33 = .ok (.aload_n 0, 1) := dc_at (f := decode cX1_setPence) dAX1_setPence_q0 19 rfl
theorem dX1_setPence_34 : decode cX1_setPence 34 = .ok (.getfield 31, 3) := dc_at (f := decode cX1_setPence) dAX1_setPence_q0 20 rfl
theorem dX1_setPence_37 : decode cX1_setPence 37 = .ok (.iload_n 3, 1) := dc_at (f := decode cX1_setPence) dAX1_setPence_q0 21 rfl
theorem dX1_setPence_38 : decode cX1_setPence 38 = .ok (.iload_n 1, 1) := dc_at (f := decode cX1_setPence) dAX1_setPence_q0 22 rfl
theorem dX1_setPence_39 : decode cX1_setPence 39 = .ok (.iastore, 1) := dc_at (f := decode cX1_setPence) dAX1_setPence_q0 23 rfl
theorem dX1_setPence_40 : decode cX1_setPence 40 = .ok (.iinc 3 1, 3) := dc_at (f := decode cX1_setPence) dAX1_setPence_q0 24 rfl
theorem dX1_setPence_43 : decode cX1_setPence 43 = .ok (.goto (-36), 3) := dc_at (f := decode cX1_setPence) dAX1_setPence_q0 25 rfl
theorem dX1_setPence_46 : decode cX1_setPence 46 = .ok (.return_, 1) := dc_at (f := decode cX1_setPence) dAX1_setPence_q0 26 rfl
def dPX1_fill_q0 : List (Nat × (Jvm.ClassFile.Instr × Nat)) := [(0, (.iload_n 1, 1)), (1, (.istore_n 2, 1)), (2, (.iconst 0, 1)), (3, (.istore_n 3, 1)), (4, (.iload_n 3, 1)), (5, (.aload_n 0, 1)), (6, (.getfield 28, 3)), (9, (.if_icmp .ge 57, 3)), (12, (.iload_n 2, 1)), (13, (.ifCond .le 53, 3)), (16, (.aload_n 0, 1)), (17, (.getfield 38, 3)), (20, (.iload_n 3, 1)), (21, (.iaload, 1)), (22, (.ifCond .ne 38, 3)), (25, (.iload_n 2, 1)), (26, (.aload_n 0, 1)), (27, (.getfield 31, 3)), (30, (.iload_n 3, 1)), (31, (.iaload, 1)), (32, (.aload_n 0, 1)), (33, (.getfield 35, 3)), (36, (.iload_n 3, 1)), (37, (.iaload, 1)), (38, (.isub, 1)), (39, (.invokestatic 62, 3)), (42, (.istore 4, 2)), (44, (.aload_n 0, 1)), (45, (.getfield 35, 3)), (48, (.iload_n 3, 1)), (49, (.dup2, 1)), (50, (.iaload, 1)), (51, (.iload 4, 2)), (53, (.iadd, 1)), (54, (.iastore, 1)), (55, (.iload_n 2, 1)), (56, (.iload 4, 2)), (58, (.isub, 1)), (59, (.istore_n 2, 1)), (60, (.iinc 3 1, 3)), (63, (.goto (-59), 3)), (66, (.aload_n 0, 1)), (67, (.dup, 1)), (68, (.getfield 44, 3)), (71, (.iload_n 1, 1)), (72, (.iload_n 2, 1)), (73, (.isub, 1)), (74, (.iadd, 1))]
theorem dAX1_fill_q0 : ∀ x ∈ dPX1_fill_q0, decode cX1_fill x.1 = .ok x.2 := by decide +kernel
theorem dX1_fill_0 : decode cX1_fill 0 = .ok (.iload_n 1, 1) := dc_at (f := decode cX1_fill) dAX1_fill_q0 0 rfl
theorem dX1_fill_1 : decode cX1_fill 1 = .ok (.istore_n 2, 1) := dc_at (f := decode cX1_fill) dAX1_fill_q0 1 rfl
theorem dX1_fill_2 : decode cX1_fill 2 = .ok (.iconst 0, 1) := dc_at (f := decode cX1_fill) dAX1_fill_q0 2 rfl
theorem dX1_fill_3 : decode cX1_fill 3 = .ok (.istore_n 3, 1) := dc_at (f := decode cX1_fill) dAX1_fill_q0 3 rfl
theorem dX1_fill_4 : decode cX1_fill 4 = .ok (.iload_n 3, 1) := dc_at (f := decode cX1_fill) dAX1_fill_q0 4 rfl
theorem dX1_fill_5 : decode cX1_fill 5 = .ok (.aload_n 0, 1) := dc_at (f := decode cX1_fill) dAX1_fill_q0 5 rfl
theorem dX1_fill_6 : decode cX1_fill 6 = .ok (.getfield 28, 3) := dc_at (f := decode cX1_fill) dAX1_fill_q0 6 rfl
theorem dX1_fill_9 : decode cX1_fill 9 = .ok (.if_icmp .ge 57, 3) := dc_at (f := decode cX1_fill) dAX1_fill_q0 7 rfl
theorem dX1_fill_12 : decode cX1_fill 12 = .ok (.iload_n 2, 1) := dc_at (f := decode cX1_fill) dAX1_fill_q0 8 rfl
theorem dX1_fill_13 : decode cX1_fill 13 = .ok (.ifCond .le 53, 3) := dc_at (f := decode cX1_fill) dAX1_fill_q0 9 rfl
theorem dX1_fill_16 : decode cX1_fill 16 = .ok (.aload_n 0, 1) := dc_at (f := decode cX1_fill) dAX1_fill_q0 10 rfl
theorem dX1_fill_17 : decode cX1_fill 17 = .ok (.getfield 38, 3) := dc_at (f := decode cX1_fill) dAX1_fill_q0 11 rfl
theorem dX1_fill_20 : decode cX1_fill 20 = .ok (.iload_n 3, 1) := dc_at (f := decode cX1_fill) dAX1_fill_q0 12 rfl
theorem dX1_fill_21 : decode cX1_fill 21 = .ok (.iaload, 1) := dc_at (f := decode cX1_fill) dAX1_fill_q0 13 rfl
theorem dX1_fill_22 : decode cX1_fill 22 = .ok (.ifCond .ne 38, 3) := dc_at (f := decode cX1_fill) dAX1_fill_q0 14 rfl
theorem dX1_fill_25 : decode cX1_fill 25 = .ok (.iload_n 2, 1) := dc_at (f := decode cX1_fill) dAX1_fill_q0 15 rfl
theorem dX1_fill_26 : decode cX1_fill 26 = .ok (.aload_n 0, 1) := dc_at (f := decode cX1_fill) dAX1_fill_q0 16 rfl
theorem dX1_fill_27 : decode cX1_fill 27 = .ok (.getfield 31, 3) := dc_at (f := decode cX1_fill) dAX1_fill_q0 17 rfl
theorem dX1_fill_30 : decode cX1_fill 30 = .ok (.iload_n 3, 1) := dc_at (f := decode cX1_fill) dAX1_fill_q0 18 rfl
theorem dX1_fill_31 : decode cX1_fill 31 = .ok (.iaload, 1) := dc_at (f := decode cX1_fill) dAX1_fill_q0 19 rfl
theorem dX1_fill_32 : decode cX1_fill 32 = .ok (.aload_n 0, 1) := dc_at (f := decode cX1_fill) dAX1_fill_q0 20 rfl
theorem dX1_fill_33 : decode cX1_fill 33 = .ok (.getfield 35, 3) := dc_at (f := decode cX1_fill) dAX1_fill_q0 21 rfl
theorem dX1_fill_36 : decode cX1_fill 36 = .ok (.iload_n 3, 1) := dc_at (f := decode cX1_fill) dAX1_fill_q0 22 rfl
theorem dX1_fill_37 : decode cX1_fill 37 = .ok (.iaload, 1) := dc_at (f := decode cX1_fill) dAX1_fill_q0 23 rfl
theorem dX1_fill_38 : decode cX1_fill 38 = .ok (.isub, 1) := dc_at (f := decode cX1_fill) dAX1_fill_q0 24 rfl
theorem dX1_fill_39 : decode cX1_fill 39 = .ok (.invokestatic 62, 3) := dc_at (f := decode cX1_fill) dAX1_fill_q0 25 rfl
theorem dX1_fill_42 : decode cX1_fill 42 = .ok (.istore 4, 2) := dc_at (f := decode cX1_fill) dAX1_fill_q0 26 rfl
theorem dX1_fill_44 : decode cX1_fill 44 = .ok (.aload_n 0, 1) := dc_at (f := decode cX1_fill) dAX1_fill_q0 27 rfl
theorem dX1_fill_45 : decode cX1_fill 45 = .ok (.getfield 35, 3) := dc_at (f := decode cX1_fill) dAX1_fill_q0 28 rfl
theorem dX1_fill_48 : decode cX1_fill 48 = .ok (.iload_n 3, 1) := dc_at (f := decode cX1_fill) dAX1_fill_q0 29 rfl
theorem dX1_fill_49 : decode cX1_fill 49 = .ok (.dup2, 1) := dc_at (f := decode cX1_fill) dAX1_fill_q0 30 rfl
theorem dX1_fill_50 : decode cX1_fill 50 = .ok (.iaload, 1) := dc_at (f := decode cX1_fill) dAX1_fill_q0 31 rfl
theorem dX1_fill_51 : decode cX1_fill 51 = .ok (.iload 4, 2) := dc_at (f := decode cX1_fill) dAX1_fill_q0 32 rfl
theorem dX1_fill_53 : decode cX1_fill 53 = .ok (.iadd, 1) := dc_at (f := decode cX1_fill) dAX1_fill_q0 33 rfl
theorem dX1_fill_54 : decode cX1_fill 54 = .ok (.iastore, 1) := dc_at (f := decode cX1_fill) dAX1_fill_q0 34 rfl
theorem dX1_fill_55 : decode cX1_fill 55 = .ok (.iload_n 2, 1) := dc_at (f := decode cX1_fill) dAX1_fill_q0 35 rfl
theorem dX1_fill_56 : decode cX1_fill 56 = .ok (.iload 4, 2) := dc_at (f := decode cX1_fill) dAX1_fill_q0 36 rfl
theorem dX1_fill_58 : decode cX1_fill 58 = .ok (.isub, 1) := dc_at (f := decode cX1_fill) dAX1_fill_q0 37 rfl
theorem dX1_fill_59 : decode cX1_fill 59 = .ok (.istore_n 2, 1) := dc_at (f := decode cX1_fill) dAX1_fill_q0 38 rfl
theorem dX1_fill_60 : decode cX1_fill 60 = .ok (.iinc 3 1, 3) := dc_at (f := decode cX1_fill) dAX1_fill_q0 39 rfl
theorem dX1_fill_63 : decode cX1_fill 63 = .ok (.goto (-59), 3) := dc_at (f := decode cX1_fill) dAX1_fill_q0 40 rfl
theorem dX1_fill_66 : decode cX1_fill 66 = .ok (.aload_n 0, 1) := dc_at (f := decode cX1_fill) dAX1_fill_q0 41 rfl
theorem dX1_fill_67 : decode cX1_fill 67 = .ok (.dup, 1) := dc_at (f := decode cX1_fill) dAX1_fill_q0 42 rfl
theorem dX1_fill_68 : decode cX1_fill 68 = .ok (.getfield 44, 3) := dc_at (f := decode cX1_fill) dAX1_fill_q0 43 rfl
theorem dX1_fill_71 : decode cX1_fill 71 = .ok (.iload_n 1, 1) := dc_at (f := decode cX1_fill) dAX1_fill_q0 44 rfl
theorem dX1_fill_72 : decode cX1_fill 72 = .ok (.iload_n 2, 1) := dc_at (f := decode cX1_fill) dAX1_fill_q0 45 rfl
theorem dX1_fill_73 : decode cX1_fill 73 = .ok (.isub, 1) := dc_at (f := decode cX1_fill) dAX1_fill_q0 46 rfl
theorem dX1_fill_74 : decode cX1_fill 74 = .ok (.iadd, 1) := dc_at (f := decode cX1_fill) dAX1_fill_q0 47 rfl
def dPX1_fill_q1 : List (Nat × (Jvm.ClassFile.Instr × Nat)) := [(75, (.putfield 44, 3)), (78, (.return_, 1))]
theorem dAX1_fill_q1 : ∀ x ∈ dPX1_fill_q1, decode cX1_fill x.1 = .ok x.2 := by decide +kernel
theorem dX1_fill_75 : decode cX1_fill 75 = .ok (.putfield 44, 3) := dc_at (f := decode cX1_fill) dAX1_fill_q1 0 rfl
theorem dX1_fill_78 : decode cX1_fill 78 = .ok (.return_, 1) := dc_at (f := decode cX1_fill) dAX1_fill_q1 1 rfl
def dPX1_lapseIn_q0 : List (Nat × (Jvm.ClassFile.Instr × Nat)) := [(0, (.aload_n 0, 1)), (1, (.iconst 1, 1)), (2, (.putfield 47, 3)), (5, (.aload_n 0, 1)), (6, (.getfield 9, 3)), (9, (.iconst (-1), 1)), (10, (.if_icmp .ne 8, 3)), (13, (.aload_n 0, 1)), (14, (.iload_n 1, 1)), (15, (.putfield 9, 3)), (18, (.iconst 0, 1)), (19, (.istore_n 2, 1)), (20, (.iload_n 2, 1)), (21, (.aload_n 0, 1)), (22, (.getfield 28, 3)), (25, (.if_icmp .ge 53, 3)), (28, (.aload_n 0, 1)), (29, (.getfield 38, 3)), (32, (.iload_n 2, 1)), (33, (.iaload, 1)), (34, (.ifCond .ne 38, 3)), (37, (.aload_n 0, 1)), (38, (.getfield 35, 3)), (41, (.iload_n 2, 1)), (42, (.iaload, 1)), (43, (.aload_n 0, 1)), (44, (.getfield 31, 3)), (47, (.iload_n 2, 1)), (48, (.iaload, 1)), (49, (.if_icmp .ge 23, 3)), (52, (.aload_n 0, 1)), (53, (.getfield 38, 3)), (56, (.iload_n 2, 1)), (57, (.aload_n 0, 1)), (58, (.iload_n 2, 1)), (59, (.invokevirtual 54, 3)), (62, (.iload_n 1, 1)), (63, (.if_icmp .gt 7, 3)), (66, (.iconst 1, 1)), (67, (.goto 4, 3)), (70, (.iconst 2, 1)), (71, (.iastore, 1)), (72, (.iinc 2 1, 3)), (75, (.goto (-55), 3)), (78, (.return_, 1))]
theorem dAX1_lapseIn_q0 : ∀ x ∈ dPX1_lapseIn_q0, decode cX1_lapseIn x.1 = .ok x.2 := by decide +kernel
theorem dX1_lapseIn_0 : decode cX1_lapseIn 0 = .ok (.aload_n 0, 1) := dc_at (f := decode cX1_lapseIn) dAX1_lapseIn_q0 0 rfl
theorem dX1_lapseIn_1 : decode cX1_lapseIn 1 = .ok (.iconst 1, 1) := dc_at (f := decode cX1_lapseIn) dAX1_lapseIn_q0 1 rfl
theorem dX1_lapseIn_2 : decode cX1_lapseIn 2 = .ok (.putfield 47, 3) := dc_at (f := decode cX1_lapseIn) dAX1_lapseIn_q0 2 rfl
theorem dX1_lapseIn_5 : decode cX1_lapseIn 5 = .ok (.aload_n 0, 1) := dc_at (f := decode cX1_lapseIn) dAX1_lapseIn_q0 3 rfl
theorem dX1_lapseIn_6 : decode cX1_lapseIn 6 = .ok (.getfield 9, 3) := dc_at (f := decode cX1_lapseIn) dAX1_lapseIn_q0 4 rfl
theorem dX1_lapseIn_9 : decode cX1_lapseIn 9 = .ok (.iconst (-1), 1) := dc_at (f := decode cX1_lapseIn) dAX1_lapseIn_q0 5 rfl
theorem dX1_lapseIn_10 : decode cX1_lapseIn 10 = .ok (.if_icmp .ne 8, 3) := dc_at (f := decode cX1_lapseIn) dAX1_lapseIn_q0 6 rfl
theorem dX1_lapseIn_13 : decode cX1_lapseIn 13 = .ok (.aload_n 0, 1) := dc_at (f := decode cX1_lapseIn) dAX1_lapseIn_q0 7 rfl
theorem dX1_lapseIn_14 : decode cX1_lapseIn 14 = .ok (.iload_n 1, 1) := dc_at (f := decode cX1_lapseIn) dAX1_lapseIn_q0 8 rfl
theorem dX1_lapseIn_15 : decode cX1_lapseIn 15 = .ok (.putfield 9, 3) := dc_at (f := decode cX1_lapseIn) dAX1_lapseIn_q0 9 rfl
theorem dX1_lapseIn_18 : decode cX1_lapseIn 18 = .ok (.iconst 0, 1) := dc_at (f := decode cX1_lapseIn) dAX1_lapseIn_q0 10 rfl
theorem dX1_lapseIn_19 : decode cX1_lapseIn 19 = .ok (.istore_n 2, 1) := dc_at (f := decode cX1_lapseIn) dAX1_lapseIn_q0 11 rfl
theorem dX1_lapseIn_20 : decode cX1_lapseIn 20 = .ok (.iload_n 2, 1) := dc_at (f := decode cX1_lapseIn) dAX1_lapseIn_q0 12 rfl
theorem dX1_lapseIn_21 : decode cX1_lapseIn 21 = .ok (.aload_n 0, 1) := dc_at (f := decode cX1_lapseIn) dAX1_lapseIn_q0 13 rfl
theorem dX1_lapseIn_22 : decode cX1_lapseIn 22 = .ok (.getfield 28, 3) := dc_at (f := decode cX1_lapseIn) dAX1_lapseIn_q0 14 rfl
theorem dX1_lapseIn_25 : decode cX1_lapseIn 25 = .ok (.if_icmp .ge 53, 3) := dc_at (f := decode cX1_lapseIn) dAX1_lapseIn_q0 15 rfl
theorem dX1_lapseIn_28 : decode cX1_lapseIn 28 = .ok (.aload_n 0, 1) := dc_at (f := decode cX1_lapseIn) dAX1_lapseIn_q0 16 rfl
theorem dX1_lapseIn_29 : decode cX1_lapseIn 29 = .ok (.getfield 38, 3) := dc_at (f := decode cX1_lapseIn) dAX1_lapseIn_q0 17 rfl
theorem dX1_lapseIn_32 : decode cX1_lapseIn 32 = .ok (.iload_n 2, 1) := dc_at (f := decode cX1_lapseIn) dAX1_lapseIn_q0 18 rfl
theorem dX1_lapseIn_33 : decode cX1_lapseIn 33 = .ok (.iaload, 1) := dc_at (f := decode cX1_lapseIn) dAX1_lapseIn_q0 19 rfl
theorem dX1_lapseIn_34 : decode cX1_lapseIn 34 = .ok (.ifCond .ne 38, 3) := dc_at (f := decode cX1_lapseIn) dAX1_lapseIn_q0 20 rfl
theorem dX1_lapseIn_37 : decode cX1_lapseIn 37 = .ok (.aload_n 0, 1) := dc_at (f := decode cX1_lapseIn) dAX1_lapseIn_q0 21 rfl
theorem dX1_lapseIn_38 : decode cX1_lapseIn 38 = .ok (.getfield 35, 3) := dc_at (f := decode cX1_lapseIn) dAX1_lapseIn_q0 22 rfl
theorem dX1_lapseIn_41 : decode cX1_lapseIn 41 = .ok (.iload_n 2, 1) := dc_at (f := decode cX1_lapseIn) dAX1_lapseIn_q0 23 rfl
theorem dX1_lapseIn_42 : decode cX1_lapseIn 42 = .ok (.iaload, 1) := dc_at (f := decode cX1_lapseIn) dAX1_lapseIn_q0 24 rfl
theorem dX1_lapseIn_43 : decode cX1_lapseIn 43 = .ok (.aload_n 0, 1) := dc_at (f := decode cX1_lapseIn) dAX1_lapseIn_q0 25 rfl
theorem dX1_lapseIn_44 : decode cX1_lapseIn 44 = .ok (.getfield 31, 3) := dc_at (f := decode cX1_lapseIn) dAX1_lapseIn_q0 26 rfl
theorem dX1_lapseIn_47 : decode cX1_lapseIn 47 = .ok (.iload_n 2, 1) := dc_at (f := decode cX1_lapseIn) dAX1_lapseIn_q0 27 rfl
theorem dX1_lapseIn_48 : decode cX1_lapseIn 48 = .ok (.iaload, 1) := dc_at (f := decode cX1_lapseIn) dAX1_lapseIn_q0 28 rfl
theorem dX1_lapseIn_49 : decode cX1_lapseIn 49 = .ok (.if_icmp .ge 23, 3) := dc_at (f := decode cX1_lapseIn) dAX1_lapseIn_q0 29 rfl
theorem dX1_lapseIn_52 : decode cX1_lapseIn 52 = .ok (.aload_n 0, 1) := dc_at (f := decode cX1_lapseIn) dAX1_lapseIn_q0 30 rfl
theorem dX1_lapseIn_53 : decode cX1_lapseIn 53 = .ok (.getfield 38, 3) := dc_at (f := decode cX1_lapseIn) dAX1_lapseIn_q0 31 rfl
theorem dX1_lapseIn_56 : decode cX1_lapseIn 56 = .ok (.iload_n 2, 1) := dc_at (f := decode cX1_lapseIn) dAX1_lapseIn_q0 32 rfl
theorem dX1_lapseIn_57 : decode cX1_lapseIn 57 = .ok (.aload_n 0, 1) := dc_at (f := decode cX1_lapseIn) dAX1_lapseIn_q0 33 rfl
theorem dX1_lapseIn_58 : decode cX1_lapseIn 58 = .ok (.iload_n 2, 1) := dc_at (f := decode cX1_lapseIn) dAX1_lapseIn_q0 34 rfl
theorem dX1_lapseIn_59 : decode cX1_lapseIn 59 = .ok (.invokevirtual 54, 3) := dc_at (f := decode cX1_lapseIn) dAX1_lapseIn_q0 35 rfl
theorem dX1_lapseIn_62 : decode cX1_lapseIn 62 = .ok (.iload_n 1, 1) := dc_at (f := decode cX1_lapseIn) dAX1_lapseIn_q0 36 rfl
theorem dX1_lapseIn_63 : decode cX1_lapseIn 63 = .ok (.if_icmp .gt 7, 3) := dc_at (f := decode cX1_lapseIn) dAX1_lapseIn_q0 37 rfl
theorem dX1_lapseIn_66 : decode cX1_lapseIn 66 = .ok (.iconst 1, 1) := dc_at (f := decode cX1_lapseIn) dAX1_lapseIn_q0 38 rfl
theorem dX1_lapseIn_67 : decode cX1_lapseIn 67 = .ok (.goto 4, 3) := dc_at (f := decode cX1_lapseIn) dAX1_lapseIn_q0 39 rfl
theorem dX1_lapseIn_70 : decode cX1_lapseIn 70 = .ok (.iconst 2, 1) := dc_at (f := decode cX1_lapseIn) dAX1_lapseIn_q0 40 rfl
theorem dX1_lapseIn_71 : decode cX1_lapseIn 71 = .ok (.iastore, 1) := dc_at (f := decode cX1_lapseIn) dAX1_lapseIn_q0 41 rfl
theorem dX1_lapseIn_72 : decode cX1_lapseIn 72 = .ok (.iinc 2 1, 3) := dc_at (f := decode cX1_lapseIn) dAX1_lapseIn_q0 42 rfl
theorem dX1_lapseIn_75 : decode cX1_lapseIn 75 = .ok (.goto (-55), 3) := dc_at (f := decode cX1_lapseIn) dAX1_lapseIn_q0 43 rfl
theorem dX1_lapseIn_78 : decode cX1_lapseIn 78 = .ok (.return_, 1) := dc_at (f := decode cX1_lapseIn) dAX1_lapseIn_q0 44 rfl
def dPX1_standAgain_q0 : List (Nat × (Jvm.ClassFile.Instr × Nat)) := [(0, (.aload_n 0, 1)), (1, (.iconst 0, 1)), (2, (.putfield 47, 3)), (5, (.aload_n 0, 1)), (6, (.iconst 1, 1)), (7, (.putfield 51, 3)), (10, (.iconst 0, 1)), (11, (.istore_n 2, 1)), (12, (.iload_n 2, 1)), (13, (.aload_n 0, 1)), (14, (.getfield 28, 3)), (17, (.if_icmp .ge 35, 3)), (20, (.aload_n 0, 1)), (21, (.iload_n 2, 1)), (22, (.invokevirtual 54, 3)), (25, (.iload_n 1, 1)), (26, (.if_icmp .le 20, 3)), (29, (.aload_n 0, 1)), (30, (.getfield 38, 3)), (33, (.iload_n 2, 1)), (34, (.iaload, 1)), (35, (.iconst 2, 1)), (36, (.if_icmp .ne 10, 3)), (39, (.aload_n 0, 1)), (40, (.getfield 38, 3)), (43, (.iload_n 2, 1)), (44, (.iconst 0, 1)), (45, (.iastore, 1)), (46, (.iinc 2 1, 3)), (49, (.goto (-37), 3)), (52, (.return_, 1))]
theorem dAX1_standAgain_q0 : ∀ x ∈ dPX1_standAgain_q0, decode cX1_standAgain x.1 = .ok x.2 := by decide +kernel
theorem dX1_standAgain_0 : decode cX1_standAgain 0 = .ok (.aload_n 0, 1) := dc_at (f := decode cX1_standAgain) dAX1_standAgain_q0 0 rfl
theorem dX1_standAgain_1 : decode cX1_standAgain 1 = .ok (.iconst 0, 1) := dc_at (f := decode cX1_standAgain) dAX1_standAgain_q0 1 rfl
theorem dX1_standAgain_2 : decode cX1_standAgain 2 = .ok (.putfield 47, 3) := dc_at (f := decode cX1_standAgain) dAX1_standAgain_q0 2 rfl
theorem dX1_standAgain_5 : decode cX1_standAgain 5 = .ok (.aload_n 0, 1) := dc_at (f := decode cX1_standAgain) dAX1_standAgain_q0 3 rfl
theorem dX1_standAgain_6 : decode cX1_standAgain 6 = .ok (.iconst 1, 1) := dc_at (f := decode cX1_standAgain) dAX1_standAgain_q0 4 rfl
theorem dX1_standAgain_7 : decode cX1_standAgain 7 = .ok (.putfield 51, 3) := dc_at (f := decode cX1_standAgain) dAX1_standAgain_q0 5 rfl
theorem dX1_standAgain_10 : decode cX1_standAgain 10 = .ok (.iconst 0, 1) := dc_at (f := decode cX1_standAgain) dAX1_standAgain_q0 6 rfl
theorem dX1_standAgain_11 : decode cX1_standAgain 11 = .ok (.istore_n 2, 1) := dc_at (f := decode cX1_standAgain) dAX1_standAgain_q0 7 rfl
theorem dX1_standAgain_12 : decode cX1_standAgain 12 = .ok (.iload_n 2, 1) := dc_at (f := decode cX1_standAgain) dAX1_standAgain_q0 8 rfl
theorem dX1_standAgain_13 : decode cX1_standAgain 13 = .ok (.aload_n 0, 1) := dc_at (f := decode cX1_standAgain) dAX1_standAgain_q0 9 rfl
theorem dX1_standAgain_14 : decode cX1_standAgain 14 = .ok (.getfield 28, 3) := dc_at (f := decode cX1_standAgain) dAX1_standAgain_q0 10 rfl
theorem dX1_standAgain_17 : decode cX1_standAgain 17 = .ok (.if_icmp .ge 35, 3) := dc_at (f := decode cX1_standAgain) dAX1_standAgain_q0 11 rfl
theorem dX1_standAgain_20 : decode cX1_standAgain 20 = .ok (.aload_n 0, 1) := dc_at (f := decode cX1_standAgain) dAX1_standAgain_q0 12 rfl
theorem dX1_standAgain_21 : decode cX1_standAgain 21 = .ok (.iload_n 2, 1) := dc_at (f := decode cX1_standAgain) dAX1_standAgain_q0 13 rfl
theorem dX1_standAgain_22 : decode cX1_standAgain 22 = .ok (.invokevirtual 54, 3) := dc_at (f := decode cX1_standAgain) dAX1_standAgain_q0 14 rfl
theorem dX1_standAgain_25 : decode cX1_standAgain 25 = .ok (.iload_n 1, 1) := dc_at (f := decode cX1_standAgain) dAX1_standAgain_q0 15 rfl
theorem dX1_standAgain_26 : decode cX1_standAgain 26 = .ok (.if_icmp .le 20, 3) := dc_at (f := decode cX1_standAgain) dAX1_standAgain_q0 16 rfl
theorem dX1_standAgain_29 : decode cX1_standAgain 29 = .ok (.aload_n 0, 1) := dc_at (f := decode cX1_standAgain) dAX1_standAgain_q0 17 rfl
theorem dX1_standAgain_30 : decode cX1_standAgain 30 = .ok (.getfield 38, 3) := dc_at (f := decode cX1_standAgain) dAX1_standAgain_q0 18 rfl
theorem dX1_standAgain_33 : decode cX1_standAgain 33 = .ok (.iload_n 2, 1) := dc_at (f := decode cX1_standAgain) dAX1_standAgain_q0 19 rfl
theorem dX1_standAgain_34 : decode cX1_standAgain 34 = .ok (.iaload, 1) := dc_at (f := decode cX1_standAgain) dAX1_standAgain_q0 20 rfl
theorem dX1_standAgain_35 : decode cX1_standAgain 35 = .ok (.iconst 2, 1) := dc_at (f := decode cX1_standAgain) dAX1_standAgain_q0 21 rfl
theorem dX1_standAgain_36 : decode cX1_standAgain 36 = .ok (.if_icmp .ne 10, 3) := dc_at (f := decode cX1_standAgain) dAX1_standAgain_q0 22 rfl
theorem dX1_standAgain_39 : decode cX1_standAgain 39 = .ok (.aload_n 0, 1) := dc_at (f := decode cX1_standAgain) dAX1_standAgain_q0 23 rfl
theorem dX1_standAgain_40 : decode cX1_standAgain 40 = .ok (.getfield 38, 3) := dc_at (f := decode cX1_standAgain) dAX1_standAgain_q0 24 rfl
theorem dX1_standAgain_43 : decode cX1_standAgain 43 = .ok (.iload_n 2, 1) := dc_at (f := decode cX1_standAgain) dAX1_standAgain_q0 25 rfl
theorem dX1_standAgain_44 : decode cX1_standAgain 44 = .ok (.iconst 0, 1) := dc_at (f := decode cX1_standAgain) dAX1_standAgain_q0 26 rfl
theorem dX1_standAgain_45 : decode cX1_standAgain 45 = .ok (.iastore, 1) := dc_at (f := decode cX1_standAgain) dAX1_standAgain_q0 27 rfl
theorem dX1_standAgain_46 : decode cX1_standAgain 46 = .ok (.iinc 2 1, 3) := dc_at (f := decode cX1_standAgain) dAX1_standAgain_q0 28 rfl
theorem dX1_standAgain_49 : decode cX1_standAgain 49 = .ok (.goto (-37), 3) := dc_at (f := decode cX1_standAgain) dAX1_standAgain_q0 29 rfl
theorem dX1_standAgain_52 : decode cX1_standAgain 52 = .ok (.return_, 1) := dc_at (f := decode cX1_standAgain) dAX1_standAgain_q0 30 rfl
def dPX2_init_q0 : List (Nat × (Jvm.ClassFile.Instr × Nat)) := [(0, (.aload_n 0, 1)), (1, (.invokespecial 3, 3)), (4, (.aload_n 0, 1)), (5, (.bipush 60, 2)), (7, (.anewarray 9, 3)), (10, (.putfield 11, 3)), (13, (.return_, 1))]
theorem dAX2_init_q0 : ∀ x ∈ dPX2_init_q0, decode cX2_init x.1 = .ok x.2 := by decide +kernel
theorem dX2_init_0 : decode cX2_init 0 = .ok (.aload_n 0, 1) := dc_at (f := decode cX2_init) dAX2_init_q0 0 rfl
theorem dX2_init_1 : decode cX2_init 1 = .ok (.invokespecial 3, 3) := dc_at (f := decode cX2_init) dAX2_init_q0 1 rfl
theorem dX2_init_4 : decode cX2_init 4 = .ok (.aload_n 0, 1) := dc_at (f := decode cX2_init) dAX2_init_q0 2 rfl
theorem dX2_init_5 : decode cX2_init 5 = .ok (.bipush 60, 2) := dc_at (f := decode cX2_init) dAX2_init_q0 3 rfl
theorem dX2_init_7 : decode cX2_init 7 = .ok (.anewarray 9, 3) := dc_at (f := decode cX2_init) dAX2_init_q0 4 rfl
theorem dX2_init_10 : decode cX2_init 10 = .ok (.putfield 11, 3) := dc_at (f := decode cX2_init) dAX2_init_q0 5 rfl
theorem dX2_init_13 : decode cX2_init 13 = .ok (.return_, 1) := dc_at (f := decode cX2_init) dAX2_init_q0 6 rfl
def dPX2_size_q0 : List (Nat × (Jvm.ClassFile.Instr × Nat)) := [(0, (.aload_n 0, 1)), (1, (.getfield 17, 3)), (4, (.ireturn, 1))]
theorem dAX2_size_q0 : ∀ x ∈ dPX2_size_q0, decode cX2_size x.1 = .ok x.2 := by decide +kernel
theorem dX2_size_0 : decode cX2_size 0 = .ok (.aload_n 0, 1) := dc_at (f := decode cX2_size) dAX2_size_q0 0 rfl
theorem dX2_size_1 : decode cX2_size 1 = .ok (.getfield 17, 3) := dc_at (f := decode cX2_size) dAX2_size_q0 1 rfl
theorem dX2_size_4 : decode cX2_size 4 = .ok (.ireturn, 1) := dc_at (f := decode cX2_size) dAX2_size_q0 2 rfl
def dPX2_isFull_q0 : List (Nat × (Jvm.ClassFile.Instr × Nat)) := [(0, (.aload_n 0, 1)), (1, (.getfield 17, 3)), (4, (.bipush 60, 2)), (6, (.if_icmp .lt 7, 3)), (9, (.iconst 1, 1)), (10, (.goto 4, 3)), (13, (.iconst 0, 1)), (14, (.ireturn, 1))]
theorem dAX2_isFull_q0 : ∀ x ∈ dPX2_isFull_q0, decode cX2_isFull x.1 = .ok x.2 := by decide +kernel
theorem dX2_isFull_0 : decode cX2_isFull 0 = .ok (.aload_n 0, 1) := dc_at (f := decode cX2_isFull) dAX2_isFull_q0 0 rfl
theorem dX2_isFull_1 : decode cX2_isFull 1 = .ok (.getfield 17, 3) := dc_at (f := decode cX2_isFull) dAX2_isFull_q0 1 rfl
theorem dX2_isFull_4 : decode cX2_isFull 4 = .ok (.bipush 60, 2) := dc_at (f := decode cX2_isFull) dAX2_isFull_q0 2 rfl
theorem dX2_isFull_6 : decode cX2_isFull 6 = .ok (.if_icmp .lt 7, 3) := dc_at (f := decode cX2_isFull) dAX2_isFull_q0 3 rfl
theorem dX2_isFull_9 : decode cX2_isFull 9 = .ok (.iconst 1, 1) := dc_at (f := decode cX2_isFull) dAX2_isFull_q0 4 rfl
theorem dX2_isFull_10 : decode cX2_isFull 10 = .ok (.goto 4, 3) := dc_at (f := decode cX2_isFull) dAX2_isFull_q0 5 rfl
theorem dX2_isFull_13 : decode cX2_isFull 13 = .ok (.iconst 0, 1) := dc_at (f := decode cX2_isFull) dAX2_isFull_q0 6 rfl
theorem dX2_isFull_14 : decode cX2_isFull 14 = .ok (.ireturn, 1) := dc_at (f := decode cX2_isFull) dAX2_isFull_q0 7 rfl
def dPX2_add_q0 : List (Nat × (Jvm.ClassFile.Instr × Nat)) := [(0, (.aload_n 0, 1)), (1, (.getfield 17, 3)), (4, (.ifCond .lt 12, 3)), (7, (.aload_n 0, 1)), (8, (.getfield 17, 3)), (11, (.bipush 60, 2)), (13, (.if_icmp .lt 6, 3)), (16, (.bipush (-3), 2)), (18, (.ireturn, 1)), (19, (.aload_n 0, 1)), (20, (.getfield 11, 3)), (23, (.aload_n 0, 1)), (24, (.getfield 17, 3)), (27, (.aload_n 1, 1)), (28, (.aastore, 1)), (29, (.aload_n 0, 1)), (30, (.dup, 1)), (31, (.getfield 17, 3)), (34, (.iconst 1, 1)), (35, (.iadd, 1)), (36, (.putfield 17, 3)), (39, (.aload_n 0, 1)), (40, (.getfield 17, 3)), (43, (.iconst 1, 1)), (44, (.isub, 1)), (45, (.ireturn, 1))]
theorem dAX2_add_q0 : ∀ x ∈ dPX2_add_q0, decode cX2_add x.1 = .ok x.2 := by decide +kernel
theorem dX2_add_0 : decode cX2_add 0 = .ok (.aload_n 0, 1) := dc_at (f := decode cX2_add) dAX2_add_q0 0 rfl
theorem dX2_add_1 : decode cX2_add 1 = .ok (.getfield 17, 3) := dc_at (f := decode cX2_add) dAX2_add_q0 1 rfl
theorem dX2_add_4 : decode cX2_add 4 = .ok (.ifCond .lt 12, 3) := dc_at (f := decode cX2_add) dAX2_add_q0 2 rfl
theorem dX2_add_7 : decode cX2_add 7 = .ok (.aload_n 0, 1) := dc_at (f := decode cX2_add) dAX2_add_q0 3 rfl
theorem dX2_add_8 : decode cX2_add 8 = .ok (.getfield 17, 3) := dc_at (f := decode cX2_add) dAX2_add_q0 4 rfl
theorem dX2_add_11 : decode cX2_add 11 = .ok (.bipush 60, 2) := dc_at (f := decode cX2_add) dAX2_add_q0 5 rfl
theorem dX2_add_13 : decode cX2_add 13 = .ok (.if_icmp .lt 6, 3) := dc_at (f := decode cX2_add) dAX2_add_q0 6 rfl
theorem dX2_add_19 : decode cX2_add 19 = .ok (.aload_n 0, 1) := dc_at (f := decode cX2_add) dAX2_add_q0 9 rfl
theorem dX2_add_20 : decode cX2_add 20 = .ok (.getfield 11, 3) := dc_at (f := decode cX2_add) dAX2_add_q0 10 rfl
theorem dX2_add_23 : decode cX2_add 23 = .ok (.aload_n 0, 1) := dc_at (f := decode cX2_add) dAX2_add_q0 11 rfl
theorem dX2_add_24 : decode cX2_add 24 = .ok (.getfield 17, 3) := dc_at (f := decode cX2_add) dAX2_add_q0 12 rfl
theorem dX2_add_27 : decode cX2_add 27 = .ok (.aload_n 1, 1) := dc_at (f := decode cX2_add) dAX2_add_q0 13 rfl
theorem dX2_add_28 : decode cX2_add 28 = .ok (.aastore, 1) := dc_at (f := decode cX2_add) dAX2_add_q0 14 rfl
theorem dX2_add_29 : decode cX2_add 29 = .ok (.aload_n 0, 1) := dc_at (f := decode cX2_add) dAX2_add_q0 15 rfl
theorem dX2_add_30 : decode cX2_add 30 = .ok (.dup, 1) := dc_at (f := decode cX2_add) dAX2_add_q0 16 rfl
theorem dX2_add_31 : decode cX2_add 31 = .ok (.getfield 17, 3) := dc_at (f := decode cX2_add) dAX2_add_q0 17 rfl
theorem dX2_add_34 : decode cX2_add 34 = .ok (.iconst 1, 1) := dc_at (f := decode cX2_add) dAX2_add_q0 18 rfl
theorem dX2_add_35 : decode cX2_add 35 = .ok (.iadd, 1) := dc_at (f := decode cX2_add) dAX2_add_q0 19 rfl
theorem dX2_add_36 : decode cX2_add 36 = .ok (.putfield 17, 3) := dc_at (f := decode cX2_add) dAX2_add_q0 20 rfl
theorem dX2_add_39 : decode cX2_add 39 = .ok (.aload_n 0, 1) := dc_at (f := decode cX2_add) dAX2_add_q0 21 rfl
theorem dX2_add_40 : decode cX2_add 40 = .ok (.getfield 17, 3) := dc_at (f := decode cX2_add) dAX2_add_q0 22 rfl
theorem dX2_add_43 : decode cX2_add 43 = .ok (.iconst 1, 1) := dc_at (f := decode cX2_add) dAX2_add_q0 23 rfl
theorem dX2_add_44 : decode cX2_add 44 = .ok (.isub, 1) := dc_at (f := decode cX2_add) dAX2_add_q0 24 rfl
theorem dX2_add_45 : decode cX2_add 45 = .ok (.ireturn, 1) := dc_at (f := decode cX2_add) dAX2_add_q0 25 rfl
def dPX2_at_q0 : List (Nat × (Jvm.ClassFile.Instr × Nat)) := [(0, (.iload_n 1, 1)), (1, (.ifCond .lt 26, 3)), (4, (.iload_n 1, 1)), (5, (.aload_n 0, 1)), (6, (.getfield 17, 3)), (9, (.if_icmp .ge 18, 3)), (12, (.iload_n 1, 1)), (13, (.bipush 60, 2)), (15, (.if_icmp .ge 12, 3)), (18, (.aload_n 0, 1)), (19, (.getfield 11, 3)), (22, (.iload_n 1, 1)), (23, (.aaload, 1)), (24, (.goto 4, 3)), (27, (.aconst_null, 1)), (28, (.areturn, 1))]
theorem dAX2_at_q0 : ∀ x ∈ dPX2_at_q0, decode cX2_at x.1 = .ok x.2 := by decide +kernel
theorem dX2_at_0 : decode cX2_at 0 = .ok (.iload_n 1, 1) := dc_at (f := decode cX2_at) dAX2_at_q0 0 rfl
theorem dX2_at_1 : decode cX2_at 1 = .ok (.ifCond .lt 26, 3) := dc_at (f := decode cX2_at) dAX2_at_q0 1 rfl
theorem dX2_at_4 : decode cX2_at 4 = .ok (.iload_n 1, 1) := dc_at (f := decode cX2_at) dAX2_at_q0 2 rfl
theorem dX2_at_5 : decode cX2_at 5 = .ok (.aload_n 0, 1) := dc_at (f := decode cX2_at) dAX2_at_q0 3 rfl
theorem dX2_at_6 : decode cX2_at 6 = .ok (.getfield 17, 3) := dc_at (f := decode cX2_at) dAX2_at_q0 4 rfl
theorem dX2_at_9 : decode cX2_at 9 = .ok (.if_icmp .ge 18, 3) := dc_at (f := decode cX2_at) dAX2_at_q0 5 rfl
theorem dX2_at_12 : decode cX2_at 12 = .ok (.iload_n 1, 1) := dc_at (f := decode cX2_at) dAX2_at_q0 6 rfl
theorem dX2_at_13 : decode cX2_at 13 = .ok (.bipush 60, 2) := dc_at (f := decode cX2_at) dAX2_at_q0 7 rfl
theorem dX2_at_15 : decode cX2_at 15 = .ok (.if_icmp .ge 12, 3) := dc_at (f := decode cX2_at) dAX2_at_q0 8 rfl
theorem dX2_at_18 : decode cX2_at 18 = .ok (.aload_n 0, 1) := dc_at (f := decode cX2_at) dAX2_at_q0 9 rfl
theorem dX2_at_19 : decode cX2_at 19 = .ok (.getfield 11, 3) := dc_at (f := decode cX2_at) dAX2_at_q0 10 rfl
theorem dX2_at_22 : decode cX2_at 22 = .ok (.iload_n 1, 1) := dc_at (f := decode cX2_at) dAX2_at_q0 11 rfl
theorem dX2_at_23 : decode cX2_at 23 = .ok (.aaload, 1) := dc_at (f := decode cX2_at) dAX2_at_q0 12 rfl
theorem dX2_at_24 : decode cX2_at 24 = .ok (.goto 4, 3) := dc_at (f := decode cX2_at) dAX2_at_q0 13 rfl
theorem dX2_at_27 : decode cX2_at 27 = .ok (.aconst_null, 1) := dc_at (f := decode cX2_at) dAX2_at_q0 14 rfl
theorem dX2_at_28 : decode cX2_at 28 = .ok (.areturn, 1) := dc_at (f := decode cX2_at) dAX2_at_q0 15 rfl
def dPX2_lapsedNow_q0 : List (Nat × (Jvm.ClassFile.Instr × Nat)) := [(0, (.iconst 0, 1)), (1, (.istore_n 1, 1)), (2, (.iconst 0, 1)), (3, (.istore_n 2, 1)), (4, (.iload_n 2, 1)), (5, (.aload_n 0, 1)), (6, (.getfield 17, 3)), (9, (.if_icmp .ge 29, 3)), (12, (.aload_n 0, 1)), (13, (.iload_n 2, 1)), (14, (.invokevirtual 21, 3)), (17, (.astore_n 3, 1)), (18, (.aload_n 3, 1)), (19, (.ifnull 13, 3)), (22, (.aload_n 3, 1)), (23, (.invokevirtual 25, 3)), (26, (.ifCond .eq 6, 3)), (29, (.iinc 1 1, 3)), (32, (.iinc 2 1, 3)), (35, (.goto (-31), 3)), (38, (.iload_n 1, 1)), (39, (.ireturn, 1))]
theorem dAX2_lapsedNow_q0 : ∀ x ∈ dPX2_lapsedNow_q0, decode cX2_lapsedNow x.1 = .ok x.2 := by decide +kernel
theorem dX2_lapsedNow_0 : decode cX2_lapsedNow 0 = .ok (.iconst 0, 1) := dc_at (f := decode cX2_lapsedNow) dAX2_lapsedNow_q0 0 rfl
theorem dX2_lapsedNow_1 : decode cX2_lapsedNow 1 = .ok (.istore_n 1, 1) := dc_at (f := decode cX2_lapsedNow) dAX2_lapsedNow_q0 1 rfl
theorem dX2_lapsedNow_2 : decode cX2_lapsedNow 2 = .ok (.iconst 0, 1) := dc_at (f := decode cX2_lapsedNow) dAX2_lapsedNow_q0 2 rfl
theorem dX2_lapsedNow_3 : decode cX2_lapsedNow 3 = .ok (.istore_n 2, 1) := dc_at (f := decode cX2_lapsedNow) dAX2_lapsedNow_q0 3 rfl
theorem dX2_lapsedNow_4 : decode cX2_lapsedNow 4 = .ok (.iload_n 2, 1) := dc_at (f := decode cX2_lapsedNow) dAX2_lapsedNow_q0 4 rfl
theorem dX2_lapsedNow_5 : decode cX2_lapsedNow 5 = .ok (.aload_n 0, 1) := dc_at (f := decode cX2_lapsedNow) dAX2_lapsedNow_q0 5 rfl
theorem dX2_lapsedNow_6 : decode cX2_lapsedNow 6 = .ok (.getfield 17, 3) := dc_at (f := decode cX2_lapsedNow) dAX2_lapsedNow_q0 6 rfl
theorem dX2_lapsedNow_9 : decode cX2_lapsedNow 9 = .ok (.if_icmp .ge 29, 3) := dc_at (f := decode cX2_lapsedNow) dAX2_lapsedNow_q0 7 rfl
theorem dX2_lapsedNow_12 : decode cX2_lapsedNow 12 = .ok (.aload_n 0, 1) := dc_at (f := decode cX2_lapsedNow) dAX2_lapsedNow_q0 8 rfl
theorem dX2_lapsedNow_13 : decode cX2_lapsedNow 13 = .ok (.iload_n 2, 1) := dc_at (f := decode cX2_lapsedNow) dAX2_lapsedNow_q0 9 rfl
theorem dX2_lapsedNow_14 : decode cX2_lapsedNow 14 = .ok (.invokevirtual 21, 3) := dc_at (f := decode cX2_lapsedNow) dAX2_lapsedNow_q0 10 rfl
theorem dX2_lapsedNow_17 : decode cX2_lapsedNow 17 = .ok (.astore_n 3, 1) := dc_at (f := decode cX2_lapsedNow) dAX2_lapsedNow_q0 11 rfl
theorem dX2_lapsedNow_18 : decode cX2_lapsedNow 18 = .ok (.aload_n 3, 1) := dc_at (f := decode cX2_lapsedNow) dAX2_lapsedNow_q0 12 rfl
theorem dX2_lapsedNow_19 : decode cX2_lapsedNow 19 = .ok (.ifnull 13, 3) := dc_at (f := decode cX2_lapsedNow) dAX2_lapsedNow_q0 13 rfl
theorem dX2_lapsedNow_22 : decode cX2_lapsedNow 22 = .ok (.aload_n 3, 1) := dc_at (f := decode cX2_lapsedNow) dAX2_lapsedNow_q0 14 rfl
theorem dX2_lapsedNow_23 : decode cX2_lapsedNow 23 = .ok (.invokevirtual 25, 3) := dc_at (f := decode cX2_lapsedNow) dAX2_lapsedNow_q0 15 rfl
theorem dX2_lapsedNow_26 : decode cX2_lapsedNow 26 = .ok (.ifCond .eq 6, 3) := dc_at (f := decode cX2_lapsedNow) dAX2_lapsedNow_q0 16 rfl
theorem dX2_lapsedNow_29 : decode cX2_lapsedNow 29 = .ok (.iinc 1 1, 3) := dc_at (f := decode cX2_lapsedNow) dAX2_lapsedNow_q0 17 rfl
theorem dX2_lapsedNow_32 : decode cX2_lapsedNow 32 = .ok (.iinc 2 1, 3) := dc_at (f := decode cX2_lapsedNow) dAX2_lapsedNow_q0 18 rfl
theorem dX2_lapsedNow_35 : decode cX2_lapsedNow 35 = .ok (.goto (-31), 3) := dc_at (f := decode cX2_lapsedNow) dAX2_lapsedNow_q0 19 rfl
theorem dX2_lapsedNow_38 : decode cX2_lapsedNow 38 = .ok (.iload_n 1, 1) := dc_at (f := decode cX2_lapsedNow) dAX2_lapsedNow_q0 20 rfl
theorem dX2_lapsedNow_39 : decode cX2_lapsedNow 39 = .ok (.ireturn, 1) := dc_at (f := decode cX2_lapsedNow) dAX2_lapsedNow_q0 21 rfl
def dPX2_lapseAll_q0 : List (Nat × (Jvm.ClassFile.Instr × Nat)) := [(0, (.iconst 0, 1)), (1, (.istore_n 3, 1)), (2, (.iload_n 3, 1)), (3, (.aload_n 0, 1)), (4, (.getfield 17, 3)), (7, (.if_icmp .ge 37, 3)), (10, (.aload_n 0, 1)), (11, (.iload_n 3, 1)), (12, (.invokevirtual 21, 3)), (15, (.astore 4, 2)), (17, (.aload 4, 2)), (19, (.ifnull 19, 3)), (22, (.aload 4, 2)), (24, (.iload_n 1, 1)), (25, (.invokevirtual 29, 3)), (28, (.iload_n 2, 1)), (29, (.if_icmp .lt 9, 3)), (32, (.aload 4, 2)), (34, (.iload_n 1, 1)), (35, (.invokevirtual 33, 3)), (38, (.iinc 3 1, 3)), (41, (.goto (-39), 3)), (44, (.return_, 1))]
theorem dAX2_lapseAll_q0 : ∀ x ∈ dPX2_lapseAll_q0, decode cX2_lapseAll x.1 = .ok x.2 := by decide +kernel
theorem dX2_lapseAll_0 : decode cX2_lapseAll 0 = .ok (.iconst 0, 1) := dc_at (f := decode cX2_lapseAll) dAX2_lapseAll_q0 0 rfl
theorem dX2_lapseAll_1 : decode cX2_lapseAll 1 = .ok (.istore_n 3, 1) := dc_at (f := decode cX2_lapseAll) dAX2_lapseAll_q0 1 rfl
theorem dX2_lapseAll_2 : decode cX2_lapseAll 2 = .ok (.iload_n 3, 1) := dc_at (f := decode cX2_lapseAll) dAX2_lapseAll_q0 2 rfl
theorem dX2_lapseAll_3 : decode cX2_lapseAll 3 = .ok (.aload_n 0, 1) := dc_at (f := decode cX2_lapseAll) dAX2_lapseAll_q0 3 rfl
theorem dX2_lapseAll_4 : decode cX2_lapseAll 4 = .ok (.getfield 17, 3) := dc_at (f := decode cX2_lapseAll) dAX2_lapseAll_q0 4 rfl
theorem dX2_lapseAll_7 : decode cX2_lapseAll 7 = .ok (.if_icmp .ge 37, 3) := dc_at (f := decode cX2_lapseAll) dAX2_lapseAll_q0 5 rfl
theorem dX2_lapseAll_10 : decode cX2_lapseAll 10 = .ok (.aload_n 0, 1) := dc_at (f := decode cX2_lapseAll) dAX2_lapseAll_q0 6 rfl
theorem dX2_lapseAll_11 : decode cX2_lapseAll 11 = .ok (.iload_n 3, 1) := dc_at (f := decode cX2_lapseAll) dAX2_lapseAll_q0 7 rfl
theorem dX2_lapseAll_12 : decode cX2_lapseAll 12 = .ok (.invokevirtual 21, 3) := dc_at (f := decode cX2_lapseAll) dAX2_lapseAll_q0 8 rfl
theorem dX2_lapseAll_15 : decode cX2_lapseAll 15 = .ok (.astore 4, 2) := dc_at (f := decode cX2_lapseAll) dAX2_lapseAll_q0 9 rfl
theorem dX2_lapseAll_17 : decode cX2_lapseAll 17 = .ok (.aload 4, 2) := dc_at (f := decode cX2_lapseAll) dAX2_lapseAll_q0 10 rfl
theorem dX2_lapseAll_19 : decode cX2_lapseAll 19 = .ok (.ifnull 19, 3) := dc_at (f := decode cX2_lapseAll) dAX2_lapseAll_q0 11 rfl
theorem dX2_lapseAll_22 : decode cX2_lapseAll 22 = .ok (.aload 4, 2) := dc_at (f := decode cX2_lapseAll) dAX2_lapseAll_q0 12 rfl
theorem dX2_lapseAll_24 : decode cX2_lapseAll 24 = .ok (.iload_n 1, 1) := dc_at (f := decode cX2_lapseAll) dAX2_lapseAll_q0 13 rfl
theorem dX2_lapseAll_25 : decode cX2_lapseAll 25 = .ok (.invokevirtual 29, 3) := dc_at (f := decode cX2_lapseAll) dAX2_lapseAll_q0 14 rfl
theorem dX2_lapseAll_28 : decode cX2_lapseAll 28 = .ok (.iload_n 2, 1) := dc_at (f := decode cX2_lapseAll) dAX2_lapseAll_q0 15 rfl
theorem dX2_lapseAll_29 : decode cX2_lapseAll 29 = .ok (.if_icmp .lt 9, 3) := dc_at (f := decode cX2_lapseAll) dAX2_lapseAll_q0 16 rfl
theorem dX2_lapseAll_32 : decode cX2_lapseAll 32 = .ok (.aload 4, 2) := dc_at (f := decode cX2_lapseAll) dAX2_lapseAll_q0 17 rfl
theorem dX2_lapseAll_34 : decode cX2_lapseAll 34 = .ok (.iload_n 1, 1) := dc_at (f := decode cX2_lapseAll) dAX2_lapseAll_q0 18 rfl
theorem dX2_lapseAll_35 : decode cX2_lapseAll 35 = .ok (.invokevirtual 33, 3) := dc_at (f := decode cX2_lapseAll) dAX2_lapseAll_q0 19 rfl
theorem dX2_lapseAll_38 : decode cX2_lapseAll 38 = .ok (.iinc 3 1, 3) := dc_at (f := decode cX2_lapseAll) dAX2_lapseAll_q0 20 rfl
theorem dX2_lapseAll_41 : decode cX2_lapseAll 41 = .ok (.goto (-39), 3) := dc_at (f := decode cX2_lapseAll) dAX2_lapseAll_q0 21 rfl
theorem dX2_lapseAll_44 : decode cX2_lapseAll 44 = .ok (.return_, 1) := dc_at (f := decode cX2_lapseAll) dAX2_lapseAll_q0 22 rfl
def dPX2_sureWithin_q0 : List (Nat × (Jvm.ClassFile.Instr × Nat)) := [(0, (.lconst 0, 1)), (1, (.lstore_n 3, 1)), (2, (.lconst 0, 1)), (3, (.lstore 5, 2)), (5, (.lconst 0, 1)), (6, (.lstore 7, 2)), (8, (.iconst 0, 1)), (9, (.istore 9, 2)), (11, (.iload 9, 2)), (13, (.aload_n 0, 1)), (14, (.getfield 17, 3)), (17, (.if_icmp .ge 61, 3)), (20, (.aload_n 0, 1)), (21, (.iload 9, 2)), (23, (.invokevirtual 21, 3)), (26, (.astore 10, 2)), (28, (.aload 10, 2)), (30, (.ifnull 42, 3)), (33, (.lload_n 3, 1)), (34, (.aload 10, 2)), (36, (.iload_n 2, 1)), (37, (.iconst 1, 1)), (38, (.iadd, 1)), (39, (.iload_n 2, 1)), (40, (.iload_n 1, 1)), (41, (.iadd, 1)), (42, (.invokevirtual 37, 3)), (45, (.i2l, 1)), (46, (.ladd, 1)), (47, (.lstore_n 3, 1)), (48, (.lload 5, 2)), (50, (.aload 10, 2)), (52, (.iload_n 2, 1)), (53, (.invokevirtual 41, 3)), (56, (.i2l, 1)), (57, (.ladd, 1)), (58, (.lstore 5, 2)), (60, (.lload 7, 2)), (62, (.aload 10, 2)), (64, (.iload_n 2, 1)), (65, (.invokevirtual 44, 3)), (68, (.i2l, 1)), (69, (.ladd, 1)), (70, (.lstore 7, 2)), (72, (.iinc 9 1, 3)), (75, (.goto (-64), 3)), (78, (.lload 5, 2)), (80, (.lconst 0, 1))]
theorem dAX2_sureWithin_q0 : ∀ x ∈ dPX2_sureWithin_q0, decode cX2_sureWithin x.1 = .ok x.2 := by decide +kernel
theorem dX2_sureWithin_0 : decode cX2_sureWithin 0 = .ok (.lconst 0, 1) := dc_at (f := decode cX2_sureWithin) dAX2_sureWithin_q0 0 rfl
theorem dX2_sureWithin_1 : decode cX2_sureWithin 1 = .ok (.lstore_n 3, 1) := dc_at (f := decode cX2_sureWithin) dAX2_sureWithin_q0 1 rfl
theorem dX2_sureWithin_2 : decode cX2_sureWithin 2 = .ok (.lconst 0, 1) := dc_at (f := decode cX2_sureWithin) dAX2_sureWithin_q0 2 rfl
theorem dX2_sureWithin_3 : decode cX2_sureWithin 3 = .ok (.lstore 5, 2) := dc_at (f := decode cX2_sureWithin) dAX2_sureWithin_q0 3 rfl
theorem dX2_sureWithin_5 : decode cX2_sureWithin 5 = .ok (.lconst 0, 1) := dc_at (f := decode cX2_sureWithin) dAX2_sureWithin_q0 4 rfl
theorem dX2_sureWithin_6 : decode cX2_sureWithin 6 = .ok (.lstore 7, 2) := dc_at (f := decode cX2_sureWithin) dAX2_sureWithin_q0 5 rfl
theorem dX2_sureWithin_8 : decode cX2_sureWithin 8 = .ok (.iconst 0, 1) := dc_at (f := decode cX2_sureWithin) dAX2_sureWithin_q0 6 rfl
theorem dX2_sureWithin_9 : decode cX2_sureWithin 9 = .ok (.istore 9, 2) := dc_at (f := decode cX2_sureWithin) dAX2_sureWithin_q0 7 rfl
theorem dX2_sureWithin_11 : decode cX2_sureWithin 11 = .ok (.iload 9, 2) := dc_at (f := decode cX2_sureWithin) dAX2_sureWithin_q0 8 rfl
theorem dX2_sureWithin_13 : decode cX2_sureWithin 13 = .ok (.aload_n 0, 1) := dc_at (f := decode cX2_sureWithin) dAX2_sureWithin_q0 9 rfl
theorem dX2_sureWithin_14 : decode cX2_sureWithin 14 = .ok (.getfield 17, 3) := dc_at (f := decode cX2_sureWithin) dAX2_sureWithin_q0 10 rfl
theorem dX2_sureWithin_17 : decode cX2_sureWithin 17 = .ok (.if_icmp .ge 61, 3) := dc_at (f := decode cX2_sureWithin) dAX2_sureWithin_q0 11 rfl
theorem dX2_sureWithin_20 : decode cX2_sureWithin 20 = .ok (.aload_n 0, 1) := dc_at (f := decode cX2_sureWithin) dAX2_sureWithin_q0 12 rfl
theorem dX2_sureWithin_21 : decode cX2_sureWithin 21 = .ok (.iload 9, 2) := dc_at (f := decode cX2_sureWithin) dAX2_sureWithin_q0 13 rfl
theorem dX2_sureWithin_23 : decode cX2_sureWithin 23 = .ok (.invokevirtual 21, 3) := dc_at (f := decode cX2_sureWithin) dAX2_sureWithin_q0 14 rfl
theorem dX2_sureWithin_26 : decode cX2_sureWithin 26 = .ok (.astore 10, 2) := dc_at (f := decode cX2_sureWithin) dAX2_sureWithin_q0 15 rfl
theorem dX2_sureWithin_28 : decode cX2_sureWithin 28 = .ok (.aload 10, 2) := dc_at (f := decode cX2_sureWithin) dAX2_sureWithin_q0 16 rfl
theorem dX2_sureWithin_30 : decode cX2_sureWithin 30 = .ok (.ifnull 42, 3) := dc_at (f := decode cX2_sureWithin) dAX2_sureWithin_q0 17 rfl
theorem dX2_sureWithin_33 : decode cX2_sureWithin 33 = .ok (.lload_n 3, 1) := dc_at (f := decode cX2_sureWithin) dAX2_sureWithin_q0 18 rfl
theorem dX2_sureWithin_34 : decode cX2_sureWithin 34 = .ok (.aload 10, 2) := dc_at (f := decode cX2_sureWithin) dAX2_sureWithin_q0 19 rfl
theorem dX2_sureWithin_36 : decode cX2_sureWithin 36 = .ok (.iload_n 2, 1) := dc_at (f := decode cX2_sureWithin) dAX2_sureWithin_q0 20 rfl
theorem dX2_sureWithin_37 : decode cX2_sureWithin 37 = .ok (.iconst 1, 1) := dc_at (f := decode cX2_sureWithin) dAX2_sureWithin_q0 21 rfl
theorem dX2_sureWithin_38 : decode cX2_sureWithin 38 = .ok (.iadd, 1) := dc_at (f := decode cX2_sureWithin) dAX2_sureWithin_q0 22 rfl
theorem dX2_sureWithin_39 : decode cX2_sureWithin 39 = .ok (.iload_n 2, 1) := dc_at (f := decode cX2_sureWithin) dAX2_sureWithin_q0 23 rfl
theorem dX2_sureWithin_40 : decode cX2_sureWithin 40 = .ok (.iload_n 1, 1) := dc_at (f := decode cX2_sureWithin) dAX2_sureWithin_q0 24 rfl
theorem dX2_sureWithin_41 : decode cX2_sureWithin 41 = .ok (.iadd, 1) := dc_at (f := decode cX2_sureWithin) dAX2_sureWithin_q0 25 rfl
theorem dX2_sureWithin_42 : decode cX2_sureWithin 42 = .ok (.invokevirtual 37, 3) := dc_at (f := decode cX2_sureWithin) dAX2_sureWithin_q0 26 rfl
theorem dX2_sureWithin_45 : decode cX2_sureWithin 45 = .ok (.i2l, 1) := dc_at (f := decode cX2_sureWithin) dAX2_sureWithin_q0 27 rfl
theorem dX2_sureWithin_46 : decode cX2_sureWithin 46 = .ok (.ladd, 1) := dc_at (f := decode cX2_sureWithin) dAX2_sureWithin_q0 28 rfl
theorem dX2_sureWithin_47 : decode cX2_sureWithin 47 = .ok (.lstore_n 3, 1) := dc_at (f := decode cX2_sureWithin) dAX2_sureWithin_q0 29 rfl
theorem dX2_sureWithin_48 : decode cX2_sureWithin 48 = .ok (.lload 5, 2) := dc_at (f := decode cX2_sureWithin) dAX2_sureWithin_q0 30 rfl
theorem dX2_sureWithin_50 : decode cX2_sureWithin 50 = .ok (.aload 10, 2) := dc_at (f := decode cX2_sureWithin) dAX2_sureWithin_q0 31 rfl
theorem dX2_sureWithin_52 : decode cX2_sureWithin 52 = .ok (.iload_n 2, 1) := dc_at (f := decode cX2_sureWithin) dAX2_sureWithin_q0 32 rfl
theorem dX2_sureWithin_53 : decode cX2_sureWithin 53 = .ok (.invokevirtual 41, 3) := dc_at (f := decode cX2_sureWithin) dAX2_sureWithin_q0 33 rfl
theorem dX2_sureWithin_56 : decode cX2_sureWithin 56 = .ok (.i2l, 1) := dc_at (f := decode cX2_sureWithin) dAX2_sureWithin_q0 34 rfl
theorem dX2_sureWithin_57 : decode cX2_sureWithin 57 = .ok (.ladd, 1) := dc_at (f := decode cX2_sureWithin) dAX2_sureWithin_q0 35 rfl
theorem dX2_sureWithin_58 : decode cX2_sureWithin 58 = .ok (.lstore 5, 2) := dc_at (f := decode cX2_sureWithin) dAX2_sureWithin_q0 36 rfl
theorem dX2_sureWithin_60 : decode cX2_sureWithin 60 = .ok (.lload 7, 2) := dc_at (f := decode cX2_sureWithin) dAX2_sureWithin_q0 37 rfl
theorem dX2_sureWithin_62 : decode cX2_sureWithin 62 = .ok (.aload 10, 2) := dc_at (f := decode cX2_sureWithin) dAX2_sureWithin_q0 38 rfl
theorem dX2_sureWithin_64 : decode cX2_sureWithin 64 = .ok (.iload_n 2, 1) := dc_at (f := decode cX2_sureWithin) dAX2_sureWithin_q0 39 rfl
theorem dX2_sureWithin_65 : decode cX2_sureWithin 65 = .ok (.invokevirtual 44, 3) := dc_at (f := decode cX2_sureWithin) dAX2_sureWithin_q0 40 rfl
theorem dX2_sureWithin_68 : decode cX2_sureWithin 68 = .ok (.i2l, 1) := dc_at (f := decode cX2_sureWithin) dAX2_sureWithin_q0 41 rfl
theorem dX2_sureWithin_69 : decode cX2_sureWithin 69 = .ok (.ladd, 1) := dc_at (f := decode cX2_sureWithin) dAX2_sureWithin_q0 42 rfl
theorem dX2_sureWithin_70 : decode cX2_sureWithin 70 = .ok (.lstore 7, 2) := dc_at (f := decode cX2_sureWithin) dAX2_sureWithin_q0 43 rfl
theorem dX2_sureWithin_72 : decode cX2_sureWithin 72 = .ok (.iinc 9 1, 3) := dc_at (f := decode cX2_sureWithin) dAX2_sureWithin_q0 44 rfl
theorem dX2_sureWithin_75 : decode cX2_sureWithin 75 = .ok (.goto (-64), 3) := dc_at (f := decode cX2_sureWithin) dAX2_sureWithin_q0 45 rfl
theorem dX2_sureWithin_78 : decode cX2_sureWithin 78 = .ok (.lload 5, 2) := dc_at (f := decode cX2_sureWithin) dAX2_sureWithin_q0 46 rfl
theorem dX2_sureWithin_80 : decode cX2_sureWithin 80 = .ok (.lconst 0, 1) := dc_at (f := decode cX2_sureWithin) dAX2_sureWithin_q0 47 rfl
def dPX2_sureWithin_q1 : List (Nat × (Jvm.ClassFile.Instr × Nat)) := [(81, (.lcmp, 1)), (82, (.ifCond .le 14, 3)), (85, (.lload_n 3, 1)), (86, (.lload 7, 2)), (88, (.lmul, 1)), (89, (.lload 5, 2)), (91, (.ldiv, 1)), (92, (.l2i, 1)), (93, (.goto 4, 3)), (96, (.iconst 0, 1)), (97, (.ireturn, 1))]
theorem dAX2_sureWithin_q1 : ∀ x ∈ dPX2_sureWithin_q1, decode cX2_sureWithin x.1 = .ok x.2 := by decide +kernel
theorem dX2_sureWithin_81 : decode cX2_sureWithin 81 = .ok (.lcmp, 1) := dc_at (f := decode cX2_sureWithin) dAX2_sureWithin_q1 0 rfl
theorem dX2_sureWithin_82 : decode cX2_sureWithin 82 = .ok (.ifCond .le 14, 3) := dc_at (f := decode cX2_sureWithin) dAX2_sureWithin_q1 1 rfl
theorem dX2_sureWithin_85 : decode cX2_sureWithin 85 = .ok (.lload_n 3, 1) := dc_at (f := decode cX2_sureWithin) dAX2_sureWithin_q1 2 rfl
theorem dX2_sureWithin_86 : decode cX2_sureWithin 86 = .ok (.lload 7, 2) := dc_at (f := decode cX2_sureWithin) dAX2_sureWithin_q1 3 rfl
theorem dX2_sureWithin_88 : decode cX2_sureWithin 88 = .ok (.lmul, 1) := dc_at (f := decode cX2_sureWithin) dAX2_sureWithin_q1 4 rfl
theorem dX2_sureWithin_89 : decode cX2_sureWithin 89 = .ok (.lload 5, 2) := dc_at (f := decode cX2_sureWithin) dAX2_sureWithin_q1 5 rfl
theorem dX2_sureWithin_91 : decode cX2_sureWithin 91 = .ok (.ldiv, 1) := dc_at (f := decode cX2_sureWithin) dAX2_sureWithin_q1 6 rfl
theorem dX2_sureWithin_92 : decode cX2_sureWithin 92 = .ok (.l2i, 1) := dc_at (f := decode cX2_sureWithin) dAX2_sureWithin_q1 7 rfl
theorem dX2_sureWithin_93 : decode cX2_sureWithin 93 = .ok (.goto 4, 3) := dc_at (f := decode cX2_sureWithin) dAX2_sureWithin_q1 8 rfl
theorem dX2_sureWithin_96 : decode cX2_sureWithin 96 = .ok (.iconst 0, 1) := dc_at (f := decode cX2_sureWithin) dAX2_sureWithin_q1 9 rfl
theorem dX2_sureWithin_97 : decode cX2_sureWithin 97 = .ok (.ireturn, 1) := dc_at (f := decode cX2_sureWithin) dAX2_sureWithin_q1 10 rfl

