def dPX12_lay_q0 : List (Nat × (Jvm.ClassFile.Instr × Nat)) := [(0, (.bipush 24, 2)), (2, (.istore_n 2, 1)), (3, (.iload_n 2, 1)), (4, (.ifCond .lt 32, 3)), (7, (.aload_n 0, 1)), (8, (.getfield 20, 3)), (11, (.aload_n 0, 1)), (12, (.getfield 203, 3)), (15, (.iload_n 1, 1)), (16, (.iload_n 2, 1)), (17, (.ishr, 1)), (18, (.i2b, 1)), (19, (.bastore, 1)), (20, (.aload_n 0, 1)), (21, (.dup, 1)), (22, (.getfield 203, 3)), (25, (.iconst 1, 1)), (26, (.iadd, 1)), (27, (.putfield 203, 3)), (30, (.iinc 2 (-8), 3)), (33, (.goto (-30), 3)), (36, (.return_, 1))]
theorem dAX12_lay_q0 : ∀ x ∈ dPX12_lay_q0, decode cX12_lay x.1 = .ok x.2 := by decide +kernel
theorem dX12_lay_0 : decode cX12_lay 0 = .ok (.bipush 24, 2) := dc_at (f := decode cX12_lay) dAX12_lay_q0 0 rfl
theorem dX12_lay_2 : decode cX12_lay 2 = .ok (.istore_n 2, 1) := dc_at (f := decode cX12_lay) dAX12_lay_q0 1 rfl
theorem dX12_lay_3 : decode cX12_lay 3 = .ok (.iload_n 2, 1) := dc_at (f := decode cX12_lay) dAX12_lay_q0 2 rfl
theorem dX12_lay_4 : decode cX12_lay 4 = .ok (.ifCond .lt 32, 3) := dc_at (f := decode cX12_lay) dAX12_lay_q0 3 rfl
theorem dX12_lay_7 : decode cX12_lay 7 = .ok (.aload_n 0, 1) := dc_at (f := decode cX12_lay) dAX12_lay_q0 4 rfl
theorem dX12_lay_8 : decode cX12_lay 8 = .ok (.getfield 20, 3) := dc_at (f := decode cX12_lay) dAX12_lay_q0 5 rfl
theorem dX12_lay_11 : decode cX12_lay 11 = .ok (.aload_n 0, 1) := dc_at (f := decode cX12_lay) dAX12_lay_q0 6 rfl
theorem dX12_lay_12 : decode cX12_lay 12 = .ok (.getfield 203, 3) := dc_at (f := decode cX12_lay) dAX12_lay_q0 7 rfl
theorem dX12_lay_15 : decode cX12_lay 15 = .ok (.iload_n 1, 1) := dc_at (f := decode cX12_lay) dAX12_lay_q0 8 rfl
theorem dX12_lay_16 : decode cX12_lay 16 = .ok (.iload_n 2, 1) := dc_at (f := decode cX12_lay) dAX12_lay_q0 9 rfl
theorem dX12_lay_17 : decode cX12_lay 17 = .ok (.ishr, 1) := dc_at (f := decode cX12_lay) dAX12_lay_q0 10 rfl
theorem dX12_lay_18 : decode cX12_lay 18 = .ok (.i2b, 1) := dc_at (f := decode cX12_lay) dAX12_lay_q0 11 rfl
theorem dX12_lay_19 : decode cX12_lay 19 = .ok (.bastore, 1) := dc_at (f := decode cX12_lay) dAX12_lay_q0 12 rfl
theorem dX12_lay_20 : decode cX12_lay 20 = .ok (.aload_n 0, 1) := dc_at (f := decode cX12_lay) dAX12_lay_q0 13 rfl
theorem dX12_lay_21 : decode cX12_lay 21 = .ok (.dup, 1) := dc_at (f := decode cX12_lay) dAX12_lay_q0 14 rfl
theorem dX12_lay_22 : decode cX12_lay 22 = .ok (.getfield 203, 3) := dc_at (f := decode cX12_lay) dAX12_lay_q0 15 rfl
theorem dX12_lay_25 : decode cX12_lay 25 = .ok (.iconst 1, 1) := dc_at (f := decode cX12_lay) dAX12_lay_q0 16 rfl
theorem dX12_lay_26 : decode cX12_lay 26 = .ok (.iadd, 1) := dc_at (f := decode cX12_lay) dAX12_lay_q0 17 rfl
theorem dX12_lay_27 : decode cX12_lay 27 = .ok (.putfield 203, 3) := dc_at (f := decode cX12_lay) dAX12_lay_q0 18 rfl
theorem dX12_lay_30 : decode cX12_lay 30 = .ok (.iinc 2 (-8), 3) := dc_at (f := decode cX12_lay) dAX12_lay_q0 19 rfl
theorem dX12_lay_33 : decode cX12_lay 33 = .ok (.goto (-30), 3) := dc_at (f := decode cX12_lay) dAX12_lay_q0 20 rfl
theorem dX12_lay_36 : decode cX12_lay 36 = .ok (.return_, 1) := dc_at (f := decode cX12_lay) dAX12_lay_q0 21 rfl
def dPX12_end_q0 : List (Nat × (Jvm.ClassFile.Instr × Nat)) := [(0, (.iload_n 1, 1)), (1, (.i2l, 1)), (2, (.lconst 0, 1)), (3, (.aload_n 0, 1)), (4, (.getfield 203, 3)), (7, (.i2l, 1)), (8, (.invokestatic 58, 3)), (11, (.ifCond .ne 5, 3)), (14, (.iconst (-1), 1)), (15, (.ireturn, 1)), (16, (.aload_n 0, 1)), (17, (.iload_n 1, 1)), (18, (.putfield 203, 3)), (21, (.iload_n 1, 1)), (22, (.ireturn, 1))]
theorem dAX12_end_q0 : ∀ x ∈ dPX12_end_q0, decode cX12_end x.1 = .ok x.2 := by decide +kernel
theorem dX12_end_0 : decode cX12_end 0 = .ok (.iload_n 1, 1) := dc_at (f := decode cX12_end) dAX12_end_q0 0 rfl
theorem dX12_end_1 : decode cX12_end 1 = .ok (.i2l, 1) := dc_at (f := decode cX12_end) dAX12_end_q0 1 rfl
theorem dX12_end_2 : decode cX12_end 2 = .ok (.lconst 0, 1) := dc_at (f := decode cX12_end) dAX12_end_q0 2 rfl
theorem dX12_end_3 : decode cX12_end 3 = .ok (.aload_n 0, 1) := dc_at (f := decode cX12_end) dAX12_end_q0 3 rfl
theorem dX12_end_4 : decode cX12_end 4 = .ok (.getfield 203, 3) := dc_at (f := decode cX12_end) dAX12_end_q0 4 rfl
theorem dX12_end_7 : decode cX12_end 7 = .ok (.i2l, 1) := dc_at (f := decode cX12_end) dAX12_end_q0 5 rfl
theorem dX12_end_8 : decode cX12_end 8 = .ok (.invokestatic 58, 3) := dc_at (f := decode cX12_end) dAX12_end_q0 6 rfl
theorem dX12_end_11 : decode cX12_end 11 = .ok (.ifCond .ne 5, 3) := dc_at (f := decode cX12_end) dAX12_end_q0 7 rfl
theorem dX12_end_14 : decode cX12_end 14 = .ok (.iconst (-1), 1) := dc_at (f := decode cX12_end) dAX12_end_q0 8 rfl
theorem dX12_end_15 : decode cX12_end 15 = .ok (.ireturn, 1) := dc_at (f := decode cX12_end) dAX12_end_q0 9 rfl
theorem dX12_end_16 : decode cX12_end 16 = .ok (.aload_n 0, 1) := dc_at (f := decode cX12_end) dAX12_end_q0 10 rfl
theorem dX12_end_17 : decode cX12_end 17 = .ok (.iload_n 1, 1) := dc_at (f := decode cX12_end) dAX12_end_q0 11 rfl
theorem dX12_end_18 : decode cX12_end 18 = .ok (.putfield 203, 3) := dc_at (f := decode cX12_end) dAX12_end_q0 12 rfl
theorem dX12_end_21 : decode cX12_end 21 = .ok (.iload_n 1, 1) := dc_at (f := decode cX12_end) dAX12_end_q0 13 rfl
theorem dX12_end_22 : decode cX12_end 22 = .ok (.ireturn, 1) := dc_at (f := decode cX12_end) dAX12_end_q0 14 rfl
def dPX12_trust_q0 : List (Nat × (Jvm.ClassFile.Instr × Nat)) := [(0, (.aload_n 0, 1)), (1, (.aload_n 0, 1)), (2, (.getfield 203, 3)), (5, (.putfield 17, 3)), (8, (.aload_n 0, 1)), (9, (.iconst 0, 1)), (10, (.putfield 203, 3)), (13, (.aload_n 0, 1)), (14, (.iconst 0, 1)), (15, (.putfield 24, 3)), (18, (.aload_n 0, 1)), (19, (.iconst 0, 1)), (20, (.putfield 1, 3)), (23, (.aload_n 0, 1)), (24, (.iconst (-1), 1)), (25, (.putfield 10, 3)), (28, (.aload_n 0, 1)), (29, (.invokevirtual 62, 3)), (32, (.aload_n 0, 1)), (33, (.invokevirtual 209, 3)), (36, (.istore_n 1, 1)), (37, (.goto 6, 3)), (40, (.astore_n 2, 1)), (41, (.iconst (-1), 1)), (42, (.ireturn, 1)), (43, (.iconst 0, 1)), (44, (.istore_n 2, 1)), (45, (.iload_n 2, 1)), (46, (.bipush 9, 2)), (48, (.if_icmp .ge 21, 3)), (51, (.aload_n 0, 1)), (52, (.getfield 114, 3)), (55, (.iload_n 2, 1)), (56, (.aload_n 0, 1)), (57, (.getfield 82, 3)), (60, (.iload_n 2, 1)), (61, (.iaload, 1)), (62, (.iastore, 1)), (63, (.iinc 2 1, 3)), (66, (.goto (-21), 3)), (69, (.iload_n 1, 1)), (70, (.ireturn, 1))]
theorem dAX12_trust_q0 : ∀ x ∈ dPX12_trust_q0, decode cX12_trust x.1 = .ok x.2 := by decide +kernel
theorem dX12_trust_0 : decode cX12_trust 0 = .ok (.aload_n 0, 1) := dc_at (f := decode cX12_trust) dAX12_trust_q0 0 rfl
theorem dX12_trust_1 : decode cX12_trust 1 = .ok (.aload_n 0, 1) := dc_at (f := decode cX12_trust) dAX12_trust_q0 1 rfl
theorem dX12_trust_2 : decode cX12_trust 2 = .ok (.getfield 203, 3) := dc_at (f := decode cX12_trust) dAX12_trust_q0 2 rfl
theorem dX12_trust_5 : decode cX12_trust 5 = .ok (.putfield 17, 3) := dc_at (f := decode cX12_trust) dAX12_trust_q0 3 rfl
theorem dX12_trust_8 : decode cX12_trust 8 = .ok (.aload_n 0, 1) := dc_at (f := decode cX12_trust) dAX12_trust_q0 4 rfl
theorem dX12_trust_9 : decode cX12_trust 9 = .ok (.iconst 0, 1) := dc_at (f := decode cX12_trust) dAX12_trust_q0 5 rfl
theorem dX12_trust_10 : decode cX12_trust 10 = .ok (.putfield 203, 3) := dc_at (f := decode cX12_trust) dAX12_trust_q0 6 rfl
theorem dX12_trust_13 : decode cX12_trust 13 = .ok (.aload_n 0, 1) := dc_at (f := decode cX12_trust) dAX12_trust_q0 7 rfl
theorem dX12_trust_14 : decode cX12_trust 14 = .ok (.iconst 0, 1) := dc_at (f := decode cX12_trust) dAX12_trust_q0 8 rfl
theorem dX12_trust_15 : decode cX12_trust 15 = .ok (.putfield 24, 3) := dc_at (f := decode cX12_trust) dAX12_trust_q0 9 rfl
theorem dX12_trust_18 : decode cX12_trust 18 = .ok (.aload_n 0, 1) := dc_at (f := decode cX12_trust) dAX12_trust_q0 10 rfl
theorem dX12_trust_19 : decode cX12_trust 19 = .ok (.iconst 0, 1) := dc_at (f := decode cX12_trust) dAX12_trust_q0 11 rfl
theorem dX12_trust_20 : decode cX12_trust 20 = .ok (.putfield 1, 3) := dc_at (f := decode cX12_trust) dAX12_trust_q0 12 rfl
theorem dX12_trust_23 : decode cX12_trust 23 = .ok (.aload_n 0, 1) := dc_at (f := decode cX12_trust) dAX12_trust_q0 13 rfl
theorem dX12_trust_24 : decode cX12_trust 24 = .ok (.iconst (-1), 1) := dc_at (f := decode cX12_trust) dAX12_trust_q0 14 rfl
theorem dX12_trust_25 : decode cX12_trust 25 = .ok (.putfield 10, 3) := dc_at (f := decode cX12_trust) dAX12_trust_q0 15 rfl
theorem dX12_trust_28 : decode cX12_trust 28 = .ok (.aload_n 0, 1) := dc_at (f := decode cX12_trust) dAX12_trust_q0 16 rfl
theorem dX12_trust_29 : decode cX12_trust 29 = .ok (.invokevirtual 62, 3) := dc_at (f := decode cX12_trust) dAX12_trust_q0 17 rfl
theorem dX12_trust_32 : decode cX12_trust 32 = .ok (.aload_n 0, 1) := dc_at (f := decode cX12_trust) dAX12_trust_q0 18 rfl
theorem dX12_trust_33 : decode cX12_trust 33 = .ok (.invokevirtual 209, 3) := dc_at (f := decode cX12_trust) dAX12_trust_q0 19 rfl
theorem dX12_trust_36 : decode cX12_trust 36 = .ok (.istore_n 1, 1) := dc_at (f := decode cX12_trust) dAX12_trust_q0 20 rfl
theorem dX12_trust_37 : decode cX12_trust 37 = .ok (.goto 6, 3) := dc_at (f := decode cX12_trust) dAX12_trust_q0 21 rfl
theorem dX12_trust_40 : decode cX12_trust 40 = .ok (.astore_n 2, 1) := dc_at (f := decode cX12_trust) dAX12_trust_q0 22 rfl
theorem dX12_trust_41 : decode cX12_trust 41 = .ok (.iconst (-1), 1) := dc_at (f := decode cX12_trust) dAX12_trust_q0 23 rfl
theorem dX12_trust_42 : decode cX12_trust 42 = .ok (.ireturn, 1) := dc_at (f := decode cX12_trust) dAX12_trust_q0 24 rfl
theorem dX12_trust_43 : decode cX12_trust 43 = .ok (.iconst 0, 1) := dc_at (f := decode cX12_trust) dAX12_trust_q0 25 rfl
theorem dX12_trust_44 : decode cX12_trust 44 = .ok (.istore_n 2, 1) := dc_at (f := decode cX12_trust) dAX12_trust_q0 26 rfl
theorem dX12_trust_45 : decode cX12_trust 45 = .ok (.iload_n 2, 1) := dc_at (f := decode cX12_trust) dAX12_trust_q0 27 rfl
theorem dX12_trust_46 : decode cX12_trust 46 = .ok (.bipush 9, 2) := dc_at (f := decode cX12_trust) dAX12_trust_q0 28 rfl
theorem dX12_trust_48 : decode cX12_trust 48 = .ok (.if_icmp .ge 21, 3) := dc_at (f := decode cX12_trust) dAX12_trust_q0 29 rfl
theorem dX12_trust_51 : decode cX12_trust 51 = .ok (.aload_n 0, 1) := dc_at (f := decode cX12_trust) dAX12_trust_q0 30 rfl
theorem dX12_trust_52 : decode cX12_trust 52 = .ok (.getfield 114, 3) := dc_at (f := decode cX12_trust) dAX12_trust_q0 31 rfl
theorem dX12_trust_55 : decode cX12_trust 55 = .ok (.iload_n 2, 1) := dc_at (f := decode cX12_trust) dAX12_trust_q0 32 rfl
theorem dX12_trust_56 : decode cX12_trust 56 = .ok (.aload_n 0, 1) := dc_at (f := decode cX12_trust) dAX12_trust_q0 33 rfl
theorem dX12_trust_57 : decode cX12_trust 57 = .ok (.getfield 82, 3) := dc_at (f := decode cX12_trust) dAX12_trust_q0 34 rfl
theorem dX12_trust_60 : decode cX12_trust 60 = .ok (.iload_n 2, 1) := dc_at (f := decode cX12_trust) dAX12_trust_q0 35 rfl
theorem dX12_trust_61 : decode cX12_trust 61 = .ok (.iaload, 1) := dc_at (f := decode cX12_trust) dAX12_trust_q0 36 rfl
theorem dX12_trust_62 : decode cX12_trust 62 = .ok (.iastore, 1) := dc_at (f := decode cX12_trust) dAX12_trust_q0 37 rfl
theorem dX12_trust_63 : decode cX12_trust 63 = .ok (.iinc 2 1, 3) := dc_at (f := decode cX12_trust) dAX12_trust_q0 38 rfl
theorem dX12_trust_66 : decode cX12_trust 66 = .ok (.goto (-21), 3) := dc_at (f := decode cX12_trust) dAX12_trust_q0 39 rfl
theorem dX12_trust_69 : decode cX12_trust 69 = .ok (.iload_n 1, 1) := dc_at (f := decode cX12_trust) dAX12_trust_q0 40 rfl
theorem dX12_trust_70 : decode cX12_trust 70 = .ok (.ireturn, 1) := dc_at (f := decode cX12_trust) dAX12_trust_q0 41 rfl
def dPX12_fault_q0 : List (Nat × (Jvm.ClassFile.Instr × Nat)) := [(0, (.iload_n 1, 1)), (1, (.ifCond .ne 10, 3)), (4, (.aload_n 0, 1)), (5, (.getfield 1, 3)), (8, (.goto 16, 3)), (11, (.iload_n 1, 1)), (12, (.iconst 1, 1)), (13, (.if_icmp .ne 10, 3)), (16, (.aload_n 0, 1)), (17, (.getfield 10, 3)), (20, (.goto 4, 3)), (23, (.iconst (-1), 1)), (24, (.ireturn, 1))]
theorem dAX12_fault_q0 : ∀ x ∈ dPX12_fault_q0, decode cX12_fault x.1 = .ok x.2 := by decide +kernel
theorem dX12_fault_0 : decode cX12_fault 0 = .ok (.iload_n 1, 1) := dc_at (f := decode cX12_fault) dAX12_fault_q0 0 rfl
theorem dX12_fault_1 : decode cX12_fault 1 = .ok (.ifCond .ne 10, 3) := dc_at (f := decode cX12_fault) dAX12_fault_q0 1 rfl
theorem dX12_fault_4 : decode cX12_fault 4 = .ok (.aload_n 0, 1) := dc_at (f := decode cX12_fault) dAX12_fault_q0 2 rfl
theorem dX12_fault_5 : decode cX12_fault 5 = .ok (.getfield 1, 3) := dc_at (f := decode cX12_fault) dAX12_fault_q0 3 rfl
theorem dX12_fault_8 : decode cX12_fault 8 = .ok (.goto 16, 3) := dc_at (f := decode cX12_fault) dAX12_fault_q0 4 rfl
theorem dX12_fault_11 : decode cX12_fault 11 = .ok (.iload_n 1, 1) := dc_at (f := decode cX12_fault) dAX12_fault_q0 5 rfl
theorem dX12_fault_12 : decode cX12_fault 12 = .ok (.iconst 1, 1) := dc_at (f := decode cX12_fault) dAX12_fault_q0 6 rfl
theorem dX12_fault_13 : decode cX12_fault 13 = .ok (.if_icmp .ne 10, 3) := dc_at (f := decode cX12_fault) dAX12_fault_q0 7 rfl
theorem dX12_fault_16 : decode cX12_fault 16 = .ok (.aload_n 0, 1) := dc_at (f := decode cX12_fault) dAX12_fault_q0 8 rfl
theorem dX12_fault_17 : decode cX12_fault 17 = .ok (.getfield 10, 3) := dc_at (f := decode cX12_fault) dAX12_fault_q0 9 rfl
theorem dX12_fault_20 : decode cX12_fault 20 = .ok (.goto 4, 3) := dc_at (f := decode cX12_fault) dAX12_fault_q0 10 rfl
theorem dX12_fault_23 : decode cX12_fault 23 = .ok (.iconst (-1), 1) := dc_at (f := decode cX12_fault) dAX12_fault_q0 11 rfl
theorem dX12_fault_24 : decode cX12_fault 24 = .ok (.ireturn, 1) := dc_at (f := decode cX12_fault) dAX12_fault_q0 12 rfl
def dPX12_rule_q0 : List (Nat × (Jvm.ClassFile.Instr × Nat)) := [(0, (.iload_n 1, 1)), (1, (.i2l, 1)), (2, (.lconst 0, 1)), (3, (.ldc2_w 212, 3)), (6, (.invokestatic 58, 3)), (9, (.ifCond .eq 12, 3)), (12, (.aload_n 0, 1)), (13, (.getfield 114, 3)), (16, (.iload_n 1, 1)), (17, (.iaload, 1)), (18, (.goto 5, 3)), (21, (.bipush (-9), 2)), (23, (.ireturn, 1))]
theorem dAX12_rule_q0 : ∀ x ∈ dPX12_rule_q0, decode cX12_rule x.1 = .ok x.2 := by decide +kernel
theorem dX12_rule_0 : decode cX12_rule 0 = .ok (.iload_n 1, 1) := dc_at (f := decode cX12_rule) dAX12_rule_q0 0 rfl
theorem dX12_rule_1 : decode cX12_rule 1 = .ok (.i2l, 1) := dc_at (f := decode cX12_rule) dAX12_rule_q0 1 rfl
theorem dX12_rule_2 : decode cX12_rule 2 = .ok (.lconst 0, 1) := dc_at (f := decode cX12_rule) dAX12_rule_q0 2 rfl
theorem dX12_rule_3 : decode cX12_rule 3 = .ok (.ldc2_w 212, 3) := dc_at (f := decode cX12_rule) dAX12_rule_q0 3 rfl
theorem dX12_rule_6 : decode cX12_rule 6 = .ok (.invokestatic 58, 3) := dc_at (f := decode cX12_rule) dAX12_rule_q0 4 rfl
theorem dX12_rule_9 : decode cX12_rule 9 = .ok (.ifCond .eq 12, 3) := dc_at (f := decode cX12_rule) dAX12_rule_q0 5 rfl
theorem dX12_rule_12 : decode cX12_rule 12 = .ok (.aload_n 0, 1) := dc_at (f := decode cX12_rule) dAX12_rule_q0 6 rfl
theorem dX12_rule_13 : decode cX12_rule 13 = .ok (.getfield 114, 3) := dc_at (f := decode cX12_rule) dAX12_rule_q0 7 rfl
theorem dX12_rule_16 : decode cX12_rule 16 = .ok (.iload_n 1, 1) := dc_at (f := decode cX12_rule) dAX12_rule_q0 8 rfl
theorem dX12_rule_17 : decode cX12_rule 17 = .ok (.iaload, 1) := dc_at (f := decode cX12_rule) dAX12_rule_q0 9 rfl
theorem dX12_rule_18 : decode cX12_rule 18 = .ok (.goto 5, 3) := dc_at (f := decode cX12_rule) dAX12_rule_q0 10 rfl
theorem dX12_rule_21 : decode cX12_rule 21 = .ok (.bipush (-9), 2) := dc_at (f := decode cX12_rule) dAX12_rule_q0 11 rfl
theorem dX12_rule_23 : decode cX12_rule 23 = .ok (.ireturn, 1) := dc_at (f := decode cX12_rule) dAX12_rule_q0 12 rfl
def dPX12_isGiver_q0 : List (Nat × (Jvm.ClassFile.Instr × Nat)) := [(0, (.iload_n 0, 1)), (1, (.i2l, 1)), (2, (.lconst 0, 1)), (3, (.ldc2_w 214, 3)), (6, (.invokestatic 58, 3)), (9, (.ireturn, 1))]
theorem dAX12_isGiver_q0 : ∀ x ∈ dPX12_isGiver_q0, decode cX12_isGiver x.1 = .ok x.2 := by decide +kernel
theorem dX12_isGiver_0 : decode cX12_isGiver 0 = .ok (.iload_n 0, 1) := dc_at (f := decode cX12_isGiver) dAX12_isGiver_q0 0 rfl
theorem dX12_isGiver_1 : decode cX12_isGiver 1 = .ok (.i2l, 1) := dc_at (f := decode cX12_isGiver) dAX12_isGiver_q0 1 rfl
theorem dX12_isGiver_2 : decode cX12_isGiver 2 = .ok (.lconst 0, 1) := dc_at (f := decode cX12_isGiver) dAX12_isGiver_q0 2 rfl
theorem dX12_isGiver_3 : decode cX12_isGiver 3 = .ok (.ldc2_w 214, 3) := dc_at (f := decode cX12_isGiver) dAX12_isGiver_q0 3 rfl
theorem dX12_isGiver_6 : decode cX12_isGiver 6 = .ok (.invokestatic 58, 3) := dc_at (f := decode cX12_isGiver) dAX12_isGiver_q0 4 rfl
theorem dX12_isGiver_9 : decode cX12_isGiver 9 = .ok (.ireturn, 1) := dc_at (f := decode cX12_isGiver) dAX12_isGiver_q0 5 rfl
def dPX12_isMonth_q0 : List (Nat × (Jvm.ClassFile.Instr × Nat)) := [(0, (.iload_n 0, 1)), (1, (.i2l, 1)), (2, (.lconst 0, 1)), (3, (.ldc2_w 216, 3)), (6, (.invokestatic 58, 3)), (9, (.ireturn, 1))]
theorem dAX12_isMonth_q0 : ∀ x ∈ dPX12_isMonth_q0, decode cX12_isMonth x.1 = .ok x.2 := by decide +kernel
theorem dX12_isMonth_0 : decode cX12_isMonth 0 = .ok (.iload_n 0, 1) := dc_at (f := decode cX12_isMonth) dAX12_isMonth_q0 0 rfl
theorem dX12_isMonth_1 : decode cX12_isMonth 1 = .ok (.i2l, 1) := dc_at (f := decode cX12_isMonth) dAX12_isMonth_q0 1 rfl
theorem dX12_isMonth_2 : decode cX12_isMonth 2 = .ok (.lconst 0, 1) := dc_at (f := decode cX12_isMonth) dAX12_isMonth_q0 2 rfl
theorem dX12_isMonth_3 : decode cX12_isMonth 3 = .ok (.ldc2_w 216, 3) := dc_at (f := decode cX12_isMonth) dAX12_isMonth_q0 3 rfl
theorem dX12_isMonth_6 : decode cX12_isMonth 6 = .ok (.invokestatic 58, 3) := dc_at (f := decode cX12_isMonth) dAX12_isMonth_q0 4 rfl
theorem dX12_isMonth_9 : decode cX12_isMonth 9 = .ok (.ireturn, 1) := dc_at (f := decode cX12_isMonth) dAX12_isMonth_q0 5 rfl
def dPX12_declare_q0 : List (Nat × (Jvm.ClassFile.Instr × Nat)) := [(0, (.iload_n 1, 1)), (1, (.invokestatic 218, 3)), (4, (.ifCond .eq 23, 3)), (7, (.iload_n 2, 1)), (8, (.invokestatic 221, 3)), (11, (.ifCond .eq 16, 3)), (14, (.iload_n 3, 1)), (15, (.i2l, 1)), (16, (.iload_n 2, 1)), (17, (.i2l, 1)), (18, (.ldc2_w 216, 3)), (21, (.invokestatic 58, 3)), (24, (.ifCond .ne 6, 3)), (27, (.bipush (-2), 2)), (29, (.ireturn, 1)), (30, (.aload_n 0, 1)), (31, (.getfield 224, 3)), (34, (.ifCond .eq 6, 3)), (37, (.bipush (-4), 2)), (39, (.ireturn, 1)), (40, (.aload_n 0, 1)), (41, (.getfield 120, 3)), (44, (.iload_n 1, 1)), (45, (.iload_n 2, 1)), (46, (.iastore, 1)), (47, (.aload_n 0, 1)), (48, (.getfield 123, 3)), (51, (.iload_n 1, 1)), (52, (.iload_n 3, 1)), (53, (.iastore, 1)), (54, (.iconst 1, 1)), (55, (.ireturn, 1))]
theorem dAX12_declare_q0 : ∀ x ∈ dPX12_declare_q0, decode cX12_declare x.1 = .ok x.2 := by decide +kernel
theorem dX12_declare_0 : decode cX12_declare 0 = .ok (.iload_n 1, 1) := dc_at (f := decode cX12_declare) dAX12_declare_q0 0 rfl
theorem dX12_declare_1 : decode cX12_declare 1 = .ok (.invokestatic 218, 3) := dc_at (f := decode cX12_declare) dAX12_declare_q0 1 rfl
theorem dX12_declare_4 : decode cX12_declare 4 = .ok (.ifCond .eq 23, 3) := dc_at (f := decode cX12_declare) dAX12_declare_q0 2 rfl
theorem dX12_declare_7 : decode cX12_declare 7 = .ok (.iload_n 2, 1) := dc_at (f := decode cX12_declare) dAX12_declare_q0 3 rfl
theorem dX12_declare_8 : decode cX12_declare 8 = .ok (.invokestatic 221, 3) := dc_at (f := decode cX12_declare) dAX12_declare_q0 4 rfl
theorem dX12_declare_11 : decode cX12_declare 11 = .ok (.ifCond .eq 16, 3) := dc_at (f := decode cX12_declare) dAX12_declare_q0 5 rfl
theorem dX12_declare_14 : decode cX12_declare 14 = .ok (.iload_n 3, 1) := dc_at (f := decode cX12_declare) dAX12_declare_q0 6 rfl
theorem dX12_declare_15 : decode cX12_declare 15 = .ok (.i2l, 1) := dc_at (f := decode cX12_declare) dAX12_declare_q0 7 rfl
theorem dX12_declare_16 : decode cX12_declare 16 = .ok (.iload_n 2, 1) := dc_at (f := decode cX12_declare) dAX12_declare_q0 8 rfl
theorem dX12_declare_17 : decode cX12_declare 17 = .ok (.i2l, 1) := dc_at (f := decode cX12_declare) dAX12_declare_q0 9 rfl
theorem dX12_declare_18 : decode cX12_declare 18 = .ok (.ldc2_w 216, 3) := dc_at (f := decode cX12_declare) dAX12_declare_q0 10 rfl
theorem dX12_declare_21 : decode cX12_declare 21 = .ok (.invokestatic 58, 3) := dc_at (f := decode cX12_declare) dAX12_declare_q0 11 rfl
theorem dX12_declare_24 : decode cX12_declare 24 = .ok (.ifCond .ne 6, 3) := dc_at (f := decode cX12_declare) dAX12_declare_q0 12 rfl
theorem dX12_declare_27 : decode cX12_declare 27 = .ok (.bipush (-2), 2) := dc_at (f := decode cX12_declare) dAX12_declare_q0 13 rfl
theorem dX12_declare_29 : decode cX12_declare 29 = .ok (.ireturn, 1) := dc_at (f := decode cX12_declare) dAX12_declare_q0 14 rfl
theorem dX12_declare_30 : decode cX12_declare 30 = .ok (.aload_n 0, 1) := dc_at (f := decode cX12_declare) dAX12_declare_q0 15 rfl
theorem dX12_declare_31 : decode cX12_declare 31 = .ok (.getfield 224, 3) := dc_at (f := decode cX12_declare) dAX12_declare_q0 16 rfl
theorem dX12_declare_34 : decode cX12_declare 34 = .ok (.ifCond .eq 6, 3) := dc_at (f := decode cX12_declare) dAX12_declare_q0 17 rfl
theorem dX12_declare_37 : decode cX12_declare 37 = .ok (.bipush (-4), 2) := dc_at (f := decode cX12_declare) dAX12_declare_q0 18 rfl
theorem dX12_declare_39 : decode cX12_declare 39 = .ok (.ireturn, 1) := dc_at (f := decode cX12_declare) dAX12_declare_q0 19 rfl
theorem dX12_declare_40 : decode cX12_declare 40 = .ok (.aload_n 0, 1) := dc_at (f := decode cX12_declare) dAX12_declare_q0 20 rfl
theorem dX12_declare_41 : decode cX12_declare 41 = .ok (.getfield 120, 3) := dc_at (f := decode cX12_declare) dAX12_declare_q0 21 rfl
theorem dX12_declare_44 : decode cX12_declare 44 = .ok (.iload_n 1, 1) := dc_at (f := decode cX12_declare) dAX12_declare_q0 22 rfl
theorem dX12_declare_45 : decode cX12_declare 45 = .ok (.iload_n 2, 1) := dc_at (f := decode cX12_declare) dAX12_declare_q0 23 rfl
theorem dX12_declare_46 : decode cX12_declare 46 = .ok (.iastore, 1) := dc_at (f := decode cX12_declare) dAX12_declare_q0 24 rfl
theorem dX12_declare_47 : decode cX12_declare 47 = .ok (.aload_n 0, 1) := dc_at (f := decode cX12_declare) dAX12_declare_q0 25 rfl
theorem dX12_declare_48 : decode cX12_declare 48 = .ok (.getfield 123, 3) := dc_at (f := decode cX12_declare) dAX12_declare_q0 26 rfl
theorem dX12_declare_51 : decode cX12_declare 51 = .ok (.iload_n 1, 1) := dc_at (f := decode cX12_declare) dAX12_declare_q0 27 rfl
theorem dX12_declare_52 : decode cX12_declare 52 = .ok (.iload_n 3, 1) := dc_at (f := decode cX12_declare) dAX12_declare_q0 28 rfl
theorem dX12_declare_53 : decode cX12_declare 53 = .ok (.iastore, 1) := dc_at (f := decode cX12_declare) dAX12_declare_q0 29 rfl
theorem dX12_declare_54 : decode cX12_declare 54 = .ok (.iconst 1, 1) := dc_at (f := decode cX12_declare) dAX12_declare_q0 30 rfl
theorem dX12_declare_55 : decode cX12_declare 55 = .ok (.ireturn, 1) := dc_at (f := decode cX12_declare) dAX12_declare_q0 31 rfl
def dPX12_nameless_q0 : List (Nat × (Jvm.ClassFile.Instr × Nat)) := [(0, (.iload_n 1, 1)), (1, (.invokestatic 218, 3)), (4, (.ifCond .ne 6, 3)), (7, (.bipush (-2), 2)), (9, (.ireturn, 1)), (10, (.aload_n 0, 1)), (11, (.getfield 224, 3)), (14, (.ifCond .eq 6, 3)), (17, (.bipush (-4), 2)), (19, (.ireturn, 1)), (20, (.aload_n 0, 1)), (21, (.getfield 132, 3)), (24, (.iload_n 1, 1)), (25, (.baload, 1)), (26, (.istore_n 3, 1)), (27, (.aload_n 0, 1)), (28, (.getfield 132, 3)), (31, (.iload_n 1, 1)), (32, (.iload_n 2, 1)), (33, (.bastore, 1)), (34, (.iload_n 3, 1)), (35, (.iload_n 2, 1)), (36, (.if_icmp .ne 7, 3)), (39, (.iconst 0, 1)), (40, (.goto 4, 3)), (43, (.iconst 1, 1)), (44, (.ireturn, 1))]
theorem dAX12_nameless_q0 : ∀ x ∈ dPX12_nameless_q0, decode cX12_nameless x.1 = .ok x.2 := by decide +kernel
theorem dX12_nameless_0 : decode cX12_nameless 0 = .ok (.iload_n 1, 1) := dc_at (f := decode cX12_nameless) dAX12_nameless_q0 0 rfl
theorem dX12_nameless_1 : decode cX12_nameless 1 = .ok (.invokestatic 218, 3) := dc_at (f := decode cX12_nameless) dAX12_nameless_q0 1 rfl
theorem dX12_nameless_4 : decode cX12_nameless 4 = .ok (.ifCond .ne 6, 3) := dc_at (f := decode cX12_nameless) dAX12_nameless_q0 2 rfl
theorem dX12_nameless_7 : decode cX12_nameless 7 = .ok (.bipush (-2), 2) := dc_at (f := decode cX12_nameless) dAX12_nameless_q0 3 rfl
theorem dX12_nameless_9 : decode cX12_nameless 9 = .ok (.ireturn, 1) := dc_at (f := decode cX12_nameless) dAX12_nameless_q0 4 rfl
theorem dX12_nameless_10 : decode cX12_nameless 10 = .ok (.aload_n 0, 1) := dc_at (f := decode cX12_nameless) dAX12_nameless_q0 5 rfl
theorem dX12_nameless_11 : decode cX12_nameless 11 = .ok (.getfield 224, 3) := dc_at (f := decode cX12_nameless) dAX12_nameless_q0 6 rfl
theorem dX12_nameless_14 : decode cX12_nameless 14 = .ok (.ifCond .eq 6, 3) := dc_at (f := decode cX12_nameless) dAX12_nameless_q0 7 rfl
theorem dX12_nameless_17 : decode cX12_nameless 17 = .ok (.bipush (-4), 2) := dc_at (f := decode cX12_nameless) dAX12_nameless_q0 8 rfl
theorem dX12_nameless_19 : decode cX12_nameless 19 = .ok (.ireturn, 1) := dc_at (f := decode cX12_nameless) dAX12_nameless_q0 9 rfl
theorem dX12_nameless_20 : decode cX12_nameless 20 = .ok (.aload_n 0, 1) := dc_at (f := decode cX12_nameless) dAX12_nameless_q0 10 rfl
theorem dX12_nameless_21 : decode cX12_nameless 21 = .ok (.getfield 132, 3) := dc_at (f := decode cX12_nameless) dAX12_nameless_q0 11 rfl
theorem dX12_nameless_24 : decode cX12_nameless 24 = .ok (.iload_n 1, 1) := dc_at (f := decode cX12_nameless) dAX12_nameless_q0 12 rfl
theorem dX12_nameless_25 : decode cX12_nameless 25 = .ok (.baload, 1) := dc_at (f := decode cX12_nameless) dAX12_nameless_q0 13 rfl
theorem dX12_nameless_26 : decode cX12_nameless 26 = .ok (.istore_n 3, 1) := dc_at (f := decode cX12_nameless) dAX12_nameless_q0 14 rfl
theorem dX12_nameless_27 : decode cX12_nameless 27 = .ok (.aload_n 0, 1) := dc_at (f := decode cX12_nameless) dAX12_nameless_q0 15 rfl
theorem dX12_nameless_28 : decode cX12_nameless 28 = .ok (.getfield 132, 3) := dc_at (f := decode cX12_nameless) dAX12_nameless_q0 16 rfl
theorem dX12_nameless_31 : decode cX12_nameless 31 = .ok (.iload_n 1, 1) := dc_at (f := decode cX12_nameless) dAX12_nameless_q0 17 rfl
theorem dX12_nameless_32 : decode cX12_nameless 32 = .ok (.iload_n 2, 1) := dc_at (f := decode cX12_nameless) dAX12_nameless_q0 18 rfl
theorem dX12_nameless_33 : decode cX12_nameless 33 = .ok (.bastore, 1) := dc_at (f := decode cX12_nameless) dAX12_nameless_q0 19 rfl
theorem dX12_nameless_34 : decode cX12_nameless 34 = .ok (.iload_n 3, 1) := dc_at (f := decode cX12_nameless) dAX12_nameless_q0 20 rfl
theorem dX12_nameless_35 : decode cX12_nameless 35 = .ok (.iload_n 2, 1) := dc_at (f := decode cX12_nameless) dAX12_nameless_q0 21 rfl
theorem dX12_nameless_36 : decode cX12_nameless 36 = .ok (.if_icmp .ne 7, 3) := dc_at (f := decode cX12_nameless) dAX12_nameless_q0 22 rfl
theorem dX12_nameless_39 : decode cX12_nameless 39 = .ok (.iconst 0, 1) := dc_at (f := decode cX12_nameless) dAX12_nameless_q0 23 rfl
theorem dX12_nameless_40 : decode cX12_nameless 40 = .ok (.goto 4, 3) := dc_at (f := decode cX12_nameless) dAX12_nameless_q0 24 rfl
theorem dX12_nameless_43 : decode cX12_nameless 43 = .ok (.iconst 1, 1) := dc_at (f := decode cX12_nameless) dAX12_nameless_q0 25 rfl
theorem dX12_nameless_44 : decode cX12_nameless 44 = .ok (.ireturn, 1) := dc_at (f := decode cX12_nameless) dAX12_nameless_q0 26 rfl
def dPX12_monthOf_q0 : List (Nat × (Jvm.ClassFile.Instr × Nat)) := [(0, (.aload_n 0, 1)), (1, (.getfield 141, 3)), (4, (.iload_n 1, 1)), (5, (.iaload, 1)), (6, (.iload_n 2, 1)), (7, (.aload_n 0, 1)), (8, (.getfield 144, 3)), (11, (.iload_n 1, 1)), (12, (.iaload, 1)), (13, (.imul, 1)), (14, (.iadd, 1)), (15, (.ireturn, 1))]
theorem dAX12_monthOf_q0 : ∀ x ∈ dPX12_monthOf_q0, decode cX12_monthOf x.1 = .ok x.2 := by decide +kernel
theorem dX12_monthOf_0 : decode cX12_monthOf 0 = .ok (.aload_n 0, 1) := dc_at (f := decode cX12_monthOf) dAX12_monthOf_q0 0 rfl
theorem dX12_monthOf_1 : decode cX12_monthOf 1 = .ok (.getfield 141, 3) := dc_at (f := decode cX12_monthOf) dAX12_monthOf_q0 1 rfl
theorem dX12_monthOf_4 : decode cX12_monthOf 4 = .ok (.iload_n 1, 1) := dc_at (f := decode cX12_monthOf) dAX12_monthOf_q0 2 rfl
theorem dX12_monthOf_5 : decode cX12_monthOf 5 = .ok (.iaload, 1) := dc_at (f := decode cX12_monthOf) dAX12_monthOf_q0 3 rfl
theorem dX12_monthOf_6 : decode cX12_monthOf 6 = .ok (.iload_n 2, 1) := dc_at (f := decode cX12_monthOf) dAX12_monthOf_q0 4 rfl
theorem dX12_monthOf_7 : decode cX12_monthOf 7 = .ok (.aload_n 0, 1) := dc_at (f := decode cX12_monthOf) dAX12_monthOf_q0 5 rfl
theorem dX12_monthOf_8 : decode cX12_monthOf 8 = .ok (.getfield 144, 3) := dc_at (f := decode cX12_monthOf) dAX12_monthOf_q0 6 rfl
theorem dX12_monthOf_11 : decode cX12_monthOf 11 = .ok (.iload_n 1, 1) := dc_at (f := decode cX12_monthOf) dAX12_monthOf_q0 7 rfl
theorem dX12_monthOf_12 : decode cX12_monthOf 12 = .ok (.iaload, 1) := dc_at (f := decode cX12_monthOf) dAX12_monthOf_q0 8 rfl
theorem dX12_monthOf_13 : decode cX12_monthOf 13 = .ok (.imul, 1) := dc_at (f := decode cX12_monthOf) dAX12_monthOf_q0 9 rfl
theorem dX12_monthOf_14 : decode cX12_monthOf 14 = .ok (.iadd, 1) := dc_at (f := decode cX12_monthOf) dAX12_monthOf_q0 10 rfl
theorem dX12_monthOf_15 : decode cX12_monthOf 15 = .ok (.ireturn, 1) := dc_at (f := decode cX12_monthOf) dAX12_monthOf_q0 11 rfl
def dPX12_pledge_q0 : List (Nat × (Jvm.ClassFile.Instr × Nat)) := [(0, (.iload_n 1, 1)), (1, (.invokestatic 218, 3)), (4, (.ifCond .eq 57, 3)), (7, (.iload_n 2, 1)), (8, (.i2l, 1)), (9, (.lconst 1, 1)), (10, (.ldc2_w 228, 3)), (13, (.invokestatic 58, 3)), (16, (.ifCond .eq 45, 3)), (19, (.iload_n 3, 1)), (20, (.i2l, 1)), (21, (.aload_n 0, 1)), (22, (.getfield 230, 3)), (25, (.i2l, 1)), (26, (.ldc2_w 216, 3)), (29, (.invokestatic 58, 3)), (32, (.ifCond .eq 29, 3)), (35, (.iload 4, 2)), (37, (.i2l, 1)), (38, (.lconst 1, 1)), (39, (.ldc2_w 233, 3)), (42, (.invokestatic 58, 3)), (45, (.ifCond .eq 16, 3)), (48, (.iload 5, 2)), (50, (.i2l, 1)), (51, (.lconst 1, 1)), (52, (.ldc2_w 235, 3)), (55, (.invokestatic 58, 3)), (58, (.ifCond .ne 6, 3)), (61, (.bipush (-2), 2)), (63, (.ireturn, 1)), (64, (.aload_n 0, 1)), (65, (.getfield 224, 3)), (68, (.ifCond .eq 6, 3)), (71, (.bipush (-4), 2)), (73, (.ireturn, 1)), (74, (.aload_n 0, 1)), (75, (.getfield 237, 3)), (78, (.bipush 60, 2)), (80, (.if_icmp .ne 6, 3)), (83, (.bipush (-3), 2)), (85, (.ireturn, 1)), (86, (.aload_n 0, 1)), (87, (.getfield 237, 3)), (90, (.istore 6, 2)), (92, (.aload_n 0, 1)), (93, (.getfield 135, 3)), (96, (.iload 6, 2))]
theorem dAX12_pledge_q0 : ∀ x ∈ dPX12_pledge_q0, decode cX12_pledge x.1 = .ok x.2 := by decide +kernel
theorem dX12_pledge_0 : decode cX12_pledge 0 = .ok (.iload_n 1, 1) := dc_at (f := decode cX12_pledge) dAX12_pledge_q0 0 rfl
theorem dX12_pledge_1 : decode cX12_pledge 1 = .ok (.invokestatic 218, 3) := dc_at (f := decode cX12_pledge) dAX12_pledge_q0 1 rfl
theorem dX12_pledge_4 : decode cX12_pledge 4 = .ok (.ifCond .eq 57, 3) := dc_at (f := decode cX12_pledge) dAX12_pledge_q0 2 rfl
theorem dX12_pledge_7 : decode cX12_pledge 7 = .ok (.iload_n 2, 1) := dc_at (f := decode cX12_pledge) dAX12_pledge_q0 3 rfl
theorem dX12_pledge_8 : decode cX12_pledge 8 = .ok (.i2l, 1) := dc_at (f := decode cX12_pledge) dAX12_pledge_q0 4 rfl
theorem dX12_pledge_9 : decode cX12_pledge 9 = .ok (.lconst 1, 1) := dc_at (f := decode cX12_pledge) dAX12_pledge_q0 5 rfl
theorem dX12_pledge_10 : decode cX12_pledge 10 = .ok (.ldc2_w 228, 3) := dc_at (f := decode cX12_pledge) dAX12_pledge_q0 6 rfl
theorem dX12_pledge_13 : decode cX12_pledge 13 = .ok (.invokestatic 58, 3) := dc_at (f := decode cX12_pledge) dAX12_pledge_q0 7 rfl
theorem dX12_pledge_16 : decode cX12_pledge 16 = .ok (.ifCond .eq 45, 3) := dc_at (f := decode cX12_pledge) dAX12_pledge_q0 8 rfl
theorem dX12_pledge_19 : decode cX12_pledge 19 = .ok (.iload_n 3, 1) := dc_at (f := decode cX12_pledge) dAX12_pledge_q0 9 rfl
theorem dX12_pledge_20 : decode cX12_pledge 20 = .ok (.i2l, 1) := dc_at (f := decode cX12_pledge) dAX12_pledge_q0 10 rfl
theorem dX12_pledge_21 : decode cX12_pledge 21 = .ok (.aload_n 0, 1) := dc_at (f := decode cX12_pledge) dAX12_pledge_q0 11 rfl
theorem dX12_pledge_22 : decode cX12_pledge 22 = .ok (.getfield 230, 3) := dc_at (f := decode cX12_pledge) dAX12_pledge_q0 12 rfl
theorem dX12_pledge_25 : decode cX12_pledge 25 = .ok (.i2l, 1) := dc_at (f := decode cX12_pledge) dAX12_pledge_q0 13 rfl
theorem dX12_pledge_26 : decode cX12_pledge 26 = .ok (.ldc2_w 216, 3) := dc_at (f := decode cX12_pledge) dAX12_pledge_q0 14 rfl
theorem dX12_pledge_29 : decode cX12_pledge 29 = .ok (.invokestatic 58, 3) := dc_at (f := decode cX12_pledge) dAX12_pledge_q0 15 rfl
theorem dX12_pledge_32 : decode cX12_pledge 32 = .ok (.ifCond .eq 29, 3) := dc_at (f := decode cX12_pledge) dAX12_pledge_q0 16 rfl
theorem dX12_pledge_35 : decode cX12_pledge 35 = .ok (.iload 4, 2) := dc_at (f := decode cX12_pledge) dAX12_pledge_q0 17 rfl
theorem dX12_pledge_37 : decode cX12_pledge 37 = .ok (.i2l, 1) := dc_at (f := decode cX12_pledge) dAX12_pledge_q0 18 rfl
theorem dX12_pledge_38 : decode cX12_pledge 38 = .ok (.lconst 1, 1) := dc_at (f := decode cX12_pledge) dAX12_pledge_q0 19 rfl
theorem dX12_pledge_39 : decode cX12_pledge 39 = .ok (.ldc2_w 233, 3) := dc_at (f := decode cX12_pledge) dAX12_pledge_q0 20 rfl
theorem dX12_pledge_42 : decode cX12_pledge 42 = .ok (.invokestatic 58, 3) := dc_at (f := decode cX12_pledge) dAX12_pledge_q0 21 rfl
theorem dX12_pledge_45 : decode cX12_pledge 45 = .ok (.ifCond .eq 16, 3) := dc_at (f := decode cX12_pledge) dAX12_pledge_q0 22 rfl
theorem dX12_pledge_48 : decode cX12_pledge 48 = .ok (.iload 5, 2) := dc_at (f := decode cX12_pledge) dAX12_pledge_q0 23 rfl
theorem dX12_pledge_50 : decode cX12_pledge 50 = .ok (.i2l, 1) := dc_at (f := decode cX12_pledge) dAX12_pledge_q0 24 rfl
theorem dX12_pledge_51 : decode cX12_pledge 51 = .ok (.lconst 1, 1) := dc_at (f := decode cX12_pledge) dAX12_pledge_q0 25 rfl
theorem dX12_pledge_52 : decode cX12_pledge 52 = .ok (.ldc2_w 235, 3) := dc_at (f := decode cX12_pledge) dAX12_pledge_q0 26 rfl
theorem dX12_pledge_55 : decode cX12_pledge 55 = .ok (.invokestatic 58, 3) := dc_at (f := decode cX12_pledge) dAX12_pledge_q0 27 rfl
theorem dX12_pledge_58 : decode cX12_pledge 58 = .ok (.ifCond .ne 6, 3) := dc_at (f := decode cX12_pledge) dAX12_pledge_q0 28 rfl
theorem dX12_pledge_61 : decode cX12_pledge 61 = .ok (.bipush (-2), 2) := dc_at (f := decode cX12_pledge) dAX12_pledge_q0 29 rfl
theorem dX12_pledge_63 : decode cX12_pledge 63 = .ok (.ireturn, 1) := dc_at (f := decode cX12_pledge) dAX12_pledge_q0 30 rfl
theorem dX12_pledge_64 : decode cX12_pledge 64 = .ok (.aload_n 0, 1) := dc_at (f := decode cX12_pledge) dAX12_pledge_q0 31 rfl
theorem dX12_pledge_65 : decode cX12_pledge 65 = .ok (.getfield 224, 3) := dc_at (f := decode cX12_pledge) dAX12_pledge_q0 32 rfl
theorem dX12_pledge_68 : decode cX12_pledge 68 = .ok (.ifCond .eq 6, 3) := dc_at (f := decode cX12_pledge) dAX12_pledge_q0 33 rfl
theorem dX12_pledge_71 : decode cX12_pledge 71 = .ok (.bipush (-4), 2) := dc_at (f := decode cX12_pledge) dAX12_pledge_q0 34 rfl
theorem dX12_pledge_73 : decode cX12_pledge 73 = .ok (.ireturn, 1) := dc_at (f := decode cX12_pledge) dAX12_pledge_q0 35 rfl
theorem dX12_pledge_74 : decode cX12_pledge 74 = .ok (.aload_n 0, 1) := dc_at (f := decode cX12_pledge) dAX12_pledge_q0 36 rfl
theorem dX12_pledge_75 : decode cX12_pledge 75 = .ok (.getfield 237, 3) := dc_at (f := decode cX12_pledge) dAX12_pledge_q0 37 rfl
theorem dX12_pledge_78 : decode cX12_pledge 78 = .ok (.bipush 60, 2) := dc_at (f := decode cX12_pledge) dAX12_pledge_q0 38 rfl
theorem dX12_pledge_80 : decode cX12_pledge 80 = .ok (.if_icmp .ne 6, 3) := dc_at (f := decode cX12_pledge) dAX12_pledge_q0 39 rfl
theorem dX12_pledge_83 : decode cX12_pledge 83 = .ok (.bipush (-3), 2) := dc_at (f := decode cX12_pledge) dAX12_pledge_q0 40 rfl
theorem dX12_pledge_85 : decode cX12_pledge 85 = .ok (.ireturn, 1) := dc_at (f := decode cX12_pledge) dAX12_pledge_q0 41 rfl
theorem dX12_pledge_86 : decode cX12_pledge 86 = .ok (.aload_n 0, 1) := dc_at (f := decode cX12_pledge) dAX12_pledge_q0 42 rfl
theorem dX12_pledge_87 : decode cX12_pledge 87 = .ok (.getfield 237, 3) := dc_at (f := decode cX12_pledge) dAX12_pledge_q0 43 rfl
theorem dX12_pledge_90 : decode cX12_pledge 90 = .ok (.istore 6, 2) := dc_at (f := decode cX12_pledge) dAX12_pledge_q0 44 rfl
theorem dX12_pledge_92 : decode cX12_pledge 92 = .ok (.aload_n 0, 1) := dc_at (f := decode cX12_pledge) dAX12_pledge_q0 45 rfl
theorem dX12_pledge_93 : decode cX12_pledge 93 = .ok (.getfield 135, 3) := dc_at (f := decode cX12_pledge) dAX12_pledge_q0 46 rfl
theorem dX12_pledge_96 : decode cX12_pledge 96 = .ok (.iload 6, 2) := dc_at (f := decode cX12_pledge) dAX12_pledge_q0 47 rfl
def dPX12_pledge_q1 : List (Nat × (Jvm.ClassFile.Instr × Nat)) := [(98, (.iload_n 1, 1)), (99, (.iastore, 1)), (100, (.aload_n 0, 1)), (101, (.getfield 138, 3)), (104, (.iload 6, 2)), (106, (.iload_n 2, 1)), (107, (.iastore, 1)), (108, (.aload_n 0, 1)), (109, (.getfield 141, 3)), (112, (.iload 6, 2)), (114, (.iload_n 3, 1)), (115, (.iastore, 1)), (116, (.aload_n 0, 1)), (117, (.getfield 144, 3)), (120, (.iload 6, 2)), (122, (.iload 4, 2)), (124, (.iastore, 1)), (125, (.aload_n 0, 1)), (126, (.getfield 147, 3)), (129, (.iload 6, 2)), (131, (.iload 5, 2)), (133, (.iastore, 1)), (134, (.aload_n 0, 1)), (135, (.getfield 150, 3)), (138, (.iload 6, 2)), (140, (.iconst (-1), 1)), (141, (.iastore, 1)), (142, (.iconst 0, 1)), (143, (.istore 7, 2)), (145, (.iload 7, 2)), (147, (.iload 5, 2)), (149, (.if_icmp .ge 80, 3)), (152, (.aload_n 0, 1)), (153, (.getfield 159, 3)), (156, (.bipush 84, 2)), (158, (.iload 6, 2)), (160, (.imul, 1)), (161, (.iload 7, 2)), (163, (.iadd, 1)), (164, (.iload_n 2, 1)), (165, (.iastore, 1)), (166, (.aload_n 0, 1)), (167, (.getfield 165, 3)), (170, (.bipush 84, 2)), (172, (.iload 6, 2)), (174, (.imul, 1)), (175, (.iload 7, 2)), (177, (.iadd, 1))]
theorem dAX12_pledge_q1 : ∀ x ∈ dPX12_pledge_q1, decode cX12_pledge x.1 = .ok x.2 := by decide +kernel
theorem dX12_pledge_98 : decode cX12_pledge 98 = .ok (.iload_n 1, 1) := dc_at (f := decode cX12_pledge) dAX12_pledge_q1 0 rfl
theorem dX12_pledge_99 : decode cX12_pledge 99 = .ok (.iastore, 1) := dc_at (f := decode cX12_pledge) dAX12_pledge_q1 1 rfl
theorem dX12_pledge_100 : decode cX12_pledge 100 = .ok (.aload_n 0, 1) := dc_at (f := decode cX12_pledge) dAX12_pledge_q1 2 rfl
theorem dX12_pledge_101 : decode cX12_pledge 101 = .ok (.getfield 138, 3) := dc_at (f := decode cX12_pledge) dAX12_pledge_q1 3 rfl
theorem dX12_pledge_104 : decode cX12_pledge 104 = .ok (.iload 6, 2) := dc_at (f := decode cX12_pledge) dAX12_pledge_q1 4 rfl
theorem dX12_pledge_106 : decode cX12_pledge 106 = .ok (.iload_n 2, 1) := dc_at (f := decode cX12_pledge) dAX12_pledge_q1 5 rfl
theorem dX12_pledge_107 : decode cX12_pledge 107 = .ok (.iastore, 1) := dc_at (f := decode cX12_pledge) dAX12_pledge_q1 6 rfl
theorem dX12_pledge_108 : decode cX12_pledge 108 = .ok (.aload_n 0, 1) := dc_at (f := decode cX12_pledge) dAX12_pledge_q1 7 rfl
theorem dX12_pledge_109 : decode cX12_pledge 109 = .ok (.getfield 141, 3) := dc_at (f := decode cX12_pledge) dAX12_pledge_q1 8 rfl
theorem dX12_pledge_112 : decode cX12_pledge 112 = .ok (.iload 6, 2) := dc_at (f := decode cX12_pledge) dAX12_pledge_q1 9 rfl
theorem dX12_pledge_114 : decode cX12_pledge 114 = .ok (.iload_n 3, 1) := dc_at (f := decode cX12_pledge) dAX12_pledge_q1 10 rfl
theorem dX12_pledge_115 : decode cX12_pledge 115 = .ok (.iastore, 1) := dc_at (f := decode cX12_pledge) dAX12_pledge_q1 11 rfl
theorem dX12_pledge_116 : decode cX12_pledge 116 = .ok (.aload_n 0, 1) := dc_at (f := decode cX12_pledge) dAX12_pledge_q1 12 rfl
theorem dX12_pledge_117 : decode cX12_pledge 117 = .ok (.getfield 144, 3) := dc_at (f := decode cX12_pledge) dAX12_pledge_q1 13 rfl
theorem dX12_pledge_120 : decode cX12_pledge 120 = .ok (.iload 6, 2) := dc_at (f := decode cX12_pledge) dAX12_pledge_q1 14 rfl
theorem dX12_pledge_122 : decode cX12_pledge 122 = .ok (.iload 4, 2) := dc_at (f := decode cX12_pledge) dAX12_pledge_q1 15 rfl
theorem dX12_pledge_124 : decode cX12_pledge 124 = .ok (.iastore, 1) := dc_at (f := decode cX12_pledge) dAX12_pledge_q1 16 rfl
theorem dX12_pledge_125 : decode cX12_pledge 125 = .ok (.aload_n 0, 1) := dc_at (f := decode cX12_pledge) dAX12_pledge_q1 17 rfl
theorem dX12_pledge_126 : decode cX12_pledge 126 = .ok (.getfield 147, 3) := dc_at (f := decode cX12_pledge) dAX12_pledge_q1 18 rfl
theorem dX12_pledge_129 : decode cX12_pledge 129 = .ok (.iload 6, 2) := dc_at (f := decode cX12_pledge) dAX12_pledge_q1 19 rfl
theorem dX12_pledge_131 : decode cX12_pledge 131 = .ok (.iload 5, 2) := dc_at (f := decode cX12_pledge) dAX12_pledge_q1 20 rfl
theorem dX12_pledge_133 : decode cX12_pledge 133 = .ok (.iastore, 1) := dc_at (f := decode cX12_pledge) dAX12_pledge_q1 21 rfl
theorem dX12_pledge_134 : decode cX12_pledge 134 = .ok (.aload_n 0, 1) := dc_at (f := decode cX12_pledge) dAX12_pledge_q1 22 rfl
theorem dX12_pledge_135 : decode cX12_pledge 135 = .ok (.getfield 150, 3) := dc_at (f := decode cX12_pledge) dAX12_pledge_q1 23 rfl
theorem dX12_pledge_138 : decode cX12_pledge 138 = .ok (.iload 6, 2) := dc_at (f := decode cX12_pledge) dAX12_pledge_q1 24 rfl
theorem dX12_pledge_140 : decode cX12_pledge 140 = .ok (.iconst (-1), 1) := dc_at (f := decode cX12_pledge) dAX12_pledge_q1 25 rfl
theorem dX12_pledge_141 : decode cX12_pledge 141 = .ok (.iastore, 1) := dc_at (f := decode cX12_pledge) dAX12_pledge_q1 26 rfl
theorem dX12_pledge_142 : decode cX12_pledge 142 = .ok (.iconst 0, 1) := dc_at (f := decode cX12_pledge) dAX12_pledge_q1 27 rfl
theorem dX12_pledge_143 : decode cX12_pledge 143 = .ok (.istore 7, 2) := dc_at (f := decode cX12_pledge) dAX12_pledge_q1 28 rfl
theorem dX12_pledge_145 : decode cX12_pledge 145 = .ok (.iload 7, 2) := dc_at (f := decode cX12_pledge) dAX12_pledge_q1 29 rfl
theorem dX12_pledge_147 : decode cX12_pledge 147 = .ok (.iload 5, 2) := dc_at (f := decode cX12_pledge) dAX12_pledge_q1 30 rfl
theorem dX12_pledge_149 : decode cX12_pledge 149 = .ok (.if_icmp .ge 80, 3) := dc_at (f := decode cX12_pledge) dAX12_pledge_q1 31 rfl
theorem dX12_pledge_152 : decode cX12_pledge 152 = .ok (.aload_n 0, 1) := dc_at (f := decode cX12_pledge) dAX12_pledge_q1 32 rfl
theorem dX12_pledge_153 : decode cX12_pledge 153 = .ok (.getfield 159, 3) := dc_at (f := decode cX12_pledge) dAX12_pledge_q1 33 rfl
theorem dX12_pledge_156 : decode cX12_pledge 156 = .ok (.bipush 84, 2) := dc_at (f := decode cX12_pledge) dAX12_pledge_q1 34 rfl
theorem dX12_pledge_158 : decode cX12_pledge 158 = .ok (.iload 6, 2) := dc_at (f := decode cX12_pledge) dAX12_pledge_q1 35 rfl
theorem dX12_pledge_160 : decode cX12_pledge 160 = .ok (.imul, 1) := dc_at (f := decode cX12_pledge) dAX12_pledge_q1 36 rfl
theorem dX12_pledge_161 : decode cX12_pledge 161 = .ok (.iload 7, 2) := dc_at (f := decode cX12_pledge) dAX12_pledge_q1 37 rfl
theorem dX12_pledge_163 : decode cX12_pledge 163 = .ok (.iadd, 1) := dc_at (f := decode cX12_pledge) dAX12_pledge_q1 38 rfl
theorem dX12_pledge_164 : decode cX12_pledge 164 = .ok (.iload_n 2, 1) := dc_at (f := decode cX12_pledge) dAX12_pledge_q1 39 rfl
theorem dX12_pledge_165 : decode cX12_pledge 165 = .ok (.iastore, 1) := dc_at (f := decode cX12_pledge) dAX12_pledge_q1 40 rfl
theorem dX12_pledge_166 : decode cX12_pledge 166 = .ok (.aload_n 0, 1) := dc_at (f := decode cX12_pledge) dAX12_pledge_q1 41 rfl
theorem dX12_pledge_167 : decode cX12_pledge 167 = .ok (.getfield 165, 3) := dc_at (f := decode cX12_pledge) dAX12_pledge_q1 42 rfl
theorem dX12_pledge_170 : decode cX12_pledge 170 = .ok (.bipush 84, 2) := dc_at (f := decode cX12_pledge) dAX12_pledge_q1 43 rfl
theorem dX12_pledge_172 : decode cX12_pledge 172 = .ok (.iload 6, 2) := dc_at (f := decode cX12_pledge) dAX12_pledge_q1 44 rfl
theorem dX12_pledge_174 : decode cX12_pledge 174 = .ok (.imul, 1) := dc_at (f := decode cX12_pledge) dAX12_pledge_q1 45 rfl
theorem dX12_pledge_175 : decode cX12_pledge 175 = .ok (.iload 7, 2) := dc_at (f := decode cX12_pledge) dAX12_pledge_q1 46 rfl
theorem dX12_pledge_177 : decode cX12_pledge 177 = .ok (.iadd, 1) := dc_at (f := decode cX12_pledge) dAX12_pledge_q1 47 rfl
def dPX12_pledge_q2 : List (Nat × (Jvm.ClassFile.Instr × Nat)) := [(178, (.aload_n 0, 1)), (179, (.iload 6, 2)), (181, (.iload 7, 2)), (183, (.invokevirtual 240, 3)), (186, (.bipush 119, 2)), (188, (.if_icmp .gt 7, 3)), (191, (.iconst 1, 1)), (192, (.goto 4, 3)), (195, (.iconst 0, 1)), (196, (.bastore, 1)), (197, (.aload_n 0, 1)), (198, (.getfield 168, 3)), (201, (.bipush 84, 2)), (203, (.iload 6, 2)), (205, (.imul, 1)), (206, (.iload 7, 2)), (208, (.iadd, 1)), (209, (.aload_n 0, 1)), (210, (.getfield 165, 3)), (213, (.bipush 84, 2)), (215, (.iload 6, 2)), (217, (.imul, 1)), (218, (.iload 7, 2)), (220, (.iadd, 1)), (221, (.baload, 1)), (222, (.bastore, 1)), (223, (.iinc 7 1, 3)), (226, (.goto (-81), 3)), (229, (.aload_n 0, 1)), (230, (.dup, 1)), (231, (.getfield 237, 3)), (234, (.iconst 1, 1)), (235, (.iadd, 1)), (236, (.putfield 237, 3)), (239, (.iload 6, 2)), (241, (.ireturn, 1))]
theorem dAX12_pledge_q2 : ∀ x ∈ dPX12_pledge_q2, decode cX12_pledge x.1 = .ok x.2 := by decide +kernel
theorem dX12_pledge_178 : decode cX12_pledge 178 = .ok (.aload_n 0, 1) := dc_at (f := decode cX12_pledge) dAX12_pledge_q2 0 rfl
theorem dX12_pledge_179 : decode cX12_pledge 179 = .ok (.iload 6, 2) := dc_at (f := decode cX12_pledge) dAX12_pledge_q2 1 rfl
theorem dX12_pledge_181 : decode cX12_pledge 181 = .ok (.iload 7, 2) := dc_at (f := decode cX12_pledge) dAX12_pledge_q2 2 rfl
theorem dX12_pledge_183 : decode cX12_pledge 183 = .ok (.invokevirtual 240, 3) := dc_at (f := decode cX12_pledge) dAX12_pledge_q2 3 rfl
theorem dX12_pledge_186 : decode cX12_pledge 186 = .ok (.bipush 119, 2) := dc_at (f := decode cX12_pledge) dAX12_pledge_q2 4 rfl
theorem dX12_pledge_188 : decode cX12_pledge 188 = .ok (.if_icmp .gt 7, 3) := dc_at (f := decode cX12_pledge) dAX12_pledge_q2 5 rfl
theorem dX12_pledge_191 : decode cX12_pledge 191 = .ok (.iconst 1, 1) := dc_at (f := decode cX12_pledge) dAX12_pledge_q2 6 rfl
theorem dX12_pledge_192 : decode cX12_pledge 192 = .ok (.goto 4, 3) := dc_at (f := decode cX12_pledge) dAX12_pledge_q2 7 rfl
theorem dX12_pledge_195 : decode cX12_pledge 195 = .ok (.iconst 0, 1) := dc_at (f := decode cX12_pledge) dAX12_pledge_q2 8 rfl
theorem dX12_pledge_196 : decode cX12_pledge 196 = .ok (.bastore, 1) := dc_at (f := decode cX12_pledge) dAX12_pledge_q2 9 rfl
theorem dX12_pledge_197 : decode cX12_pledge 197 = .ok (.aload_n 0, 1) := dc_at (f := decode cX12_pledge) dAX12_pledge_q2 10 rfl
theorem dX12_pledge_198 : decode cX12_pledge 198 = .ok (.getfield 168, 3) := dc_at (f := decode cX12_pledge) dAX12_pledge_q2 11 rfl
theorem dX12_pledge_201 : decode cX12_pledge 201 = .ok (.bipush 84, 2) := dc_at (f := decode cX12_pledge) dAX12_pledge_q2 12 rfl
theorem dX12_pledge_203 : decode cX12_pledge 203 = .ok (.iload 6, 2) := dc_at (f := decode cX12_pledge) dAX12_pledge_q2 13 rfl
theorem dX12_pledge_205 : decode cX12_pledge 205 = .ok (.imul, 1) := dc_at (f := decode cX12_pledge) dAX12_pledge_q2 14 rfl
theorem dX12_pledge_206 : decode cX12_pledge 206 = .ok (.iload 7, 2) := dc_at (f := decode cX12_pledge) dAX12_pledge_q2 15 rfl
theorem dX12_pledge_208 : decode cX12_pledge 208 = .ok (.iadd, 1) := dc_at (f := decode cX12_pledge) dAX12_pledge_q2 16 rfl
theorem dX12_pledge_209 : decode cX12_pledge 209 = .ok (.aload_n 0, 1) := dc_at (f := decode cX12_pledge) dAX12_pledge_q2 17 rfl
theorem dX12_pledge_210 : decode cX12_pledge 210 = .ok (.getfield 165, 3) := dc_at (f := decode cX12_pledge) dAX12_pledge_q2 18 rfl
theorem dX12_pledge_213 : decode cX12_pledge 213 = .ok (.bipush 84, 2) := dc_at (f := decode cX12_pledge) dAX12_pledge_q2 19 rfl
theorem dX12_pledge_215 : decode cX12_pledge 215 = .ok (.iload 6, 2) := dc_at (f := decode cX12_pledge) dAX12_pledge_q2 20 rfl
theorem dX12_pledge_217 : decode cX12_pledge 217 = .ok (.imul, 1) := dc_at (f := decode cX12_pledge) dAX12_pledge_q2 21 rfl
theorem dX12_pledge_218 : decode cX12_pledge 218 = .ok (.iload 7, 2) := dc_at (f := decode cX12_pledge) dAX12_pledge_q2 22 rfl
theorem dX12_pledge_220 : decode cX12_pledge 220 = .ok (.iadd, 1) := dc_at (f := decode cX12_pledge) dAX12_pledge_q2 23 rfl
theorem dX12_pledge_221 : decode cX12_pledge 221 = .ok (.baload, 1) := dc_at (f := decode cX12_pledge) dAX12_pledge_q2 24 rfl
theorem dX12_pledge_222 : decode cX12_pledge 222 = .ok (.bastore, 1) := dc_at (f := decode cX12_pledge) dAX12_pledge_q2 25 rfl
theorem dX12_pledge_223 : decode cX12_pledge 223 = .ok (.iinc 7 1, 3) := dc_at (f := decode cX12_pledge) dAX12_pledge_q2 26 rfl
theorem dX12_pledge_226 : decode cX12_pledge 226 = .ok (.goto (-81), 3) := dc_at (f := decode cX12_pledge) dAX12_pledge_q2 27 rfl
theorem dX12_pledge_229 : decode cX12_pledge 229 = .ok (.aload_n 0, 1) := dc_at (f := decode cX12_pledge) dAX12_pledge_q2 28 rfl
theorem dX12_pledge_230 : decode cX12_pledge 230 = .ok (.dup, 1) := dc_at (f := decode cX12_pledge) dAX12_pledge_q2 29 rfl
theorem dX12_pledge_231 : decode cX12_pledge 231 = .ok (.getfield 237, 3) := dc_at (f := decode cX12_pledge) dAX12_pledge_q2 30 rfl
theorem dX12_pledge_234 : decode cX12_pledge 234 = .ok (.iconst 1, 1) := dc_at (f := decode cX12_pledge) dAX12_pledge_q2 31 rfl
theorem dX12_pledge_235 : decode cX12_pledge 235 = .ok (.iadd, 1) := dc_at (f := decode cX12_pledge) dAX12_pledge_q2 32 rfl
theorem dX12_pledge_236 : decode cX12_pledge 236 = .ok (.putfield 237, 3) := dc_at (f := decode cX12_pledge) dAX12_pledge_q2 33 rfl
theorem dX12_pledge_239 : decode cX12_pledge 239 = .ok (.iload 6, 2) := dc_at (f := decode cX12_pledge) dAX12_pledge_q2 34 rfl
theorem dX12_pledge_241 : decode cX12_pledge 241 = .ok (.ireturn, 1) := dc_at (f := decode cX12_pledge) dAX12_pledge_q2 35 rfl
def dPX12_isPledge_q0 : List (Nat × (Jvm.ClassFile.Instr × Nat)) := [(0, (.iload_n 1, 1)), (1, (.i2l, 1)), (2, (.lconst 0, 1)), (3, (.aload_n 0, 1)), (4, (.getfield 237, 3)), (7, (.i2l, 1)), (8, (.lconst 1, 1)), (9, (.lsub, 1)), (10, (.invokestatic 58, 3)), (13, (.ireturn, 1))]
theorem dAX12_isPledge_q0 : ∀ x ∈ dPX12_isPledge_q0, decode cX12_isPledge x.1 = .ok x.2 := by decide +kernel
theorem dX12_isPledge_0 : decode cX12_isPledge 0 = .ok (.iload_n 1, 1) := dc_at (f := decode cX12_isPledge) dAX12_isPledge_q0 0 rfl
theorem dX12_isPledge_1 : decode cX12_isPledge 1 = .ok (.i2l, 1) := dc_at (f := decode cX12_isPledge) dAX12_isPledge_q0 1 rfl
theorem dX12_isPledge_2 : decode cX12_isPledge 2 = .ok (.lconst 0, 1) := dc_at (f := decode cX12_isPledge) dAX12_isPledge_q0 2 rfl
theorem dX12_isPledge_3 : decode cX12_isPledge 3 = .ok (.aload_n 0, 1) := dc_at (f := decode cX12_isPledge) dAX12_isPledge_q0 3 rfl
theorem dX12_isPledge_4 : decode cX12_isPledge 4 = .ok (.getfield 237, 3) := dc_at (f := decode cX12_isPledge) dAX12_isPledge_q0 4 rfl
theorem dX12_isPledge_7 : decode cX12_isPledge 7 = .ok (.i2l, 1) := dc_at (f := decode cX12_isPledge) dAX12_isPledge_q0 5 rfl
theorem dX12_isPledge_8 : decode cX12_isPledge 8 = .ok (.lconst 1, 1) := dc_at (f := decode cX12_isPledge) dAX12_isPledge_q0 6 rfl
theorem dX12_isPledge_9 : decode cX12_isPledge 9 = .ok (.lsub, 1) := dc_at (f := decode cX12_isPledge) dAX12_isPledge_q0 7 rfl
theorem dX12_isPledge_10 : decode cX12_isPledge 10 = .ok (.invokestatic 58, 3) := dc_at (f := decode cX12_isPledge) dAX12_isPledge_q0 8 rfl
theorem dX12_isPledge_13 : decode cX12_isPledge 13 = .ok (.ireturn, 1) := dc_at (f := decode cX12_isPledge) dAX12_isPledge_q0 9 rfl
def dPX12_change_q0 : List (Nat × (Jvm.ClassFile.Instr × Nat)) := [(0, (.aload_n 0, 1)), (1, (.iload_n 1, 1)), (2, (.invokevirtual 243, 3)), (5, (.ifCond .eq 15, 3)), (8, (.iload_n 2, 1)), (9, (.i2l, 1)), (10, (.lconst 1, 1)), (11, (.ldc2_w 228, 3)), (14, (.invokestatic 58, 3)), (17, (.ifCond .ne 6, 3)), (20, (.bipush (-2), 2)), (22, (.ireturn, 1)), (23, (.aload_n 0, 1)), (24, (.getfield 224, 3)), (27, (.ifCond .ne 12, 3)), (30, (.aload_n 0, 1)), (31, (.getfield 153, 3)), (34, (.iload_n 1, 1)), (35, (.baload, 1)), (36, (.ifCond .eq 6, 3)), (39, (.bipush (-4), 2)), (41, (.ireturn, 1)), (42, (.aload_n 0, 1)), (43, (.getfield 138, 3)), (46, (.iload_n 1, 1)), (47, (.iload_n 2, 1)), (48, (.iastore, 1)), (49, (.iconst 0, 1)), (50, (.istore_n 3, 1)), (51, (.iload_n 3, 1)), (52, (.aload_n 0, 1)), (53, (.getfield 147, 3)), (56, (.iload_n 1, 1)), (57, (.iaload, 1)), (58, (.if_icmp .ge 48, 3)), (61, (.aload_n 0, 1)), (62, (.iload_n 1, 1)), (63, (.iload_n 3, 1)), (64, (.invokevirtual 240, 3)), (67, (.aload_n 0, 1)), (68, (.getfield 230, 3)), (71, (.if_icmp .le 29, 3)), (74, (.aload_n 0, 1)), (75, (.getfield 162, 3)), (78, (.bipush 84, 2)), (80, (.iload_n 1, 1)), (81, (.imul, 1)), (82, (.iload_n 3, 1))]
theorem dAX12_change_q0 : ∀ x ∈ dPX12_change_q0, decode cX12_change x.1 = .ok x.2 := by decide +kernel
theorem dX12_change_0 : decode cX12_change 0 = .ok (.aload_n 0, 1) := dc_at (f := decode cX12_change) dAX12_change_q0 0 rfl
theorem dX12_change_1 : decode cX12_change 1 = .ok (.iload_n 1, 1) := dc_at (f := decode cX12_change) dAX12_change_q0 1 rfl
theorem dX12_change_2 : decode cX12_change 2 = .ok (.invokevirtual 243, 3) := dc_at (f := decode cX12_change) dAX12_change_q0 2 rfl
theorem dX12_change_5 : decode cX12_change 5 = .ok (.ifCond .eq 15, 3) := dc_at (f := decode cX12_change) dAX12_change_q0 3 rfl
theorem dX12_change_8 : decode cX12_change 8 = .ok (.iload_n 2, 1) := dc_at (f := decode cX12_change) dAX12_change_q0 4 rfl
theorem dX12_change_9 : decode cX12_change 9 = .ok (.i2l, 1) := dc_at (f := decode cX12_change) dAX12_change_q0 5 rfl
theorem dX12_change_10 : decode cX12_change 10 = .ok (.lconst 1, 1) := dc_at (f := decode cX12_change) dAX12_change_q0 6 rfl
theorem dX12_change_11 : decode cX12_change 11 = .ok (.ldc2_w 228, 3) := dc_at (f := decode cX12_change) dAX12_change_q0 7 rfl
theorem dX12_change_14 : decode cX12_change 14 = .ok (.invokestatic 58, 3) := dc_at (f := decode cX12_change) dAX12_change_q0 8 rfl
theorem dX12_change_17 : decode cX12_change 17 = .ok (.ifCond .ne 6, 3) := dc_at (f := decode cX12_change) dAX12_change_q0 9 rfl
theorem dX12_change_20 : decode cX12_change 20 = .ok (.bipush (-2), 2) := dc_at (f := decode cX12_change) dAX12_change_q0 10 rfl
theorem dX12_change_22 : decode cX12_change 22 = .ok (.ireturn, 1) := dc_at (f := decode cX12_change) dAX12_change_q0 11 rfl
theorem dX12_change_23 : decode cX12_change 23 = .ok (.aload_n 0, 1) := dc_at (f := decode cX12_change) dAX12_change_q0 12 rfl
theorem dX12_change_24 : decode cX12_change 24 = .ok (.getfield 224, 3) := dc_at (f := decode cX12_change) dAX12_change_q0 13 rfl
theorem dX12_change_27 : decode cX12_change 27 = .ok (.ifCond .ne 12, 3) := dc_at (f := decode cX12_change) dAX12_change_q0 14 rfl
theorem dX12_change_30 : decode cX12_change 30 = .ok (.aload_n 0, 1) := dc_at (f := decode cX12_change) dAX12_change_q0 15 rfl
theorem dX12_change_31 : decode cX12_change 31 = .ok (.getfield 153, 3) := dc_at (f := decode cX12_change) dAX12_change_q0 16 rfl
theorem dX12_change_34 : decode cX12_change 34 = .ok (.iload_n 1, 1) := dc_at (f := decode cX12_change) dAX12_change_q0 17 rfl
theorem dX12_change_35 : decode cX12_change 35 = .ok (.baload, 1) := dc_at (f := decode cX12_change) dAX12_change_q0 18 rfl
theorem dX12_change_36 : decode cX12_change 36 = .ok (.ifCond .eq 6, 3) := dc_at (f := decode cX12_change) dAX12_change_q0 19 rfl
theorem dX12_change_39 : decode cX12_change 39 = .ok (.bipush (-4), 2) := dc_at (f := decode cX12_change) dAX12_change_q0 20 rfl
theorem dX12_change_41 : decode cX12_change 41 = .ok (.ireturn, 1) := dc_at (f := decode cX12_change) dAX12_change_q0 21 rfl
theorem dX12_change_42 : decode cX12_change 42 = .ok (.aload_n 0, 1) := dc_at (f := decode cX12_change) dAX12_change_q0 22 rfl
theorem dX12_change_43 : decode cX12_change 43 = .ok (.getfield 138, 3) := dc_at (f := decode cX12_change) dAX12_change_q0 23 rfl
theorem dX12_change_46 : decode cX12_change 46 = .ok (.iload_n 1, 1) := dc_at (f := decode cX12_change) dAX12_change_q0 24 rfl
theorem dX12_change_47 : decode cX12_change 47 = .ok (.iload_n 2, 1) := dc_at (f := decode cX12_change) dAX12_change_q0 25 rfl
theorem dX12_change_48 : decode cX12_change 48 = .ok (.iastore, 1) := dc_at (f := decode cX12_change) dAX12_change_q0 26 rfl
theorem dX12_change_49 : decode cX12_change 49 = .ok (.iconst 0, 1) := dc_at (f := decode cX12_change) dAX12_change_q0 27 rfl
theorem dX12_change_50 : decode cX12_change 50 = .ok (.istore_n 3, 1) := dc_at (f := decode cX12_change) dAX12_change_q0 28 rfl
theorem dX12_change_51 : decode cX12_change 51 = .ok (.iload_n 3, 1) := dc_at (f := decode cX12_change) dAX12_change_q0 29 rfl
theorem dX12_change_52 : decode cX12_change 52 = .ok (.aload_n 0, 1) := dc_at (f := decode cX12_change) dAX12_change_q0 30 rfl
theorem dX12_change_53 : decode cX12_change 53 = .ok (.getfield 147, 3) := dc_at (f := decode cX12_change) dAX12_change_q0 31 rfl
theorem dX12_change_56 : decode cX12_change 56 = .ok (.iload_n 1, 1) := dc_at (f := decode cX12_change) dAX12_change_q0 32 rfl
theorem dX12_change_57 : decode cX12_change 57 = .ok (.iaload, 1) := dc_at (f := decode cX12_change) dAX12_change_q0 33 rfl
theorem dX12_change_58 : decode cX12_change 58 = .ok (.if_icmp .ge 48, 3) := dc_at (f := decode cX12_change) dAX12_change_q0 34 rfl
theorem dX12_change_61 : decode cX12_change 61 = .ok (.aload_n 0, 1) := dc_at (f := decode cX12_change) dAX12_change_q0 35 rfl
theorem dX12_change_62 : decode cX12_change 62 = .ok (.iload_n 1, 1) := dc_at (f := decode cX12_change) dAX12_change_q0 36 rfl
theorem dX12_change_63 : decode cX12_change 63 = .ok (.iload_n 3, 1) := dc_at (f := decode cX12_change) dAX12_change_q0 37 rfl
theorem dX12_change_64 : decode cX12_change 64 = .ok (.invokevirtual 240, 3) := dc_at (f := decode cX12_change) dAX12_change_q0 38 rfl
theorem dX12_change_67 : decode cX12_change 67 = .ok (.aload_n 0, 1) := dc_at (f := decode cX12_change) dAX12_change_q0 39 rfl
theorem dX12_change_68 : decode cX12_change 68 = .ok (.getfield 230, 3) := dc_at (f := decode cX12_change) dAX12_change_q0 40 rfl
theorem dX12_change_71 : decode cX12_change 71 = .ok (.if_icmp .le 29, 3) := dc_at (f := decode cX12_change) dAX12_change_q0 41 rfl
theorem dX12_change_74 : decode cX12_change 74 = .ok (.aload_n 0, 1) := dc_at (f := decode cX12_change) dAX12_change_q0 42 rfl
theorem dX12_change_75 : decode cX12_change 75 = .ok (.getfield 162, 3) := dc_at (f := decode cX12_change) dAX12_change_q0 43 rfl
theorem dX12_change_78 : decode cX12_change 78 = .ok (.bipush 84, 2) := dc_at (f := decode cX12_change) dAX12_change_q0 44 rfl
theorem dX12_change_80 : decode cX12_change 80 = .ok (.iload_n 1, 1) := dc_at (f := decode cX12_change) dAX12_change_q0 45 rfl
theorem dX12_change_81 : decode cX12_change 81 = .ok (.imul, 1) := dc_at (f := decode cX12_change) dAX12_change_q0 46 rfl
theorem dX12_change_82 : decode cX12_change 82 = .ok (.iload_n 3, 1) := dc_at (f := decode cX12_change) dAX12_change_q0 47 rfl
def dPX12_change_q1 : List (Nat × (Jvm.ClassFile.Instr × Nat)) := [(83, (.iadd, 1)), (84, (.iaload, 1)), (85, (.ifCond .ne 15, 3)), (88, (.aload_n 0, 1)), (89, (.getfield 159, 3)), (92, (.bipush 84, 2)), (94, (.iload_n 1, 1)), (95, (.imul, 1)), (96, (.iload_n 3, 1)), (97, (.iadd, 1)), (98, (.iload_n 2, 1)), (99, (.iastore, 1)), (100, (.iinc 3 1, 3)), (103, (.goto (-52), 3)), (106, (.iconst 1, 1)), (107, (.ireturn, 1))]
theorem dAX12_change_q1 : ∀ x ∈ dPX12_change_q1, decode cX12_change x.1 = .ok x.2 := by decide +kernel
theorem dX12_change_83 : decode cX12_change 83 = .ok (.iadd, 1) := dc_at (f := decode cX12_change) dAX12_change_q1 0 rfl
theorem dX12_change_84 : decode cX12_change 84 = .ok (.iaload, 1) := dc_at (f := decode cX12_change) dAX12_change_q1 1 rfl
theorem dX12_change_85 : decode cX12_change 85 = .ok (.ifCond .ne 15, 3) := dc_at (f := decode cX12_change) dAX12_change_q1 2 rfl
theorem dX12_change_88 : decode cX12_change 88 = .ok (.aload_n 0, 1) := dc_at (f := decode cX12_change) dAX12_change_q1 3 rfl
theorem dX12_change_89 : decode cX12_change 89 = .ok (.getfield 159, 3) := dc_at (f := decode cX12_change) dAX12_change_q1 4 rfl
theorem dX12_change_92 : decode cX12_change 92 = .ok (.bipush 84, 2) := dc_at (f := decode cX12_change) dAX12_change_q1 5 rfl
theorem dX12_change_94 : decode cX12_change 94 = .ok (.iload_n 1, 1) := dc_at (f := decode cX12_change) dAX12_change_q1 6 rfl
theorem dX12_change_95 : decode cX12_change 95 = .ok (.imul, 1) := dc_at (f := decode cX12_change) dAX12_change_q1 7 rfl
theorem dX12_change_96 : decode cX12_change 96 = .ok (.iload_n 3, 1) := dc_at (f := decode cX12_change) dAX12_change_q1 8 rfl
theorem dX12_change_97 : decode cX12_change 97 = .ok (.iadd, 1) := dc_at (f := decode cX12_change) dAX12_change_q1 9 rfl
theorem dX12_change_98 : decode cX12_change 98 = .ok (.iload_n 2, 1) := dc_at (f := decode cX12_change) dAX12_change_q1 10 rfl
theorem dX12_change_99 : decode cX12_change 99 = .ok (.iastore, 1) := dc_at (f := decode cX12_change) dAX12_change_q1 11 rfl
theorem dX12_change_100 : decode cX12_change 100 = .ok (.iinc 3 1, 3) := dc_at (f := decode cX12_change) dAX12_change_q1 12 rfl
theorem dX12_change_103 : decode cX12_change 103 = .ok (.goto (-52), 3) := dc_at (f := decode cX12_change) dAX12_change_q1 13 rfl
theorem dX12_change_106 : decode cX12_change 106 = .ok (.iconst 1, 1) := dc_at (f := decode cX12_change) dAX12_change_q1 14 rfl
theorem dX12_change_107 : decode cX12_change 107 = .ok (.ireturn, 1) := dc_at (f := decode cX12_change) dAX12_change_q1 15 rfl
def dPX12_unfilled_q0 : List (Nat × (Jvm.ClassFile.Instr × Nat)) := [(0, (.iconst 0, 1)), (1, (.istore_n 2, 1)), (2, (.bipush 84, 2)), (4, (.iload_n 1, 1)), (5, (.imul, 1)), (6, (.istore_n 3, 1)), (7, (.iload_n 3, 1)), (8, (.bipush 84, 2)), (10, (.iload_n 1, 1)), (11, (.imul, 1)), (12, (.aload_n 0, 1)), (13, (.getfield 147, 3)), (16, (.iload_n 1, 1)), (17, (.iaload, 1)), (18, (.iadd, 1)), (19, (.if_icmp .ge 38, 3)), (22, (.iload_n 2, 1)), (23, (.aload_n 0, 1)), (24, (.getfield 165, 3)), (27, (.iload_n 3, 1)), (28, (.baload, 1)), (29, (.ifCond .eq 19, 3)), (32, (.aload_n 0, 1)), (33, (.getfield 159, 3)), (36, (.iload_n 3, 1)), (37, (.iaload, 1)), (38, (.aload_n 0, 1)), (39, (.getfield 162, 3)), (42, (.iload_n 3, 1)), (43, (.iaload, 1)), (44, (.isub, 1)), (45, (.goto 4, 3)), (48, (.iconst 0, 1)), (49, (.iadd, 1)), (50, (.istore_n 2, 1)), (51, (.iinc 3 1, 3)), (54, (.goto (-47), 3)), (57, (.iload_n 2, 1)), (58, (.ireturn, 1))]
theorem dAX12_unfilled_q0 : ∀ x ∈ dPX12_unfilled_q0, decode cX12_unfilled x.1 = .ok x.2 := by decide +kernel
theorem dX12_unfilled_0 : decode cX12_unfilled 0 = .ok (.iconst 0, 1) := dc_at (f := decode cX12_unfilled) dAX12_unfilled_q0 0 rfl
theorem dX12_unfilled_1 : decode cX12_unfilled 1 = .ok (.istore_n 2, 1) := dc_at (f := decode cX12_unfilled) dAX12_unfilled_q0 1 rfl
theorem dX12_unfilled_2 : decode cX12_unfilled 2 = .ok (.bipush 84, 2) := dc_at (f := decode cX12_unfilled) dAX12_unfilled_q0 2 rfl
theorem dX12_unfilled_4 : decode cX12_unfilled 4 = .ok (.iload_n 1, 1) := dc_at (f := decode cX12_unfilled) dAX12_unfilled_q0 3 rfl
theorem dX12_unfilled_5 : decode cX12_unfilled 5 = .ok (.imul, 1) := dc_at (f := decode cX12_unfilled) dAX12_unfilled_q0 4 rfl
theorem dX12_unfilled_6 : decode cX12_unfilled 6 = .ok (.istore_n 3, 1) := dc_at (f := decode cX12_unfilled) dAX12_unfilled_q0 5 rfl
theorem dX12_unfilled_7 : decode cX12_unfilled 7 = .ok (.iload_n 3, 1) := dc_at (f := decode cX12_unfilled) dAX12_unfilled_q0 6 rfl
theorem dX12_unfilled_8 : decode cX12_unfilled 8 = .ok (.bipush 84, 2) := dc_at (f := decode cX12_unfilled) dAX12_unfilled_q0 7 rfl
theorem dX12_unfilled_10 : decode cX12_unfilled 10 = .ok (.iload_n 1, 1) := dc_at (f := decode cX12_unfilled) dAX12_unfilled_q0 8 rfl
theorem dX12_unfilled_11 : decode cX12_unfilled 11 = .ok (.imul, 1) := dc_at (f := decode cX12_unfilled) dAX12_unfilled_q0 9 rfl
theorem dX12_unfilled_12 : decode cX12_unfilled 12 = .ok (.aload_n 0, 1) := dc_at (f := decode cX12_unfilled) dAX12_unfilled_q0 10 rfl
theorem dX12_unfilled_13 : decode cX12_unfilled 13 = .ok (.getfield 147, 3) := dc_at (f := decode cX12_unfilled) dAX12_unfilled_q0 11 rfl
theorem dX12_unfilled_16 : decode cX12_unfilled 16 = .ok (.iload_n 1, 1) := dc_at (f := decode cX12_unfilled) dAX12_unfilled_q0 12 rfl
theorem dX12_unfilled_17 : decode cX12_unfilled 17 = .ok (.iaload, 1) := dc_at (f := decode cX12_unfilled) dAX12_unfilled_q0 13 rfl
theorem dX12_unfilled_18 : decode cX12_unfilled 18 = .ok (.iadd, 1) := dc_at (f := decode cX12_unfilled) dAX12_unfilled_q0 14 rfl
theorem dX12_unfilled_19 : decode cX12_unfilled 19 = .ok (.if_icmp .ge 38, 3) := dc_at (f := decode cX12_unfilled) dAX12_unfilled_q0 15 rfl
theorem dX12_unfilled_22 : decode cX12_unfilled 22 = .ok (.iload_n 2, 1) := dc_at (f := decode cX12_unfilled) dAX12_unfilled_q0 16 rfl
theorem dX12_unfilled_23 : decode cX12_unfilled 23 = .ok (.aload_n 0, 1) := dc_at (f := decode cX12_unfilled) dAX12_unfilled_q0 17 rfl
theorem dX12_unfilled_24 : decode cX12_unfilled 24 = .ok (.getfield 165, 3) := dc_at (f := decode cX12_unfilled) dAX12_unfilled_q0 18 rfl
theorem dX12_unfilled_27 : decode cX12_unfilled 27 = .ok (.iload_n 3, 1) := dc_at (f := decode cX12_unfilled) dAX12_unfilled_q0 19 rfl
theorem dX12_unfilled_28 : decode cX12_unfilled 28 = .ok (.baload, 1) := dc_at (f := decode cX12_unfilled) dAX12_unfilled_q0 20 rfl
theorem dX12_unfilled_29 : decode cX12_unfilled 29 = .ok (.ifCond .eq 19, 3) := dc_at (f := decode cX12_unfilled) dAX12_unfilled_q0 21 rfl
theorem dX12_unfilled_32 : decode cX12_unfilled 32 = .ok (.aload_n 0, 1) := dc_at (f := decode cX12_unfilled) dAX12_unfilled_q0 22 rfl
theorem dX12_unfilled_33 : decode cX12_unfilled 33 = .ok (.getfield 159, 3) := dc_at (f := decode cX12_unfilled) dAX12_unfilled_q0 23 rfl
theorem dX12_unfilled_36 : decode cX12_unfilled 36 = .ok (.iload_n 3, 1) := dc_at (f := decode cX12_unfilled) dAX12_unfilled_q0 24 rfl
theorem dX12_unfilled_37 : decode cX12_unfilled 37 = .ok (.iaload, 1) := dc_at (f := decode cX12_unfilled) dAX12_unfilled_q0 25 rfl
theorem dX12_unfilled_38 : decode cX12_unfilled 38 = .ok (.aload_n 0, 1) := dc_at (f := decode cX12_unfilled) dAX12_unfilled_q0 26 rfl
theorem dX12_unfilled_39 : decode cX12_unfilled 39 = .ok (.getfield 162, 3) := dc_at (f := decode cX12_unfilled) dAX12_unfilled_q0 27 rfl
theorem dX12_unfilled_42 : decode cX12_unfilled 42 = .ok (.iload_n 3, 1) := dc_at (f := decode cX12_unfilled) dAX12_unfilled_q0 28 rfl
theorem dX12_unfilled_43 : decode cX12_unfilled 43 = .ok (.iaload, 1) := dc_at (f := decode cX12_unfilled) dAX12_unfilled_q0 29 rfl
theorem dX12_unfilled_44 : decode cX12_unfilled 44 = .ok (.isub, 1) := dc_at (f := decode cX12_unfilled) dAX12_unfilled_q0 30 rfl
theorem dX12_unfilled_45 : decode cX12_unfilled 45 = .ok (.goto 4, 3) := dc_at (f := decode cX12_unfilled) dAX12_unfilled_q0 31 rfl
theorem dX12_unfilled_48 : decode cX12_unfilled 48 = .ok (.iconst 0, 1) := dc_at (f := decode cX12_unfilled) dAX12_unfilled_q0 32 rfl
theorem dX12_unfilled_49 : decode cX12_unfilled 49 = .ok (.iadd, 1) := dc_at (f := decode cX12_unfilled) dAX12_unfilled_q0 33 rfl
theorem dX12_unfilled_50 : decode cX12_unfilled 50 = .ok (.istore_n 2, 1) := dc_at (f := decode cX12_unfilled) dAX12_unfilled_q0 34 rfl
theorem dX12_unfilled_51 : decode cX12_unfilled 51 = .ok (.iinc 3 1, 3) := dc_at (f := decode cX12_unfilled) dAX12_unfilled_q0 35 rfl
theorem dX12_unfilled_54 : decode cX12_unfilled 54 = .ok (.goto (-47), 3) := dc_at (f := decode cX12_unfilled) dAX12_unfilled_q0 36 rfl
theorem dX12_unfilled_57 : decode cX12_unfilled 57 = .ok (.iload_n 2, 1) := dc_at (f := decode cX12_unfilled) dAX12_unfilled_q0 37 rfl
theorem dX12_unfilled_58 : decode cX12_unfilled 58 = .ok (.ireturn, 1) := dc_at (f := decode cX12_unfilled) dAX12_unfilled_q0 38 rfl
def dPX12_come_q0 : List (Nat × (Jvm.ClassFile.Instr × Nat)) := [(0, (.aload_n 0, 1)), (1, (.getfield 171, 3)), (4, (.aload_n 0, 1)), (5, (.getfield 246, 3)), (8, (.iload_n 1, 1)), (9, (.iastore, 1)), (10, (.aload_n 0, 1)), (11, (.getfield 174, 3)), (14, (.aload_n 0, 1)), (15, (.getfield 246, 3)), (18, (.aload_n 0, 1)), (19, (.getfield 230, 3)), (22, (.iastore, 1)), (23, (.aload_n 0, 1)), (24, (.getfield 177, 3)), (27, (.aload_n 0, 1)), (28, (.getfield 246, 3)), (31, (.iload_n 2, 1)), (32, (.iastore, 1)), (33, (.aload_n 0, 1)), (34, (.getfield 180, 3)), (37, (.aload_n 0, 1)), (38, (.getfield 246, 3)), (41, (.iconst 0, 1)), (42, (.bastore, 1)), (43, (.aload_n 0, 1)), (44, (.dup, 1)), (45, (.getfield 246, 3)), (48, (.iconst 1, 1)), (49, (.iadd, 1)), (50, (.putfield 246, 3)), (53, (.aload_n 0, 1)), (54, (.getfield 126, 3)), (57, (.iload_n 1, 1)), (58, (.dup2, 1)), (59, (.iaload, 1)), (60, (.iload_n 2, 1)), (61, (.iadd, 1)), (62, (.iastore, 1)), (63, (.aload_n 0, 1)), (64, (.getfield 230, 3)), (67, (.aload_n 0, 1)), (68, (.getfield 114, 3)), (71, (.iconst 2, 1)), (72, (.iaload, 1)), (73, (.if_icmp .le 7, 3)), (76, (.iconst 0, 1)), (77, (.goto 18, 3))]
theorem dAX12_come_q0 : ∀ x ∈ dPX12_come_q0, decode cX12_come x.1 = .ok x.2 := by decide +kernel
theorem dX12_come_0 : decode cX12_come 0 = .ok (.aload_n 0, 1) := dc_at (f := decode cX12_come) dAX12_come_q0 0 rfl
theorem dX12_come_1 : decode cX12_come 1 = .ok (.getfield 171, 3) := dc_at (f := decode cX12_come) dAX12_come_q0 1 rfl
theorem dX12_come_4 : decode cX12_come 4 = .ok (.aload_n 0, 1) := dc_at (f := decode cX12_come) dAX12_come_q0 2 rfl
theorem dX12_come_5 : decode cX12_come 5 = .ok (.getfield 246, 3) := dc_at (f := decode cX12_come) dAX12_come_q0 3 rfl
theorem dX12_come_8 : decode cX12_come 8 = .ok (.iload_n 1, 1) := dc_at (f := decode cX12_come) dAX12_come_q0 4 rfl
theorem dX12_come_9 : decode cX12_come 9 = .ok (.iastore, 1) := dc_at (f := decode cX12_come) dAX12_come_q0 5 rfl
theorem dX12_come_10 : decode cX12_come 10 = .ok (.aload_n 0, 1) := dc_at (f := decode cX12_come) dAX12_come_q0 6 rfl
theorem dX12_come_11 : decode cX12_come 11 = .ok (.getfield 174, 3) := dc_at (f := decode cX12_come) dAX12_come_q0 7 rfl
theorem dX12_come_14 : decode cX12_come 14 = .ok (.aload_n 0, 1) := dc_at (f := decode cX12_come) dAX12_come_q0 8 rfl
theorem dX12_come_15 : decode cX12_come 15 = .ok (.getfield 246, 3) := dc_at (f := decode cX12_come) dAX12_come_q0 9 rfl
theorem dX12_come_18 : decode cX12_come 18 = .ok (.aload_n 0, 1) := dc_at (f := decode cX12_come) dAX12_come_q0 10 rfl
theorem dX12_come_19 : decode cX12_come 19 = .ok (.getfield 230, 3) := dc_at (f := decode cX12_come) dAX12_come_q0 11 rfl
theorem dX12_come_22 : decode cX12_come 22 = .ok (.iastore, 1) := dc_at (f := decode cX12_come) dAX12_come_q0 12 rfl
theorem dX12_come_23 : decode cX12_come 23 = .ok (.aload_n 0, 1) := dc_at (f := decode cX12_come) dAX12_come_q0 13 rfl
theorem dX12_come_24 : decode cX12_come 24 = .ok (.getfield 177, 3) := dc_at (f := decode cX12_come) dAX12_come_q0 14 rfl
theorem dX12_come_27 : decode cX12_come 27 = .ok (.aload_n 0, 1) := dc_at (f := decode cX12_come) dAX12_come_q0 15 rfl
theorem dX12_come_28 : decode cX12_come 28 = .ok (.getfield 246, 3) := dc_at (f := decode cX12_come) dAX12_come_q0 16 rfl
theorem dX12_come_31 : decode cX12_come 31 = .ok (.iload_n 2, 1) := dc_at (f := decode cX12_come) dAX12_come_q0 17 rfl
theorem dX12_come_32 : decode cX12_come 32 = .ok (.iastore, 1) := dc_at (f := decode cX12_come) dAX12_come_q0 18 rfl
theorem dX12_come_33 : decode cX12_come 33 = .ok (.aload_n 0, 1) := dc_at (f := decode cX12_come) dAX12_come_q0 19 rfl
theorem dX12_come_34 : decode cX12_come 34 = .ok (.getfield 180, 3) := dc_at (f := decode cX12_come) dAX12_come_q0 20 rfl
theorem dX12_come_37 : decode cX12_come 37 = .ok (.aload_n 0, 1) := dc_at (f := decode cX12_come) dAX12_come_q0 21 rfl
theorem dX12_come_38 : decode cX12_come 38 = .ok (.getfield 246, 3) := dc_at (f := decode cX12_come) dAX12_come_q0 22 rfl
theorem dX12_come_41 : decode cX12_come 41 = .ok (.iconst 0, 1) := dc_at (f := decode cX12_come) dAX12_come_q0 23 rfl
theorem dX12_come_42 : decode cX12_come 42 = .ok (.bastore, 1) := dc_at (f := decode cX12_come) dAX12_come_q0 24 rfl
theorem dX12_come_43 : decode cX12_come 43 = .ok (.aload_n 0, 1) := dc_at (f := decode cX12_come) dAX12_come_q0 25 rfl
theorem dX12_come_44 : decode cX12_come 44 = .ok (.dup, 1) := dc_at (f := decode cX12_come) dAX12_come_q0 26 rfl
theorem dX12_come_45 : decode cX12_come 45 = .ok (.getfield 246, 3) := dc_at (f := decode cX12_come) dAX12_come_q0 27 rfl
theorem dX12_come_48 : decode cX12_come 48 = .ok (.iconst 1, 1) := dc_at (f := decode cX12_come) dAX12_come_q0 28 rfl
theorem dX12_come_49 : decode cX12_come 49 = .ok (.iadd, 1) := dc_at (f := decode cX12_come) dAX12_come_q0 29 rfl
theorem dX12_come_50 : decode cX12_come 50 = .ok (.putfield 246, 3) := dc_at (f := decode cX12_come) dAX12_come_q0 30 rfl
theorem dX12_come_53 : decode cX12_come 53 = .ok (.aload_n 0, 1) := dc_at (f := decode cX12_come) dAX12_come_q0 31 rfl
theorem dX12_come_54 : decode cX12_come 54 = .ok (.getfield 126, 3) := dc_at (f := decode cX12_come) dAX12_come_q0 32 rfl
theorem dX12_come_57 : decode cX12_come 57 = .ok (.iload_n 1, 1) := dc_at (f := decode cX12_come) dAX12_come_q0 33 rfl
theorem dX12_come_58 : decode cX12_come 58 = .ok (.dup2, 1) := dc_at (f := decode cX12_come) dAX12_come_q0 34 rfl
theorem dX12_come_59 : decode cX12_come 59 = .ok (.iaload, 1) := dc_at (f := decode cX12_come) dAX12_come_q0 35 rfl
theorem dX12_come_60 : decode cX12_come 60 = .ok (.iload_n 2, 1) := dc_at (f := decode cX12_come) dAX12_come_q0 36 rfl
theorem dX12_come_61 : decode cX12_come 61 = .ok (.iadd, 1) := dc_at (f := decode cX12_come) dAX12_come_q0 37 rfl
theorem dX12_come_62 : decode cX12_come 62 = .ok (.iastore, 1) := dc_at (f := decode cX12_come) dAX12_come_q0 38 rfl
theorem dX12_come_63 : decode cX12_come 63 = .ok (.aload_n 0, 1) := dc_at (f := decode cX12_come) dAX12_come_q0 39 rfl
theorem dX12_come_64 : decode cX12_come 64 = .ok (.getfield 230, 3) := dc_at (f := decode cX12_come) dAX12_come_q0 40 rfl
theorem dX12_come_67 : decode cX12_come 67 = .ok (.aload_n 0, 1) := dc_at (f := decode cX12_come) dAX12_come_q0 41 rfl
theorem dX12_come_68 : decode cX12_come 68 = .ok (.getfield 114, 3) := dc_at (f := decode cX12_come) dAX12_come_q0 42 rfl
theorem dX12_come_71 : decode cX12_come 71 = .ok (.iconst 2, 1) := dc_at (f := decode cX12_come) dAX12_come_q0 43 rfl
theorem dX12_come_72 : decode cX12_come 72 = .ok (.iaload, 1) := dc_at (f := decode cX12_come) dAX12_come_q0 44 rfl
theorem dX12_come_73 : decode cX12_come 73 = .ok (.if_icmp .le 7, 3) := dc_at (f := decode cX12_come) dAX12_come_q0 45 rfl
theorem dX12_come_76 : decode cX12_come 76 = .ok (.iconst 0, 1) := dc_at (f := decode cX12_come) dAX12_come_q0 46 rfl
theorem dX12_come_77 : decode cX12_come 77 = .ok (.goto 18, 3) := dc_at (f := decode cX12_come) dAX12_come_q0 47 rfl
def dPX12_come_q1 : List (Nat × (Jvm.ClassFile.Instr × Nat)) := [(80, (.aload_n 0, 1)), (81, (.getfield 114, 3)), (84, (.iconst 0, 1)), (85, (.iaload, 1)), (86, (.i2l, 1)), (87, (.iload_n 2, 1)), (88, (.i2l, 1)), (89, (.lmul, 1)), (90, (.ldc2_w 249, 3)), (93, (.ldiv, 1)), (94, (.l2i, 1)), (95, (.istore_n 3, 1)), (96, (.iconst 0, 1)), (97, (.iload_n 3, 1)), (98, (.bipush 100, 2)), (100, (.aload_n 0, 1)), (101, (.getfield 114, 3)), (104, (.iconst 1, 1)), (105, (.iaload, 1)), (106, (.imul, 1)), (107, (.aload_n 0, 1)), (108, (.getfield 251, 3)), (111, (.isub, 1)), (112, (.invokestatic 254, 3)), (115, (.invokestatic 259, 3)), (118, (.istore_n 3, 1)), (119, (.aload_n 0, 1)), (120, (.dup, 1)), (121, (.getfield 251, 3)), (124, (.iload_n 3, 1)), (125, (.iadd, 1)), (126, (.putfield 251, 3)), (129, (.aload_n 0, 1)), (130, (.dup, 1)), (131, (.getfield 262, 3)), (134, (.iload_n 2, 1)), (135, (.iload_n 3, 1)), (136, (.iadd, 1)), (137, (.iadd, 1)), (138, (.putfield 262, 3)), (141, (.iload_n 3, 1)), (142, (.ireturn, 1))]
theorem dAX12_come_q1 : ∀ x ∈ dPX12_come_q1, decode cX12_come x.1 = .ok x.2 := by decide +kernel
theorem dX12_come_80 : decode cX12_come 80 = .ok (.aload_n 0, 1) := dc_at (f := decode cX12_come) dAX12_come_q1 0 rfl
theorem dX12_come_81 : decode cX12_come 81 = .ok (.getfield 114, 3) := dc_at (f := decode cX12_come) dAX12_come_q1 1 rfl
theorem dX12_come_84 : decode cX12_come 84 = .ok (.iconst 0, 1) := dc_at (f := decode cX12_come) dAX12_come_q1 2 rfl
theorem dX12_come_85 : decode cX12_come 85 = .ok (.iaload, 1) := dc_at (f := decode cX12_come) dAX12_come_q1 3 rfl
theorem dX12_come_86 : decode cX12_come 86 = .ok (.i2l, 1) := dc_at (f := decode cX12_come) dAX12_come_q1 4 rfl
theorem dX12_come_87 : decode cX12_come 87 = .ok (.iload_n 2, 1) := dc_at (f := decode cX12_come) dAX12_come_q1 5 rfl
theorem dX12_come_88 : decode cX12_come 88 = .ok (.i2l, 1) := dc_at (f := decode cX12_come) dAX12_come_q1 6 rfl
theorem dX12_come_89 : decode cX12_come 89 = .ok (.lmul, 1) := dc_at (f := decode cX12_come) dAX12_come_q1 7 rfl
theorem dX12_come_90 : decode cX12_come 90 = .ok (.ldc2_w 249, 3) := dc_at (f := decode cX12_come) dAX12_come_q1 8 rfl
theorem dX12_come_93 : decode cX12_come 93 = .ok (.ldiv, 1) := dc_at (f := decode cX12_come) dAX12_come_q1 9 rfl
theorem dX12_come_94 : decode cX12_come 94 = .ok (.l2i, 1) := dc_at (f := decode cX12_come) dAX12_come_q1 10 rfl
theorem dX12_come_95 : decode cX12_come 95 = .ok (.istore_n 3, 1) := dc_at (f := decode cX12_come) dAX12_come_q1 11 rfl
theorem dX12_come_96 : decode cX12_come 96 = .ok (.iconst 0, 1) := dc_at (f := decode cX12_come) dAX12_come_q1 12 rfl
theorem dX12_come_97 : decode cX12_come 97 = .ok (.iload_n 3, 1) := dc_at (f := decode cX12_come) dAX12_come_q1 13 rfl
theorem dX12_come_98 : decode cX12_come 98 = .ok (.bipush 100, 2) := dc_at (f := decode cX12_come) dAX12_come_q1 14 rfl
theorem dX12_come_100 : decode cX12_come 100 = .ok (.aload_n 0, 1) := dc_at (f := decode cX12_come) dAX12_come_q1 15 rfl
theorem dX12_come_101 : decode cX12_come 101 = .ok (.getfield 114, 3) := dc_at (f := decode cX12_come) dAX12_come_q1 16 rfl
theorem dX12_come_104 : decode cX12_come 104 = .ok (.iconst 1, 1) := dc_at (f := decode cX12_come) dAX12_come_q1 17 rfl
theorem dX12_come_105 : decode cX12_come 105 = .ok (.iaload, 1) := dc_at (f := decode cX12_come) dAX12_come_q1 18 rfl
theorem dX12_come_106 : decode cX12_come 106 = .ok (.imul, 1) := dc_at (f := decode cX12_come) dAX12_come_q1 19 rfl
theorem dX12_come_107 : decode cX12_come 107 = .ok (.aload_n 0, 1) := dc_at (f := decode cX12_come) dAX12_come_q1 20 rfl
theorem dX12_come_108 : decode cX12_come 108 = .ok (.getfield 251, 3) := dc_at (f := decode cX12_come) dAX12_come_q1 21 rfl
theorem dX12_come_111 : decode cX12_come 111 = .ok (.isub, 1) := dc_at (f := decode cX12_come) dAX12_come_q1 22 rfl
theorem dX12_come_112 : decode cX12_come 112 = .ok (.invokestatic 254, 3) := dc_at (f := decode cX12_come) dAX12_come_q1 23 rfl
theorem dX12_come_115 : decode cX12_come 115 = .ok (.invokestatic 259, 3) := dc_at (f := decode cX12_come) dAX12_come_q1 24 rfl
theorem dX12_come_118 : decode cX12_come 118 = .ok (.istore_n 3, 1) := dc_at (f := decode cX12_come) dAX12_come_q1 25 rfl
theorem dX12_come_119 : decode cX12_come 119 = .ok (.aload_n 0, 1) := dc_at (f := decode cX12_come) dAX12_come_q1 26 rfl
theorem dX12_come_120 : decode cX12_come 120 = .ok (.dup, 1) := dc_at (f := decode cX12_come) dAX12_come_q1 27 rfl
theorem dX12_come_121 : decode cX12_come 121 = .ok (.getfield 251, 3) := dc_at (f := decode cX12_come) dAX12_come_q1 28 rfl
theorem dX12_come_124 : decode cX12_come 124 = .ok (.iload_n 3, 1) := dc_at (f := decode cX12_come) dAX12_come_q1 29 rfl
theorem dX12_come_125 : decode cX12_come 125 = .ok (.iadd, 1) := dc_at (f := decode cX12_come) dAX12_come_q1 30 rfl
theorem dX12_come_126 : decode cX12_come 126 = .ok (.putfield 251, 3) := dc_at (f := decode cX12_come) dAX12_come_q1 31 rfl
theorem dX12_come_129 : decode cX12_come 129 = .ok (.aload_n 0, 1) := dc_at (f := decode cX12_come) dAX12_come_q1 32 rfl
theorem dX12_come_130 : decode cX12_come 130 = .ok (.dup, 1) := dc_at (f := decode cX12_come) dAX12_come_q1 33 rfl
theorem dX12_come_131 : decode cX12_come 131 = .ok (.getfield 262, 3) := dc_at (f := decode cX12_come) dAX12_come_q1 34 rfl
theorem dX12_come_134 : decode cX12_come 134 = .ok (.iload_n 2, 1) := dc_at (f := decode cX12_come) dAX12_come_q1 35 rfl
theorem dX12_come_135 : decode cX12_come 135 = .ok (.iload_n 3, 1) := dc_at (f := decode cX12_come) dAX12_come_q1 36 rfl
theorem dX12_come_136 : decode cX12_come 136 = .ok (.iadd, 1) := dc_at (f := decode cX12_come) dAX12_come_q1 37 rfl
theorem dX12_come_137 : decode cX12_come 137 = .ok (.iadd, 1) := dc_at (f := decode cX12_come) dAX12_come_q1 38 rfl
theorem dX12_come_138 : decode cX12_come 138 = .ok (.putfield 262, 3) := dc_at (f := decode cX12_come) dAX12_come_q1 39 rfl
theorem dX12_come_141 : decode cX12_come 141 = .ok (.iload_n 3, 1) := dc_at (f := decode cX12_come) dAX12_come_q1 40 rfl
theorem dX12_come_142 : decode cX12_come 142 = .ok (.ireturn, 1) := dc_at (f := decode cX12_come) dAX12_come_q1 41 rfl
def dPX12_pay_q0 : List (Nat × (Jvm.ClassFile.Instr × Nat)) := [(0, (.aload_n 0, 1)), (1, (.iload_n 1, 1)), (2, (.invokevirtual 243, 3)), (5, (.ifCond .eq 15, 3)), (8, (.iload_n 2, 1)), (9, (.i2l, 1)), (10, (.lconst 1, 1)), (11, (.ldc2_w 265, 3)), (14, (.invokestatic 58, 3)), (17, (.ifCond .ne 6, 3)), (20, (.bipush (-2), 2)), (22, (.ireturn, 1)), (23, (.aload_n 0, 1)), (24, (.getfield 153, 3)), (27, (.iload_n 1, 1)), (28, (.baload, 1)), (29, (.ifCond .eq 6, 3)), (32, (.bipush (-4), 2)), (34, (.ireturn, 1)), (35, (.iload_n 2, 1)), (36, (.aload_n 0, 1)), (37, (.iload_n 1, 1)), (38, (.invokevirtual 267, 3)), (41, (.if_icmp .le 6, 3)), (44, (.bipush (-2), 2)), (46, (.ireturn, 1)), (47, (.aload_n 0, 1)), (48, (.getfield 224, 3)), (51, (.ifCond .eq 6, 3)), (54, (.bipush (-4), 2)), (56, (.ireturn, 1)), (57, (.aload_n 0, 1)), (58, (.getfield 246, 3)), (61, (.sipush 250, 3)), (64, (.if_icmp .ne 6, 3)), (67, (.bipush (-3), 2)), (69, (.ireturn, 1)), (70, (.iload_n 2, 1)), (71, (.istore_n 3, 1)), (72, (.bipush 84, 2)), (74, (.iload_n 1, 1)), (75, (.imul, 1)), (76, (.istore 4, 2)), (78, (.iload 4, 2)), (80, (.bipush 84, 2)), (82, (.iload_n 1, 1)), (83, (.imul, 1)), (84, (.aload_n 0, 1))]
theorem dAX12_pay_q0 : ∀ x ∈ dPX12_pay_q0, decode cX12_pay x.1 = .ok x.2 := by decide +kernel
theorem dX12_pay_0 : decode cX12_pay 0 = .ok (.aload_n 0, 1) := dc_at (f := decode cX12_pay) dAX12_pay_q0 0 rfl
theorem dX12_pay_1 : decode cX12_pay 1 = .ok (.iload_n 1, 1) := dc_at (f := decode cX12_pay) dAX12_pay_q0 1 rfl
theorem dX12_pay_2 : decode cX12_pay 2 = .ok (.invokevirtual 243, 3) := dc_at (f := decode cX12_pay) dAX12_pay_q0 2 rfl
theorem dX12_pay_5 : decode cX12_pay 5 = .ok (.ifCond .eq 15, 3) := dc_at (f := decode cX12_pay) dAX12_pay_q0 3 rfl
theorem dX12_pay_8 : decode cX12_pay 8 = .ok (.iload_n 2, 1) := dc_at (f := decode cX12_pay) dAX12_pay_q0 4 rfl
theorem dX12_pay_9 : decode cX12_pay 9 = .ok (.i2l, 1) := dc_at (f := decode cX12_pay) dAX12_pay_q0 5 rfl
theorem dX12_pay_10 : decode cX12_pay 10 = .ok (.lconst 1, 1) := dc_at (f := decode cX12_pay) dAX12_pay_q0 6 rfl
theorem dX12_pay_11 : decode cX12_pay 11 = .ok (.ldc2_w 265, 3) := dc_at (f := decode cX12_pay) dAX12_pay_q0 7 rfl
theorem dX12_pay_14 : decode cX12_pay 14 = .ok (.invokestatic 58, 3) := dc_at (f := decode cX12_pay) dAX12_pay_q0 8 rfl
theorem dX12_pay_17 : decode cX12_pay 17 = .ok (.ifCond .ne 6, 3) := dc_at (f := decode cX12_pay) dAX12_pay_q0 9 rfl
theorem dX12_pay_20 : decode cX12_pay 20 = .ok (.bipush (-2), 2) := dc_at (f := decode cX12_pay) dAX12_pay_q0 10 rfl
theorem dX12_pay_22 : decode cX12_pay 22 = .ok (.ireturn, 1) := dc_at (f := decode cX12_pay) dAX12_pay_q0 11 rfl
theorem dX12_pay_23 : decode cX12_pay 23 = .ok (.aload_n 0, 1) := dc_at (f := decode cX12_pay) dAX12_pay_q0 12 rfl
theorem dX12_pay_24 : decode cX12_pay 24 = .ok (.getfield 153, 3) := dc_at (f := decode cX12_pay) dAX12_pay_q0 13 rfl
theorem dX12_pay_27 : decode cX12_pay 27 = .ok (.iload_n 1, 1) := dc_at (f := decode cX12_pay) dAX12_pay_q0 14 rfl
theorem dX12_pay_28 : decode cX12_pay 28 = .ok (.baload, 1) := dc_at (f := decode cX12_pay) dAX12_pay_q0 15 rfl
theorem dX12_pay_29 : decode cX12_pay 29 = .ok (.ifCond .eq 6, 3) := dc_at (f := decode cX12_pay) dAX12_pay_q0 16 rfl
theorem dX12_pay_32 : decode cX12_pay 32 = .ok (.bipush (-4), 2) := dc_at (f := decode cX12_pay) dAX12_pay_q0 17 rfl
theorem dX12_pay_34 : decode cX12_pay 34 = .ok (.ireturn, 1) := dc_at (f := decode cX12_pay) dAX12_pay_q0 18 rfl
theorem dX12_pay_35 : decode cX12_pay 35 = .ok (.iload_n 2, 1) := dc_at (f := decode cX12_pay) dAX12_pay_q0 19 rfl
theorem dX12_pay_36 : decode cX12_pay 36 = .ok (.aload_n 0, 1) := dc_at (f := decode cX12_pay) dAX12_pay_q0 20 rfl
theorem dX12_pay_37 : decode cX12_pay 37 = .ok (.iload_n 1, 1) := dc_at (f := decode cX12_pay) dAX12_pay_q0 21 rfl
theorem dX12_pay_38 : decode cX12_pay 38 = .ok (.invokevirtual 267, 3) := dc_at (f := decode cX12_pay) dAX12_pay_q0 22 rfl
theorem dX12_pay_41 : decode cX12_pay 41 = .ok (.if_icmp .le 6, 3) := dc_at (f := decode cX12_pay) dAX12_pay_q0 23 rfl
theorem dX12_pay_44 : decode cX12_pay 44 = .ok (.bipush (-2), 2) := dc_at (f := decode cX12_pay) dAX12_pay_q0 24 rfl
theorem dX12_pay_46 : decode cX12_pay 46 = .ok (.ireturn, 1) := dc_at (f := decode cX12_pay) dAX12_pay_q0 25 rfl
theorem dX12_pay_47 : decode cX12_pay 47 = .ok (.aload_n 0, 1) := dc_at (f := decode cX12_pay) dAX12_pay_q0 26 rfl
theorem dX12_pay_48 : decode cX12_pay 48 = .ok (.getfield 224, 3) := dc_at (f := decode cX12_pay) dAX12_pay_q0 27 rfl
theorem dX12_pay_51 : decode cX12_pay 51 = .ok (.ifCond .eq 6, 3) := dc_at (f := decode cX12_pay) dAX12_pay_q0 28 rfl
theorem dX12_pay_54 : decode cX12_pay 54 = .ok (.bipush (-4), 2) := dc_at (f := decode cX12_pay) dAX12_pay_q0 29 rfl
theorem dX12_pay_56 : decode cX12_pay 56 = .ok (.ireturn, 1) := dc_at (f := decode cX12_pay) dAX12_pay_q0 30 rfl
theorem dX12_pay_57 : decode cX12_pay 57 = .ok (.aload_n 0, 1) := dc_at (f := decode cX12_pay) dAX12_pay_q0 31 rfl
theorem dX12_pay_58 : decode cX12_pay 58 = .ok (.getfield 246, 3) := dc_at (f := decode cX12_pay) dAX12_pay_q0 32 rfl
theorem dX12_pay_61 : decode cX12_pay 61 = .ok (.sipush 250, 3) := dc_at (f := decode cX12_pay) dAX12_pay_q0 33 rfl
theorem dX12_pay_64 : decode cX12_pay 64 = .ok (.if_icmp .ne 6, 3) := dc_at (f := decode cX12_pay) dAX12_pay_q0 34 rfl
theorem dX12_pay_67 : decode cX12_pay 67 = .ok (.bipush (-3), 2) := dc_at (f := decode cX12_pay) dAX12_pay_q0 35 rfl
theorem dX12_pay_69 : decode cX12_pay 69 = .ok (.ireturn, 1) := dc_at (f := decode cX12_pay) dAX12_pay_q0 36 rfl
theorem dX12_pay_70 : decode cX12_pay 70 = .ok (.iload_n 2, 1) := dc_at (f := decode cX12_pay) dAX12_pay_q0 37 rfl
theorem dX12_pay_71 : decode cX12_pay 71 = .ok (.istore_n 3, 1) := dc_at (f := decode cX12_pay) dAX12_pay_q0 38 rfl
theorem dX12_pay_72 : decode cX12_pay 72 = .ok (.bipush 84, 2) := dc_at (f := decode cX12_pay) dAX12_pay_q0 39 rfl
theorem dX12_pay_74 : decode cX12_pay 74 = .ok (.iload_n 1, 1) := dc_at (f := decode cX12_pay) dAX12_pay_q0 40 rfl
theorem dX12_pay_75 : decode cX12_pay 75 = .ok (.imul, 1) := dc_at (f := decode cX12_pay) dAX12_pay_q0 41 rfl
theorem dX12_pay_76 : decode cX12_pay 76 = .ok (.istore 4, 2) := dc_at (f := decode cX12_pay) dAX12_pay_q0 42 rfl
theorem dX12_pay_78 : decode cX12_pay 78 = .ok (.iload 4, 2) := dc_at (f := decode cX12_pay) dAX12_pay_q0 43 rfl
theorem dX12_pay_80 : decode cX12_pay 80 = .ok (.bipush 84, 2) := dc_at (f := decode cX12_pay) dAX12_pay_q0 44 rfl
theorem dX12_pay_82 : decode cX12_pay 82 = .ok (.iload_n 1, 1) := dc_at (f := decode cX12_pay) dAX12_pay_q0 45 rfl
theorem dX12_pay_83 : decode cX12_pay 83 = .ok (.imul, 1) := dc_at (f := decode cX12_pay) dAX12_pay_q0 46 rfl
theorem dX12_pay_84 : decode cX12_pay 84 = .ok (.aload_n 0, 1) := dc_at (f := decode cX12_pay) dAX12_pay_q0 47 rfl
def dPX12_pay_q1 : List (Nat × (Jvm.ClassFile.Instr × Nat)) := [(85, (.getfield 147, 3)), (88, (.iload_n 1, 1)), (89, (.iaload, 1)), (90, (.iadd, 1)), (91, (.if_icmp .ge 60, 3)), (94, (.aload_n 0, 1)), (95, (.getfield 165, 3)), (98, (.iload 4, 2)), (100, (.baload, 1)), (101, (.ifCond .ne 6, 3)), (104, (.goto 41, 3)), (107, (.iload_n 3, 1)), (108, (.aload_n 0, 1)), (109, (.getfield 159, 3)), (112, (.iload 4, 2)), (114, (.iaload, 1)), (115, (.aload_n 0, 1)), (116, (.getfield 162, 3)), (119, (.iload 4, 2)), (121, (.iaload, 1)), (122, (.isub, 1)), (123, (.invokestatic 254, 3)), (126, (.istore 5, 2)), (128, (.aload_n 0, 1)), (129, (.getfield 162, 3)), (132, (.iload 4, 2)), (134, (.dup2, 1)), (135, (.iaload, 1)), (136, (.iload 5, 2)), (138, (.iadd, 1)), (139, (.iastore, 1)), (140, (.iload_n 3, 1)), (141, (.iload 5, 2)), (143, (.isub, 1)), (144, (.istore_n 3, 1)), (145, (.iinc 4 1, 3)), (148, (.goto (-70), 3)), (151, (.aload_n 0, 1)), (152, (.aload_n 0, 1)), (153, (.getfield 135, 3)), (156, (.iload_n 1, 1)), (157, (.iaload, 1)), (158, (.iload_n 2, 1)), (159, (.invokevirtual 270, 3)), (162, (.ireturn, 1))]
theorem dAX12_pay_q1 : ∀ x ∈ dPX12_pay_q1, decode cX12_pay x.1 = .ok x.2 := by decide +kernel
theorem dX12_pay_85 : decode cX12_pay 85 = .ok (.getfield 147, 3) := dc_at (f := decode cX12_pay) dAX12_pay_q1 0 rfl
theorem dX12_pay_88 : decode cX12_pay 88 = .ok (.iload_n 1, 1) := dc_at (f := decode cX12_pay) dAX12_pay_q1 1 rfl
theorem dX12_pay_89 : decode cX12_pay 89 = .ok (.iaload, 1) := dc_at (f := decode cX12_pay) dAX12_pay_q1 2 rfl
theorem dX12_pay_90 : decode cX12_pay 90 = .ok (.iadd, 1) := dc_at (f := decode cX12_pay) dAX12_pay_q1 3 rfl
theorem dX12_pay_91 : decode cX12_pay 91 = .ok (.if_icmp .ge 60, 3) := dc_at (f := decode cX12_pay) dAX12_pay_q1 4 rfl
theorem dX12_pay_94 : decode cX12_pay 94 = .ok (.aload_n 0, 1) := dc_at (f := decode cX12_pay) dAX12_pay_q1 5 rfl
theorem dX12_pay_95 : decode cX12_pay 95 = .ok (.getfield 165, 3) := dc_at (f := decode cX12_pay) dAX12_pay_q1 6 rfl
theorem dX12_pay_98 : decode cX12_pay 98 = .ok (.iload 4, 2) := dc_at (f := decode cX12_pay) dAX12_pay_q1 7 rfl
theorem dX12_pay_100 : decode cX12_pay 100 = .ok (.baload, 1) := dc_at (f := decode cX12_pay) dAX12_pay_q1 8 rfl
theorem dX12_pay_101 : decode cX12_pay 101 = .ok (.ifCond .ne 6, 3) := dc_at (f := decode cX12_pay) dAX12_pay_q1 9 rfl
theorem dX12_pay_104 : decode cX12_pay 104 = .ok (.goto 41, 3) := dc_at (f := decode cX12_pay) dAX12_pay_q1 10 rfl
theorem dX12_pay_107 : decode cX12_pay 107 = .ok (.iload_n 3, 1) := dc_at (f := decode cX12_pay) dAX12_pay_q1 11 rfl
theorem dX12_pay_108 : decode cX12_pay 108 = .ok (.aload_n 0, 1) := dc_at (f := decode cX12_pay) dAX12_pay_q1 12 rfl
theorem dX12_pay_109 : decode cX12_pay 109 = .ok (.getfield 159, 3) := dc_at (f := decode cX12_pay) dAX12_pay_q1 13 rfl
theorem dX12_pay_112 : decode cX12_pay 112 = .ok (.iload 4, 2) := dc_at (f := decode cX12_pay) dAX12_pay_q1 14 rfl
theorem dX12_pay_114 : decode cX12_pay 114 = .ok (.iaload, 1) := dc_at (f := decode cX12_pay) dAX12_pay_q1 15 rfl
theorem dX12_pay_115 : decode cX12_pay 115 = .ok (.aload_n 0, 1) := dc_at (f := decode cX12_pay) dAX12_pay_q1 16 rfl
theorem dX12_pay_116 : decode cX12_pay 116 = .ok (.getfield 162, 3) := dc_at (f := decode cX12_pay) dAX12_pay_q1 17 rfl
theorem dX12_pay_119 : decode cX12_pay 119 = .ok (.iload 4, 2) := dc_at (f := decode cX12_pay) dAX12_pay_q1 18 rfl
theorem dX12_pay_121 : decode cX12_pay 121 = .ok (.iaload, 1) := dc_at (f := decode cX12_pay) dAX12_pay_q1 19 rfl
theorem dX12_pay_122 : decode cX12_pay 122 = .ok (.isub, 1) := dc_at (f := decode cX12_pay) dAX12_pay_q1 20 rfl
theorem dX12_pay_123 : decode cX12_pay 123 = .ok (.invokestatic 254, 3) := dc_at (f := decode cX12_pay) dAX12_pay_q1 21 rfl
theorem dX12_pay_126 : decode cX12_pay 126 = .ok (.istore 5, 2) := dc_at (f := decode cX12_pay) dAX12_pay_q1 22 rfl
theorem dX12_pay_128 : decode cX12_pay 128 = .ok (.aload_n 0, 1) := dc_at (f := decode cX12_pay) dAX12_pay_q1 23 rfl
theorem dX12_pay_129 : decode cX12_pay 129 = .ok (.getfield 162, 3) := dc_at (f := decode cX12_pay) dAX12_pay_q1 24 rfl
theorem dX12_pay_132 : decode cX12_pay 132 = .ok (.iload 4, 2) := dc_at (f := decode cX12_pay) dAX12_pay_q1 25 rfl
theorem dX12_pay_134 : decode cX12_pay 134 = .ok (.dup2, 1) := dc_at (f := decode cX12_pay) dAX12_pay_q1 26 rfl
theorem dX12_pay_135 : decode cX12_pay 135 = .ok (.iaload, 1) := dc_at (f := decode cX12_pay) dAX12_pay_q1 27 rfl
theorem dX12_pay_136 : decode cX12_pay 136 = .ok (.iload 5, 2) := dc_at (f := decode cX12_pay) dAX12_pay_q1 28 rfl
theorem dX12_pay_138 : decode cX12_pay 138 = .ok (.iadd, 1) := dc_at (f := decode cX12_pay) dAX12_pay_q1 29 rfl
theorem dX12_pay_139 : decode cX12_pay 139 = .ok (.iastore, 1) := dc_at (f := decode cX12_pay) dAX12_pay_q1 30 rfl
theorem dX12_pay_140 : decode cX12_pay 140 = .ok (.iload_n 3, 1) := dc_at (f := decode cX12_pay) dAX12_pay_q1 31 rfl
theorem dX12_pay_141 : decode cX12_pay 141 = .ok (.iload 5, 2) := dc_at (f := decode cX12_pay) dAX12_pay_q1 32 rfl
theorem dX12_pay_143 : decode cX12_pay 143 = .ok (.isub, 1) := dc_at (f := decode cX12_pay) dAX12_pay_q1 33 rfl
theorem dX12_pay_144 : decode cX12_pay 144 = .ok (.istore_n 3, 1) := dc_at (f := decode cX12_pay) dAX12_pay_q1 34 rfl
theorem dX12_pay_145 : decode cX12_pay 145 = .ok (.iinc 4 1, 3) := dc_at (f := decode cX12_pay) dAX12_pay_q1 35 rfl
theorem dX12_pay_148 : decode cX12_pay 148 = .ok (.goto (-70), 3) := dc_at (f := decode cX12_pay) dAX12_pay_q1 36 rfl
theorem dX12_pay_151 : decode cX12_pay 151 = .ok (.aload_n 0, 1) := dc_at (f := decode cX12_pay) dAX12_pay_q1 37 rfl
theorem dX12_pay_152 : decode cX12_pay 152 = .ok (.aload_n 0, 1) := dc_at (f := decode cX12_pay) dAX12_pay_q1 38 rfl
theorem dX12_pay_153 : decode cX12_pay 153 = .ok (.getfield 135, 3) := dc_at (f := decode cX12_pay) dAX12_pay_q1 39 rfl
theorem dX12_pay_156 : decode cX12_pay 156 = .ok (.iload_n 1, 1) := dc_at (f := decode cX12_pay) dAX12_pay_q1 40 rfl
theorem dX12_pay_157 : decode cX12_pay 157 = .ok (.iaload, 1) := dc_at (f := decode cX12_pay) dAX12_pay_q1 41 rfl
theorem dX12_pay_158 : decode cX12_pay 158 = .ok (.iload_n 2, 1) := dc_at (f := decode cX12_pay) dAX12_pay_q1 42 rfl
theorem dX12_pay_159 : decode cX12_pay 159 = .ok (.invokevirtual 270, 3) := dc_at (f := decode cX12_pay) dAX12_pay_q1 43 rfl
theorem dX12_pay_162 : decode cX12_pay 162 = .ok (.ireturn, 1) := dc_at (f := decode cX12_pay) dAX12_pay_q1 44 rfl
def dPX12_gift_q0 : List (Nat × (Jvm.ClassFile.Instr × Nat)) := [(0, (.iload_n 1, 1)), (1, (.invokestatic 218, 3)), (4, (.ifCond .eq 15, 3)), (7, (.iload_n 2, 1)), (8, (.i2l, 1)), (9, (.lconst 1, 1)), (10, (.ldc2_w 265, 3)), (13, (.invokestatic 58, 3)), (16, (.ifCond .ne 6, 3)), (19, (.bipush (-2), 2)), (21, (.ireturn, 1)), (22, (.aload_n 0, 1)), (23, (.getfield 224, 3)), (26, (.ifCond .eq 6, 3)), (29, (.bipush (-4), 2)), (31, (.ireturn, 1)), (32, (.aload_n 0, 1)), (33, (.getfield 246, 3)), (36, (.sipush 250, 3)), (39, (.if_icmp .ne 8, 3)), (42, (.bipush (-3), 2)), (44, (.goto 9, 3)), (47, (.aload_n 0, 1)), (48, (.iload_n 1, 1)), (49, (.iload_n 2, 1)), (50, (.invokevirtual 270, 3)), (53, (.ireturn, 1))]
theorem dAX12_gift_q0 : ∀ x ∈ dPX12_gift_q0, decode cX12_gift x.1 = .ok x.2 := by decide +kernel
theorem dX12_gift_0 : decode cX12_gift 0 = .ok (.iload_n 1, 1) := dc_at (f := decode cX12_gift) dAX12_gift_q0 0 rfl
theorem dX12_gift_1 : decode cX12_gift 1 = .ok (.invokestatic 218, 3) := dc_at (f := decode cX12_gift) dAX12_gift_q0 1 rfl
theorem dX12_gift_4 : decode cX12_gift 4 = .ok (.ifCond .eq 15, 3) := dc_at (f := decode cX12_gift) dAX12_gift_q0 2 rfl
theorem dX12_gift_7 : decode cX12_gift 7 = .ok (.iload_n 2, 1) := dc_at (f := decode cX12_gift) dAX12_gift_q0 3 rfl
theorem dX12_gift_8 : decode cX12_gift 8 = .ok (.i2l, 1) := dc_at (f := decode cX12_gift) dAX12_gift_q0 4 rfl
theorem dX12_gift_9 : decode cX12_gift 9 = .ok (.lconst 1, 1) := dc_at (f := decode cX12_gift) dAX12_gift_q0 5 rfl
theorem dX12_gift_10 : decode cX12_gift 10 = .ok (.ldc2_w 265, 3) := dc_at (f := decode cX12_gift) dAX12_gift_q0 6 rfl
theorem dX12_gift_13 : decode cX12_gift 13 = .ok (.invokestatic 58, 3) := dc_at (f := decode cX12_gift) dAX12_gift_q0 7 rfl
theorem dX12_gift_16 : decode cX12_gift 16 = .ok (.ifCond .ne 6, 3) := dc_at (f := decode cX12_gift) dAX12_gift_q0 8 rfl
theorem dX12_gift_19 : decode cX12_gift 19 = .ok (.bipush (-2), 2) := dc_at (f := decode cX12_gift) dAX12_gift_q0 9 rfl
theorem dX12_gift_21 : decode cX12_gift 21 = .ok (.ireturn, 1) := dc_at (f := decode cX12_gift) dAX12_gift_q0 10 rfl
theorem dX12_gift_22 : decode cX12_gift 22 = .ok (.aload_n 0, 1) := dc_at (f := decode cX12_gift) dAX12_gift_q0 11 rfl
theorem dX12_gift_23 : decode cX12_gift 23 = .ok (.getfield 224, 3) := dc_at (f := decode cX12_gift) dAX12_gift_q0 12 rfl
theorem dX12_gift_26 : decode cX12_gift 26 = .ok (.ifCond .eq 6, 3) := dc_at (f := decode cX12_gift) dAX12_gift_q0 13 rfl
theorem dX12_gift_29 : decode cX12_gift 29 = .ok (.bipush (-4), 2) := dc_at (f := decode cX12_gift) dAX12_gift_q0 14 rfl
theorem dX12_gift_31 : decode cX12_gift 31 = .ok (.ireturn, 1) := dc_at (f := decode cX12_gift) dAX12_gift_q0 15 rfl
theorem dX12_gift_32 : decode cX12_gift 32 = .ok (.aload_n 0, 1) := dc_at (f := decode cX12_gift) dAX12_gift_q0 16 rfl
theorem dX12_gift_33 : decode cX12_gift 33 = .ok (.getfield 246, 3) := dc_at (f := decode cX12_gift) dAX12_gift_q0 17 rfl
theorem dX12_gift_36 : decode cX12_gift 36 = .ok (.sipush 250, 3) := dc_at (f := decode cX12_gift) dAX12_gift_q0 18 rfl
theorem dX12_gift_39 : decode cX12_gift 39 = .ok (.if_icmp .ne 8, 3) := dc_at (f := decode cX12_gift) dAX12_gift_q0 19 rfl
theorem dX12_gift_42 : decode cX12_gift 42 = .ok (.bipush (-3), 2) := dc_at (f := decode cX12_gift) dAX12_gift_q0 20 rfl
theorem dX12_gift_44 : decode cX12_gift 44 = .ok (.goto 9, 3) := dc_at (f := decode cX12_gift) dAX12_gift_q0 21 rfl
theorem dX12_gift_47 : decode cX12_gift 47 = .ok (.aload_n 0, 1) := dc_at (f := decode cX12_gift) dAX12_gift_q0 22 rfl
theorem dX12_gift_48 : decode cX12_gift 48 = .ok (.iload_n 1, 1) := dc_at (f := decode cX12_gift) dAX12_gift_q0 23 rfl
theorem dX12_gift_49 : decode cX12_gift 49 = .ok (.iload_n 2, 1) := dc_at (f := decode cX12_gift) dAX12_gift_q0 24 rfl
theorem dX12_gift_50 : decode cX12_gift 50 = .ok (.invokevirtual 270, 3) := dc_at (f := decode cX12_gift) dAX12_gift_q0 25 rfl
theorem dX12_gift_53 : decode cX12_gift 53 = .ok (.ireturn, 1) := dc_at (f := decode cX12_gift) dAX12_gift_q0 26 rfl
def dPX12_toCome_q0 : List (Nat × (Jvm.ClassFile.Instr × Nat)) := [(0, (.iconst 0, 1)), (1, (.istore_n 2, 1)), (2, (.iconst 0, 1)), (3, (.istore_n 3, 1)), (4, (.iload_n 3, 1)), (5, (.aload_n 0, 1)), (6, (.getfield 147, 3)), (9, (.iload_n 1, 1)), (10, (.iaload, 1)), (11, (.if_icmp .ge 44, 3)), (14, (.iload_n 2, 1)), (15, (.aload_n 0, 1)), (16, (.getfield 165, 3)), (19, (.bipush 84, 2)), (21, (.iload_n 1, 1)), (22, (.imul, 1)), (23, (.iload_n 3, 1)), (24, (.iadd, 1)), (25, (.baload, 1)), (26, (.ifCond .eq 20, 3)), (29, (.aload_n 0, 1)), (30, (.iload_n 1, 1)), (31, (.iload_n 3, 1)), (32, (.invokevirtual 240, 3)), (35, (.aload_n 0, 1)), (36, (.getfield 230, 3)), (39, (.if_icmp .le 7, 3)), (42, (.iconst 1, 1)), (43, (.goto 4, 3)), (46, (.iconst 0, 1)), (47, (.iadd, 1)), (48, (.istore_n 2, 1)), (49, (.iinc 3 1, 3)), (52, (.goto (-48), 3)), (55, (.iload_n 2, 1)), (56, (.ireturn, 1))]
theorem dAX12_toCome_q0 : ∀ x ∈ dPX12_toCome_q0, decode cX12_toCome x.1 = .ok x.2 := by decide +kernel
theorem dX12_toCome_0 : decode cX12_toCome 0 = .ok (.iconst 0, 1) := dc_at (f := decode cX12_toCome) dAX12_toCome_q0 0 rfl
theorem dX12_toCome_1 : decode cX12_toCome 1 = .ok (.istore_n 2, 1) := dc_at (f := decode cX12_toCome) dAX12_toCome_q0 1 rfl
theorem dX12_toCome_2 : decode cX12_toCome 2 = .ok (.iconst 0, 1) := dc_at (f := decode cX12_toCome) dAX12_toCome_q0 2 rfl
theorem dX12_toCome_3 : decode cX12_toCome 3 = .ok (.istore_n 3, 1) := dc_at (f := decode cX12_toCome) dAX12_toCome_q0 3 rfl
theorem dX12_toCome_4 : decode cX12_toCome 4 = .ok (.iload_n 3, 1) := dc_at (f := decode cX12_toCome) dAX12_toCome_q0 4 rfl
theorem dX12_toCome_5 : decode cX12_toCome 5 = .ok (.aload_n 0, 1) := dc_at (f := decode cX12_toCome) dAX12_toCome_q0 5 rfl
theorem dX12_toCome_6 : decode cX12_toCome 6 = .ok (.getfield 147, 3) := dc_at (f := decode cX12_toCome) dAX12_toCome_q0 6 rfl
theorem dX12_toCome_9 : decode cX12_toCome 9 = .ok (.iload_n 1, 1) := dc_at (f := decode cX12_toCome) dAX12_toCome_q0 7 rfl
theorem dX12_toCome_10 : decode cX12_toCome 10 = .ok (.iaload, 1) := dc_at (f := decode cX12_toCome) dAX12_toCome_q0 8 rfl
theorem dX12_toCome_11 : decode cX12_toCome 11 = .ok (.if_icmp .ge 44, 3) := dc_at (f := decode cX12_toCome) dAX12_toCome_q0 9 rfl
theorem dX12_toCome_14 : decode cX12_toCome 14 = .ok (.iload_n 2, 1) := dc_at (f := decode cX12_toCome) dAX12_toCome_q0 10 rfl
theorem dX12_toCome_15 : decode cX12_toCome 15 = .ok (.aload_n 0, 1) := dc_at (f := decode cX12_toCome) dAX12_toCome_q0 11 rfl
theorem dX12_toCome_16 : decode cX12_toCome 16 = .ok (.getfield 165, 3) := dc_at (f := decode cX12_toCome) dAX12_toCome_q0 12 rfl
theorem dX12_toCome_19 : decode cX12_toCome 19 = .ok (.bipush 84, 2) := dc_at (f := decode cX12_toCome) dAX12_toCome_q0 13 rfl
theorem dX12_toCome_21 : decode cX12_toCome 21 = .ok (.iload_n 1, 1) := dc_at (f := decode cX12_toCome) dAX12_toCome_q0 14 rfl
theorem dX12_toCome_22 : decode cX12_toCome 22 = .ok (.imul, 1) := dc_at (f := decode cX12_toCome) dAX12_toCome_q0 15 rfl
theorem dX12_toCome_23 : decode cX12_toCome 23 = .ok (.iload_n 3, 1) := dc_at (f := decode cX12_toCome) dAX12_toCome_q0 16 rfl
theorem dX12_toCome_24 : decode cX12_toCome 24 = .ok (.iadd, 1) := dc_at (f := decode cX12_toCome) dAX12_toCome_q0 17 rfl
theorem dX12_toCome_25 : decode cX12_toCome 25 = .ok (.baload, 1) := dc_at (f := decode cX12_toCome) dAX12_toCome_q0 18 rfl
theorem dX12_toCome_26 : decode cX12_toCome 26 = .ok (.ifCond .eq 20, 3) := dc_at (f := decode cX12_toCome) dAX12_toCome_q0 19 rfl
theorem dX12_toCome_29 : decode cX12_toCome 29 = .ok (.aload_n 0, 1) := dc_at (f := decode cX12_toCome) dAX12_toCome_q0 20 rfl
theorem dX12_toCome_30 : decode cX12_toCome 30 = .ok (.iload_n 1, 1) := dc_at (f := decode cX12_toCome) dAX12_toCome_q0 21 rfl
theorem dX12_toCome_31 : decode cX12_toCome 31 = .ok (.iload_n 3, 1) := dc_at (f := decode cX12_toCome) dAX12_toCome_q0 22 rfl
theorem dX12_toCome_32 : decode cX12_toCome 32 = .ok (.invokevirtual 240, 3) := dc_at (f := decode cX12_toCome) dAX12_toCome_q0 23 rfl
theorem dX12_toCome_35 : decode cX12_toCome 35 = .ok (.aload_n 0, 1) := dc_at (f := decode cX12_toCome) dAX12_toCome_q0 24 rfl
theorem dX12_toCome_36 : decode cX12_toCome 36 = .ok (.getfield 230, 3) := dc_at (f := decode cX12_toCome) dAX12_toCome_q0 25 rfl
theorem dX12_toCome_39 : decode cX12_toCome 39 = .ok (.if_icmp .le 7, 3) := dc_at (f := decode cX12_toCome) dAX12_toCome_q0 26 rfl
theorem dX12_toCome_42 : decode cX12_toCome 42 = .ok (.iconst 1, 1) := dc_at (f := decode cX12_toCome) dAX12_toCome_q0 27 rfl
theorem dX12_toCome_43 : decode cX12_toCome 43 = .ok (.goto 4, 3) := dc_at (f := decode cX12_toCome) dAX12_toCome_q0 28 rfl
theorem dX12_toCome_46 : decode cX12_toCome 46 = .ok (.iconst 0, 1) := dc_at (f := decode cX12_toCome) dAX12_toCome_q0 29 rfl
theorem dX12_toCome_47 : decode cX12_toCome 47 = .ok (.iadd, 1) := dc_at (f := decode cX12_toCome) dAX12_toCome_q0 30 rfl
theorem dX12_toCome_48 : decode cX12_toCome 48 = .ok (.istore_n 2, 1) := dc_at (f := decode cX12_toCome) dAX12_toCome_q0 31 rfl
theorem dX12_toCome_49 : decode cX12_toCome 49 = .ok (.iinc 3 1, 3) := dc_at (f := decode cX12_toCome) dAX12_toCome_q0 32 rfl
theorem dX12_toCome_52 : decode cX12_toCome 52 = .ok (.goto (-48), 3) := dc_at (f := decode cX12_toCome) dAX12_toCome_q0 33 rfl
theorem dX12_toCome_55 : decode cX12_toCome 55 = .ok (.iload_n 2, 1) := dc_at (f := decode cX12_toCome) dAX12_toCome_q0 34 rfl
theorem dX12_toCome_56 : decode cX12_toCome 56 = .ok (.ireturn, 1) := dc_at (f := decode cX12_toCome) dAX12_toCome_q0 35 rfl
def dPX12_takeUp_q0 : List (Nat × (Jvm.ClassFile.Instr × Nat)) := [(0, (.aload_n 0, 1)), (1, (.iload_n 1, 1)), (2, (.invokevirtual 243, 3)), (5, (.ifCond .ne 6, 3)), (8, (.bipush (-2), 2)), (10, (.ireturn, 1)), (11, (.aload_n 0, 1)), (12, (.getfield 224, 3)), (15, (.ifCond .ne 21, 3)), (18, (.aload_n 0, 1)), (19, (.getfield 153, 3)), (22, (.iload_n 1, 1)), (23, (.baload, 1)), (24, (.ifCond .eq 12, 3)), (27, (.aload_n 0, 1)), (28, (.getfield 156, 3)), (31, (.iload_n 1, 1)), (32, (.baload, 1)), (33, (.ifCond .eq 6, 3)), (36, (.bipush (-4), 2)), (38, (.ireturn, 1)), (39, (.aload_n 0, 1)), (40, (.getfield 153, 3)), (43, (.iload_n 1, 1)), (44, (.iconst 0, 1)), (45, (.bastore, 1)), (46, (.aload_n 0, 1)), (47, (.getfield 156, 3)), (50, (.iload_n 1, 1)), (51, (.iconst 1, 1)), (52, (.bastore, 1)), (53, (.iconst 0, 1)), (54, (.istore_n 2, 1)), (55, (.iload_n 2, 1)), (56, (.aload_n 0, 1)), (57, (.getfield 147, 3)), (60, (.iload_n 1, 1)), (61, (.iaload, 1)), (62, (.if_icmp .ge 59, 3)), (65, (.aload_n 0, 1)), (66, (.iload_n 1, 1)), (67, (.iload_n 2, 1)), (68, (.invokevirtual 240, 3)), (71, (.i2l, 1)), (72, (.aload_n 0, 1)), (73, (.getfield 230, 3)), (76, (.i2l, 1)), (77, (.lconst 1, 1))]
theorem dAX12_takeUp_q0 : ∀ x ∈ dPX12_takeUp_q0, decode cX12_takeUp x.1 = .ok x.2 := by decide +kernel
theorem dX12_takeUp_0 : decode cX12_takeUp 0 = .ok (.aload_n 0, 1) := dc_at (f := decode cX12_takeUp) dAX12_takeUp_q0 0 rfl
theorem dX12_takeUp_1 : decode cX12_takeUp 1 = .ok (.iload_n 1, 1) := dc_at (f := decode cX12_takeUp) dAX12_takeUp_q0 1 rfl
theorem dX12_takeUp_2 : decode cX12_takeUp 2 = .ok (.invokevirtual 243, 3) := dc_at (f := decode cX12_takeUp) dAX12_takeUp_q0 2 rfl
theorem dX12_takeUp_5 : decode cX12_takeUp 5 = .ok (.ifCond .ne 6, 3) := dc_at (f := decode cX12_takeUp) dAX12_takeUp_q0 3 rfl
theorem dX12_takeUp_8 : decode cX12_takeUp 8 = .ok (.bipush (-2), 2) := dc_at (f := decode cX12_takeUp) dAX12_takeUp_q0 4 rfl
theorem dX12_takeUp_10 : decode cX12_takeUp 10 = .ok (.ireturn, 1) := dc_at (f := decode cX12_takeUp) dAX12_takeUp_q0 5 rfl
theorem dX12_takeUp_11 : decode cX12_takeUp 11 = .ok (.aload_n 0, 1) := dc_at (f := decode cX12_takeUp) dAX12_takeUp_q0 6 rfl
theorem dX12_takeUp_12 : decode cX12_takeUp 12 = .ok (.getfield 224, 3) := dc_at (f := decode cX12_takeUp) dAX12_takeUp_q0 7 rfl
theorem dX12_takeUp_15 : decode cX12_takeUp 15 = .ok (.ifCond .ne 21, 3) := dc_at (f := decode cX12_takeUp) dAX12_takeUp_q0 8 rfl
theorem dX12_takeUp_18 : decode cX12_takeUp 18 = .ok (.aload_n 0, 1) := dc_at (f := decode cX12_takeUp) dAX12_takeUp_q0 9 rfl
theorem dX12_takeUp_19 : decode cX12_takeUp 19 = .ok (.getfield 153, 3) := dc_at (f := decode cX12_takeUp) dAX12_takeUp_q0 10 rfl
theorem dX12_takeUp_22 : decode cX12_takeUp 22 = .ok (.iload_n 1, 1) := dc_at (f := decode cX12_takeUp) dAX12_takeUp_q0 11 rfl
theorem dX12_takeUp_23 : decode cX12_takeUp 23 = .ok (.baload, 1) := dc_at (f := decode cX12_takeUp) dAX12_takeUp_q0 12 rfl
theorem dX12_takeUp_24 : decode cX12_takeUp 24 = .ok (.ifCond .eq 12, 3) := dc_at (f := decode cX12_takeUp) dAX12_takeUp_q0 13 rfl
theorem dX12_takeUp_27 : decode cX12_takeUp 27 = .ok (.aload_n 0, 1) := dc_at (f := decode cX12_takeUp) dAX12_takeUp_q0 14 rfl
theorem dX12_takeUp_28 : decode cX12_takeUp 28 = .ok (.getfield 156, 3) := dc_at (f := decode cX12_takeUp) dAX12_takeUp_q0 15 rfl
theorem dX12_takeUp_31 : decode cX12_takeUp 31 = .ok (.iload_n 1, 1) := dc_at (f := decode cX12_takeUp) dAX12_takeUp_q0 16 rfl
theorem dX12_takeUp_32 : decode cX12_takeUp 32 = .ok (.baload, 1) := dc_at (f := decode cX12_takeUp) dAX12_takeUp_q0 17 rfl
theorem dX12_takeUp_33 : decode cX12_takeUp 33 = .ok (.ifCond .eq 6, 3) := dc_at (f := decode cX12_takeUp) dAX12_takeUp_q0 18 rfl
theorem dX12_takeUp_36 : decode cX12_takeUp 36 = .ok (.bipush (-4), 2) := dc_at (f := decode cX12_takeUp) dAX12_takeUp_q0 19 rfl
theorem dX12_takeUp_38 : decode cX12_takeUp 38 = .ok (.ireturn, 1) := dc_at (f := decode cX12_takeUp) dAX12_takeUp_q0 20 rfl
theorem dX12_takeUp_39 : decode cX12_takeUp 39 = .ok (.aload_n 0, 1) := dc_at (f := decode cX12_takeUp) dAX12_takeUp_q0 21 rfl
theorem dX12_takeUp_40 : decode cX12_takeUp 40 = .ok (.getfield 153, 3) := dc_at (f := decode cX12_takeUp) dAX12_takeUp_q0 22 rfl
theorem dX12_takeUp_43 : decode cX12_takeUp 43 = .ok (.iload_n 1, 1) := dc_at (f := decode cX12_takeUp) dAX12_takeUp_q0 23 rfl
theorem dX12_takeUp_44 : decode cX12_takeUp 44 = .ok (.iconst 0, 1) := dc_at (f := decode cX12_takeUp) dAX12_takeUp_q0 24 rfl
theorem dX12_takeUp_45 : decode cX12_takeUp 45 = .ok (.bastore, 1) := dc_at (f := decode cX12_takeUp) dAX12_takeUp_q0 25 rfl
theorem dX12_takeUp_46 : decode cX12_takeUp 46 = .ok (.aload_n 0, 1) := dc_at (f := decode cX12_takeUp) dAX12_takeUp_q0 26 rfl
theorem dX12_takeUp_47 : decode cX12_takeUp 47 = .ok (.getfield 156, 3) := dc_at (f := decode cX12_takeUp) dAX12_takeUp_q0 27 rfl
theorem dX12_takeUp_50 : decode cX12_takeUp 50 = .ok (.iload_n 1, 1) := dc_at (f := decode cX12_takeUp) dAX12_takeUp_q0 28 rfl
theorem dX12_takeUp_51 : decode cX12_takeUp 51 = .ok (.iconst 1, 1) := dc_at (f := decode cX12_takeUp) dAX12_takeUp_q0 29 rfl
theorem dX12_takeUp_52 : decode cX12_takeUp 52 = .ok (.bastore, 1) := dc_at (f := decode cX12_takeUp) dAX12_takeUp_q0 30 rfl
theorem dX12_takeUp_53 : decode cX12_takeUp 53 = .ok (.iconst 0, 1) := dc_at (f := decode cX12_takeUp) dAX12_takeUp_q0 31 rfl
theorem dX12_takeUp_54 : decode cX12_takeUp 54 = .ok (.istore_n 2, 1) := dc_at (f := decode cX12_takeUp) dAX12_takeUp_q0 32 rfl
theorem dX12_takeUp_55 : decode cX12_takeUp 55 = .ok (.iload_n 2, 1) := dc_at (f := decode cX12_takeUp) dAX12_takeUp_q0 33 rfl
theorem dX12_takeUp_56 : decode cX12_takeUp 56 = .ok (.aload_n 0, 1) := dc_at (f := decode cX12_takeUp) dAX12_takeUp_q0 34 rfl
theorem dX12_takeUp_57 : decode cX12_takeUp 57 = .ok (.getfield 147, 3) := dc_at (f := decode cX12_takeUp) dAX12_takeUp_q0 35 rfl
theorem dX12_takeUp_60 : decode cX12_takeUp 60 = .ok (.iload_n 1, 1) := dc_at (f := decode cX12_takeUp) dAX12_takeUp_q0 36 rfl
theorem dX12_takeUp_61 : decode cX12_takeUp 61 = .ok (.iaload, 1) := dc_at (f := decode cX12_takeUp) dAX12_takeUp_q0 37 rfl
theorem dX12_takeUp_62 : decode cX12_takeUp 62 = .ok (.if_icmp .ge 59, 3) := dc_at (f := decode cX12_takeUp) dAX12_takeUp_q0 38 rfl
theorem dX12_takeUp_65 : decode cX12_takeUp 65 = .ok (.aload_n 0, 1) := dc_at (f := decode cX12_takeUp) dAX12_takeUp_q0 39 rfl
theorem dX12_takeUp_66 : decode cX12_takeUp 66 = .ok (.iload_n 1, 1) := dc_at (f := decode cX12_takeUp) dAX12_takeUp_q0 40 rfl
theorem dX12_takeUp_67 : decode cX12_takeUp 67 = .ok (.iload_n 2, 1) := dc_at (f := decode cX12_takeUp) dAX12_takeUp_q0 41 rfl
theorem dX12_takeUp_68 : decode cX12_takeUp 68 = .ok (.invokevirtual 240, 3) := dc_at (f := decode cX12_takeUp) dAX12_takeUp_q0 42 rfl
theorem dX12_takeUp_71 : decode cX12_takeUp 71 = .ok (.i2l, 1) := dc_at (f := decode cX12_takeUp) dAX12_takeUp_q0 43 rfl
theorem dX12_takeUp_72 : decode cX12_takeUp 72 = .ok (.aload_n 0, 1) := dc_at (f := decode cX12_takeUp) dAX12_takeUp_q0 44 rfl
theorem dX12_takeUp_73 : decode cX12_takeUp 73 = .ok (.getfield 230, 3) := dc_at (f := decode cX12_takeUp) dAX12_takeUp_q0 45 rfl
theorem dX12_takeUp_76 : decode cX12_takeUp 76 = .ok (.i2l, 1) := dc_at (f := decode cX12_takeUp) dAX12_takeUp_q0 46 rfl
theorem dX12_takeUp_77 : decode cX12_takeUp 77 = .ok (.lconst 1, 1) := dc_at (f := decode cX12_takeUp) dAX12_takeUp_q0 47 rfl
def dPX12_takeUp_q1 : List (Nat × (Jvm.ClassFile.Instr × Nat)) := [(78, (.ladd, 1)), (79, (.ldc2_w 216, 3)), (82, (.invokestatic 58, 3)), (85, (.ifCond .ne 6, 3)), (88, (.goto 27, 3)), (91, (.aload_n 0, 1)), (92, (.getfield 165, 3)), (95, (.bipush 84, 2)), (97, (.iload_n 1, 1)), (98, (.imul, 1)), (99, (.iload_n 2, 1)), (100, (.iadd, 1)), (101, (.iconst 1, 1)), (102, (.bastore, 1)), (103, (.aload_n 0, 1)), (104, (.getfield 168, 3)), (107, (.bipush 84, 2)), (109, (.iload_n 1, 1)), (110, (.imul, 1)), (111, (.iload_n 2, 1)), (112, (.iadd, 1)), (113, (.iconst 1, 1)), (114, (.bastore, 1)), (115, (.iinc 2 1, 3)), (118, (.goto (-63), 3)), (121, (.aload_n 0, 1)), (122, (.iload_n 1, 1)), (123, (.invokevirtual 273, 3)), (126, (.ireturn, 1))]
theorem dAX12_takeUp_q1 : ∀ x ∈ dPX12_takeUp_q1, decode cX12_takeUp x.1 = .ok x.2 := by decide +kernel
theorem dX12_takeUp_78 : decode cX12_takeUp 78 = .ok (.ladd, 1) := dc_at (f := decode cX12_takeUp) dAX12_takeUp_q1 0 rfl
theorem dX12_takeUp_79 : decode cX12_takeUp 79 = .ok (.ldc2_w 216, 3) := dc_at (f := decode cX12_takeUp) dAX12_takeUp_q1 1 rfl
theorem dX12_takeUp_82 : decode cX12_takeUp 82 = .ok (.invokestatic 58, 3) := dc_at (f := decode cX12_takeUp) dAX12_takeUp_q1 2 rfl
theorem dX12_takeUp_85 : decode cX12_takeUp 85 = .ok (.ifCond .ne 6, 3) := dc_at (f := decode cX12_takeUp) dAX12_takeUp_q1 3 rfl
theorem dX12_takeUp_88 : decode cX12_takeUp 88 = .ok (.goto 27, 3) := dc_at (f := decode cX12_takeUp) dAX12_takeUp_q1 4 rfl
theorem dX12_takeUp_91 : decode cX12_takeUp 91 = .ok (.aload_n 0, 1) := dc_at (f := decode cX12_takeUp) dAX12_takeUp_q1 5 rfl
theorem dX12_takeUp_92 : decode cX12_takeUp 92 = .ok (.getfield 165, 3) := dc_at (f := decode cX12_takeUp) dAX12_takeUp_q1 6 rfl
theorem dX12_takeUp_95 : decode cX12_takeUp 95 = .ok (.bipush 84, 2) := dc_at (f := decode cX12_takeUp) dAX12_takeUp_q1 7 rfl
theorem dX12_takeUp_97 : decode cX12_takeUp 97 = .ok (.iload_n 1, 1) := dc_at (f := decode cX12_takeUp) dAX12_takeUp_q1 8 rfl
theorem dX12_takeUp_98 : decode cX12_takeUp 98 = .ok (.imul, 1) := dc_at (f := decode cX12_takeUp) dAX12_takeUp_q1 9 rfl
theorem dX12_takeUp_99 : decode cX12_takeUp 99 = .ok (.iload_n 2, 1) := dc_at (f := decode cX12_takeUp) dAX12_takeUp_q1 10 rfl
theorem dX12_takeUp_100 : decode cX12_takeUp 100 = .ok (.iadd, 1) := dc_at (f := decode cX12_takeUp) dAX12_takeUp_q1 11 rfl
theorem dX12_takeUp_101 : decode cX12_takeUp 101 = .ok (.iconst 1, 1) := dc_at (f := decode cX12_takeUp) dAX12_takeUp_q1 12 rfl
theorem dX12_takeUp_102 : decode cX12_takeUp 102 = .ok (.bastore, 1) := dc_at (f := decode cX12_takeUp) dAX12_takeUp_q1 13 rfl
theorem dX12_takeUp_103 : decode cX12_takeUp 103 = .ok (.aload_n 0, 1) := dc_at (f := decode cX12_takeUp) dAX12_takeUp_q1 14 rfl
theorem dX12_takeUp_104 : decode cX12_takeUp 104 = .ok (.getfield 168, 3) := dc_at (f := decode cX12_takeUp) dAX12_takeUp_q1 15 rfl
theorem dX12_takeUp_107 : decode cX12_takeUp 107 = .ok (.bipush 84, 2) := dc_at (f := decode cX12_takeUp) dAX12_takeUp_q1 16 rfl
theorem dX12_takeUp_109 : decode cX12_takeUp 109 = .ok (.iload_n 1, 1) := dc_at (f := decode cX12_takeUp) dAX12_takeUp_q1 17 rfl
theorem dX12_takeUp_110 : decode cX12_takeUp 110 = .ok (.imul, 1) := dc_at (f := decode cX12_takeUp) dAX12_takeUp_q1 18 rfl
theorem dX12_takeUp_111 : decode cX12_takeUp 111 = .ok (.iload_n 2, 1) := dc_at (f := decode cX12_takeUp) dAX12_takeUp_q1 19 rfl
theorem dX12_takeUp_112 : decode cX12_takeUp 112 = .ok (.iadd, 1) := dc_at (f := decode cX12_takeUp) dAX12_takeUp_q1 20 rfl
theorem dX12_takeUp_113 : decode cX12_takeUp 113 = .ok (.iconst 1, 1) := dc_at (f := decode cX12_takeUp) dAX12_takeUp_q1 21 rfl
theorem dX12_takeUp_114 : decode cX12_takeUp 114 = .ok (.bastore, 1) := dc_at (f := decode cX12_takeUp) dAX12_takeUp_q1 22 rfl
theorem dX12_takeUp_115 : decode cX12_takeUp 115 = .ok (.iinc 2 1, 3) := dc_at (f := decode cX12_takeUp) dAX12_takeUp_q1 23 rfl
theorem dX12_takeUp_118 : decode cX12_takeUp 118 = .ok (.goto (-63), 3) := dc_at (f := decode cX12_takeUp) dAX12_takeUp_q1 24 rfl
theorem dX12_takeUp_121 : decode cX12_takeUp 121 = .ok (.aload_n 0, 1) := dc_at (f := decode cX12_takeUp) dAX12_takeUp_q1 25 rfl
theorem dX12_takeUp_122 : decode cX12_takeUp 122 = .ok (.iload_n 1, 1) := dc_at (f := decode cX12_takeUp) dAX12_takeUp_q1 26 rfl
theorem dX12_takeUp_123 : decode cX12_takeUp 123 = .ok (.invokevirtual 273, 3) := dc_at (f := decode cX12_takeUp) dAX12_takeUp_q1 27 rfl
theorem dX12_takeUp_126 : decode cX12_takeUp 126 = .ok (.ireturn, 1) := dc_at (f := decode cX12_takeUp) dAX12_takeUp_q1 28 rfl
def dPX12_claim_q0 : List (Nat × (Jvm.ClassFile.Instr × Nat)) := [(0, (.aload_n 0, 1)), (1, (.getfield 224, 3)), (4, (.ifCond .eq 6, 3)), (7, (.bipush (-4), 2)), (9, (.ireturn, 1)), (10, (.iconst 0, 1)), (11, (.istore_n 1, 1)), (12, (.iconst 0, 1)), (13, (.istore_n 2, 1)), (14, (.iload_n 2, 1)), (15, (.aload_n 0, 1)), (16, (.getfield 246, 3)), (19, (.if_icmp .ge 104, 3)), (22, (.aload_n 0, 1)), (23, (.getfield 114, 3)), (26, (.iconst 3, 1)), (27, (.iaload, 1)), (28, (.ifCond .le 95, 3)), (31, (.aload_n 0, 1)), (32, (.getfield 171, 3)), (35, (.iload_n 2, 1)), (36, (.iaload, 1)), (37, (.istore_n 3, 1)), (38, (.aload_n 0, 1)), (39, (.getfield 180, 3)), (42, (.iload_n 2, 1)), (43, (.baload, 1)), (44, (.ifCond .ne 73, 3)), (47, (.aload_n 0, 1)), (48, (.getfield 120, 3)), (51, (.iload_n 3, 1)), (52, (.iaload, 1)), (53, (.iconst (-1), 1)), (54, (.if_icmp .eq 63, 3)), (57, (.aload_n 0, 1)), (58, (.getfield 174, 3)), (61, (.iload_n 2, 1)), (62, (.iaload, 1)), (63, (.i2l, 1)), (64, (.aload_n 0, 1)), (65, (.getfield 120, 3)), (68, (.iload_n 3, 1)), (69, (.iaload, 1)), (70, (.i2l, 1)), (71, (.aload_n 0, 1)), (72, (.getfield 123, 3)), (75, (.iload_n 3, 1)), (76, (.iaload, 1))]
theorem dAX12_claim_q0 : ∀ x ∈ dPX12_claim_q0, decode cX12_claim x.1 = .ok x.2 := by decide +kernel
theorem dX12_claim_0 : decode cX12_claim 0 = .ok (.aload_n 0, 1) := dc_at (f := decode cX12_claim) dAX12_claim_q0 0 rfl
theorem dX12_claim_1 : decode cX12_claim 1 = .ok (.getfield 224, 3) := dc_at (f := decode cX12_claim) dAX12_claim_q0 1 rfl
theorem dX12_claim_4 : decode cX12_claim 4 = .ok (.ifCond .eq 6, 3) := dc_at (f := decode cX12_claim) dAX12_claim_q0 2 rfl
theorem dX12_claim_7 : decode cX12_claim 7 = .ok (.bipush (-4), 2) := dc_at (f := decode cX12_claim) dAX12_claim_q0 3 rfl
theorem dX12_claim_9 : decode cX12_claim 9 = .ok (.ireturn, 1) := dc_at (f := decode cX12_claim) dAX12_claim_q0 4 rfl
theorem dX12_claim_10 : decode cX12_claim 10 = .ok (.iconst 0, 1) := dc_at (f := decode cX12_claim) dAX12_claim_q0 5 rfl
theorem dX12_claim_11 : decode cX12_claim 11 = .ok (.istore_n 1, 1) := dc_at (f := decode cX12_claim) dAX12_claim_q0 6 rfl
theorem dX12_claim_12 : decode cX12_claim 12 = .ok (.iconst 0, 1) := dc_at (f := decode cX12_claim) dAX12_claim_q0 7 rfl
theorem dX12_claim_13 : decode cX12_claim 13 = .ok (.istore_n 2, 1) := dc_at (f := decode cX12_claim) dAX12_claim_q0 8 rfl
theorem dX12_claim_14 : decode cX12_claim 14 = .ok (.iload_n 2, 1) := dc_at (f := decode cX12_claim) dAX12_claim_q0 9 rfl
theorem dX12_claim_15 : decode cX12_claim 15 = .ok (.aload_n 0, 1) := dc_at (f := decode cX12_claim) dAX12_claim_q0 10 rfl
theorem dX12_claim_16 : decode cX12_claim 16 = .ok (.getfield 246, 3) := dc_at (f := decode cX12_claim) dAX12_claim_q0 11 rfl
theorem dX12_claim_19 : decode cX12_claim 19 = .ok (.if_icmp .ge 104, 3) := dc_at (f := decode cX12_claim) dAX12_claim_q0 12 rfl
theorem dX12_claim_22 : decode cX12_claim 22 = .ok (.aload_n 0, 1) := dc_at (f := decode cX12_claim) dAX12_claim_q0 13 rfl
theorem dX12_claim_23 : decode cX12_claim 23 = .ok (.getfield 114, 3) := dc_at (f := decode cX12_claim) dAX12_claim_q0 14 rfl
theorem dX12_claim_26 : decode cX12_claim 26 = .ok (.iconst 3, 1) := dc_at (f := decode cX12_claim) dAX12_claim_q0 15 rfl
theorem dX12_claim_27 : decode cX12_claim 27 = .ok (.iaload, 1) := dc_at (f := decode cX12_claim) dAX12_claim_q0 16 rfl
theorem dX12_claim_28 : decode cX12_claim 28 = .ok (.ifCond .le 95, 3) := dc_at (f := decode cX12_claim) dAX12_claim_q0 17 rfl
theorem dX12_claim_31 : decode cX12_claim 31 = .ok (.aload_n 0, 1) := dc_at (f := decode cX12_claim) dAX12_claim_q0 18 rfl
theorem dX12_claim_32 : decode cX12_claim 32 = .ok (.getfield 171, 3) := dc_at (f := decode cX12_claim) dAX12_claim_q0 19 rfl
theorem dX12_claim_35 : decode cX12_claim 35 = .ok (.iload_n 2, 1) := dc_at (f := decode cX12_claim) dAX12_claim_q0 20 rfl
theorem dX12_claim_36 : decode cX12_claim 36 = .ok (.iaload, 1) := dc_at (f := decode cX12_claim) dAX12_claim_q0 21 rfl
theorem dX12_claim_37 : decode cX12_claim 37 = .ok (.istore_n 3, 1) := dc_at (f := decode cX12_claim) dAX12_claim_q0 22 rfl
theorem dX12_claim_38 : decode cX12_claim 38 = .ok (.aload_n 0, 1) := dc_at (f := decode cX12_claim) dAX12_claim_q0 23 rfl
theorem dX12_claim_39 : decode cX12_claim 39 = .ok (.getfield 180, 3) := dc_at (f := decode cX12_claim) dAX12_claim_q0 24 rfl
theorem dX12_claim_42 : decode cX12_claim 42 = .ok (.iload_n 2, 1) := dc_at (f := decode cX12_claim) dAX12_claim_q0 25 rfl
theorem dX12_claim_43 : decode cX12_claim 43 = .ok (.baload, 1) := dc_at (f := decode cX12_claim) dAX12_claim_q0 26 rfl
theorem dX12_claim_44 : decode cX12_claim 44 = .ok (.ifCond .ne 73, 3) := dc_at (f := decode cX12_claim) dAX12_claim_q0 27 rfl
theorem dX12_claim_47 : decode cX12_claim 47 = .ok (.aload_n 0, 1) := dc_at (f := decode cX12_claim) dAX12_claim_q0 28 rfl
theorem dX12_claim_48 : decode cX12_claim 48 = .ok (.getfield 120, 3) := dc_at (f := decode cX12_claim) dAX12_claim_q0 29 rfl
theorem dX12_claim_51 : decode cX12_claim 51 = .ok (.iload_n 3, 1) := dc_at (f := decode cX12_claim) dAX12_claim_q0 30 rfl
theorem dX12_claim_52 : decode cX12_claim 52 = .ok (.iaload, 1) := dc_at (f := decode cX12_claim) dAX12_claim_q0 31 rfl
theorem dX12_claim_53 : decode cX12_claim 53 = .ok (.iconst (-1), 1) := dc_at (f := decode cX12_claim) dAX12_claim_q0 32 rfl
theorem dX12_claim_54 : decode cX12_claim 54 = .ok (.if_icmp .eq 63, 3) := dc_at (f := decode cX12_claim) dAX12_claim_q0 33 rfl
theorem dX12_claim_57 : decode cX12_claim 57 = .ok (.aload_n 0, 1) := dc_at (f := decode cX12_claim) dAX12_claim_q0 34 rfl
theorem dX12_claim_58 : decode cX12_claim 58 = .ok (.getfield 174, 3) := dc_at (f := decode cX12_claim) dAX12_claim_q0 35 rfl
theorem dX12_claim_61 : decode cX12_claim 61 = .ok (.iload_n 2, 1) := dc_at (f := decode cX12_claim) dAX12_claim_q0 36 rfl
theorem dX12_claim_62 : decode cX12_claim 62 = .ok (.iaload, 1) := dc_at (f := decode cX12_claim) dAX12_claim_q0 37 rfl
theorem dX12_claim_63 : decode cX12_claim 63 = .ok (.i2l, 1) := dc_at (f := decode cX12_claim) dAX12_claim_q0 38 rfl
theorem dX12_claim_64 : decode cX12_claim 64 = .ok (.aload_n 0, 1) := dc_at (f := decode cX12_claim) dAX12_claim_q0 39 rfl
theorem dX12_claim_65 : decode cX12_claim 65 = .ok (.getfield 120, 3) := dc_at (f := decode cX12_claim) dAX12_claim_q0 40 rfl
theorem dX12_claim_68 : decode cX12_claim 68 = .ok (.iload_n 3, 1) := dc_at (f := decode cX12_claim) dAX12_claim_q0 41 rfl
theorem dX12_claim_69 : decode cX12_claim 69 = .ok (.iaload, 1) := dc_at (f := decode cX12_claim) dAX12_claim_q0 42 rfl
theorem dX12_claim_70 : decode cX12_claim 70 = .ok (.i2l, 1) := dc_at (f := decode cX12_claim) dAX12_claim_q0 43 rfl
theorem dX12_claim_71 : decode cX12_claim 71 = .ok (.aload_n 0, 1) := dc_at (f := decode cX12_claim) dAX12_claim_q0 44 rfl
theorem dX12_claim_72 : decode cX12_claim 72 = .ok (.getfield 123, 3) := dc_at (f := decode cX12_claim) dAX12_claim_q0 45 rfl
theorem dX12_claim_75 : decode cX12_claim 75 = .ok (.iload_n 3, 1) := dc_at (f := decode cX12_claim) dAX12_claim_q0 46 rfl
theorem dX12_claim_76 : decode cX12_claim 76 = .ok (.iaload, 1) := dc_at (f := decode cX12_claim) dAX12_claim_q0 47 rfl
def dPX12_claim_q1 : List (Nat × (Jvm.ClassFile.Instr × Nat)) := [(77, (.i2l, 1)), (78, (.invokestatic 58, 3)), (81, (.ifCond .ne 6, 3)), (84, (.goto 33, 3)), (87, (.aload_n 0, 1)), (88, (.getfield 180, 3)), (91, (.iload_n 2, 1)), (92, (.iconst 1, 1)), (93, (.bastore, 1)), (94, (.iload_n 1, 1)), (95, (.aload_n 0, 1)), (96, (.getfield 114, 3)), (99, (.iconst 3, 1)), (100, (.iaload, 1)), (101, (.i2l, 1)), (102, (.aload_n 0, 1)), (103, (.getfield 177, 3)), (106, (.iload_n 2, 1)), (107, (.iaload, 1)), (108, (.i2l, 1)), (109, (.lmul, 1)), (110, (.ldc2_w 249, 3)), (113, (.ldiv, 1)), (114, (.l2i, 1)), (115, (.iadd, 1)), (116, (.istore_n 1, 1)), (117, (.iinc 2 1, 3)), (120, (.goto (-106), 3)), (123, (.aload_n 0, 1)), (124, (.dup, 1)), (125, (.getfield 276, 3)), (128, (.iload_n 1, 1)), (129, (.iadd, 1)), (130, (.putfield 276, 3)), (133, (.aload_n 0, 1)), (134, (.dup, 1)), (135, (.getfield 262, 3)), (138, (.iload_n 1, 1)), (139, (.iadd, 1)), (140, (.putfield 262, 3)), (143, (.iload_n 1, 1)), (144, (.ireturn, 1))]
theorem dAX12_claim_q1 : ∀ x ∈ dPX12_claim_q1, decode cX12_claim x.1 = .ok x.2 := by decide +kernel
theorem dX12_claim_77 : decode cX12_claim 77 = .ok (.i2l, 1) := dc_at (f := decode cX12_claim) dAX12_claim_q1 0 rfl
theorem dX12_claim_78 : decode cX12_claim 78 = .ok (.invokestatic 58, 3) := dc_at (f := decode cX12_claim) dAX12_claim_q1 1 rfl
theorem dX12_claim_81 : decode cX12_claim 81 = .ok (.ifCond .ne 6, 3) := dc_at (f := decode cX12_claim) dAX12_claim_q1 2 rfl
theorem dX12_claim_84 : decode cX12_claim 84 = .ok (.goto 33, 3) := dc_at (f := decode cX12_claim) dAX12_claim_q1 3 rfl
theorem dX12_claim_87 : decode cX12_claim 87 = .ok (.aload_n 0, 1) := dc_at (f := decode cX12_claim) dAX12_claim_q1 4 rfl
theorem dX12_claim_88 : decode cX12_claim 88 = .ok (.getfield 180, 3) := dc_at (f := decode cX12_claim) dAX12_claim_q1 5 rfl
theorem dX12_claim_91 : decode cX12_claim 91 = .ok (.iload_n 2, 1) := dc_at (f := decode cX12_claim) dAX12_claim_q1 6 rfl
theorem dX12_claim_92 : decode cX12_claim 92 = .ok (.iconst 1, 1) := dc_at (f := decode cX12_claim) dAX12_claim_q1 7 rfl
theorem dX12_claim_93 : decode cX12_claim 93 = .ok (.bastore, 1) := dc_at (f := decode cX12_claim) dAX12_claim_q1 8 rfl
theorem dX12_claim_94 : decode cX12_claim 94 = .ok (.iload_n 1, 1) := dc_at (f := decode cX12_claim) dAX12_claim_q1 9 rfl
theorem dX12_claim_95 : decode cX12_claim 95 = .ok (.aload_n 0, 1) := dc_at (f := decode cX12_claim) dAX12_claim_q1 10 rfl
theorem dX12_claim_96 : decode cX12_claim 96 = .ok (.getfield 114, 3) := dc_at (f := decode cX12_claim) dAX12_claim_q1 11 rfl
theorem dX12_claim_99 : decode cX12_claim 99 = .ok (.iconst 3, 1) := dc_at (f := decode cX12_claim) dAX12_claim_q1 12 rfl
theorem dX12_claim_100 : decode cX12_claim 100 = .ok (.iaload, 1) := dc_at (f := decode cX12_claim) dAX12_claim_q1 13 rfl
theorem dX12_claim_101 : decode cX12_claim 101 = .ok (.i2l, 1) := dc_at (f := decode cX12_claim) dAX12_claim_q1 14 rfl
theorem dX12_claim_102 : decode cX12_claim 102 = .ok (.aload_n 0, 1) := dc_at (f := decode cX12_claim) dAX12_claim_q1 15 rfl
theorem dX12_claim_103 : decode cX12_claim 103 = .ok (.getfield 177, 3) := dc_at (f := decode cX12_claim) dAX12_claim_q1 16 rfl
theorem dX12_claim_106 : decode cX12_claim 106 = .ok (.iload_n 2, 1) := dc_at (f := decode cX12_claim) dAX12_claim_q1 17 rfl
theorem dX12_claim_107 : decode cX12_claim 107 = .ok (.iaload, 1) := dc_at (f := decode cX12_claim) dAX12_claim_q1 18 rfl
theorem dX12_claim_108 : decode cX12_claim 108 = .ok (.i2l, 1) := dc_at (f := decode cX12_claim) dAX12_claim_q1 19 rfl
theorem dX12_claim_109 : decode cX12_claim 109 = .ok (.lmul, 1) := dc_at (f := decode cX12_claim) dAX12_claim_q1 20 rfl
theorem dX12_claim_110 : decode cX12_claim 110 = .ok (.ldc2_w 249, 3) := dc_at (f := decode cX12_claim) dAX12_claim_q1 21 rfl
theorem dX12_claim_113 : decode cX12_claim 113 = .ok (.ldiv, 1) := dc_at (f := decode cX12_claim) dAX12_claim_q1 22 rfl
theorem dX12_claim_114 : decode cX12_claim 114 = .ok (.l2i, 1) := dc_at (f := decode cX12_claim) dAX12_claim_q1 23 rfl
theorem dX12_claim_115 : decode cX12_claim 115 = .ok (.iadd, 1) := dc_at (f := decode cX12_claim) dAX12_claim_q1 24 rfl
theorem dX12_claim_116 : decode cX12_claim 116 = .ok (.istore_n 1, 1) := dc_at (f := decode cX12_claim) dAX12_claim_q1 25 rfl
theorem dX12_claim_117 : decode cX12_claim 117 = .ok (.iinc 2 1, 3) := dc_at (f := decode cX12_claim) dAX12_claim_q1 26 rfl
theorem dX12_claim_120 : decode cX12_claim 120 = .ok (.goto (-106), 3) := dc_at (f := decode cX12_claim) dAX12_claim_q1 27 rfl
theorem dX12_claim_123 : decode cX12_claim 123 = .ok (.aload_n 0, 1) := dc_at (f := decode cX12_claim) dAX12_claim_q1 28 rfl
theorem dX12_claim_124 : decode cX12_claim 124 = .ok (.dup, 1) := dc_at (f := decode cX12_claim) dAX12_claim_q1 29 rfl
theorem dX12_claim_125 : decode cX12_claim 125 = .ok (.getfield 276, 3) := dc_at (f := decode cX12_claim) dAX12_claim_q1 30 rfl
theorem dX12_claim_128 : decode cX12_claim 128 = .ok (.iload_n 1, 1) := dc_at (f := decode cX12_claim) dAX12_claim_q1 31 rfl
theorem dX12_claim_129 : decode cX12_claim 129 = .ok (.iadd, 1) := dc_at (f := decode cX12_claim) dAX12_claim_q1 32 rfl
theorem dX12_claim_130 : decode cX12_claim 130 = .ok (.putfield 276, 3) := dc_at (f := decode cX12_claim) dAX12_claim_q1 33 rfl
theorem dX12_claim_133 : decode cX12_claim 133 = .ok (.aload_n 0, 1) := dc_at (f := decode cX12_claim) dAX12_claim_q1 34 rfl
theorem dX12_claim_134 : decode cX12_claim 134 = .ok (.dup, 1) := dc_at (f := decode cX12_claim) dAX12_claim_q1 35 rfl
theorem dX12_claim_135 : decode cX12_claim 135 = .ok (.getfield 262, 3) := dc_at (f := decode cX12_claim) dAX12_claim_q1 36 rfl
theorem dX12_claim_138 : decode cX12_claim 138 = .ok (.iload_n 1, 1) := dc_at (f := decode cX12_claim) dAX12_claim_q1 37 rfl
theorem dX12_claim_139 : decode cX12_claim 139 = .ok (.iadd, 1) := dc_at (f := decode cX12_claim) dAX12_claim_q1 38 rfl
theorem dX12_claim_140 : decode cX12_claim 140 = .ok (.putfield 262, 3) := dc_at (f := decode cX12_claim) dAX12_claim_q1 39 rfl
theorem dX12_claim_143 : decode cX12_claim 143 = .ok (.iload_n 1, 1) := dc_at (f := decode cX12_claim) dAX12_claim_q1 40 rfl
theorem dX12_claim_144 : decode cX12_claim 144 = .ok (.ireturn, 1) := dc_at (f := decode cX12_claim) dAX12_claim_q1 41 rfl
def dPX12_overdue_q0 : List (Nat × (Jvm.ClassFile.Instr × Nat)) := [(0, (.iconst 0, 1)), (1, (.istore_n 2, 1)), (2, (.iconst 0, 1)), (3, (.istore_n 3, 1)), (4, (.iload_n 3, 1)), (5, (.aload_n 0, 1)), (6, (.getfield 147, 3)), (9, (.iload_n 1, 1)), (10, (.iaload, 1)), (11, (.if_icmp .ge 69, 3)), (14, (.iload_n 2, 1)), (15, (.aload_n 0, 1)), (16, (.getfield 165, 3)), (19, (.bipush 84, 2)), (21, (.iload_n 1, 1)), (22, (.imul, 1)), (23, (.iload_n 3, 1)), (24, (.iadd, 1)), (25, (.baload, 1)), (26, (.ifCond .eq 45, 3)), (29, (.aload_n 0, 1)), (30, (.iload_n 1, 1)), (31, (.iload_n 3, 1)), (32, (.invokevirtual 240, 3)), (35, (.aload_n 0, 1)), (36, (.getfield 230, 3)), (39, (.if_icmp .gt 32, 3)), (42, (.aload_n 0, 1)), (43, (.getfield 162, 3)), (46, (.bipush 84, 2)), (48, (.iload_n 1, 1)), (49, (.imul, 1)), (50, (.iload_n 3, 1)), (51, (.iadd, 1)), (52, (.iaload, 1)), (53, (.aload_n 0, 1)), (54, (.getfield 159, 3)), (57, (.bipush 84, 2)), (59, (.iload_n 1, 1)), (60, (.imul, 1)), (61, (.iload_n 3, 1)), (62, (.iadd, 1)), (63, (.iaload, 1)), (64, (.if_icmp .ge 7, 3)), (67, (.iconst 1, 1)), (68, (.goto 4, 3)), (71, (.iconst 0, 1)), (72, (.iadd, 1))]
theorem dAX12_overdue_q0 : ∀ x ∈ dPX12_overdue_q0, decode cX12_overdue x.1 = .ok x.2 := by decide +kernel
theorem dX12_overdue_0 : decode cX12_overdue 0 = .ok (.iconst 0, 1) := dc_at (f := decode cX12_overdue) dAX12_overdue_q0 0 rfl
theorem dX12_overdue_1 : decode cX12_overdue 1 = .ok (.istore_n 2, 1) := dc_at (f := decode cX12_overdue) dAX12_overdue_q0 1 rfl
theorem dX12_overdue_2 : decode cX12_overdue 2 = .ok (.iconst 0, 1) := dc_at (f := decode cX12_overdue) dAX12_overdue_q0 2 rfl
theorem dX12_overdue_3 : decode cX12_overdue 3 = .ok (.istore_n 3, 1) := dc_at (f := decode cX12_overdue) dAX12_overdue_q0 3 rfl
theorem dX12_overdue_4 : decode cX12_overdue 4 = .ok (.iload_n 3, 1) := dc_at (f := decode cX12_overdue) dAX12_overdue_q0 4 rfl
theorem dX12_overdue_5 : decode cX12_overdue 5 = .ok (.aload_n 0, 1) := dc_at (f := decode cX12_overdue) dAX12_overdue_q0 5 rfl
theorem dX12_overdue_6 : decode cX12_overdue 6 = .ok (.getfield 147, 3) := dc_at (f := decode cX12_overdue) dAX12_overdue_q0 6 rfl
theorem dX12_overdue_9 : decode cX12_overdue 9 = .ok (.iload_n 1, 1) := dc_at (f := decode cX12_overdue) dAX12_overdue_q0 7 rfl
theorem dX12_overdue_10 : decode cX12_overdue 10 = .ok (.iaload, 1) := dc_at (f := decode cX12_overdue) dAX12_overdue_q0 8 rfl
theorem dX12_overdue_11 : decode cX12_overdue 11 = .ok (.if_icmp .ge 69, 3) := dc_at (f := decode cX12_overdue) dAX12_overdue_q0 9 rfl
theorem dX12_overdue_14 : decode cX12_overdue 14 = .ok (.iload_n 2, 1) := dc_at (f := decode cX12_overdue) dAX12_overdue_q0 10 rfl
theorem dX12_overdue_15 : decode cX12_overdue 15 = .ok (.aload_n 0, 1) := dc_at (f := decode cX12_overdue) dAX12_overdue_q0 11 rfl
theorem dX12_overdue_16 : decode cX12_overdue 16 = .ok (.getfield 165, 3) := dc_at (f := decode cX12_overdue) dAX12_overdue_q0 12 rfl
theorem dX12_overdue_19 : decode cX12_overdue 19 = .ok (.bipush 84, 2) := dc_at (f := decode cX12_overdue) dAX12_overdue_q0 13 rfl
theorem dX12_overdue_21 : decode cX12_overdue 21 = .ok (.iload_n 1, 1) := dc_at (f := decode cX12_overdue) dAX12_overdue_q0 14 rfl
theorem dX12_overdue_22 : decode cX12_overdue 22 = .ok (.imul, 1) := dc_at (f := decode cX12_overdue) dAX12_overdue_q0 15 rfl
theorem dX12_overdue_23 : decode cX12_overdue 23 = .ok (.iload_n 3, 1) := dc_at (f := decode cX12_overdue) dAX12_overdue_q0 16 rfl
theorem dX12_overdue_24 : decode cX12_overdue 24 = .ok (.iadd, 1) := dc_at (f := decode cX12_overdue) dAX12_overdue_q0 17 rfl
theorem dX12_overdue_25 : decode cX12_overdue 25 = .ok (.baload, 1) := dc_at (f := decode cX12_overdue) dAX12_overdue_q0 18 rfl
theorem dX12_overdue_26 : decode cX12_overdue 26 = .ok (.ifCond .eq 45, 3) := dc_at (f := decode cX12_overdue) dAX12_overdue_q0 19 rfl
theorem dX12_overdue_29 : decode cX12_overdue 29 = .ok (.aload_n 0, 1) := dc_at (f := decode cX12_overdue) dAX12_overdue_q0 20 rfl
theorem dX12_overdue_30 : decode cX12_overdue 30 = .ok (.iload_n 1, 1) := dc_at (f := decode cX12_overdue) dAX12_overdue_q0 21 rfl
theorem dX12_overdue_31 : decode cX12_overdue 31 = .ok (.iload_n 3, 1) := dc_at (f := decode cX12_overdue) dAX12_overdue_q0 22 rfl
theorem dX12_overdue_32 : decode cX12_overdue 32 = .ok (.invokevirtual 240, 3) := dc_at (f := decode cX12_overdue) dAX12_overdue_q0 23 rfl
theorem dX12_overdue_35 : decode cX12_overdue 35 = .ok (.aload_n 0, 1) := dc_at (f := decode cX12_overdue) dAX12_overdue_q0 24 rfl
theorem dX12_overdue_36 : decode cX12_overdue 36 = .ok (.getfield 230, 3) := dc_at (f := decode cX12_overdue) dAX12_overdue_q0 25 rfl
theorem dX12_overdue_39 : decode cX12_overdue 39 = .ok (.if_icmp .gt 32, 3) := dc_at (f := decode cX12_overdue) dAX12_overdue_q0 26 rfl
theorem dX12_overdue_42 : decode cX12_overdue 42 = .ok (.aload_n 0, 1) := dc_at (f := decode cX12_overdue) dAX12_overdue_q0 27 rfl
theorem dX12_overdue_43 : decode cX12_overdue 43 = .ok (.getfield 162, 3) := dc_at (f := decode cX12_overdue) dAX12_overdue_q0 28 rfl
theorem dX12_overdue_46 : decode cX12_overdue 46 = .ok (.bipush 84, 2) := dc_at (f := decode cX12_overdue) dAX12_overdue_q0 29 rfl
theorem dX12_overdue_48 : decode cX12_overdue 48 = .ok (.iload_n 1, 1) := dc_at (f := decode cX12_overdue) dAX12_overdue_q0 30 rfl
theorem dX12_overdue_49 : decode cX12_overdue 49 = .ok (.imul, 1) := dc_at (f := decode cX12_overdue) dAX12_overdue_q0 31 rfl
theorem dX12_overdue_50 : decode cX12_overdue 50 = .ok (.iload_n 3, 1) := dc_at (f := decode cX12_overdue) dAX12_overdue_q0 32 rfl
theorem dX12_overdue_51 : decode cX12_overdue 51 = .ok (.iadd, 1) := dc_at (f := decode cX12_overdue) dAX12_overdue_q0 33 rfl
theorem dX12_overdue_52 : decode cX12_overdue 52 = .ok (.iaload, 1) := dc_at (f := decode cX12_overdue) dAX12_overdue_q0 34 rfl
theorem dX12_overdue_53 : decode cX12_overdue 53 = .ok (.aload_n 0, 1) := dc_at (f := decode cX12_overdue) dAX12_overdue_q0 35 rfl
theorem dX12_overdue_54 : decode cX12_overdue 54 = .ok (.getfield 159, 3) := dc_at (f := decode cX12_overdue) dAX12_overdue_q0 36 rfl
theorem dX12_overdue_57 : decode cX12_overdue 57 = .ok (.bipush 84, 2) := dc_at (f := decode cX12_overdue) dAX12_overdue_q0 37 rfl
theorem dX12_overdue_59 : decode cX12_overdue 59 = .ok (.iload_n 1, 1) := dc_at (f := decode cX12_overdue) dAX12_overdue_q0 38 rfl
theorem dX12_overdue_60 : decode cX12_overdue 60 = .ok (.imul, 1) := dc_at (f := decode cX12_overdue) dAX12_overdue_q0 39 rfl
theorem dX12_overdue_61 : decode cX12_overdue 61 = .ok (.iload_n 3, 1) := dc_at (f := decode cX12_overdue) dAX12_overdue_q0 40 rfl
theorem dX12_overdue_62 : decode cX12_overdue 62 = .ok (.iadd, 1) := dc_at (f := decode cX12_overdue) dAX12_overdue_q0 41 rfl
theorem dX12_overdue_63 : decode cX12_overdue 63 = .ok (.iaload, 1) := dc_at (f := decode cX12_overdue) dAX12_overdue_q0 42 rfl
theorem dX12_overdue_64 : decode cX12_overdue 64 = .ok (.if_icmp .ge 7, 3) := dc_at (f := decode cX12_overdue) dAX12_overdue_q0 43 rfl
theorem dX12_overdue_67 : decode cX12_overdue 67 = .ok (.iconst 1, 1) := dc_at (f := decode cX12_overdue) dAX12_overdue_q0 44 rfl
theorem dX12_overdue_68 : decode cX12_overdue 68 = .ok (.goto 4, 3) := dc_at (f := decode cX12_overdue) dAX12_overdue_q0 45 rfl
theorem dX12_overdue_71 : decode cX12_overdue 71 = .ok (.iconst 0, 1) := dc_at (f := decode cX12_overdue) dAX12_overdue_q0 46 rfl
theorem dX12_overdue_72 : decode cX12_overdue 72 = .ok (.iadd, 1) := dc_at (f := decode cX12_overdue) dAX12_overdue_q0 47 rfl
def dPX12_overdue_q1 : List (Nat × (Jvm.ClassFile.Instr × Nat)) := [(73, (.istore_n 2, 1)), (74, (.iinc 3 1, 3)), (77, (.goto (-73), 3)), (80, (.iload_n 2, 1)), (81, (.ireturn, 1))]
theorem dAX12_overdue_q1 : ∀ x ∈ dPX12_overdue_q1, decode cX12_overdue x.1 = .ok x.2 := by decide +kernel
theorem dX12_overdue_73 : decode cX12_overdue 73 = .ok (.istore_n 2, 1) := dc_at (f := decode cX12_overdue) dAX12_overdue_q1 0 rfl
theorem dX12_overdue_74 : decode cX12_overdue 74 = .ok (.iinc 3 1, 3) := dc_at (f := decode cX12_overdue) dAX12_overdue_q1 1 rfl
theorem dX12_overdue_77 : decode cX12_overdue 77 = .ok (.goto (-73), 3) := dc_at (f := decode cX12_overdue) dAX12_overdue_q1 2 rfl
theorem dX12_overdue_80 : decode cX12_overdue 80 = .ok (.iload_n 2, 1) := dc_at (f := decode cX12_overdue) dAX12_overdue_q1 3 rfl
theorem dX12_overdue_81 : decode cX12_overdue 81 = .ok (.ireturn, 1) := dc_at (f := decode cX12_overdue) dAX12_overdue_q1 4 rfl
def dPX12_about_q0 : List (Nat × (Jvm.ClassFile.Instr × Nat)) := [(0, (.aload_n 0, 1)), (1, (.iload_n 1, 1)), (2, (.invokevirtual 243, 3)), (5, (.ifCond .ne 5, 3)), (8, (.iconst (-1), 1)), (9, (.ireturn, 1)), (10, (.iconst 0, 1)), (11, (.istore_n 3, 1)), (12, (.iload_n 2, 1)), (13, (.tableswitch 216 0 7 #[47, 54, 61, 80, 120, 126, 141, 148], 47)), (60, (.aload_n 0, 1)), (61, (.getfield 135, 3)), (64, (.iload_n 1, 1)), (65, (.iaload, 1)), (66, (.ireturn, 1)), (67, (.aload_n 0, 1)), (68, (.getfield 138, 3)), (71, (.iload_n 1, 1)), (72, (.iaload, 1)), (73, (.ireturn, 1)), (74, (.aload_n 0, 1)), (75, (.getfield 153, 3)), (78, (.iload_n 1, 1)), (79, (.baload, 1)), (80, (.ifCond .eq 7, 3)), (83, (.iconst 0, 1)), (84, (.goto 8, 3)), (87, (.aload_n 0, 1)), (88, (.iload_n 1, 1)), (89, (.invokevirtual 279, 3)), (92, (.ireturn, 1)), (93, (.bipush 84, 2)), (95, (.iload_n 1, 1)), (96, (.imul, 1)), (97, (.istore 4, 2)), (99, (.iload 4, 2)), (101, (.bipush 84, 2)), (103, (.iload_n 1, 1)), (104, (.imul, 1)), (105, (.aload_n 0, 1)), (106, (.getfield 147, 3)), (109, (.iload_n 1, 1)), (110, (.iaload, 1)), (111, (.iadd, 1)), (112, (.if_icmp .ge 19, 3)), (115, (.iload_n 3, 1)), (116, (.aload_n 0, 1)), (117, (.getfield 162, 3))]
theorem dAX12_about_q0 : ∀ x ∈ dPX12_about_q0, decode cX12_about x.1 = .ok x.2 := by decide +kernel
theorem dX12_about_0 : decode cX12_about 0 = .ok (.aload_n 0, 1) := dc_at (f := decode cX12_about) dAX12_about_q0 0 rfl
theorem dX12_about_1 : decode cX12_about 1 = .ok (.iload_n 1, 1) := dc_at (f := decode cX12_about) dAX12_about_q0 1 rfl
theorem dX12_about_2 : decode cX12_about 2 = .ok (.invokevirtual 243, 3) := dc_at (f := decode cX12_about) dAX12_about_q0 2 rfl
theorem dX12_about_5 : decode cX12_about 5 = .ok (.ifCond .ne 5, 3) := dc_at (f := decode cX12_about) dAX12_about_q0 3 rfl
theorem dX12_about_8 : decode cX12_about 8 = .ok (.iconst (-1), 1) := dc_at (f := decode cX12_about) dAX12_about_q0 4 rfl
theorem dX12_about_9 : decode cX12_about 9 = .ok (.ireturn, 1) := dc_at (f := decode cX12_about) dAX12_about_q0 5 rfl
theorem dX12_about_10 : decode cX12_about 10 = .ok (.iconst 0, 1) := dc_at (f := decode cX12_about) dAX12_about_q0 6 rfl
theorem dX12_about_11 : decode cX12_about 11 = .ok (.istore_n 3, 1) := dc_at (f := decode cX12_about) dAX12_about_q0 7 rfl
theorem dX12_about_12 : decode cX12_about 12 = .ok (.iload_n 2, 1) := dc_at (f := decode cX12_about) dAX12_about_q0 8 rfl
theorem dX12_about_13 : decode cX12_about 13 = .ok (.tableswitch 216 0 7 #[47, 54, 61, 80, 120, 126, 141, 148], 47) := dc_at (f := decode cX12_about) dAX12_about_q0 9 rfl
theorem dX12_about_60 : decode cX12_about 60 = .ok (.aload_n 0, 1) := dc_at (f := decode cX12_about) dAX12_about_q0 10 rfl
theorem dX12_about_61 : decode cX12_about 61 = .ok (.getfield 135, 3) := dc_at (f := decode cX12_about) dAX12_about_q0 11 rfl
theorem dX12_about_64 : decode cX12_about 64 = .ok (.iload_n 1, 1) := dc_at (f := decode cX12_about) dAX12_about_q0 12 rfl
theorem dX12_about_65 : decode cX12_about 65 = .ok (.iaload, 1) := dc_at (f := decode cX12_about) dAX12_about_q0 13 rfl
theorem dX12_about_66 : decode cX12_about 66 = .ok (.ireturn, 1) := dc_at (f := decode cX12_about) dAX12_about_q0 14 rfl
theorem dX12_about_67 : decode cX12_about 67 = .ok (.aload_n 0, 1) := dc_at (f := decode cX12_about) dAX12_about_q0 15 rfl
theorem dX12_about_68 : decode cX12_about 68 = .ok (.getfield 138, 3) := dc_at (f := decode cX12_about) dAX12_about_q0 16 rfl
theorem dX12_about_71 : decode cX12_about 71 = .ok (.iload_n 1, 1) := dc_at (f := decode cX12_about) dAX12_about_q0 17 rfl
theorem dX12_about_72 : decode cX12_about 72 = .ok (.iaload, 1) := dc_at (f := decode cX12_about) dAX12_about_q0 18 rfl
theorem dX12_about_73 : decode cX12_about 73 = .ok (.ireturn, 1) := dc_at (f := decode cX12_about) dAX12_about_q0 19 rfl
theorem dX12_about_74 : decode cX12_about 74 = .ok (.aload_n 0, 1) := dc_at (f := decode cX12_about) dAX12_about_q0 20 rfl
theorem dX12_about_75 : decode cX12_about 75 = .ok (.getfield 153, 3) := dc_at (f := decode cX12_about) dAX12_about_q0 21 rfl
theorem dX12_about_78 : decode cX12_about 78 = .ok (.iload_n 1, 1) := dc_at (f := decode cX12_about) dAX12_about_q0 22 rfl
theorem dX12_about_79 : decode cX12_about 79 = .ok (.baload, 1) := dc_at (f := decode cX12_about) dAX12_about_q0 23 rfl
theorem dX12_about_80 : decode cX12_about 80 = .ok (.ifCond .eq 7, 3) := dc_at (f := decode cX12_about) dAX12_about_q0 24 rfl
theorem dX12_about_83 : decode cX12_about 83 = .ok (.iconst 0, 1) := dc_at (f := decode cX12_about) dAX12_about_q0 25 rfl
theorem dX12_about_84 : decode cX12_about 84 = .ok (.goto 8, 3) := dc_at (f := decode cX12_about) dAX12_about_q0 26 rfl
theorem dX12_about_87 : decode cX12_about 87 = .ok (.aload_n 0, 1) := dc_at (f := decode cX12_about) dAX12_about_q0 27 rfl
theorem dX12_about_88 : decode cX12_about 88 = .ok (.iload_n 1, 1) := dc_at (f := decode cX12_about) dAX12_about_q0 28 rfl
theorem dX12_about_89 : decode cX12_about 89 = .ok (.invokevirtual 279, 3) := dc_at (f := decode cX12_about) dAX12_about_q0 29 rfl
theorem dX12_about_92 : decode cX12_about 92 = .ok (.ireturn, 1) := dc_at (f := decode cX12_about) dAX12_about_q0 30 rfl
theorem dX12_about_93 : decode cX12_about 93 = .ok (.bipush 84, 2) := dc_at (f := decode cX12_about) dAX12_about_q0 31 rfl
theorem dX12_about_95 : decode cX12_about 95 = .ok (.iload_n 1, 1) := dc_at (f := decode cX12_about) dAX12_about_q0 32 rfl
theorem dX12_about_96 : decode cX12_about 96 = .ok (.imul, 1) := dc_at (f := decode cX12_about) dAX12_about_q0 33 rfl
theorem dX12_about_97 : decode cX12_about 97 = .ok (.istore 4, 2) := dc_at (f := decode cX12_about) dAX12_about_q0 34 rfl
theorem dX12_about_99 : decode cX12_about 99 = .ok (.iload 4, 2) := dc_at (f := decode cX12_about) dAX12_about_q0 35 rfl
theorem dX12_about_101 : decode cX12_about 101 = .ok (.bipush 84, 2) := dc_at (f := decode cX12_about) dAX12_about_q0 36 rfl
theorem dX12_about_103 : decode cX12_about 103 = .ok (.iload_n 1, 1) := dc_at (f := decode cX12_about) dAX12_about_q0 37 rfl
theorem dX12_about_104 : decode cX12_about 104 = .ok (.imul, 1) := dc_at (f := decode cX12_about) dAX12_about_q0 38 rfl
theorem dX12_about_105 : decode cX12_about 105 = .ok (.aload_n 0, 1) := dc_at (f := decode cX12_about) dAX12_about_q0 39 rfl
theorem dX12_about_106 : decode cX12_about 106 = .ok (.getfield 147, 3) := dc_at (f := decode cX12_about) dAX12_about_q0 40 rfl
theorem dX12_about_109 : decode cX12_about 109 = .ok (.iload_n 1, 1) := dc_at (f := decode cX12_about) dAX12_about_q0 41 rfl
theorem dX12_about_110 : decode cX12_about 110 = .ok (.iaload, 1) := dc_at (f := decode cX12_about) dAX12_about_q0 42 rfl
theorem dX12_about_111 : decode cX12_about 111 = .ok (.iadd, 1) := dc_at (f := decode cX12_about) dAX12_about_q0 43 rfl
theorem dX12_about_112 : decode cX12_about 112 = .ok (.if_icmp .ge 19, 3) := dc_at (f := decode cX12_about) dAX12_about_q0 44 rfl
theorem dX12_about_115 : decode cX12_about 115 = .ok (.iload_n 3, 1) := dc_at (f := decode cX12_about) dAX12_about_q0 45 rfl
theorem dX12_about_116 : decode cX12_about 116 = .ok (.aload_n 0, 1) := dc_at (f := decode cX12_about) dAX12_about_q0 46 rfl
theorem dX12_about_117 : decode cX12_about 117 = .ok (.getfield 162, 3) := dc_at (f := decode cX12_about) dAX12_about_q0 47 rfl

