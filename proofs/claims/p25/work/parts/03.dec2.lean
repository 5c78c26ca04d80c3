def dPX9_readLine_q1 : List (Nat × (Jvm.ClassFile.Instr × Nat)) := [(83, (.aload_n 1, 1)), (84, (.invokevirtual 32, 3)), (87, (.aload_n 0, 1)), (88, (.getfield 36, 3)), (91, (.iconst 3, 1)), (92, (.if_icmp .eq 8, 3)), (95, (.aload_n 0, 1)), (96, (.iconst 1, 1)), (97, (.invokevirtual 55, 3)), (100, (.return_, 1))]
theorem dAX9_readLine_q1 : ∀ x ∈ dPX9_readLine_q1, decode cX9_readLine x.1 = .ok x.2 := by decide +kernel
theorem dX9_readLine_83 : decode cX9_readLine 83 = .ok (.aload_n 1, 1) := dc_at (f := decode cX9_readLine) dAX9_readLine_q1 0 rfl
theorem dX9_readLine_84 : decode cX9_readLine 84 = .ok (.invokevirtual 32, 3) := dc_at (f := decode cX9_readLine) dAX9_readLine_q1 1 rfl
theorem dX9_readLine_87 : decode cX9_readLine 87 = .ok (.aload_n 0, 1) := dc_at (f := decode cX9_readLine) dAX9_readLine_q1 2 rfl
theorem dX9_readLine_88 : decode cX9_readLine 88 = .ok (.getfield 36, 3) := dc_at (f := decode cX9_readLine) dAX9_readLine_q1 3 rfl
theorem dX9_readLine_91 : decode cX9_readLine 91 = .ok (.iconst 3, 1) := dc_at (f := decode cX9_readLine) dAX9_readLine_q1 4 rfl
theorem dX9_readLine_92 : decode cX9_readLine 92 = .ok (.if_icmp .eq 8, 3) := dc_at (f := decode cX9_readLine) dAX9_readLine_q1 5 rfl
theorem dX9_readLine_95 : decode cX9_readLine 95 = .ok (.aload_n 0, 1) := dc_at (f := decode cX9_readLine) dAX9_readLine_q1 6 rfl
theorem dX9_readLine_96 : decode cX9_readLine 96 = .ok (.iconst 1, 1) := dc_at (f := decode cX9_readLine) dAX9_readLine_q1 7 rfl
theorem dX9_readLine_97 : decode cX9_readLine 97 = .ok (.invokevirtual 55, 3) := dc_at (f := decode cX9_readLine) dAX9_readLine_q1 8 rfl
theorem dX9_readLine_100 : decode cX9_readLine 100 = .ok (.return_, 1) := dc_at (f := decode cX9_readLine) dAX9_readLine_q1 9 rfl
def dPX9_readNumbers_q0 : List (Nat × (Jvm.ClassFile.Instr × Nat)) := [(0, (.iload_n 2, 1)), (1, (.ifCond .lt 19, 3)), (4, (.iload_n 2, 1)), (5, (.getstatic 66, 3)), (8, (.arraylength, 1)), (9, (.if_icmp .ge 11, 3)), (12, (.iload_n 2, 1)), (13, (.getstatic 70, 3)), (16, (.arraylength, 1)), (17, (.if_icmp .lt 4, 3)), (20, (.return_, 1)), (21, (.getstatic 66, 3)), (24, (.iload_n 2, 1)), (25, (.iaload, 1)), (26, (.istore_n 3, 1)), (27, (.iload_n 3, 1)), (28, (.getstatic 70, 3)), (31, (.iload_n 2, 1)), (32, (.iaload, 1)), (33, (.iadd, 1)), (34, (.istore 4, 2)), (36, (.iload_n 3, 1)), (37, (.istore 5, 2)), (39, (.iload 5, 2)), (41, (.iload 4, 2)), (43, (.if_icmp .ge 70, 3)), (46, (.aload_n 0, 1)), (47, (.getfield 26, 3)), (50, (.ifCond .ne 63, 3)), (53, (.aload_n 0, 1)), (54, (.aload_n 1, 1)), (55, (.invokevirtual 32, 3)), (58, (.aload_n 0, 1)), (59, (.getfield 36, 3)), (62, (.iconst 2, 1)), (63, (.if_icmp .eq 11, 3)), (66, (.aload_n 0, 1)), (67, (.iconst 1, 1)), (68, (.invokevirtual 55, 3)), (71, (.goto 36, 3)), (74, (.iload 5, 2)), (76, (.aload_n 0, 1)), (77, (.getfield 73, 3)), (80, (.invokestatic 76, 3)), (83, (.ifCond .ne 11, 3)), (86, (.aload_n 0, 1)), (87, (.iconst 2, 1)), (88, (.invokevirtual 55, 3))]
theorem dAX9_readNumbers_q0 : ∀ x ∈ dPX9_readNumbers_q0, decode cX9_readNumbers x.1 = .ok x.2 := by decide +kernel
theorem dX9_readNumbers_0 : decode cX9_readNumbers 0 = .ok (.iload_n 2, 1) := dc_at (f := decode cX9_readNumbers) dAX9_readNumbers_q0 0 rfl
theorem dX9_readNumbers_1 : decode cX9_readNumbers 1 = .ok (.ifCond .lt 19, 3) := dc_at (f := decode cX9_readNumbers) dAX9_readNumbers_q0 1 rfl
theorem dX9_readNumbers_4 : decode cX9_readNumbers 4 = .ok (.iload_n 2, 1) := dc_at (f := decode cX9_readNumbers) dAX9_readNumbers_q0 2 rfl
theorem dX9_readNumbers_5 : decode cX9_readNumbers 5 = .ok (.getstatic 66, 3) := dc_at (f := decode cX9_readNumbers) dAX9_readNumbers_q0 3 rfl
theorem dX9_readNumbers_8 : decode cX9_readNumbers 8 = .ok (.arraylength, 1) := dc_at (f := decode cX9_readNumbers) dAX9_readNumbers_q0 4 rfl
theorem dX9_readNumbers_9 : decode cX9_readNumbers 9 = .ok (.if_icmp .ge 11, 3) := dc_at (f := decode cX9_readNumbers) dAX9_readNumbers_q0 5 rfl
theorem dX9_readNumbers_12 : decode cX9_readNumbers 12 = .ok (.iload_n 2, 1) := dc_at (f := decode cX9_readNumbers) dAX9_readNumbers_q0 6 rfl
theorem dX9_readNumbers_13 : decode cX9_readNumbers 13 = .ok (.getstatic 70, 3) := dc_at (f := decode cX9_readNumbers) dAX9_readNumbers_q0 7 rfl
theorem dX9_readNumbers_16 : decode cX9_readNumbers 16 = .ok (.arraylength, 1) := dc_at (f := decode cX9_readNumbers) dAX9_readNumbers_q0 8 rfl
theorem dX9_readNumbers_17 : decode cX9_readNumbers 17 = .ok (.if_icmp .lt 4, 3) := dc_at (f := decode cX9_readNumbers) dAX9_readNumbers_q0 9 rfl
theorem dX9_readNumbers_21 : decode cX9_readNumbers 21 = .ok (.getstatic 66, 3) := dc_at (f := decode cX9_readNumbers) dAX9_readNumbers_q0 11 rfl
theorem dX9_readNumbers_24 : decode cX9_readNumbers 24 = .ok (.iload_n 2, 1) := dc_at (f := decode cX9_readNumbers) dAX9_readNumbers_q0 12 rfl
theorem dX9_readNumbers_25 : decode cX9_readNumbers 25 = .ok (.iaload, 1) := dc_at (f := decode cX9_readNumbers) dAX9_readNumbers_q0 13 rfl
theorem dX9_readNumbers_26 : decode cX9_readNumbers 26 = .ok (.istore_n 3, 1) := dc_at (f := decode cX9_readNumbers) dAX9_readNumbers_q0 14 rfl
theorem dX9_readNumbers_27 : decode cX9_readNumbers 27 = .ok (.iload_n 3, 1) := dc_at (f := decode cX9_readNumbers) dAX9_readNumbers_q0 15 rfl
theorem dX9_readNumbers_28 : decode cX9_readNumbers 28 = .ok (.getstatic 70, 3) := dc_at (f := decode cX9_readNumbers) dAX9_readNumbers_q0 16 rfl
theorem dX9_readNumbers_31 : decode cX9_readNumbers 31 = .ok (.iload_n 2, 1) := dc_at (f := decode cX9_readNumbers) dAX9_readNumbers_q0 17 rfl
theorem dX9_readNumbers_32 : decode cX9_readNumbers 32 = .ok (.iaload, 1) := dc_at (f := decode cX9_readNumbers) dAX9_readNumbers_q0 18 rfl
theorem dX9_readNumbers_33 : decode cX9_readNumbers 33 = .ok (.iadd, 1) := dc_at (f := decode cX9_readNumbers) dAX9_readNumbers_q0 19 rfl
theorem dX9_readNumbers_34 : decode cX9_readNumbers 34 = .ok (.istore 4, 2) := dc_at (f := decode cX9_readNumbers) dAX9_readNumbers_q0 20 rfl
theorem dX9_readNumbers_36 : decode cX9_readNumbers 36 = .ok (.iload_n 3, 1) := dc_at (f := decode cX9_readNumbers) dAX9_readNumbers_q0 21 rfl
theorem dX9_readNumbers_37 : decode cX9_readNumbers 37 = .ok (.istore 5, 2) := dc_at (f := decode cX9_readNumbers) dAX9_readNumbers_q0 22 rfl
theorem dX9_readNumbers_39 : decode cX9_readNumbers 39 = .ok (.iload 5, 2) := dc_at (f := decode cX9_readNumbers) dAX9_readNumbers_q0 23 rfl
theorem dX9_readNumbers_41 : decode cX9_readNumbers 41 = .ok (.iload 4, 2) := dc_at (f := decode cX9_readNumbers) dAX9_readNumbers_q0 24 rfl
theorem dX9_readNumbers_43 : decode cX9_readNumbers 43 = .ok (.if_icmp .ge 70, 3) := dc_at (f := decode cX9_readNumbers) dAX9_readNumbers_q0 25 rfl
theorem dX9_readNumbers_46 : decode cX9_readNumbers 46 = .ok (.aload_n 0, 1) := dc_at (f := decode cX9_readNumbers) dAX9_readNumbers_q0 26 rfl
theorem dX9_readNumbers_47 : decode cX9_readNumbers 47 = .ok (.getfield 26, 3) := dc_at (f := decode cX9_readNumbers) dAX9_readNumbers_q0 27 rfl
theorem dX9_readNumbers_50 : decode cX9_readNumbers 50 = .ok (.ifCond .ne 63, 3) := dc_at (f := decode cX9_readNumbers) dAX9_readNumbers_q0 28 rfl
theorem dX9_readNumbers_53 : decode cX9_readNumbers 53 = .ok (.aload_n 0, 1) := dc_at (f := decode cX9_readNumbers) dAX9_readNumbers_q0 29 rfl
theorem dX9_readNumbers_54 : decode cX9_readNumbers 54 = .ok (.aload_n 1, 1) := dc_at (f := decode cX9_readNumbers) dAX9_readNumbers_q0 30 rfl
theorem dX9_readNumbers_55 : decode cX9_readNumbers 55 = .ok (.invokevirtual 32, 3) := dc_at (f := decode cX9_readNumbers) dAX9_readNumbers_q0 31 rfl
theorem dX9_readNumbers_58 : decode cX9_readNumbers 58 = .ok (.aload_n 0, 1) := dc_at (f := decode cX9_readNumbers) dAX9_readNumbers_q0 32 rfl
theorem dX9_readNumbers_59 : decode cX9_readNumbers 59 = .ok (.getfield 36, 3) := dc_at (f := decode cX9_readNumbers) dAX9_readNumbers_q0 33 rfl
theorem dX9_readNumbers_62 : decode cX9_readNumbers 62 = .ok (.iconst 2, 1) := dc_at (f := decode cX9_readNumbers) dAX9_readNumbers_q0 34 rfl
theorem dX9_readNumbers_63 : decode cX9_readNumbers 63 = .ok (.if_icmp .eq 11, 3) := dc_at (f := decode cX9_readNumbers) dAX9_readNumbers_q0 35 rfl
theorem dX9_readNumbers_66 : decode cX9_readNumbers 66 = .ok (.aload_n 0, 1) := dc_at (f := decode cX9_readNumbers) dAX9_readNumbers_q0 36 rfl
theorem dX9_readNumbers_67 : decode cX9_readNumbers 67 = .ok (.iconst 1, 1) := dc_at (f := decode cX9_readNumbers) dAX9_readNumbers_q0 37 rfl
theorem dX9_readNumbers_68 : decode cX9_readNumbers 68 = .ok (.invokevirtual 55, 3) := dc_at (f := decode cX9_readNumbers) dAX9_readNumbers_q0 38 rfl
theorem dX9_readNumbers_71 : decode cX9_readNumbers 71 = .ok (.goto 36, 3) := dc_at (f := decode cX9_readNumbers) dAX9_readNumbers_q0 39 rfl
theorem dX9_readNumbers_74 : decode cX9_readNumbers 74 = .ok (.iload 5, 2) := dc_at (f := decode cX9_readNumbers) dAX9_readNumbers_q0 40 rfl
theorem dX9_readNumbers_76 : decode cX9_readNumbers 76 = .ok (.aload_n 0, 1) := dc_at (f := decode cX9_readNumbers) dAX9_readNumbers_q0 41 rfl
theorem dX9_readNumbers_77 : decode cX9_readNumbers 77 = .ok (.getfield 73, 3) := dc_at (f := decode cX9_readNumbers) dAX9_readNumbers_q0 42 rfl
theorem dX9_readNumbers_80 : decode cX9_readNumbers 80 = .ok (.invokestatic 76, 3) := dc_at (f := decode cX9_readNumbers) dAX9_readNumbers_q0 43 rfl
theorem dX9_readNumbers_83 : decode cX9_readNumbers 83 = .ok (.ifCond .ne 11, 3) := dc_at (f := decode cX9_readNumbers) dAX9_readNumbers_q0 44 rfl
theorem dX9_readNumbers_86 : decode cX9_readNumbers 86 = .ok (.aload_n 0, 1) := dc_at (f := decode cX9_readNumbers) dAX9_readNumbers_q0 45 rfl
theorem dX9_readNumbers_87 : decode cX9_readNumbers 87 = .ok (.iconst 2, 1) := dc_at (f := decode cX9_readNumbers) dAX9_readNumbers_q0 46 rfl
theorem dX9_readNumbers_88 : decode cX9_readNumbers 88 = .ok (.invokevirtual 55, 3) := dc_at (f := decode cX9_readNumbers) dAX9_readNumbers_q0 47 rfl
def dPX9_readNumbers_q1 : List (Nat × (Jvm.ClassFile.Instr × Nat)) := [(91, (.goto 16, 3)), (94, (.aload_n 0, 1)), (95, (.getfield 12, 3)), (98, (.iload 5, 2)), (100, (.aload_n 0, 1)), (101, (.getfield 73, 3)), (104, (.invokevirtual 80, 3)), (107, (.iinc 5 1, 3)), (110, (.goto (-71), 3)), (113, (.return_, 1))]
theorem dAX9_readNumbers_q1 : ∀ x ∈ dPX9_readNumbers_q1, decode cX9_readNumbers x.1 = .ok x.2 := by decide +kernel
theorem dX9_readNumbers_91 : decode cX9_readNumbers 91 = .ok (.goto 16, 3) := dc_at (f := decode cX9_readNumbers) dAX9_readNumbers_q1 0 rfl
theorem dX9_readNumbers_94 : decode cX9_readNumbers 94 = .ok (.aload_n 0, 1) := dc_at (f := decode cX9_readNumbers) dAX9_readNumbers_q1 1 rfl
theorem dX9_readNumbers_95 : decode cX9_readNumbers 95 = .ok (.getfield 12, 3) := dc_at (f := decode cX9_readNumbers) dAX9_readNumbers_q1 2 rfl
theorem dX9_readNumbers_98 : decode cX9_readNumbers 98 = .ok (.iload 5, 2) := dc_at (f := decode cX9_readNumbers) dAX9_readNumbers_q1 3 rfl
theorem dX9_readNumbers_100 : decode cX9_readNumbers 100 = .ok (.aload_n 0, 1) := dc_at (f := decode cX9_readNumbers) dAX9_readNumbers_q1 4 rfl
theorem dX9_readNumbers_101 : decode cX9_readNumbers 101 = .ok (.getfield 73, 3) := dc_at (f := decode cX9_readNumbers) dAX9_readNumbers_q1 5 rfl
theorem dX9_readNumbers_104 : decode cX9_readNumbers 104 = .ok (.invokevirtual 80, 3) := dc_at (f := decode cX9_readNumbers) dAX9_readNumbers_q1 6 rfl
theorem dX9_readNumbers_107 : decode cX9_readNumbers 107 = .ok (.iinc 5 1, 3) := dc_at (f := decode cX9_readNumbers) dAX9_readNumbers_q1 7 rfl
theorem dX9_readNumbers_110 : decode cX9_readNumbers 110 = .ok (.goto (-71), 3) := dc_at (f := decode cX9_readNumbers) dAX9_readNumbers_q1 8 rfl
theorem dX9_readNumbers_113 : decode cX9_readNumbers 113 = .ok (.return_, 1) := dc_at (f := decode cX9_readNumbers) dAX9_readNumbers_q1 9 rfl
def dPX9_isInBounds_q0 : List (Nat × (Jvm.ClassFile.Instr × Nat)) := [(0, (.iload_n 0, 1)), (1, (.ifCond .lt 41, 3)), (4, (.iload_n 0, 1)), (5, (.getstatic 84, 3)), (8, (.arraylength, 1)), (9, (.if_icmp .ge 33, 3)), (12, (.iload_n 0, 1)), (13, (.getstatic 87, 3)), (16, (.arraylength, 1)), (17, (.if_icmp .ge 25, 3)), (20, (.iload_n 1, 1)), (21, (.getstatic 84, 3)), (24, (.iload_n 0, 1)), (25, (.iaload, 1)), (26, (.if_icmp .lt 16, 3)), (29, (.iload_n 1, 1)), (30, (.getstatic 87, 3)), (33, (.iload_n 0, 1)), (34, (.iaload, 1)), (35, (.if_icmp .gt 7, 3)), (38, (.iconst 1, 1)), (39, (.goto 4, 3)), (42, (.iconst 0, 1)), (43, (.ireturn, 1))]
theorem dAX9_isInBounds_q0 : ∀ x ∈ dPX9_isInBounds_q0, decode cX9_isInBounds x.1 = .ok x.2 := by decide +kernel
theorem dX9_isInBounds_0 : decode cX9_isInBounds 0 = .ok (.iload_n 0, 1) := dc_at (f := decode cX9_isInBounds) dAX9_isInBounds_q0 0 rfl
theorem dX9_isInBounds_1 : decode cX9_isInBounds 1 = .ok (.ifCond .lt 41, 3) := dc_at (f := decode cX9_isInBounds) dAX9_isInBounds_q0 1 rfl
theorem dX9_isInBounds_4 : decode cX9_isInBounds 4 = .ok (.iload_n 0, 1) := dc_at (f := decode cX9_isInBounds) dAX9_isInBounds_q0 2 rfl
theorem dX9_isInBounds_5 : decode cX9_isInBounds 5 = .ok (.getstatic 84, 3) := dc_at (f := decode cX9_isInBounds) dAX9_isInBounds_q0 3 rfl
theorem dX9_isInBounds_8 : decode cX9_isInBounds 8 = .ok (.arraylength, 1) := dc_at (f := decode cX9_isInBounds) dAX9_isInBounds_q0 4 rfl
theorem dX9_isInBounds_9 : decode cX9_isInBounds 9 = .ok (.if_icmp .ge 33, 3) := dc_at (f := decode cX9_isInBounds) dAX9_isInBounds_q0 5 rfl
theorem dX9_isInBounds_12 : decode cX9_isInBounds 12 = .ok (.iload_n 0, 1) := dc_at (f := decode cX9_isInBounds) dAX9_isInBounds_q0 6 rfl
theorem dX9_isInBounds_13 : decode cX9_isInBounds 13 = .ok (.getstatic 87, 3) := dc_at (f := decode cX9_isInBounds) dAX9_isInBounds_q0 7 rfl
theorem dX9_isInBounds_16 : decode cX9_isInBounds 16 = .ok (.arraylength, 1) := dc_at (f := decode cX9_isInBounds) dAX9_isInBounds_q0 8 rfl
theorem dX9_isInBounds_17 : decode cX9_isInBounds 17 = .ok (.if_icmp .ge 25, 3) := dc_at (f := decode cX9_isInBounds) dAX9_isInBounds_q0 9 rfl
theorem dX9_isInBounds_20 : decode cX9_isInBounds 20 = .ok (.iload_n 1, 1) := dc_at (f := decode cX9_isInBounds) dAX9_isInBounds_q0 10 rfl
theorem dX9_isInBounds_21 : decode cX9_isInBounds 21 = .ok (.getstatic 84, 3) := dc_at (f := decode cX9_isInBounds) dAX9_isInBounds_q0 11 rfl
theorem dX9_isInBounds_24 : decode cX9_isInBounds 24 = .ok (.iload_n 0, 1) := dc_at (f := decode cX9_isInBounds) dAX9_isInBounds_q0 12 rfl
theorem dX9_isInBounds_25 : decode cX9_isInBounds 25 = .ok (.iaload, 1) := dc_at (f := decode cX9_isInBounds) dAX9_isInBounds_q0 13 rfl
theorem dX9_isInBounds_26 : decode cX9_isInBounds 26 = .ok (.if_icmp .lt 16, 3) := dc_at (f := decode cX9_isInBounds) dAX9_isInBounds_q0 14 rfl
theorem dX9_isInBounds_29 : decode cX9_isInBounds 29 = .ok (.iload_n 1, 1) := dc_at (f := decode cX9_isInBounds) dAX9_isInBounds_q0 15 rfl
theorem dX9_isInBounds_30 : decode cX9_isInBounds 30 = .ok (.getstatic 87, 3) := dc_at (f := decode cX9_isInBounds) dAX9_isInBounds_q0 16 rfl
theorem dX9_isInBounds_33 : decode cX9_isInBounds 33 = .ok (.iload_n 0, 1) := dc_at (f := decode cX9_isInBounds) dAX9_isInBounds_q0 17 rfl
theorem dX9_isInBounds_34 : decode cX9_isInBounds 34 = .ok (.iaload, 1) := dc_at (f := decode cX9_isInBounds) dAX9_isInBounds_q0 18 rfl
theorem dX9_isInBounds_35 : decode cX9_isInBounds 35 = .ok (.if_icmp .gt 7, 3) := dc_at (f := decode cX9_isInBounds) dAX9_isInBounds_q0 19 rfl
theorem dX9_isInBounds_38 : decode cX9_isInBounds 38 = .ok (.iconst 1, 1) := dc_at (f := decode cX9_isInBounds) dAX9_isInBounds_q0 20 rfl
theorem dX9_isInBounds_39 : decode cX9_isInBounds 39 = .ok (.goto 4, 3) := dc_at (f := decode cX9_isInBounds) dAX9_isInBounds_q0 21 rfl
theorem dX9_isInBounds_42 : decode cX9_isInBounds 42 = .ok (.iconst 0, 1) := dc_at (f := decode cX9_isInBounds) dAX9_isInBounds_q0 22 rfl
theorem dX9_isInBounds_43 : decode cX9_isInBounds 43 = .ok (.ireturn, 1) := dc_at (f := decode cX9_isInBounds) dAX9_isInBounds_q0 23 rfl
def dPX9_readStop_q0 : List (Nat × (Jvm.ClassFile.Instr × Nat)) := [(0, (.aload_n 0, 1)), (1, (.aload_n 1, 1)), (2, (.invokevirtual 32, 3)), (5, (.aload_n 0, 1)), (6, (.getfield 36, 3)), (9, (.iconst 1, 1)), (10, (.if_icmp .ne 26, 3)), (13, (.aload_n 0, 1)), (14, (.aload_n 1, 1)), (15, (.ldc 90, 2)), (17, (.invokevirtual 92, 3)), (20, (.ifCond .eq 16, 3)), (23, (.aload_n 0, 1)), (24, (.getfield 12, 3)), (27, (.bipush 8, 2)), (29, (.iconst 1, 1)), (30, (.invokevirtual 80, 3)), (33, (.goto 39, 3)), (36, (.aload_n 0, 1)), (37, (.getfield 36, 3)), (40, (.iconst 1, 1)), (41, (.if_icmp .ne 26, 3)), (44, (.aload_n 0, 1)), (45, (.aload_n 1, 1)), (46, (.ldc 96, 2)), (48, (.invokevirtual 92, 3)), (51, (.ifCond .eq 16, 3)), (54, (.aload_n 0, 1)), (55, (.getfield 12, 3)), (58, (.bipush 8, 2)), (60, (.iconst 0, 1)), (61, (.invokevirtual 80, 3)), (64, (.goto 8, 3)), (67, (.aload_n 0, 1)), (68, (.iconst 1, 1)), (69, (.invokevirtual 55, 3)), (72, (.return_, 1))]
theorem dAX9_readStop_q0 : ∀ x ∈ dPX9_readStop_q0, decode cX9_readStop x.1 = .ok x.2 := by decide +kernel
theorem dX9_readStop_0 : decode cX9_readStop 0 = .ok (.aload_n 0, 1) := dc_at (f := decode cX9_readStop) dAX9_readStop_q0 0 rfl
theorem dX9_readStop_1 : decode cX9_readStop 1 = .ok (.aload_n 1, 1) := dc_at (f := decode cX9_readStop) dAX9_readStop_q0 1 rfl
theorem dX9_readStop_2 : decode cX9_readStop 2 = .ok (.invokevirtual 32, 3) := dc_at (f := decode cX9_readStop) dAX9_readStop_q0 2 rfl
theorem dX9_readStop_5 : decode cX9_readStop 5 = .ok (.aload_n 0, 1) := dc_at (f := decode cX9_readStop) dAX9_readStop_q0 3 rfl
theorem dX9_readStop_6 : decode cX9_readStop 6 = .ok (.getfield 36, 3) := dc_at (f := decode cX9_readStop) dAX9_readStop_q0 4 rfl
theorem dX9_readStop_9 : decode cX9_readStop 9 = .ok (.iconst 1, 1) := dc_at (f := decode cX9_readStop) dAX9_readStop_q0 5 rfl
theorem dX9_readStop_10 : decode cX9_readStop 10 = .ok (.if_icmp .ne 26, 3) := dc_at (f := decode cX9_readStop) dAX9_readStop_q0 6 rfl
theorem dX9_readStop_13 : decode cX9_readStop 13 = .ok (.aload_n 0, 1) := dc_at (f := decode cX9_readStop) dAX9_readStop_q0 7 rfl
theorem dX9_readStop_14 : decode cX9_readStop 14 = .ok (.aload_n 1, 1) := dc_at (f := decode cX9_readStop) dAX9_readStop_q0 8 rfl
theorem dX9_readStop_15 : decode cX9_readStop 15 = .ok (.ldc 90, 2) := dc_at (f := decode cX9_readStop) dAX9_readStop_q0 9 rfl
theorem dX9_readStop_17 : decode cX9_readStop 17 = .ok (.invokevirtual 92, 3) := dc_at (f := decode cX9_readStop) dAX9_readStop_q0 10 rfl
theorem dX9_readStop_20 : decode cX9_readStop 20 = .ok (.ifCond .eq 16, 3) := dc_at (f := decode cX9_readStop) dAX9_readStop_q0 11 rfl
theorem dX9_readStop_23 : decode cX9_readStop 23 = .ok (.aload_n 0, 1) := dc_at (f := decode cX9_readStop) dAX9_readStop_q0 12 rfl
theorem dX9_readStop_24 : decode cX9_readStop 24 = .ok (.getfield 12, 3) := dc_at (f := decode cX9_readStop) dAX9_readStop_q0 13 rfl
theorem dX9_readStop_27 : decode cX9_readStop 27 = .ok (.bipush 8, 2) := dc_at (f := decode cX9_readStop) dAX9_readStop_q0 14 rfl
theorem dX9_readStop_29 : decode cX9_readStop 29 = .ok (.iconst 1, 1) := dc_at (f := decode cX9_readStop) dAX9_readStop_q0 15 rfl
theorem dX9_readStop_30 : decode cX9_readStop 30 = .ok (.invokevirtual 80, 3) := dc_at (f := decode cX9_readStop) dAX9_readStop_q0 16 rfl
theorem dX9_readStop_33 : decode cX9_readStop 33 = .ok (.goto 39, 3) := dc_at (f := decode cX9_readStop) dAX9_readStop_q0 17 rfl
theorem dX9_readStop_36 : decode cX9_readStop 36 = .ok (.aload_n 0, 1) := dc_at (f := decode cX9_readStop) dAX9_readStop_q0 18 rfl
theorem dX9_readStop_37 : decode cX9_readStop 37 = .ok (.getfield 36, 3) := dc_at (f := decode cX9_readStop) dAX9_readStop_q0 19 rfl
theorem dX9_readStop_40 : decode cX9_readStop 40 = .ok (.iconst 1, 1) := dc_at (f := decode cX9_readStop) dAX9_readStop_q0 20 rfl
theorem dX9_readStop_41 : decode cX9_readStop 41 = .ok (.if_icmp .ne 26, 3) := dc_at (f := decode cX9_readStop) dAX9_readStop_q0 21 rfl
theorem dX9_readStop_44 : decode cX9_readStop 44 = .ok (.aload_n 0, 1) := dc_at (f := decode cX9_readStop) dAX9_readStop_q0 22 rfl
theorem dX9_readStop_45 : decode cX9_readStop 45 = .ok (.aload_n 1, 1) := dc_at (f := decode cX9_readStop) dAX9_readStop_q0 23 rfl
theorem dX9_readStop_46 : decode cX9_readStop 46 = .ok (.ldc 96, 2) := dc_at (f := decode cX9_readStop) dAX9_readStop_q0 24 rfl
theorem dX9_readStop_48 : decode cX9_readStop 48 = .ok (.invokevirtual 92, 3) := dc_at (f := decode cX9_readStop) dAX9_readStop_q0 25 rfl
theorem dX9_readStop_51 : decode cX9_readStop 51 = .ok (.ifCond .eq 16, 3) := dc_at (f := decode cX9_readStop) dAX9_readStop_q0 26 rfl
theorem dX9_readStop_54 : decode cX9_readStop 54 = .ok (.aload_n 0, 1) := dc_at (f := decode cX9_readStop) dAX9_readStop_q0 27 rfl
theorem dX9_readStop_55 : decode cX9_readStop 55 = .ok (.getfield 12, 3) := dc_at (f := decode cX9_readStop) dAX9_readStop_q0 28 rfl
theorem dX9_readStop_58 : decode cX9_readStop 58 = .ok (.bipush 8, 2) := dc_at (f := decode cX9_readStop) dAX9_readStop_q0 29 rfl
theorem dX9_readStop_60 : decode cX9_readStop 60 = .ok (.iconst 0, 1) := dc_at (f := decode cX9_readStop) dAX9_readStop_q0 30 rfl
theorem dX9_readStop_61 : decode cX9_readStop 61 = .ok (.invokevirtual 80, 3) := dc_at (f := decode cX9_readStop) dAX9_readStop_q0 31 rfl
theorem dX9_readStop_64 : decode cX9_readStop 64 = .ok (.goto 8, 3) := dc_at (f := decode cX9_readStop) dAX9_readStop_q0 32 rfl
theorem dX9_readStop_67 : decode cX9_readStop 67 = .ok (.aload_n 0, 1) := dc_at (f := decode cX9_readStop) dAX9_readStop_q0 33 rfl
theorem dX9_readStop_68 : decode cX9_readStop 68 = .ok (.iconst 1, 1) := dc_at (f := decode cX9_readStop) dAX9_readStop_q0 34 rfl
theorem dX9_readStop_69 : decode cX9_readStop 69 = .ok (.invokevirtual 55, 3) := dc_at (f := decode cX9_readStop) dAX9_readStop_q0 35 rfl
theorem dX9_readStop_72 : decode cX9_readStop 72 = .ok (.return_, 1) := dc_at (f := decode cX9_readStop) dAX9_readStop_q0 36 rfl
def dPX9_lineOfWord_q0 : List (Nat × (Jvm.ClassFile.Instr × Nat)) := [(0, (.aload_n 0, 1)), (1, (.aload_n 1, 1)), (2, (.ldc 98, 2)), (4, (.invokevirtual 92, 3)), (7, (.ifCond .eq 5, 3)), (10, (.iconst 0, 1)), (11, (.ireturn, 1)), (12, (.aload_n 0, 1)), (13, (.aload_n 1, 1)), (14, (.ldc 100, 2)), (16, (.invokevirtual 92, 3)), (19, (.ifCond .eq 5, 3)), (22, (.iconst 1, 1)), (23, (.ireturn, 1)), (24, (.aload_n 0, 1)), (25, (.aload_n 1, 1)), (26, (.ldc 102, 2)), (28, (.invokevirtual 92, 3)), (31, (.ifCond .eq 5, 3)), (34, (.iconst 2, 1)), (35, (.ireturn, 1)), (36, (.aload_n 0, 1)), (37, (.aload_n 1, 1)), (38, (.ldc 104, 2)), (40, (.invokevirtual 92, 3)), (43, (.ifCond .eq 5, 3)), (46, (.iconst 3, 1)), (47, (.ireturn, 1)), (48, (.aload_n 0, 1)), (49, (.aload_n 1, 1)), (50, (.ldc 106, 2)), (52, (.invokevirtual 92, 3)), (55, (.ifCond .eq 5, 3)), (58, (.iconst 4, 1)), (59, (.ireturn, 1)), (60, (.aload_n 0, 1)), (61, (.aload_n 1, 1)), (62, (.ldc 108, 2)), (64, (.invokevirtual 92, 3)), (67, (.ifCond .eq 7, 3)), (70, (.iconst 5, 1)), (71, (.goto 4, 3)), (74, (.iconst (-1), 1)), (75, (.ireturn, 1))]
theorem dAX9_lineOfWord_q0 : ∀ x ∈ dPX9_lineOfWord_q0, decode cX9_lineOfWord x.1 = .ok x.2 := by decide +kernel
theorem dX9_lineOfWord_0 : decode cX9_lineOfWord 0 = .ok (.aload_n 0, 1) := dc_at (f := decode cX9_lineOfWord) dAX9_lineOfWord_q0 0 rfl
theorem dX9_lineOfWord_1 : decode cX9_lineOfWord 1 = .ok (.aload_n 1, 1) := dc_at (f := decode cX9_lineOfWord) dAX9_lineOfWord_q0 1 rfl
theorem dX9_lineOfWord_2 : decode cX9_lineOfWord 2 = .ok (.ldc 98, 2) := dc_at (f := decode cX9_lineOfWord) dAX9_lineOfWord_q0 2 rfl
theorem dX9_lineOfWord_4 : decode cX9_lineOfWord 4 = .ok (.invokevirtual 92, 3) := dc_at (f := decode cX9_lineOfWord) dAX9_lineOfWord_q0 3 rfl
theorem dX9_lineOfWord_7 : decode cX9_lineOfWord 7 = .ok (.ifCond .eq 5, 3) := dc_at (f := decode cX9_lineOfWord) dAX9_lineOfWord_q0 4 rfl
theorem dX9_lineOfWord_10 : decode cX9_lineOfWord 10 = .ok (.iconst 0, 1) := dc_at (f := decode cX9_lineOfWord) dAX9_lineOfWord_q0 5 rfl
theorem dX9_lineOfWord_11 : decode cX9_lineOfWord 11 = .ok (.ireturn, 1) := dc_at (f := decode cX9_lineOfWord) dAX9_lineOfWord_q0 6 rfl
theorem dX9_lineOfWord_12 : decode cX9_lineOfWord 12 = .ok (.aload_n 0, 1) := dc_at (f := decode cX9_lineOfWord) dAX9_lineOfWord_q0 7 rfl
theorem dX9_lineOfWord_13 : decode cX9_lineOfWord 13 = .ok (.aload_n 1, 1) := dc_at (f := decode cX9_lineOfWord) dAX9_lineOfWord_q0 8 rfl
theorem dX9_lineOfWord_14 : decode cX9_lineOfWord 14 = .ok (.ldc 100, 2) := dc_at (f := decode cX9_lineOfWord) dAX9_lineOfWord_q0 9 rfl
theorem dX9_lineOfWord_16 : decode cX9_lineOfWord 16 = .ok (.invokevirtual 92, 3) := dc_at (f := decode cX9_lineOfWord) dAX9_lineOfWord_q0 10 rfl
theorem dX9_lineOfWord_19 : decode cX9_lineOfWord 19 = .ok (.ifCond .eq 5, 3) := dc_at (f := decode cX9_lineOfWord) dAX9_lineOfWord_q0 11 rfl
theorem dX9_lineOfWord_22 : decode cX9_lineOfWord 22 = .ok (.iconst 1, 1) := dc_at (f := decode cX9_lineOfWord) dAX9_lineOfWord_q0 12 rfl
theorem dX9_lineOfWord_23 : decode cX9_lineOfWord 23 = .ok (.ireturn, 1) := dc_at (f := decode cX9_lineOfWord) dAX9_lineOfWord_q0 13 rfl
theorem dX9_lineOfWord_24 : decode cX9_lineOfWord 24 = .ok (.aload_n 0, 1) := dc_at (f := decode cX9_lineOfWord) dAX9_lineOfWord_q0 14 rfl
theorem dX9_lineOfWord_25 : decode cX9_lineOfWord 25 = .ok (.aload_n 1, 1) := dc_at (f := decode cX9_lineOfWord) dAX9_lineOfWord_q0 15 rfl
theorem dX9_lineOfWord_26 : decode cX9_lineOfWord 26 = .ok (.ldc 102, 2) := dc_at (f := decode cX9_lineOfWord) dAX9_lineOfWord_q0 16 rfl
theorem dX9_lineOfWord_28 : decode cX9_lineOfWord 28 = .ok (.invokevirtual 92, 3) := dc_at (f := decode cX9_lineOfWord) dAX9_lineOfWord_q0 17 rfl
theorem dX9_lineOfWord_31 : decode cX9_lineOfWord 31 = .ok (.ifCond .eq 5, 3) := dc_at (f := decode cX9_lineOfWord) dAX9_lineOfWord_q0 18 rfl
theorem dX9_lineOfWord_34 : decode cX9_lineOfWord 34 = .ok (.iconst 2, 1) := dc_at (f := decode cX9_lineOfWord) dAX9_lineOfWord_q0 19 rfl
theorem dX9_lineOfWord_35 : decode cX9_lineOfWord 35 = .ok (.ireturn, 1) := dc_at (f := decode cX9_lineOfWord) dAX9_lineOfWord_q0 20 rfl
theorem dX9_lineOfWord_36 : decode cX9_lineOfWord 36 = .ok (.aload_n 0, 1) := dc_at (f := decode cX9_lineOfWord) dAX9_lineOfWord_q0 21 rfl
theorem dX9_lineOfWord_37 : decode cX9_lineOfWord 37 = .ok (.aload_n 1, 1) := dc_at (f := decode cX9_lineOfWord) dAX9_lineOfWord_q0 22 rfl
theorem dX9_lineOfWord_38 : decode cX9_lineOfWord 38 = .ok (.ldc 104, 2) := dc_at (f := decode cX9_lineOfWord) dAX9_lineOfWord_q0 23 rfl
theorem dX9_lineOfWord_40 : decode cX9_lineOfWord 40 = .ok (.invokevirtual 92, 3) := dc_at (f := decode cX9_lineOfWord) dAX9_lineOfWord_q0 24 rfl
theorem dX9_lineOfWord_43 : decode cX9_lineOfWord 43 = .ok (.ifCond .eq 5, 3) := dc_at (f := decode cX9_lineOfWord) dAX9_lineOfWord_q0 25 rfl
theorem dX9_lineOfWord_46 : decode cX9_lineOfWord 46 = .ok (.iconst 3, 1) := dc_at (f := decode cX9_lineOfWord) dAX9_lineOfWord_q0 26 rfl
theorem dX9_lineOfWord_47 : decode cX9_lineOfWord 47 = .ok (.ireturn, 1) := dc_at (f := decode cX9_lineOfWord) dAX9_lineOfWord_q0 27 rfl
theorem dX9_lineOfWord_48 : decode cX9_lineOfWord 48 = .ok (.aload_n 0, 1) := dc_at (f := decode cX9_lineOfWord) dAX9_lineOfWord_q0 28 rfl
theorem dX9_lineOfWord_49 : decode cX9_lineOfWord 49 = .ok (.aload_n 1, 1) := dc_at (f := decode cX9_lineOfWord) dAX9_lineOfWord_q0 29 rfl
theorem dX9_lineOfWord_50 : decode cX9_lineOfWord 50 = .ok (.ldc 106, 2) := dc_at (f := decode cX9_lineOfWord) dAX9_lineOfWord_q0 30 rfl
theorem dX9_lineOfWord_52 : decode cX9_lineOfWord 52 = .ok (.invokevirtual 92, 3) := dc_at (f := decode cX9_lineOfWord) dAX9_lineOfWord_q0 31 rfl
theorem dX9_lineOfWord_55 : decode cX9_lineOfWord 55 = .ok (.ifCond .eq 5, 3) := dc_at (f := decode cX9_lineOfWord) dAX9_lineOfWord_q0 32 rfl
theorem dX9_lineOfWord_58 : decode cX9_lineOfWord 58 = .ok (.iconst 4, 1) := dc_at (f := decode cX9_lineOfWord) dAX9_lineOfWord_q0 33 rfl
theorem dX9_lineOfWord_59 : decode cX9_lineOfWord 59 = .ok (.ireturn, 1) := dc_at (f := decode cX9_lineOfWord) dAX9_lineOfWord_q0 34 rfl
theorem dX9_lineOfWord_60 : decode cX9_lineOfWord 60 = .ok (.aload_n 0, 1) := dc_at (f := decode cX9_lineOfWord) dAX9_lineOfWord_q0 35 rfl
theorem dX9_lineOfWord_61 : decode cX9_lineOfWord 61 = .ok (.aload_n 1, 1) := dc_at (f := decode cX9_lineOfWord) dAX9_lineOfWord_q0 36 rfl
theorem dX9_lineOfWord_62 : decode cX9_lineOfWord 62 = .ok (.ldc 108, 2) := dc_at (f := decode cX9_lineOfWord) dAX9_lineOfWord_q0 37 rfl
theorem dX9_lineOfWord_64 : decode cX9_lineOfWord 64 = .ok (.invokevirtual 92, 3) := dc_at (f := decode cX9_lineOfWord) dAX9_lineOfWord_q0 38 rfl
theorem dX9_lineOfWord_67 : decode cX9_lineOfWord 67 = .ok (.ifCond .eq 7, 3) := dc_at (f := decode cX9_lineOfWord) dAX9_lineOfWord_q0 39 rfl
theorem dX9_lineOfWord_70 : decode cX9_lineOfWord 70 = .ok (.iconst 5, 1) := dc_at (f := decode cX9_lineOfWord) dAX9_lineOfWord_q0 40 rfl
theorem dX9_lineOfWord_71 : decode cX9_lineOfWord 71 = .ok (.goto 4, 3) := dc_at (f := decode cX9_lineOfWord) dAX9_lineOfWord_q0 41 rfl
theorem dX9_lineOfWord_74 : decode cX9_lineOfWord 74 = .ok (.iconst (-1), 1) := dc_at (f := decode cX9_lineOfWord) dAX9_lineOfWord_q0 42 rfl
theorem dX9_lineOfWord_75 : decode cX9_lineOfWord 75 = .ok (.ireturn, 1) := dc_at (f := decode cX9_lineOfWord) dAX9_lineOfWord_q0 43 rfl
def dPX9_isWord_q0 : List (Nat × (Jvm.ClassFile.Instr × Nat)) := [(0, (.aload_n 0, 1)), (1, (.getfield 45, 3)), (4, (.aload_n 0, 1)), (5, (.getfield 48, 3)), (8, (.isub, 1)), (9, (.aload_n 2, 1)), (10, (.invokevirtual 110, 3)), (13, (.if_icmp .eq 5, 3)), (16, (.iconst 0, 1)), (17, (.ireturn, 1)), (18, (.iconst 0, 1)), (19, (.istore_n 3, 1)), (20, (.iload_n 3, 1)), (21, (.aload_n 2, 1)), (22, (.invokevirtual 110, 3)), (25, (.if_icmp .ge 29, 3)), (28, (.aload_n 1, 1)), (29, (.aload_n 0, 1)), (30, (.getfield 48, 3)), (33, (.iload_n 3, 1)), (34, (.iadd, 1)), (35, (.invokevirtual 116, 3)), (38, (.aload_n 2, 1)), (39, (.iload_n 3, 1)), (40, (.invokevirtual 122, 3)), (43, (.if_icmp .eq 5, 3)), (46, (.iconst 0, 1)), (47, (.ireturn, 1)), (48, (.iinc 3 1, 3)), (51, (.goto (-31), 3)), (54, (.iconst 1, 1)), (55, (.ireturn, 1))]
theorem dAX9_isWord_q0 : ∀ x ∈ dPX9_isWord_q0, decode cX9_isWord x.1 = .ok x.2 := by decide +kernel
theorem dX9_isWord_0 : decode cX9_isWord 0 = .ok (.aload_n 0, 1) := dc_at (f := decode cX9_isWord) dAX9_isWord_q0 0 rfl
theorem dX9_isWord_1 : decode cX9_isWord 1 = .ok (.getfield 45, 3) := dc_at (f := decode cX9_isWord) dAX9_isWord_q0 1 rfl
theorem dX9_isWord_4 : decode cX9_isWord 4 = .ok (.aload_n 0, 1) := dc_at (f := decode cX9_isWord) dAX9_isWord_q0 2 rfl
theorem dX9_isWord_5 : decode cX9_isWord 5 = .ok (.getfield 48, 3) := dc_at (f := decode cX9_isWord) dAX9_isWord_q0 3 rfl
theorem dX9_isWord_8 : decode cX9_isWord 8 = .ok (.isub, 1) := dc_at (f := decode cX9_isWord) dAX9_isWord_q0 4 rfl
theorem dX9_isWord_9 : decode cX9_isWord 9 = .ok (.aload_n 2, 1) := dc_at (f := decode cX9_isWord) dAX9_isWord_q0 5 rfl
theorem dX9_isWord_10 : decode cX9_isWord 10 = .ok (.invokevirtual 110, 3) := dc_at (f := decode cX9_isWord) dAX9_isWord_q0 6 rfl
theorem dX9_isWord_13 : decode cX9_isWord 13 = .ok (.if_icmp .eq 5, 3) := dc_at (f := decode cX9_isWord) dAX9_isWord_q0 7 rfl
theorem dX9_isWord_16 : decode cX9_isWord 16 = .ok (.iconst 0, 1) := dc_at (f := decode cX9_isWord) dAX9_isWord_q0 8 rfl
theorem dX9_isWord_17 : decode cX9_isWord 17 = .ok (.ireturn, 1) := dc_at (f := decode cX9_isWord) dAX9_isWord_q0 9 rfl
theorem dX9_isWord_18 : decode cX9_isWord 18 = .ok (.iconst 0, 1) := dc_at (f := decode cX9_isWord) dAX9_isWord_q0 10 rfl
theorem dX9_isWord_19 : decode cX9_isWord 19 = .ok (.istore_n 3, 1) := dc_at (f := decode cX9_isWord) dAX9_isWord_q0 11 rfl
theorem dX9_isWord_20 : decode cX9_isWord 20 = .ok (.iload_n 3, 1) := dc_at (f := decode cX9_isWord) dAX9_isWord_q0 12 rfl
theorem dX9_isWord_21 : decode cX9_isWord 21 = .ok (.aload_n 2, 1) := dc_at (f := decode cX9_isWord) dAX9_isWord_q0 13 rfl
theorem dX9_isWord_22 : decode cX9_isWord 22 = .ok (.invokevirtual 110, 3) := dc_at (f := decode cX9_isWord) dAX9_isWord_q0 14 rfl
theorem dX9_isWord_25 : decode cX9_isWord 25 = .ok (.if_icmp .ge 29, 3) := dc_at (f := decode cX9_isWord) dAX9_isWord_q0 15 rfl
theorem dX9_isWord_28 : decode cX9_isWord 28 = .ok (.aload_n 1, 1) := dc_at (f := decode cX9_isWord) dAX9_isWord_q0 16 rfl
theorem dX9_isWord_29 : decode cX9_isWord 29 = .ok (.aload_n 0, 1) := dc_at (f := decode cX9_isWord) dAX9_isWord_q0 17 rfl
theorem dX9_isWord_30 : decode cX9_isWord 30 = .ok (.getfield 48, 3) := dc_at (f := decode cX9_isWord) dAX9_isWord_q0 18 rfl
theorem dX9_isWord_33 : decode cX9_isWord 33 = .ok (.iload_n 3, 1) := dc_at (f := decode cX9_isWord) dAX9_isWord_q0 19 rfl
theorem dX9_isWord_34 : decode cX9_isWord 34 = .ok (.iadd, 1) := dc_at (f := decode cX9_isWord) dAX9_isWord_q0 20 rfl
theorem dX9_isWord_35 : decode cX9_isWord 35 = .ok (.invokevirtual 116, 3) := dc_at (f := decode cX9_isWord) dAX9_isWord_q0 21 rfl
theorem dX9_isWord_38 : decode cX9_isWord 38 = .ok (.aload_n 2, 1) := dc_at (f := decode cX9_isWord) dAX9_isWord_q0 22 rfl
theorem dX9_isWord_39 : decode cX9_isWord 39 = .ok (.iload_n 3, 1) := dc_at (f := decode cX9_isWord) dAX9_isWord_q0 23 rfl
theorem dX9_isWord_40 : decode cX9_isWord 40 = .ok (.invokevirtual 122, 3) := dc_at (f := decode cX9_isWord) dAX9_isWord_q0 24 rfl
theorem dX9_isWord_43 : decode cX9_isWord 43 = .ok (.if_icmp .eq 5, 3) := dc_at (f := decode cX9_isWord) dAX9_isWord_q0 25 rfl
theorem dX9_isWord_46 : decode cX9_isWord 46 = .ok (.iconst 0, 1) := dc_at (f := decode cX9_isWord) dAX9_isWord_q0 26 rfl
theorem dX9_isWord_47 : decode cX9_isWord 47 = .ok (.ireturn, 1) := dc_at (f := decode cX9_isWord) dAX9_isWord_q0 27 rfl
theorem dX9_isWord_48 : decode cX9_isWord 48 = .ok (.iinc 3 1, 3) := dc_at (f := decode cX9_isWord) dAX9_isWord_q0 28 rfl
theorem dX9_isWord_51 : decode cX9_isWord 51 = .ok (.goto (-31), 3) := dc_at (f := decode cX9_isWord) dAX9_isWord_q0 29 rfl
theorem dX9_isWord_54 : decode cX9_isWord 54 = .ok (.iconst 1, 1) := dc_at (f := decode cX9_isWord) dAX9_isWord_q0 30 rfl
theorem dX9_isWord_55 : decode cX9_isWord 55 = .ok (.ireturn, 1) := dc_at (f := decode cX9_isWord) dAX9_isWord_q0 31 rfl
def dPX9_readToken_q0 : List (Nat × (Jvm.ClassFile.Instr × Nat)) := [(0, (.aload_n 0, 1)), (1, (.getfield 45, 3)), (4, (.aload_n 1, 1)), (5, (.invokevirtual 126, 3)), (8, (.if_icmp .ge 30, 3)), (11, (.aload_n 1, 1)), (12, (.aload_n 0, 1)), (13, (.getfield 45, 3)), (16, (.invokevirtual 116, 3)), (19, (.invokestatic 127, 3)), (22, (.ifCond .eq 16, 3)), (25, (.aload_n 0, 1)), (26, (.dup, 1)), (27, (.getfield 45, 3)), (30, (.iconst 1, 1)), (31, (.iadd, 1)), (32, (.putfield 45, 3)), (35, (.goto (-35), 3)), (38, (.aload_n 0, 1)), (39, (.aload_n 0, 1)), (40, (.getfield 45, 3)), (43, (.putfield 48, 3)), (46, (.aload_n 1, 1)), (47, (.aload_n 0, 1)), (48, (.getfield 45, 3)), (51, (.invokevirtual 116, 3)), (54, (.istore_n 2, 1)), (55, (.iload_n 2, 1)), (56, (.iconst (-1), 1)), (57, (.if_icmp .ne 11, 3)), (60, (.aload_n 0, 1)), (61, (.iconst 0, 1)), (62, (.putfield 36, 3)), (65, (.goto 58, 3)), (68, (.iload_n 2, 1)), (69, (.invokestatic 131, 3)), (72, (.ifCond .eq 11, 3)), (75, (.aload_n 0, 1)), (76, (.aload_n 1, 1)), (77, (.invokevirtual 134, 3)), (80, (.goto 43, 3)), (83, (.iload_n 2, 1)), (84, (.invokestatic 137, 3)), (87, (.ifCond .eq 11, 3)), (90, (.aload_n 0, 1)), (91, (.aload_n 1, 1)), (92, (.invokevirtual 140, 3)), (95, (.goto 28, 3))]
theorem dAX9_readToken_q0 : ∀ x ∈ dPX9_readToken_q0, decode cX9_readToken x.1 = .ok x.2 := by decide +kernel
theorem dX9_readToken_0 : decode cX9_readToken 0 = .ok (.aload_n 0, 1) := dc_at (f := decode cX9_readToken) dAX9_readToken_q0 0 rfl
theorem dX9_readToken_1 : decode cX9_readToken 1 = .ok (.getfield 45, 3) := dc_at (f := decode cX9_readToken) dAX9_readToken_q0 1 rfl
theorem dX9_readToken_4 : decode cX9_readToken 4 = .ok (.aload_n 1, 1) := dc_at (f := decode cX9_readToken) dAX9_readToken_q0 2 rfl
theorem dX9_readToken_5 : decode cX9_readToken 5 = .ok (.invokevirtual 126, 3) := dc_at (f := decode cX9_readToken) dAX9_readToken_q0 3 rfl
theorem dX9_readToken_8 : decode cX9_readToken 8 = .ok (.if_icmp .ge 30, 3) := dc_at (f := decode cX9_readToken) dAX9_readToken_q0 4 rfl
theorem dX9_readToken_11 : decode cX9_readToken 11 = .ok (.aload_n 1, 1) := dc_at (f := decode cX9_readToken) dAX9_readToken_q0 5 rfl
theorem dX9_readToken_12 : decode cX9_readToken 12 = .ok (.aload_n 0, 1) := dc_at (f := decode cX9_readToken) dAX9_readToken_q0 6 rfl
theorem dX9_readToken_13 : decode cX9_readToken 13 = .ok (.getfield 45, 3) := dc_at (f := decode cX9_readToken) dAX9_readToken_q0 7 rfl
theorem dX9_readToken_16 : decode cX9_readToken 16 = .ok (.invokevirtual 116, 3) := dc_at (f := decode cX9_readToken) dAX9_readToken_q0 8 rfl
theorem dX9_readToken_19 : decode cX9_readToken 19 = .ok (.invokestatic 127, 3) := dc_at (f := decode cX9_readToken) dAX9_readToken_q0 9 rfl
theorem dX9_readToken_22 : decode cX9_readToken 22 = .ok (.ifCond .eq 16, 3) := dc_at (f := decode cX9_readToken) dAX9_readToken_q0 10 rfl
theorem dX9_readToken_25 : decode cX9_readToken 25 = .ok (.aload_n 0, 1) := dc_at (f := decode cX9_readToken) dAX9_readToken_q0 11 rfl
theorem dX9_readToken_26 : decode cX9_readToken 26 = .ok (.dup, 1) := dc_at (f := decode cX9_readToken) dAX9_readToken_q0 12 rfl
theorem dX9_readToken_27 : decode cX9_readToken 27 = .ok (.getfield 45, 3) := dc_at (f := decode cX9_readToken) dAX9_readToken_q0 13 rfl
theorem dX9_readToken_30 : decode cX9_readToken 30 = .ok (.iconst 1, 1) := dc_at (f := decode cX9_readToken) dAX9_readToken_q0 14 rfl
theorem dX9_readToken_31 : decode cX9_readToken 31 = .ok (.iadd, 1) := dc_at (f := decode cX9_readToken) dAX9_readToken_q0 15 rfl
theorem dX9_readToken_32 : decode cX9_readToken 32 = .ok (.putfield 45, 3) := dc_at (f := decode cX9_readToken) dAX9_readToken_q0 16 rfl
theorem dX9_readToken_35 : decode cX9_readToken 35 = .ok (.goto (-35), 3) := dc_at (f := decode cX9_readToken) dAX9_readToken_q0 17 rfl
theorem dX9_readToken_38 : decode cX9_readToken 38 = .ok (.aload_n 0, 1) := dc_at (f := decode cX9_readToken) dAX9_readToken_q0 18 rfl
theorem dX9_readToken_39 : decode cX9_readToken 39 = .ok (.aload_n 0, 1) := dc_at (f := decode cX9_readToken) dAX9_readToken_q0 19 rfl
theorem dX9_readToken_40 : decode cX9_readToken 40 = .ok (.getfield 45, 3) := dc_at (f := decode cX9_readToken) dAX9_readToken_q0 20 rfl
theorem dX9_readToken_43 : decode cX9_readToken 43 = .ok (.putfield 48, 3) := dc_at (f := decode cX9_readToken) dAX9_readToken_q0 21 rfl
theorem dX9_readToken_46 : decode cX9_readToken 46 = .ok (.aload_n 1, 1) := dc_at (f := decode cX9_readToken) dAX9_readToken_q0 22 rfl
theorem dX9_readToken_47 : decode cX9_readToken 47 = .ok (.aload_n 0, 1) := dc_at (f := decode cX9_readToken) dAX9_readToken_q0 23 rfl
theorem dX9_readToken_48 : decode cX9_readToken 48 = .ok (.getfield 45, 3) := dc_at (f := decode cX9_readToken) dAX9_readToken_q0 24 rfl
theorem dX9_readToken_51 : decode cX9_readToken 51 = .ok (.invokevirtual 116, 3) := dc_at (f := decode cX9_readToken) dAX9_readToken_q0 25 rfl
theorem dX9_readToken_54 : decode cX9_readToken 54 = .ok (.istore_n 2, 1) := dc_at (f := decode cX9_readToken) dAX9_readToken_q0 26 rfl
theorem dX9_readToken_55 : decode cX9_readToken 55 = .ok (.iload_n 2, 1) := dc_at (f := decode cX9_readToken) dAX9_readToken_q0 27 rfl
theorem dX9_readToken_56 : decode cX9_readToken 56 = .ok (.iconst (-1), 1) := dc_at (f := decode cX9_readToken) dAX9_readToken_q0 28 rfl
theorem dX9_readToken_57 : decode cX9_readToken 57 = .ok (.if_icmp .ne 11, 3) := dc_at (f := decode cX9_readToken) dAX9_readToken_q0 29 rfl
theorem dX9_readToken_60 : decode cX9_readToken 60 = .ok (.aload_n 0, 1) := dc_at (f := decode cX9_readToken) dAX9_readToken_q0 30 rfl
theorem dX9_readToken_61 : decode cX9_readToken 61 = .ok (.iconst 0, 1) := dc_at (f := decode cX9_readToken) dAX9_readToken_q0 31 rfl
theorem dX9_readToken_62 : decode cX9_readToken 62 = .ok (.putfield 36, 3) := dc_at (f := decode cX9_readToken) dAX9_readToken_q0 32 rfl
theorem dX9_readToken_65 : decode cX9_readToken 65 = .ok (.goto 58, 3) := dc_at (f := decode cX9_readToken) dAX9_readToken_q0 33 rfl
theorem dX9_readToken_68 : decode cX9_readToken 68 = .ok (.iload_n 2, 1) := dc_at (f := decode cX9_readToken) dAX9_readToken_q0 34 rfl
theorem dX9_readToken_69 : decode cX9_readToken 69 = .ok (.invokestatic 131, 3) := dc_at (f := decode cX9_readToken) dAX9_readToken_q0 35 rfl
theorem dX9_readToken_72 : decode cX9_readToken 72 = .ok (.ifCond .eq 11, 3) := dc_at (f := decode cX9_readToken) dAX9_readToken_q0 36 rfl
theorem dX9_readToken_75 : decode cX9_readToken 75 = .ok (.aload_n 0, 1) := dc_at (f := decode cX9_readToken) dAX9_readToken_q0 37 rfl
theorem dX9_readToken_76 : decode cX9_readToken 76 = .ok (.aload_n 1, 1) := dc_at (f := decode cX9_readToken) dAX9_readToken_q0 38 rfl
theorem dX9_readToken_77 : decode cX9_readToken 77 = .ok (.invokevirtual 134, 3) := dc_at (f := decode cX9_readToken) dAX9_readToken_q0 39 rfl
theorem dX9_readToken_80 : decode cX9_readToken 80 = .ok (.goto 43, 3) := dc_at (f := decode cX9_readToken) dAX9_readToken_q0 40 rfl
theorem dX9_readToken_83 : decode cX9_readToken 83 = .ok (.iload_n 2, 1) := dc_at (f := decode cX9_readToken) dAX9_readToken_q0 41 rfl
theorem dX9_readToken_84 : decode cX9_readToken 84 = .ok (.invokestatic 137, 3) := dc_at (f := decode cX9_readToken) dAX9_readToken_q0 42 rfl
theorem dX9_readToken_87 : decode cX9_readToken 87 = .ok (.ifCond .eq 11, 3) := dc_at (f := decode cX9_readToken) dAX9_readToken_q0 43 rfl
theorem dX9_readToken_90 : decode cX9_readToken 90 = .ok (.aload_n 0, 1) := dc_at (f := decode cX9_readToken) dAX9_readToken_q0 44 rfl
theorem dX9_readToken_91 : decode cX9_readToken 91 = .ok (.aload_n 1, 1) := dc_at (f := decode cX9_readToken) dAX9_readToken_q0 45 rfl
theorem dX9_readToken_92 : decode cX9_readToken 92 = .ok (.invokevirtual 140, 3) := dc_at (f := decode cX9_readToken) dAX9_readToken_q0 46 rfl
theorem dX9_readToken_95 : decode cX9_readToken 95 = .ok (.goto 28, 3) := dc_at (f := decode cX9_readToken) dAX9_readToken_q0 47 rfl
def dPX9_readToken_q1 : List (Nat × (Jvm.ClassFile.Instr × Nat)) := [(98, (.aload_n 0, 1)), (99, (.dup, 1)), (100, (.getfield 45, 3)), (103, (.iconst 1, 1)), (104, (.iadd, 1)), (105, (.putfield 45, 3)), (108, (.aload_n 0, 1)), (109, (.iload_n 2, 1)), (110, (.bipush 59, 2)), (112, (.if_icmp .ne 7, 3)), (115, (.iconst 3, 1)), (116, (.goto 4, 3)), (119, (.iconst 4, 1)), (120, (.putfield 36, 3)), (123, (.return_, 1))]
theorem dAX9_readToken_q1 : ∀ x ∈ dPX9_readToken_q1, decode cX9_readToken x.1 = .ok x.2 := by decide +kernel
theorem dX9_readToken_98 : decode cX9_readToken 98 = .ok (.aload_n 0, 1) := dc_at (f := decode cX9_readToken) dAX9_readToken_q1 0 rfl
theorem dX9_readToken_99 : decode cX9_readToken 99 = .ok (.dup, 1) := dc_at (f := decode cX9_readToken) dAX9_readToken_q1 1 rfl
theorem dX9_readToken_100 : decode cX9_readToken 100 = .ok (.getfield 45, 3) := dc_at (f := decode cX9_readToken) dAX9_readToken_q1 2 rfl
theorem dX9_readToken_103 : decode cX9_readToken 103 = .ok (.iconst 1, 1) := dc_at (f := decode cX9_readToken) dAX9_readToken_q1 3 rfl
theorem dX9_readToken_104 : decode cX9_readToken 104 = .ok (.iadd, 1) := dc_at (f := decode cX9_readToken) dAX9_readToken_q1 4 rfl
theorem dX9_readToken_105 : decode cX9_readToken 105 = .ok (.putfield 45, 3) := dc_at (f := decode cX9_readToken) dAX9_readToken_q1 5 rfl
theorem dX9_readToken_108 : decode cX9_readToken 108 = .ok (.aload_n 0, 1) := dc_at (f := decode cX9_readToken) dAX9_readToken_q1 6 rfl
theorem dX9_readToken_109 : decode cX9_readToken 109 = .ok (.iload_n 2, 1) := dc_at (f := decode cX9_readToken) dAX9_readToken_q1 7 rfl
theorem dX9_readToken_110 : decode cX9_readToken 110 = .ok (.bipush 59, 2) := dc_at (f := decode cX9_readToken) dAX9_readToken_q1 8 rfl
theorem dX9_readToken_112 : decode cX9_readToken 112 = .ok (.if_icmp .ne 7, 3) := dc_at (f := decode cX9_readToken) dAX9_readToken_q1 9 rfl
theorem dX9_readToken_115 : decode cX9_readToken 115 = .ok (.iconst 3, 1) := dc_at (f := decode cX9_readToken) dAX9_readToken_q1 10 rfl
theorem dX9_readToken_116 : decode cX9_readToken 116 = .ok (.goto 4, 3) := dc_at (f := decode cX9_readToken) dAX9_readToken_q1 11 rfl
theorem dX9_readToken_119 : decode cX9_readToken 119 = .ok (.iconst 4, 1) := dc_at (f := decode cX9_readToken) dAX9_readToken_q1 12 rfl
theorem dX9_readToken_120 : decode cX9_readToken 120 = .ok (.putfield 36, 3) := dc_at (f := decode cX9_readToken) dAX9_readToken_q1 13 rfl
theorem dX9_readToken_123 : decode cX9_readToken 123 = .ok (.return_, 1) := dc_at (f := decode cX9_readToken) dAX9_readToken_q1 14 rfl
def dPX9_readWord_q0 : List (Nat × (Jvm.ClassFile.Instr × Nat)) := [(0, (.aload_n 0, 1)), (1, (.getfield 45, 3)), (4, (.aload_n 1, 1)), (5, (.invokevirtual 126, 3)), (8, (.if_icmp .ge 30, 3)), (11, (.aload_n 1, 1)), (12, (.aload_n 0, 1)), (13, (.getfield 45, 3)), (16, (.invokevirtual 116, 3)), (19, (.invokestatic 131, 3)), (22, (.ifCond .eq 16, 3)), (25, (.aload_n 0, 1)), (26, (.dup, 1)), (27, (.getfield 45, 3)), (30, (.iconst 1, 1)), (31, (.iadd, 1)), (32, (.putfield 45, 3)), (35, (.goto (-35), 3)), (38, (.aload_n 0, 1)), (39, (.iconst 1, 1)), (40, (.putfield 36, 3)), (43, (.return_, 1))]
theorem dAX9_readWord_q0 : ∀ x ∈ dPX9_readWord_q0, decode cX9_readWord x.1 = .ok x.2 := by decide +kernel
theorem dX9_readWord_0 : decode cX9_readWord 0 = .ok (.aload_n 0, 1) := dc_at (f := decode cX9_readWord) dAX9_readWord_q0 0 rfl
theorem dX9_readWord_1 : decode cX9_readWord 1 = .ok (.getfield 45, 3) := dc_at (f := decode cX9_readWord) dAX9_readWord_q0 1 rfl
theorem dX9_readWord_4 : decode cX9_readWord 4 = .ok (.aload_n 1, 1) := dc_at (f := decode cX9_readWord) dAX9_readWord_q0 2 rfl
theorem dX9_readWord_5 : decode cX9_readWord 5 = .ok (.invokevirtual 126, 3) := dc_at (f := decode cX9_readWord) dAX9_readWord_q0 3 rfl
theorem dX9_readWord_8 : decode cX9_readWord 8 = .ok (.if_icmp .ge 30, 3) := dc_at (f := decode cX9_readWord) dAX9_readWord_q0 4 rfl
theorem dX9_readWord_11 : decode cX9_readWord 11 = .ok (.aload_n 1, 1) := dc_at (f := decode cX9_readWord) dAX9_readWord_q0 5 rfl
theorem dX9_readWord_12 : decode cX9_readWord 12 = .ok (.aload_n 0, 1) := dc_at (f := decode cX9_readWord) dAX9_readWord_q0 6 rfl
theorem dX9_readWord_13 : decode cX9_readWord 13 = .ok (.getfield 45, 3) := dc_at (f := decode cX9_readWord) dAX9_readWord_q0 7 rfl
theorem dX9_readWord_16 : decode cX9_readWord 16 = .ok (.invokevirtual 116, 3) := dc_at (f := decode cX9_readWord) dAX9_readWord_q0 8 rfl
theorem dX9_readWord_19 : decode cX9_readWord 19 = .ok (.invokestatic 131, 3) := dc_at (f := decode cX9_readWord) dAX9_readWord_q0 9 rfl
theorem dX9_readWord_22 : decode cX9_readWord 22 = .ok (.ifCond .eq 16, 3) := dc_at (f := decode cX9_readWord) dAX9_readWord_q0 10 rfl
theorem dX9_readWord_25 : decode cX9_readWord 25 = .ok (.aload_n 0, 1) := dc_at (f := decode cX9_readWord) dAX9_readWord_q0 11 rfl
theorem dX9_readWord_26 : decode cX9_readWord 26 = .ok (.dup, 1) := dc_at (f := decode cX9_readWord) dAX9_readWord_q0 12 rfl
theorem dX9_readWord_27 : decode cX9_readWord 27 = .ok (.getfield 45, 3) := dc_at (f := decode cX9_readWord) dAX9_readWord_q0 13 rfl
theorem dX9_readWord_30 : decode cX9_readWord 30 = .ok (.iconst 1, 1) := dc_at (f := decode cX9_readWord) dAX9_readWord_q0 14 rfl
theorem dX9_readWord_31 : decode cX9_readWord 31 = .ok (.iadd, 1) := dc_at (f := decode cX9_readWord) dAX9_readWord_q0 15 rfl
theorem dX9_readWord_32 : decode cX9_readWord 32 = .ok (.putfield 45, 3) := dc_at (f := decode cX9_readWord) dAX9_readWord_q0 16 rfl
theorem dX9_readWord_35 : decode cX9_readWord 35 = .ok (.goto (-35), 3) := dc_at (f := decode cX9_readWord) dAX9_readWord_q0 17 rfl
theorem dX9_readWord_38 : decode cX9_readWord 38 = .ok (.aload_n 0, 1) := dc_at (f := decode cX9_readWord) dAX9_readWord_q0 18 rfl
theorem dX9_readWord_39 : decode cX9_readWord 39 = .ok (.iconst 1, 1) := dc_at (f := decode cX9_readWord) dAX9_readWord_q0 19 rfl
theorem dX9_readWord_40 : decode cX9_readWord 40 = .ok (.putfield 36, 3) := dc_at (f := decode cX9_readWord) dAX9_readWord_q0 20 rfl
theorem dX9_readWord_43 : decode cX9_readWord 43 = .ok (.return_, 1) := dc_at (f := decode cX9_readWord) dAX9_readWord_q0 21 rfl
def dPX9_readNumber_q0 : List (Nat × (Jvm.ClassFile.Instr × Nat)) := [(0, (.aload_n 0, 1)), (1, (.iconst 0, 1)), (2, (.putfield 73, 3)), (5, (.aload_n 0, 1)), (6, (.getfield 45, 3)), (9, (.aload_n 1, 1)), (10, (.invokevirtual 126, 3)), (13, (.if_icmp .ge 67, 3)), (16, (.aload_n 1, 1)), (17, (.aload_n 0, 1)), (18, (.getfield 45, 3)), (21, (.invokevirtual 116, 3)), (24, (.invokestatic 137, 3)), (27, (.ifCond .eq 53, 3)), (30, (.aload_n 0, 1)), (31, (.getfield 45, 3)), (34, (.aload_n 0, 1)), (35, (.getfield 48, 3)), (38, (.isub, 1)), (39, (.bipush 6, 2)), (41, (.if_icmp .ge 26, 3)), (44, (.aload_n 0, 1)), (45, (.aload_n 0, 1)), (46, (.getfield 73, 3)), (49, (.bipush 10, 2)), (51, (.imul, 1)), (52, (.aload_n 1, 1)), (53, (.aload_n 0, 1)), (54, (.getfield 45, 3)), (57, (.invokevirtual 116, 3)), (60, (.iadd, 1)), (61, (.bipush 48, 2)), (63, (.isub, 1)), (64, (.putfield 73, 3)), (67, (.aload_n 0, 1)), (68, (.dup, 1)), (69, (.getfield 45, 3)), (72, (.iconst 1, 1)), (73, (.iadd, 1)), (74, (.putfield 45, 3)), (77, (.goto (-72), 3)), (80, (.aload_n 0, 1)), (81, (.aload_n 0, 1)), (82, (.getfield 45, 3)), (85, (.aload_n 0, 1)), (86, (.getfield 48, 3)), (89, (.isub, 1)), (90, (.bipush 6, 2))]
theorem dAX9_readNumber_q0 : ∀ x ∈ dPX9_readNumber_q0, decode cX9_readNumber x.1 = .ok x.2 := by decide +kernel
theorem dX9_readNumber_0 : decode cX9_readNumber 0 = .ok (.aload_n 0, 1) := dc_at (f := decode cX9_readNumber) dAX9_readNumber_q0 0 rfl
theorem dX9_readNumber_1 : decode cX9_readNumber 1 = .ok (.iconst 0, 1) := dc_at (f := decode cX9_readNumber) dAX9_readNumber_q0 1 rfl
theorem dX9_readNumber_2 : decode cX9_readNumber 2 = .ok (.putfield 73, 3) := dc_at (f := decode cX9_readNumber) dAX9_readNumber_q0 2 rfl
theorem dX9_readNumber_5 : decode cX9_readNumber 5 = .ok (.aload_n 0, 1) := dc_at (f := decode cX9_readNumber) dAX9_readNumber_q0 3 rfl
theorem dX9_readNumber_6 : decode cX9_readNumber 6 = .ok (.getfield 45, 3) := dc_at (f := decode cX9_readNumber) dAX9_readNumber_q0 4 rfl
theorem dX9_readNumber_9 : decode cX9_readNumber 9 = .ok (.aload_n 1, 1) := dc_at (f := decode cX9_readNumber) dAX9_readNumber_q0 5 rfl
theorem dX9_readNumber_10 : decode cX9_readNumber 10 = .ok (.invokevirtual 126, 3) := dc_at (f := decode cX9_readNumber) dAX9_readNumber_q0 6 rfl
theorem dX9_readNumber_13 : decode cX9_readNumber 13 = .ok (.if_icmp .ge 67, 3) := dc_at (f := decode cX9_readNumber) dAX9_readNumber_q0 7 rfl
theorem dX9_readNumber_16 : decode cX9_readNumber 16 = .ok (.aload_n 1, 1) := dc_at (f := decode cX9_readNumber) dAX9_readNumber_q0 8 rfl
theorem dX9_readNumber_17 : decode cX9_readNumber 17 = .ok (.aload_n 0, 1) := dc_at (f := decode cX9_readNumber) dAX9_readNumber_q0 9 rfl
theorem dX9_readNumber_18 : decode cX9_readNumber 18 = .ok (.getfield 45, 3) := dc_at (f := decode cX9_readNumber) dAX9_readNumber_q0 10 rfl
theorem dX9_readNumber_21 : decode cX9_readNumber 21 = .ok (.invokevirtual 116, 3) := dc_at (f := decode cX9_readNumber) dAX9_readNumber_q0 11 rfl
theorem dX9_readNumber_24 : decode cX9_readNumber 24 = .ok (.invokestatic 137, 3) := dc_at (f := decode cX9_readNumber) dAX9_readNumber_q0 12 rfl
theorem dX9_readNumber_27 : decode cX9_readNumber 27 = .ok (.ifCond .eq 53, 3) := dc_at (f := decode cX9_readNumber) dAX9_readNumber_q0 13 rfl
theorem dX9_readNumber_30 : decode cX9_readNumber 30 = .ok (.aload_n 0, 1) := dc_at (f := decode cX9_readNumber) dAX9_readNumber_q0 14 rfl
theorem dX9_readNumber_31 : decode cX9_readNumber 31 = .ok (.getfield 45, 3) := dc_at (f := decode cX9_readNumber) dAX9_readNumber_q0 15 rfl
theorem dX9_readNumber_34 : decode cX9_readNumber 34 = .ok (.aload_n 0, 1) := dc_at (f := decode cX9_readNumber) dAX9_readNumber_q0 16 rfl
theorem dX9_readNumber_35 : decode cX9_readNumber 35 = .ok (.getfield 48, 3) := dc_at (f := decode cX9_readNumber) dAX9_readNumber_q0 17 rfl
theorem dX9_readNumber_38 : decode cX9_readNumber 38 = .ok (.isub, 1) := dc_at (f := decode cX9_readNumber) dAX9_readNumber_q0 18 rfl
theorem dX9_readNumber_39 : decode cX9_readNumber 39 = .ok (.bipush 6, 2) := dc_at (f := decode cX9_readNumber) dAX9_readNumber_q0 19 rfl
theorem dX9_readNumber_41 : decode cX9_readNumber 41 = .ok (.if_icmp .ge 26, 3) := dc_at (f := decode cX9_readNumber) dAX9_readNumber_q0 20 rfl
theorem dX9_readNumber_44 : decode cX9_readNumber 44 = .ok (.aload_n 0, 1) := dc_at (f := decode cX9_readNumber) dAX9_readNumber_q0 21 rfl
theorem dX9_readNumber_45 : decode cX9_readNumber 45 = .ok (.aload_n 0, 1) := dc_at (f := decode cX9_readNumber) dAX9_readNumber_q0 22 rfl
theorem dX9_readNumber_46 : decode cX9_readNumber 46 = .ok (.getfield 73, 3) := dc_at (f := decode cX9_readNumber) dAX9_readNumber_q0 23 rfl
theorem dX9_readNumber_49 : decode cX9_readNumber 49 = .ok (.bipush 10, 2) := dc_at (f := decode cX9_readNumber) dAX9_readNumber_q0 24 rfl
theorem dX9_readNumber_51 : decode cX9_readNumber 51 = .ok (.imul, 1) := dc_at (f := decode cX9_readNumber) dAX9_readNumber_q0 25 rfl
theorem dX9_readNumber_52 : decode cX9_readNumber 52 = .ok (.aload_n 1, 1) := dc_at (f := decode cX9_readNumber) dAX9_readNumber_q0 26 rfl
theorem dX9_readNumber_53 : decode cX9_readNumber 53 = .ok (.aload_n 0, 1) := dc_at (f := decode cX9_readNumber) dAX9_readNumber_q0 27 rfl
theorem dX9_readNumber_54 : decode cX9_readNumber 54 = .ok (.getfield 45, 3) := dc_at (f := decode cX9_readNumber) dAX9_readNumber_q0 28 rfl
theorem dX9_readNumber_57 : decode cX9_readNumber 57 = .ok (.invokevirtual 116, 3) := dc_at (f := decode cX9_readNumber) dAX9_readNumber_q0 29 rfl
theorem dX9_readNumber_60 : decode cX9_readNumber 60 = .ok (.iadd, 1) := dc_at (f := decode cX9_readNumber) dAX9_readNumber_q0 30 rfl
theorem dX9_readNumber_61 : decode cX9_readNumber 61 = .ok (.bipush 48, 2) := dc_at (f := decode cX9_readNumber) dAX9_readNumber_q0 31 rfl
theorem dX9_readNumber_63 : decode cX9_readNumber 63 = .ok (.isub, 1) := dc_at (f := decode cX9_readNumber) dAX9_readNumber_q0 32 rfl
theorem dX9_readNumber_64 : decode cX9_readNumber 64 = .ok (.putfield 73, 3) := dc_at (f := decode cX9_readNumber) dAX9_readNumber_q0 33 rfl
theorem dX9_readNumber_67 : decode cX9_readNumber 67 = .ok (.aload_n 0, 1) := dc_at (f := decode cX9_readNumber) dAX9_readNumber_q0 34 rfl
theorem dX9_readNumber_68 : decode cX9_readNumber 68 = .ok (.dup, 1) := dc_at (f := decode cX9_readNumber) dAX9_readNumber_q0 35 rfl
theorem dX9_readNumber_69 : decode cX9_readNumber 69 = .ok (.getfield 45, 3) := dc_at (f := decode cX9_readNumber) dAX9_readNumber_q0 36 rfl
theorem dX9_readNumber_72 : decode cX9_readNumber 72 = .ok (.iconst 1, 1) := dc_at (f := decode cX9_readNumber) dAX9_readNumber_q0 37 rfl
theorem dX9_readNumber_73 : decode cX9_readNumber 73 = .ok (.iadd, 1) := dc_at (f := decode cX9_readNumber) dAX9_readNumber_q0 38 rfl
theorem dX9_readNumber_74 : decode cX9_readNumber 74 = .ok (.putfield 45, 3) := dc_at (f := decode cX9_readNumber) dAX9_readNumber_q0 39 rfl
theorem dX9_readNumber_77 : decode cX9_readNumber 77 = .ok (.goto (-72), 3) := dc_at (f := decode cX9_readNumber) dAX9_readNumber_q0 40 rfl
theorem dX9_readNumber_80 : decode cX9_readNumber 80 = .ok (.aload_n 0, 1) := dc_at (f := decode cX9_readNumber) dAX9_readNumber_q0 41 rfl
theorem dX9_readNumber_81 : decode cX9_readNumber 81 = .ok (.aload_n 0, 1) := dc_at (f := decode cX9_readNumber) dAX9_readNumber_q0 42 rfl
theorem dX9_readNumber_82 : decode cX9_readNumber 82 = .ok (.getfield 45, 3) := dc_at (f := decode cX9_readNumber) dAX9_readNumber_q0 43 rfl
theorem dX9_readNumber_85 : decode cX9_readNumber 85 = .ok (.aload_n 0, 1) := dc_at (f := decode cX9_readNumber) dAX9_readNumber_q0 44 rfl
theorem dX9_readNumber_86 : decode cX9_readNumber 86 = .ok (.getfield 48, 3) := dc_at (f := decode cX9_readNumber) dAX9_readNumber_q0 45 rfl
theorem dX9_readNumber_89 : decode cX9_readNumber 89 = .ok (.isub, 1) := dc_at (f := decode cX9_readNumber) dAX9_readNumber_q0 46 rfl
theorem dX9_readNumber_90 : decode cX9_readNumber 90 = .ok (.bipush 6, 2) := dc_at (f := decode cX9_readNumber) dAX9_readNumber_q0 47 rfl
def dPX9_readNumber_q1 : List (Nat × (Jvm.ClassFile.Instr × Nat)) := [(92, (.if_icmp .gt 7, 3)), (95, (.iconst 2, 1)), (96, (.goto 4, 3)), (99, (.iconst 4, 1)), (100, (.putfield 36, 3)), (103, (.return_, 1))]
theorem dAX9_readNumber_q1 : ∀ x ∈ dPX9_readNumber_q1, decode cX9_readNumber x.1 = .ok x.2 := by decide +kernel
theorem dX9_readNumber_92 : decode cX9_readNumber 92 = .ok (.if_icmp .gt 7, 3) := dc_at (f := decode cX9_readNumber) dAX9_readNumber_q1 0 rfl
theorem dX9_readNumber_95 : decode cX9_readNumber 95 = .ok (.iconst 2, 1) := dc_at (f := decode cX9_readNumber) dAX9_readNumber_q1 1 rfl
theorem dX9_readNumber_96 : decode cX9_readNumber 96 = .ok (.goto 4, 3) := dc_at (f := decode cX9_readNumber) dAX9_readNumber_q1 2 rfl
theorem dX9_readNumber_99 : decode cX9_readNumber 99 = .ok (.iconst 4, 1) := dc_at (f := decode cX9_readNumber) dAX9_readNumber_q1 3 rfl
theorem dX9_readNumber_100 : decode cX9_readNumber 100 = .ok (.putfield 36, 3) := dc_at (f := decode cX9_readNumber) dAX9_readNumber_q1 4 rfl
theorem dX9_readNumber_103 : decode cX9_readNumber 103 = .ok (.return_, 1) := dc_at (f := decode cX9_readNumber) dAX9_readNumber_q1 5 rfl
def dPX9_isBlank_q0 : List (Nat × (Jvm.ClassFile.Instr × Nat)) := [(0, (.iload_n 0, 1)), (1, (.bipush 32, 2)), (3, (.if_icmp .eq 9, 3)), (6, (.iload_n 0, 1)), (7, (.bipush 10, 2)), (9, (.if_icmp .ne 7, 3)), (12, (.iconst 1, 1)), (13, (.goto 4, 3)), (16, (.iconst 0, 1)), (17, (.ireturn, 1))]
theorem dAX9_isBlank_q0 : ∀ x ∈ dPX9_isBlank_q0, decode cX9_isBlank x.1 = .ok x.2 := by decide +kernel
theorem dX9_isBlank_0 : decode cX9_isBlank 0 = .ok (.iload_n 0, 1) := dc_at (f := decode cX9_isBlank) dAX9_isBlank_q0 0 rfl
theorem dX9_isBlank_1 : decode cX9_isBlank 1 = .ok (.bipush 32, 2) := dc_at (f := decode cX9_isBlank) dAX9_isBlank_q0 1 rfl
theorem dX9_isBlank_3 : decode cX9_isBlank 3 = .ok (.if_icmp .eq 9, 3) := dc_at (f := decode cX9_isBlank) dAX9_isBlank_q0 2 rfl
theorem dX9_isBlank_6 : decode cX9_isBlank 6 = .ok (.iload_n 0, 1) := dc_at (f := decode cX9_isBlank) dAX9_isBlank_q0 3 rfl
theorem dX9_isBlank_7 : decode cX9_isBlank 7 = .ok (.bipush 10, 2) := dc_at (f := decode cX9_isBlank) dAX9_isBlank_q0 4 rfl
theorem dX9_isBlank_9 : decode cX9_isBlank 9 = .ok (.if_icmp .ne 7, 3) := dc_at (f := decode cX9_isBlank) dAX9_isBlank_q0 5 rfl
theorem dX9_isBlank_12 : decode cX9_isBlank 12 = .ok (.iconst 1, 1) := dc_at (f := decode cX9_isBlank) dAX9_isBlank_q0 6 rfl
theorem dX9_isBlank_13 : decode cX9_isBlank 13 = .ok (.goto 4, 3) := dc_at (f := decode cX9_isBlank) dAX9_isBlank_q0 7 rfl
theorem dX9_isBlank_16 : decode cX9_isBlank 16 = .ok (.iconst 0, 1) := dc_at (f := decode cX9_isBlank) dAX9_isBlank_q0 8 rfl
theorem dX9_isBlank_17 : decode cX9_isBlank 17 = .ok (.ireturn, 1) := dc_at (f := decode cX9_isBlank) dAX9_isBlank_q0 9 rfl
def dPX9_isLetter_q0 : List (Nat × (Jvm.ClassFile.Instr × Nat)) := [(0, (.iload_n 0, 1)), (1, (.bipush 97, 2)), (3, (.if_icmp .lt 13, 3)), (6, (.iload_n 0, 1)), (7, (.bipush 122, 2)), (9, (.if_icmp .gt 7, 3)), (12, (.iconst 1, 1)), (13, (.goto 4, 3)), (16, (.iconst 0, 1)), (17, (.ireturn, 1))]
theorem dAX9_isLetter_q0 : ∀ x ∈ dPX9_isLetter_q0, decode cX9_isLetter x.1 = .ok x.2 := by decide +kernel
theorem dX9_isLetter_0 : decode cX9_isLetter 0 = .ok (.iload_n 0, 1) := dc_at (f := decode cX9_isLetter) dAX9_isLetter_q0 0 rfl
theorem dX9_isLetter_1 : decode cX9_isLetter 1 = .ok (.bipush 97, 2) := dc_at (f := decode cX9_isLetter) dAX9_isLetter_q0 1 rfl
theorem dX9_isLetter_3 : decode cX9_isLetter 3 = .ok (.if_icmp .lt 13, 3) := dc_at (f := decode cX9_isLetter) dAX9_isLetter_q0 2 rfl
theorem dX9_isLetter_6 : decode cX9_isLetter 6 = .ok (.iload_n 0, 1) := dc_at (f := decode cX9_isLetter) dAX9_isLetter_q0 3 rfl
theorem dX9_isLetter_7 : decode cX9_isLetter 7 = .ok (.bipush 122, 2) := dc_at (f := decode cX9_isLetter) dAX9_isLetter_q0 4 rfl
theorem dX9_isLetter_9 : decode cX9_isLetter 9 = .ok (.if_icmp .gt 7, 3) := dc_at (f := decode cX9_isLetter) dAX9_isLetter_q0 5 rfl
theorem dX9_isLetter_12 : decode cX9_isLetter 12 = .ok (.iconst 1, 1) := dc_at (f := decode cX9_isLetter) dAX9_isLetter_q0 6 rfl
theorem dX9_isLetter_13 : decode cX9_isLetter 13 = .ok (.goto 4, 3) := dc_at (f := decode cX9_isLetter) dAX9_isLetter_q0 7 rfl
theorem dX9_isLetter_16 : decode cX9_isLetter 16 = .ok (.iconst 0, 1) := dc_at (f := decode cX9_isLetter) dAX9_isLetter_q0 8 rfl
theorem dX9_isLetter_17 : decode cX9_isLetter 17 = .ok (.ireturn, 1) := dc_at (f := decode cX9_isLetter) dAX9_isLetter_q0 9 rfl
def dPX9_isDigit_q0 : List (Nat × (Jvm.ClassFile.Instr × Nat)) := [(0, (.iload_n 0, 1)), (1, (.bipush 48, 2)), (3, (.if_icmp .lt 13, 3)), (6, (.iload_n 0, 1)), (7, (.bipush 57, 2)), (9, (.if_icmp .gt 7, 3)), (12, (.iconst 1, 1)), (13, (.goto 4, 3)), (16, (.iconst 0, 1)), (17, (.ireturn, 1))]
theorem dAX9_isDigit_q0 : ∀ x ∈ dPX9_isDigit_q0, decode cX9_isDigit x.1 = .ok x.2 := by decide +kernel
theorem dX9_isDigit_0 : decode cX9_isDigit 0 = .ok (.iload_n 0, 1) := dc_at (f := decode cX9_isDigit) dAX9_isDigit_q0 0 rfl
theorem dX9_isDigit_1 : decode cX9_isDigit 1 = .ok (.bipush 48, 2) := dc_at (f := decode cX9_isDigit) dAX9_isDigit_q0 1 rfl
theorem dX9_isDigit_3 : decode cX9_isDigit 3 = .ok (.if_icmp .lt 13, 3) := dc_at (f := decode cX9_isDigit) dAX9_isDigit_q0 2 rfl
theorem dX9_isDigit_6 : decode cX9_isDigit 6 = .ok (.iload_n 0, 1) := dc_at (f := decode cX9_isDigit) dAX9_isDigit_q0 3 rfl
theorem dX9_isDigit_7 : decode cX9_isDigit 7 = .ok (.bipush 57, 2) := dc_at (f := decode cX9_isDigit) dAX9_isDigit_q0 4 rfl
theorem dX9_isDigit_9 : decode cX9_isDigit 9 = .ok (.if_icmp .gt 7, 3) := dc_at (f := decode cX9_isDigit) dAX9_isDigit_q0 5 rfl
theorem dX9_isDigit_12 : decode cX9_isDigit 12 = .ok (.iconst 1, 1) := dc_at (f := decode cX9_isDigit) dAX9_isDigit_q0 6 rfl
theorem dX9_isDigit_13 : decode cX9_isDigit 13 = .ok (.goto 4, 3) := dc_at (f := decode cX9_isDigit) dAX9_isDigit_q0 7 rfl
theorem dX9_isDigit_16 : decode cX9_isDigit 16 = .ok (.iconst 0, 1) := dc_at (f := decode cX9_isDigit) dAX9_isDigit_q0 8 rfl
theorem dX9_isDigit_17 : decode cX9_isDigit 17 = .ok (.ireturn, 1) := dc_at (f := decode cX9_isDigit) dAX9_isDigit_q0 9 rfl
def dPX10_init_q0 : List (Nat × (Jvm.ClassFile.Instr × Nat)) := [(0, (.aload_n 0, 1)), (1, (.invokespecial 1, 3)), (4, (.aload_n 0, 1)), (5, (.new 7, 3)), (8, (.dup, 1)), (9, (.invokespecial 9, 3)), (12, (.putfield 10, 3)), (15, (.aload_n 0, 1)), (16, (.new 16, 3)), (19, (.dup, 1)), (20, (.invokespecial 18, 3)), (23, (.putfield 19, 3)), (26, (.aload_n 0, 1)), (27, (.new 23, 3)), (30, (.dup, 1)), (31, (.invokespecial 25, 3)), (34, (.putfield 26, 3)), (37, (.aload_n 0, 1)), (38, (.new 30, 3)), (41, (.dup, 1)), (42, (.invokespecial 32, 3)), (45, (.putfield 33, 3)), (48, (.aload_n 0, 1)), (49, (.new 37, 3)), (52, (.dup, 1)), (53, (.invokespecial 39, 3)), (56, (.putfield 40, 3)), (59, (.aload_n 0, 1)), (60, (.new 44, 3)), (63, (.dup, 1)), (64, (.invokespecial 46, 3)), (67, (.putfield 47, 3)), (70, (.aload_n 0, 1)), (71, (.new 51, 3)), (74, (.dup, 1)), (75, (.invokespecial 53, 3)), (78, (.putfield 54, 3)), (81, (.aload_n 0, 1)), (82, (.new 58, 3)), (85, (.dup, 1)), (86, (.invokespecial 60, 3)), (89, (.putfield 61, 3)), (92, (.return_, 1))]
theorem dAX10_init_q0 : ∀ x ∈ dPX10_init_q0, decode cX10_init x.1 = .ok x.2 := by decide +kernel
theorem dX10_init_0 : decode cX10_init 0 = .ok (.aload_n 0, 1) := dc_at (f := decode cX10_init) dAX10_init_q0 0 rfl
theorem dX10_init_1 : decode cX10_init 1 = .ok (.invokespecial 1, 3) := dc_at (f := decode cX10_init) dAX10_init_q0 1 rfl
theorem dX10_init_4 : decode cX10_init 4 = .ok (.aload_n 0, 1) := dc_at (f := decode cX10_init) dAX10_init_q0 2 rfl
theorem dX10_init_5 : decode cX10_init 5 = .ok (.new 7, 3) := dc_at (f := decode cX10_init) dAX10_init_q0 3 rfl
theorem dX10_init_8 : decode cX10_init 8 = .ok (.dup, 1) := dc_at (f := decode cX10_init) dAX10_init_q0 4 rfl
theorem dX10_init_9 : decode cX10_init 9 = .ok (.invokespecial 9, 3) := dc_at (f := decode cX10_init) dAX10_init_q0 5 rfl
theorem dX10_init_12 : decode cX10_init 12 = .ok (.putfield 10, 3) := dc_at (f := decode cX10_init) dAX10_init_q0 6 rfl
theorem dX10_init_15 : decode cX10_init 15 = .ok (.aload_n 0, 1) := dc_at (f := decode cX10_init) dAX10_init_q0 7 rfl
theorem dX10_init_16 : decode cX10_init 16 = .ok (.new 16, 3) := dc_at (f := decode cX10_init) dAX10_init_q0 8 rfl
theorem dX10_init_19 : decode cX10_init 19 = .ok (.dup, 1) := dc_at (f := decode cX10_init) dAX10_init_q0 9 rfl
theorem dX10_init_20 : decode cX10_init 20 = .ok (.invokespecial 18, 3) := dc_at (f := decode cX10_init) dAX10_init_q0 10 rfl
theorem dX10_init_23 : decode cX10_init 23 = .ok (.putfield 19, 3) := dc_at (f := decode cX10_init) dAX10_init_q0 11 rfl
theorem dX10_init_26 : decode cX10_init 26 = .ok (.aload_n 0, 1) := dc_at (f := decode cX10_init) dAX10_init_q0 12 rfl
theorem dX10_init_27 : decode cX10_init 27 = .ok (.new 23, 3) := dc_at (f := decode cX10_init) dAX10_init_q0 13 rfl
theorem dX10_init_30 : decode cX10_init 30 = .ok (.dup, 1) := dc_at (f := decode cX10_init) dAX10_init_q0 14 rfl
theorem dX10_init_31 : decode cX10_init 31 = .ok (.invokespecial 25, 3) := dc_at (f := decode cX10_init) dAX10_init_q0 15 rfl
theorem dX10_init_34 : decode cX10_init 34 = .ok (.putfield 26, 3) := dc_at (f := decode cX10_init) dAX10_init_q0 16 rfl
theorem dX10_init_37 : decode cX10_init 37 = .ok (.aload_n 0, 1) := dc_at (f := decode cX10_init) dAX10_init_q0 17 rfl
theorem dX10_init_38 : decode cX10_init 38 = .ok (.new 30, 3) := dc_at (f := decode cX10_init) dAX10_init_q0 18 rfl
theorem dX10_init_41 : decode cX10_init 41 = .ok (.dup, 1) := dc_at (f := decode cX10_init) dAX10_init_q0 19 rfl
theorem dX10_init_42 : decode cX10_init 42 = .ok (.invokespecial 32, 3) := dc_at (f := decode cX10_init) dAX10_init_q0 20 rfl
theorem dX10_init_45 : decode cX10_init 45 = .ok (.putfield 33, 3) := dc_at (f := decode cX10_init) dAX10_init_q0 21 rfl
theorem dX10_init_48 : decode cX10_init 48 = .ok (.aload_n 0, 1) := dc_at (f := decode cX10_init) dAX10_init_q0 22 rfl
theorem dX10_init_49 : decode cX10_init 49 = .ok (.new 37, 3) := dc_at (f := decode cX10_init) dAX10_init_q0 23 rfl
theorem dX10_init_52 : decode cX10_init 52 = .ok (.dup, 1) := dc_at (f := decode cX10_init) dAX10_init_q0 24 rfl
theorem dX10_init_53 : decode cX10_init 53 = .ok (.invokespecial 39, 3) := dc_at (f := decode cX10_init) dAX10_init_q0 25 rfl
theorem dX10_init_56 : decode cX10_init 56 = .ok (.putfield 40, 3) := dc_at (f := decode cX10_init) dAX10_init_q0 26 rfl
theorem dX10_init_59 : decode cX10_init 59 = .ok (.aload_n 0, 1) := dc_at (f := decode cX10_init) dAX10_init_q0 27 rfl
theorem dX10_init_60 : decode cX10_init 60 = .ok (.new 44, 3) := dc_at (f := decode cX10_init) dAX10_init_q0 28 rfl
theorem dX10_init_63 : decode cX10_init 63 = .ok (.dup, 1) := dc_at (f := decode cX10_init) dAX10_init_q0 29 rfl
theorem dX10_init_64 : decode cX10_init 64 = .ok (.invokespecial 46, 3) := dc_at (f := decode cX10_init) dAX10_init_q0 30 rfl
theorem dX10_init_67 : decode cX10_init 67 = .ok (.putfield 47, 3) := dc_at (f := decode cX10_init) dAX10_init_q0 31 rfl
theorem dX10_init_70 : decode cX10_init 70 = .ok (.aload_n 0, 1) := dc_at (f := decode cX10_init) dAX10_init_q0 32 rfl
theorem dX10_init_71 : decode cX10_init 71 = .ok (.new 51, 3) := dc_at (f := decode cX10_init) dAX10_init_q0 33 rfl
theorem dX10_init_74 : decode cX10_init 74 = .ok (.dup, 1) := dc_at (f := decode cX10_init) dAX10_init_q0 34 rfl
theorem dX10_init_75 : decode cX10_init 75 = .ok (.invokespecial 53, 3) := dc_at (f := decode cX10_init) dAX10_init_q0 35 rfl
theorem dX10_init_78 : decode cX10_init 78 = .ok (.putfield 54, 3) := dc_at (f := decode cX10_init) dAX10_init_q0 36 rfl
theorem dX10_init_81 : decode cX10_init 81 = .ok (.aload_n 0, 1) := dc_at (f := decode cX10_init) dAX10_init_q0 37 rfl
theorem dX10_init_82 : decode cX10_init 82 = .ok (.new 58, 3) := dc_at (f := decode cX10_init) dAX10_init_q0 38 rfl
theorem dX10_init_85 : decode cX10_init 85 = .ok (.dup, 1) := dc_at (f := decode cX10_init) dAX10_init_q0 39 rfl
theorem dX10_init_86 : decode cX10_init 86 = .ok (.invokespecial 60, 3) := dc_at (f := decode cX10_init) dAX10_init_q0 40 rfl
theorem dX10_init_89 : decode cX10_init 89 = .ok (.putfield 61, 3) := dc_at (f := decode cX10_init) dAX10_init_q0 41 rfl
theorem dX10_init_92 : decode cX10_init 92 = .ok (.return_, 1) := dc_at (f := decode cX10_init) dAX10_init_q0 42 rfl
def dPX10_feed_q0 : List (Nat × (Jvm.ClassFile.Instr × Nat)) := [(0, (.aload_n 0, 1)), (1, (.getfield 10, 3)), (4, (.invokevirtual 65, 3)), (7, (.ifCond .ne 6, 3)), (10, (.bipush (-3), 2)), (12, (.ireturn, 1)), (13, (.aload_n 0, 1)), (14, (.getfield 10, 3)), (17, (.iload_n 1, 1)), (18, (.invokevirtual 69, 3)), (21, (.aload_n 0, 1)), (22, (.getfield 10, 3)), (25, (.iload_n 2, 1)), (26, (.invokevirtual 69, 3)), (29, (.aload_n 0, 1)), (30, (.getfield 10, 3)), (33, (.iload_n 3, 1)), (34, (.invokevirtual 69, 3)), (37, (.aload_n 0, 1)), (38, (.getfield 10, 3)), (41, (.iload 4, 2)), (43, (.invokevirtual 69, 3)), (46, (.aload_n 0, 1)), (47, (.getfield 10, 3)), (50, (.iload 5, 2)), (52, (.invokevirtual 69, 3)), (55, (.aload_n 0, 1)), (56, (.getfield 10, 3)), (59, (.invokevirtual 73, 3)), (62, (.ireturn, 1))]
theorem dAX10_feed_q0 : ∀ x ∈ dPX10_feed_q0, decode cX10_feed x.1 = .ok x.2 := by decide +kernel
theorem dX10_feed_0 : decode cX10_feed 0 = .ok (.aload_n 0, 1) := dc_at (f := decode cX10_feed) dAX10_feed_q0 0 rfl
theorem dX10_feed_1 : decode cX10_feed 1 = .ok (.getfield 10, 3) := dc_at (f := decode cX10_feed) dAX10_feed_q0 1 rfl
theorem dX10_feed_4 : decode cX10_feed 4 = .ok (.invokevirtual 65, 3) := dc_at (f := decode cX10_feed) dAX10_feed_q0 2 rfl
theorem dX10_feed_7 : decode cX10_feed 7 = .ok (.ifCond .ne 6, 3) := dc_at (f := decode cX10_feed) dAX10_feed_q0 3 rfl
theorem dX10_feed_10 : decode cX10_feed 10 = .ok (.bipush (-3), 2) := dc_at (f := decode cX10_feed) dAX10_feed_q0 4 rfl
theorem dX10_feed_12 : decode cX10_feed 12 = .ok (.ireturn, 1) := dc_at (f := decode cX10_feed) dAX10_feed_q0 5 rfl
theorem dX10_feed_13 : decode cX10_feed 13 = .ok (.aload_n 0, 1) := dc_at (f := decode cX10_feed) dAX10_feed_q0 6 rfl
theorem dX10_feed_14 : decode cX10_feed 14 = .ok (.getfield 10, 3) := dc_at (f := decode cX10_feed) dAX10_feed_q0 7 rfl
theorem dX10_feed_17 : decode cX10_feed 17 = .ok (.iload_n 1, 1) := dc_at (f := decode cX10_feed) dAX10_feed_q0 8 rfl
theorem dX10_feed_18 : decode cX10_feed 18 = .ok (.invokevirtual 69, 3) := dc_at (f := decode cX10_feed) dAX10_feed_q0 9 rfl
theorem dX10_feed_21 : decode cX10_feed 21 = .ok (.aload_n 0, 1) := dc_at (f := decode cX10_feed) dAX10_feed_q0 10 rfl
theorem dX10_feed_22 : decode cX10_feed 22 = .ok (.getfield 10, 3) := dc_at (f := decode cX10_feed) dAX10_feed_q0 11 rfl
theorem dX10_feed_25 : decode cX10_feed 25 = .ok (.iload_n 2, 1) := dc_at (f := decode cX10_feed) dAX10_feed_q0 12 rfl
theorem dX10_feed_26 : decode cX10_feed 26 = .ok (.invokevirtual 69, 3) := dc_at (f := decode cX10_feed) dAX10_feed_q0 13 rfl
theorem dX10_feed_29 : decode cX10_feed 29 = .ok (.aload_n 0, 1) := dc_at (f := decode cX10_feed) dAX10_feed_q0 14 rfl
theorem dX10_feed_30 : decode cX10_feed 30 = .ok (.getfield 10, 3) := dc_at (f := decode cX10_feed) dAX10_feed_q0 15 rfl
theorem dX10_feed_33 : decode cX10_feed 33 = .ok (.iload_n 3, 1) := dc_at (f := decode cX10_feed) dAX10_feed_q0 16 rfl
theorem dX10_feed_34 : decode cX10_feed 34 = .ok (.invokevirtual 69, 3) := dc_at (f := decode cX10_feed) dAX10_feed_q0 17 rfl
theorem dX10_feed_37 : decode cX10_feed 37 = .ok (.aload_n 0, 1) := dc_at (f := decode cX10_feed) dAX10_feed_q0 18 rfl
theorem dX10_feed_38 : decode cX10_feed 38 = .ok (.getfield 10, 3) := dc_at (f := decode cX10_feed) dAX10_feed_q0 19 rfl
theorem dX10_feed_41 : decode cX10_feed 41 = .ok (.iload 4, 2) := dc_at (f := decode cX10_feed) dAX10_feed_q0 20 rfl
theorem dX10_feed_43 : decode cX10_feed 43 = .ok (.invokevirtual 69, 3) := dc_at (f := decode cX10_feed) dAX10_feed_q0 21 rfl
theorem dX10_feed_46 : decode cX10_feed 46 = .ok (.aload_n 0, 1) := dc_at (f := decode cX10_feed) dAX10_feed_q0 22 rfl
theorem dX10_feed_47 : decode cX10_feed 47 = .ok (.getfield 10, 3) := dc_at (f := decode cX10_feed) dAX10_feed_q0 23 rfl
theorem dX10_feed_50 : decode cX10_feed 50 = .ok (.iload 5, 2) := dc_at (f := decode cX10_feed) dAX10_feed_q0 24 rfl
theorem dX10_feed_52 : decode cX10_feed 52 = .ok (.invokevirtual 69, 3) := dc_at (f := decode cX10_feed) dAX10_feed_q0 25 rfl
theorem dX10_feed_55 : decode cX10_feed 55 = .ok (.aload_n 0, 1) := dc_at (f := decode cX10_feed) dAX10_feed_q0 26 rfl
theorem dX10_feed_56 : decode cX10_feed 56 = .ok (.getfield 10, 3) := dc_at (f := decode cX10_feed) dAX10_feed_q0 27 rfl
theorem dX10_feed_59 : decode cX10_feed 59 = .ok (.invokevirtual 73, 3) := dc_at (f := decode cX10_feed) dAX10_feed_q0 28 rfl
theorem dX10_feed_62 : decode cX10_feed 62 = .ok (.ireturn, 1) := dc_at (f := decode cX10_feed) dAX10_feed_q0 29 rfl
def dPX10_end_q0 : List (Nat × (Jvm.ClassFile.Instr × Nat)) := [(0, (.iload_n 1, 1)), (1, (.ifCond .lt 14, 3)), (4, (.iload_n 1, 1)), (5, (.aload_n 0, 1)), (6, (.getfield 10, 3)), (9, (.invokevirtual 73, 3)), (12, (.if_icmp .le 5, 3)), (15, (.iconst (-1), 1)), (16, (.ireturn, 1)), (17, (.aload_n 0, 1)), (18, (.getfield 10, 3)), (21, (.iload_n 1, 1)), (22, (.invokevirtual 77, 3)), (25, (.iload_n 1, 1)), (26, (.ireturn, 1))]
theorem dAX10_end_q0 : ∀ x ∈ dPX10_end_q0, decode cX10_end x.1 = .ok x.2 := by decide +kernel
theorem dX10_end_0 : decode cX10_end 0 = .ok (.iload_n 1, 1) := dc_at (f := decode cX10_end) dAX10_end_q0 0 rfl
theorem dX10_end_1 : decode cX10_end 1 = .ok (.ifCond .lt 14, 3) := dc_at (f := decode cX10_end) dAX10_end_q0 1 rfl
theorem dX10_end_4 : decode cX10_end 4 = .ok (.iload_n 1, 1) := dc_at (f := decode cX10_end) dAX10_end_q0 2 rfl
theorem dX10_end_5 : decode cX10_end 5 = .ok (.aload_n 0, 1) := dc_at (f := decode cX10_end) dAX10_end_q0 3 rfl
theorem dX10_end_6 : decode cX10_end 6 = .ok (.getfield 10, 3) := dc_at (f := decode cX10_end) dAX10_end_q0 4 rfl
theorem dX10_end_9 : decode cX10_end 9 = .ok (.invokevirtual 73, 3) := dc_at (f := decode cX10_end) dAX10_end_q0 5 rfl
theorem dX10_end_12 : decode cX10_end 12 = .ok (.if_icmp .le 5, 3) := dc_at (f := decode cX10_end) dAX10_end_q0 6 rfl
theorem dX10_end_15 : decode cX10_end 15 = .ok (.iconst (-1), 1) := dc_at (f := decode cX10_end) dAX10_end_q0 7 rfl
theorem dX10_end_16 : decode cX10_end 16 = .ok (.ireturn, 1) := dc_at (f := decode cX10_end) dAX10_end_q0 8 rfl
theorem dX10_end_17 : decode cX10_end 17 = .ok (.aload_n 0, 1) := dc_at (f := decode cX10_end) dAX10_end_q0 9 rfl
theorem dX10_end_18 : decode cX10_end 18 = .ok (.getfield 10, 3) := dc_at (f := decode cX10_end) dAX10_end_q0 10 rfl
theorem dX10_end_21 : decode cX10_end 21 = .ok (.iload_n 1, 1) := dc_at (f := decode cX10_end) dAX10_end_q0 11 rfl
theorem dX10_end_22 : decode cX10_end 22 = .ok (.invokevirtual 77, 3) := dc_at (f := decode cX10_end) dAX10_end_q0 12 rfl
theorem dX10_end_25 : decode cX10_end 25 = .ok (.iload_n 1, 1) := dc_at (f := decode cX10_end) dAX10_end_q0 13 rfl
theorem dX10_end_26 : decode cX10_end 26 = .ok (.ireturn, 1) := dc_at (f := decode cX10_end) dAX10_end_q0 14 rfl
def dPX10_trust_q0 : List (Nat × (Jvm.ClassFile.Instr × Nat)) := [(0, (.aload_n 0, 1)), (1, (.getfield 19, 3)), (4, (.aload_n 0, 1)), (5, (.getfield 10, 3)), (8, (.invokevirtual 80, 3)), (11, (.istore_n 1, 1)), (12, (.aload_n 0, 1)), (13, (.getfield 10, 3)), (16, (.iconst 0, 1)), (17, (.invokevirtual 77, 3)), (20, (.iload_n 1, 1)), (21, (.iconst (-1), 1)), (22, (.if_icmp .eq 17, 3)), (25, (.aload_n 0, 1)), (26, (.getfield 26, 3)), (29, (.aload_n 0, 1)), (30, (.getfield 19, 3)), (33, (.invokevirtual 84, 3)), (36, (.invokevirtual 88, 3)), (39, (.iload_n 1, 1)), (40, (.ireturn, 1))]
theorem dAX10_trust_q0 : ∀ x ∈ dPX10_trust_q0, decode cX10_trust x.1 = .ok x.2 := by decide +kernel
theorem dX10_trust_0 : decode cX10_trust 0 = .ok (.aload_n 0, 1) := dc_at (f := decode cX10_trust) dAX10_trust_q0 0 rfl
theorem dX10_trust_1 : decode cX10_trust 1 = .ok (.getfield 19, 3) := dc_at (f := decode cX10_trust) dAX10_trust_q0 1 rfl
theorem dX10_trust_4 : decode cX10_trust 4 = .ok (.aload_n 0, 1) := dc_at (f := decode cX10_trust) dAX10_trust_q0 2 rfl
theorem dX10_trust_5 : decode cX10_trust 5 = .ok (.getfield 10, 3) := dc_at (f := decode cX10_trust) dAX10_trust_q0 3 rfl
theorem dX10_trust_8 : decode cX10_trust 8 = .ok (.invokevirtual 80, 3) := dc_at (f := decode cX10_trust) dAX10_trust_q0 4 rfl
theorem dX10_trust_11 : decode cX10_trust 11 = .ok (.istore_n 1, 1) := dc_at (f := decode cX10_trust) dAX10_trust_q0 5 rfl
theorem dX10_trust_12 : decode cX10_trust 12 = .ok (.aload_n 0, 1) := dc_at (f := decode cX10_trust) dAX10_trust_q0 6 rfl
theorem dX10_trust_13 : decode cX10_trust 13 = .ok (.getfield 10, 3) := dc_at (f := decode cX10_trust) dAX10_trust_q0 7 rfl
theorem dX10_trust_16 : decode cX10_trust 16 = .ok (.iconst 0, 1) := dc_at (f := decode cX10_trust) dAX10_trust_q0 8 rfl
theorem dX10_trust_17 : decode cX10_trust 17 = .ok (.invokevirtual 77, 3) := dc_at (f := decode cX10_trust) dAX10_trust_q0 9 rfl
theorem dX10_trust_20 : decode cX10_trust 20 = .ok (.iload_n 1, 1) := dc_at (f := decode cX10_trust) dAX10_trust_q0 10 rfl
theorem dX10_trust_21 : decode cX10_trust 21 = .ok (.iconst (-1), 1) := dc_at (f := decode cX10_trust) dAX10_trust_q0 11 rfl
theorem dX10_trust_22 : decode cX10_trust 22 = .ok (.if_icmp .eq 17, 3) := dc_at (f := decode cX10_trust) dAX10_trust_q0 12 rfl
theorem dX10_trust_25 : decode cX10_trust 25 = .ok (.aload_n 0, 1) := dc_at (f := decode cX10_trust) dAX10_trust_q0 13 rfl
theorem dX10_trust_26 : decode cX10_trust 26 = .ok (.getfield 26, 3) := dc_at (f := decode cX10_trust) dAX10_trust_q0 14 rfl
theorem dX10_trust_29 : decode cX10_trust 29 = .ok (.aload_n 0, 1) := dc_at (f := decode cX10_trust) dAX10_trust_q0 15 rfl
theorem dX10_trust_30 : decode cX10_trust 30 = .ok (.getfield 19, 3) := dc_at (f := decode cX10_trust) dAX10_trust_q0 16 rfl
theorem dX10_trust_33 : decode cX10_trust 33 = .ok (.invokevirtual 84, 3) := dc_at (f := decode cX10_trust) dAX10_trust_q0 17 rfl
theorem dX10_trust_36 : decode cX10_trust 36 = .ok (.invokevirtual 88, 3) := dc_at (f := decode cX10_trust) dAX10_trust_q0 18 rfl
theorem dX10_trust_39 : decode cX10_trust 39 = .ok (.iload_n 1, 1) := dc_at (f := decode cX10_trust) dAX10_trust_q0 19 rfl
theorem dX10_trust_40 : decode cX10_trust 40 = .ok (.ireturn, 1) := dc_at (f := decode cX10_trust) dAX10_trust_q0 20 rfl
def dPX10_fault_q0 : List (Nat × (Jvm.ClassFile.Instr × Nat)) := [(0, (.iload_n 1, 1)), (1, (.ifCond .ne 11, 3)), (4, (.aload_n 0, 1)), (5, (.getfield 19, 3)), (8, (.invokevirtual 92, 3)), (11, (.ireturn, 1)), (12, (.iload_n 1, 1)), (13, (.iconst 1, 1)), (14, (.if_icmp .ne 13, 3)), (17, (.aload_n 0, 1)), (18, (.getfield 19, 3)), (21, (.invokevirtual 95, 3)), (24, (.goto 4, 3)), (27, (.iconst (-1), 1)), (28, (.ireturn, 1))]
theorem dAX10_fault_q0 : ∀ x ∈ dPX10_fault_q0, decode cX10_fault x.1 = .ok x.2 := by decide +kernel
theorem dX10_fault_0 : decode cX10_fault 0 = .ok (.iload_n 1, 1) := dc_at (f := decode cX10_fault) dAX10_fault_q0 0 rfl
theorem dX10_fault_1 : decode cX10_fault 1 = .ok (.ifCond .ne 11, 3) := dc_at (f := decode cX10_fault) dAX10_fault_q0 1 rfl
theorem dX10_fault_4 : decode cX10_fault 4 = .ok (.aload_n 0, 1) := dc_at (f := decode cX10_fault) dAX10_fault_q0 2 rfl
theorem dX10_fault_5 : decode cX10_fault 5 = .ok (.getfield 19, 3) := dc_at (f := decode cX10_fault) dAX10_fault_q0 3 rfl
theorem dX10_fault_8 : decode cX10_fault 8 = .ok (.invokevirtual 92, 3) := dc_at (f := decode cX10_fault) dAX10_fault_q0 4 rfl
theorem dX10_fault_11 : decode cX10_fault 11 = .ok (.ireturn, 1) := dc_at (f := decode cX10_fault) dAX10_fault_q0 5 rfl
theorem dX10_fault_12 : decode cX10_fault 12 = .ok (.iload_n 1, 1) := dc_at (f := decode cX10_fault) dAX10_fault_q0 6 rfl
theorem dX10_fault_13 : decode cX10_fault 13 = .ok (.iconst 1, 1) := dc_at (f := decode cX10_fault) dAX10_fault_q0 7 rfl
theorem dX10_fault_14 : decode cX10_fault 14 = .ok (.if_icmp .ne 13, 3) := dc_at (f := decode cX10_fault) dAX10_fault_q0 8 rfl
theorem dX10_fault_17 : decode cX10_fault 17 = .ok (.aload_n 0, 1) := dc_at (f := decode cX10_fault) dAX10_fault_q0 9 rfl
theorem dX10_fault_18 : decode cX10_fault 18 = .ok (.getfield 19, 3) := dc_at (f := decode cX10_fault) dAX10_fault_q0 10 rfl
theorem dX10_fault_21 : decode cX10_fault 21 = .ok (.invokevirtual 95, 3) := dc_at (f := decode cX10_fault) dAX10_fault_q0 11 rfl
theorem dX10_fault_24 : decode cX10_fault 24 = .ok (.goto 4, 3) := dc_at (f := decode cX10_fault) dAX10_fault_q0 12 rfl
theorem dX10_fault_27 : decode cX10_fault 27 = .ok (.iconst (-1), 1) := dc_at (f := decode cX10_fault) dAX10_fault_q0 13 rfl
theorem dX10_fault_28 : decode cX10_fault 28 = .ok (.ireturn, 1) := dc_at (f := decode cX10_fault) dAX10_fault_q0 14 rfl
def dPX10_rule_q0 : List (Nat × (Jvm.ClassFile.Instr × Nat)) := [(0, (.iload_n 1, 1)), (1, (.ifCond .lt 20, 3)), (4, (.iload_n 1, 1)), (5, (.bipush 9, 2)), (7, (.if_icmp .ge 14, 3)), (10, (.aload_n 0, 1)), (11, (.getfield 26, 3)), (14, (.iload_n 1, 1)), (15, (.invokevirtual 98, 3)), (18, (.goto 5, 3)), (21, (.bipush (-9), 2)), (23, (.ireturn, 1))]
theorem dAX10_rule_q0 : ∀ x ∈ dPX10_rule_q0, decode cX10_rule x.1 = .ok x.2 := by decide +kernel
theorem dX10_rule_0 : decode cX10_rule 0 = .ok (.iload_n 1, 1) := dc_at (f := decode cX10_rule) dAX10_rule_q0 0 rfl
theorem dX10_rule_1 : decode cX10_rule 1 = .ok (.ifCond .lt 20, 3) := dc_at (f := decode cX10_rule) dAX10_rule_q0 1 rfl
theorem dX10_rule_4 : decode cX10_rule 4 = .ok (.iload_n 1, 1) := dc_at (f := decode cX10_rule) dAX10_rule_q0 2 rfl
theorem dX10_rule_5 : decode cX10_rule 5 = .ok (.bipush 9, 2) := dc_at (f := decode cX10_rule) dAX10_rule_q0 3 rfl
theorem dX10_rule_7 : decode cX10_rule 7 = .ok (.if_icmp .ge 14, 3) := dc_at (f := decode cX10_rule) dAX10_rule_q0 4 rfl
theorem dX10_rule_10 : decode cX10_rule 10 = .ok (.aload_n 0, 1) := dc_at (f := decode cX10_rule) dAX10_rule_q0 5 rfl
theorem dX10_rule_11 : decode cX10_rule 11 = .ok (.getfield 26, 3) := dc_at (f := decode cX10_rule) dAX10_rule_q0 6 rfl
theorem dX10_rule_14 : decode cX10_rule 14 = .ok (.iload_n 1, 1) := dc_at (f := decode cX10_rule) dAX10_rule_q0 7 rfl
theorem dX10_rule_15 : decode cX10_rule 15 = .ok (.invokevirtual 98, 3) := dc_at (f := decode cX10_rule) dAX10_rule_q0 8 rfl
theorem dX10_rule_18 : decode cX10_rule 18 = .ok (.goto 5, 3) := dc_at (f := decode cX10_rule) dAX10_rule_q0 9 rfl
theorem dX10_rule_21 : decode cX10_rule 21 = .ok (.bipush (-9), 2) := dc_at (f := decode cX10_rule) dAX10_rule_q0 10 rfl
theorem dX10_rule_23 : decode cX10_rule 23 = .ok (.ireturn, 1) := dc_at (f := decode cX10_rule) dAX10_rule_q0 11 rfl
def dPX10_declare_q0 : List (Nat × (Jvm.ClassFile.Instr × Nat)) := [(0, (.iload_n 1, 1)), (1, (.invokestatic 102, 3)), (4, (.ifCond .eq 18, 3)), (7, (.iload_n 2, 1)), (8, (.ifCond .lt 14, 3)), (11, (.iload_n 2, 1)), (12, (.iload_n 3, 1)), (13, (.if_icmp .gt 9, 3)), (16, (.iload_n 3, 1)), (17, (.bipush 119, 2)), (19, (.if_icmp .le 6, 3)), (22, (.bipush (-2), 2)), (24, (.ireturn, 1)), (25, (.aload_n 0, 1)), (26, (.getfield 106, 3)), (29, (.ifCond .eq 6, 3)), (32, (.bipush (-4), 2)), (34, (.ireturn, 1)), (35, (.aload_n 0, 1)), (36, (.getfield 33, 3)), (39, (.iload_n 1, 1)), (40, (.iload_n 2, 1)), (41, (.iload_n 3, 1)), (42, (.invokevirtual 110, 3)), (45, (.iconst 1, 1)), (46, (.ireturn, 1))]
theorem dAX10_declare_q0 : ∀ x ∈ dPX10_declare_q0, decode cX10_declare x.1 = .ok x.2 := by decide +kernel
theorem dX10_declare_0 : decode cX10_declare 0 = .ok (.iload_n 1, 1) := dc_at (f := decode cX10_declare) dAX10_declare_q0 0 rfl
theorem dX10_declare_1 : decode cX10_declare 1 = .ok (.invokestatic 102, 3) := dc_at (f := decode cX10_declare) dAX10_declare_q0 1 rfl
theorem dX10_declare_4 : decode cX10_declare 4 = .ok (.ifCond .eq 18, 3) := dc_at (f := decode cX10_declare) dAX10_declare_q0 2 rfl
theorem dX10_declare_7 : decode cX10_declare 7 = .ok (.iload_n 2, 1) := dc_at (f := decode cX10_declare) dAX10_declare_q0 3 rfl
theorem dX10_declare_8 : decode cX10_declare 8 = .ok (.ifCond .lt 14, 3) := dc_at (f := decode cX10_declare) dAX10_declare_q0 4 rfl
theorem dX10_declare_11 : decode cX10_declare 11 = .ok (.iload_n 2, 1) := dc_at (f := decode cX10_declare) dAX10_declare_q0 5 rfl
theorem dX10_declare_12 : decode cX10_declare 12 = .ok (.iload_n 3, 1) := dc_at (f := decode cX10_declare) dAX10_declare_q0 6 rfl
theorem dX10_declare_13 : decode cX10_declare 13 = .ok (.if_icmp .gt 9, 3) := dc_at (f := decode cX10_declare) dAX10_declare_q0 7 rfl
theorem dX10_declare_16 : decode cX10_declare 16 = .ok (.iload_n 3, 1) := dc_at (f := decode cX10_declare) dAX10_declare_q0 8 rfl
theorem dX10_declare_17 : decode cX10_declare 17 = .ok (.bipush 119, 2) := dc_at (f := decode cX10_declare) dAX10_declare_q0 9 rfl
theorem dX10_declare_19 : decode cX10_declare 19 = .ok (.if_icmp .le 6, 3) := dc_at (f := decode cX10_declare) dAX10_declare_q0 10 rfl
theorem dX10_declare_22 : decode cX10_declare 22 = .ok (.bipush (-2), 2) := dc_at (f := decode cX10_declare) dAX10_declare_q0 11 rfl
theorem dX10_declare_24 : decode cX10_declare 24 = .ok (.ireturn, 1) := dc_at (f := decode cX10_declare) dAX10_declare_q0 12 rfl
theorem dX10_declare_25 : decode cX10_declare 25 = .ok (.aload_n 0, 1) := dc_at (f := decode cX10_declare) dAX10_declare_q0 13 rfl
theorem dX10_declare_26 : decode cX10_declare 26 = .ok (.getfield 106, 3) := dc_at (f := decode cX10_declare) dAX10_declare_q0 14 rfl
theorem dX10_declare_29 : decode cX10_declare 29 = .ok (.ifCond .eq 6, 3) := dc_at (f := decode cX10_declare) dAX10_declare_q0 15 rfl
theorem dX10_declare_32 : decode cX10_declare 32 = .ok (.bipush (-4), 2) := dc_at (f := decode cX10_declare) dAX10_declare_q0 16 rfl
theorem dX10_declare_34 : decode cX10_declare 34 = .ok (.ireturn, 1) := dc_at (f := decode cX10_declare) dAX10_declare_q0 17 rfl
theorem dX10_declare_35 : decode cX10_declare 35 = .ok (.aload_n 0, 1) := dc_at (f := decode cX10_declare) dAX10_declare_q0 18 rfl
theorem dX10_declare_36 : decode cX10_declare 36 = .ok (.getfield 33, 3) := dc_at (f := decode cX10_declare) dAX10_declare_q0 19 rfl
theorem dX10_declare_39 : decode cX10_declare 39 = .ok (.iload_n 1, 1) := dc_at (f := decode cX10_declare) dAX10_declare_q0 20 rfl
theorem dX10_declare_40 : decode cX10_declare 40 = .ok (.iload_n 2, 1) := dc_at (f := decode cX10_declare) dAX10_declare_q0 21 rfl
theorem dX10_declare_41 : decode cX10_declare 41 = .ok (.iload_n 3, 1) := dc_at (f := decode cX10_declare) dAX10_declare_q0 22 rfl
theorem dX10_declare_42 : decode cX10_declare 42 = .ok (.invokevirtual 110, 3) := dc_at (f := decode cX10_declare) dAX10_declare_q0 23 rfl
theorem dX10_declare_45 : decode cX10_declare 45 = .ok (.iconst 1, 1) := dc_at (f := decode cX10_declare) dAX10_declare_q0 24 rfl
theorem dX10_declare_46 : decode cX10_declare 46 = .ok (.ireturn, 1) := dc_at (f := decode cX10_declare) dAX10_declare_q0 25 rfl
def dPX10_nameless_q0 : List (Nat × (Jvm.ClassFile.Instr × Nat)) := [(0, (.iload_n 1, 1)), (1, (.invokestatic 102, 3)), (4, (.ifCond .ne 6, 3)), (7, (.bipush (-2), 2)), (9, (.ireturn, 1)), (10, (.aload_n 0, 1)), (11, (.getfield 106, 3)), (14, (.ifCond .eq 6, 3)), (17, (.bipush (-4), 2)), (19, (.ireturn, 1)), (20, (.aload_n 0, 1)), (21, (.getfield 33, 3)), (24, (.iload_n 1, 1)), (25, (.iload_n 2, 1)), (26, (.invokevirtual 114, 3)), (29, (.ifCond .eq 7, 3)), (32, (.iconst 1, 1)), (33, (.goto 4, 3)), (36, (.iconst 0, 1)), (37, (.ireturn, 1))]
theorem dAX10_nameless_q0 : ∀ x ∈ dPX10_nameless_q0, decode cX10_nameless x.1 = .ok x.2 := by decide +kernel
theorem dX10_nameless_0 : decode cX10_nameless 0 = .ok (.iload_n 1, 1) := dc_at (f := decode cX10_nameless) dAX10_nameless_q0 0 rfl
theorem dX10_nameless_1 : decode cX10_nameless 1 = .ok (.invokestatic 102, 3) := dc_at (f := decode cX10_nameless) dAX10_nameless_q0 1 rfl
theorem dX10_nameless_4 : decode cX10_nameless 4 = .ok (.ifCond .ne 6, 3) := dc_at (f := decode cX10_nameless) dAX10_nameless_q0 2 rfl
theorem dX10_nameless_7 : decode cX10_nameless 7 = .ok (.bipush (-2), 2) := dc_at (f := decode cX10_nameless) dAX10_nameless_q0 3 rfl
theorem dX10_nameless_9 : decode cX10_nameless 9 = .ok (.ireturn, 1) := dc_at (f := decode cX10_nameless) dAX10_nameless_q0 4 rfl
theorem dX10_nameless_10 : decode cX10_nameless 10 = .ok (.aload_n 0, 1) := dc_at (f := decode cX10_nameless) dAX10_nameless_q0 5 rfl
theorem dX10_nameless_11 : decode cX10_nameless 11 = .ok (.getfield 106, 3) := dc_at (f := decode cX10_nameless) dAX10_nameless_q0 6 rfl
theorem dX10_nameless_14 : decode cX10_nameless 14 = .ok (.ifCond .eq 6, 3) := dc_at (f := decode cX10_nameless) dAX10_nameless_q0 7 rfl
theorem dX10_nameless_17 : decode cX10_nameless 17 = .ok (.bipush (-4), 2) := dc_at (f := decode cX10_nameless) dAX10_nameless_q0 8 rfl
theorem dX10_nameless_19 : decode cX10_nameless 19 = .ok (.ireturn, 1) := dc_at (f := decode cX10_nameless) dAX10_nameless_q0 9 rfl
theorem dX10_nameless_20 : decode cX10_nameless 20 = .ok (.aload_n 0, 1) := dc_at (f := decode cX10_nameless) dAX10_nameless_q0 10 rfl
theorem dX10_nameless_21 : decode cX10_nameless 21 = .ok (.getfield 33, 3) := dc_at (f := decode cX10_nameless) dAX10_nameless_q0 11 rfl
theorem dX10_nameless_24 : decode cX10_nameless 24 = .ok (.iload_n 1, 1) := dc_at (f := decode cX10_nameless) dAX10_nameless_q0 12 rfl
theorem dX10_nameless_25 : decode cX10_nameless 25 = .ok (.iload_n 2, 1) := dc_at (f := decode cX10_nameless) dAX10_nameless_q0 13 rfl
theorem dX10_nameless_26 : decode cX10_nameless 26 = .ok (.invokevirtual 114, 3) := dc_at (f := decode cX10_nameless) dAX10_nameless_q0 14 rfl
theorem dX10_nameless_29 : decode cX10_nameless 29 = .ok (.ifCond .eq 7, 3) := dc_at (f := decode cX10_nameless) dAX10_nameless_q0 15 rfl
theorem dX10_nameless_32 : decode cX10_nameless 32 = .ok (.iconst 1, 1) := dc_at (f := decode cX10_nameless) dAX10_nameless_q0 16 rfl
theorem dX10_nameless_33 : decode cX10_nameless 33 = .ok (.goto 4, 3) := dc_at (f := decode cX10_nameless) dAX10_nameless_q0 17 rfl
theorem dX10_nameless_36 : decode cX10_nameless 36 = .ok (.iconst 0, 1) := dc_at (f := decode cX10_nameless) dAX10_nameless_q0 18 rfl
theorem dX10_nameless_37 : decode cX10_nameless 37 = .ok (.ireturn, 1) := dc_at (f := decode cX10_nameless) dAX10_nameless_q0 19 rfl
def dPX10_pledge_q0 : List (Nat × (Jvm.ClassFile.Instr × Nat)) := [(0, (.iload_n 1, 1)), (1, (.invokestatic 102, 3)), (4, (.ifCond .eq 48, 3)), (7, (.iload_n 2, 1)), (8, (.iconst 1, 1)), (9, (.ldc 118, 2)), (11, (.invokestatic 119, 3)), (14, (.ifCond .eq 38, 3)), (17, (.iload_n 3, 1)), (18, (.aload_n 0, 1)), (19, (.getfield 123, 3)), (22, (.bipush 119, 2)), (24, (.invokestatic 119, 3)), (27, (.ifCond .eq 25, 3)), (30, (.iload 4, 2)), (32, (.iconst 1, 1)), (33, (.bipush 12, 2)), (35, (.invokestatic 119, 3)), (38, (.ifCond .eq 14, 3)), (41, (.iload 5, 2)), (43, (.iconst 1, 1)), (44, (.bipush 84, 2)), (46, (.invokestatic 119, 3)), (49, (.ifCond .ne 6, 3)), (52, (.bipush (-2), 2)), (54, (.ireturn, 1)), (55, (.aload_n 0, 1)), (56, (.getfield 106, 3)), (59, (.ifCond .eq 6, 3)), (62, (.bipush (-4), 2)), (64, (.ireturn, 1)), (65, (.aload_n 0, 1)), (66, (.getfield 40, 3)), (69, (.invokevirtual 127, 3)), (72, (.ifCond .eq 6, 3)), (75, (.bipush (-3), 2)), (77, (.ireturn, 1)), (78, (.aload_n 0, 1)), (79, (.getfield 40, 3)), (82, (.new 130, 3)), (85, (.dup, 1)), (86, (.iload_n 1, 1)), (87, (.iload_n 2, 1)), (88, (.iload_n 3, 1)), (89, (.iload 4, 2)), (91, (.iload 5, 2)), (93, (.invokespecial 132, 3)), (96, (.invokevirtual 135, 3))]
theorem dAX10_pledge_q0 : ∀ x ∈ dPX10_pledge_q0, decode cX10_pledge x.1 = .ok x.2 := by decide +kernel
theorem dX10_pledge_0 : decode cX10_pledge 0 = .ok (.iload_n 1, 1) := dc_at (f := decode cX10_pledge) dAX10_pledge_q0 0 rfl
theorem dX10_pledge_1 : decode cX10_pledge 1 = .ok (.invokestatic 102, 3) := dc_at (f := decode cX10_pledge) dAX10_pledge_q0 1 rfl
theorem dX10_pledge_4 : decode cX10_pledge 4 = .ok (.ifCond .eq 48, 3) := dc_at (f := decode cX10_pledge) dAX10_pledge_q0 2 rfl
theorem dX10_pledge_7 : decode cX10_pledge 7 = .ok (.iload_n 2, 1) := dc_at (f := decode cX10_pledge) dAX10_pledge_q0 3 rfl
theorem dX10_pledge_8 : decode cX10_pledge 8 = .ok (.iconst 1, 1) := dc_at (f := decode cX10_pledge) dAX10_pledge_q0 4 rfl
theorem dX10_pledge_9 : decode cX10_pledge 9 = .ok (.ldc 118, 2) := dc_at (f := decode cX10_pledge) dAX10_pledge_q0 5 rfl
theorem dX10_pledge_11 : decode cX10_pledge 11 = .ok (.invokestatic 119, 3) := dc_at (f := decode cX10_pledge) dAX10_pledge_q0 6 rfl
theorem dX10_pledge_14 : decode cX10_pledge 14 = .ok (.ifCond .eq 38, 3) := dc_at (f := decode cX10_pledge) dAX10_pledge_q0 7 rfl
theorem dX10_pledge_17 : decode cX10_pledge 17 = .ok (.iload_n 3, 1) := dc_at (f := decode cX10_pledge) dAX10_pledge_q0 8 rfl
theorem dX10_pledge_18 : decode cX10_pledge 18 = .ok (.aload_n 0, 1) := dc_at (f := decode cX10_pledge) dAX10_pledge_q0 9 rfl
theorem dX10_pledge_19 : decode cX10_pledge 19 = .ok (.getfield 123, 3) := dc_at (f := decode cX10_pledge) dAX10_pledge_q0 10 rfl
theorem dX10_pledge_22 : decode cX10_pledge 22 = .ok (.bipush 119, 2) := dc_at (f := decode cX10_pledge) dAX10_pledge_q0 11 rfl
theorem dX10_pledge_24 : decode cX10_pledge 24 = .ok (.invokestatic 119, 3) := dc_at (f := decode cX10_pledge) dAX10_pledge_q0 12 rfl
theorem dX10_pledge_27 : decode cX10_pledge 27 = .ok (.ifCond .eq 25, 3) := dc_at (f := decode cX10_pledge) dAX10_pledge_q0 13 rfl
theorem dX10_pledge_30 : decode cX10_pledge 30 = .ok (.iload 4, 2) := dc_at (f := decode cX10_pledge) dAX10_pledge_q0 14 rfl
theorem dX10_pledge_32 : decode cX10_pledge 32 = .ok (.iconst 1, 1) := dc_at (f := decode cX10_pledge) dAX10_pledge_q0 15 rfl
theorem dX10_pledge_33 : decode cX10_pledge 33 = .ok (.bipush 12, 2) := dc_at (f := decode cX10_pledge) dAX10_pledge_q0 16 rfl
theorem dX10_pledge_35 : decode cX10_pledge 35 = .ok (.invokestatic 119, 3) := dc_at (f := decode cX10_pledge) dAX10_pledge_q0 17 rfl
theorem dX10_pledge_38 : decode cX10_pledge 38 = .ok (.ifCond .eq 14, 3) := dc_at (f := decode cX10_pledge) dAX10_pledge_q0 18 rfl
theorem dX10_pledge_41 : decode cX10_pledge 41 = .ok (.iload 5, 2) := dc_at (f := decode cX10_pledge) dAX10_pledge_q0 19 rfl
theorem dX10_pledge_43 : decode cX10_pledge 43 = .ok (.iconst 1, 1) := dc_at (f := decode cX10_pledge) dAX10_pledge_q0 20 rfl
theorem dX10_pledge_44 : decode cX10_pledge 44 = .ok (.bipush 84, 2) := dc_at (f := decode cX10_pledge) dAX10_pledge_q0 21 rfl
theorem dX10_pledge_46 : decode cX10_pledge 46 = .ok (.invokestatic 119, 3) := dc_at (f := decode cX10_pledge) dAX10_pledge_q0 22 rfl
theorem dX10_pledge_49 : decode cX10_pledge 49 = .ok (.ifCond .ne 6, 3) := dc_at (f := decode cX10_pledge) dAX10_pledge_q0 23 rfl
theorem dX10_pledge_52 : decode cX10_pledge 52 = .ok (.bipush (-2), 2) := dc_at (f := decode cX10_pledge) dAX10_pledge_q0 24 rfl
theorem dX10_pledge_54 : decode cX10_pledge 54 = .ok (.ireturn, 1) := dc_at (f := decode cX10_pledge) dAX10_pledge_q0 25 rfl
theorem dX10_pledge_55 : decode cX10_pledge 55 = .ok (.aload_n 0, 1) := dc_at (f := decode cX10_pledge) dAX10_pledge_q0 26 rfl
theorem dX10_pledge_56 : decode cX10_pledge 56 = .ok (.getfield 106, 3) := dc_at (f := decode cX10_pledge) dAX10_pledge_q0 27 rfl
theorem dX10_pledge_59 : decode cX10_pledge 59 = .ok (.ifCond .eq 6, 3) := dc_at (f := decode cX10_pledge) dAX10_pledge_q0 28 rfl
theorem dX10_pledge_62 : decode cX10_pledge 62 = .ok (.bipush (-4), 2) := dc_at (f := decode cX10_pledge) dAX10_pledge_q0 29 rfl
theorem dX10_pledge_64 : decode cX10_pledge 64 = .ok (.ireturn, 1) := dc_at (f := decode cX10_pledge) dAX10_pledge_q0 30 rfl
theorem dX10_pledge_65 : decode cX10_pledge 65 = .ok (.aload_n 0, 1) := dc_at (f := decode cX10_pledge) dAX10_pledge_q0 31 rfl
theorem dX10_pledge_66 : decode cX10_pledge 66 = .ok (.getfield 40, 3) := dc_at (f := decode cX10_pledge) dAX10_pledge_q0 32 rfl
theorem dX10_pledge_69 : decode cX10_pledge 69 = .ok (.invokevirtual 127, 3) := dc_at (f := decode cX10_pledge) dAX10_pledge_q0 33 rfl
theorem dX10_pledge_72 : decode cX10_pledge 72 = .ok (.ifCond .eq 6, 3) := dc_at (f := decode cX10_pledge) dAX10_pledge_q0 34 rfl
theorem dX10_pledge_75 : decode cX10_pledge 75 = .ok (.bipush (-3), 2) := dc_at (f := decode cX10_pledge) dAX10_pledge_q0 35 rfl
theorem dX10_pledge_77 : decode cX10_pledge 77 = .ok (.ireturn, 1) := dc_at (f := decode cX10_pledge) dAX10_pledge_q0 36 rfl
theorem dX10_pledge_78 : decode cX10_pledge 78 = .ok (.aload_n 0, 1) := dc_at (f := decode cX10_pledge) dAX10_pledge_q0 37 rfl
theorem dX10_pledge_79 : decode cX10_pledge 79 = .ok (.getfield 40, 3) := dc_at (f := decode cX10_pledge) dAX10_pledge_q0 38 rfl
theorem dX10_pledge_82 : decode cX10_pledge 82 = .ok (.new 130, 3) := dc_at (f := decode cX10_pledge) dAX10_pledge_q0 39 rfl
theorem dX10_pledge_85 : decode cX10_pledge 85 = .ok (.dup, 1) := dc_at (f := decode cX10_pledge) dAX10_pledge_q0 40 rfl
theorem dX10_pledge_86 : decode cX10_pledge 86 = .ok (.iload_n 1, 1) := dc_at (f := decode cX10_pledge) dAX10_pledge_q0 41 rfl
theorem dX10_pledge_87 : decode cX10_pledge 87 = .ok (.iload_n 2, 1) := dc_at (f := decode cX10_pledge) dAX10_pledge_q0 42 rfl
theorem dX10_pledge_88 : decode cX10_pledge 88 = .ok (.iload_n 3, 1) := dc_at (f := decode cX10_pledge) dAX10_pledge_q0 43 rfl
theorem dX10_pledge_89 : decode cX10_pledge 89 = .ok (.iload 4, 2) := dc_at (f := decode cX10_pledge) dAX10_pledge_q0 44 rfl
theorem dX10_pledge_91 : decode cX10_pledge 91 = .ok (.iload 5, 2) := dc_at (f := decode cX10_pledge) dAX10_pledge_q0 45 rfl
theorem dX10_pledge_93 : decode cX10_pledge 93 = .ok (.invokespecial 132, 3) := dc_at (f := decode cX10_pledge) dAX10_pledge_q0 46 rfl
theorem dX10_pledge_96 : decode cX10_pledge 96 = .ok (.invokevirtual 135, 3) := dc_at (f := decode cX10_pledge) dAX10_pledge_q0 47 rfl
def dPX10_pledge_q1 : List (Nat × (Jvm.ClassFile.Instr × Nat)) := [(99, (.ireturn, 1))]
theorem dAX10_pledge_q1 : ∀ x ∈ dPX10_pledge_q1, decode cX10_pledge x.1 = .ok x.2 := by decide +kernel
theorem dX10_pledge_99 : decode cX10_pledge 99 = .ok (.ireturn, 1) := dc_at (f := decode cX10_pledge) dAX10_pledge_q1 0 rfl
def dPX10_change_q0 : List (Nat × (Jvm.ClassFile.Instr × Nat)) := [(0, (.aload_n 0, 1)), (1, (.getfield 40, 3)), (4, (.iload_n 1, 1)), (5, (.invokevirtual 139, 3)), (8, (.astore_n 3, 1)), (9, (.aload_n 3, 1)), (10, (.ifnull 13, 3)), (13, (.iload_n 2, 1)), (14, (.iconst 1, 1)), (15, (.ldc 118, 2)), (17, (.invokestatic 119, 3)), (20, (.ifCond .ne 6, 3)), (23, (.bipush (-2), 2)), (25, (.ireturn, 1)), (26, (.aload_n 0, 1)), (27, (.getfield 106, 3)), (30, (.ifCond .ne 10, 3)), (33, (.aload_n 3, 1)), (34, (.invokevirtual 142, 3)), (37, (.ifCond .eq 6, 3)), (40, (.bipush (-4), 2)), (42, (.ireturn, 1)), (43, (.aload_n 3, 1)), (44, (.iload_n 2, 1)), (45, (.aload_n 0, 1)), (46, (.getfield 123, 3)), (49, (.invokevirtual 145, 3)), (52, (.iconst 1, 1)), (53, (.ireturn, 1))]
theorem dAX10_change_q0 : ∀ x ∈ dPX10_change_q0, decode cX10_change x.1 = .ok x.2 := by decide +kernel
theorem dX10_change_0 : decode cX10_change 0 = .ok (.aload_n 0, 1) := dc_at (f := decode cX10_change) dAX10_change_q0 0 rfl
theorem dX10_change_1 : decode cX10_change 1 = .ok (.getfield 40, 3) := dc_at (f := decode cX10_change) dAX10_change_q0 1 rfl
theorem dX10_change_4 : decode cX10_change 4 = .ok (.iload_n 1, 1) := dc_at (f := decode cX10_change) dAX10_change_q0 2 rfl
theorem dX10_change_5 : decode cX10_change 5 = .ok (.invokevirtual 139, 3) := dc_at (f := decode cX10_change) dAX10_change_q0 3 rfl
theorem dX10_change_8 : decode cX10_change 8 = .ok (.astore_n 3, 1) := dc_at (f := decode cX10_change) dAX10_change_q0 4 rfl
theorem dX10_change_9 : decode cX10_change 9 = .ok (.aload_n 3, 1) := dc_at (f := decode cX10_change) dAX10_change_q0 5 rfl
theorem dX10_change_10 : decode cX10_change 10 = .ok (.ifnull 13, 3) := dc_at (f := decode cX10_change) dAX10_change_q0 6 rfl
theorem dX10_change_13 : decode cX10_change 13 = .ok (.iload_n 2, 1) := dc_at (f := decode cX10_change) dAX10_change_q0 7 rfl
theorem dX10_change_14 : decode cX10_change 14 = .ok (.iconst 1, 1) := dc_at (f := decode cX10_change) dAX10_change_q0 8 rfl
theorem dX10_change_15 : decode cX10_change 15 = .ok (.ldc 118, 2) := dc_at (f := decode cX10_change) dAX10_change_q0 9 rfl
theorem dX10_change_17 : decode cX10_change 17 = .ok (.invokestatic 119, 3) := dc_at (f := decode cX10_change) dAX10_change_q0 10 rfl
theorem dX10_change_20 : decode cX10_change 20 = .ok (.ifCond .ne 6, 3) := dc_at (f := decode cX10_change) dAX10_change_q0 11 rfl
theorem dX10_change_23 : decode cX10_change 23 = .ok (.bipush (-2), 2) := dc_at (f := decode cX10_change) dAX10_change_q0 12 rfl
theorem dX10_change_25 : decode cX10_change 25 = .ok (.ireturn, 1) := dc_at (f := decode cX10_change) dAX10_change_q0 13 rfl
theorem dX10_change_26 : decode cX10_change 26 = .ok (.aload_n 0, 1) := dc_at (f := decode cX10_change) dAX10_change_q0 14 rfl
theorem dX10_change_27 : decode cX10_change 27 = .ok (.getfield 106, 3) := dc_at (f := decode cX10_change) dAX10_change_q0 15 rfl
theorem dX10_change_30 : decode cX10_change 30 = .ok (.ifCond .ne 10, 3) := dc_at (f := decode cX10_change) dAX10_change_q0 16 rfl
theorem dX10_change_33 : decode cX10_change 33 = .ok (.aload_n 3, 1) := dc_at (f := decode cX10_change) dAX10_change_q0 17 rfl
theorem dX10_change_34 : decode cX10_change 34 = .ok (.invokevirtual 142, 3) := dc_at (f := decode cX10_change) dAX10_change_q0 18 rfl
theorem dX10_change_37 : decode cX10_change 37 = .ok (.ifCond .eq 6, 3) := dc_at (f := decode cX10_change) dAX10_change_q0 19 rfl
theorem dX10_change_40 : decode cX10_change 40 = .ok (.bipush (-4), 2) := dc_at (f := decode cX10_change) dAX10_change_q0 20 rfl
theorem dX10_change_42 : decode cX10_change 42 = .ok (.ireturn, 1) := dc_at (f := decode cX10_change) dAX10_change_q0 21 rfl
theorem dX10_change_43 : decode cX10_change 43 = .ok (.aload_n 3, 1) := dc_at (f := decode cX10_change) dAX10_change_q0 22 rfl
theorem dX10_change_44 : decode cX10_change 44 = .ok (.iload_n 2, 1) := dc_at (f := decode cX10_change) dAX10_change_q0 23 rfl
theorem dX10_change_45 : decode cX10_change 45 = .ok (.aload_n 0, 1) := dc_at (f := decode cX10_change) dAX10_change_q0 24 rfl
theorem dX10_change_46 : decode cX10_change 46 = .ok (.getfield 123, 3) := dc_at (f := decode cX10_change) dAX10_change_q0 25 rfl
theorem dX10_change_49 : decode cX10_change 49 = .ok (.invokevirtual 145, 3) := dc_at (f := decode cX10_change) dAX10_change_q0 26 rfl
theorem dX10_change_52 : decode cX10_change 52 = .ok (.iconst 1, 1) := dc_at (f := decode cX10_change) dAX10_change_q0 27 rfl
theorem dX10_change_53 : decode cX10_change 53 = .ok (.ireturn, 1) := dc_at (f := decode cX10_change) dAX10_change_q0 28 rfl
def dPX10_pay_q0 : List (Nat × (Jvm.ClassFile.Instr × Nat)) := [(0, (.aload_n 0, 1)), (1, (.getfield 40, 3)), (4, (.iload_n 1, 1)), (5, (.invokevirtual 139, 3)), (8, (.astore_n 3, 1)), (9, (.aload_n 3, 1)), (10, (.ifnull 10, 3)), (13, (.iload_n 2, 1)), (14, (.invokestatic 149, 3)), (17, (.ifCond .ne 6, 3)), (20, (.bipush (-2), 2)), (22, (.ireturn, 1)), (23, (.aload_n 3, 1)), (24, (.invokevirtual 142, 3)), (27, (.ifCond .eq 6, 3)), (30, (.bipush (-4), 2)), (32, (.ireturn, 1)), (33, (.iload_n 2, 1)), (34, (.aload_n 3, 1)), (35, (.invokevirtual 152, 3)), (38, (.if_icmp .le 6, 3)), (41, (.bipush (-2), 2)), (43, (.ireturn, 1)), (44, (.aload_n 0, 1)), (45, (.getfield 106, 3)), (48, (.ifCond .eq 6, 3)), (51, (.bipush (-4), 2)), (53, (.ireturn, 1)), (54, (.aload_n 0, 1)), (55, (.getfield 47, 3)), (58, (.invokevirtual 155, 3)), (61, (.ifCond .eq 6, 3)), (64, (.bipush (-3), 2)), (66, (.ireturn, 1)), (67, (.aload_n 3, 1)), (68, (.iload_n 2, 1)), (69, (.invokevirtual 156, 3)), (72, (.aload_n 0, 1)), (73, (.aload_n 3, 1)), (74, (.invokevirtual 159, 3)), (77, (.iload_n 2, 1)), (78, (.invokevirtual 162, 3)), (81, (.ireturn, 1))]
theorem dAX10_pay_q0 : ∀ x ∈ dPX10_pay_q0, decode cX10_pay x.1 = .ok x.2 := by decide +kernel
theorem dX10_pay_0 : decode cX10_pay 0 = .ok (.aload_n 0, 1) := dc_at (f := decode cX10_pay) dAX10_pay_q0 0 rfl
theorem dX10_pay_1 : decode cX10_pay 1 = .ok (.getfield 40, 3) := dc_at (f := decode cX10_pay) dAX10_pay_q0 1 rfl
theorem dX10_pay_4 : decode cX10_pay 4 = .ok (.iload_n 1, 1) := dc_at (f := decode cX10_pay) dAX10_pay_q0 2 rfl
theorem dX10_pay_5 : decode cX10_pay 5 = .ok (.invokevirtual 139, 3) := dc_at (f := decode cX10_pay) dAX10_pay_q0 3 rfl
theorem dX10_pay_8 : decode cX10_pay 8 = .ok (.astore_n 3, 1) := dc_at (f := decode cX10_pay) dAX10_pay_q0 4 rfl
theorem dX10_pay_9 : decode cX10_pay 9 = .ok (.aload_n 3, 1) := dc_at (f := decode cX10_pay) dAX10_pay_q0 5 rfl
theorem dX10_pay_10 : decode cX10_pay 10 = .ok (.ifnull 10, 3) := dc_at (f := decode cX10_pay) dAX10_pay_q0 6 rfl
theorem dX10_pay_13 : decode cX10_pay 13 = .ok (.iload_n 2, 1) := dc_at (f := decode cX10_pay) dAX10_pay_q0 7 rfl
theorem dX10_pay_14 : decode cX10_pay 14 = .ok (.invokestatic 149, 3) := dc_at (f := decode cX10_pay) dAX10_pay_q0 8 rfl
theorem dX10_pay_17 : decode cX10_pay 17 = .ok (.ifCond .ne 6, 3) := dc_at (f := decode cX10_pay) dAX10_pay_q0 9 rfl
theorem dX10_pay_20 : decode cX10_pay 20 = .ok (.bipush (-2), 2) := dc_at (f := decode cX10_pay) dAX10_pay_q0 10 rfl
theorem dX10_pay_22 : decode cX10_pay 22 = .ok (.ireturn, 1) := dc_at (f := decode cX10_pay) dAX10_pay_q0 11 rfl
theorem dX10_pay_23 : decode cX10_pay 23 = .ok (.aload_n 3, 1) := dc_at (f := decode cX10_pay) dAX10_pay_q0 12 rfl
theorem dX10_pay_24 : decode cX10_pay 24 = .ok (.invokevirtual 142, 3) := dc_at (f := decode cX10_pay) dAX10_pay_q0 13 rfl
theorem dX10_pay_27 : decode cX10_pay 27 = .ok (.ifCond .eq 6, 3) := dc_at (f := decode cX10_pay) dAX10_pay_q0 14 rfl
theorem dX10_pay_30 : decode cX10_pay 30 = .ok (.bipush (-4), 2) := dc_at (f := decode cX10_pay) dAX10_pay_q0 15 rfl
theorem dX10_pay_32 : decode cX10_pay 32 = .ok (.ireturn, 1) := dc_at (f := decode cX10_pay) dAX10_pay_q0 16 rfl
theorem dX10_pay_33 : decode cX10_pay 33 = .ok (.iload_n 2, 1) := dc_at (f := decode cX10_pay) dAX10_pay_q0 17 rfl
theorem dX10_pay_34 : decode cX10_pay 34 = .ok (.aload_n 3, 1) := dc_at (f := decode cX10_pay) dAX10_pay_q0 18 rfl
theorem dX10_pay_35 : decode cX10_pay 35 = .ok (.invokevirtual 152, 3) := dc_at (f := decode cX10_pay) dAX10_pay_q0 19 rfl
theorem dX10_pay_38 : decode cX10_pay 38 = .ok (.if_icmp .le 6, 3) := dc_at (f := decode cX10_pay) dAX10_pay_q0 20 rfl
theorem dX10_pay_41 : decode cX10_pay 41 = .ok (.bipush (-2), 2) := dc_at (f := decode cX10_pay) dAX10_pay_q0 21 rfl
theorem dX10_pay_43 : decode cX10_pay 43 = .ok (.ireturn, 1) := dc_at (f := decode cX10_pay) dAX10_pay_q0 22 rfl
theorem dX10_pay_44 : decode cX10_pay 44 = .ok (.aload_n 0, 1) := dc_at (f := decode cX10_pay) dAX10_pay_q0 23 rfl
theorem dX10_pay_45 : decode cX10_pay 45 = .ok (.getfield 106, 3) := dc_at (f := decode cX10_pay) dAX10_pay_q0 24 rfl
theorem dX10_pay_48 : decode cX10_pay 48 = .ok (.ifCond .eq 6, 3) := dc_at (f := decode cX10_pay) dAX10_pay_q0 25 rfl
theorem dX10_pay_51 : decode cX10_pay 51 = .ok (.bipush (-4), 2) := dc_at (f := decode cX10_pay) dAX10_pay_q0 26 rfl
theorem dX10_pay_53 : decode cX10_pay 53 = .ok (.ireturn, 1) := dc_at (f := decode cX10_pay) dAX10_pay_q0 27 rfl
theorem dX10_pay_54 : decode cX10_pay 54 = .ok (.aload_n 0, 1) := dc_at (f := decode cX10_pay) dAX10_pay_q0 28 rfl
theorem dX10_pay_55 : decode cX10_pay 55 = .ok (.getfield 47, 3) := dc_at (f := decode cX10_pay) dAX10_pay_q0 29 rfl
theorem dX10_pay_58 : decode cX10_pay 58 = .ok (.invokevirtual 155, 3) := dc_at (f := decode cX10_pay) dAX10_pay_q0 30 rfl
theorem dX10_pay_61 : decode cX10_pay 61 = .ok (.ifCond .eq 6, 3) := dc_at (f := decode cX10_pay) dAX10_pay_q0 31 rfl
theorem dX10_pay_64 : decode cX10_pay 64 = .ok (.bipush (-3), 2) := dc_at (f := decode cX10_pay) dAX10_pay_q0 32 rfl
theorem dX10_pay_66 : decode cX10_pay 66 = .ok (.ireturn, 1) := dc_at (f := decode cX10_pay) dAX10_pay_q0 33 rfl
theorem dX10_pay_67 : decode cX10_pay 67 = .ok (.aload_n 3, 1) := dc_at (f := decode cX10_pay) dAX10_pay_q0 34 rfl
theorem dX10_pay_68 : decode cX10_pay 68 = .ok (.iload_n 2, 1) := dc_at (f := decode cX10_pay) dAX10_pay_q0 35 rfl
theorem dX10_pay_69 : decode cX10_pay 69 = .ok (.invokevirtual 156, 3) := dc_at (f := decode cX10_pay) dAX10_pay_q0 36 rfl
theorem dX10_pay_72 : decode cX10_pay 72 = .ok (.aload_n 0, 1) := dc_at (f := decode cX10_pay) dAX10_pay_q0 37 rfl
theorem dX10_pay_73 : decode cX10_pay 73 = .ok (.aload_n 3, 1) := dc_at (f := decode cX10_pay) dAX10_pay_q0 38 rfl
theorem dX10_pay_74 : decode cX10_pay 74 = .ok (.invokevirtual 159, 3) := dc_at (f := decode cX10_pay) dAX10_pay_q0 39 rfl
theorem dX10_pay_77 : decode cX10_pay 77 = .ok (.iload_n 2, 1) := dc_at (f := decode cX10_pay) dAX10_pay_q0 40 rfl
theorem dX10_pay_78 : decode cX10_pay 78 = .ok (.invokevirtual 162, 3) := dc_at (f := decode cX10_pay) dAX10_pay_q0 41 rfl
theorem dX10_pay_81 : decode cX10_pay 81 = .ok (.ireturn, 1) := dc_at (f := decode cX10_pay) dAX10_pay_q0 42 rfl
def dPX10_gift_q0 : List (Nat × (Jvm.ClassFile.Instr × Nat)) := [(0, (.iload_n 1, 1)), (1, (.invokestatic 102, 3)), (4, (.ifCond .eq 10, 3)), (7, (.iload_n 2, 1)), (8, (.invokestatic 149, 3)), (11, (.ifCond .ne 6, 3)), (14, (.bipush (-2), 2)), (16, (.ireturn, 1)), (17, (.aload_n 0, 1)), (18, (.getfield 106, 3)), (21, (.ifCond .eq 6, 3)), (24, (.bipush (-4), 2)), (26, (.ireturn, 1)), (27, (.aload_n 0, 1)), (28, (.getfield 47, 3)), (31, (.invokevirtual 155, 3)), (34, (.ifCond .eq 8, 3)), (37, (.bipush (-3), 2)), (39, (.goto 9, 3)), (42, (.aload_n 0, 1)), (43, (.iload_n 1, 1)), (44, (.iload_n 2, 1)), (45, (.invokevirtual 162, 3)), (48, (.ireturn, 1))]
theorem dAX10_gift_q0 : ∀ x ∈ dPX10_gift_q0, decode cX10_gift x.1 = .ok x.2 := by decide +kernel
theorem dX10_gift_0 : decode cX10_gift 0 = .ok (.iload_n 1, 1) := dc_at (f := decode cX10_gift) dAX10_gift_q0 0 rfl
theorem dX10_gift_1 : decode cX10_gift 1 = .ok (.invokestatic 102, 3) := dc_at (f := decode cX10_gift) dAX10_gift_q0 1 rfl
theorem dX10_gift_4 : decode cX10_gift 4 = .ok (.ifCond .eq 10, 3) := dc_at (f := decode cX10_gift) dAX10_gift_q0 2 rfl
theorem dX10_gift_7 : decode cX10_gift 7 = .ok (.iload_n 2, 1) := dc_at (f := decode cX10_gift) dAX10_gift_q0 3 rfl
theorem dX10_gift_8 : decode cX10_gift 8 = .ok (.invokestatic 149, 3) := dc_at (f := decode cX10_gift) dAX10_gift_q0 4 rfl
theorem dX10_gift_11 : decode cX10_gift 11 = .ok (.ifCond .ne 6, 3) := dc_at (f := decode cX10_gift) dAX10_gift_q0 5 rfl
theorem dX10_gift_14 : decode cX10_gift 14 = .ok (.bipush (-2), 2) := dc_at (f := decode cX10_gift) dAX10_gift_q0 6 rfl
theorem dX10_gift_16 : decode cX10_gift 16 = .ok (.ireturn, 1) := dc_at (f := decode cX10_gift) dAX10_gift_q0 7 rfl
theorem dX10_gift_17 : decode cX10_gift 17 = .ok (.aload_n 0, 1) := dc_at (f := decode cX10_gift) dAX10_gift_q0 8 rfl
theorem dX10_gift_18 : decode cX10_gift 18 = .ok (.getfield 106, 3) := dc_at (f := decode cX10_gift) dAX10_gift_q0 9 rfl
theorem dX10_gift_21 : decode cX10_gift 21 = .ok (.ifCond .eq 6, 3) := dc_at (f := decode cX10_gift) dAX10_gift_q0 10 rfl
theorem dX10_gift_24 : decode cX10_gift 24 = .ok (.bipush (-4), 2) := dc_at (f := decode cX10_gift) dAX10_gift_q0 11 rfl
theorem dX10_gift_26 : decode cX10_gift 26 = .ok (.ireturn, 1) := dc_at (f := decode cX10_gift) dAX10_gift_q0 12 rfl
theorem dX10_gift_27 : decode cX10_gift 27 = .ok (.aload_n 0, 1) := dc_at (f := decode cX10_gift) dAX10_gift_q0 13 rfl
theorem dX10_gift_28 : decode cX10_gift 28 = .ok (.getfield 47, 3) := dc_at (f := decode cX10_gift) dAX10_gift_q0 14 rfl
theorem dX10_gift_31 : decode cX10_gift 31 = .ok (.invokevirtual 155, 3) := dc_at (f := decode cX10_gift) dAX10_gift_q0 15 rfl
theorem dX10_gift_34 : decode cX10_gift 34 = .ok (.ifCond .eq 8, 3) := dc_at (f := decode cX10_gift) dAX10_gift_q0 16 rfl
theorem dX10_gift_37 : decode cX10_gift 37 = .ok (.bipush (-3), 2) := dc_at (f := decode cX10_gift) dAX10_gift_q0 17 rfl
theorem dX10_gift_39 : decode cX10_gift 39 = .ok (.goto 9, 3) := dc_at (f := decode cX10_gift) dAX10_gift_q0 18 rfl
theorem dX10_gift_42 : decode cX10_gift 42 = .ok (.aload_n 0, 1) := dc_at (f := decode cX10_gift) dAX10_gift_q0 19 rfl
theorem dX10_gift_43 : decode cX10_gift 43 = .ok (.iload_n 1, 1) := dc_at (f := decode cX10_gift) dAX10_gift_q0 20 rfl
theorem dX10_gift_44 : decode cX10_gift 44 = .ok (.iload_n 2, 1) := dc_at (f := decode cX10_gift) dAX10_gift_q0 21 rfl
theorem dX10_gift_45 : decode cX10_gift 45 = .ok (.invokevirtual 162, 3) := dc_at (f := decode cX10_gift) dAX10_gift_q0 22 rfl
theorem dX10_gift_48 : decode cX10_gift 48 = .ok (.ireturn, 1) := dc_at (f := decode cX10_gift) dAX10_gift_q0 23 rfl
def dPX10_takeUp_q0 : List (Nat × (Jvm.ClassFile.Instr × Nat)) := [(0, (.aload_n 0, 1)), (1, (.getfield 40, 3)), (4, (.iload_n 1, 1)), (5, (.invokevirtual 139, 3)), (8, (.astore_n 2, 1)), (9, (.aload_n 2, 1)), (10, (.ifnonnull 6, 3)), (13, (.bipush (-2), 2)), (15, (.ireturn, 1)), (16, (.aload_n 0, 1)), (17, (.getfield 106, 3)), (20, (.ifCond .ne 10, 3)), (23, (.aload_n 2, 1)), (24, (.invokevirtual 166, 3)), (27, (.ifCond .ne 6, 3)), (30, (.bipush (-4), 2)), (32, (.ireturn, 1)), (33, (.aload_n 2, 1)), (34, (.aload_n 0, 1)), (35, (.getfield 123, 3)), (38, (.invokevirtual 169, 3)), (41, (.aload_n 2, 1)), (42, (.aload_n 0, 1)), (43, (.getfield 123, 3)), (46, (.invokevirtual 172, 3)), (49, (.ireturn, 1))]
theorem dAX10_takeUp_q0 : ∀ x ∈ dPX10_takeUp_q0, decode cX10_takeUp x.1 = .ok x.2 := by decide +kernel
theorem dX10_takeUp_0 : decode cX10_takeUp 0 = .ok (.aload_n 0, 1) := dc_at (f := decode cX10_takeUp) dAX10_takeUp_q0 0 rfl
theorem dX10_takeUp_1 : decode cX10_takeUp 1 = .ok (.getfield 40, 3) := dc_at (f := decode cX10_takeUp) dAX10_takeUp_q0 1 rfl
theorem dX10_takeUp_4 : decode cX10_takeUp 4 = .ok (.iload_n 1, 1) := dc_at (f := decode cX10_takeUp) dAX10_takeUp_q0 2 rfl
theorem dX10_takeUp_5 : decode cX10_takeUp 5 = .ok (.invokevirtual 139, 3) := dc_at (f := decode cX10_takeUp) dAX10_takeUp_q0 3 rfl
theorem dX10_takeUp_8 : decode cX10_takeUp 8 = .ok (.astore_n 2, 1) := dc_at (f := decode cX10_takeUp) dAX10_takeUp_q0 4 rfl
theorem dX10_takeUp_9 : decode cX10_takeUp 9 = .ok (.aload_n 2, 1) := dc_at (f := decode cX10_takeUp) dAX10_takeUp_q0 5 rfl
theorem dX10_takeUp_10 : decode cX10_takeUp 10 = .ok (.ifnonnull 6, 3) := dc_at (f := decode cX10_takeUp) dAX10_takeUp_q0 6 rfl
theorem dX10_takeUp_13 : decode cX10_takeUp 13 = .ok (.bipush (-2), 2) := dc_at (f := decode cX10_takeUp) dAX10_takeUp_q0 7 rfl
theorem dX10_takeUp_15 : decode cX10_takeUp 15 = .ok (.ireturn, 1) := dc_at (f := decode cX10_takeUp) dAX10_takeUp_q0 8 rfl
theorem dX10_takeUp_16 : decode cX10_takeUp 16 = .ok (.aload_n 0, 1) := dc_at (f := decode cX10_takeUp) dAX10_takeUp_q0 9 rfl
theorem dX10_takeUp_17 : decode cX10_takeUp 17 = .ok (.getfield 106, 3) := dc_at (f := decode cX10_takeUp) dAX10_takeUp_q0 10 rfl
theorem dX10_takeUp_20 : decode cX10_takeUp 20 = .ok (.ifCond .ne 10, 3) := dc_at (f := decode cX10_takeUp) dAX10_takeUp_q0 11 rfl
theorem dX10_takeUp_23 : decode cX10_takeUp 23 = .ok (.aload_n 2, 1) := dc_at (f := decode cX10_takeUp) dAX10_takeUp_q0 12 rfl
theorem dX10_takeUp_24 : decode cX10_takeUp 24 = .ok (.invokevirtual 166, 3) := dc_at (f := decode cX10_takeUp) dAX10_takeUp_q0 13 rfl
theorem dX10_takeUp_27 : decode cX10_takeUp 27 = .ok (.ifCond .ne 6, 3) := dc_at (f := decode cX10_takeUp) dAX10_takeUp_q0 14 rfl
theorem dX10_takeUp_30 : decode cX10_takeUp 30 = .ok (.bipush (-4), 2) := dc_at (f := decode cX10_takeUp) dAX10_takeUp_q0 15 rfl
theorem dX10_takeUp_32 : decode cX10_takeUp 32 = .ok (.ireturn, 1) := dc_at (f := decode cX10_takeUp) dAX10_takeUp_q0 16 rfl
theorem dX10_takeUp_33 : decode cX10_takeUp 33 = .ok (.aload_n 2, 1) := dc_at (f := decode cX10_takeUp) dAX10_takeUp_q0 17 rfl
theorem dX10_takeUp_34 : decode cX10_takeUp 34 = .ok (.aload_n 0, 1) := dc_at (f := decode cX10_takeUp) dAX10_takeUp_q0 18 rfl
theorem dX10_takeUp_35 : decode cX10_takeUp 35 = .ok (.getfield 123, 3) := dc_at (f := decode cX10_takeUp) dAX10_takeUp_q0 19 rfl
theorem dX10_takeUp_38 : decode cX10_takeUp 38 = .ok (.invokevirtual 169, 3) := dc_at (f := decode cX10_takeUp) dAX10_takeUp_q0 20 rfl
theorem dX10_takeUp_41 : decode cX10_takeUp 41 = .ok (.aload_n 2, 1) := dc_at (f := decode cX10_takeUp) dAX10_takeUp_q0 21 rfl
theorem dX10_takeUp_42 : decode cX10_takeUp 42 = .ok (.aload_n 0, 1) := dc_at (f := decode cX10_takeUp) dAX10_takeUp_q0 22 rfl
theorem dX10_takeUp_43 : decode cX10_takeUp 43 = .ok (.getfield 123, 3) := dc_at (f := decode cX10_takeUp) dAX10_takeUp_q0 23 rfl
theorem dX10_takeUp_46 : decode cX10_takeUp 46 = .ok (.invokevirtual 172, 3) := dc_at (f := decode cX10_takeUp) dAX10_takeUp_q0 24 rfl
theorem dX10_takeUp_49 : decode cX10_takeUp 49 = .ok (.ireturn, 1) := dc_at (f := decode cX10_takeUp) dAX10_takeUp_q0 25 rfl
def dPX10_claim_q0 : List (Nat × (Jvm.ClassFile.Instr × Nat)) := [(0, (.aload_n 0, 1)), (1, (.getfield 106, 3)), (4, (.ifCond .eq 6, 3)), (7, (.bipush (-4), 2)), (9, (.ireturn, 1)), (10, (.aload_n 0, 1)), (11, (.getfield 47, 3)), (14, (.aload_n 0, 1)), (15, (.getfield 26, 3)), (18, (.invokevirtual 175, 3)), (21, (.aload_n 0, 1)), (22, (.getfield 33, 3)), (25, (.invokevirtual 178, 3)), (28, (.istore_n 1, 1)), (29, (.aload_n 0, 1)), (30, (.getfield 54, 3)), (33, (.iload_n 1, 1)), (34, (.invokevirtual 182, 3)), (37, (.iload_n 1, 1)), (38, (.ireturn, 1))]
theorem dAX10_claim_q0 : ∀ x ∈ dPX10_claim_q0, decode cX10_claim x.1 = .ok x.2 := by decide +kernel
theorem dX10_claim_0 : decode cX10_claim 0 = .ok (.aload_n 0, 1) := dc_at (f := decode cX10_claim) dAX10_claim_q0 0 rfl
theorem dX10_claim_1 : decode cX10_claim 1 = .ok (.getfield 106, 3) := dc_at (f := decode cX10_claim) dAX10_claim_q0 1 rfl
theorem dX10_claim_4 : decode cX10_claim 4 = .ok (.ifCond .eq 6, 3) := dc_at (f := decode cX10_claim) dAX10_claim_q0 2 rfl
theorem dX10_claim_7 : decode cX10_claim 7 = .ok (.bipush (-4), 2) := dc_at (f := decode cX10_claim) dAX10_claim_q0 3 rfl
theorem dX10_claim_9 : decode cX10_claim 9 = .ok (.ireturn, 1) := dc_at (f := decode cX10_claim) dAX10_claim_q0 4 rfl
theorem dX10_claim_10 : decode cX10_claim 10 = .ok (.aload_n 0, 1) := dc_at (f := decode cX10_claim) dAX10_claim_q0 5 rfl
theorem dX10_claim_11 : decode cX10_claim 11 = .ok (.getfield 47, 3) := dc_at (f := decode cX10_claim) dAX10_claim_q0 6 rfl
theorem dX10_claim_14 : decode cX10_claim 14 = .ok (.aload_n 0, 1) := dc_at (f := decode cX10_claim) dAX10_claim_q0 7 rfl
theorem dX10_claim_15 : decode cX10_claim 15 = .ok (.getfield 26, 3) := dc_at (f := decode cX10_claim) dAX10_claim_q0 8 rfl
theorem dX10_claim_18 : decode cX10_claim 18 = .ok (.invokevirtual 175, 3) := dc_at (f := decode cX10_claim) dAX10_claim_q0 9 rfl
theorem dX10_claim_21 : decode cX10_claim 21 = .ok (.aload_n 0, 1) := dc_at (f := decode cX10_claim) dAX10_claim_q0 10 rfl
theorem dX10_claim_22 : decode cX10_claim 22 = .ok (.getfield 33, 3) := dc_at (f := decode cX10_claim) dAX10_claim_q0 11 rfl
theorem dX10_claim_25 : decode cX10_claim 25 = .ok (.invokevirtual 178, 3) := dc_at (f := decode cX10_claim) dAX10_claim_q0 12 rfl
theorem dX10_claim_28 : decode cX10_claim 28 = .ok (.istore_n 1, 1) := dc_at (f := decode cX10_claim) dAX10_claim_q0 13 rfl
theorem dX10_claim_29 : decode cX10_claim 29 = .ok (.aload_n 0, 1) := dc_at (f := decode cX10_claim) dAX10_claim_q0 14 rfl
theorem dX10_claim_30 : decode cX10_claim 30 = .ok (.getfield 54, 3) := dc_at (f := decode cX10_claim) dAX10_claim_q0 15 rfl
theorem dX10_claim_33 : decode cX10_claim 33 = .ok (.iload_n 1, 1) := dc_at (f := decode cX10_claim) dAX10_claim_q0 16 rfl
theorem dX10_claim_34 : decode cX10_claim 34 = .ok (.invokevirtual 182, 3) := dc_at (f := decode cX10_claim) dAX10_claim_q0 17 rfl
theorem dX10_claim_37 : decode cX10_claim 37 = .ok (.iload_n 1, 1) := dc_at (f := decode cX10_claim) dAX10_claim_q0 18 rfl
theorem dX10_claim_38 : decode cX10_claim 38 = .ok (.ireturn, 1) := dc_at (f := decode cX10_claim) dAX10_claim_q0 19 rfl
def dPX10_about_q0 : List (Nat × (Jvm.ClassFile.Instr × Nat)) := [(0, (.aload_n 0, 1)), (1, (.getfield 106, 3)), (4, (.ifCond .eq 6, 3)), (7, (.bipush (-4), 2)), (9, (.ireturn, 1)), (10, (.aload_n 0, 1)), (11, (.getfield 40, 3)), (14, (.iload_n 1, 1)), (15, (.invokevirtual 139, 3)), (18, (.astore_n 3, 1)), (19, (.aload_n 3, 1)), (20, (.ifnonnull 5, 3)), (23, (.iconst (-1), 1)), (24, (.ireturn, 1)), (25, (.iload_n 2, 1)), (26, (.tableswitch 102 0 7 #[46, 51, 56, 65, 70, 75, 88, 93], 46)), (72, (.aload_n 3, 1)), (73, (.invokevirtual 159, 3)), (76, (.ireturn, 1)), (77, (.aload_n 3, 1)), (78, (.invokevirtual 185, 3)), (81, (.ireturn, 1)), (82, (.aload_n 3, 1)), (83, (.aload_n 0, 1)), (84, (.getfield 123, 3)), (87, (.invokevirtual 188, 3)), (90, (.ireturn, 1)), (91, (.aload_n 3, 1)), (92, (.invokevirtual 191, 3)), (95, (.ireturn, 1)), (96, (.aload_n 3, 1)), (97, (.invokevirtual 152, 3)), (100, (.ireturn, 1)), (101, (.aload_n 3, 1)), (102, (.invokevirtual 142, 3)), (105, (.ifCond .eq 7, 3)), (108, (.iconst 1, 1)), (109, (.goto 4, 3)), (112, (.iconst 0, 1)), (113, (.ireturn, 1)), (114, (.aload_n 3, 1)), (115, (.invokevirtual 194, 3)), (118, (.ireturn, 1)), (119, (.aload_n 3, 1)), (120, (.aload_n 0, 1)), (121, (.getfield 123, 3)), (124, (.invokevirtual 197, 3)), (127, (.ireturn, 1))]
theorem dAX10_about_q0 : ∀ x ∈ dPX10_about_q0, decode cX10_about x.1 = .ok x.2 := by decide +kernel
theorem dX10_about_0 : decode cX10_about 0 = .ok (.aload_n 0, 1) := dc_at (f := decode cX10_about) dAX10_about_q0 0 rfl
theorem dX10_about_1 : decode cX10_about 1 = .ok (.getfield 106, 3) := dc_at (f := decode cX10_about) dAX10_about_q0 1 rfl
theorem dX10_about_4 : decode cX10_about 4 = .ok (.ifCond .eq 6, 3) := dc_at (f := decode cX10_about) dAX10_about_q0 2 rfl
theorem dX10_about_7 : decode cX10_about 7 = .ok (.bipush (-4), 2) := dc_at (f := decode cX10_about) dAX10_about_q0 3 rfl
theorem dX10_about_9 : decode cX10_about 9 = .ok (.ireturn, 1) := dc_at (f := decode cX10_about) dAX10_about_q0 4 rfl
theorem dX10_about_10 : decode cX10_about 10 = .ok (.aload_n 0, 1) := dc_at (f := decode cX10_about) dAX10_about_q0 5 rfl
theorem dX10_about_11 : decode cX10_about 11 = .ok (.getfield 40, 3) := dc_at (f := decode cX10_about) dAX10_about_q0 6 rfl
theorem dX10_about_14 : decode cX10_about 14 = .ok (.iload_n 1, 1) := dc_at (f := decode cX10_about) dAX10_about_q0 7 rfl
theorem dX10_about_15 : decode cX10_about 15 = .ok (.invokevirtual 139, 3) := dc_at (f := decode cX10_about) dAX10_about_q0 8 rfl
theorem dX10_about_18 : decode cX10_about 18 = .ok (.astore_n 3, 1) := dc_at (f := decode cX10_about) dAX10_about_q0 9 rfl
theorem dX10_about_19 : decode cX10_about 19 = .ok (.aload_n 3, 1) := dc_at (f := decode cX10_about) dAX10_about_q0 10 rfl
theorem dX10_about_20 : decode cX10_about 20 = .ok (.ifnonnull 5, 3) := dc_at (f := decode cX10_about) dAX10_about_q0 11 rfl
theorem dX10_about_23 : decode cX10_about 23 = .ok (.iconst (-1), 1) := dc_at (f := decode cX10_about) dAX10_about_q0 12 rfl
theorem dX10_about_24 : decode cX10_about 24 = .ok (.ireturn, 1) := dc_at (f := decode cX10_about) dAX10_about_q0 13 rfl
theorem dX10_about_25 : decode cX10_about 25 = .ok (.iload_n 2, 1) := dc_at (f := decode cX10_about) dAX10_about_q0 14 rfl
theorem dX10_about_26 : decode cX10_about 26 = .ok (.tableswitch 102 0 7 #[46, 51, 56, 65, 70, 75, 88, 93], 46) := dc_at (f := decode cX10_about) dAX10_about_q0 15 rfl
theorem dX10_about_72 : decode cX10_about 72 = .ok (.aload_n 3, 1) := dc_at (f := decode cX10_about) dAX10_about_q0 16 rfl
theorem dX10_about_73 : decode cX10_about 73 = .ok (.invokevirtual 159, 3) := dc_at (f := decode cX10_about) dAX10_about_q0 17 rfl
theorem dX10_about_76 : decode cX10_about 76 = .ok (.ireturn, 1) := dc_at (f := decode cX10_about) dAX10_about_q0 18 rfl
theorem dX10_about_77 : decode cX10_about 77 = .ok (.aload_n 3, 1) := dc_at (f := decode cX10_about) dAX10_about_q0 19 rfl
theorem dX10_about_78 : decode cX10_about 78 = .ok (.invokevirtual 185, 3) := dc_at (f := decode cX10_about) dAX10_about_q0 20 rfl
theorem dX10_about_81 : decode cX10_about 81 = .ok (.ireturn, 1) := dc_at (f := decode cX10_about) dAX10_about_q0 21 rfl
theorem dX10_about_82 : decode cX10_about 82 = .ok (.aload_n 3, 1) := dc_at (f := decode cX10_about) dAX10_about_q0 22 rfl
theorem dX10_about_83 : decode cX10_about 83 = .ok (.aload_n 0, 1) := dc_at (f := decode cX10_about) dAX10_about_q0 23 rfl
theorem dX10_about_84 : decode cX10_about 84 = .ok (.getfield 123, 3) := dc_at (f := decode cX10_about) dAX10_about_q0 24 rfl
theorem dX10_about_87 : decode cX10_about 87 = .ok (.invokevirtual 188, 3) := dc_at (f := decode cX10_about) dAX10_about_q0 25 rfl
theorem dX10_about_90 : decode cX10_about 90 = .ok (.ireturn, 1) := dc_at (f := decode cX10_about) dAX10_about_q0 26 rfl
theorem dX10_about_91 : decode cX10_about 91 = .ok (.aload_n 3, 1) := dc_at (f := decode cX10_about) dAX10_about_q0 27 rfl
theorem dX10_about_92 : decode cX10_about 92 = .ok (.invokevirtual 191, 3) := dc_at (f := decode cX10_about) dAX10_about_q0 28 rfl
theorem dX10_about_95 : decode cX10_about 95 = .ok (.ireturn, 1) := dc_at (f := decode cX10_about) dAX10_about_q0 29 rfl
theorem dX10_about_96 : decode cX10_about 96 = .ok (.aload_n 3, 1) := dc_at (f := decode cX10_about) dAX10_about_q0 30 rfl
theorem dX10_about_97 : decode cX10_about 97 = .ok (.invokevirtual 152, 3) := dc_at (f := decode cX10_about) dAX10_about_q0 31 rfl
theorem dX10_about_100 : decode cX10_about 100 = .ok (.ireturn, 1) := dc_at (f := decode cX10_about) dAX10_about_q0 32 rfl
theorem dX10_about_101 : decode cX10_about 101 = .ok (.aload_n 3, 1) := dc_at (f := decode cX10_about) dAX10_about_q0 33 rfl
theorem dX10_about_102 : decode cX10_about 102 = .ok (.invokevirtual 142, 3) := dc_at (f := decode cX10_about) dAX10_about_q0 34 rfl
theorem dX10_about_105 : decode cX10_about 105 = .ok (.ifCond .eq 7, 3) := dc_at (f := decode cX10_about) dAX10_about_q0 35 rfl
theorem dX10_about_108 : decode cX10_about 108 = .ok (.iconst 1, 1) := dc_at (f := decode cX10_about) dAX10_about_q0 36 rfl
theorem dX10_about_109 : decode cX10_about 109 = .ok (.goto 4, 3) := dc_at (f := decode cX10_about) dAX10_about_q0 37 rfl
theorem dX10_about_112 : decode cX10_about 112 = .ok (.iconst 0, 1) := dc_at (f := decode cX10_about) dAX10_about_q0 38 rfl
theorem dX10_about_113 : decode cX10_about 113 = .ok (.ireturn, 1) := dc_at (f := decode cX10_about) dAX10_about_q0 39 rfl
theorem dX10_about_114 : decode cX10_about 114 = .ok (.aload_n 3, 1) := dc_at (f := decode cX10_about) dAX10_about_q0 40 rfl
theorem dX10_about_115 : decode cX10_about 115 = .ok (.invokevirtual 194, 3) := dc_at (f := decode cX10_about) dAX10_about_q0 41 rfl
theorem dX10_about_118 : decode cX10_about 118 = .ok (.ireturn, 1) := dc_at (f := decode cX10_about) dAX10_about_q0 42 rfl
theorem dX10_about_119 : decode cX10_about 119 = .ok (.aload_n 3, 1) := dc_at (f := decode cX10_about) dAX10_about_q0 43 rfl
theorem dX10_about_120 : decode cX10_about 120 = .ok (.aload_n 0, 1) := dc_at (f := decode cX10_about) dAX10_about_q0 44 rfl
theorem dX10_about_121 : decode cX10_about 121 = .ok (.getfield 123, 3) := dc_at (f := decode cX10_about) dAX10_about_q0 45 rfl
theorem dX10_about_124 : decode cX10_about 124 = .ok (.invokevirtual 197, 3) := dc_at (f := decode cX10_about) dAX10_about_q0 46 rfl
theorem dX10_about_127 : decode cX10_about 127 = .ok (.ireturn, 1) := dc_at (f := decode cX10_about) dAX10_about_q0 47 rfl
def dPX10_about_q1 : List (Nat × (Jvm.ClassFile.Instr × Nat)) := [(128, (.iconst (-1), 1)), (129, (.ireturn, 1))]
theorem dAX10_about_q1 : ∀ x ∈ dPX10_about_q1, decode cX10_about x.1 = .ok x.2 := by decide +kernel
theorem dX10_about_128 : decode cX10_about 128 = .ok (.iconst (-1), 1) := dc_at (f := decode cX10_about) dAX10_about_q1 0 rfl
theorem dX10_about_129 : decode cX10_about 129 = .ok (.ireturn, 1) := dc_at (f := decode cX10_about) dAX10_about_q1 1 rfl
def dPX10_giver_q0 : List (Nat × (Jvm.ClassFile.Instr × Nat)) := [(0, (.iload_n 1, 1)), (1, (.invokestatic 102, 3)), (4, (.ifCond .eq 12, 3)), (7, (.iload_n 2, 1)), (8, (.iconst 0, 1)), (9, (.iconst 4, 1)), (10, (.invokestatic 119, 3)), (13, (.ifCond .ne 6, 3)), (16, (.bipush (-2), 2)), (18, (.ireturn, 1)), (19, (.aload_n 0, 1)), (20, (.getfield 106, 3)), (23, (.ifCond .eq 6, 3)), (26, (.bipush (-4), 2)), (28, (.ireturn, 1)), (29, (.iload_n 2, 1)), (30, (.tableswitch 66 0 3 #[30, 39, 48, 57], 30)), (60, (.aload_n 0, 1)), (61, (.getfield 47, 3)), (64, (.iload_n 1, 1)), (65, (.invokevirtual 200, 3)), (68, (.ireturn, 1)), (69, (.aload_n 0, 1)), (70, (.getfield 47, 3)), (73, (.iload_n 1, 1)), (74, (.invokevirtual 203, 3)), (77, (.ireturn, 1)), (78, (.aload_n 0, 1)), (79, (.getfield 33, 3)), (82, (.iload_n 1, 1)), (83, (.invokevirtual 206, 3)), (86, (.ireturn, 1)), (87, (.aload_n 0, 1)), (88, (.getfield 33, 3)), (91, (.iload_n 1, 1)), (92, (.invokevirtual 209, 3)), (95, (.ireturn, 1)), (96, (.aload_n 0, 1)), (97, (.getfield 33, 3)), (100, (.iload_n 1, 1)), (101, (.invokevirtual 212, 3)), (104, (.ifCond .eq 7, 3)), (107, (.iconst 1, 1)), (108, (.goto 4, 3)), (111, (.iconst 0, 1)), (112, (.ireturn, 1))]
theorem dAX10_giver_q0 : ∀ x ∈ dPX10_giver_q0, decode cX10_giver x.1 = .ok x.2 := by decide +kernel
theorem dX10_giver_0 : decode cX10_giver 0 = .ok (.iload_n 1, 1) := dc_at (f := decode cX10_giver) dAX10_giver_q0 0 rfl
theorem dX10_giver_1 : decode cX10_giver 1 = .ok (.invokestatic 102, 3) := dc_at (f := decode cX10_giver) dAX10_giver_q0 1 rfl
theorem dX10_giver_4 : decode cX10_giver 4 = .ok (.ifCond .eq 12, 3) := dc_at (f := decode cX10_giver) dAX10_giver_q0 2 rfl
theorem dX10_giver_7 : decode cX10_giver 7 = .ok (.iload_n 2, 1) := dc_at (f := decode cX10_giver) dAX10_giver_q0 3 rfl
theorem dX10_giver_8 : decode cX10_giver 8 = .ok (.iconst 0, 1) := dc_at (f := decode cX10_giver) dAX10_giver_q0 4 rfl
theorem dX10_giver_9 : decode cX10_giver 9 = .ok (.iconst 4, 1) := dc_at (f := decode cX10_giver) dAX10_giver_q0 5 rfl
theorem dX10_giver_10 : decode cX10_giver 10 = .ok (.invokestatic 119, 3) := dc_at (f := decode cX10_giver) dAX10_giver_q0 6 rfl
theorem dX10_giver_13 : decode cX10_giver 13 = .ok (.ifCond .ne 6, 3) := dc_at (f := decode cX10_giver) dAX10_giver_q0 7 rfl
theorem dX10_giver_16 : decode cX10_giver 16 = .ok (.bipush (-2), 2) := dc_at (f := decode cX10_giver) dAX10_giver_q0 8 rfl
theorem dX10_giver_18 : decode cX10_giver 18 = .ok (.ireturn, 1) := dc_at (f := decode cX10_giver) dAX10_giver_q0 9 rfl
theorem dX10_giver_19 : decode cX10_giver 19 = .ok (.aload_n 0, 1) := dc_at (f := decode cX10_giver) dAX10_giver_q0 10 rfl
theorem dX10_giver_20 : decode cX10_giver 20 = .ok (.getfield 106, 3) := dc_at (f := decode cX10_giver) dAX10_giver_q0 11 rfl
theorem dX10_giver_23 : decode cX10_giver 23 = .ok (.ifCond .eq 6, 3) := dc_at (f := decode cX10_giver) dAX10_giver_q0 12 rfl
theorem dX10_giver_26 : decode cX10_giver 26 = .ok (.bipush (-4), 2) := dc_at (f := decode cX10_giver) dAX10_giver_q0 13 rfl
theorem dX10_giver_28 : decode cX10_giver 28 = .ok (.ireturn, 1) := dc_at (f := decode cX10_giver) dAX10_giver_q0 14 rfl
theorem dX10_giver_29 : decode cX10_giver 29 = .ok (.iload_n 2, 1) := dc_at (f := decode cX10_giver) dAX10_giver_q0 15 rfl
theorem dX10_giver_30 : decode cX10_giver 30 = .ok (.tableswitch 66 0 3 #[30, 39, 48, 57], 30) := dc_at (f := decode cX10_giver) dAX10_giver_q0 16 rfl
theorem dX10_giver_60 : decode cX10_giver 60 = .ok (.aload_n 0, 1) := dc_at (f := decode cX10_giver) dAX10_giver_q0 17 rfl
theorem dX10_giver_61 : decode cX10_giver 61 = .ok (.getfield 47, 3) := dc_at (f := decode cX10_giver) dAX10_giver_q0 18 rfl
theorem dX10_giver_64 : decode cX10_giver 64 = .ok (.iload_n 1, 1) := dc_at (f := decode cX10_giver) dAX10_giver_q0 19 rfl
theorem dX10_giver_65 : decode cX10_giver 65 = .ok (.invokevirtual 200, 3) := dc_at (f := decode cX10_giver) dAX10_giver_q0 20 rfl
theorem dX10_giver_68 : decode cX10_giver 68 = .ok (.ireturn, 1) := dc_at (f := decode cX10_giver) dAX10_giver_q0 21 rfl
theorem dX10_giver_69 : decode cX10_giver 69 = .ok (.aload_n 0, 1) := dc_at (f := decode cX10_giver) dAX10_giver_q0 22 rfl
theorem dX10_giver_70 : decode cX10_giver 70 = .ok (.getfield 47, 3) := dc_at (f := decode cX10_giver) dAX10_giver_q0 23 rfl
theorem dX10_giver_73 : decode cX10_giver 73 = .ok (.iload_n 1, 1) := dc_at (f := decode cX10_giver) dAX10_giver_q0 24 rfl
theorem dX10_giver_74 : decode cX10_giver 74 = .ok (.invokevirtual 203, 3) := dc_at (f := decode cX10_giver) dAX10_giver_q0 25 rfl
theorem dX10_giver_77 : decode cX10_giver 77 = .ok (.ireturn, 1) := dc_at (f := decode cX10_giver) dAX10_giver_q0 26 rfl
theorem dX10_giver_78 : decode cX10_giver 78 = .ok (.aload_n 0, 1) := dc_at (f := decode cX10_giver) dAX10_giver_q0 27 rfl
theorem dX10_giver_79 : decode cX10_giver 79 = .ok (.getfield 33, 3) := dc_at (f := decode cX10_giver) dAX10_giver_q0 28 rfl
theorem dX10_giver_82 : decode cX10_giver 82 = .ok (.iload_n 1, 1) := dc_at (f := decode cX10_giver) dAX10_giver_q0 29 rfl
theorem dX10_giver_83 : decode cX10_giver 83 = .ok (.invokevirtual 206, 3) := dc_at (f := decode cX10_giver) dAX10_giver_q0 30 rfl
theorem dX10_giver_86 : decode cX10_giver 86 = .ok (.ireturn, 1) := dc_at (f := decode cX10_giver) dAX10_giver_q0 31 rfl
theorem dX10_giver_87 : decode cX10_giver 87 = .ok (.aload_n 0, 1) := dc_at (f := decode cX10_giver) dAX10_giver_q0 32 rfl
theorem dX10_giver_88 : decode cX10_giver 88 = .ok (.getfield 33, 3) := dc_at (f := decode cX10_giver) dAX10_giver_q0 33 rfl
theorem dX10_giver_91 : decode cX10_giver 91 = .ok (.iload_n 1, 1) := dc_at (f := decode cX10_giver) dAX10_giver_q0 34 rfl
theorem dX10_giver_92 : decode cX10_giver 92 = .ok (.invokevirtual 209, 3) := dc_at (f := decode cX10_giver) dAX10_giver_q0 35 rfl
theorem dX10_giver_95 : decode cX10_giver 95 = .ok (.ireturn, 1) := dc_at (f := decode cX10_giver) dAX10_giver_q0 36 rfl
theorem dX10_giver_96 : decode cX10_giver 96 = .ok (.aload_n 0, 1) := dc_at (f := decode cX10_giver) dAX10_giver_q0 37 rfl
theorem dX10_giver_97 : decode cX10_giver 97 = .ok (.getfield 33, 3) := dc_at (f := decode cX10_giver) dAX10_giver_q0 38 rfl
theorem dX10_giver_100 : decode cX10_giver 100 = .ok (.iload_n 1, 1) := dc_at (f := decode cX10_giver) dAX10_giver_q0 39 rfl
theorem dX10_giver_101 : decode cX10_giver 101 = .ok (.invokevirtual 212, 3) := dc_at (f := decode cX10_giver) dAX10_giver_q0 40 rfl
theorem dX10_giver_104 : decode cX10_giver 104 = .ok (.ifCond .eq 7, 3) := dc_at (f := decode cX10_giver) dAX10_giver_q0 41 rfl
theorem dX10_giver_107 : decode cX10_giver 107 = .ok (.iconst 1, 1) := dc_at (f := decode cX10_giver) dAX10_giver_q0 42 rfl
theorem dX10_giver_108 : decode cX10_giver 108 = .ok (.goto 4, 3) := dc_at (f := decode cX10_giver) dAX10_giver_q0 43 rfl
theorem dX10_giver_111 : decode cX10_giver 111 = .ok (.iconst 0, 1) := dc_at (f := decode cX10_giver) dAX10_giver_q0 44 rfl
theorem dX10_giver_112 : decode cX10_giver 112 = .ok (.ireturn, 1) := dc_at (f := decode cX10_giver) dAX10_giver_q0 45 rfl
def dPX10_stage_q0 : List (Nat × (Jvm.ClassFile.Instr × Nat)) := [(0, (.iload_n 1, 1)), (1, (.iconst 1, 1)), (2, (.ldc 215, 2)), (4, (.invokestatic 119, 3)), (7, (.ifCond .eq 13, 3)), (10, (.iload_n 2, 1)), (11, (.iconst 1, 1)), (12, (.bipush 24, 2)), (14, (.invokestatic 119, 3)), (17, (.ifCond .ne 6, 3)), (20, (.bipush (-2), 2)), (22, (.ireturn, 1)), (23, (.aload_n 0, 1)), (24, (.getfield 106, 3)), (27, (.ifCond .eq 6, 3)), (30, (.bipush (-4), 2)), (32, (.ireturn, 1)), (33, (.aload_n 0, 1)), (34, (.getfield 61, 3)), (37, (.invokevirtual 216, 3)), (40, (.ifCond .eq 8, 3)), (43, (.bipush (-3), 2)), (45, (.goto 19, 3)), (48, (.aload_n 0, 1)), (49, (.getfield 61, 3)), (52, (.new 217, 3)), (55, (.dup, 1)), (56, (.iload_n 1, 1)), (57, (.iload_n 2, 1)), (58, (.invokespecial 219, 3)), (61, (.invokevirtual 221, 3)), (64, (.ireturn, 1))]
theorem dAX10_stage_q0 : ∀ x ∈ dPX10_stage_q0, decode cX10_stage x.1 = .ok x.2 := by decide +kernel
theorem dX10_stage_0 : decode cX10_stage 0 = .ok (.iload_n 1, 1) := dc_at (f := decode cX10_stage) dAX10_stage_q0 0 rfl
theorem dX10_stage_1 : decode cX10_stage 1 = .ok (.iconst 1, 1) := dc_at (f := decode cX10_stage) dAX10_stage_q0 1 rfl
theorem dX10_stage_2 : decode cX10_stage 2 = .ok (.ldc 215, 2) := dc_at (f := decode cX10_stage) dAX10_stage_q0 2 rfl
theorem dX10_stage_4 : decode cX10_stage 4 = .ok (.invokestatic 119, 3) := dc_at (f := decode cX10_stage) dAX10_stage_q0 3 rfl
theorem dX10_stage_7 : decode cX10_stage 7 = .ok (.ifCond .eq 13, 3) := dc_at (f := decode cX10_stage) dAX10_stage_q0 4 rfl
theorem dX10_stage_10 : decode cX10_stage 10 = .ok (.iload_n 2, 1) := dc_at (f := decode cX10_stage) dAX10_stage_q0 5 rfl
theorem dX10_stage_11 : decode cX10_stage 11 = .ok (.iconst 1, 1) := dc_at (f := decode cX10_stage) dAX10_stage_q0 6 rfl
theorem dX10_stage_12 : decode cX10_stage 12 = .ok (.bipush 24, 2) := dc_at (f := decode cX10_stage) dAX10_stage_q0 7 rfl
theorem dX10_stage_14 : decode cX10_stage 14 = .ok (.invokestatic 119, 3) := dc_at (f := decode cX10_stage) dAX10_stage_q0 8 rfl
theorem dX10_stage_17 : decode cX10_stage 17 = .ok (.ifCond .ne 6, 3) := dc_at (f := decode cX10_stage) dAX10_stage_q0 9 rfl
theorem dX10_stage_20 : decode cX10_stage 20 = .ok (.bipush (-2), 2) := dc_at (f := decode cX10_stage) dAX10_stage_q0 10 rfl
theorem dX10_stage_22 : decode cX10_stage 22 = .ok (.ireturn, 1) := dc_at (f := decode cX10_stage) dAX10_stage_q0 11 rfl
theorem dX10_stage_23 : decode cX10_stage 23 = .ok (.aload_n 0, 1) := dc_at (f := decode cX10_stage) dAX10_stage_q0 12 rfl
theorem dX10_stage_24 : decode cX10_stage 24 = .ok (.getfield 106, 3) := dc_at (f := decode cX10_stage) dAX10_stage_q0 13 rfl
theorem dX10_stage_27 : decode cX10_stage 27 = .ok (.ifCond .eq 6, 3) := dc_at (f := decode cX10_stage) dAX10_stage_q0 14 rfl
theorem dX10_stage_30 : decode cX10_stage 30 = .ok (.bipush (-4), 2) := dc_at (f := decode cX10_stage) dAX10_stage_q0 15 rfl
theorem dX10_stage_32 : decode cX10_stage 32 = .ok (.ireturn, 1) := dc_at (f := decode cX10_stage) dAX10_stage_q0 16 rfl
theorem dX10_stage_33 : decode cX10_stage 33 = .ok (.aload_n 0, 1) := dc_at (f := decode cX10_stage) dAX10_stage_q0 17 rfl
theorem dX10_stage_34 : decode cX10_stage 34 = .ok (.getfield 61, 3) := dc_at (f := decode cX10_stage) dAX10_stage_q0 18 rfl
theorem dX10_stage_37 : decode cX10_stage 37 = .ok (.invokevirtual 216, 3) := dc_at (f := decode cX10_stage) dAX10_stage_q0 19 rfl
theorem dX10_stage_40 : decode cX10_stage 40 = .ok (.ifCond .eq 8, 3) := dc_at (f := decode cX10_stage) dAX10_stage_q0 20 rfl
theorem dX10_stage_43 : decode cX10_stage 43 = .ok (.bipush (-3), 2) := dc_at (f := decode cX10_stage) dAX10_stage_q0 21 rfl
theorem dX10_stage_45 : decode cX10_stage 45 = .ok (.goto 19, 3) := dc_at (f := decode cX10_stage) dAX10_stage_q0 22 rfl
theorem dX10_stage_48 : decode cX10_stage 48 = .ok (.aload_n 0, 1) := dc_at (f := decode cX10_stage) dAX10_stage_q0 23 rfl
theorem dX10_stage_49 : decode cX10_stage 49 = .ok (.getfield 61, 3) := dc_at (f := decode cX10_stage) dAX10_stage_q0 24 rfl
theorem dX10_stage_52 : decode cX10_stage 52 = .ok (.new 217, 3) := dc_at (f := decode cX10_stage) dAX10_stage_q0 25 rfl
theorem dX10_stage_55 : decode cX10_stage 55 = .ok (.dup, 1) := dc_at (f := decode cX10_stage) dAX10_stage_q0 26 rfl
theorem dX10_stage_56 : decode cX10_stage 56 = .ok (.iload_n 1, 1) := dc_at (f := decode cX10_stage) dAX10_stage_q0 27 rfl
theorem dX10_stage_57 : decode cX10_stage 57 = .ok (.iload_n 2, 1) := dc_at (f := decode cX10_stage) dAX10_stage_q0 28 rfl
theorem dX10_stage_58 : decode cX10_stage 58 = .ok (.invokespecial 219, 3) := dc_at (f := decode cX10_stage) dAX10_stage_q0 29 rfl
theorem dX10_stage_61 : decode cX10_stage 61 = .ok (.invokevirtual 221, 3) := dc_at (f := decode cX10_stage) dAX10_stage_q0 30 rfl
theorem dX10_stage_64 : decode cX10_stage 64 = .ok (.ireturn, 1) := dc_at (f := decode cX10_stage) dAX10_stage_q0 31 rfl
def dPX10_begin_q0 : List (Nat × (Jvm.ClassFile.Instr × Nat)) := [(0, (.aload_n 0, 1)), (1, (.getfield 106, 3)), (4, (.ifCond .ne 13, 3)), (7, (.aload_n 0, 1)), (8, (.getfield 61, 3)), (11, (.invokevirtual 224, 3)), (14, (.ifCond .ne 6, 3)), (17, (.bipush (-4), 2)), (19, (.ireturn, 1)), (20, (.aload_n 0, 1)), (21, (.getfield 61, 3)), (24, (.invokevirtual 227, 3)), (27, (.ireturn, 1))]
theorem dAX10_begin_q0 : ∀ x ∈ dPX10_begin_q0, decode cX10_begin x.1 = .ok x.2 := by decide +kernel
theorem dX10_begin_0 : decode cX10_begin 0 = .ok (.aload_n 0, 1) := dc_at (f := decode cX10_begin) dAX10_begin_q0 0 rfl
theorem dX10_begin_1 : decode cX10_begin 1 = .ok (.getfield 106, 3) := dc_at (f := decode cX10_begin) dAX10_begin_q0 1 rfl
theorem dX10_begin_4 : decode cX10_begin 4 = .ok (.ifCond .ne 13, 3) := dc_at (f := decode cX10_begin) dAX10_begin_q0 2 rfl
theorem dX10_begin_7 : decode cX10_begin 7 = .ok (.aload_n 0, 1) := dc_at (f := decode cX10_begin) dAX10_begin_q0 3 rfl
theorem dX10_begin_8 : decode cX10_begin 8 = .ok (.getfield 61, 3) := dc_at (f := decode cX10_begin) dAX10_begin_q0 4 rfl
theorem dX10_begin_11 : decode cX10_begin 11 = .ok (.invokevirtual 224, 3) := dc_at (f := decode cX10_begin) dAX10_begin_q0 5 rfl
theorem dX10_begin_14 : decode cX10_begin 14 = .ok (.ifCond .ne 6, 3) := dc_at (f := decode cX10_begin) dAX10_begin_q0 6 rfl
theorem dX10_begin_17 : decode cX10_begin 17 = .ok (.bipush (-4), 2) := dc_at (f := decode cX10_begin) dAX10_begin_q0 7 rfl
theorem dX10_begin_19 : decode cX10_begin 19 = .ok (.ireturn, 1) := dc_at (f := decode cX10_begin) dAX10_begin_q0 8 rfl
theorem dX10_begin_20 : decode cX10_begin 20 = .ok (.aload_n 0, 1) := dc_at (f := decode cX10_begin) dAX10_begin_q0 9 rfl
theorem dX10_begin_21 : decode cX10_begin 21 = .ok (.getfield 61, 3) := dc_at (f := decode cX10_begin) dAX10_begin_q0 10 rfl
theorem dX10_begin_24 : decode cX10_begin 24 = .ok (.invokevirtual 227, 3) := dc_at (f := decode cX10_begin) dAX10_begin_q0 11 rfl
theorem dX10_begin_27 : decode cX10_begin 27 = .ok (.ireturn, 1) := dc_at (f := decode cX10_begin) dAX10_begin_q0 12 rfl
def dPX10_built_q0 : List (Nat × (Jvm.ClassFile.Instr × Nat)) := [(0, (.aload_n 0, 1)), (1, (.getfield 61, 3)), (4, (.iload_n 1, 1)), (5, (.invokevirtual 230, 3)), (8, (.astore_n 3, 1)), (9, (.aload_n 3, 1)), (10, (.ifnonnull 5, 3)), (13, (.iconst (-1), 1)), (14, (.ireturn, 1)), (15, (.iload_n 2, 1)), (16, (.tableswitch 61 0 4 #[36, 41, 46, 51, 56], 36)), (52, (.aload_n 3, 1)), (53, (.invokevirtual 233, 3)), (56, (.ireturn, 1)), (57, (.aload_n 3, 1)), (58, (.invokevirtual 236, 3)), (61, (.ireturn, 1)), (62, (.aload_n 3, 1)), (63, (.invokevirtual 239, 3)), (66, (.ireturn, 1)), (67, (.aload_n 3, 1)), (68, (.invokevirtual 242, 3)), (71, (.ireturn, 1)), (72, (.aload_n 3, 1)), (73, (.invokevirtual 245, 3)), (76, (.ireturn, 1)), (77, (.iconst (-1), 1)), (78, (.ireturn, 1))]
theorem dAX10_built_q0 : ∀ x ∈ dPX10_built_q0, decode cX10_built x.1 = .ok x.2 := by decide +kernel
theorem dX10_built_0 : decode cX10_built 0 = .ok (.aload_n 0, 1) := dc_at (f := decode cX10_built) dAX10_built_q0 0 rfl
theorem dX10_built_1 : decode cX10_built 1 = .ok (.getfield 61, 3) := dc_at (f := decode cX10_built) dAX10_built_q0 1 rfl
theorem dX10_built_4 : decode cX10_built 4 = .ok (.iload_n 1, 1) := dc_at (f := decode cX10_built) dAX10_built_q0 2 rfl
theorem dX10_built_5 : decode cX10_built 5 = .ok (.invokevirtual 230, 3) := dc_at (f := decode cX10_built) dAX10_built_q0 3 rfl
theorem dX10_built_8 : decode cX10_built 8 = .ok (.astore_n 3, 1) := dc_at (f := decode cX10_built) dAX10_built_q0 4 rfl
theorem dX10_built_9 : decode cX10_built 9 = .ok (.aload_n 3, 1) := dc_at (f := decode cX10_built) dAX10_built_q0 5 rfl
theorem dX10_built_10 : decode cX10_built 10 = .ok (.ifnonnull 5, 3) := dc_at (f := decode cX10_built) dAX10_built_q0 6 rfl
theorem dX10_built_13 : decode cX10_built 13 = .ok (.iconst (-1), 1) := dc_at (f := decode cX10_built) dAX10_built_q0 7 rfl
theorem dX10_built_14 : decode cX10_built 14 = .ok (.ireturn, 1) := dc_at (f := decode cX10_built) dAX10_built_q0 8 rfl
theorem dX10_built_15 : decode cX10_built 15 = .ok (.iload_n 2, 1) := dc_at (f := decode cX10_built) dAX10_built_q0 9 rfl
theorem dX10_built_16 : decode cX10_built 16 = .ok (.tableswitch 61 0 4 #[36, 41, 46, 51, 56], 36) := dc_at (f := decode cX10_built) dAX10_built_q0 10 rfl
theorem dX10_built_52 : decode cX10_built 52 = .ok (.aload_n 3, 1) := dc_at (f := decode cX10_built) dAX10_built_q0 11 rfl
theorem dX10_built_53 : decode cX10_built 53 = .ok (.invokevirtual 233, 3) := dc_at (f := decode cX10_built) dAX10_built_q0 12 rfl
theorem dX10_built_56 : decode cX10_built 56 = .ok (.ireturn, 1) := dc_at (f := decode cX10_built) dAX10_built_q0 13 rfl
theorem dX10_built_57 : decode cX10_built 57 = .ok (.aload_n 3, 1) := dc_at (f := decode cX10_built) dAX10_built_q0 14 rfl
theorem dX10_built_58 : decode cX10_built 58 = .ok (.invokevirtual 236, 3) := dc_at (f := decode cX10_built) dAX10_built_q0 15 rfl
theorem dX10_built_61 : decode cX10_built 61 = .ok (.ireturn, 1) := dc_at (f := decode cX10_built) dAX10_built_q0 16 rfl
theorem dX10_built_62 : decode cX10_built 62 = .ok (.aload_n 3, 1) := dc_at (f := decode cX10_built) dAX10_built_q0 17 rfl
theorem dX10_built_63 : decode cX10_built 63 = .ok (.invokevirtual 239, 3) := dc_at (f := decode cX10_built) dAX10_built_q0 18 rfl
theorem dX10_built_66 : decode cX10_built 66 = .ok (.ireturn, 1) := dc_at (f := decode cX10_built) dAX10_built_q0 19 rfl
theorem dX10_built_67 : decode cX10_built 67 = .ok (.aload_n 3, 1) := dc_at (f := decode cX10_built) dAX10_built_q0 20 rfl
theorem dX10_built_68 : decode cX10_built 68 = .ok (.invokevirtual 242, 3) := dc_at (f := decode cX10_built) dAX10_built_q0 21 rfl
theorem dX10_built_71 : decode cX10_built 71 = .ok (.ireturn, 1) := dc_at (f := decode cX10_built) dAX10_built_q0 22 rfl
theorem dX10_built_72 : decode cX10_built 72 = .ok (.aload_n 3, 1) := dc_at (f := decode cX10_built) dAX10_built_q0 23 rfl
theorem dX10_built_73 : decode cX10_built 73 = .ok (.invokevirtual 245, 3) := dc_at (f := decode cX10_built) dAX10_built_q0 24 rfl
theorem dX10_built_76 : decode cX10_built 76 = .ok (.ireturn, 1) := dc_at (f := decode cX10_built) dAX10_built_q0 25 rfl
theorem dX10_built_77 : decode cX10_built 77 = .ok (.iconst (-1), 1) := dc_at (f := decode cX10_built) dAX10_built_q0 26 rfl
theorem dX10_built_78 : decode cX10_built 78 = .ok (.ireturn, 1) := dc_at (f := decode cX10_built) dAX10_built_q0 27 rfl

