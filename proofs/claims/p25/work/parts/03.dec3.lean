def dPX10_months_q0 : List (Nat × (Jvm.ClassFile.Instr × Nat)) := [(0, (.iload_n 1, 1)), (1, (.iconst 1, 1)), (2, (.bipush 24, 2)), (4, (.invokestatic 119, 3)), (7, (.ifCond .eq 14, 3)), (10, (.aload_n 0, 1)), (11, (.getfield 123, 3)), (14, (.iload_n 1, 1)), (15, (.iadd, 1)), (16, (.bipush 119, 2)), (18, (.if_icmp .le 6, 3)), (21, (.bipush (-2), 2)), (23, (.ireturn, 1)), (24, (.aload_n 0, 1)), (25, (.getfield 106, 3)), (28, (.ifCond .eq 6, 3)), (31, (.bipush (-4), 2)), (33, (.ireturn, 1)), (34, (.iconst 0, 1)), (35, (.istore_n 2, 1)), (36, (.iload_n 2, 1)), (37, (.iload_n 1, 1)), (38, (.if_icmp .ge 13, 3)), (41, (.aload_n 0, 1)), (42, (.invokevirtual 248, 3)), (45, (.iinc 2 1, 3)), (48, (.goto (-12), 3)), (51, (.aload_n 0, 1)), (52, (.getfield 123, 3)), (55, (.ireturn, 1))]
theorem dAX10_months_q0 : ∀ x ∈ dPX10_months_q0, decode cX10_months x.1 = .ok x.2 := by decide +kernel
theorem dX10_months_0 : decode cX10_months 0 = .ok (.iload_n 1, 1) := dc_at (f := decode cX10_months) dAX10_months_q0 0 rfl
theorem dX10_months_1 : decode cX10_months 1 = .ok (.iconst 1, 1) := dc_at (f := decode cX10_months) dAX10_months_q0 1 rfl
theorem dX10_months_2 : decode cX10_months 2 = .ok (.bipush 24, 2) := dc_at (f := decode cX10_months) dAX10_months_q0 2 rfl
theorem dX10_months_4 : decode cX10_months 4 = .ok (.invokestatic 119, 3) := dc_at (f := decode cX10_months) dAX10_months_q0 3 rfl
theorem dX10_months_7 : decode cX10_months 7 = .ok (.ifCond .eq 14, 3) := dc_at (f := decode cX10_months) dAX10_months_q0 4 rfl
theorem dX10_months_10 : decode cX10_months 10 = .ok (.aload_n 0, 1) := dc_at (f := decode cX10_months) dAX10_months_q0 5 rfl
theorem dX10_months_11 : decode cX10_months 11 = .ok (.getfield 123, 3) := dc_at (f := decode cX10_months) dAX10_months_q0 6 rfl
theorem dX10_months_14 : decode cX10_months 14 = .ok (.iload_n 1, 1) := dc_at (f := decode cX10_months) dAX10_months_q0 7 rfl
theorem dX10_months_15 : decode cX10_months 15 = .ok (.iadd, 1) := dc_at (f := decode cX10_months) dAX10_months_q0 8 rfl
theorem dX10_months_16 : decode cX10_months 16 = .ok (.bipush 119, 2) := dc_at (f := decode cX10_months) dAX10_months_q0 9 rfl
theorem dX10_months_18 : decode cX10_months 18 = .ok (.if_icmp .le 6, 3) := dc_at (f := decode cX10_months) dAX10_months_q0 10 rfl
theorem dX10_months_21 : decode cX10_months 21 = .ok (.bipush (-2), 2) := dc_at (f := decode cX10_months) dAX10_months_q0 11 rfl
theorem dX10_months_23 : decode cX10_months 23 = .ok (.ireturn, 1) := dc_at (f := decode cX10_months) dAX10_months_q0 12 rfl
theorem dX10_months_24 : decode cX10_months 24 = .ok (.aload_n 0, 1) := dc_at (f := decode cX10_months) dAX10_months_q0 13 rfl
theorem dX10_months_25 : decode cX10_months 25 = .ok (.getfield 106, 3) := dc_at (f := decode cX10_months) dAX10_months_q0 14 rfl
theorem dX10_months_28 : decode cX10_months 28 = .ok (.ifCond .eq 6, 3) := dc_at (f := decode cX10_months) dAX10_months_q0 15 rfl
theorem dX10_months_31 : decode cX10_months 31 = .ok (.bipush (-4), 2) := dc_at (f := decode cX10_months) dAX10_months_q0 16 rfl
theorem dX10_months_33 : decode cX10_months 33 = .ok (.ireturn, 1) := dc_at (f := decode cX10_months) dAX10_months_q0 17 rfl
theorem dX10_months_34 : decode cX10_months 34 = .ok (.iconst 0, 1) := dc_at (f := decode cX10_months) dAX10_months_q0 18 rfl
theorem dX10_months_35 : decode cX10_months 35 = .ok (.istore_n 2, 1) := dc_at (f := decode cX10_months) dAX10_months_q0 19 rfl
theorem dX10_months_36 : decode cX10_months 36 = .ok (.iload_n 2, 1) := dc_at (f := decode cX10_months) dAX10_months_q0 20 rfl
theorem dX10_months_37 : decode cX10_months 37 = .ok (.iload_n 1, 1) := dc_at (f := decode cX10_months) dAX10_months_q0 21 rfl
theorem dX10_months_38 : decode cX10_months 38 = .ok (.if_icmp .ge 13, 3) := dc_at (f := decode cX10_months) dAX10_months_q0 22 rfl
theorem dX10_months_41 : decode cX10_months 41 = .ok (.aload_n 0, 1) := dc_at (f := decode cX10_months) dAX10_months_q0 23 rfl
theorem dX10_months_42 : decode cX10_months 42 = .ok (.invokevirtual 248, 3) := dc_at (f := decode cX10_months) dAX10_months_q0 24 rfl
theorem dX10_months_45 : decode cX10_months 45 = .ok (.iinc 2 1, 3) := dc_at (f := decode cX10_months) dAX10_months_q0 25 rfl
theorem dX10_months_48 : decode cX10_months 48 = .ok (.goto (-12), 3) := dc_at (f := decode cX10_months) dAX10_months_q0 26 rfl
theorem dX10_months_51 : decode cX10_months 51 = .ok (.aload_n 0, 1) := dc_at (f := decode cX10_months) dAX10_months_q0 27 rfl
theorem dX10_months_52 : decode cX10_months 52 = .ok (.getfield 123, 3) := dc_at (f := decode cX10_months) dAX10_months_q0 28 rfl
theorem dX10_months_55 : decode cX10_months 55 = .ok (.ireturn, 1) := dc_at (f := decode cX10_months) dAX10_months_q0 29 rfl
def dPX10_sure_q0 : List (Nat × (Jvm.ClassFile.Instr × Nat)) := [(0, (.iload_n 1, 1)), (1, (.iconst 1, 1)), (2, (.bipush 84, 2)), (4, (.invokestatic 119, 3)), (7, (.ifCond .eq 18, 3)), (10, (.aload_n 0, 1)), (11, (.getfield 40, 3)), (14, (.iload_n 1, 1)), (15, (.aload_n 0, 1)), (16, (.getfield 123, 3)), (19, (.invokevirtual 251, 3)), (22, (.goto 5, 3)), (25, (.bipush (-2), 2)), (27, (.ireturn, 1))]
theorem dAX10_sure_q0 : ∀ x ∈ dPX10_sure_q0, decode cX10_sure x.1 = .ok x.2 := by decide +kernel
theorem dX10_sure_0 : decode cX10_sure 0 = .ok (.iload_n 1, 1) := dc_at (f := decode cX10_sure) dAX10_sure_q0 0 rfl
theorem dX10_sure_1 : decode cX10_sure 1 = .ok (.iconst 1, 1) := dc_at (f := decode cX10_sure) dAX10_sure_q0 1 rfl
theorem dX10_sure_2 : decode cX10_sure 2 = .ok (.bipush 84, 2) := dc_at (f := decode cX10_sure) dAX10_sure_q0 2 rfl
theorem dX10_sure_4 : decode cX10_sure 4 = .ok (.invokestatic 119, 3) := dc_at (f := decode cX10_sure) dAX10_sure_q0 3 rfl
theorem dX10_sure_7 : decode cX10_sure 7 = .ok (.ifCond .eq 18, 3) := dc_at (f := decode cX10_sure) dAX10_sure_q0 4 rfl
theorem dX10_sure_10 : decode cX10_sure 10 = .ok (.aload_n 0, 1) := dc_at (f := decode cX10_sure) dAX10_sure_q0 5 rfl
theorem dX10_sure_11 : decode cX10_sure 11 = .ok (.getfield 40, 3) := dc_at (f := decode cX10_sure) dAX10_sure_q0 6 rfl
theorem dX10_sure_14 : decode cX10_sure 14 = .ok (.iload_n 1, 1) := dc_at (f := decode cX10_sure) dAX10_sure_q0 7 rfl
theorem dX10_sure_15 : decode cX10_sure 15 = .ok (.aload_n 0, 1) := dc_at (f := decode cX10_sure) dAX10_sure_q0 8 rfl
theorem dX10_sure_16 : decode cX10_sure 16 = .ok (.getfield 123, 3) := dc_at (f := decode cX10_sure) dAX10_sure_q0 9 rfl
theorem dX10_sure_19 : decode cX10_sure 19 = .ok (.invokevirtual 251, 3) := dc_at (f := decode cX10_sure) dAX10_sure_q0 10 rfl
theorem dX10_sure_22 : decode cX10_sure 22 = .ok (.goto 5, 3) := dc_at (f := decode cX10_sure) dAX10_sure_q0 11 rfl
theorem dX10_sure_25 : decode cX10_sure 25 = .ok (.bipush (-2), 2) := dc_at (f := decode cX10_sure) dAX10_sure_q0 12 rfl
theorem dX10_sure_27 : decode cX10_sure 27 = .ok (.ireturn, 1) := dc_at (f := decode cX10_sure) dAX10_sure_q0 13 rfl
def dPX10_stone_q0 : List (Nat × (Jvm.ClassFile.Instr × Nat)) := [(0, (.aload_n 0, 1)), (1, (.getfield 33, 3)), (4, (.aload_n 0, 1)), (5, (.getfield 47, 3)), (8, (.aload_n 0, 1)), (9, (.getfield 26, 3)), (12, (.invokevirtual 254, 3)), (15, (.invokevirtual 257, 3)), (18, (.istore_n 2, 1)), (19, (.iload_n 1, 1)), (20, (.ifCond .lt 19, 3)), (23, (.iload_n 1, 1)), (24, (.iload_n 2, 1)), (25, (.if_icmp .ge 14, 3)), (28, (.aload_n 0, 1)), (29, (.getfield 33, 3)), (32, (.iload_n 1, 1)), (33, (.invokevirtual 261, 3)), (36, (.goto 4, 3)), (39, (.iconst (-1), 1)), (40, (.ireturn, 1))]
theorem dAX10_stone_q0 : ∀ x ∈ dPX10_stone_q0, decode cX10_stone x.1 = .ok x.2 := by decide +kernel
theorem dX10_stone_0 : decode cX10_stone 0 = .ok (.aload_n 0, 1) := dc_at (f := decode cX10_stone) dAX10_stone_q0 0 rfl
theorem dX10_stone_1 : decode cX10_stone 1 = .ok (.getfield 33, 3) := dc_at (f := decode cX10_stone) dAX10_stone_q0 1 rfl
theorem dX10_stone_4 : decode cX10_stone 4 = .ok (.aload_n 0, 1) := dc_at (f := decode cX10_stone) dAX10_stone_q0 2 rfl
theorem dX10_stone_5 : decode cX10_stone 5 = .ok (.getfield 47, 3) := dc_at (f := decode cX10_stone) dAX10_stone_q0 3 rfl
theorem dX10_stone_8 : decode cX10_stone 8 = .ok (.aload_n 0, 1) := dc_at (f := decode cX10_stone) dAX10_stone_q0 4 rfl
theorem dX10_stone_9 : decode cX10_stone 9 = .ok (.getfield 26, 3) := dc_at (f := decode cX10_stone) dAX10_stone_q0 5 rfl
theorem dX10_stone_12 : decode cX10_stone 12 = .ok (.invokevirtual 254, 3) := dc_at (f := decode cX10_stone) dAX10_stone_q0 6 rfl
theorem dX10_stone_15 : decode cX10_stone 15 = .ok (.invokevirtual 257, 3) := dc_at (f := decode cX10_stone) dAX10_stone_q0 7 rfl
theorem dX10_stone_18 : decode cX10_stone 18 = .ok (.istore_n 2, 1) := dc_at (f := decode cX10_stone) dAX10_stone_q0 8 rfl
theorem dX10_stone_19 : decode cX10_stone 19 = .ok (.iload_n 1, 1) := dc_at (f := decode cX10_stone) dAX10_stone_q0 9 rfl
theorem dX10_stone_20 : decode cX10_stone 20 = .ok (.ifCond .lt 19, 3) := dc_at (f := decode cX10_stone) dAX10_stone_q0 10 rfl
theorem dX10_stone_23 : decode cX10_stone 23 = .ok (.iload_n 1, 1) := dc_at (f := decode cX10_stone) dAX10_stone_q0 11 rfl
theorem dX10_stone_24 : decode cX10_stone 24 = .ok (.iload_n 2, 1) := dc_at (f := decode cX10_stone) dAX10_stone_q0 12 rfl
theorem dX10_stone_25 : decode cX10_stone 25 = .ok (.if_icmp .ge 14, 3) := dc_at (f := decode cX10_stone) dAX10_stone_q0 13 rfl
theorem dX10_stone_28 : decode cX10_stone 28 = .ok (.aload_n 0, 1) := dc_at (f := decode cX10_stone) dAX10_stone_q0 14 rfl
theorem dX10_stone_29 : decode cX10_stone 29 = .ok (.getfield 33, 3) := dc_at (f := decode cX10_stone) dAX10_stone_q0 15 rfl
theorem dX10_stone_32 : decode cX10_stone 32 = .ok (.iload_n 1, 1) := dc_at (f := decode cX10_stone) dAX10_stone_q0 16 rfl
theorem dX10_stone_33 : decode cX10_stone 33 = .ok (.invokevirtual 261, 3) := dc_at (f := decode cX10_stone) dAX10_stone_q0 17 rfl
theorem dX10_stone_36 : decode cX10_stone 36 = .ok (.goto 4, 3) := dc_at (f := decode cX10_stone) dAX10_stone_q0 18 rfl
theorem dX10_stone_39 : decode cX10_stone 39 = .ok (.iconst (-1), 1) := dc_at (f := decode cX10_stone) dAX10_stone_q0 19 rfl
theorem dX10_stone_40 : decode cX10_stone 40 = .ok (.ireturn, 1) := dc_at (f := decode cX10_stone) dAX10_stone_q0 20 rfl
def dPX10_stop_q0 : List (Nat × (Jvm.ClassFile.Instr × Nat)) := [(0, (.aload_n 0, 1)), (1, (.getfield 106, 3)), (4, (.ifCond .eq 6, 3)), (7, (.bipush (-4), 2)), (9, (.ireturn, 1)), (10, (.aload_n 0, 1)), (11, (.iconst 1, 1)), (12, (.putfield 106, 3)), (15, (.aload_n 0, 1)), (16, (.getfield 33, 3)), (19, (.aload_n 0, 1)), (20, (.getfield 54, 3)), (23, (.invokevirtual 264, 3)), (26, (.aload_n 0, 1)), (27, (.getfield 47, 3)), (30, (.aload_n 0, 1)), (31, (.getfield 26, 3)), (34, (.invokevirtual 268, 3)), (37, (.invokevirtual 271, 3)), (40, (.istore_n 1, 1)), (41, (.aload_n 0, 1)), (42, (.getfield 54, 3)), (45, (.iload_n 1, 1)), (46, (.invokevirtual 275, 3)), (49, (.iload_n 1, 1)), (50, (.ireturn, 1))]
theorem dAX10_stop_q0 : ∀ x ∈ dPX10_stop_q0, decode cX10_stop x.1 = .ok x.2 := by decide +kernel
theorem dX10_stop_0 : decode cX10_stop 0 = .ok (.aload_n 0, 1) := dc_at (f := decode cX10_stop) dAX10_stop_q0 0 rfl
theorem dX10_stop_1 : decode cX10_stop 1 = .ok (.getfield 106, 3) := dc_at (f := decode cX10_stop) dAX10_stop_q0 1 rfl
theorem dX10_stop_4 : decode cX10_stop 4 = .ok (.ifCond .eq 6, 3) := dc_at (f := decode cX10_stop) dAX10_stop_q0 2 rfl
theorem dX10_stop_7 : decode cX10_stop 7 = .ok (.bipush (-4), 2) := dc_at (f := decode cX10_stop) dAX10_stop_q0 3 rfl
theorem dX10_stop_9 : decode cX10_stop 9 = .ok (.ireturn, 1) := dc_at (f := decode cX10_stop) dAX10_stop_q0 4 rfl
theorem dX10_stop_10 : decode cX10_stop 10 = .ok (.aload_n 0, 1) := dc_at (f := decode cX10_stop) dAX10_stop_q0 5 rfl
theorem dX10_stop_11 : decode cX10_stop 11 = .ok (.iconst 1, 1) := dc_at (f := decode cX10_stop) dAX10_stop_q0 6 rfl
theorem dX10_stop_12 : decode cX10_stop 12 = .ok (.putfield 106, 3) := dc_at (f := decode cX10_stop) dAX10_stop_q0 7 rfl
theorem dX10_stop_15 : decode cX10_stop 15 = .ok (.aload_n 0, 1) := dc_at (f := decode cX10_stop) dAX10_stop_q0 8 rfl
theorem dX10_stop_16 : decode cX10_stop 16 = .ok (.getfield 33, 3) := dc_at (f := decode cX10_stop) dAX10_stop_q0 9 rfl
theorem dX10_stop_19 : decode cX10_stop 19 = .ok (.aload_n 0, 1) := dc_at (f := decode cX10_stop) dAX10_stop_q0 10 rfl
theorem dX10_stop_20 : decode cX10_stop 20 = .ok (.getfield 54, 3) := dc_at (f := decode cX10_stop) dAX10_stop_q0 11 rfl
theorem dX10_stop_23 : decode cX10_stop 23 = .ok (.invokevirtual 264, 3) := dc_at (f := decode cX10_stop) dAX10_stop_q0 12 rfl
theorem dX10_stop_26 : decode cX10_stop 26 = .ok (.aload_n 0, 1) := dc_at (f := decode cX10_stop) dAX10_stop_q0 13 rfl
theorem dX10_stop_27 : decode cX10_stop 27 = .ok (.getfield 47, 3) := dc_at (f := decode cX10_stop) dAX10_stop_q0 14 rfl
theorem dX10_stop_30 : decode cX10_stop 30 = .ok (.aload_n 0, 1) := dc_at (f := decode cX10_stop) dAX10_stop_q0 15 rfl
theorem dX10_stop_31 : decode cX10_stop 31 = .ok (.getfield 26, 3) := dc_at (f := decode cX10_stop) dAX10_stop_q0 16 rfl
theorem dX10_stop_34 : decode cX10_stop 34 = .ok (.invokevirtual 268, 3) := dc_at (f := decode cX10_stop) dAX10_stop_q0 17 rfl
theorem dX10_stop_37 : decode cX10_stop 37 = .ok (.invokevirtual 271, 3) := dc_at (f := decode cX10_stop) dAX10_stop_q0 18 rfl
theorem dX10_stop_40 : decode cX10_stop 40 = .ok (.istore_n 1, 1) := dc_at (f := decode cX10_stop) dAX10_stop_q0 19 rfl
theorem dX10_stop_41 : decode cX10_stop 41 = .ok (.aload_n 0, 1) := dc_at (f := decode cX10_stop) dAX10_stop_q0 20 rfl
theorem dX10_stop_42 : decode cX10_stop 42 = .ok (.getfield 54, 3) := dc_at (f := decode cX10_stop) dAX10_stop_q0 21 rfl
theorem dX10_stop_45 : decode cX10_stop 45 = .ok (.iload_n 1, 1) := dc_at (f := decode cX10_stop) dAX10_stop_q0 22 rfl
theorem dX10_stop_46 : decode cX10_stop 46 = .ok (.invokevirtual 275, 3) := dc_at (f := decode cX10_stop) dAX10_stop_q0 23 rfl
theorem dX10_stop_49 : decode cX10_stop 49 = .ok (.iload_n 1, 1) := dc_at (f := decode cX10_stop) dAX10_stop_q0 24 rfl
theorem dX10_stop_50 : decode cX10_stop 50 = .ok (.ireturn, 1) := dc_at (f := decode cX10_stop) dAX10_stop_q0 25 rfl
def dPX10_back_q0 : List (Nat × (Jvm.ClassFile.Instr × Nat)) := [(0, (.iload_n 1, 1)), (1, (.invokestatic 102, 3)), (4, (.ifCond .eq 14, 3)), (7, (.aload_n 0, 1)), (8, (.getfield 33, 3)), (11, (.iload_n 1, 1)), (12, (.invokevirtual 278, 3)), (15, (.goto 5, 3)), (18, (.bipush (-2), 2)), (20, (.ireturn, 1))]
theorem dAX10_back_q0 : ∀ x ∈ dPX10_back_q0, decode cX10_back x.1 = .ok x.2 := by decide +kernel
theorem dX10_back_0 : decode cX10_back 0 = .ok (.iload_n 1, 1) := dc_at (f := decode cX10_back) dAX10_back_q0 0 rfl
theorem dX10_back_1 : decode cX10_back 1 = .ok (.invokestatic 102, 3) := dc_at (f := decode cX10_back) dAX10_back_q0 1 rfl
theorem dX10_back_4 : decode cX10_back 4 = .ok (.ifCond .eq 14, 3) := dc_at (f := decode cX10_back) dAX10_back_q0 2 rfl
theorem dX10_back_7 : decode cX10_back 7 = .ok (.aload_n 0, 1) := dc_at (f := decode cX10_back) dAX10_back_q0 3 rfl
theorem dX10_back_8 : decode cX10_back 8 = .ok (.getfield 33, 3) := dc_at (f := decode cX10_back) dAX10_back_q0 4 rfl
theorem dX10_back_11 : decode cX10_back 11 = .ok (.iload_n 1, 1) := dc_at (f := decode cX10_back) dAX10_back_q0 5 rfl
theorem dX10_back_12 : decode cX10_back 12 = .ok (.invokevirtual 278, 3) := dc_at (f := decode cX10_back) dAX10_back_q0 6 rfl
theorem dX10_back_15 : decode cX10_back 15 = .ok (.goto 5, 3) := dc_at (f := decode cX10_back) dAX10_back_q0 7 rfl
theorem dX10_back_18 : decode cX10_back 18 = .ok (.bipush (-2), 2) := dc_at (f := decode cX10_back) dAX10_back_q0 8 rfl
theorem dX10_back_20 : decode cX10_back 20 = .ok (.ireturn, 1) := dc_at (f := decode cX10_back) dAX10_back_q0 9 rfl
def dPX10_count_q0 : List (Nat × (Jvm.ClassFile.Instr × Nat)) := [(0, (.iload_n 1, 1)), (1, (.tableswitch 215 0 14 #[75, 80, 89, 98, 107, 116, 125, 134, 143, 151, 159, 167, 175, 188, 196], 75)), (76, (.aload_n 0, 1)), (77, (.getfield 123, 3)), (80, (.ireturn, 1)), (81, (.aload_n 0, 1)), (82, (.getfield 54, 3)), (85, (.invokevirtual 264, 3)), (88, (.l2i, 1)), (89, (.ireturn, 1)), (90, (.aload_n 0, 1)), (91, (.getfield 54, 3)), (94, (.invokevirtual 281, 3)), (97, (.l2i, 1)), (98, (.ireturn, 1)), (99, (.aload_n 0, 1)), (100, (.getfield 47, 3)), (103, (.invokevirtual 284, 3)), (106, (.l2i, 1)), (107, (.ireturn, 1)), (108, (.aload_n 0, 1)), (109, (.getfield 54, 3)), (112, (.invokevirtual 287, 3)), (115, (.l2i, 1)), (116, (.ireturn, 1)), (117, (.aload_n 0, 1)), (118, (.getfield 54, 3)), (121, (.invokevirtual 290, 3)), (124, (.l2i, 1)), (125, (.ireturn, 1)), (126, (.aload_n 0, 1)), (127, (.getfield 54, 3)), (130, (.invokevirtual 293, 3)), (133, (.l2i, 1)), (134, (.ireturn, 1)), (135, (.aload_n 0, 1)), (136, (.getfield 54, 3)), (139, (.invokevirtual 296, 3)), (142, (.l2i, 1)), (143, (.ireturn, 1)), (144, (.aload_n 0, 1)), (145, (.getfield 40, 3)), (148, (.invokevirtual 299, 3)), (151, (.ireturn, 1)), (152, (.aload_n 0, 1)), (153, (.getfield 40, 3)), (156, (.invokevirtual 302, 3)), (159, (.ireturn, 1))]
theorem dAX10_count_q0 : ∀ x ∈ dPX10_count_q0, decode cX10_count x.1 = .ok x.2 := by decide +kernel
theorem dX10_count_0 : decode cX10_count 0 = .ok (.iload_n 1, 1) := dc_at (f := decode cX10_count) dAX10_count_q0 0 rfl
theorem dX10_count_1 : decode cX10_count 1 = .ok (.tableswitch 215 0 14 #[75, 80, 89, 98, 107, 116, 125, 134, 143, 151, 159, 167, 175, 188, 196], 75) := dc_at (f := decode cX10_count) dAX10_count_q0 1 rfl
theorem dX10_count_76 : decode cX10_count 76 = .ok (.aload_n 0, 1) := dc_at (f := decode cX10_count) dAX10_count_q0 2 rfl
theorem dX10_count_77 : decode cX10_count 77 = .ok (.getfield 123, 3) := dc_at (f := decode cX10_count) dAX10_count_q0 3 rfl
theorem dX10_count_80 : decode cX10_count 80 = .ok (.ireturn, 1) := dc_at (f := decode cX10_count) dAX10_count_q0 4 rfl
theorem dX10_count_81 : decode cX10_count 81 = .ok (.aload_n 0, 1) := dc_at (f := decode cX10_count) dAX10_count_q0 5 rfl
theorem dX10_count_82 : decode cX10_count 82 = .ok (.getfield 54, 3) := dc_at (f := decode cX10_count) dAX10_count_q0 6 rfl
theorem dX10_count_85 : decode cX10_count 85 = .ok (.invokevirtual 264, 3) := dc_at (f := decode cX10_count) dAX10_count_q0 7 rfl
theorem dX10_count_88 : decode cX10_count 88 = .ok (.l2i, 1) := dc_at (f := decode cX10_count) dAX10_count_q0 8 rfl
theorem dX10_count_89 : decode cX10_count 89 = .ok (.ireturn, 1) := dc_at (f := decode cX10_count) dAX10_count_q0 9 rfl
theorem dX10_count_90 : decode cX10_count 90 = .ok (.aload_n 0, 1) := dc_at (f := decode cX10_count) dAX10_count_q0 10 rfl
theorem dX10_count_91 : decode cX10_count 91 = .ok (.getfield 54, 3) := dc_at (f := decode cX10_count) dAX10_count_q0 11 rfl
theorem dX10_count_94 : decode cX10_count 94 = .ok (.invokevirtual 281, 3) := dc_at (f := decode cX10_count) dAX10_count_q0 12 rfl
theorem dX10_count_97 : decode cX10_count 97 = .ok (.l2i, 1) := dc_at (f := decode cX10_count) dAX10_count_q0 13 rfl
theorem dX10_count_98 : decode cX10_count 98 = .ok (.ireturn, 1) := dc_at (f := decode cX10_count) dAX10_count_q0 14 rfl
theorem dX10_count_99 : decode cX10_count 99 = .ok (.aload_n 0, 1) := dc_at (f := decode cX10_count) dAX10_count_q0 15 rfl
theorem dX10_count_100 : decode cX10_count 100 = .ok (.getfield 47, 3) := dc_at (f := decode cX10_count) dAX10_count_q0 16 rfl
theorem dX10_count_103 : decode cX10_count 103 = .ok (.invokevirtual 284, 3) := dc_at (f := decode cX10_count) dAX10_count_q0 17 rfl
theorem dX10_count_106 : decode cX10_count 106 = .ok (.l2i, 1) := dc_at (f := decode cX10_count) dAX10_count_q0 18 rfl
theorem dX10_count_107 : decode cX10_count 107 = .ok (.ireturn, 1) := dc_at (f := decode cX10_count) dAX10_count_q0 19 rfl
theorem dX10_count_108 : decode cX10_count 108 = .ok (.aload_n 0, 1) := dc_at (f := decode cX10_count) dAX10_count_q0 20 rfl
theorem dX10_count_109 : decode cX10_count 109 = .ok (.getfield 54, 3) := dc_at (f := decode cX10_count) dAX10_count_q0 21 rfl
theorem dX10_count_112 : decode cX10_count 112 = .ok (.invokevirtual 287, 3) := dc_at (f := decode cX10_count) dAX10_count_q0 22 rfl
theorem dX10_count_115 : decode cX10_count 115 = .ok (.l2i, 1) := dc_at (f := decode cX10_count) dAX10_count_q0 23 rfl
theorem dX10_count_116 : decode cX10_count 116 = .ok (.ireturn, 1) := dc_at (f := decode cX10_count) dAX10_count_q0 24 rfl
theorem dX10_count_117 : decode cX10_count 117 = .ok (.aload_n 0, 1) := dc_at (f := decode cX10_count) dAX10_count_q0 25 rfl
theorem dX10_count_118 : decode cX10_count 118 = .ok (.getfield 54, 3) := dc_at (f := decode cX10_count) dAX10_count_q0 26 rfl
theorem dX10_count_121 : decode cX10_count 121 = .ok (.invokevirtual 290, 3) := dc_at (f := decode cX10_count) dAX10_count_q0 27 rfl
theorem dX10_count_124 : decode cX10_count 124 = .ok (.l2i, 1) := dc_at (f := decode cX10_count) dAX10_count_q0 28 rfl
theorem dX10_count_125 : decode cX10_count 125 = .ok (.ireturn, 1) := dc_at (f := decode cX10_count) dAX10_count_q0 29 rfl
theorem dX10_count_126 : decode cX10_count 126 = .ok (.aload_n 0, 1) := dc_at (f := decode cX10_count) dAX10_count_q0 30 rfl
theorem dX10_count_127 : decode cX10_count 127 = .ok (.getfield 54, 3) := dc_at (f := decode cX10_count) dAX10_count_q0 31 rfl
theorem dX10_count_130 : decode cX10_count 130 = .ok (.invokevirtual 293, 3) := dc_at (f := decode cX10_count) dAX10_count_q0 32 rfl
theorem dX10_count_133 : decode cX10_count 133 = .ok (.l2i, 1) := dc_at (f := decode cX10_count) dAX10_count_q0 33 rfl
theorem dX10_count_134 : decode cX10_count 134 = .ok (.ireturn, 1) := dc_at (f := decode cX10_count) dAX10_count_q0 34 rfl
theorem dX10_count_135 : decode cX10_count 135 = .ok (.aload_n 0, 1) := dc_at (f := decode cX10_count) dAX10_count_q0 35 rfl
theorem dX10_count_136 : decode cX10_count 136 = .ok (.getfield 54, 3) := dc_at (f := decode cX10_count) dAX10_count_q0 36 rfl
theorem dX10_count_139 : decode cX10_count 139 = .ok (.invokevirtual 296, 3) := dc_at (f := decode cX10_count) dAX10_count_q0 37 rfl
theorem dX10_count_142 : decode cX10_count 142 = .ok (.l2i, 1) := dc_at (f := decode cX10_count) dAX10_count_q0 38 rfl
theorem dX10_count_143 : decode cX10_count 143 = .ok (.ireturn, 1) := dc_at (f := decode cX10_count) dAX10_count_q0 39 rfl
theorem dX10_count_144 : decode cX10_count 144 = .ok (.aload_n 0, 1) := dc_at (f := decode cX10_count) dAX10_count_q0 40 rfl
theorem dX10_count_145 : decode cX10_count 145 = .ok (.getfield 40, 3) := dc_at (f := decode cX10_count) dAX10_count_q0 41 rfl
theorem dX10_count_148 : decode cX10_count 148 = .ok (.invokevirtual 299, 3) := dc_at (f := decode cX10_count) dAX10_count_q0 42 rfl
theorem dX10_count_151 : decode cX10_count 151 = .ok (.ireturn, 1) := dc_at (f := decode cX10_count) dAX10_count_q0 43 rfl
theorem dX10_count_152 : decode cX10_count 152 = .ok (.aload_n 0, 1) := dc_at (f := decode cX10_count) dAX10_count_q0 44 rfl
theorem dX10_count_153 : decode cX10_count 153 = .ok (.getfield 40, 3) := dc_at (f := decode cX10_count) dAX10_count_q0 45 rfl
theorem dX10_count_156 : decode cX10_count 156 = .ok (.invokevirtual 302, 3) := dc_at (f := decode cX10_count) dAX10_count_q0 46 rfl
theorem dX10_count_159 : decode cX10_count 159 = .ok (.ireturn, 1) := dc_at (f := decode cX10_count) dAX10_count_q0 47 rfl
def dPX10_count_q1 : List (Nat × (Jvm.ClassFile.Instr × Nat)) := [(160, (.aload_n 0, 1)), (161, (.getfield 61, 3)), (164, (.invokevirtual 305, 3)), (167, (.ireturn, 1)), (168, (.aload_n 0, 1)), (169, (.getfield 47, 3)), (172, (.invokevirtual 306, 3)), (175, (.ireturn, 1)), (176, (.aload_n 0, 1)), (177, (.getfield 106, 3)), (180, (.ifCond .eq 7, 3)), (183, (.iconst 1, 1)), (184, (.goto 4, 3)), (187, (.iconst 0, 1)), (188, (.ireturn, 1)), (189, (.aload_n 0, 1)), (190, (.getfield 10, 3)), (193, (.invokevirtual 73, 3)), (196, (.ireturn, 1)), (197, (.aload_n 0, 1)), (198, (.getfield 33, 3)), (201, (.aload_n 0, 1)), (202, (.getfield 47, 3)), (205, (.aload_n 0, 1)), (206, (.getfield 26, 3)), (209, (.invokevirtual 254, 3)), (212, (.invokevirtual 257, 3)), (215, (.ireturn, 1)), (216, (.iconst (-1), 1)), (217, (.ireturn, 1))]
theorem dAX10_count_q1 : ∀ x ∈ dPX10_count_q1, decode cX10_count x.1 = .ok x.2 := by decide +kernel
theorem dX10_count_160 : decode cX10_count 160 = .ok (.aload_n 0, 1) := dc_at (f := decode cX10_count) dAX10_count_q1 0 rfl
theorem dX10_count_161 : decode cX10_count 161 = .ok (.getfield 61, 3) := dc_at (f := decode cX10_count) dAX10_count_q1 1 rfl
theorem dX10_count_164 : decode cX10_count 164 = .ok (.invokevirtual 305, 3) := dc_at (f := decode cX10_count) dAX10_count_q1 2 rfl
theorem dX10_count_167 : decode cX10_count 167 = .ok (.ireturn, 1) := dc_at (f := decode cX10_count) dAX10_count_q1 3 rfl
theorem dX10_count_168 : decode cX10_count 168 = .ok (.aload_n 0, 1) := dc_at (f := decode cX10_count) dAX10_count_q1 4 rfl
theorem dX10_count_169 : decode cX10_count 169 = .ok (.getfield 47, 3) := dc_at (f := decode cX10_count) dAX10_count_q1 5 rfl
theorem dX10_count_172 : decode cX10_count 172 = .ok (.invokevirtual 306, 3) := dc_at (f := decode cX10_count) dAX10_count_q1 6 rfl
theorem dX10_count_175 : decode cX10_count 175 = .ok (.ireturn, 1) := dc_at (f := decode cX10_count) dAX10_count_q1 7 rfl
theorem dX10_count_176 : decode cX10_count 176 = .ok (.aload_n 0, 1) := dc_at (f := decode cX10_count) dAX10_count_q1 8 rfl
theorem dX10_count_177 : decode cX10_count 177 = .ok (.getfield 106, 3) := dc_at (f := decode cX10_count) dAX10_count_q1 9 rfl
theorem dX10_count_180 : decode cX10_count 180 = .ok (.ifCond .eq 7, 3) := dc_at (f := decode cX10_count) dAX10_count_q1 10 rfl
theorem dX10_count_183 : decode cX10_count 183 = .ok (.iconst 1, 1) := dc_at (f := decode cX10_count) dAX10_count_q1 11 rfl
theorem dX10_count_184 : decode cX10_count 184 = .ok (.goto 4, 3) := dc_at (f := decode cX10_count) dAX10_count_q1 12 rfl
theorem dX10_count_187 : decode cX10_count 187 = .ok (.iconst 0, 1) := dc_at (f := decode cX10_count) dAX10_count_q1 13 rfl
theorem dX10_count_188 : decode cX10_count 188 = .ok (.ireturn, 1) := dc_at (f := decode cX10_count) dAX10_count_q1 14 rfl
theorem dX10_count_189 : decode cX10_count 189 = .ok (.aload_n 0, 1) := dc_at (f := decode cX10_count) dAX10_count_q1 15 rfl
theorem dX10_count_190 : decode cX10_count 190 = .ok (.getfield 10, 3) := dc_at (f := decode cX10_count) dAX10_count_q1 16 rfl
theorem dX10_count_193 : decode cX10_count 193 = .ok (.invokevirtual 73, 3) := dc_at (f := decode cX10_count) dAX10_count_q1 17 rfl
theorem dX10_count_196 : decode cX10_count 196 = .ok (.ireturn, 1) := dc_at (f := decode cX10_count) dAX10_count_q1 18 rfl
theorem dX10_count_197 : decode cX10_count 197 = .ok (.aload_n 0, 1) := dc_at (f := decode cX10_count) dAX10_count_q1 19 rfl
theorem dX10_count_198 : decode cX10_count 198 = .ok (.getfield 33, 3) := dc_at (f := decode cX10_count) dAX10_count_q1 20 rfl
theorem dX10_count_201 : decode cX10_count 201 = .ok (.aload_n 0, 1) := dc_at (f := decode cX10_count) dAX10_count_q1 21 rfl
theorem dX10_count_202 : decode cX10_count 202 = .ok (.getfield 47, 3) := dc_at (f := decode cX10_count) dAX10_count_q1 22 rfl
theorem dX10_count_205 : decode cX10_count 205 = .ok (.aload_n 0, 1) := dc_at (f := decode cX10_count) dAX10_count_q1 23 rfl
theorem dX10_count_206 : decode cX10_count 206 = .ok (.getfield 26, 3) := dc_at (f := decode cX10_count) dAX10_count_q1 24 rfl
theorem dX10_count_209 : decode cX10_count 209 = .ok (.invokevirtual 254, 3) := dc_at (f := decode cX10_count) dAX10_count_q1 25 rfl
theorem dX10_count_212 : decode cX10_count 212 = .ok (.invokevirtual 257, 3) := dc_at (f := decode cX10_count) dAX10_count_q1 26 rfl
theorem dX10_count_215 : decode cX10_count 215 = .ok (.ireturn, 1) := dc_at (f := decode cX10_count) dAX10_count_q1 27 rfl
theorem dX10_count_216 : decode cX10_count 216 = .ok (.iconst (-1), 1) := dc_at (f := decode cX10_count) dAX10_count_q1 28 rfl
theorem dX10_count_217 : decode cX10_count 217 = .ok (.ireturn, 1) := dc_at (f := decode cX10_count) dAX10_count_q1 29 rfl
def dPX10_isGiver_q0 : List (Nat × (Jvm.ClassFile.Instr × Nat)) := [(0, (.iload_n 0, 1)), (1, (.ifCond .lt 13, 3)), (4, (.iload_n 0, 1)), (5, (.bipush 30, 2)), (7, (.if_icmp .ge 7, 3)), (10, (.iconst 1, 1)), (11, (.goto 4, 3)), (14, (.iconst 0, 1)), (15, (.ireturn, 1))]
theorem dAX10_isGiver_q0 : ∀ x ∈ dPX10_isGiver_q0, decode cX10_isGiver x.1 = .ok x.2 := by decide +kernel
theorem dX10_isGiver_0 : decode cX10_isGiver 0 = .ok (.iload_n 0, 1) := dc_at (f := decode cX10_isGiver) dAX10_isGiver_q0 0 rfl
theorem dX10_isGiver_1 : decode cX10_isGiver 1 = .ok (.ifCond .lt 13, 3) := dc_at (f := decode cX10_isGiver) dAX10_isGiver_q0 1 rfl
theorem dX10_isGiver_4 : decode cX10_isGiver 4 = .ok (.iload_n 0, 1) := dc_at (f := decode cX10_isGiver) dAX10_isGiver_q0 2 rfl
theorem dX10_isGiver_5 : decode cX10_isGiver 5 = .ok (.bipush 30, 2) := dc_at (f := decode cX10_isGiver) dAX10_isGiver_q0 3 rfl
theorem dX10_isGiver_7 : decode cX10_isGiver 7 = .ok (.if_icmp .ge 7, 3) := dc_at (f := decode cX10_isGiver) dAX10_isGiver_q0 4 rfl
theorem dX10_isGiver_10 : decode cX10_isGiver 10 = .ok (.iconst 1, 1) := dc_at (f := decode cX10_isGiver) dAX10_isGiver_q0 5 rfl
theorem dX10_isGiver_11 : decode cX10_isGiver 11 = .ok (.goto 4, 3) := dc_at (f := decode cX10_isGiver) dAX10_isGiver_q0 6 rfl
theorem dX10_isGiver_14 : decode cX10_isGiver 14 = .ok (.iconst 0, 1) := dc_at (f := decode cX10_isGiver) dAX10_isGiver_q0 7 rfl
theorem dX10_isGiver_15 : decode cX10_isGiver 15 = .ok (.ireturn, 1) := dc_at (f := decode cX10_isGiver) dAX10_isGiver_q0 8 rfl
def dPX10_isSum_q0 : List (Nat × (Jvm.ClassFile.Instr × Nat)) := [(0, (.iload_n 0, 1)), (1, (.iconst 1, 1)), (2, (.ldc_w 307, 3)), (5, (.invokestatic 119, 3)), (8, (.ireturn, 1))]
theorem dAX10_isSum_q0 : ∀ x ∈ dPX10_isSum_q0, decode cX10_isSum x.1 = .ok x.2 := by decide +kernel
theorem dX10_isSum_0 : decode cX10_isSum 0 = .ok (.iload_n 0, 1) := dc_at (f := decode cX10_isSum) dAX10_isSum_q0 0 rfl
theorem dX10_isSum_1 : decode cX10_isSum 1 = .ok (.iconst 1, 1) := dc_at (f := decode cX10_isSum) dAX10_isSum_q0 1 rfl
theorem dX10_isSum_2 : decode cX10_isSum 2 = .ok (.ldc_w 307, 3) := dc_at (f := decode cX10_isSum) dAX10_isSum_q0 2 rfl
theorem dX10_isSum_5 : decode cX10_isSum 5 = .ok (.invokestatic 119, 3) := dc_at (f := decode cX10_isSum) dAX10_isSum_q0 3 rfl
theorem dX10_isSum_8 : decode cX10_isSum 8 = .ok (.ireturn, 1) := dc_at (f := decode cX10_isSum) dAX10_isSum_q0 4 rfl
def dPX10_isWithin_q0 : List (Nat × (Jvm.ClassFile.Instr × Nat)) := [(0, (.iload_n 0, 1)), (1, (.iload_n 1, 1)), (2, (.if_icmp .lt 12, 3)), (5, (.iload_n 0, 1)), (6, (.iload_n 2, 1)), (7, (.if_icmp .gt 7, 3)), (10, (.iconst 1, 1)), (11, (.goto 4, 3)), (14, (.iconst 0, 1)), (15, (.ireturn, 1))]
theorem dAX10_isWithin_q0 : ∀ x ∈ dPX10_isWithin_q0, decode cX10_isWithin x.1 = .ok x.2 := by decide +kernel
theorem dX10_isWithin_0 : decode cX10_isWithin 0 = .ok (.iload_n 0, 1) := dc_at (f := decode cX10_isWithin) dAX10_isWithin_q0 0 rfl
theorem dX10_isWithin_1 : decode cX10_isWithin 1 = .ok (.iload_n 1, 1) := dc_at (f := decode cX10_isWithin) dAX10_isWithin_q0 1 rfl
theorem dX10_isWithin_2 : decode cX10_isWithin 2 = .ok (.if_icmp .lt 12, 3) := dc_at (f := decode cX10_isWithin) dAX10_isWithin_q0 2 rfl
theorem dX10_isWithin_5 : decode cX10_isWithin 5 = .ok (.iload_n 0, 1) := dc_at (f := decode cX10_isWithin) dAX10_isWithin_q0 3 rfl
theorem dX10_isWithin_6 : decode cX10_isWithin 6 = .ok (.iload_n 2, 1) := dc_at (f := decode cX10_isWithin) dAX10_isWithin_q0 4 rfl
theorem dX10_isWithin_7 : decode cX10_isWithin 7 = .ok (.if_icmp .gt 7, 3) := dc_at (f := decode cX10_isWithin) dAX10_isWithin_q0 5 rfl
theorem dX10_isWithin_10 : decode cX10_isWithin 10 = .ok (.iconst 1, 1) := dc_at (f := decode cX10_isWithin) dAX10_isWithin_q0 6 rfl
theorem dX10_isWithin_11 : decode cX10_isWithin 11 = .ok (.goto 4, 3) := dc_at (f := decode cX10_isWithin) dAX10_isWithin_q0 7 rfl
theorem dX10_isWithin_14 : decode cX10_isWithin 14 = .ok (.iconst 0, 1) := dc_at (f := decode cX10_isWithin) dAX10_isWithin_q0 8 rfl
theorem dX10_isWithin_15 : decode cX10_isWithin 15 = .ok (.ireturn, 1) := dc_at (f := decode cX10_isWithin) dAX10_isWithin_q0 9 rfl
def dPX10_receive_q0 : List (Nat × (Jvm.ClassFile.Instr × Nat)) := [(0, (.aload_n 0, 1)), (1, (.getfield 47, 3)), (4, (.iload_n 1, 1)), (5, (.iload_n 2, 1)), (6, (.aload_n 0, 1)), (7, (.getfield 123, 3)), (10, (.invokevirtual 308, 3)), (13, (.aload_n 0, 1)), (14, (.getfield 54, 3)), (17, (.iload_n 2, 1)), (18, (.aload_n 0, 1)), (19, (.getfield 123, 3)), (22, (.aload_n 0, 1)), (23, (.getfield 26, 3)), (26, (.invokevirtual 310, 3)), (29, (.ireturn, 1))]
theorem dAX10_receive_q0 : ∀ x ∈ dPX10_receive_q0, decode cX10_receive x.1 = .ok x.2 := by decide +kernel
theorem dX10_receive_0 : decode cX10_receive 0 = .ok (.aload_n 0, 1) := dc_at (f := decode cX10_receive) dAX10_receive_q0 0 rfl
theorem dX10_receive_1 : decode cX10_receive 1 = .ok (.getfield 47, 3) := dc_at (f := decode cX10_receive) dAX10_receive_q0 1 rfl
theorem dX10_receive_4 : decode cX10_receive 4 = .ok (.iload_n 1, 1) := dc_at (f := decode cX10_receive) dAX10_receive_q0 2 rfl
theorem dX10_receive_5 : decode cX10_receive 5 = .ok (.iload_n 2, 1) := dc_at (f := decode cX10_receive) dAX10_receive_q0 3 rfl
theorem dX10_receive_6 : decode cX10_receive 6 = .ok (.aload_n 0, 1) := dc_at (f := decode cX10_receive) dAX10_receive_q0 4 rfl
theorem dX10_receive_7 : decode cX10_receive 7 = .ok (.getfield 123, 3) := dc_at (f := decode cX10_receive) dAX10_receive_q0 5 rfl
theorem dX10_receive_10 : decode cX10_receive 10 = .ok (.invokevirtual 308, 3) := dc_at (f := decode cX10_receive) dAX10_receive_q0 6 rfl
theorem dX10_receive_13 : decode cX10_receive 13 = .ok (.aload_n 0, 1) := dc_at (f := decode cX10_receive) dAX10_receive_q0 7 rfl
theorem dX10_receive_14 : decode cX10_receive 14 = .ok (.getfield 54, 3) := dc_at (f := decode cX10_receive) dAX10_receive_q0 8 rfl
theorem dX10_receive_17 : decode cX10_receive 17 = .ok (.iload_n 2, 1) := dc_at (f := decode cX10_receive) dAX10_receive_q0 9 rfl
theorem dX10_receive_18 : decode cX10_receive 18 = .ok (.aload_n 0, 1) := dc_at (f := decode cX10_receive) dAX10_receive_q0 10 rfl
theorem dX10_receive_19 : decode cX10_receive 19 = .ok (.getfield 123, 3) := dc_at (f := decode cX10_receive) dAX10_receive_q0 11 rfl
theorem dX10_receive_22 : decode cX10_receive 22 = .ok (.aload_n 0, 1) := dc_at (f := decode cX10_receive) dAX10_receive_q0 12 rfl
theorem dX10_receive_23 : decode cX10_receive 23 = .ok (.getfield 26, 3) := dc_at (f := decode cX10_receive) dAX10_receive_q0 13 rfl
theorem dX10_receive_26 : decode cX10_receive 26 = .ok (.invokevirtual 310, 3) := dc_at (f := decode cX10_receive) dAX10_receive_q0 14 rfl
theorem dX10_receive_29 : decode cX10_receive 29 = .ok (.ireturn, 1) := dc_at (f := decode cX10_receive) dAX10_receive_q0 15 rfl
def dPX10_endMonth_q0 : List (Nat × (Jvm.ClassFile.Instr × Nat)) := [(0, (.aload_n 0, 1)), (1, (.getfield 40, 3)), (4, (.aload_n 0, 1)), (5, (.getfield 123, 3)), (8, (.aload_n 0, 1)), (9, (.getfield 26, 3)), (12, (.invokevirtual 314, 3)), (15, (.invokevirtual 317, 3)), (18, (.aload_n 0, 1)), (19, (.getfield 54, 3)), (22, (.aload_n 0, 1)), (23, (.getfield 26, 3)), (26, (.invokevirtual 320, 3)), (29, (.invokevirtual 323, 3)), (32, (.aload_n 0, 1)), (33, (.getfield 61, 3)), (36, (.aload_n 0, 1)), (37, (.getfield 54, 3)), (40, (.aload_n 0, 1)), (41, (.getfield 26, 3)), (44, (.invokevirtual 326, 3)), (47, (.invokevirtual 329, 3)), (50, (.aload_n 0, 1)), (51, (.getfield 54, 3)), (54, (.invokevirtual 333, 3)), (57, (.aload_n 0, 1)), (58, (.dup, 1)), (59, (.getfield 123, 3)), (62, (.iconst 1, 1)), (63, (.iadd, 1)), (64, (.putfield 123, 3)), (67, (.return_, 1))]
theorem dAX10_endMonth_q0 : ∀ x ∈ dPX10_endMonth_q0, decode cX10_endMonth x.1 = .ok x.2 := by decide +kernel
theorem dX10_endMonth_0 : decode cX10_endMonth 0 = .ok (.aload_n 0, 1) := dc_at (f := decode cX10_endMonth) dAX10_endMonth_q0 0 rfl
theorem dX10_endMonth_1 : decode cX10_endMonth 1 = .ok (.getfield 40, 3) := dc_at (f := decode cX10_endMonth) dAX10_endMonth_q0 1 rfl
theorem dX10_endMonth_4 : decode cX10_endMonth 4 = .ok (.aload_n 0, 1) := dc_at (f := decode cX10_endMonth) dAX10_endMonth_q0 2 rfl
theorem dX10_endMonth_5 : decode cX10_endMonth 5 = .ok (.getfield 123, 3) := dc_at (f := decode cX10_endMonth) dAX10_endMonth_q0 3 rfl
theorem dX10_endMonth_8 : decode cX10_endMonth 8 = .ok (.aload_n 0, 1) := dc_at (f := decode cX10_endMonth) dAX10_endMonth_q0 4 rfl
theorem dX10_endMonth_9 : decode cX10_endMonth 9 = .ok (.getfield 26, 3) := dc_at (f := decode cX10_endMonth) dAX10_endMonth_q0 5 rfl
theorem dX10_endMonth_12 : decode cX10_endMonth 12 = .ok (.invokevirtual 314, 3) := dc_at (f := decode cX10_endMonth) dAX10_endMonth_q0 6 rfl
theorem dX10_endMonth_15 : decode cX10_endMonth 15 = .ok (.invokevirtual 317, 3) := dc_at (f := decode cX10_endMonth) dAX10_endMonth_q0 7 rfl
theorem dX10_endMonth_18 : decode cX10_endMonth 18 = .ok (.aload_n 0, 1) := dc_at (f := decode cX10_endMonth) dAX10_endMonth_q0 8 rfl
theorem dX10_endMonth_19 : decode cX10_endMonth 19 = .ok (.getfield 54, 3) := dc_at (f := decode cX10_endMonth) dAX10_endMonth_q0 9 rfl
theorem dX10_endMonth_22 : decode cX10_endMonth 22 = .ok (.aload_n 0, 1) := dc_at (f := decode cX10_endMonth) dAX10_endMonth_q0 10 rfl
theorem dX10_endMonth_23 : decode cX10_endMonth 23 = .ok (.getfield 26, 3) := dc_at (f := decode cX10_endMonth) dAX10_endMonth_q0 11 rfl
theorem dX10_endMonth_26 : decode cX10_endMonth 26 = .ok (.invokevirtual 320, 3) := dc_at (f := decode cX10_endMonth) dAX10_endMonth_q0 12 rfl
theorem dX10_endMonth_29 : decode cX10_endMonth 29 = .ok (.invokevirtual 323, 3) := dc_at (f := decode cX10_endMonth) dAX10_endMonth_q0 13 rfl
theorem dX10_endMonth_32 : decode cX10_endMonth 32 = .ok (.aload_n 0, 1) := dc_at (f := decode cX10_endMonth) dAX10_endMonth_q0 14 rfl
theorem dX10_endMonth_33 : decode cX10_endMonth 33 = .ok (.getfield 61, 3) := dc_at (f := decode cX10_endMonth) dAX10_endMonth_q0 15 rfl
theorem dX10_endMonth_36 : decode cX10_endMonth 36 = .ok (.aload_n 0, 1) := dc_at (f := decode cX10_endMonth) dAX10_endMonth_q0 16 rfl
theorem dX10_endMonth_37 : decode cX10_endMonth 37 = .ok (.getfield 54, 3) := dc_at (f := decode cX10_endMonth) dAX10_endMonth_q0 17 rfl
theorem dX10_endMonth_40 : decode cX10_endMonth 40 = .ok (.aload_n 0, 1) := dc_at (f := decode cX10_endMonth) dAX10_endMonth_q0 18 rfl
theorem dX10_endMonth_41 : decode cX10_endMonth 41 = .ok (.getfield 26, 3) := dc_at (f := decode cX10_endMonth) dAX10_endMonth_q0 19 rfl
theorem dX10_endMonth_44 : decode cX10_endMonth 44 = .ok (.invokevirtual 326, 3) := dc_at (f := decode cX10_endMonth) dAX10_endMonth_q0 20 rfl
theorem dX10_endMonth_47 : decode cX10_endMonth 47 = .ok (.invokevirtual 329, 3) := dc_at (f := decode cX10_endMonth) dAX10_endMonth_q0 21 rfl
theorem dX10_endMonth_50 : decode cX10_endMonth 50 = .ok (.aload_n 0, 1) := dc_at (f := decode cX10_endMonth) dAX10_endMonth_q0 22 rfl
theorem dX10_endMonth_51 : decode cX10_endMonth 51 = .ok (.getfield 54, 3) := dc_at (f := decode cX10_endMonth) dAX10_endMonth_q0 23 rfl
theorem dX10_endMonth_54 : decode cX10_endMonth 54 = .ok (.invokevirtual 333, 3) := dc_at (f := decode cX10_endMonth) dAX10_endMonth_q0 24 rfl
theorem dX10_endMonth_57 : decode cX10_endMonth 57 = .ok (.aload_n 0, 1) := dc_at (f := decode cX10_endMonth) dAX10_endMonth_q0 25 rfl
theorem dX10_endMonth_58 : decode cX10_endMonth 58 = .ok (.dup, 1) := dc_at (f := decode cX10_endMonth) dAX10_endMonth_q0 26 rfl
theorem dX10_endMonth_59 : decode cX10_endMonth 59 = .ok (.getfield 123, 3) := dc_at (f := decode cX10_endMonth) dAX10_endMonth_q0 27 rfl
theorem dX10_endMonth_62 : decode cX10_endMonth 62 = .ok (.iconst 1, 1) := dc_at (f := decode cX10_endMonth) dAX10_endMonth_q0 28 rfl
theorem dX10_endMonth_63 : decode cX10_endMonth 63 = .ok (.iadd, 1) := dc_at (f := decode cX10_endMonth) dAX10_endMonth_q0 29 rfl
theorem dX10_endMonth_64 : decode cX10_endMonth 64 = .ok (.putfield 123, 3) := dc_at (f := decode cX10_endMonth) dAX10_endMonth_q0 30 rfl
theorem dX10_endMonth_67 : decode cX10_endMonth 67 = .ok (.return_, 1) := dc_at (f := decode cX10_endMonth) dAX10_endMonth_q0 31 rfl
def dPX11_init_q0 : List (Nat × (Jvm.ClassFile.Instr × Nat)) := [(0, (.aload_n 0, 1)), (1, (.aconst_null, 1)), (2, (.aconst_null, 1)), (3, (.iconst 0, 1)), (4, (.iconst 0, 1)), (5, (.invokespecial 1, 3)), (8, (.return_, 1))]
theorem dAX11_init_q0 : ∀ x ∈ dPX11_init_q0, decode cX11_init x.1 = .ok x.2 := by decide +kernel
theorem dX11_init_0 : decode cX11_init 0 = .ok (.aload_n 0, 1) := dc_at (f := decode cX11_init) dAX11_init_q0 0 rfl
theorem dX11_init_1 : decode cX11_init 1 = .ok (.aconst_null, 1) := dc_at (f := decode cX11_init) dAX11_init_q0 1 rfl
theorem dX11_init_2 : decode cX11_init 2 = .ok (.aconst_null, 1) := dc_at (f := decode cX11_init) dAX11_init_q0 2 rfl
theorem dX11_init_3 : decode cX11_init 3 = .ok (.iconst 0, 1) := dc_at (f := decode cX11_init) dAX11_init_q0 3 rfl
theorem dX11_init_4 : decode cX11_init 4 = .ok (.iconst 0, 1) := dc_at (f := decode cX11_init) dAX11_init_q0 4 rfl
theorem dX11_init_5 : decode cX11_init 5 = .ok (.invokespecial 1, 3) := dc_at (f := decode cX11_init) dAX11_init_q0 5 rfl
theorem dX11_init_8 : decode cX11_init 8 = .ok (.return_, 1) := dc_at (f := decode cX11_init) dAX11_init_q0 6 rfl
def dPX12_in_q0 : List (Nat × (Jvm.ClassFile.Instr × Nat)) := [(0, (.lload_n 0, 1)), (1, (.lload_n 2, 1)), (2, (.lcmp, 1)), (3, (.ifCond .lt 14, 3)), (6, (.lload_n 0, 1)), (7, (.lload 4, 2)), (9, (.lcmp, 1)), (10, (.ifCond .gt 7, 3)), (13, (.iconst 1, 1)), (14, (.goto 4, 3)), (17, (.iconst 0, 1)), (18, (.ireturn, 1))]
theorem dAX12_in_q0 : ∀ x ∈ dPX12_in_q0, decode cX12_in x.1 = .ok x.2 := by decide +kernel
theorem dX12_in_0 : decode cX12_in 0 = .ok (.lload_n 0, 1) := dc_at (f := decode cX12_in) dAX12_in_q0 0 rfl
theorem dX12_in_1 : decode cX12_in 1 = .ok (.lload_n 2, 1) := dc_at (f := decode cX12_in) dAX12_in_q0 1 rfl
theorem dX12_in_2 : decode cX12_in 2 = .ok (.lcmp, 1) := dc_at (f := decode cX12_in) dAX12_in_q0 2 rfl
theorem dX12_in_3 : decode cX12_in 3 = .ok (.ifCond .lt 14, 3) := dc_at (f := decode cX12_in) dAX12_in_q0 3 rfl
theorem dX12_in_6 : decode cX12_in 6 = .ok (.lload_n 0, 1) := dc_at (f := decode cX12_in) dAX12_in_q0 4 rfl
theorem dX12_in_7 : decode cX12_in 7 = .ok (.lload 4, 2) := dc_at (f := decode cX12_in) dAX12_in_q0 5 rfl
theorem dX12_in_9 : decode cX12_in 9 = .ok (.lcmp, 1) := dc_at (f := decode cX12_in) dAX12_in_q0 6 rfl
theorem dX12_in_10 : decode cX12_in 10 = .ok (.ifCond .gt 7, 3) := dc_at (f := decode cX12_in) dAX12_in_q0 7 rfl
theorem dX12_in_13 : decode cX12_in 13 = .ok (.iconst 1, 1) := dc_at (f := decode cX12_in) dAX12_in_q0 8 rfl
theorem dX12_in_14 : decode cX12_in 14 = .ok (.goto 4, 3) := dc_at (f := decode cX12_in) dAX12_in_q0 9 rfl
theorem dX12_in_17 : decode cX12_in 17 = .ok (.iconst 0, 1) := dc_at (f := decode cX12_in) dAX12_in_q0 10 rfl
theorem dX12_in_18 : decode cX12_in 18 = .ok (.ireturn, 1) := dc_at (f := decode cX12_in) dAX12_in_q0 11 rfl
def dPX12_wrong_q0 : List (Nat × (Jvm.ClassFile.Instr × Nat)) := [(0, (.aload_n 0, 1)), (1, (.iload_n 1, 1)), (2, (.putfield 1, 3)), (5, (.aload_n 0, 1)), (6, (.aload_n 0, 1)), (7, (.getfield 7, 3)), (10, (.putfield 10, 3)), (13, (.aload_n 0, 1)), (14, (.getfield 13, 3)), (17, (.areturn, 1))]
theorem dAX12_wrong_q0 : ∀ x ∈ dPX12_wrong_q0, decode cX12_wrong x.1 = .ok x.2 := by decide +kernel
theorem dX12_wrong_0 : decode cX12_wrong 0 = .ok (.aload_n 0, 1) := dc_at (f := decode cX12_wrong) dAX12_wrong_q0 0 rfl
theorem dX12_wrong_1 : decode cX12_wrong 1 = .ok (.iload_n 1, 1) := dc_at (f := decode cX12_wrong) dAX12_wrong_q0 1 rfl
theorem dX12_wrong_2 : decode cX12_wrong 2 = .ok (.putfield 1, 3) := dc_at (f := decode cX12_wrong) dAX12_wrong_q0 2 rfl
theorem dX12_wrong_5 : decode cX12_wrong 5 = .ok (.aload_n 0, 1) := dc_at (f := decode cX12_wrong) dAX12_wrong_q0 3 rfl
theorem dX12_wrong_6 : decode cX12_wrong 6 = .ok (.aload_n 0, 1) := dc_at (f := decode cX12_wrong) dAX12_wrong_q0 4 rfl
theorem dX12_wrong_7 : decode cX12_wrong 7 = .ok (.getfield 7, 3) := dc_at (f := decode cX12_wrong) dAX12_wrong_q0 5 rfl
theorem dX12_wrong_10 : decode cX12_wrong 10 = .ok (.putfield 10, 3) := dc_at (f := decode cX12_wrong) dAX12_wrong_q0 6 rfl
theorem dX12_wrong_13 : decode cX12_wrong 13 = .ok (.aload_n 0, 1) := dc_at (f := decode cX12_wrong) dAX12_wrong_q0 7 rfl
theorem dX12_wrong_14 : decode cX12_wrong 14 = .ok (.getfield 13, 3) := dc_at (f := decode cX12_wrong) dAX12_wrong_q0 8 rfl
theorem dX12_wrong_17 : decode cX12_wrong 17 = .ok (.areturn, 1) := dc_at (f := decode cX12_wrong) dAX12_wrong_q0 9 rfl
def dPX12_byteAt_q0 : List (Nat × (Jvm.ClassFile.Instr × Nat)) := [(0, (.iload_n 1, 1)), (1, (.aload_n 0, 1)), (2, (.getfield 17, 3)), (5, (.if_icmp .ge 16, 3)), (8, (.aload_n 0, 1)), (9, (.getfield 20, 3)), (12, (.iload_n 1, 1)), (13, (.baload, 1)), (14, (.sipush 255, 3)), (17, (.iand, 1)), (18, (.goto 4, 3)), (21, (.iconst 0, 1)), (22, (.ireturn, 1))]
theorem dAX12_byteAt_q0 : ∀ x ∈ dPX12_byteAt_q0, decode cX12_byteAt x.1 = .ok x.2 := by decide +kernel
theorem dX12_byteAt_0 : decode cX12_byteAt 0 = .ok (.iload_n 1, 1) := dc_at (f := decode cX12_byteAt) dAX12_byteAt_q0 0 rfl
theorem dX12_byteAt_1 : decode cX12_byteAt 1 = .ok (.aload_n 0, 1) := dc_at (f := decode cX12_byteAt) dAX12_byteAt_q0 1 rfl
theorem dX12_byteAt_2 : decode cX12_byteAt 2 = .ok (.getfield 17, 3) := dc_at (f := decode cX12_byteAt) dAX12_byteAt_q0 2 rfl
theorem dX12_byteAt_5 : decode cX12_byteAt 5 = .ok (.if_icmp .ge 16, 3) := dc_at (f := decode cX12_byteAt) dAX12_byteAt_q0 3 rfl
theorem dX12_byteAt_8 : decode cX12_byteAt 8 = .ok (.aload_n 0, 1) := dc_at (f := decode cX12_byteAt) dAX12_byteAt_q0 4 rfl
theorem dX12_byteAt_9 : decode cX12_byteAt 9 = .ok (.getfield 20, 3) := dc_at (f := decode cX12_byteAt) dAX12_byteAt_q0 5 rfl
theorem dX12_byteAt_12 : decode cX12_byteAt 12 = .ok (.iload_n 1, 1) := dc_at (f := decode cX12_byteAt) dAX12_byteAt_q0 6 rfl
theorem dX12_byteAt_13 : decode cX12_byteAt 13 = .ok (.baload, 1) := dc_at (f := decode cX12_byteAt) dAX12_byteAt_q0 7 rfl
theorem dX12_byteAt_14 : decode cX12_byteAt 14 = .ok (.sipush 255, 3) := dc_at (f := decode cX12_byteAt) dAX12_byteAt_q0 8 rfl
theorem dX12_byteAt_17 : decode cX12_byteAt 17 = .ok (.iand, 1) := dc_at (f := decode cX12_byteAt) dAX12_byteAt_q0 9 rfl
theorem dX12_byteAt_18 : decode cX12_byteAt 18 = .ok (.goto 4, 3) := dc_at (f := decode cX12_byteAt) dAX12_byteAt_q0 10 rfl
theorem dX12_byteAt_21 : decode cX12_byteAt 21 = .ok (.iconst 0, 1) := dc_at (f := decode cX12_byteAt) dAX12_byteAt_q0 11 rfl
theorem dX12_byteAt_22 : decode cX12_byteAt 22 = .ok (.ireturn, 1) := dc_at (f := decode cX12_byteAt) dAX12_byteAt_q0 12 rfl
def dPX12_isLetter_q0 : List (Nat × (Jvm.ClassFile.Instr × Nat)) := [(0, (.iload_n 0, 1)), (1, (.bipush 97, 2)), (3, (.if_icmp .lt 13, 3)), (6, (.iload_n 0, 1)), (7, (.bipush 122, 2)), (9, (.if_icmp .gt 7, 3)), (12, (.iconst 1, 1)), (13, (.goto 4, 3)), (16, (.iconst 0, 1)), (17, (.ireturn, 1))]
theorem dAX12_isLetter_q0 : ∀ x ∈ dPX12_isLetter_q0, decode cX12_isLetter x.1 = .ok x.2 := by decide +kernel
theorem dX12_isLetter_0 : decode cX12_isLetter 0 = .ok (.iload_n 0, 1) := dc_at (f := decode cX12_isLetter) dAX12_isLetter_q0 0 rfl
theorem dX12_isLetter_1 : decode cX12_isLetter 1 = .ok (.bipush 97, 2) := dc_at (f := decode cX12_isLetter) dAX12_isLetter_q0 1 rfl
theorem dX12_isLetter_3 : decode cX12_isLetter 3 = .ok (.if_icmp .lt 13, 3) := dc_at (f := decode cX12_isLetter) dAX12_isLetter_q0 2 rfl
theorem dX12_isLetter_6 : decode cX12_isLetter 6 = .ok (.iload_n 0, 1) := dc_at (f := decode cX12_isLetter) dAX12_isLetter_q0 3 rfl
theorem dX12_isLetter_7 : decode cX12_isLetter 7 = .ok (.bipush 122, 2) := dc_at (f := decode cX12_isLetter) dAX12_isLetter_q0 4 rfl
theorem dX12_isLetter_9 : decode cX12_isLetter 9 = .ok (.if_icmp .gt 7, 3) := dc_at (f := decode cX12_isLetter) dAX12_isLetter_q0 5 rfl
theorem dX12_isLetter_12 : decode cX12_isLetter 12 = .ok (.iconst 1, 1) := dc_at (f := decode cX12_isLetter) dAX12_isLetter_q0 6 rfl
theorem dX12_isLetter_13 : decode cX12_isLetter 13 = .ok (.goto 4, 3) := dc_at (f := decode cX12_isLetter) dAX12_isLetter_q0 7 rfl
theorem dX12_isLetter_16 : decode cX12_isLetter 16 = .ok (.iconst 0, 1) := dc_at (f := decode cX12_isLetter) dAX12_isLetter_q0 8 rfl
theorem dX12_isLetter_17 : decode cX12_isLetter 17 = .ok (.ireturn, 1) := dc_at (f := decode cX12_isLetter) dAX12_isLetter_q0 9 rfl
def dPX12_isDigit_q0 : List (Nat × (Jvm.ClassFile.Instr × Nat)) := [(0, (.iload_n 0, 1)), (1, (.bipush 48, 2)), (3, (.if_icmp .lt 13, 3)), (6, (.iload_n 0, 1)), (7, (.bipush 57, 2)), (9, (.if_icmp .gt 7, 3)), (12, (.iconst 1, 1)), (13, (.goto 4, 3)), (16, (.iconst 0, 1)), (17, (.ireturn, 1))]
theorem dAX12_isDigit_q0 : ∀ x ∈ dPX12_isDigit_q0, decode cX12_isDigit x.1 = .ok x.2 := by decide +kernel
theorem dX12_isDigit_0 : decode cX12_isDigit 0 = .ok (.iload_n 0, 1) := dc_at (f := decode cX12_isDigit) dAX12_isDigit_q0 0 rfl
theorem dX12_isDigit_1 : decode cX12_isDigit 1 = .ok (.bipush 48, 2) := dc_at (f := decode cX12_isDigit) dAX12_isDigit_q0 1 rfl
theorem dX12_isDigit_3 : decode cX12_isDigit 3 = .ok (.if_icmp .lt 13, 3) := dc_at (f := decode cX12_isDigit) dAX12_isDigit_q0 2 rfl
theorem dX12_isDigit_6 : decode cX12_isDigit 6 = .ok (.iload_n 0, 1) := dc_at (f := decode cX12_isDigit) dAX12_isDigit_q0 3 rfl
theorem dX12_isDigit_7 : decode cX12_isDigit 7 = .ok (.bipush 57, 2) := dc_at (f := decode cX12_isDigit) dAX12_isDigit_q0 4 rfl
theorem dX12_isDigit_9 : decode cX12_isDigit 9 = .ok (.if_icmp .gt 7, 3) := dc_at (f := decode cX12_isDigit) dAX12_isDigit_q0 5 rfl
theorem dX12_isDigit_12 : decode cX12_isDigit 12 = .ok (.iconst 1, 1) := dc_at (f := decode cX12_isDigit) dAX12_isDigit_q0 6 rfl
theorem dX12_isDigit_13 : decode cX12_isDigit 13 = .ok (.goto 4, 3) := dc_at (f := decode cX12_isDigit) dAX12_isDigit_q0 7 rfl
theorem dX12_isDigit_16 : decode cX12_isDigit 16 = .ok (.iconst 0, 1) := dc_at (f := decode cX12_isDigit) dAX12_isDigit_q0 8 rfl
theorem dX12_isDigit_17 : decode cX12_isDigit 17 = .ok (.ireturn, 1) := dc_at (f := decode cX12_isDigit) dAX12_isDigit_q0 9 rfl
def dPX12_scan_q0 : List (Nat × (Jvm.ClassFile.Instr × Nat)) := [(0, (.aload_n 0, 1)), (1, (.getfield 24, 3)), (4, (.aload_n 0, 1)), (5, (.getfield 17, 3)), (8, (.if_icmp .ge 44, 3)), (11, (.aload_n 0, 1)), (12, (.getfield 20, 3)), (15, (.aload_n 0, 1)), (16, (.getfield 24, 3)), (19, (.baload, 1)), (20, (.bipush 32, 2)), (22, (.if_icmp .eq 17, 3)), (25, (.aload_n 0, 1)), (26, (.getfield 20, 3)), (29, (.aload_n 0, 1)), (30, (.getfield 24, 3)), (33, (.baload, 1)), (34, (.bipush 10, 2)), (36, (.if_icmp .ne 16, 3)), (39, (.aload_n 0, 1)), (40, (.dup, 1)), (41, (.getfield 24, 3)), (44, (.iconst 1, 1)), (45, (.iadd, 1)), (46, (.putfield 24, 3)), (49, (.goto (-49), 3)), (52, (.aload_n 0, 1)), (53, (.aload_n 0, 1)), (54, (.getfield 24, 3)), (57, (.putfield 7, 3)), (60, (.aload_n 0, 1)), (61, (.aload_n 0, 1)), (62, (.getfield 7, 3)), (65, (.invokevirtual 27, 3)), (68, (.istore_n 1, 1)), (69, (.aload_n 0, 1)), (70, (.getfield 7, 3)), (73, (.aload_n 0, 1)), (74, (.getfield 17, 3)), (77, (.if_icmp .ne 11, 3)), (80, (.aload_n 0, 1)), (81, (.iconst 0, 1)), (82, (.putfield 31, 3)), (85, (.goto 172, 3)), (88, (.iload_n 1, 1)), (89, (.invokestatic 34, 3)), (92, (.ifCond .eq 38, 3)), (95, (.aload_n 0, 1))]
theorem dAX12_scan_q0 : ∀ x ∈ dPX12_scan_q0, decode cX12_scan x.1 = .ok x.2 := by decide +kernel
theorem dX12_scan_0 : decode cX12_scan 0 = .ok (.aload_n 0, 1) := dc_at (f := decode cX12_scan) dAX12_scan_q0 0 rfl
theorem dX12_scan_1 : decode cX12_scan 1 = .ok (.getfield 24, 3) := dc_at (f := decode cX12_scan) dAX12_scan_q0 1 rfl
theorem dX12_scan_4 : decode cX12_scan 4 = .ok (.aload_n 0, 1) := dc_at (f := decode cX12_scan) dAX12_scan_q0 2 rfl
theorem dX12_scan_5 : decode cX12_scan 5 = .ok (.getfield 17, 3) := dc_at (f := decode cX12_scan) dAX12_scan_q0 3 rfl
theorem dX12_scan_8 : decode cX12_scan 8 = .ok (.if_icmp .ge 44, 3) := dc_at (f := decode cX12_scan) dAX12_scan_q0 4 rfl
theorem dX12_scan_11 : decode cX12_scan 11 = .ok (.aload_n 0, 1) := dc_at (f := decode cX12_scan) dAX12_scan_q0 5 rfl
theorem dX12_scan_12 : decode cX12_scan 12 = .ok (.getfield 20, 3) := dc_at (f := decode cX12_scan) dAX12_scan_q0 6 rfl
theorem dX12_scan_15 : decode cX12_scan 15 = .ok (.aload_n 0, 1) := dc_at (f := decode cX12_scan) dAX12_scan_q0 7 rfl
theorem dX12_scan_16 : decode cX12_scan 16 = .ok (.getfield 24, 3) := dc_at (f := decode cX12_scan) dAX12_scan_q0 8 rfl
theorem dX12_scan_19 : decode cX12_scan 19 = .ok (.baload, 1) := dc_at (f := decode cX12_scan) dAX12_scan_q0 9 rfl
theorem dX12_scan_20 : decode cX12_scan 20 = .ok (.bipush 32, 2) := dc_at (f := decode cX12_scan) dAX12_scan_q0 10 rfl
theorem dX12_scan_22 : decode cX12_scan 22 = .ok (.if_icmp .eq 17, 3) := dc_at (f := decode cX12_scan) dAX12_scan_q0 11 rfl
theorem dX12_scan_25 : decode cX12_scan 25 = .ok (.aload_n 0, 1) := dc_at (f := decode cX12_scan) dAX12_scan_q0 12 rfl
theorem dX12_scan_26 : decode cX12_scan 26 = .ok (.getfield 20, 3) := dc_at (f := decode cX12_scan) dAX12_scan_q0 13 rfl
theorem dX12_scan_29 : decode cX12_scan 29 = .ok (.aload_n 0, 1) := dc_at (f := decode cX12_scan) dAX12_scan_q0 14 rfl
theorem dX12_scan_30 : decode cX12_scan 30 = .ok (.getfield 24, 3) := dc_at (f := decode cX12_scan) dAX12_scan_q0 15 rfl
theorem dX12_scan_33 : decode cX12_scan 33 = .ok (.baload, 1) := dc_at (f := decode cX12_scan) dAX12_scan_q0 16 rfl
theorem dX12_scan_34 : decode cX12_scan 34 = .ok (.bipush 10, 2) := dc_at (f := decode cX12_scan) dAX12_scan_q0 17 rfl
theorem dX12_scan_36 : decode cX12_scan 36 = .ok (.if_icmp .ne 16, 3) := dc_at (f := decode cX12_scan) dAX12_scan_q0 18 rfl
theorem dX12_scan_39 : decode cX12_scan 39 = .ok (.aload_n 0, 1) := dc_at (f := decode cX12_scan) dAX12_scan_q0 19 rfl
theorem dX12_scan_40 : decode cX12_scan 40 = .ok (.dup, 1) := dc_at (f := decode cX12_scan) dAX12_scan_q0 20 rfl
theorem dX12_scan_41 : decode cX12_scan 41 = .ok (.getfield 24, 3) := dc_at (f := decode cX12_scan) dAX12_scan_q0 21 rfl
theorem dX12_scan_44 : decode cX12_scan 44 = .ok (.iconst 1, 1) := dc_at (f := decode cX12_scan) dAX12_scan_q0 22 rfl
theorem dX12_scan_45 : decode cX12_scan 45 = .ok (.iadd, 1) := dc_at (f := decode cX12_scan) dAX12_scan_q0 23 rfl
theorem dX12_scan_46 : decode cX12_scan 46 = .ok (.putfield 24, 3) := dc_at (f := decode cX12_scan) dAX12_scan_q0 24 rfl
theorem dX12_scan_49 : decode cX12_scan 49 = .ok (.goto (-49), 3) := dc_at (f := decode cX12_scan) dAX12_scan_q0 25 rfl
theorem dX12_scan_52 : decode cX12_scan 52 = .ok (.aload_n 0, 1) := dc_at (f := decode cX12_scan) dAX12_scan_q0 26 rfl
theorem dX12_scan_53 : decode cX12_scan 53 = .ok (.aload_n 0, 1) := dc_at (f := decode cX12_scan) dAX12_scan_q0 27 rfl
theorem dX12_scan_54 : decode cX12_scan 54 = .ok (.getfield 24, 3) := dc_at (f := decode cX12_scan) dAX12_scan_q0 28 rfl
theorem dX12_scan_57 : decode cX12_scan 57 = .ok (.putfield 7, 3) := dc_at (f := decode cX12_scan) dAX12_scan_q0 29 rfl
theorem dX12_scan_60 : decode cX12_scan 60 = .ok (.aload_n 0, 1) := dc_at (f := decode cX12_scan) dAX12_scan_q0 30 rfl
theorem dX12_scan_61 : decode cX12_scan 61 = .ok (.aload_n 0, 1) := dc_at (f := decode cX12_scan) dAX12_scan_q0 31 rfl
theorem dX12_scan_62 : decode cX12_scan 62 = .ok (.getfield 7, 3) := dc_at (f := decode cX12_scan) dAX12_scan_q0 32 rfl
theorem dX12_scan_65 : decode cX12_scan 65 = .ok (.invokevirtual 27, 3) := dc_at (f := decode cX12_scan) dAX12_scan_q0 33 rfl
theorem dX12_scan_68 : decode cX12_scan 68 = .ok (.istore_n 1, 1) := dc_at (f := decode cX12_scan) dAX12_scan_q0 34 rfl
theorem dX12_scan_69 : decode cX12_scan 69 = .ok (.aload_n 0, 1) := dc_at (f := decode cX12_scan) dAX12_scan_q0 35 rfl
theorem dX12_scan_70 : decode cX12_scan 70 = .ok (.getfield 7, 3) := dc_at (f := decode cX12_scan) dAX12_scan_q0 36 rfl
theorem dX12_scan_73 : decode cX12_scan 73 = .ok (.aload_n 0, 1) := dc_at (f := decode cX12_scan) dAX12_scan_q0 37 rfl
theorem dX12_scan_74 : decode cX12_scan 74 = .ok (.getfield 17, 3) := dc_at (f := decode cX12_scan) dAX12_scan_q0 38 rfl
theorem dX12_scan_77 : decode cX12_scan 77 = .ok (.if_icmp .ne 11, 3) := dc_at (f := decode cX12_scan) dAX12_scan_q0 39 rfl
theorem dX12_scan_80 : decode cX12_scan 80 = .ok (.aload_n 0, 1) := dc_at (f := decode cX12_scan) dAX12_scan_q0 40 rfl
theorem dX12_scan_81 : decode cX12_scan 81 = .ok (.iconst 0, 1) := dc_at (f := decode cX12_scan) dAX12_scan_q0 41 rfl
theorem dX12_scan_82 : decode cX12_scan 82 = .ok (.putfield 31, 3) := dc_at (f := decode cX12_scan) dAX12_scan_q0 42 rfl
theorem dX12_scan_85 : decode cX12_scan 85 = .ok (.goto 172, 3) := dc_at (f := decode cX12_scan) dAX12_scan_q0 43 rfl
theorem dX12_scan_88 : decode cX12_scan 88 = .ok (.iload_n 1, 1) := dc_at (f := decode cX12_scan) dAX12_scan_q0 44 rfl
theorem dX12_scan_89 : decode cX12_scan 89 = .ok (.invokestatic 34, 3) := dc_at (f := decode cX12_scan) dAX12_scan_q0 45 rfl
theorem dX12_scan_92 : decode cX12_scan 92 = .ok (.ifCond .eq 38, 3) := dc_at (f := decode cX12_scan) dAX12_scan_q0 46 rfl
theorem dX12_scan_95 : decode cX12_scan 95 = .ok (.aload_n 0, 1) := dc_at (f := decode cX12_scan) dAX12_scan_q0 47 rfl
def dPX12_scan_q1 : List (Nat × (Jvm.ClassFile.Instr × Nat)) := [(96, (.aload_n 0, 1)), (97, (.getfield 24, 3)), (100, (.invokevirtual 27, 3)), (103, (.invokestatic 34, 3)), (106, (.ifCond .eq 16, 3)), (109, (.aload_n 0, 1)), (110, (.dup, 1)), (111, (.getfield 24, 3)), (114, (.iconst 1, 1)), (115, (.iadd, 1)), (116, (.putfield 24, 3)), (119, (.goto (-24), 3)), (122, (.aload_n 0, 1)), (123, (.iconst 1, 1)), (124, (.putfield 31, 3)), (127, (.goto 130, 3)), (130, (.iload_n 1, 1)), (131, (.invokestatic 38, 3)), (134, (.ifCond .eq 98, 3)), (137, (.aload_n 0, 1)), (138, (.iconst 0, 1)), (139, (.putfield 41, 3)), (142, (.aload_n 0, 1)), (143, (.aload_n 0, 1)), (144, (.getfield 24, 3)), (147, (.invokevirtual 27, 3)), (150, (.invokestatic 38, 3)), (153, (.ifCond .eq 53, 3)), (156, (.aload_n 0, 1)), (157, (.getfield 24, 3)), (160, (.aload_n 0, 1)), (161, (.getfield 7, 3)), (164, (.isub, 1)), (165, (.bipush 6, 2)), (167, (.if_icmp .ge 26, 3)), (170, (.aload_n 0, 1)), (171, (.bipush 10, 2)), (173, (.aload_n 0, 1)), (174, (.getfield 41, 3)), (177, (.imul, 1)), (178, (.aload_n 0, 1)), (179, (.aload_n 0, 1)), (180, (.getfield 24, 3)), (183, (.invokevirtual 27, 3)), (186, (.iadd, 1)), (187, (.bipush 48, 2)), (189, (.isub, 1)), (190, (.putfield 41, 3))]
theorem dAX12_scan_q1 : ∀ x ∈ dPX12_scan_q1, decode cX12_scan x.1 = .ok x.2 := by decide +kernel
theorem dX12_scan_96 : decode cX12_scan 96 = .ok (.aload_n 0, 1) := dc_at (f := decode cX12_scan) dAX12_scan_q1 0 rfl
theorem dX12_scan_97 : decode cX12_scan 97 = .ok (.getfield 24, 3) := dc_at (f := decode cX12_scan) dAX12_scan_q1 1 rfl
theorem dX12_scan_100 : decode cX12_scan 100 = .ok (.invokevirtual 27, 3) := dc_at (f := decode cX12_scan) dAX12_scan_q1 2 rfl
theorem dX12_scan_103 : decode cX12_scan 103 = .ok (.invokestatic 34, 3) := dc_at (f := decode cX12_scan) dAX12_scan_q1 3 rfl
theorem dX12_scan_106 : decode cX12_scan 106 = .ok (.ifCond .eq 16, 3) := dc_at (f := decode cX12_scan) dAX12_scan_q1 4 rfl
theorem dX12_scan_109 : decode cX12_scan 109 = .ok (.aload_n 0, 1) := dc_at (f := decode cX12_scan) dAX12_scan_q1 5 rfl
theorem dX12_scan_110 : decode cX12_scan 110 = .ok (.dup, 1) := dc_at (f := decode cX12_scan) dAX12_scan_q1 6 rfl
theorem dX12_scan_111 : decode cX12_scan 111 = .ok (.getfield 24, 3) := dc_at (f := decode cX12_scan) dAX12_scan_q1 7 rfl
theorem dX12_scan_114 : decode cX12_scan 114 = .ok (.iconst 1, 1) := dc_at (f := decode cX12_scan) dAX12_scan_q1 8 rfl
theorem dX12_scan_115 : decode cX12_scan 115 = .ok (.iadd, 1) := dc_at (f := decode cX12_scan) dAX12_scan_q1 9 rfl
theorem dX12_scan_116 : decode cX12_scan 116 = .ok (.putfield 24, 3) := dc_at (f := decode cX12_scan) dAX12_scan_q1 10 rfl
theorem dX12_scan_119 : decode cX12_scan 119 = .ok (.goto (-24), 3) := dc_at (f := decode cX12_scan) dAX12_scan_q1 11 rfl
theorem dX12_scan_122 : decode cX12_scan 122 = .ok (.aload_n 0, 1) := dc_at (f := decode cX12_scan) dAX12_scan_q1 12 rfl
theorem dX12_scan_123 : decode cX12_scan 123 = .ok (.iconst 1, 1) := dc_at (f := decode cX12_scan) dAX12_scan_q1 13 rfl
theorem dX12_scan_124 : decode cX12_scan 124 = .ok (.putfield 31, 3) := dc_at (f := decode cX12_scan) dAX12_scan_q1 14 rfl
theorem dX12_scan_127 : decode cX12_scan 127 = .ok (.goto 130, 3) := dc_at (f := decode cX12_scan) dAX12_scan_q1 15 rfl
theorem dX12_scan_130 : decode cX12_scan 130 = .ok (.iload_n 1, 1) := dc_at (f := decode cX12_scan) dAX12_scan_q1 16 rfl
theorem dX12_scan_131 : decode cX12_scan 131 = .ok (.invokestatic 38, 3) := dc_at (f := decode cX12_scan) dAX12_scan_q1 17 rfl
theorem dX12_scan_134 : decode cX12_scan 134 = .ok (.ifCond .eq 98, 3) := dc_at (f := decode cX12_scan) dAX12_scan_q1 18 rfl
theorem dX12_scan_137 : decode cX12_scan 137 = .ok (.aload_n 0, 1) := dc_at (f := decode cX12_scan) dAX12_scan_q1 19 rfl
theorem dX12_scan_138 : decode cX12_scan 138 = .ok (.iconst 0, 1) := dc_at (f := decode cX12_scan) dAX12_scan_q1 20 rfl
theorem dX12_scan_139 : decode cX12_scan 139 = .ok (.putfield 41, 3) := dc_at (f := decode cX12_scan) dAX12_scan_q1 21 rfl
theorem dX12_scan_142 : decode cX12_scan 142 = .ok (.aload_n 0, 1) := dc_at (f := decode cX12_scan) dAX12_scan_q1 22 rfl
theorem dX12_scan_143 : decode cX12_scan 143 = .ok (.aload_n 0, 1) := dc_at (f := decode cX12_scan) dAX12_scan_q1 23 rfl
theorem dX12_scan_144 : decode cX12_scan 144 = .ok (.getfield 24, 3) := dc_at (f := decode cX12_scan) dAX12_scan_q1 24 rfl
theorem dX12_scan_147 : decode cX12_scan 147 = .ok (.invokevirtual 27, 3) := dc_at (f := decode cX12_scan) dAX12_scan_q1 25 rfl
theorem dX12_scan_150 : decode cX12_scan 150 = .ok (.invokestatic 38, 3) := dc_at (f := decode cX12_scan) dAX12_scan_q1 26 rfl
theorem dX12_scan_153 : decode cX12_scan 153 = .ok (.ifCond .eq 53, 3) := dc_at (f := decode cX12_scan) dAX12_scan_q1 27 rfl
theorem dX12_scan_156 : decode cX12_scan 156 = .ok (.aload_n 0, 1) := dc_at (f := decode cX12_scan) dAX12_scan_q1 28 rfl
theorem dX12_scan_157 : decode cX12_scan 157 = .ok (.getfield 24, 3) := dc_at (f := decode cX12_scan) dAX12_scan_q1 29 rfl
theorem dX12_scan_160 : decode cX12_scan 160 = .ok (.aload_n 0, 1) := dc_at (f := decode cX12_scan) dAX12_scan_q1 30 rfl
theorem dX12_scan_161 : decode cX12_scan 161 = .ok (.getfield 7, 3) := dc_at (f := decode cX12_scan) dAX12_scan_q1 31 rfl
theorem dX12_scan_164 : decode cX12_scan 164 = .ok (.isub, 1) := dc_at (f := decode cX12_scan) dAX12_scan_q1 32 rfl
theorem dX12_scan_165 : decode cX12_scan 165 = .ok (.bipush 6, 2) := dc_at (f := decode cX12_scan) dAX12_scan_q1 33 rfl
theorem dX12_scan_167 : decode cX12_scan 167 = .ok (.if_icmp .ge 26, 3) := dc_at (f := decode cX12_scan) dAX12_scan_q1 34 rfl
theorem dX12_scan_170 : decode cX12_scan 170 = .ok (.aload_n 0, 1) := dc_at (f := decode cX12_scan) dAX12_scan_q1 35 rfl
theorem dX12_scan_171 : decode cX12_scan 171 = .ok (.bipush 10, 2) := dc_at (f := decode cX12_scan) dAX12_scan_q1 36 rfl
theorem dX12_scan_173 : decode cX12_scan 173 = .ok (.aload_n 0, 1) := dc_at (f := decode cX12_scan) dAX12_scan_q1 37 rfl
theorem dX12_scan_174 : decode cX12_scan 174 = .ok (.getfield 41, 3) := dc_at (f := decode cX12_scan) dAX12_scan_q1 38 rfl
theorem dX12_scan_177 : decode cX12_scan 177 = .ok (.imul, 1) := dc_at (f := decode cX12_scan) dAX12_scan_q1 39 rfl
theorem dX12_scan_178 : decode cX12_scan 178 = .ok (.aload_n 0, 1) := dc_at (f := decode cX12_scan) dAX12_scan_q1 40 rfl
theorem dX12_scan_179 : decode cX12_scan 179 = .ok (.aload_n 0, 1) := dc_at (f := decode cX12_scan) dAX12_scan_q1 41 rfl
theorem dX12_scan_180 : decode cX12_scan 180 = .ok (.getfield 24, 3) := dc_at (f := decode cX12_scan) dAX12_scan_q1 42 rfl
theorem dX12_scan_183 : decode cX12_scan 183 = .ok (.invokevirtual 27, 3) := dc_at (f := decode cX12_scan) dAX12_scan_q1 43 rfl
theorem dX12_scan_186 : decode cX12_scan 186 = .ok (.iadd, 1) := dc_at (f := decode cX12_scan) dAX12_scan_q1 44 rfl
theorem dX12_scan_187 : decode cX12_scan 187 = .ok (.bipush 48, 2) := dc_at (f := decode cX12_scan) dAX12_scan_q1 45 rfl
theorem dX12_scan_189 : decode cX12_scan 189 = .ok (.isub, 1) := dc_at (f := decode cX12_scan) dAX12_scan_q1 46 rfl
theorem dX12_scan_190 : decode cX12_scan 190 = .ok (.putfield 41, 3) := dc_at (f := decode cX12_scan) dAX12_scan_q1 47 rfl
def dPX12_scan_q2 : List (Nat × (Jvm.ClassFile.Instr × Nat)) := [(193, (.aload_n 0, 1)), (194, (.dup, 1)), (195, (.getfield 24, 3)), (198, (.iconst 1, 1)), (199, (.iadd, 1)), (200, (.putfield 24, 3)), (203, (.goto (-61), 3)), (206, (.aload_n 0, 1)), (207, (.aload_n 0, 1)), (208, (.getfield 24, 3)), (211, (.aload_n 0, 1)), (212, (.getfield 7, 3)), (215, (.isub, 1)), (216, (.bipush 6, 2)), (218, (.if_icmp .le 7, 3)), (221, (.iconst 4, 1)), (222, (.goto 4, 3)), (225, (.iconst 2, 1)), (226, (.putfield 31, 3)), (229, (.goto 28, 3)), (232, (.aload_n 0, 1)), (233, (.iload_n 1, 1)), (234, (.bipush 59, 2)), (236, (.if_icmp .ne 7, 3)), (239, (.iconst 3, 1)), (240, (.goto 4, 3)), (243, (.iconst 4, 1)), (244, (.putfield 31, 3)), (247, (.aload_n 0, 1)), (248, (.dup, 1)), (249, (.getfield 24, 3)), (252, (.iconst 1, 1)), (253, (.iadd, 1)), (254, (.putfield 24, 3)), (257, (.return_, 1))]
theorem dAX12_scan_q2 : ∀ x ∈ dPX12_scan_q2, decode cX12_scan x.1 = .ok x.2 := by decide +kernel
theorem dX12_scan_193 : decode cX12_scan 193 = .ok (.aload_n 0, 1) := dc_at (f := decode cX12_scan) dAX12_scan_q2 0 rfl
theorem dX12_scan_194 : decode cX12_scan 194 = .ok (.dup, 1) := dc_at (f := decode cX12_scan) dAX12_scan_q2 1 rfl
theorem dX12_scan_195 : decode cX12_scan 195 = .ok (.getfield 24, 3) := dc_at (f := decode cX12_scan) dAX12_scan_q2 2 rfl
theorem dX12_scan_198 : decode cX12_scan 198 = .ok (.iconst 1, 1) := dc_at (f := decode cX12_scan) dAX12_scan_q2 3 rfl
theorem dX12_scan_199 : decode cX12_scan 199 = .ok (.iadd, 1) := dc_at (f := decode cX12_scan) dAX12_scan_q2 4 rfl
theorem dX12_scan_200 : decode cX12_scan 200 = .ok (.putfield 24, 3) := dc_at (f := decode cX12_scan) dAX12_scan_q2 5 rfl
theorem dX12_scan_203 : decode cX12_scan 203 = .ok (.goto (-61), 3) := dc_at (f := decode cX12_scan) dAX12_scan_q2 6 rfl
theorem dX12_scan_206 : decode cX12_scan 206 = .ok (.aload_n 0, 1) := dc_at (f := decode cX12_scan) dAX12_scan_q2 7 rfl
theorem dX12_scan_207 : decode cX12_scan 207 = .ok (.aload_n 0, 1) := dc_at (f := decode cX12_scan) dAX12_scan_q2 8 rfl
theorem dX12_scan_208 : decode cX12_scan 208 = .ok (.getfield 24, 3) := dc_at (f := decode cX12_scan) dAX12_scan_q2 9 rfl
theorem dX12_scan_211 : decode cX12_scan 211 = .ok (.aload_n 0, 1) := dc_at (f := decode cX12_scan) dAX12_scan_q2 10 rfl
theorem dX12_scan_212 : decode cX12_scan 212 = .ok (.getfield 7, 3) := dc_at (f := decode cX12_scan) dAX12_scan_q2 11 rfl
theorem dX12_scan_215 : decode cX12_scan 215 = .ok (.isub, 1) := dc_at (f := decode cX12_scan) dAX12_scan_q2 12 rfl
theorem dX12_scan_216 : decode cX12_scan 216 = .ok (.bipush 6, 2) := dc_at (f := decode cX12_scan) dAX12_scan_q2 13 rfl
theorem dX12_scan_218 : decode cX12_scan 218 = .ok (.if_icmp .le 7, 3) := dc_at (f := decode cX12_scan) dAX12_scan_q2 14 rfl
theorem dX12_scan_221 : decode cX12_scan 221 = .ok (.iconst 4, 1) := dc_at (f := decode cX12_scan) dAX12_scan_q2 15 rfl
theorem dX12_scan_222 : decode cX12_scan 222 = .ok (.goto 4, 3) := dc_at (f := decode cX12_scan) dAX12_scan_q2 16 rfl
theorem dX12_scan_225 : decode cX12_scan 225 = .ok (.iconst 2, 1) := dc_at (f := decode cX12_scan) dAX12_scan_q2 17 rfl
theorem dX12_scan_226 : decode cX12_scan 226 = .ok (.putfield 31, 3) := dc_at (f := decode cX12_scan) dAX12_scan_q2 18 rfl
theorem dX12_scan_229 : decode cX12_scan 229 = .ok (.goto 28, 3) := dc_at (f := decode cX12_scan) dAX12_scan_q2 19 rfl
theorem dX12_scan_232 : decode cX12_scan 232 = .ok (.aload_n 0, 1) := dc_at (f := decode cX12_scan) dAX12_scan_q2 20 rfl
theorem dX12_scan_233 : decode cX12_scan 233 = .ok (.iload_n 1, 1) := dc_at (f := decode cX12_scan) dAX12_scan_q2 21 rfl
theorem dX12_scan_234 : decode cX12_scan 234 = .ok (.bipush 59, 2) := dc_at (f := decode cX12_scan) dAX12_scan_q2 22 rfl
theorem dX12_scan_236 : decode cX12_scan 236 = .ok (.if_icmp .ne 7, 3) := dc_at (f := decode cX12_scan) dAX12_scan_q2 23 rfl
theorem dX12_scan_239 : decode cX12_scan 239 = .ok (.iconst 3, 1) := dc_at (f := decode cX12_scan) dAX12_scan_q2 24 rfl
theorem dX12_scan_240 : decode cX12_scan 240 = .ok (.goto 4, 3) := dc_at (f := decode cX12_scan) dAX12_scan_q2 25 rfl
theorem dX12_scan_243 : decode cX12_scan 243 = .ok (.iconst 4, 1) := dc_at (f := decode cX12_scan) dAX12_scan_q2 26 rfl
theorem dX12_scan_244 : decode cX12_scan 244 = .ok (.putfield 31, 3) := dc_at (f := decode cX12_scan) dAX12_scan_q2 27 rfl
theorem dX12_scan_247 : decode cX12_scan 247 = .ok (.aload_n 0, 1) := dc_at (f := decode cX12_scan) dAX12_scan_q2 28 rfl
theorem dX12_scan_248 : decode cX12_scan 248 = .ok (.dup, 1) := dc_at (f := decode cX12_scan) dAX12_scan_q2 29 rfl
theorem dX12_scan_249 : decode cX12_scan 249 = .ok (.getfield 24, 3) := dc_at (f := decode cX12_scan) dAX12_scan_q2 30 rfl
theorem dX12_scan_252 : decode cX12_scan 252 = .ok (.iconst 1, 1) := dc_at (f := decode cX12_scan) dAX12_scan_q2 31 rfl
theorem dX12_scan_253 : decode cX12_scan 253 = .ok (.iadd, 1) := dc_at (f := decode cX12_scan) dAX12_scan_q2 32 rfl
theorem dX12_scan_254 : decode cX12_scan 254 = .ok (.putfield 24, 3) := dc_at (f := decode cX12_scan) dAX12_scan_q2 33 rfl
theorem dX12_scan_257 : decode cX12_scan 257 = .ok (.return_, 1) := dc_at (f := decode cX12_scan) dAX12_scan_q2 34 rfl
def dPX12_is_q0 : List (Nat × (Jvm.ClassFile.Instr × Nat)) := [(0, (.aload_n 0, 1)), (1, (.getfield 31, 3)), (4, (.iconst 1, 1)), (5, (.if_icmp .ne 23, 3)), (8, (.aload_n 0, 1)), (9, (.getfield 24, 3)), (12, (.aload_n 0, 1)), (13, (.getfield 7, 3)), (16, (.isub, 1)), (17, (.aload_n 1, 1)), (18, (.invokevirtual 44, 3)), (21, (.if_icmp .ne 7, 3)), (24, (.iconst 1, 1)), (25, (.goto 4, 3)), (28, (.iconst 0, 1)), (29, (.istore_n 2, 1)), (30, (.iconst 0, 1)), (31, (.istore_n 3, 1)), (32, (.iload_n 3, 1)), (33, (.aload_n 1, 1)), (34, (.invokevirtual 44, 3)), (37, (.if_icmp .ge 38, 3)), (40, (.iload_n 2, 1)), (41, (.ifCond .eq 34, 3)), (44, (.aload_n 0, 1)), (45, (.getfield 20, 3)), (48, (.aload_n 0, 1)), (49, (.getfield 7, 3)), (52, (.iload_n 3, 1)), (53, (.iadd, 1)), (54, (.baload, 1)), (55, (.aload_n 1, 1)), (56, (.iload_n 3, 1)), (57, (.invokevirtual 50, 3)), (60, (.if_icmp .ne 7, 3)), (63, (.iconst 1, 1)), (64, (.goto 4, 3)), (67, (.iconst 0, 1)), (68, (.istore_n 2, 1)), (69, (.iinc 3 1, 3)), (72, (.goto (-40), 3)), (75, (.iload_n 2, 1)), (76, (.ireturn, 1))]
theorem dAX12_is_q0 : ∀ x ∈ dPX12_is_q0, decode cX12_is x.1 = .ok x.2 := by decide +kernel
theorem dX12_is_0 : decode cX12_is 0 = .ok (.aload_n 0, 1) := dc_at (f := decode cX12_is) dAX12_is_q0 0 rfl
theorem dX12_is_1 : decode cX12_is 1 = .ok (.getfield 31, 3) := dc_at (f := decode cX12_is) dAX12_is_q0 1 rfl
theorem dX12_is_4 : decode cX12_is 4 = .ok (.iconst 1, 1) := dc_at (f := decode cX12_is) dAX12_is_q0 2 rfl
theorem dX12_is_5 : decode cX12_is 5 = .ok (.if_icmp .ne 23, 3) := dc_at (f := decode cX12_is) dAX12_is_q0 3 rfl
theorem dX12_is_8 : decode cX12_is 8 = .ok (.aload_n 0, 1) := dc_at (f := decode cX12_is) dAX12_is_q0 4 rfl
theorem dX12_is_9 : decode cX12_is 9 = .ok (.getfield 24, 3) := dc_at (f := decode cX12_is) dAX12_is_q0 5 rfl
theorem dX12_is_12 : decode cX12_is 12 = .ok (.aload_n 0, 1) := dc_at (f := decode cX12_is) dAX12_is_q0 6 rfl
theorem dX12_is_13 : decode cX12_is 13 = .ok (.getfield 7, 3) := dc_at (f := decode cX12_is) dAX12_is_q0 7 rfl
theorem dX12_is_16 : decode cX12_is 16 = .ok (.isub, 1) := dc_at (f := decode cX12_is) dAX12_is_q0 8 rfl
theorem dX12_is_17 : decode cX12_is 17 = .ok (.aload_n 1, 1) := dc_at (f := decode cX12_is) dAX12_is_q0 9 rfl
theorem dX12_is_18 : decode cX12_is 18 = .ok (.invokevirtual 44, 3) := dc_at (f := decode cX12_is) dAX12_is_q0 10 rfl
theorem dX12_is_21 : decode cX12_is 21 = .ok (.if_icmp .ne 7, 3) := dc_at (f := decode cX12_is) dAX12_is_q0 11 rfl
theorem dX12_is_24 : decode cX12_is 24 = .ok (.iconst 1, 1) := dc_at (f := decode cX12_is) dAX12_is_q0 12 rfl
theorem dX12_is_25 : decode cX12_is 25 = .ok (.goto 4, 3) := dc_at (f := decode cX12_is) dAX12_is_q0 13 rfl
theorem dX12_is_28 : decode cX12_is 28 = .ok (.iconst 0, 1) := dc_at (f := decode cX12_is) dAX12_is_q0 14 rfl
theorem dX12_is_29 : decode cX12_is 29 = .ok (.istore_n 2, 1) := dc_at (f := decode cX12_is) dAX12_is_q0 15 rfl
theorem dX12_is_30 : decode cX12_is 30 = .ok (.iconst 0, 1) := dc_at (f := decode cX12_is) dAX12_is_q0 16 rfl
theorem dX12_is_31 : decode cX12_is 31 = .ok (.istore_n 3, 1) := dc_at (f := decode cX12_is) dAX12_is_q0 17 rfl
theorem dX12_is_32 : decode cX12_is 32 = .ok (.iload_n 3, 1) := dc_at (f := decode cX12_is) dAX12_is_q0 18 rfl
theorem dX12_is_33 : decode cX12_is 33 = .ok (.aload_n 1, 1) := dc_at (f := decode cX12_is) dAX12_is_q0 19 rfl
theorem dX12_is_34 : decode cX12_is 34 = .ok (.invokevirtual 44, 3) := dc_at (f := decode cX12_is) dAX12_is_q0 20 rfl
theorem dX12_is_37 : decode cX12_is 37 = .ok (.if_icmp .ge 38, 3) := dc_at (f := decode cX12_is) dAX12_is_q0 21 rfl
theorem dX12_is_40 : decode cX12_is 40 = .ok (.iload_n 2, 1) := dc_at (f := decode cX12_is) dAX12_is_q0 22 rfl
theorem dX12_is_41 : decode cX12_is 41 = .ok (.ifCond .eq 34, 3) := dc_at (f := decode cX12_is) dAX12_is_q0 23 rfl
theorem dX12_is_44 : decode cX12_is 44 = .ok (.aload_n 0, 1) := dc_at (f := decode cX12_is) dAX12_is_q0 24 rfl
theorem dX12_is_45 : decode cX12_is 45 = .ok (.getfield 20, 3) := dc_at (f := decode cX12_is) dAX12_is_q0 25 rfl
theorem dX12_is_48 : decode cX12_is 48 = .ok (.aload_n 0, 1) := dc_at (f := decode cX12_is) dAX12_is_q0 26 rfl
theorem dX12_is_49 : decode cX12_is 49 = .ok (.getfield 7, 3) := dc_at (f := decode cX12_is) dAX12_is_q0 27 rfl
theorem dX12_is_52 : decode cX12_is 52 = .ok (.iload_n 3, 1) := dc_at (f := decode cX12_is) dAX12_is_q0 28 rfl
theorem dX12_is_53 : decode cX12_is 53 = .ok (.iadd, 1) := dc_at (f := decode cX12_is) dAX12_is_q0 29 rfl
theorem dX12_is_54 : decode cX12_is 54 = .ok (.baload, 1) := dc_at (f := decode cX12_is) dAX12_is_q0 30 rfl
theorem dX12_is_55 : decode cX12_is 55 = .ok (.aload_n 1, 1) := dc_at (f := decode cX12_is) dAX12_is_q0 31 rfl
theorem dX12_is_56 : decode cX12_is 56 = .ok (.iload_n 3, 1) := dc_at (f := decode cX12_is) dAX12_is_q0 32 rfl
theorem dX12_is_57 : decode cX12_is 57 = .ok (.invokevirtual 50, 3) := dc_at (f := decode cX12_is) dAX12_is_q0 33 rfl
theorem dX12_is_60 : decode cX12_is 60 = .ok (.if_icmp .ne 7, 3) := dc_at (f := decode cX12_is) dAX12_is_q0 34 rfl
theorem dX12_is_63 : decode cX12_is 63 = .ok (.iconst 1, 1) := dc_at (f := decode cX12_is) dAX12_is_q0 35 rfl
theorem dX12_is_64 : decode cX12_is 64 = .ok (.goto 4, 3) := dc_at (f := decode cX12_is) dAX12_is_q0 36 rfl
theorem dX12_is_67 : decode cX12_is 67 = .ok (.iconst 0, 1) := dc_at (f := decode cX12_is) dAX12_is_q0 37 rfl
theorem dX12_is_68 : decode cX12_is 68 = .ok (.istore_n 2, 1) := dc_at (f := decode cX12_is) dAX12_is_q0 38 rfl
theorem dX12_is_69 : decode cX12_is 69 = .ok (.iinc 3 1, 3) := dc_at (f := decode cX12_is) dAX12_is_q0 39 rfl
theorem dX12_is_72 : decode cX12_is 72 = .ok (.goto (-40), 3) := dc_at (f := decode cX12_is) dAX12_is_q0 40 rfl
theorem dX12_is_75 : decode cX12_is 75 = .ok (.iload_n 2, 1) := dc_at (f := decode cX12_is) dAX12_is_q0 41 rfl
theorem dX12_is_76 : decode cX12_is 76 = .ok (.ireturn, 1) := dc_at (f := decode cX12_is) dAX12_is_q0 42 rfl
def dPX12_number_q0 : List (Nat × (Jvm.ClassFile.Instr × Nat)) := [(0, (.aload_n 0, 1)), (1, (.getfield 31, 3)), (4, (.iconst 2, 1)), (5, (.if_icmp .eq 9, 3)), (8, (.aload_n 0, 1)), (9, (.iconst 1, 1)), (10, (.invokevirtual 54, 3)), (13, (.athrow, 1)), (14, (.aload_n 0, 1)), (15, (.getfield 41, 3)), (18, (.i2l, 1)), (19, (.iload_n 1, 1)), (20, (.i2l, 1)), (21, (.iload_n 2, 1)), (22, (.i2l, 1)), (23, (.invokestatic 58, 3)), (26, (.ifCond .ne 9, 3)), (29, (.aload_n 0, 1)), (30, (.iconst 2, 1)), (31, (.invokevirtual 54, 3)), (34, (.athrow, 1)), (35, (.aload_n 0, 1)), (36, (.getfield 41, 3)), (39, (.istore_n 3, 1)), (40, (.aload_n 0, 1)), (41, (.invokevirtual 62, 3)), (44, (.iload_n 3, 1)), (45, (.ireturn, 1))]
theorem dAX12_number_q0 : ∀ x ∈ dPX12_number_q0, decode cX12_number x.1 = .ok x.2 := by decide +kernel
theorem dX12_number_0 : decode cX12_number 0 = .ok (.aload_n 0, 1) := dc_at (f := decode cX12_number) dAX12_number_q0 0 rfl
theorem dX12_number_1 : decode cX12_number 1 = .ok (.getfield 31, 3) := dc_at (f := decode cX12_number) dAX12_number_q0 1 rfl
theorem dX12_number_4 : decode cX12_number 4 = .ok (.iconst 2, 1) := dc_at (f := decode cX12_number) dAX12_number_q0 2 rfl
theorem dX12_number_5 : decode cX12_number 5 = .ok (.if_icmp .eq 9, 3) := dc_at (f := decode cX12_number) dAX12_number_q0 3 rfl
theorem dX12_number_8 : decode cX12_number 8 = .ok (.aload_n 0, 1) := dc_at (f := decode cX12_number) dAX12_number_q0 4 rfl
theorem dX12_number_9 : decode cX12_number 9 = .ok (.iconst 1, 1) := dc_at (f := decode cX12_number) dAX12_number_q0 5 rfl
theorem dX12_number_10 : decode cX12_number 10 = .ok (.invokevirtual 54, 3) := dc_at (f := decode cX12_number) dAX12_number_q0 6 rfl
theorem dX12_number_13 : decode cX12_number 13 = .ok (.athrow, 1) := dc_at (f := decode cX12_number) dAX12_number_q0 7 rfl
theorem dX12_number_14 : decode cX12_number 14 = .ok (.aload_n 0, 1) := dc_at (f := decode cX12_number) dAX12_number_q0 8 rfl
theorem dX12_number_15 : decode cX12_number 15 = .ok (.getfield 41, 3) := dc_at (f := decode cX12_number) dAX12_number_q0 9 rfl
theorem dX12_number_18 : decode cX12_number 18 = .ok (.i2l, 1) := dc_at (f := decode cX12_number) dAX12_number_q0 10 rfl
theorem dX12_number_19 : decode cX12_number 19 = .ok (.iload_n 1, 1) := dc_at (f := decode cX12_number) dAX12_number_q0 11 rfl
theorem dX12_number_20 : decode cX12_number 20 = .ok (.i2l, 1) := dc_at (f := decode cX12_number) dAX12_number_q0 12 rfl
theorem dX12_number_21 : decode cX12_number 21 = .ok (.iload_n 2, 1) := dc_at (f := decode cX12_number) dAX12_number_q0 13 rfl
theorem dX12_number_22 : decode cX12_number 22 = .ok (.i2l, 1) := dc_at (f := decode cX12_number) dAX12_number_q0 14 rfl
theorem dX12_number_23 : decode cX12_number 23 = .ok (.invokestatic 58, 3) := dc_at (f := decode cX12_number) dAX12_number_q0 15 rfl
theorem dX12_number_26 : decode cX12_number 26 = .ok (.ifCond .ne 9, 3) := dc_at (f := decode cX12_number) dAX12_number_q0 16 rfl
theorem dX12_number_29 : decode cX12_number 29 = .ok (.aload_n 0, 1) := dc_at (f := decode cX12_number) dAX12_number_q0 17 rfl
theorem dX12_number_30 : decode cX12_number 30 = .ok (.iconst 2, 1) := dc_at (f := decode cX12_number) dAX12_number_q0 18 rfl
theorem dX12_number_31 : decode cX12_number 31 = .ok (.invokevirtual 54, 3) := dc_at (f := decode cX12_number) dAX12_number_q0 19 rfl
theorem dX12_number_34 : decode cX12_number 34 = .ok (.athrow, 1) := dc_at (f := decode cX12_number) dAX12_number_q0 20 rfl
theorem dX12_number_35 : decode cX12_number 35 = .ok (.aload_n 0, 1) := dc_at (f := decode cX12_number) dAX12_number_q0 21 rfl
theorem dX12_number_36 : decode cX12_number 36 = .ok (.getfield 41, 3) := dc_at (f := decode cX12_number) dAX12_number_q0 22 rfl
theorem dX12_number_39 : decode cX12_number 39 = .ok (.istore_n 3, 1) := dc_at (f := decode cX12_number) dAX12_number_q0 23 rfl
theorem dX12_number_40 : decode cX12_number 40 = .ok (.aload_n 0, 1) := dc_at (f := decode cX12_number) dAX12_number_q0 24 rfl
theorem dX12_number_41 : decode cX12_number 41 = .ok (.invokevirtual 62, 3) := dc_at (f := decode cX12_number) dAX12_number_q0 25 rfl
theorem dX12_number_44 : decode cX12_number 44 = .ok (.iload_n 3, 1) := dc_at (f := decode cX12_number) dAX12_number_q0 26 rfl
theorem dX12_number_45 : decode cX12_number 45 = .ok (.ireturn, 1) := dc_at (f := decode cX12_number) dAX12_number_q0 27 rfl
def dPX12_key_q0 : List (Nat × (Jvm.ClassFile.Instr × Nat)) := [(0, (.aload_n 0, 1)), (1, (.ldc 66, 2)), (3, (.invokevirtual 68, 3)), (6, (.ifCond .eq 5, 3)), (9, (.iconst 0, 1)), (10, (.ireturn, 1)), (11, (.aload_n 0, 1)), (12, (.ldc 72, 2)), (14, (.invokevirtual 68, 3)), (17, (.ifCond .eq 5, 3)), (20, (.iconst 1, 1)), (21, (.ireturn, 1)), (22, (.aload_n 0, 1)), (23, (.ldc 74, 2)), (25, (.invokevirtual 68, 3)), (28, (.ifCond .eq 5, 3)), (31, (.iconst 2, 1)), (32, (.ireturn, 1)), (33, (.aload_n 0, 1)), (34, (.ldc 76, 2)), (36, (.invokevirtual 68, 3)), (39, (.ifCond .eq 5, 3)), (42, (.iconst 3, 1)), (43, (.ireturn, 1)), (44, (.aload_n 0, 1)), (45, (.ldc 78, 2)), (47, (.invokevirtual 68, 3)), (50, (.ifCond .eq 5, 3)), (53, (.iconst 4, 1)), (54, (.ireturn, 1)), (55, (.aload_n 0, 1)), (56, (.ldc 80, 2)), (58, (.invokevirtual 68, 3)), (61, (.ifCond .eq 7, 3)), (64, (.iconst 5, 1)), (65, (.goto 4, 3)), (68, (.iconst (-1), 1)), (69, (.ireturn, 1))]
theorem dAX12_key_q0 : ∀ x ∈ dPX12_key_q0, decode cX12_key x.1 = .ok x.2 := by decide +kernel
theorem dX12_key_0 : decode cX12_key 0 = .ok (.aload_n 0, 1) := dc_at (f := decode cX12_key) dAX12_key_q0 0 rfl
theorem dX12_key_1 : decode cX12_key 1 = .ok (.ldc 66, 2) := dc_at (f := decode cX12_key) dAX12_key_q0 1 rfl
theorem dX12_key_3 : decode cX12_key 3 = .ok (.invokevirtual 68, 3) := dc_at (f := decode cX12_key) dAX12_key_q0 2 rfl
theorem dX12_key_6 : decode cX12_key 6 = .ok (.ifCond .eq 5, 3) := dc_at (f := decode cX12_key) dAX12_key_q0 3 rfl
theorem dX12_key_9 : decode cX12_key 9 = .ok (.iconst 0, 1) := dc_at (f := decode cX12_key) dAX12_key_q0 4 rfl
theorem dX12_key_10 : decode cX12_key 10 = .ok (.ireturn, 1) := dc_at (f := decode cX12_key) dAX12_key_q0 5 rfl
theorem dX12_key_11 : decode cX12_key 11 = .ok (.aload_n 0, 1) := dc_at (f := decode cX12_key) dAX12_key_q0 6 rfl
theorem dX12_key_12 : decode cX12_key 12 = .ok (.ldc 72, 2) := dc_at (f := decode cX12_key) dAX12_key_q0 7 rfl
theorem dX12_key_14 : decode cX12_key 14 = .ok (.invokevirtual 68, 3) := dc_at (f := decode cX12_key) dAX12_key_q0 8 rfl
theorem dX12_key_17 : decode cX12_key 17 = .ok (.ifCond .eq 5, 3) := dc_at (f := decode cX12_key) dAX12_key_q0 9 rfl
theorem dX12_key_20 : decode cX12_key 20 = .ok (.iconst 1, 1) := dc_at (f := decode cX12_key) dAX12_key_q0 10 rfl
theorem dX12_key_21 : decode cX12_key 21 = .ok (.ireturn, 1) := dc_at (f := decode cX12_key) dAX12_key_q0 11 rfl
theorem dX12_key_22 : decode cX12_key 22 = .ok (.aload_n 0, 1) := dc_at (f := decode cX12_key) dAX12_key_q0 12 rfl
theorem dX12_key_23 : decode cX12_key 23 = .ok (.ldc 74, 2) := dc_at (f := decode cX12_key) dAX12_key_q0 13 rfl
theorem dX12_key_25 : decode cX12_key 25 = .ok (.invokevirtual 68, 3) := dc_at (f := decode cX12_key) dAX12_key_q0 14 rfl
theorem dX12_key_28 : decode cX12_key 28 = .ok (.ifCond .eq 5, 3) := dc_at (f := decode cX12_key) dAX12_key_q0 15 rfl
theorem dX12_key_31 : decode cX12_key 31 = .ok (.iconst 2, 1) := dc_at (f := decode cX12_key) dAX12_key_q0 16 rfl
theorem dX12_key_32 : decode cX12_key 32 = .ok (.ireturn, 1) := dc_at (f := decode cX12_key) dAX12_key_q0 17 rfl
theorem dX12_key_33 : decode cX12_key 33 = .ok (.aload_n 0, 1) := dc_at (f := decode cX12_key) dAX12_key_q0 18 rfl
theorem dX12_key_34 : decode cX12_key 34 = .ok (.ldc 76, 2) := dc_at (f := decode cX12_key) dAX12_key_q0 19 rfl
theorem dX12_key_36 : decode cX12_key 36 = .ok (.invokevirtual 68, 3) := dc_at (f := decode cX12_key) dAX12_key_q0 20 rfl
theorem dX12_key_39 : decode cX12_key 39 = .ok (.ifCond .eq 5, 3) := dc_at (f := decode cX12_key) dAX12_key_q0 21 rfl
theorem dX12_key_42 : decode cX12_key 42 = .ok (.iconst 3, 1) := dc_at (f := decode cX12_key) dAX12_key_q0 22 rfl
theorem dX12_key_43 : decode cX12_key 43 = .ok (.ireturn, 1) := dc_at (f := decode cX12_key) dAX12_key_q0 23 rfl
theorem dX12_key_44 : decode cX12_key 44 = .ok (.aload_n 0, 1) := dc_at (f := decode cX12_key) dAX12_key_q0 24 rfl
theorem dX12_key_45 : decode cX12_key 45 = .ok (.ldc 78, 2) := dc_at (f := decode cX12_key) dAX12_key_q0 25 rfl
theorem dX12_key_47 : decode cX12_key 47 = .ok (.invokevirtual 68, 3) := dc_at (f := decode cX12_key) dAX12_key_q0 26 rfl
theorem dX12_key_50 : decode cX12_key 50 = .ok (.ifCond .eq 5, 3) := dc_at (f := decode cX12_key) dAX12_key_q0 27 rfl
theorem dX12_key_53 : decode cX12_key 53 = .ok (.iconst 4, 1) := dc_at (f := decode cX12_key) dAX12_key_q0 28 rfl
theorem dX12_key_54 : decode cX12_key 54 = .ok (.ireturn, 1) := dc_at (f := decode cX12_key) dAX12_key_q0 29 rfl
theorem dX12_key_55 : decode cX12_key 55 = .ok (.aload_n 0, 1) := dc_at (f := decode cX12_key) dAX12_key_q0 30 rfl
theorem dX12_key_56 : decode cX12_key 56 = .ok (.ldc 80, 2) := dc_at (f := decode cX12_key) dAX12_key_q0 31 rfl
theorem dX12_key_58 : decode cX12_key 58 = .ok (.invokevirtual 68, 3) := dc_at (f := decode cX12_key) dAX12_key_q0 32 rfl
theorem dX12_key_61 : decode cX12_key 61 = .ok (.ifCond .eq 7, 3) := dc_at (f := decode cX12_key) dAX12_key_q0 33 rfl
theorem dX12_key_64 : decode cX12_key 64 = .ok (.iconst 5, 1) := dc_at (f := decode cX12_key) dAX12_key_q0 34 rfl
theorem dX12_key_65 : decode cX12_key 65 = .ok (.goto 4, 3) := dc_at (f := decode cX12_key) dAX12_key_q0 35 rfl
theorem dX12_key_68 : decode cX12_key 68 = .ok (.iconst (-1), 1) := dc_at (f := decode cX12_key) dAX12_key_q0 36 rfl
theorem dX12_key_69 : decode cX12_key 69 = .ok (.ireturn, 1) := dc_at (f := decode cX12_key) dAX12_key_q0 37 rfl
def dPX12_readTrust_q0 : List (Nat × (Jvm.ClassFile.Instr × Nat)) := [(0, (.iconst 0, 1)), (1, (.istore_n 1, 1)), (2, (.iload_n 1, 1)), (3, (.bipush 9, 2)), (5, (.if_icmp .ge 20, 3)), (8, (.aload_n 0, 1)), (9, (.getfield 82, 3)), (12, (.iload_n 1, 1)), (13, (.getstatic 86, 3)), (16, (.iload_n 1, 1)), (17, (.iaload, 1)), (18, (.iastore, 1)), (19, (.iinc 1 1, 3)), (22, (.goto (-20), 3)), (25, (.iconst 0, 1)), (26, (.istore_n 1, 1)), (27, (.iload_n 1, 1)), (28, (.aload_n 0, 1)), (29, (.getfield 89, 3)), (32, (.arraylength, 1)), (33, (.if_icmp .ge 16, 3)), (36, (.aload_n 0, 1)), (37, (.getfield 89, 3)), (40, (.iload_n 1, 1)), (41, (.iconst 0, 1)), (42, (.bastore, 1)), (43, (.iinc 1 1, 3)), (46, (.goto (-19), 3)), (49, (.iconst 0, 1)), (50, (.istore_n 1, 1)), (51, (.aload_n 0, 1)), (52, (.getfield 31, 3)), (55, (.ifCond .eq 74, 3)), (58, (.aload_n 0, 1)), (59, (.invokevirtual 93, 3)), (62, (.istore_n 2, 1)), (63, (.iload_n 2, 1)), (64, (.iconst (-1), 1)), (65, (.if_icmp .ne 9, 3)), (68, (.aload_n 0, 1)), (69, (.iconst 1, 1)), (70, (.invokevirtual 54, 3)), (73, (.athrow, 1)), (74, (.aload_n 0, 1)), (75, (.getfield 89, 3)), (78, (.iload_n 2, 1)), (79, (.baload, 1)), (80, (.ifCond .eq 9, 3))]
theorem dAX12_readTrust_q0 : ∀ x ∈ dPX12_readTrust_q0, decode cX12_readTrust x.1 = .ok x.2 := by decide +kernel
theorem dX12_readTrust_0 : decode cX12_readTrust 0 = .ok (.iconst 0, 1) := dc_at (f := decode cX12_readTrust) dAX12_readTrust_q0 0 rfl
theorem dX12_readTrust_1 : decode cX12_readTrust 1 = .ok (.istore_n 1, 1) := dc_at (f := decode cX12_readTrust) dAX12_readTrust_q0 1 rfl
theorem dX12_readTrust_2 : decode cX12_readTrust 2 = .ok (.iload_n 1, 1) := dc_at (f := decode cX12_readTrust) dAX12_readTrust_q0 2 rfl
theorem dX12_readTrust_3 : decode cX12_readTrust 3 = .ok (.bipush 9, 2) := dc_at (f := decode cX12_readTrust) dAX12_readTrust_q0 3 rfl
theorem dX12_readTrust_5 : decode cX12_readTrust 5 = .ok (.if_icmp .ge 20, 3) := dc_at (f := decode cX12_readTrust) dAX12_readTrust_q0 4 rfl
theorem dX12_readTrust_8 : decode cX12_readTrust 8 = .ok (.aload_n 0, 1) := dc_at (f := decode cX12_readTrust) dAX12_readTrust_q0 5 rfl
theorem dX12_readTrust_9 : decode cX12_readTrust 9 = .ok (.getfield 82, 3) := dc_at (f := decode cX12_readTrust) dAX12_readTrust_q0 6 rfl
theorem dX12_readTrust_12 : decode cX12_readTrust 12 = .ok (.iload_n 1, 1) := dc_at (f := decode cX12_readTrust) dAX12_readTrust_q0 7 rfl
theorem dX12_readTrust_13 : decode cX12_readTrust 13 = .ok (.getstatic 86, 3) := dc_at (f := decode cX12_readTrust) dAX12_readTrust_q0 8 rfl
theorem dX12_readTrust_16 : decode cX12_readTrust 16 = .ok (.iload_n 1, 1) := dc_at (f := decode cX12_readTrust) dAX12_readTrust_q0 9 rfl
theorem dX12_readTrust_17 : decode cX12_readTrust 17 = .ok (.iaload, 1) := dc_at (f := decode cX12_readTrust) dAX12_readTrust_q0 10 rfl
theorem dX12_readTrust_18 : decode cX12_readTrust 18 = .ok (.iastore, 1) := dc_at (f := decode cX12_readTrust) dAX12_readTrust_q0 11 rfl
theorem dX12_readTrust_19 : decode cX12_readTrust 19 = .ok (.iinc 1 1, 3) := dc_at (f := decode cX12_readTrust) dAX12_readTrust_q0 12 rfl
theorem dX12_readTrust_22 : decode cX12_readTrust 22 = .ok (.goto (-20), 3) := dc_at (f := decode cX12_readTrust) dAX12_readTrust_q0 13 rfl
theorem dX12_readTrust_25 : decode cX12_readTrust 25 = .ok (.iconst 0, 1) := dc_at (f := decode cX12_readTrust) dAX12_readTrust_q0 14 rfl
theorem dX12_readTrust_26 : decode cX12_readTrust 26 = .ok (.istore_n 1, 1) := dc_at (f := decode cX12_readTrust) dAX12_readTrust_q0 15 rfl
theorem dX12_readTrust_27 : decode cX12_readTrust 27 = .ok (.iload_n 1, 1) := dc_at (f := decode cX12_readTrust) dAX12_readTrust_q0 16 rfl
theorem dX12_readTrust_28 : decode cX12_readTrust 28 = .ok (.aload_n 0, 1) := dc_at (f := decode cX12_readTrust) dAX12_readTrust_q0 17 rfl
theorem dX12_readTrust_29 : decode cX12_readTrust 29 = .ok (.getfield 89, 3) := dc_at (f := decode cX12_readTrust) dAX12_readTrust_q0 18 rfl
theorem dX12_readTrust_32 : decode cX12_readTrust 32 = .ok (.arraylength, 1) := dc_at (f := decode cX12_readTrust) dAX12_readTrust_q0 19 rfl
theorem dX12_readTrust_33 : decode cX12_readTrust 33 = .ok (.if_icmp .ge 16, 3) := dc_at (f := decode cX12_readTrust) dAX12_readTrust_q0 20 rfl
theorem dX12_readTrust_36 : decode cX12_readTrust 36 = .ok (.aload_n 0, 1) := dc_at (f := decode cX12_readTrust) dAX12_readTrust_q0 21 rfl
theorem dX12_readTrust_37 : decode cX12_readTrust 37 = .ok (.getfield 89, 3) := dc_at (f := decode cX12_readTrust) dAX12_readTrust_q0 22 rfl
theorem dX12_readTrust_40 : decode cX12_readTrust 40 = .ok (.iload_n 1, 1) := dc_at (f := decode cX12_readTrust) dAX12_readTrust_q0 23 rfl
theorem dX12_readTrust_41 : decode cX12_readTrust 41 = .ok (.iconst 0, 1) := dc_at (f := decode cX12_readTrust) dAX12_readTrust_q0 24 rfl
theorem dX12_readTrust_42 : decode cX12_readTrust 42 = .ok (.bastore, 1) := dc_at (f := decode cX12_readTrust) dAX12_readTrust_q0 25 rfl
theorem dX12_readTrust_43 : decode cX12_readTrust 43 = .ok (.iinc 1 1, 3) := dc_at (f := decode cX12_readTrust) dAX12_readTrust_q0 26 rfl
theorem dX12_readTrust_46 : decode cX12_readTrust 46 = .ok (.goto (-19), 3) := dc_at (f := decode cX12_readTrust) dAX12_readTrust_q0 27 rfl
theorem dX12_readTrust_49 : decode cX12_readTrust 49 = .ok (.iconst 0, 1) := dc_at (f := decode cX12_readTrust) dAX12_readTrust_q0 28 rfl
theorem dX12_readTrust_50 : decode cX12_readTrust 50 = .ok (.istore_n 1, 1) := dc_at (f := decode cX12_readTrust) dAX12_readTrust_q0 29 rfl
theorem dX12_readTrust_51 : decode cX12_readTrust 51 = .ok (.aload_n 0, 1) := dc_at (f := decode cX12_readTrust) dAX12_readTrust_q0 30 rfl
theorem dX12_readTrust_52 : decode cX12_readTrust 52 = .ok (.getfield 31, 3) := dc_at (f := decode cX12_readTrust) dAX12_readTrust_q0 31 rfl
theorem dX12_readTrust_55 : decode cX12_readTrust 55 = .ok (.ifCond .eq 74, 3) := dc_at (f := decode cX12_readTrust) dAX12_readTrust_q0 32 rfl
theorem dX12_readTrust_58 : decode cX12_readTrust 58 = .ok (.aload_n 0, 1) := dc_at (f := decode cX12_readTrust) dAX12_readTrust_q0 33 rfl
theorem dX12_readTrust_59 : decode cX12_readTrust 59 = .ok (.invokevirtual 93, 3) := dc_at (f := decode cX12_readTrust) dAX12_readTrust_q0 34 rfl
theorem dX12_readTrust_62 : decode cX12_readTrust 62 = .ok (.istore_n 2, 1) := dc_at (f := decode cX12_readTrust) dAX12_readTrust_q0 35 rfl
theorem dX12_readTrust_63 : decode cX12_readTrust 63 = .ok (.iload_n 2, 1) := dc_at (f := decode cX12_readTrust) dAX12_readTrust_q0 36 rfl
theorem dX12_readTrust_64 : decode cX12_readTrust 64 = .ok (.iconst (-1), 1) := dc_at (f := decode cX12_readTrust) dAX12_readTrust_q0 37 rfl
theorem dX12_readTrust_65 : decode cX12_readTrust 65 = .ok (.if_icmp .ne 9, 3) := dc_at (f := decode cX12_readTrust) dAX12_readTrust_q0 38 rfl
theorem dX12_readTrust_68 : decode cX12_readTrust 68 = .ok (.aload_n 0, 1) := dc_at (f := decode cX12_readTrust) dAX12_readTrust_q0 39 rfl
theorem dX12_readTrust_69 : decode cX12_readTrust 69 = .ok (.iconst 1, 1) := dc_at (f := decode cX12_readTrust) dAX12_readTrust_q0 40 rfl
theorem dX12_readTrust_70 : decode cX12_readTrust 70 = .ok (.invokevirtual 54, 3) := dc_at (f := decode cX12_readTrust) dAX12_readTrust_q0 41 rfl
theorem dX12_readTrust_73 : decode cX12_readTrust 73 = .ok (.athrow, 1) := dc_at (f := decode cX12_readTrust) dAX12_readTrust_q0 42 rfl
theorem dX12_readTrust_74 : decode cX12_readTrust 74 = .ok (.aload_n 0, 1) := dc_at (f := decode cX12_readTrust) dAX12_readTrust_q0 43 rfl
theorem dX12_readTrust_75 : decode cX12_readTrust 75 = .ok (.getfield 89, 3) := dc_at (f := decode cX12_readTrust) dAX12_readTrust_q0 44 rfl
theorem dX12_readTrust_78 : decode cX12_readTrust 78 = .ok (.iload_n 2, 1) := dc_at (f := decode cX12_readTrust) dAX12_readTrust_q0 45 rfl
theorem dX12_readTrust_79 : decode cX12_readTrust 79 = .ok (.baload, 1) := dc_at (f := decode cX12_readTrust) dAX12_readTrust_q0 46 rfl
theorem dX12_readTrust_80 : decode cX12_readTrust 80 = .ok (.ifCond .eq 9, 3) := dc_at (f := decode cX12_readTrust) dAX12_readTrust_q0 47 rfl
def dPX12_readTrust_q1 : List (Nat × (Jvm.ClassFile.Instr × Nat)) := [(83, (.aload_n 0, 1)), (84, (.iconst 3, 1)), (85, (.invokevirtual 54, 3)), (88, (.athrow, 1)), (89, (.aload_n 0, 1)), (90, (.getfield 89, 3)), (93, (.iload_n 2, 1)), (94, (.iconst 1, 1)), (95, (.bastore, 1)), (96, (.aload_n 0, 1)), (97, (.invokevirtual 62, 3)), (100, (.aload_n 0, 1)), (101, (.iload_n 2, 1)), (102, (.invokevirtual 96, 3)), (105, (.aload_n 0, 1)), (106, (.getfield 31, 3)), (109, (.iconst 3, 1)), (110, (.if_icmp .eq 9, 3)), (113, (.aload_n 0, 1)), (114, (.iconst 1, 1)), (115, (.invokevirtual 54, 3)), (118, (.athrow, 1)), (119, (.aload_n 0, 1)), (120, (.invokevirtual 62, 3)), (123, (.iinc 1 1, 3)), (126, (.goto (-75), 3)), (129, (.iload_n 1, 1)), (130, (.ireturn, 1))]
theorem dAX12_readTrust_q1 : ∀ x ∈ dPX12_readTrust_q1, decode cX12_readTrust x.1 = .ok x.2 := by decide +kernel
theorem dX12_readTrust_83 : decode cX12_readTrust 83 = .ok (.aload_n 0, 1) := dc_at (f := decode cX12_readTrust) dAX12_readTrust_q1 0 rfl
theorem dX12_readTrust_84 : decode cX12_readTrust 84 = .ok (.iconst 3, 1) := dc_at (f := decode cX12_readTrust) dAX12_readTrust_q1 1 rfl
theorem dX12_readTrust_85 : decode cX12_readTrust 85 = .ok (.invokevirtual 54, 3) := dc_at (f := decode cX12_readTrust) dAX12_readTrust_q1 2 rfl
theorem dX12_readTrust_88 : decode cX12_readTrust 88 = .ok (.athrow, 1) := dc_at (f := decode cX12_readTrust) dAX12_readTrust_q1 3 rfl
theorem dX12_readTrust_89 : decode cX12_readTrust 89 = .ok (.aload_n 0, 1) := dc_at (f := decode cX12_readTrust) dAX12_readTrust_q1 4 rfl
theorem dX12_readTrust_90 : decode cX12_readTrust 90 = .ok (.getfield 89, 3) := dc_at (f := decode cX12_readTrust) dAX12_readTrust_q1 5 rfl
theorem dX12_readTrust_93 : decode cX12_readTrust 93 = .ok (.iload_n 2, 1) := dc_at (f := decode cX12_readTrust) dAX12_readTrust_q1 6 rfl
theorem dX12_readTrust_94 : decode cX12_readTrust 94 = .ok (.iconst 1, 1) := dc_at (f := decode cX12_readTrust) dAX12_readTrust_q1 7 rfl
theorem dX12_readTrust_95 : decode cX12_readTrust 95 = .ok (.bastore, 1) := dc_at (f := decode cX12_readTrust) dAX12_readTrust_q1 8 rfl
theorem dX12_readTrust_96 : decode cX12_readTrust 96 = .ok (.aload_n 0, 1) := dc_at (f := decode cX12_readTrust) dAX12_readTrust_q1 9 rfl
theorem dX12_readTrust_97 : decode cX12_readTrust 97 = .ok (.invokevirtual 62, 3) := dc_at (f := decode cX12_readTrust) dAX12_readTrust_q1 10 rfl
theorem dX12_readTrust_100 : decode cX12_readTrust 100 = .ok (.aload_n 0, 1) := dc_at (f := decode cX12_readTrust) dAX12_readTrust_q1 11 rfl
theorem dX12_readTrust_101 : decode cX12_readTrust 101 = .ok (.iload_n 2, 1) := dc_at (f := decode cX12_readTrust) dAX12_readTrust_q1 12 rfl
theorem dX12_readTrust_102 : decode cX12_readTrust 102 = .ok (.invokevirtual 96, 3) := dc_at (f := decode cX12_readTrust) dAX12_readTrust_q1 13 rfl
theorem dX12_readTrust_105 : decode cX12_readTrust 105 = .ok (.aload_n 0, 1) := dc_at (f := decode cX12_readTrust) dAX12_readTrust_q1 14 rfl
theorem dX12_readTrust_106 : decode cX12_readTrust 106 = .ok (.getfield 31, 3) := dc_at (f := decode cX12_readTrust) dAX12_readTrust_q1 15 rfl
theorem dX12_readTrust_109 : decode cX12_readTrust 109 = .ok (.iconst 3, 1) := dc_at (f := decode cX12_readTrust) dAX12_readTrust_q1 16 rfl
theorem dX12_readTrust_110 : decode cX12_readTrust 110 = .ok (.if_icmp .eq 9, 3) := dc_at (f := decode cX12_readTrust) dAX12_readTrust_q1 17 rfl
theorem dX12_readTrust_113 : decode cX12_readTrust 113 = .ok (.aload_n 0, 1) := dc_at (f := decode cX12_readTrust) dAX12_readTrust_q1 18 rfl
theorem dX12_readTrust_114 : decode cX12_readTrust 114 = .ok (.iconst 1, 1) := dc_at (f := decode cX12_readTrust) dAX12_readTrust_q1 19 rfl
theorem dX12_readTrust_115 : decode cX12_readTrust 115 = .ok (.invokevirtual 54, 3) := dc_at (f := decode cX12_readTrust) dAX12_readTrust_q1 20 rfl
theorem dX12_readTrust_118 : decode cX12_readTrust 118 = .ok (.athrow, 1) := dc_at (f := decode cX12_readTrust) dAX12_readTrust_q1 21 rfl
theorem dX12_readTrust_119 : decode cX12_readTrust 119 = .ok (.aload_n 0, 1) := dc_at (f := decode cX12_readTrust) dAX12_readTrust_q1 22 rfl
theorem dX12_readTrust_120 : decode cX12_readTrust 120 = .ok (.invokevirtual 62, 3) := dc_at (f := decode cX12_readTrust) dAX12_readTrust_q1 23 rfl
theorem dX12_readTrust_123 : decode cX12_readTrust 123 = .ok (.iinc 1 1, 3) := dc_at (f := decode cX12_readTrust) dAX12_readTrust_q1 24 rfl
theorem dX12_readTrust_126 : decode cX12_readTrust 126 = .ok (.goto (-75), 3) := dc_at (f := decode cX12_readTrust) dAX12_readTrust_q1 25 rfl
theorem dX12_readTrust_129 : decode cX12_readTrust 129 = .ok (.iload_n 1, 1) := dc_at (f := decode cX12_readTrust) dAX12_readTrust_q1 26 rfl
theorem dX12_readTrust_130 : decode cX12_readTrust 130 = .ok (.ireturn, 1) := dc_at (f := decode cX12_readTrust) dAX12_readTrust_q1 27 rfl
def dPX12_readLine_q0 : List (Nat × (Jvm.ClassFile.Instr × Nat)) := [(0, (.iload_n 1, 1)), (1, (.tableswitch 156 0 4 #[35, 77, 93, 109, 139], 35)), (36, (.aload_n 0, 1)), (37, (.getfield 82, 3)), (40, (.iconst 0, 1)), (41, (.aload_n 0, 1)), (42, (.iconst 0, 1)), (43, (.bipush 100, 2)), (45, (.invokevirtual 100, 3)), (48, (.iastore, 1)), (49, (.aload_n 0, 1)), (50, (.getfield 82, 3)), (53, (.iconst 1, 1)), (54, (.aload_n 0, 1)), (55, (.iconst 0, 1)), (56, (.ldc 104, 2)), (58, (.invokevirtual 100, 3)), (61, (.iastore, 1)), (62, (.aload_n 0, 1)), (63, (.getfield 82, 3)), (66, (.iconst 2, 1)), (67, (.aload_n 0, 1)), (68, (.iconst 0, 1)), (69, (.bipush 119, 2)), (71, (.invokevirtual 100, 3)), (74, (.iastore, 1)), (75, (.goto 131, 3)), (78, (.aload_n 0, 1)), (79, (.getfield 82, 3)), (82, (.iconst 3, 1)), (83, (.aload_n 0, 1)), (84, (.iconst 0, 1)), (85, (.bipush 50, 2)), (87, (.invokevirtual 100, 3)), (90, (.iastore, 1)), (91, (.goto 115, 3)), (94, (.aload_n 0, 1)), (95, (.getfield 82, 3)), (98, (.iconst 4, 1)), (99, (.aload_n 0, 1)), (100, (.iconst 1, 1)), (101, (.bipush 12, 2)), (103, (.invokevirtual 100, 3)), (106, (.iastore, 1)), (107, (.goto 99, 3)), (110, (.aload_n 0, 1)), (111, (.getfield 82, 3)), (114, (.iconst 5, 1))]
theorem dAX12_readLine_q0 : ∀ x ∈ dPX12_readLine_q0, decode cX12_readLine x.1 = .ok x.2 := by decide +kernel
theorem dX12_readLine_0 : decode cX12_readLine 0 = .ok (.iload_n 1, 1) := dc_at (f := decode cX12_readLine) dAX12_readLine_q0 0 rfl
theorem dX12_readLine_1 : decode cX12_readLine 1 = .ok (.tableswitch 156 0 4 #[35, 77, 93, 109, 139], 35) := dc_at (f := decode cX12_readLine) dAX12_readLine_q0 1 rfl
theorem dX12_readLine_36 : decode cX12_readLine 36 = .ok (.aload_n 0, 1) := dc_at (f := decode cX12_readLine) dAX12_readLine_q0 2 rfl
theorem dX12_readLine_37 : decode cX12_readLine 37 = .ok (.getfield 82, 3) := dc_at (f := decode cX12_readLine) dAX12_readLine_q0 3 rfl
theorem dX12_readLine_40 : decode cX12_readLine 40 = .ok (.iconst 0, 1) := dc_at (f := decode cX12_readLine) dAX12_readLine_q0 4 rfl
theorem dX12_readLine_41 : decode cX12_readLine 41 = .ok (.aload_n 0, 1) := dc_at (f := decode cX12_readLine) dAX12_readLine_q0 5 rfl
theorem dX12_readLine_42 : decode cX12_readLine 42 = .ok (.iconst 0, 1) := dc_at (f := decode cX12_readLine) dAX12_readLine_q0 6 rfl
theorem dX12_readLine_43 : decode cX12_readLine 43 = .ok (.bipush 100, 2) := dc_at (f := decode cX12_readLine) dAX12_readLine_q0 7 rfl
theorem dX12_readLine_45 : decode cX12_readLine 45 = .ok (.invokevirtual 100, 3) := dc_at (f := decode cX12_readLine) dAX12_readLine_q0 8 rfl
theorem dX12_readLine_48 : decode cX12_readLine 48 = .ok (.iastore, 1) := dc_at (f := decode cX12_readLine) dAX12_readLine_q0 9 rfl
theorem dX12_readLine_49 : decode cX12_readLine 49 = .ok (.aload_n 0, 1) := dc_at (f := decode cX12_readLine) dAX12_readLine_q0 10 rfl
theorem dX12_readLine_50 : decode cX12_readLine 50 = .ok (.getfield 82, 3) := dc_at (f := decode cX12_readLine) dAX12_readLine_q0 11 rfl
theorem dX12_readLine_53 : decode cX12_readLine 53 = .ok (.iconst 1, 1) := dc_at (f := decode cX12_readLine) dAX12_readLine_q0 12 rfl
theorem dX12_readLine_54 : decode cX12_readLine 54 = .ok (.aload_n 0, 1) := dc_at (f := decode cX12_readLine) dAX12_readLine_q0 13 rfl
theorem dX12_readLine_55 : decode cX12_readLine 55 = .ok (.iconst 0, 1) := dc_at (f := decode cX12_readLine) dAX12_readLine_q0 14 rfl
theorem dX12_readLine_56 : decode cX12_readLine 56 = .ok (.ldc 104, 2) := dc_at (f := decode cX12_readLine) dAX12_readLine_q0 15 rfl
theorem dX12_readLine_58 : decode cX12_readLine 58 = .ok (.invokevirtual 100, 3) := dc_at (f := decode cX12_readLine) dAX12_readLine_q0 16 rfl
theorem dX12_readLine_61 : decode cX12_readLine 61 = .ok (.iastore, 1) := dc_at (f := decode cX12_readLine) dAX12_readLine_q0 17 rfl
theorem dX12_readLine_62 : decode cX12_readLine 62 = .ok (.aload_n 0, 1) := dc_at (f := decode cX12_readLine) dAX12_readLine_q0 18 rfl
theorem dX12_readLine_63 : decode cX12_readLine 63 = .ok (.getfield 82, 3) := dc_at (f := decode cX12_readLine) dAX12_readLine_q0 19 rfl
theorem dX12_readLine_66 : decode cX12_readLine 66 = .ok (.iconst 2, 1) := dc_at (f := decode cX12_readLine) dAX12_readLine_q0 20 rfl
theorem dX12_readLine_67 : decode cX12_readLine 67 = .ok (.aload_n 0, 1) := dc_at (f := decode cX12_readLine) dAX12_readLine_q0 21 rfl
theorem dX12_readLine_68 : decode cX12_readLine 68 = .ok (.iconst 0, 1) := dc_at (f := decode cX12_readLine) dAX12_readLine_q0 22 rfl
theorem dX12_readLine_69 : decode cX12_readLine 69 = .ok (.bipush 119, 2) := dc_at (f := decode cX12_readLine) dAX12_readLine_q0 23 rfl
theorem dX12_readLine_71 : decode cX12_readLine 71 = .ok (.invokevirtual 100, 3) := dc_at (f := decode cX12_readLine) dAX12_readLine_q0 24 rfl
theorem dX12_readLine_74 : decode cX12_readLine 74 = .ok (.iastore, 1) := dc_at (f := decode cX12_readLine) dAX12_readLine_q0 25 rfl
theorem dX12_readLine_75 : decode cX12_readLine 75 = .ok (.goto 131, 3) := dc_at (f := decode cX12_readLine) dAX12_readLine_q0 26 rfl
theorem dX12_readLine_78 : decode cX12_readLine 78 = .ok (.aload_n 0, 1) := dc_at (f := decode cX12_readLine) dAX12_readLine_q0 27 rfl
theorem dX12_readLine_79 : decode cX12_readLine 79 = .ok (.getfield 82, 3) := dc_at (f := decode cX12_readLine) dAX12_readLine_q0 28 rfl
theorem dX12_readLine_82 : decode cX12_readLine 82 = .ok (.iconst 3, 1) := dc_at (f := decode cX12_readLine) dAX12_readLine_q0 29 rfl
theorem dX12_readLine_83 : decode cX12_readLine 83 = .ok (.aload_n 0, 1) := dc_at (f := decode cX12_readLine) dAX12_readLine_q0 30 rfl
theorem dX12_readLine_84 : decode cX12_readLine 84 = .ok (.iconst 0, 1) := dc_at (f := decode cX12_readLine) dAX12_readLine_q0 31 rfl
theorem dX12_readLine_85 : decode cX12_readLine 85 = .ok (.bipush 50, 2) := dc_at (f := decode cX12_readLine) dAX12_readLine_q0 32 rfl
theorem dX12_readLine_87 : decode cX12_readLine 87 = .ok (.invokevirtual 100, 3) := dc_at (f := decode cX12_readLine) dAX12_readLine_q0 33 rfl
theorem dX12_readLine_90 : decode cX12_readLine 90 = .ok (.iastore, 1) := dc_at (f := decode cX12_readLine) dAX12_readLine_q0 34 rfl
theorem dX12_readLine_91 : decode cX12_readLine 91 = .ok (.goto 115, 3) := dc_at (f := decode cX12_readLine) dAX12_readLine_q0 35 rfl
theorem dX12_readLine_94 : decode cX12_readLine 94 = .ok (.aload_n 0, 1) := dc_at (f := decode cX12_readLine) dAX12_readLine_q0 36 rfl
theorem dX12_readLine_95 : decode cX12_readLine 95 = .ok (.getfield 82, 3) := dc_at (f := decode cX12_readLine) dAX12_readLine_q0 37 rfl
theorem dX12_readLine_98 : decode cX12_readLine 98 = .ok (.iconst 4, 1) := dc_at (f := decode cX12_readLine) dAX12_readLine_q0 38 rfl
theorem dX12_readLine_99 : decode cX12_readLine 99 = .ok (.aload_n 0, 1) := dc_at (f := decode cX12_readLine) dAX12_readLine_q0 39 rfl
theorem dX12_readLine_100 : decode cX12_readLine 100 = .ok (.iconst 1, 1) := dc_at (f := decode cX12_readLine) dAX12_readLine_q0 40 rfl
theorem dX12_readLine_101 : decode cX12_readLine 101 = .ok (.bipush 12, 2) := dc_at (f := decode cX12_readLine) dAX12_readLine_q0 41 rfl
theorem dX12_readLine_103 : decode cX12_readLine 103 = .ok (.invokevirtual 100, 3) := dc_at (f := decode cX12_readLine) dAX12_readLine_q0 42 rfl
theorem dX12_readLine_106 : decode cX12_readLine 106 = .ok (.iastore, 1) := dc_at (f := decode cX12_readLine) dAX12_readLine_q0 43 rfl
theorem dX12_readLine_107 : decode cX12_readLine 107 = .ok (.goto 99, 3) := dc_at (f := decode cX12_readLine) dAX12_readLine_q0 44 rfl
theorem dX12_readLine_110 : decode cX12_readLine 110 = .ok (.aload_n 0, 1) := dc_at (f := decode cX12_readLine) dAX12_readLine_q0 45 rfl
theorem dX12_readLine_111 : decode cX12_readLine 111 = .ok (.getfield 82, 3) := dc_at (f := decode cX12_readLine) dAX12_readLine_q0 46 rfl
theorem dX12_readLine_114 : decode cX12_readLine 114 = .ok (.iconst 5, 1) := dc_at (f := decode cX12_readLine) dAX12_readLine_q0 47 rfl
def dPX12_readLine_q1 : List (Nat × (Jvm.ClassFile.Instr × Nat)) := [(115, (.aload_n 0, 1)), (116, (.iconst 0, 1)), (117, (.ldc 104, 2)), (119, (.invokevirtual 100, 3)), (122, (.iastore, 1)), (123, (.aload_n 0, 1)), (124, (.getfield 82, 3)), (127, (.bipush 6, 2)), (129, (.aload_n 0, 1)), (130, (.iconst 0, 1)), (131, (.bipush 10, 2)), (133, (.invokevirtual 100, 3)), (136, (.iastore, 1)), (137, (.goto 69, 3)), (140, (.aload_n 0, 1)), (141, (.getfield 82, 3)), (144, (.bipush 7, 2)), (146, (.aload_n 0, 1)), (147, (.iconst 1, 1)), (148, (.ldc 104, 2)), (150, (.invokevirtual 100, 3)), (153, (.iastore, 1)), (154, (.goto 52, 3)), (157, (.aload_n 0, 1)), (158, (.ldc 105, 2)), (160, (.invokevirtual 68, 3)), (163, (.ifCond .ne 18, 3)), (166, (.aload_n 0, 1)), (167, (.ldc 107, 2)), (169, (.invokevirtual 68, 3)), (172, (.ifCond .ne 9, 3)), (175, (.aload_n 0, 1)), (176, (.iconst 1, 1)), (177, (.invokevirtual 54, 3)), (180, (.athrow, 1)), (181, (.aload_n 0, 1)), (182, (.getfield 82, 3)), (185, (.bipush 8, 2)), (187, (.aload_n 0, 1)), (188, (.ldc 105, 2)), (190, (.invokevirtual 68, 3)), (193, (.ifCond .eq 7, 3)), (196, (.iconst 1, 1)), (197, (.goto 4, 3)), (200, (.iconst 0, 1)), (201, (.iastore, 1)), (202, (.aload_n 0, 1)), (203, (.invokevirtual 62, 3))]
theorem dAX12_readLine_q1 : ∀ x ∈ dPX12_readLine_q1, decode cX12_readLine x.1 = .ok x.2 := by decide +kernel
theorem dX12_readLine_115 : decode cX12_readLine 115 = .ok (.aload_n 0, 1) := dc_at (f := decode cX12_readLine) dAX12_readLine_q1 0 rfl
theorem dX12_readLine_116 : decode cX12_readLine 116 = .ok (.iconst 0, 1) := dc_at (f := decode cX12_readLine) dAX12_readLine_q1 1 rfl
theorem dX12_readLine_117 : decode cX12_readLine 117 = .ok (.ldc 104, 2) := dc_at (f := decode cX12_readLine) dAX12_readLine_q1 2 rfl
theorem dX12_readLine_119 : decode cX12_readLine 119 = .ok (.invokevirtual 100, 3) := dc_at (f := decode cX12_readLine) dAX12_readLine_q1 3 rfl
theorem dX12_readLine_122 : decode cX12_readLine 122 = .ok (.iastore, 1) := dc_at (f := decode cX12_readLine) dAX12_readLine_q1 4 rfl
theorem dX12_readLine_123 : decode cX12_readLine 123 = .ok (.aload_n 0, 1) := dc_at (f := decode cX12_readLine) dAX12_readLine_q1 5 rfl
theorem dX12_readLine_124 : decode cX12_readLine 124 = .ok (.getfield 82, 3) := dc_at (f := decode cX12_readLine) dAX12_readLine_q1 6 rfl
theorem dX12_readLine_127 : decode cX12_readLine 127 = .ok (.bipush 6, 2) := dc_at (f := decode cX12_readLine) dAX12_readLine_q1 7 rfl
theorem dX12_readLine_129 : decode cX12_readLine 129 = .ok (.aload_n 0, 1) := dc_at (f := decode cX12_readLine) dAX12_readLine_q1 8 rfl
theorem dX12_readLine_130 : decode cX12_readLine 130 = .ok (.iconst 0, 1) := dc_at (f := decode cX12_readLine) dAX12_readLine_q1 9 rfl
theorem dX12_readLine_131 : decode cX12_readLine 131 = .ok (.bipush 10, 2) := dc_at (f := decode cX12_readLine) dAX12_readLine_q1 10 rfl
theorem dX12_readLine_133 : decode cX12_readLine 133 = .ok (.invokevirtual 100, 3) := dc_at (f := decode cX12_readLine) dAX12_readLine_q1 11 rfl
theorem dX12_readLine_136 : decode cX12_readLine 136 = .ok (.iastore, 1) := dc_at (f := decode cX12_readLine) dAX12_readLine_q1 12 rfl
theorem dX12_readLine_137 : decode cX12_readLine 137 = .ok (.goto 69, 3) := dc_at (f := decode cX12_readLine) dAX12_readLine_q1 13 rfl
theorem dX12_readLine_140 : decode cX12_readLine 140 = .ok (.aload_n 0, 1) := dc_at (f := decode cX12_readLine) dAX12_readLine_q1 14 rfl
theorem dX12_readLine_141 : decode cX12_readLine 141 = .ok (.getfield 82, 3) := dc_at (f := decode cX12_readLine) dAX12_readLine_q1 15 rfl
theorem dX12_readLine_144 : decode cX12_readLine 144 = .ok (.bipush 7, 2) := dc_at (f := decode cX12_readLine) dAX12_readLine_q1 16 rfl
theorem dX12_readLine_146 : decode cX12_readLine 146 = .ok (.aload_n 0, 1) := dc_at (f := decode cX12_readLine) dAX12_readLine_q1 17 rfl
theorem dX12_readLine_147 : decode cX12_readLine 147 = .ok (.iconst 1, 1) := dc_at (f := decode cX12_readLine) dAX12_readLine_q1 18 rfl
theorem dX12_readLine_148 : decode cX12_readLine 148 = .ok (.ldc 104, 2) := dc_at (f := decode cX12_readLine) dAX12_readLine_q1 19 rfl
theorem dX12_readLine_150 : decode cX12_readLine 150 = .ok (.invokevirtual 100, 3) := dc_at (f := decode cX12_readLine) dAX12_readLine_q1 20 rfl
theorem dX12_readLine_153 : decode cX12_readLine 153 = .ok (.iastore, 1) := dc_at (f := decode cX12_readLine) dAX12_readLine_q1 21 rfl
theorem dX12_readLine_154 : decode cX12_readLine 154 = .ok (.goto 52, 3) := dc_at (f := decode cX12_readLine) dAX12_readLine_q1 22 rfl
theorem dX12_readLine_157 : decode cX12_readLine 157 = .ok (.aload_n 0, 1) := dc_at (f := decode cX12_readLine) dAX12_readLine_q1 23 rfl
theorem dX12_readLine_158 : decode cX12_readLine 158 = .ok (.ldc 105, 2) := dc_at (f := decode cX12_readLine) dAX12_readLine_q1 24 rfl
theorem dX12_readLine_160 : decode cX12_readLine 160 = .ok (.invokevirtual 68, 3) := dc_at (f := decode cX12_readLine) dAX12_readLine_q1 25 rfl
theorem dX12_readLine_163 : decode cX12_readLine 163 = .ok (.ifCond .ne 18, 3) := dc_at (f := decode cX12_readLine) dAX12_readLine_q1 26 rfl
theorem dX12_readLine_166 : decode cX12_readLine 166 = .ok (.aload_n 0, 1) := dc_at (f := decode cX12_readLine) dAX12_readLine_q1 27 rfl
theorem dX12_readLine_167 : decode cX12_readLine 167 = .ok (.ldc 107, 2) := dc_at (f := decode cX12_readLine) dAX12_readLine_q1 28 rfl
theorem dX12_readLine_169 : decode cX12_readLine 169 = .ok (.invokevirtual 68, 3) := dc_at (f := decode cX12_readLine) dAX12_readLine_q1 29 rfl
theorem dX12_readLine_172 : decode cX12_readLine 172 = .ok (.ifCond .ne 9, 3) := dc_at (f := decode cX12_readLine) dAX12_readLine_q1 30 rfl
theorem dX12_readLine_175 : decode cX12_readLine 175 = .ok (.aload_n 0, 1) := dc_at (f := decode cX12_readLine) dAX12_readLine_q1 31 rfl
theorem dX12_readLine_176 : decode cX12_readLine 176 = .ok (.iconst 1, 1) := dc_at (f := decode cX12_readLine) dAX12_readLine_q1 32 rfl
theorem dX12_readLine_177 : decode cX12_readLine 177 = .ok (.invokevirtual 54, 3) := dc_at (f := decode cX12_readLine) dAX12_readLine_q1 33 rfl
theorem dX12_readLine_180 : decode cX12_readLine 180 = .ok (.athrow, 1) := dc_at (f := decode cX12_readLine) dAX12_readLine_q1 34 rfl
theorem dX12_readLine_181 : decode cX12_readLine 181 = .ok (.aload_n 0, 1) := dc_at (f := decode cX12_readLine) dAX12_readLine_q1 35 rfl
theorem dX12_readLine_182 : decode cX12_readLine 182 = .ok (.getfield 82, 3) := dc_at (f := decode cX12_readLine) dAX12_readLine_q1 36 rfl
theorem dX12_readLine_185 : decode cX12_readLine 185 = .ok (.bipush 8, 2) := dc_at (f := decode cX12_readLine) dAX12_readLine_q1 37 rfl
theorem dX12_readLine_187 : decode cX12_readLine 187 = .ok (.aload_n 0, 1) := dc_at (f := decode cX12_readLine) dAX12_readLine_q1 38 rfl
theorem dX12_readLine_188 : decode cX12_readLine 188 = .ok (.ldc 105, 2) := dc_at (f := decode cX12_readLine) dAX12_readLine_q1 39 rfl
theorem dX12_readLine_190 : decode cX12_readLine 190 = .ok (.invokevirtual 68, 3) := dc_at (f := decode cX12_readLine) dAX12_readLine_q1 40 rfl
theorem dX12_readLine_193 : decode cX12_readLine 193 = .ok (.ifCond .eq 7, 3) := dc_at (f := decode cX12_readLine) dAX12_readLine_q1 41 rfl
theorem dX12_readLine_196 : decode cX12_readLine 196 = .ok (.iconst 1, 1) := dc_at (f := decode cX12_readLine) dAX12_readLine_q1 42 rfl
theorem dX12_readLine_197 : decode cX12_readLine 197 = .ok (.goto 4, 3) := dc_at (f := decode cX12_readLine) dAX12_readLine_q1 43 rfl
theorem dX12_readLine_200 : decode cX12_readLine 200 = .ok (.iconst 0, 1) := dc_at (f := decode cX12_readLine) dAX12_readLine_q1 44 rfl
theorem dX12_readLine_201 : decode cX12_readLine 201 = .ok (.iastore, 1) := dc_at (f := decode cX12_readLine) dAX12_readLine_q1 45 rfl
theorem dX12_readLine_202 : decode cX12_readLine 202 = .ok (.aload_n 0, 1) := dc_at (f := decode cX12_readLine) dAX12_readLine_q1 46 rfl
theorem dX12_readLine_203 : decode cX12_readLine 203 = .ok (.invokevirtual 62, 3) := dc_at (f := decode cX12_readLine) dAX12_readLine_q1 47 rfl
def dPX12_readLine_q2 : List (Nat × (Jvm.ClassFile.Instr × Nat)) := [(206, (.return_, 1))]
theorem dAX12_readLine_q2 : ∀ x ∈ dPX12_readLine_q2, decode cX12_readLine x.1 = .ok x.2 := by decide +kernel
theorem dX12_readLine_206 : decode cX12_readLine 206 = .ok (.return_, 1) := dc_at (f := decode cX12_readLine) dAX12_readLine_q2 0 rfl
def dPX12_init_q0 : List (Nat × (Jvm.ClassFile.Instr × Nat)) := [(0, (.aload_n 0, 1)), (1, (.invokespecial 109, 3)), (4, (.aload_n 0, 1)), (5, (.bipush 9, 2)), (7, (.newarray .int, 2)), (9, (.putfield 114, 3)), (12, (.aload_n 0, 1)), (13, (.bipush 9, 2)), (15, (.newarray .int, 2)), (17, (.putfield 82, 3)), (20, (.aload_n 0, 1)), (21, (.new 117, 3)), (24, (.dup, 1)), (25, (.invokespecial 119, 3)), (28, (.putfield 13, 3)), (31, (.aload_n 0, 1)), (32, (.sipush 400, 3)), (35, (.newarray .byte, 2)), (37, (.putfield 20, 3)), (40, (.aload_n 0, 1)), (41, (.iconst (-1), 1)), (42, (.putfield 10, 3)), (45, (.aload_n 0, 1)), (46, (.bipush 6, 2)), (48, (.newarray .boolean, 2)), (50, (.putfield 89, 3)), (53, (.aload_n 0, 1)), (54, (.bipush 30, 2)), (56, (.newarray .int, 2)), (58, (.putfield 120, 3)), (61, (.aload_n 0, 1)), (62, (.bipush 30, 2)), (64, (.newarray .int, 2)), (66, (.putfield 123, 3)), (69, (.aload_n 0, 1)), (70, (.bipush 30, 2)), (72, (.newarray .int, 2)), (74, (.putfield 126, 3)), (77, (.aload_n 0, 1)), (78, (.bipush 30, 2)), (80, (.newarray .int, 2)), (82, (.putfield 129, 3)), (85, (.aload_n 0, 1)), (86, (.bipush 30, 2)), (88, (.newarray .boolean, 2)), (90, (.putfield 132, 3)), (93, (.aload_n 0, 1)), (94, (.bipush 60, 2))]
theorem dAX12_init_q0 : ∀ x ∈ dPX12_init_q0, decode cX12_init x.1 = .ok x.2 := by decide +kernel
theorem dX12_init_0 : decode cX12_init 0 = .ok (.aload_n 0, 1) := dc_at (f := decode cX12_init) dAX12_init_q0 0 rfl
theorem dX12_init_1 : decode cX12_init 1 = .ok (.invokespecial 109, 3) := dc_at (f := decode cX12_init) dAX12_init_q0 1 rfl
theorem dX12_init_4 : decode cX12_init 4 = .ok (.aload_n 0, 1) := dc_at (f := decode cX12_init) dAX12_init_q0 2 rfl
theorem dX12_init_5 : decode cX12_init 5 = .ok (.bipush 9, 2) := dc_at (f := decode cX12_init) dAX12_init_q0 3 rfl
theorem dX12_init_7 : decode cX12_init 7 = .ok (.newarray .int, 2) := dc_at (f := decode cX12_init) dAX12_init_q0 4 rfl
theorem dX12_init_9 : decode cX12_init 9 = .ok (.putfield 114, 3) := dc_at (f := decode cX12_init) dAX12_init_q0 5 rfl
theorem dX12_init_12 : decode cX12_init 12 = .ok (.aload_n 0, 1) := dc_at (f := decode cX12_init) dAX12_init_q0 6 rfl
theorem dX12_init_13 : decode cX12_init 13 = .ok (.bipush 9, 2) := dc_at (f := decode cX12_init) dAX12_init_q0 7 rfl
theorem dX12_init_15 : decode cX12_init 15 = .ok (.newarray .int, 2) := dc_at (f := decode cX12_init) dAX12_init_q0 8 rfl
theorem dX12_init_17 : decode cX12_init 17 = .ok (.putfield 82, 3) := dc_at (f := decode cX12_init) dAX12_init_q0 9 rfl
theorem dX12_init_20 : decode cX12_init 20 = .ok (.aload_n 0, 1) := dc_at (f := decode cX12_init) dAX12_init_q0 10 rfl
theorem dX12_init_21 : decode cX12_init 21 = .ok (.new 117, 3) := dc_at (f := decode cX12_init) dAX12_init_q0 11 rfl
theorem dX12_init_24 : decode cX12_init 24 = .ok (.dup, 1) := dc_at (f := decode cX12_init) dAX12_init_q0 12 rfl
theorem dX12_init_25 : decode cX12_init 25 = .ok (.invokespecial 119, 3) := dc_at (f := decode cX12_init) dAX12_init_q0 13 rfl
theorem dX12_init_28 : decode cX12_init 28 = .ok (.putfield 13, 3) := dc_at (f := decode cX12_init) dAX12_init_q0 14 rfl
theorem dX12_init_31 : decode cX12_init 31 = .ok (.aload_n 0, 1) := dc_at (f := decode cX12_init) dAX12_init_q0 15 rfl
theorem dX12_init_32 : decode cX12_init 32 = .ok (.sipush 400, 3) := dc_at (f := decode cX12_init) dAX12_init_q0 16 rfl
theorem dX12_init_35 : decode cX12_init 35 = .ok (.newarray .byte, 2) := dc_at (f := decode cX12_init) dAX12_init_q0 17 rfl
theorem dX12_init_37 : decode cX12_init 37 = .ok (.putfield 20, 3) := dc_at (f := decode cX12_init) dAX12_init_q0 18 rfl
theorem dX12_init_40 : decode cX12_init 40 = .ok (.aload_n 0, 1) := dc_at (f := decode cX12_init) dAX12_init_q0 19 rfl
theorem dX12_init_41 : decode cX12_init 41 = .ok (.iconst (-1), 1) := dc_at (f := decode cX12_init) dAX12_init_q0 20 rfl
theorem dX12_init_42 : decode cX12_init 42 = .ok (.putfield 10, 3) := dc_at (f := decode cX12_init) dAX12_init_q0 21 rfl
theorem dX12_init_45 : decode cX12_init 45 = .ok (.aload_n 0, 1) := dc_at (f := decode cX12_init) dAX12_init_q0 22 rfl
theorem dX12_init_46 : decode cX12_init 46 = .ok (.bipush 6, 2) := dc_at (f := decode cX12_init) dAX12_init_q0 23 rfl
theorem dX12_init_48 : decode cX12_init 48 = .ok (.newarray .boolean, 2) := dc_at (f := decode cX12_init) dAX12_init_q0 24 rfl
theorem dX12_init_50 : decode cX12_init 50 = .ok (.putfield 89, 3) := dc_at (f := decode cX12_init) dAX12_init_q0 25 rfl
theorem dX12_init_53 : decode cX12_init 53 = .ok (.aload_n 0, 1) := dc_at (f := decode cX12_init) dAX12_init_q0 26 rfl
theorem dX12_init_54 : decode cX12_init 54 = .ok (.bipush 30, 2) := dc_at (f := decode cX12_init) dAX12_init_q0 27 rfl
theorem dX12_init_56 : decode cX12_init 56 = .ok (.newarray .int, 2) := dc_at (f := decode cX12_init) dAX12_init_q0 28 rfl
theorem dX12_init_58 : decode cX12_init 58 = .ok (.putfield 120, 3) := dc_at (f := decode cX12_init) dAX12_init_q0 29 rfl
theorem dX12_init_61 : decode cX12_init 61 = .ok (.aload_n 0, 1) := dc_at (f := decode cX12_init) dAX12_init_q0 30 rfl
theorem dX12_init_62 : decode cX12_init 62 = .ok (.bipush 30, 2) := dc_at (f := decode cX12_init) dAX12_init_q0 31 rfl
theorem dX12_init_64 : decode cX12_init 64 = .ok (.newarray .int, 2) := dc_at (f := decode cX12_init) dAX12_init_q0 32 rfl
theorem dX12_init_66 : decode cX12_init 66 = .ok (.putfield 123, 3) := dc_at (f := decode cX12_init) dAX12_init_q0 33 rfl
theorem dX12_init_69 : decode cX12_init 69 = .ok (.aload_n 0, 1) := dc_at (f := decode cX12_init) dAX12_init_q0 34 rfl
theorem dX12_init_70 : decode cX12_init 70 = .ok (.bipush 30, 2) := dc_at (f := decode cX12_init) dAX12_init_q0 35 rfl
theorem dX12_init_72 : decode cX12_init 72 = .ok (.newarray .int, 2) := dc_at (f := decode cX12_init) dAX12_init_q0 36 rfl
theorem dX12_init_74 : decode cX12_init 74 = .ok (.putfield 126, 3) := dc_at (f := decode cX12_init) dAX12_init_q0 37 rfl
theorem dX12_init_77 : decode cX12_init 77 = .ok (.aload_n 0, 1) := dc_at (f := decode cX12_init) dAX12_init_q0 38 rfl
theorem dX12_init_78 : decode cX12_init 78 = .ok (.bipush 30, 2) := dc_at (f := decode cX12_init) dAX12_init_q0 39 rfl
theorem dX12_init_80 : decode cX12_init 80 = .ok (.newarray .int, 2) := dc_at (f := decode cX12_init) dAX12_init_q0 40 rfl
theorem dX12_init_82 : decode cX12_init 82 = .ok (.putfield 129, 3) := dc_at (f := decode cX12_init) dAX12_init_q0 41 rfl
theorem dX12_init_85 : decode cX12_init 85 = .ok (.aload_n 0, 1) := dc_at (f := decode cX12_init) dAX12_init_q0 42 rfl
theorem dX12_init_86 : decode cX12_init 86 = .ok (.bipush 30, 2) := dc_at (f := decode cX12_init) dAX12_init_q0 43 rfl
theorem dX12_init_88 : decode cX12_init 88 = .ok (.newarray .boolean, 2) := dc_at (f := decode cX12_init) dAX12_init_q0 44 rfl
theorem dX12_init_90 : decode cX12_init 90 = .ok (.putfield 132, 3) := dc_at (f := decode cX12_init) dAX12_init_q0 45 rfl
theorem dX12_init_93 : decode cX12_init 93 = .ok (.aload_n 0, 1) := dc_at (f := decode cX12_init) dAX12_init_q0 46 rfl
theorem dX12_init_94 : decode cX12_init 94 = .ok (.bipush 60, 2) := dc_at (f := decode cX12_init) dAX12_init_q0 47 rfl
def dPX12_init_q1 : List (Nat × (Jvm.ClassFile.Instr × Nat)) := [(96, (.newarray .int, 2)), (98, (.putfield 135, 3)), (101, (.aload_n 0, 1)), (102, (.bipush 60, 2)), (104, (.newarray .int, 2)), (106, (.putfield 138, 3)), (109, (.aload_n 0, 1)), (110, (.bipush 60, 2)), (112, (.newarray .int, 2)), (114, (.putfield 141, 3)), (117, (.aload_n 0, 1)), (118, (.bipush 60, 2)), (120, (.newarray .int, 2)), (122, (.putfield 144, 3)), (125, (.aload_n 0, 1)), (126, (.bipush 60, 2)), (128, (.newarray .int, 2)), (130, (.putfield 147, 3)), (133, (.aload_n 0, 1)), (134, (.bipush 60, 2)), (136, (.newarray .int, 2)), (138, (.putfield 150, 3)), (141, (.aload_n 0, 1)), (142, (.bipush 60, 2)), (144, (.newarray .boolean, 2)), (146, (.putfield 153, 3)), (149, (.aload_n 0, 1)), (150, (.bipush 60, 2)), (152, (.newarray .boolean, 2)), (154, (.putfield 156, 3)), (157, (.aload_n 0, 1)), (158, (.sipush 5040, 3)), (161, (.newarray .int, 2)), (163, (.putfield 159, 3)), (166, (.aload_n 0, 1)), (167, (.sipush 5040, 3)), (170, (.newarray .int, 2)), (172, (.putfield 162, 3)), (175, (.aload_n 0, 1)), (176, (.sipush 5040, 3)), (179, (.newarray .boolean, 2)), (181, (.putfield 165, 3)), (184, (.aload_n 0, 1)), (185, (.sipush 5040, 3)), (188, (.newarray .boolean, 2)), (190, (.putfield 168, 3)), (193, (.aload_n 0, 1)), (194, (.sipush 250, 3))]
theorem dAX12_init_q1 : ∀ x ∈ dPX12_init_q1, decode cX12_init x.1 = .ok x.2 := by decide +kernel
theorem dX12_init_96 : decode cX12_init 96 = .ok (.newarray .int, 2) := dc_at (f := decode cX12_init) dAX12_init_q1 0 rfl
theorem dX12_init_98 : decode cX12_init 98 = .ok (.putfield 135, 3) := dc_at (f := decode cX12_init) dAX12_init_q1 1 rfl
theorem dX12_init_101 : decode cX12_init 101 = .ok (.aload_n 0, 1) := dc_at (f := decode cX12_init) dAX12_init_q1 2 rfl
theorem dX12_init_102 : decode cX12_init 102 = .ok (.bipush 60, 2) := dc_at (f := decode cX12_init) dAX12_init_q1 3 rfl
theorem dX12_init_104 : decode cX12_init 104 = .ok (.newarray .int, 2) := dc_at (f := decode cX12_init) dAX12_init_q1 4 rfl
theorem dX12_init_106 : decode cX12_init 106 = .ok (.putfield 138, 3) := dc_at (f := decode cX12_init) dAX12_init_q1 5 rfl
theorem dX12_init_109 : decode cX12_init 109 = .ok (.aload_n 0, 1) := dc_at (f := decode cX12_init) dAX12_init_q1 6 rfl
theorem dX12_init_110 : decode cX12_init 110 = .ok (.bipush 60, 2) := dc_at (f := decode cX12_init) dAX12_init_q1 7 rfl
theorem dX12_init_112 : decode cX12_init 112 = .ok (.newarray .int, 2) := dc_at (f := decode cX12_init) dAX12_init_q1 8 rfl
theorem dX12_init_114 : decode cX12_init 114 = .ok (.putfield 141, 3) := dc_at (f := decode cX12_init) dAX12_init_q1 9 rfl
theorem dX12_init_117 : decode cX12_init 117 = .ok (.aload_n 0, 1) := dc_at (f := decode cX12_init) dAX12_init_q1 10 rfl
theorem dX12_init_118 : decode cX12_init 118 = .ok (.bipush 60, 2) := dc_at (f := decode cX12_init) dAX12_init_q1 11 rfl
theorem dX12_init_120 : decode cX12_init 120 = .ok (.newarray .int, 2) := dc_at (f := decode cX12_init) dAX12_init_q1 12 rfl
theorem dX12_init_122 : decode cX12_init 122 = .ok (.putfield 144, 3) := dc_at (f := decode cX12_init) dAX12_init_q1 13 rfl
theorem dX12_init_125 : decode cX12_init 125 = .ok (.aload_n 0, 1) := dc_at (f := decode cX12_init) dAX12_init_q1 14 rfl
theorem dX12_init_126 : decode cX12_init 126 = .ok (.bipush 60, 2) := dc_at (f := decode cX12_init) dAX12_init_q1 15 rfl
theorem dX12_init_128 : decode cX12_init 128 = .ok (.newarray .int, 2) := dc_at (f := decode cX12_init) dAX12_init_q1 16 rfl
theorem dX12_init_130 : decode cX12_init 130 = .ok (.putfield 147, 3) := dc_at (f := decode cX12_init) dAX12_init_q1 17 rfl
theorem dX12_init_133 : decode cX12_init 133 = .ok (.aload_n 0, 1) := dc_at (f := decode cX12_init) dAX12_init_q1 18 rfl
theorem dX12_init_134 : decode cX12_init 134 = .ok (.bipush 60, 2) := dc_at (f := decode cX12_init) dAX12_init_q1 19 rfl
theorem dX12_init_136 : decode cX12_init 136 = .ok (.newarray .int, 2) := dc_at (f := decode cX12_init) dAX12_init_q1 20 rfl
theorem dX12_init_138 : decode cX12_init 138 = .ok (.putfield 150, 3) := dc_at (f := decode cX12_init) dAX12_init_q1 21 rfl
theorem dX12_init_141 : decode cX12_init 141 = .ok (.aload_n 0, 1) := dc_at (f := decode cX12_init) dAX12_init_q1 22 rfl
theorem dX12_init_142 : decode cX12_init 142 = .ok (.bipush 60, 2) := dc_at (f := decode cX12_init) dAX12_init_q1 23 rfl
theorem dX12_init_144 : decode cX12_init 144 = .ok (.newarray .boolean, 2) := dc_at (f := decode cX12_init) dAX12_init_q1 24 rfl
theorem dX12_init_146 : decode cX12_init 146 = .ok (.putfield 153, 3) := dc_at (f := decode cX12_init) dAX12_init_q1 25 rfl
theorem dX12_init_149 : decode cX12_init 149 = .ok (.aload_n 0, 1) := dc_at (f := decode cX12_init) dAX12_init_q1 26 rfl
theorem dX12_init_150 : decode cX12_init 150 = .ok (.bipush 60, 2) := dc_at (f := decode cX12_init) dAX12_init_q1 27 rfl
theorem dX12_init_152 : decode cX12_init 152 = .ok (.newarray .boolean, 2) := dc_at (f := decode cX12_init) dAX12_init_q1 28 rfl
theorem dX12_init_154 : decode cX12_init 154 = .ok (.putfield 156, 3) := dc_at (f := decode cX12_init) dAX12_init_q1 29 rfl
theorem dX12_init_157 : decode cX12_init 157 = .ok (.aload_n 0, 1) := dc_at (f := decode cX12_init) dAX12_init_q1 30 rfl
theorem dX12_init_158 : decode cX12_init 158 = .ok (.sipush 5040, 3) := dc_at (f := decode cX12_init) dAX12_init_q1 31 rfl
theorem dX12_init_161 : decode cX12_init 161 = .ok (.newarray .int, 2) := dc_at (f := decode cX12_init) dAX12_init_q1 32 rfl
theorem dX12_init_163 : decode cX12_init 163 = .ok (.putfield 159, 3) := dc_at (f := decode cX12_init) dAX12_init_q1 33 rfl
theorem dX12_init_166 : decode cX12_init 166 = .ok (.aload_n 0, 1) := dc_at (f := decode cX12_init) dAX12_init_q1 34 rfl
theorem dX12_init_167 : decode cX12_init 167 = .ok (.sipush 5040, 3) := dc_at (f := decode cX12_init) dAX12_init_q1 35 rfl
theorem dX12_init_170 : decode cX12_init 170 = .ok (.newarray .int, 2) := dc_at (f := decode cX12_init) dAX12_init_q1 36 rfl
theorem dX12_init_172 : decode cX12_init 172 = .ok (.putfield 162, 3) := dc_at (f := decode cX12_init) dAX12_init_q1 37 rfl
theorem dX12_init_175 : decode cX12_init 175 = .ok (.aload_n 0, 1) := dc_at (f := decode cX12_init) dAX12_init_q1 38 rfl
theorem dX12_init_176 : decode cX12_init 176 = .ok (.sipush 5040, 3) := dc_at (f := decode cX12_init) dAX12_init_q1 39 rfl
theorem dX12_init_179 : decode cX12_init 179 = .ok (.newarray .boolean, 2) := dc_at (f := decode cX12_init) dAX12_init_q1 40 rfl
theorem dX12_init_181 : decode cX12_init 181 = .ok (.putfield 165, 3) := dc_at (f := decode cX12_init) dAX12_init_q1 41 rfl
theorem dX12_init_184 : decode cX12_init 184 = .ok (.aload_n 0, 1) := dc_at (f := decode cX12_init) dAX12_init_q1 42 rfl
theorem dX12_init_185 : decode cX12_init 185 = .ok (.sipush 5040, 3) := dc_at (f := decode cX12_init) dAX12_init_q1 43 rfl
theorem dX12_init_188 : decode cX12_init 188 = .ok (.newarray .boolean, 2) := dc_at (f := decode cX12_init) dAX12_init_q1 44 rfl
theorem dX12_init_190 : decode cX12_init 190 = .ok (.putfield 168, 3) := dc_at (f := decode cX12_init) dAX12_init_q1 45 rfl
theorem dX12_init_193 : decode cX12_init 193 = .ok (.aload_n 0, 1) := dc_at (f := decode cX12_init) dAX12_init_q1 46 rfl
theorem dX12_init_194 : decode cX12_init 194 = .ok (.sipush 250, 3) := dc_at (f := decode cX12_init) dAX12_init_q1 47 rfl
def dPX12_init_q2 : List (Nat × (Jvm.ClassFile.Instr × Nat)) := [(197, (.newarray .int, 2)), (199, (.putfield 171, 3)), (202, (.aload_n 0, 1)), (203, (.sipush 250, 3)), (206, (.newarray .int, 2)), (208, (.putfield 174, 3)), (211, (.aload_n 0, 1)), (212, (.sipush 250, 3)), (215, (.newarray .int, 2)), (217, (.putfield 177, 3)), (220, (.aload_n 0, 1)), (221, (.sipush 250, 3)), (224, (.newarray .boolean, 2)), (226, (.putfield 180, 3)), (229, (.aload_n 0, 1)), (230, (.bipush 8, 2)), (232, (.newarray .int, 2)), (234, (.putfield 183, 3)), (237, (.aload_n 0, 1)), (238, (.bipush 8, 2)), (240, (.newarray .int, 2)), (242, (.putfield 186, 3)), (245, (.aload_n 0, 1)), (246, (.bipush 8, 2)), (248, (.newarray .int, 2)), (250, (.putfield 188, 3)), (253, (.aload_n 0, 1)), (254, (.bipush 8, 2)), (256, (.newarray .int, 2)), (258, (.putfield 191, 3)), (261, (.aload_n 0, 1)), (262, (.bipush 8, 2)), (264, (.newarray .int, 2)), (266, (.putfield 194, 3)), (269, (.aload_n 0, 1)), (270, (.bipush 30, 2)), (272, (.newarray .int, 2)), (274, (.putfield 197, 3)), (277, (.aload_n 0, 1)), (278, (.bipush 30, 2)), (280, (.newarray .int, 2)), (282, (.putfield 200, 3)), (285, (.iconst 0, 1)), (286, (.istore_n 1, 1)), (287, (.iload_n 1, 1)), (288, (.bipush 9, 2)), (290, (.if_icmp .ge 20, 3)), (293, (.aload_n 0, 1))]
theorem dAX12_init_q2 : ∀ x ∈ dPX12_init_q2, decode cX12_init x.1 = .ok x.2 := by decide +kernel
theorem dX12_init_197 : decode cX12_init 197 = .ok (.newarray .int, 2) := dc_at (f := decode cX12_init) dAX12_init_q2 0 rfl
theorem dX12_init_199 : decode cX12_init 199 = .ok (.putfield 171, 3) := dc_at (f := decode cX12_init) dAX12_init_q2 1 rfl
theorem dX12_init_202 : decode cX12_init 202 = .ok (.aload_n 0, 1) := dc_at (f := decode cX12_init) dAX12_init_q2 2 rfl
theorem dX12_init_203 : decode cX12_init 203 = .ok (.sipush 250, 3) := dc_at (f := decode cX12_init) dAX12_init_q2 3 rfl
theorem dX12_init_206 : decode cX12_init 206 = .ok (.newarray .int, 2) := dc_at (f := decode cX12_init) dAX12_init_q2 4 rfl
theorem dX12_init_208 : decode cX12_init 208 = .ok (.putfield 174, 3) := dc_at (f := decode cX12_init) dAX12_init_q2 5 rfl
theorem dX12_init_211 : decode cX12_init 211 = .ok (.aload_n 0, 1) := dc_at (f := decode cX12_init) dAX12_init_q2 6 rfl
theorem dX12_init_212 : decode cX12_init 212 = .ok (.sipush 250, 3) := dc_at (f := decode cX12_init) dAX12_init_q2 7 rfl
theorem dX12_init_215 : decode cX12_init 215 = .ok (.newarray .int, 2) := dc_at (f := decode cX12_init) dAX12_init_q2 8 rfl
theorem dX12_init_217 : decode cX12_init 217 = .ok (.putfield 177, 3) := dc_at (f := decode cX12_init) dAX12_init_q2 9 rfl
theorem dX12_init_220 : decode cX12_init 220 = .ok (.aload_n 0, 1) := dc_at (f := decode cX12_init) dAX12_init_q2 10 rfl
theorem dX12_init_221 : decode cX12_init 221 = .ok (.sipush 250, 3) := dc_at (f := decode cX12_init) dAX12_init_q2 11 rfl
theorem dX12_init_224 : decode cX12_init 224 = .ok (.newarray .boolean, 2) := dc_at (f := decode cX12_init) dAX12_init_q2 12 rfl
theorem dX12_init_226 : decode cX12_init 226 = .ok (.putfield 180, 3) := dc_at (f := decode cX12_init) dAX12_init_q2 13 rfl
theorem dX12_init_229 : decode cX12_init 229 = .ok (.aload_n 0, 1) := dc_at (f := decode cX12_init) dAX12_init_q2 14 rfl
theorem dX12_init_230 : decode cX12_init 230 = .ok (.bipush 8, 2) := dc_at (f := decode cX12_init) dAX12_init_q2 15 rfl
theorem dX12_init_232 : decode cX12_init 232 = .ok (.newarray .int, 2) := dc_at (f := decode cX12_init) dAX12_init_q2 16 rfl
theorem dX12_init_234 : decode cX12_init 234 = .ok (.putfield 183, 3) := dc_at (f := decode cX12_init) dAX12_init_q2 17 rfl
theorem dX12_init_237 : decode cX12_init 237 = .ok (.aload_n 0, 1) := dc_at (f := decode cX12_init) dAX12_init_q2 18 rfl
theorem dX12_init_238 : decode cX12_init 238 = .ok (.bipush 8, 2) := dc_at (f := decode cX12_init) dAX12_init_q2 19 rfl
theorem dX12_init_240 : decode cX12_init 240 = .ok (.newarray .int, 2) := dc_at (f := decode cX12_init) dAX12_init_q2 20 rfl
theorem dX12_init_242 : decode cX12_init 242 = .ok (.putfield 186, 3) := dc_at (f := decode cX12_init) dAX12_init_q2 21 rfl
theorem dX12_init_245 : decode cX12_init 245 = .ok (.aload_n 0, 1) := dc_at (f := decode cX12_init) dAX12_init_q2 22 rfl
theorem dX12_init_246 : decode cX12_init 246 = .ok (.bipush 8, 2) := dc_at (f := decode cX12_init) dAX12_init_q2 23 rfl
theorem dX12_init_248 : decode cX12_init 248 = .ok (.newarray .int, 2) := dc_at (f := decode cX12_init) dAX12_init_q2 24 rfl
theorem dX12_init_250 : decode cX12_init 250 = .ok (.putfield 188, 3) := dc_at (f := decode cX12_init) dAX12_init_q2 25 rfl
theorem dX12_init_253 : decode cX12_init 253 = .ok (.aload_n 0, 1) := dc_at (f := decode cX12_init) dAX12_init_q2 26 rfl
theorem dX12_init_254 : decode cX12_init 254 = .ok (.bipush 8, 2) := dc_at (f := decode cX12_init) dAX12_init_q2 27 rfl
theorem dX12_init_256 : decode cX12_init 256 = .ok (.newarray .int, 2) := dc_at (f := decode cX12_init) dAX12_init_q2 28 rfl
theorem dX12_init_258 : decode cX12_init 258 = .ok (.putfield 191, 3) := dc_at (f := decode cX12_init) dAX12_init_q2 29 rfl
theorem dX12_init_261 : decode cX12_init 261 = .ok (.aload_n 0, 1) := dc_at (f := decode cX12_init) dAX12_init_q2 30 rfl
theorem dX12_init_262 : decode cX12_init 262 = .ok (.bipush 8, 2) := dc_at (f := decode cX12_init) dAX12_init_q2 31 rfl
theorem dX12_init_264 : decode cX12_init 264 = .ok (.newarray .int, 2) := dc_at (f := decode cX12_init) dAX12_init_q2 32 rfl
theorem dX12_init_266 : decode cX12_init 266 = .ok (.putfield 194, 3) := dc_at (f := decode cX12_init) dAX12_init_q2 33 rfl
theorem dX12_init_269 : decode cX12_init 269 = .ok (.aload_n 0, 1) := dc_at (f := decode cX12_init) dAX12_init_q2 34 rfl
theorem dX12_init_270 : decode cX12_init 270 = .ok (.bipush 30, 2) := dc_at (f := decode cX12_init) dAX12_init_q2 35 rfl
theorem dX12_init_272 : decode cX12_init 272 = .ok (.newarray .int, 2) := dc_at (f := decode cX12_init) dAX12_init_q2 36 rfl
theorem dX12_init_274 : decode cX12_init 274 = .ok (.putfield 197, 3) := dc_at (f := decode cX12_init) dAX12_init_q2 37 rfl
theorem dX12_init_277 : decode cX12_init 277 = .ok (.aload_n 0, 1) := dc_at (f := decode cX12_init) dAX12_init_q2 38 rfl
theorem dX12_init_278 : decode cX12_init 278 = .ok (.bipush 30, 2) := dc_at (f := decode cX12_init) dAX12_init_q2 39 rfl
theorem dX12_init_280 : decode cX12_init 280 = .ok (.newarray .int, 2) := dc_at (f := decode cX12_init) dAX12_init_q2 40 rfl
theorem dX12_init_282 : decode cX12_init 282 = .ok (.putfield 200, 3) := dc_at (f := decode cX12_init) dAX12_init_q2 41 rfl
theorem dX12_init_285 : decode cX12_init 285 = .ok (.iconst 0, 1) := dc_at (f := decode cX12_init) dAX12_init_q2 42 rfl
theorem dX12_init_286 : decode cX12_init 286 = .ok (.istore_n 1, 1) := dc_at (f := decode cX12_init) dAX12_init_q2 43 rfl
theorem dX12_init_287 : decode cX12_init 287 = .ok (.iload_n 1, 1) := dc_at (f := decode cX12_init) dAX12_init_q2 44 rfl
theorem dX12_init_288 : decode cX12_init 288 = .ok (.bipush 9, 2) := dc_at (f := decode cX12_init) dAX12_init_q2 45 rfl
theorem dX12_init_290 : decode cX12_init 290 = .ok (.if_icmp .ge 20, 3) := dc_at (f := decode cX12_init) dAX12_init_q2 46 rfl
theorem dX12_init_293 : decode cX12_init 293 = .ok (.aload_n 0, 1) := dc_at (f := decode cX12_init) dAX12_init_q2 47 rfl
def dPX12_init_q3 : List (Nat × (Jvm.ClassFile.Instr × Nat)) := [(294, (.getfield 114, 3)), (297, (.iload_n 1, 1)), (298, (.getstatic 86, 3)), (301, (.iload_n 1, 1)), (302, (.iaload, 1)), (303, (.iastore, 1)), (304, (.iinc 1 1, 3)), (307, (.goto (-20), 3)), (310, (.iconst 0, 1)), (311, (.istore_n 1, 1)), (312, (.iload_n 1, 1)), (313, (.bipush 30, 2)), (315, (.if_icmp .ge 23, 3)), (318, (.aload_n 0, 1)), (319, (.getfield 120, 3)), (322, (.iload_n 1, 1)), (323, (.iconst (-1), 1)), (324, (.iastore, 1)), (325, (.aload_n 0, 1)), (326, (.getfield 123, 3)), (329, (.iload_n 1, 1)), (330, (.iconst (-1), 1)), (331, (.iastore, 1)), (332, (.iinc 1 1, 3)), (335, (.goto (-23), 3)), (338, (.return_, 1))]
theorem dAX12_init_q3 : ∀ x ∈ dPX12_init_q3, decode cX12_init x.1 = .ok x.2 := by decide +kernel
theorem dX12_init_294 : decode cX12_init 294 = .ok (.getfield 114, 3) := dc_at (f := decode cX12_init) dAX12_init_q3 0 rfl
theorem dX12_init_297 : decode cX12_init 297 = .ok (.iload_n 1, 1) := dc_at (f := decode cX12_init) dAX12_init_q3 1 rfl
theorem dX12_init_298 : decode cX12_init 298 = .ok (.getstatic 86, 3) := dc_at (f := decode cX12_init) dAX12_init_q3 2 rfl
theorem dX12_init_301 : decode cX12_init 301 = .ok (.iload_n 1, 1) := dc_at (f := decode cX12_init) dAX12_init_q3 3 rfl
theorem dX12_init_302 : decode cX12_init 302 = .ok (.iaload, 1) := dc_at (f := decode cX12_init) dAX12_init_q3 4 rfl
theorem dX12_init_303 : decode cX12_init 303 = .ok (.iastore, 1) := dc_at (f := decode cX12_init) dAX12_init_q3 5 rfl
theorem dX12_init_304 : decode cX12_init 304 = .ok (.iinc 1 1, 3) := dc_at (f := decode cX12_init) dAX12_init_q3 6 rfl
theorem dX12_init_307 : decode cX12_init 307 = .ok (.goto (-20), 3) := dc_at (f := decode cX12_init) dAX12_init_q3 7 rfl
theorem dX12_init_310 : decode cX12_init 310 = .ok (.iconst 0, 1) := dc_at (f := decode cX12_init) dAX12_init_q3 8 rfl
theorem dX12_init_311 : decode cX12_init 311 = .ok (.istore_n 1, 1) := dc_at (f := decode cX12_init) dAX12_init_q3 9 rfl
theorem dX12_init_312 : decode cX12_init 312 = .ok (.iload_n 1, 1) := dc_at (f := decode cX12_init) dAX12_init_q3 10 rfl
theorem dX12_init_313 : decode cX12_init 313 = .ok (.bipush 30, 2) := dc_at (f := decode cX12_init) dAX12_init_q3 11 rfl
theorem dX12_init_315 : decode cX12_init 315 = .ok (.if_icmp .ge 23, 3) := dc_at (f := decode cX12_init) dAX12_init_q3 12 rfl
theorem dX12_init_318 : decode cX12_init 318 = .ok (.aload_n 0, 1) := dc_at (f := decode cX12_init) dAX12_init_q3 13 rfl
theorem dX12_init_319 : decode cX12_init 319 = .ok (.getfield 120, 3) := dc_at (f := decode cX12_init) dAX12_init_q3 14 rfl
theorem dX12_init_322 : decode cX12_init 322 = .ok (.iload_n 1, 1) := dc_at (f := decode cX12_init) dAX12_init_q3 15 rfl
theorem dX12_init_323 : decode cX12_init 323 = .ok (.iconst (-1), 1) := dc_at (f := decode cX12_init) dAX12_init_q3 16 rfl
theorem dX12_init_324 : decode cX12_init 324 = .ok (.iastore, 1) := dc_at (f := decode cX12_init) dAX12_init_q3 17 rfl
theorem dX12_init_325 : decode cX12_init 325 = .ok (.aload_n 0, 1) := dc_at (f := decode cX12_init) dAX12_init_q3 18 rfl
theorem dX12_init_326 : decode cX12_init 326 = .ok (.getfield 123, 3) := dc_at (f := decode cX12_init) dAX12_init_q3 19 rfl
theorem dX12_init_329 : decode cX12_init 329 = .ok (.iload_n 1, 1) := dc_at (f := decode cX12_init) dAX12_init_q3 20 rfl
theorem dX12_init_330 : decode cX12_init 330 = .ok (.iconst (-1), 1) := dc_at (f := decode cX12_init) dAX12_init_q3 21 rfl
theorem dX12_init_331 : decode cX12_init 331 = .ok (.iastore, 1) := dc_at (f := decode cX12_init) dAX12_init_q3 22 rfl
theorem dX12_init_332 : decode cX12_init 332 = .ok (.iinc 1 1, 3) := dc_at (f := decode cX12_init) dAX12_init_q3 23 rfl
theorem dX12_init_335 : decode cX12_init 335 = .ok (.goto (-23), 3) := dc_at (f := decode cX12_init) dAX12_init_q3 24 rfl
theorem dX12_init_338 : decode cX12_init 338 = .ok (.return_, 1) := dc_at (f := decode cX12_init) dAX12_init_q3 25 rfl
def dPX12_feed_q0 : List (Nat × (Jvm.ClassFile.Instr × Nat)) := [(0, (.aload_n 0, 1)), (1, (.getfield 203, 3)), (4, (.bipush 20, 2)), (6, (.iadd, 1)), (7, (.sipush 400, 3)), (10, (.if_icmp .le 6, 3)), (13, (.bipush (-3), 2)), (15, (.ireturn, 1)), (16, (.aload_n 0, 1)), (17, (.iload_n 1, 1)), (18, (.invokevirtual 206, 3)), (21, (.aload_n 0, 1)), (22, (.iload_n 2, 1)), (23, (.invokevirtual 206, 3)), (26, (.aload_n 0, 1)), (27, (.iload_n 3, 1)), (28, (.invokevirtual 206, 3)), (31, (.aload_n 0, 1)), (32, (.iload 4, 2)), (34, (.invokevirtual 206, 3)), (37, (.aload_n 0, 1)), (38, (.iload 5, 2)), (40, (.invokevirtual 206, 3)), (43, (.aload_n 0, 1)), (44, (.getfield 203, 3)), (47, (.ireturn, 1))]
theorem dAX12_feed_q0 : ∀ x ∈ dPX12_feed_q0, decode cX12_feed x.1 = .ok x.2 := by decide +kernel
theorem dX12_feed_0 : decode cX12_feed 0 = .ok (.aload_n 0, 1) := dc_at (f := decode cX12_feed) dAX12_feed_q0 0 rfl
theorem dX12_feed_1 : decode cX12_feed 1 = .ok (.getfield 203, 3) := dc_at (f := decode cX12_feed) dAX12_feed_q0 1 rfl
theorem dX12_feed_4 : decode cX12_feed 4 = .ok (.bipush 20, 2) := dc_at (f := decode cX12_feed) dAX12_feed_q0 2 rfl
theorem dX12_feed_6 : decode cX12_feed 6 = .ok (.iadd, 1) := dc_at (f := decode cX12_feed) dAX12_feed_q0 3 rfl
theorem dX12_feed_7 : decode cX12_feed 7 = .ok (.sipush 400, 3) := dc_at (f := decode cX12_feed) dAX12_feed_q0 4 rfl
theorem dX12_feed_10 : decode cX12_feed 10 = .ok (.if_icmp .le 6, 3) := dc_at (f := decode cX12_feed) dAX12_feed_q0 5 rfl
theorem dX12_feed_13 : decode cX12_feed 13 = .ok (.bipush (-3), 2) := dc_at (f := decode cX12_feed) dAX12_feed_q0 6 rfl
theorem dX12_feed_15 : decode cX12_feed 15 = .ok (.ireturn, 1) := dc_at (f := decode cX12_feed) dAX12_feed_q0 7 rfl
theorem dX12_feed_16 : decode cX12_feed 16 = .ok (.aload_n 0, 1) := dc_at (f := decode cX12_feed) dAX12_feed_q0 8 rfl
theorem dX12_feed_17 : decode cX12_feed 17 = .ok (.iload_n 1, 1) := dc_at (f := decode cX12_feed) dAX12_feed_q0 9 rfl
theorem dX12_feed_18 : decode cX12_feed 18 = .ok (.invokevirtual 206, 3) := dc_at (f := decode cX12_feed) dAX12_feed_q0 10 rfl
theorem dX12_feed_21 : decode cX12_feed 21 = .ok (.aload_n 0, 1) := dc_at (f := decode cX12_feed) dAX12_feed_q0 11 rfl
theorem dX12_feed_22 : decode cX12_feed 22 = .ok (.iload_n 2, 1) := dc_at (f := decode cX12_feed) dAX12_feed_q0 12 rfl
theorem dX12_feed_23 : decode cX12_feed 23 = .ok (.invokevirtual 206, 3) := dc_at (f := decode cX12_feed) dAX12_feed_q0 13 rfl
theorem dX12_feed_26 : decode cX12_feed 26 = .ok (.aload_n 0, 1) := dc_at (f := decode cX12_feed) dAX12_feed_q0 14 rfl
theorem dX12_feed_27 : decode cX12_feed 27 = .ok (.iload_n 3, 1) := dc_at (f := decode cX12_feed) dAX12_feed_q0 15 rfl
theorem dX12_feed_28 : decode cX12_feed 28 = .ok (.invokevirtual 206, 3) := dc_at (f := decode cX12_feed) dAX12_feed_q0 16 rfl
theorem dX12_feed_31 : decode cX12_feed 31 = .ok (.aload_n 0, 1) := dc_at (f := decode cX12_feed) dAX12_feed_q0 17 rfl
theorem dX12_feed_32 : decode cX12_feed 32 = .ok (.iload 4, 2) := dc_at (f := decode cX12_feed) dAX12_feed_q0 18 rfl
theorem dX12_feed_34 : decode cX12_feed 34 = .ok (.invokevirtual 206, 3) := dc_at (f := decode cX12_feed) dAX12_feed_q0 19 rfl
theorem dX12_feed_37 : decode cX12_feed 37 = .ok (.aload_n 0, 1) := dc_at (f := decode cX12_feed) dAX12_feed_q0 20 rfl
theorem dX12_feed_38 : decode cX12_feed 38 = .ok (.iload 5, 2) := dc_at (f := decode cX12_feed) dAX12_feed_q0 21 rfl
theorem dX12_feed_40 : decode cX12_feed 40 = .ok (.invokevirtual 206, 3) := dc_at (f := decode cX12_feed) dAX12_feed_q0 22 rfl
theorem dX12_feed_43 : decode cX12_feed 43 = .ok (.aload_n 0, 1) := dc_at (f := decode cX12_feed) dAX12_feed_q0 23 rfl
theorem dX12_feed_44 : decode cX12_feed 44 = .ok (.getfield 203, 3) := dc_at (f := decode cX12_feed) dAX12_feed_q0 24 rfl
theorem dX12_feed_47 : decode cX12_feed 47 = .ok (.ireturn, 1) := dc_at (f := decode cX12_feed) dAX12_feed_q0 25 rfl

