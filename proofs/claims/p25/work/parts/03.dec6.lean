def dPX12_count_q1 : List (Nat × (Jvm.ClassFile.Instr × Nat)) := [(150, (.iinc 3 1, 3)), (153, (.goto (-28), 3)), (156, (.iload_n 2, 1)), (157, (.ireturn, 1)), (158, (.aload_n 0, 1)), (159, (.getfield 286, 3)), (162, (.ireturn, 1)), (163, (.aload_n 0, 1)), (164, (.getfield 246, 3)), (167, (.ireturn, 1)), (168, (.aload_n 0, 1)), (169, (.getfield 224, 3)), (172, (.ifCond .eq 7, 3)), (175, (.iconst 1, 1)), (176, (.goto 4, 3)), (179, (.iconst 0, 1)), (180, (.ireturn, 1)), (181, (.aload_n 0, 1)), (182, (.getfield 203, 3)), (185, (.ireturn, 1)), (186, (.aload_n 0, 1)), (187, (.invokevirtual 314, 3)), (190, (.ireturn, 1)), (191, (.iconst (-1), 1)), (192, (.ireturn, 1))]
theorem dAX12_count_q1 : ∀ x ∈ dPX12_count_q1, decode cX12_count x.1 = .ok x.2 := by decide +kernel
theorem dX12_count_150 : decode cX12_count 150 = .ok (.iinc 3 1, 3) := dc_at (f := decode cX12_count) dAX12_count_q1 0 rfl
theorem dX12_count_153 : decode cX12_count 153 = .ok (.goto (-28), 3) := dc_at (f := decode cX12_count) dAX12_count_q1 1 rfl
theorem dX12_count_156 : decode cX12_count 156 = .ok (.iload_n 2, 1) := dc_at (f := decode cX12_count) dAX12_count_q1 2 rfl
theorem dX12_count_157 : decode cX12_count 157 = .ok (.ireturn, 1) := dc_at (f := decode cX12_count) dAX12_count_q1 3 rfl
theorem dX12_count_158 : decode cX12_count 158 = .ok (.aload_n 0, 1) := dc_at (f := decode cX12_count) dAX12_count_q1 4 rfl
theorem dX12_count_159 : decode cX12_count 159 = .ok (.getfield 286, 3) := dc_at (f := decode cX12_count) dAX12_count_q1 5 rfl
theorem dX12_count_162 : decode cX12_count 162 = .ok (.ireturn, 1) := dc_at (f := decode cX12_count) dAX12_count_q1 6 rfl
theorem dX12_count_163 : decode cX12_count 163 = .ok (.aload_n 0, 1) := dc_at (f := decode cX12_count) dAX12_count_q1 7 rfl
theorem dX12_count_164 : decode cX12_count 164 = .ok (.getfield 246, 3) := dc_at (f := decode cX12_count) dAX12_count_q1 8 rfl
theorem dX12_count_167 : decode cX12_count 167 = .ok (.ireturn, 1) := dc_at (f := decode cX12_count) dAX12_count_q1 9 rfl
theorem dX12_count_168 : decode cX12_count 168 = .ok (.aload_n 0, 1) := dc_at (f := decode cX12_count) dAX12_count_q1 10 rfl
theorem dX12_count_169 : decode cX12_count 169 = .ok (.getfield 224, 3) := dc_at (f := decode cX12_count) dAX12_count_q1 11 rfl
theorem dX12_count_172 : decode cX12_count 172 = .ok (.ifCond .eq 7, 3) := dc_at (f := decode cX12_count) dAX12_count_q1 12 rfl
theorem dX12_count_175 : decode cX12_count 175 = .ok (.iconst 1, 1) := dc_at (f := decode cX12_count) dAX12_count_q1 13 rfl
theorem dX12_count_176 : decode cX12_count 176 = .ok (.goto 4, 3) := dc_at (f := decode cX12_count) dAX12_count_q1 14 rfl
theorem dX12_count_179 : decode cX12_count 179 = .ok (.iconst 0, 1) := dc_at (f := decode cX12_count) dAX12_count_q1 15 rfl
theorem dX12_count_180 : decode cX12_count 180 = .ok (.ireturn, 1) := dc_at (f := decode cX12_count) dAX12_count_q1 16 rfl
theorem dX12_count_181 : decode cX12_count 181 = .ok (.aload_n 0, 1) := dc_at (f := decode cX12_count) dAX12_count_q1 17 rfl
theorem dX12_count_182 : decode cX12_count 182 = .ok (.getfield 203, 3) := dc_at (f := decode cX12_count) dAX12_count_q1 18 rfl
theorem dX12_count_185 : decode cX12_count 185 = .ok (.ireturn, 1) := dc_at (f := decode cX12_count) dAX12_count_q1 19 rfl
theorem dX12_count_186 : decode cX12_count 186 = .ok (.aload_n 0, 1) := dc_at (f := decode cX12_count) dAX12_count_q1 20 rfl
theorem dX12_count_187 : decode cX12_count 187 = .ok (.invokevirtual 314, 3) := dc_at (f := decode cX12_count) dAX12_count_q1 21 rfl
theorem dX12_count_190 : decode cX12_count 190 = .ok (.ireturn, 1) := dc_at (f := decode cX12_count) dAX12_count_q1 22 rfl
theorem dX12_count_191 : decode cX12_count 191 = .ok (.iconst (-1), 1) := dc_at (f := decode cX12_count) dAX12_count_q1 23 rfl
theorem dX12_count_192 : decode cX12_count 192 = .ok (.ireturn, 1) := dc_at (f := decode cX12_count) dAX12_count_q1 24 rfl
def dPJ0_length_8abf5_q0 : List (Nat × (Jvm.ClassFile.Instr × Nat)) := [(0, (.aload_n 0, 1)), (1, (.getfield 9, 3)), (4, (.arraylength, 1)), (5, (.aload_n 0, 1)), (6, (.invokevirtual 335, 3)), (9, (.ishr, 1)), (10, (.ireturn, 1))]
theorem dAJ0_length_8abf5_q0 : ∀ x ∈ dPJ0_length_8abf5_q0, decode cJ0_length_8abf5 x.1 = .ok x.2 := by decide +kernel
theorem dJ0_length_8abf5_0 : decode cJ0_length_8abf5 0 = .ok (.aload_n 0, 1) := dc_at (f := decode cJ0_length_8abf5) dAJ0_length_8abf5_q0 0 rfl
theorem dJ0_length_8abf5_1 : decode cJ0_length_8abf5 1 = .ok (.getfield 9, 3) := dc_at (f := decode cJ0_length_8abf5) dAJ0_length_8abf5_q0 1 rfl
theorem dJ0_length_8abf5_4 : decode cJ0_length_8abf5 4 = .ok (.arraylength, 1) := dc_at (f := decode cJ0_length_8abf5) dAJ0_length_8abf5_q0 2 rfl
theorem dJ0_length_8abf5_5 : decode cJ0_length_8abf5 5 = .ok (.aload_n 0, 1) := dc_at (f := decode cJ0_length_8abf5) dAJ0_length_8abf5_q0 3 rfl
theorem dJ0_length_8abf5_6 : decode cJ0_length_8abf5 6 = .ok (.invokevirtual 335, 3) := dc_at (f := decode cJ0_length_8abf5) dAJ0_length_8abf5_q0 4 rfl
theorem dJ0_length_8abf5_9 : decode cJ0_length_8abf5 9 = .ok (.ishr, 1) := dc_at (f := decode cJ0_length_8abf5) dAJ0_length_8abf5_q0 5 rfl
theorem dJ0_length_8abf5_10 : decode cJ0_length_8abf5 10 = .ok (.ireturn, 1) := dc_at (f := decode cJ0_length_8abf5) dAJ0_length_8abf5_q0 6 rfl
def dPJ0_charAt_5068e_q0 : List (Nat × (Jvm.ClassFile.Instr × Nat)) := [(0, (.aload_n 0, 1)), (1, (.invokevirtual 492, 3)), (4, (.ifCond .eq 12, 3)), (7, (.aload_n 0, 1)), (8, (.getfield 9, 3)), (11, (.iload_n 1, 1)), (12, (.invokestatic 495, 3)), (15, (.ireturn, 1)), (16, (.aload_n 0, 1)), (17, (.getfield 9, 3)), (20, (.iload_n 1, 1)), (21, (.invokestatic 498, 3)), (24, (.ireturn, 1))]
theorem dAJ0_charAt_5068e_q0 : ∀ x ∈ dPJ0_charAt_5068e_q0, decode cJ0_charAt_5068e x.1 = .ok x.2 := by decide +kernel
theorem dJ0_charAt_5068e_0 : decode cJ0_charAt_5068e 0 = .ok (.aload_n 0, 1) := dc_at (f := decode cJ0_charAt_5068e) dAJ0_charAt_5068e_q0 0 rfl
theorem dJ0_charAt_5068e_1 : decode cJ0_charAt_5068e 1 = .ok (.invokevirtual 492, 3) := dc_at (f := decode cJ0_charAt_5068e) dAJ0_charAt_5068e_q0 1 rfl
theorem dJ0_charAt_5068e_4 : decode cJ0_charAt_5068e 4 = .ok (.ifCond .eq 12, 3) := dc_at (f := decode cJ0_charAt_5068e) dAJ0_charAt_5068e_q0 2 rfl
theorem dJ0_charAt_5068e_7 : decode cJ0_charAt_5068e 7 = .ok (.aload_n 0, 1) := dc_at (f := decode cJ0_charAt_5068e) dAJ0_charAt_5068e_q0 3 rfl
theorem dJ0_charAt_5068e_8 : decode cJ0_charAt_5068e 8 = .ok (.getfield 9, 3) := dc_at (f := decode cJ0_charAt_5068e) dAJ0_charAt_5068e_q0 4 rfl
theorem dJ0_charAt_5068e_11 : decode cJ0_charAt_5068e 11 = .ok (.iload_n 1, 1) := dc_at (f := decode cJ0_charAt_5068e) dAJ0_charAt_5068e_q0 5 rfl
theorem dJ0_charAt_5068e_12 : decode cJ0_charAt_5068e 12 = .ok (.invokestatic 495, 3) := dc_at (f := decode cJ0_charAt_5068e) dAJ0_charAt_5068e_q0 6 rfl
theorem dJ0_charAt_5068e_15 : decode cJ0_charAt_5068e 15 = .ok (.ireturn, 1) := dc_at (f := decode cJ0_charAt_5068e) dAJ0_charAt_5068e_q0 7 rfl
def dPJ0_coder_7d493_q0 : List (Nat × (Jvm.ClassFile.Instr × Nat)) := [(0, (.getstatic 38, 3)), (3, (.ifCond .eq 10, 3)), (6, (.aload_n 0, 1)), (7, (.getfield 15, 3)), (10, (.goto 4, 3)), (13, (.iconst 1, 1)), (14, (.ireturn, 1))]
theorem dAJ0_coder_7d493_q0 : ∀ x ∈ dPJ0_coder_7d493_q0, decode cJ0_coder_7d493 x.1 = .ok x.2 := by decide +kernel
theorem dJ0_coder_7d493_0 : decode cJ0_coder_7d493 0 = .ok (.getstatic 38, 3) := dc_at (f := decode cJ0_coder_7d493) dAJ0_coder_7d493_q0 0 rfl
theorem dJ0_coder_7d493_3 : decode cJ0_coder_7d493 3 = .ok (.ifCond .eq 10, 3) := dc_at (f := decode cJ0_coder_7d493) dAJ0_coder_7d493_q0 1 rfl
theorem dJ0_coder_7d493_6 : decode cJ0_coder_7d493 6 = .ok (.aload_n 0, 1) := dc_at (f := decode cJ0_coder_7d493) dAJ0_coder_7d493_q0 2 rfl
theorem dJ0_coder_7d493_7 : decode cJ0_coder_7d493 7 = .ok (.getfield 15, 3) := dc_at (f := decode cJ0_coder_7d493) dAJ0_coder_7d493_q0 3 rfl
theorem dJ0_coder_7d493_10 : decode cJ0_coder_7d493 10 = .ok (.goto 4, 3) := dc_at (f := decode cJ0_coder_7d493) dAJ0_coder_7d493_q0 4 rfl
theorem dJ0_coder_7d493_14 : decode cJ0_coder_7d493 14 = .ok (.ireturn, 1) := dc_at (f := decode cJ0_coder_7d493) dAJ0_coder_7d493_q0 6 rfl
def dPJ0_isLatin1_aae02_q0 : List (Nat × (Jvm.ClassFile.Instr × Nat)) := [(0, (.getstatic 38, 3)), (3, (.ifCond .eq 14, 3)), (6, (.aload_n 0, 1)), (7, (.getfield 15, 3)), (10, (.ifCond .ne 7, 3)), (13, (.iconst 1, 1)), (14, (.goto 4, 3)), (17, (.iconst 0, 1)), (18, (.ireturn, 1))]
theorem dAJ0_isLatin1_aae02_q0 : ∀ x ∈ dPJ0_isLatin1_aae02_q0, decode cJ0_isLatin1_aae02 x.1 = .ok x.2 := by decide +kernel
theorem dJ0_isLatin1_aae02_0 : decode cJ0_isLatin1_aae02 0 = .ok (.getstatic 38, 3) := dc_at (f := decode cJ0_isLatin1_aae02) dAJ0_isLatin1_aae02_q0 0 rfl
theorem dJ0_isLatin1_aae02_3 : decode cJ0_isLatin1_aae02 3 = .ok (.ifCond .eq 14, 3) := dc_at (f := decode cJ0_isLatin1_aae02) dAJ0_isLatin1_aae02_q0 1 rfl
theorem dJ0_isLatin1_aae02_6 : decode cJ0_isLatin1_aae02 6 = .ok (.aload_n 0, 1) := dc_at (f := decode cJ0_isLatin1_aae02) dAJ0_isLatin1_aae02_q0 2 rfl
theorem dJ0_isLatin1_aae02_7 : decode cJ0_isLatin1_aae02 7 = .ok (.getfield 15, 3) := dc_at (f := decode cJ0_isLatin1_aae02) dAJ0_isLatin1_aae02_q0 3 rfl
theorem dJ0_isLatin1_aae02_10 : decode cJ0_isLatin1_aae02 10 = .ok (.ifCond .ne 7, 3) := dc_at (f := decode cJ0_isLatin1_aae02) dAJ0_isLatin1_aae02_q0 4 rfl
theorem dJ0_isLatin1_aae02_13 : decode cJ0_isLatin1_aae02 13 = .ok (.iconst 1, 1) := dc_at (f := decode cJ0_isLatin1_aae02) dAJ0_isLatin1_aae02_q0 5 rfl
theorem dJ0_isLatin1_aae02_14 : decode cJ0_isLatin1_aae02 14 = .ok (.goto 4, 3) := dc_at (f := decode cJ0_isLatin1_aae02) dAJ0_isLatin1_aae02_q0 6 rfl
theorem dJ0_isLatin1_aae02_18 : decode cJ0_isLatin1_aae02 18 = .ok (.ireturn, 1) := dc_at (f := decode cJ0_isLatin1_aae02) dAJ0_isLatin1_aae02_q0 8 rfl
def dPJ0_checkIndex_df160_q0 : List (Nat × (Jvm.ClassFile.Instr × Nat)) := [(0, (.iload_n 0, 1)), (1, (.iload_n 1, 1)), (2, (.getstatic 1053, 3)), (5, (.invokestatic 1059, 3)), (8, (.pop, 1)), (9, (.return_, 1))]
theorem dAJ0_checkIndex_df160_q0 : ∀ x ∈ dPJ0_checkIndex_df160_q0, decode cJ0_checkIndex_df160 x.1 = .ok x.2 := by decide +kernel
theorem dJ0_checkIndex_df160_0 : decode cJ0_checkIndex_df160 0 = .ok (.iload_n 0, 1) := dc_at (f := decode cJ0_checkIndex_df160) dAJ0_checkIndex_df160_q0 0 rfl
theorem dJ0_checkIndex_df160_1 : decode cJ0_checkIndex_df160 1 = .ok (.iload_n 1, 1) := dc_at (f := decode cJ0_checkIndex_df160) dAJ0_checkIndex_df160_q0 1 rfl
theorem dJ0_checkIndex_df160_2 : decode cJ0_checkIndex_df160 2 = .ok (.getstatic 1053, 3) := dc_at (f := decode cJ0_checkIndex_df160) dAJ0_checkIndex_df160_q0 2 rfl
theorem dJ0_checkIndex_df160_5 : decode cJ0_checkIndex_df160 5 = .ok (.invokestatic 1059, 3) := dc_at (f := decode cJ0_checkIndex_df160) dAJ0_checkIndex_df160_q0 3 rfl
theorem dJ0_checkIndex_df160_8 : decode cJ0_checkIndex_df160 8 = .ok (.pop, 1) := dc_at (f := decode cJ0_checkIndex_df160) dAJ0_checkIndex_df160_q0 4 rfl
theorem dJ0_checkIndex_df160_9 : decode cJ0_checkIndex_df160 9 = .ok (.return_, 1) := dc_at (f := decode cJ0_checkIndex_df160) dAJ0_checkIndex_df160_q0 5 rfl
def dPJ1_charAt_3b067_q0 : List (Nat × (Jvm.ClassFile.Instr × Nat)) := [(0, (.iload_n 1, 1)), (1, (.aload_n 0, 1)), (2, (.arraylength, 1)), (3, (.invokestatic 9, 3)), (6, (.aload_n 0, 1)), (7, (.iload_n 1, 1)), (8, (.baload, 1)), (9, (.sipush 255, 3)), (12, (.iand, 1)), (13, (.i2c, 1)), (14, (.ireturn, 1))]
theorem dAJ1_charAt_3b067_q0 : ∀ x ∈ dPJ1_charAt_3b067_q0, decode cJ1_charAt_3b067 x.1 = .ok x.2 := by decide +kernel
theorem dJ1_charAt_3b067_0 : decode cJ1_charAt_3b067 0 = .ok (.iload_n 1, 1) := dc_at (f := decode cJ1_charAt_3b067) dAJ1_charAt_3b067_q0 0 rfl
theorem dJ1_charAt_3b067_1 : decode cJ1_charAt_3b067 1 = .ok (.aload_n 0, 1) := dc_at (f := decode cJ1_charAt_3b067) dAJ1_charAt_3b067_q0 1 rfl
theorem dJ1_charAt_3b067_2 : decode cJ1_charAt_3b067 2 = .ok (.arraylength, 1) := dc_at (f := decode cJ1_charAt_3b067) dAJ1_charAt_3b067_q0 2 rfl
theorem dJ1_charAt_3b067_3 : decode cJ1_charAt_3b067 3 = .ok (.invokestatic 9, 3) := dc_at (f := decode cJ1_charAt_3b067) dAJ1_charAt_3b067_q0 3 rfl
theorem dJ1_charAt_3b067_6 : decode cJ1_charAt_3b067 6 = .ok (.aload_n 0, 1) := dc_at (f := decode cJ1_charAt_3b067) dAJ1_charAt_3b067_q0 4 rfl
theorem dJ1_charAt_3b067_7 : decode cJ1_charAt_3b067 7 = .ok (.iload_n 1, 1) := dc_at (f := decode cJ1_charAt_3b067) dAJ1_charAt_3b067_q0 5 rfl
theorem dJ1_charAt_3b067_8 : decode cJ1_charAt_3b067 8 = .ok (.baload, 1) := dc_at (f := decode cJ1_charAt_3b067) dAJ1_charAt_3b067_q0 6 rfl
theorem dJ1_charAt_3b067_9 : decode cJ1_charAt_3b067 9 = .ok (.sipush 255, 3) := dc_at (f := decode cJ1_charAt_3b067) dAJ1_charAt_3b067_q0 7 rfl
theorem dJ1_charAt_3b067_12 : decode cJ1_charAt_3b067 12 = .ok (.iand, 1) := dc_at (f := decode cJ1_charAt_3b067) dAJ1_charAt_3b067_q0 8 rfl
theorem dJ1_charAt_3b067_13 : decode cJ1_charAt_3b067 13 = .ok (.i2c, 1) := dc_at (f := decode cJ1_charAt_3b067) dAJ1_charAt_3b067_q0 9 rfl
theorem dJ1_charAt_3b067_14 : decode cJ1_charAt_3b067 14 = .ok (.ireturn, 1) := dc_at (f := decode cJ1_charAt_3b067) dAJ1_charAt_3b067_q0 10 rfl
def dPJ3_checkIndex_8e157_q0 : List (Nat × (Jvm.ClassFile.Instr × Nat)) := [(0, (.iload_n 0, 1)), (1, (.ifCond .lt 8, 3)), (4, (.iload_n 0, 1)), (5, (.iload_n 1, 1)), (6, (.if_icmp .lt 10, 3)), (9, (.aload_n 2, 1)), (10, (.iload_n 0, 1)), (11, (.iload_n 1, 1)), (12, (.invokestatic 95, 3)), (15, (.athrow, 1)), (16, (.iload_n 0, 1)), (17, (.ireturn, 1))]
theorem dAJ3_checkIndex_8e157_q0 : ∀ x ∈ dPJ3_checkIndex_8e157_q0, decode cJ3_checkIndex_8e157 x.1 = .ok x.2 := by decide +kernel
theorem dJ3_checkIndex_8e157_0 : decode cJ3_checkIndex_8e157 0 = .ok (.iload_n 0, 1) := dc_at (f := decode cJ3_checkIndex_8e157) dAJ3_checkIndex_8e157_q0 0 rfl
theorem dJ3_checkIndex_8e157_1 : decode cJ3_checkIndex_8e157 1 = .ok (.ifCond .lt 8, 3) := dc_at (f := decode cJ3_checkIndex_8e157) dAJ3_checkIndex_8e157_q0 1 rfl
theorem dJ3_checkIndex_8e157_4 : decode cJ3_checkIndex_8e157 4 = .ok (.iload_n 0, 1) := dc_at (f := decode cJ3_checkIndex_8e157) dAJ3_checkIndex_8e157_q0 2 rfl
theorem dJ3_checkIndex_8e157_5 : decode cJ3_checkIndex_8e157 5 = .ok (.iload_n 1, 1) := dc_at (f := decode cJ3_checkIndex_8e157) dAJ3_checkIndex_8e157_q0 3 rfl
theorem dJ3_checkIndex_8e157_6 : decode cJ3_checkIndex_8e157 6 = .ok (.if_icmp .lt 10, 3) := dc_at (f := decode cJ3_checkIndex_8e157) dAJ3_checkIndex_8e157_q0 4 rfl
theorem dJ3_checkIndex_8e157_16 : decode cJ3_checkIndex_8e157 16 = .ok (.iload_n 0, 1) := dc_at (f := decode cJ3_checkIndex_8e157) dAJ3_checkIndex_8e157_q0 10 rfl
theorem dJ3_checkIndex_8e157_17 : decode cJ3_checkIndex_8e157 17 = .ok (.ireturn, 1) := dc_at (f := decode cJ3_checkIndex_8e157) dAJ3_checkIndex_8e157_q0 11 rfl
def dPL_law_q0 : List (Nat × (Jvm.ClassFile.Instr × Nat)) := [(0, (.new 7, 3)), (3, (.dup, 1)), (4, (.invokespecial 9, 3)), (7, (.astore_n 1, 1)), (8, (.new 10, 3)), (11, (.dup, 1)), (12, (.invokespecial 12, 3)), (15, (.astore_n 2, 1)), (16, (.iconst 0, 1)), (17, (.istore_n 3, 1)), (18, (.iload_n 3, 1)), (19, (.aload_n 0, 1)), (20, (.arraylength, 1)), (21, (.bipush 6, 2)), (23, (.isub, 1)), (24, (.if_icmp .gt 834, 3)), (27, (.aload_n 0, 1)), (28, (.iload_n 3, 1)), (29, (.iaload, 1)), (30, (.bipush 31, 2)), (32, (.iand, 1)), (33, (.tableswitch 819 0 23 #[111, 174, 197, 210, 233, 256, 299, 348, 411, 444, 477, 510, 533, 546, 579, 612, 645, 658, 691, 714, 737, 760, 773, 796], 111)), (144, (.aload_n 1, 1)), (145, (.aload_n 0, 1)), (146, (.iload_n 3, 1)), (147, (.iconst 1, 1)), (148, (.iadd, 1)), (149, (.iaload, 1)), (150, (.aload_n 0, 1)), (151, (.iload_n 3, 1)), (152, (.iconst 2, 1)), (153, (.iadd, 1)), (154, (.iaload, 1)), (155, (.aload_n 0, 1)), (156, (.iload_n 3, 1)), (157, (.iconst 3, 1)), (158, (.iadd, 1)), (159, (.iaload, 1)), (160, (.aload_n 0, 1)), (161, (.iload_n 3, 1)), (162, (.iconst 4, 1)), (163, (.iadd, 1)), (164, (.iaload, 1)), (165, (.aload_n 0, 1)), (166, (.iload_n 3, 1)), (167, (.iconst 5, 1)), (168, (.iadd, 1)), (169, (.iaload, 1))]
theorem dAL_law_q0 : ∀ x ∈ dPL_law_q0, decode cL_law x.1 = .ok x.2 := by decide +kernel
theorem dL_law_0 : decode cL_law 0 = .ok (.new 7, 3) := dc_at (f := decode cL_law) dAL_law_q0 0 rfl
theorem dL_law_3 : decode cL_law 3 = .ok (.dup, 1) := dc_at (f := decode cL_law) dAL_law_q0 1 rfl
theorem dL_law_4 : decode cL_law 4 = .ok (.invokespecial 9, 3) := dc_at (f := decode cL_law) dAL_law_q0 2 rfl
theorem dL_law_7 : decode cL_law 7 = .ok (.astore_n 1, 1) := dc_at (f := decode cL_law) dAL_law_q0 3 rfl
theorem dL_law_8 : decode cL_law 8 = .ok (.new 10, 3) := dc_at (f := decode cL_law) dAL_law_q0 4 rfl
theorem dL_law_11 : decode cL_law 11 = .ok (.dup, 1) := dc_at (f := decode cL_law) dAL_law_q0 5 rfl
theorem dL_law_12 : decode cL_law 12 = .ok (.invokespecial 12, 3) := dc_at (f := decode cL_law) dAL_law_q0 6 rfl
theorem dL_law_15 : decode cL_law 15 = .ok (.astore_n 2, 1) := dc_at (f := decode cL_law) dAL_law_q0 7 rfl
theorem dL_law_16 : decode cL_law 16 = .ok (.iconst 0, 1) := dc_at (f := decode cL_law) dAL_law_q0 8 rfl
theorem dL_law_17 : decode cL_law 17 = .ok (.istore_n 3, 1) := dc_at (f := decode cL_law) dAL_law_q0 9 rfl
theorem dL_law_18 : decode cL_law 18 = .ok (.iload_n 3, 1) := dc_at (f := decode cL_law) dAL_law_q0 10 rfl
theorem dL_law_19 : decode cL_law 19 = .ok (.aload_n 0, 1) := dc_at (f := decode cL_law) dAL_law_q0 11 rfl
theorem dL_law_20 : decode cL_law 20 = .ok (.arraylength, 1) := dc_at (f := decode cL_law) dAL_law_q0 12 rfl
theorem dL_law_21 : decode cL_law 21 = .ok (.bipush 6, 2) := dc_at (f := decode cL_law) dAL_law_q0 13 rfl
theorem dL_law_23 : decode cL_law 23 = .ok (.isub, 1) := dc_at (f := decode cL_law) dAL_law_q0 14 rfl
theorem dL_law_24 : decode cL_law 24 = .ok (.if_icmp .gt 834, 3) := dc_at (f := decode cL_law) dAL_law_q0 15 rfl
theorem dL_law_27 : decode cL_law 27 = .ok (.aload_n 0, 1) := dc_at (f := decode cL_law) dAL_law_q0 16 rfl
theorem dL_law_28 : decode cL_law 28 = .ok (.iload_n 3, 1) := dc_at (f := decode cL_law) dAL_law_q0 17 rfl
theorem dL_law_29 : decode cL_law 29 = .ok (.iaload, 1) := dc_at (f := decode cL_law) dAL_law_q0 18 rfl
theorem dL_law_30 : decode cL_law 30 = .ok (.bipush 31, 2) := dc_at (f := decode cL_law) dAL_law_q0 19 rfl
theorem dL_law_32 : decode cL_law 32 = .ok (.iand, 1) := dc_at (f := decode cL_law) dAL_law_q0 20 rfl
theorem dL_law_33 : decode cL_law 33 = .ok (.tableswitch 819 0 23 #[111, 174, 197, 210, 233, 256, 299, 348, 411, 444, 477, 510, 533, 546, 579, 612, 645, 658, 691, 714, 737, 760, 773, 796], 111) := dc_at (f := decode cL_law) dAL_law_q0 21 rfl
theorem dL_law_144 : decode cL_law 144 = .ok (.aload_n 1, 1) := dc_at (f := decode cL_law) dAL_law_q0 22 rfl
theorem dL_law_145 : decode cL_law 145 = .ok (.aload_n 0, 1) := dc_at (f := decode cL_law) dAL_law_q0 23 rfl
theorem dL_law_146 : decode cL_law 146 = .ok (.iload_n 3, 1) := dc_at (f := decode cL_law) dAL_law_q0 24 rfl
theorem dL_law_147 : decode cL_law 147 = .ok (.iconst 1, 1) := dc_at (f := decode cL_law) dAL_law_q0 25 rfl
theorem dL_law_148 : decode cL_law 148 = .ok (.iadd, 1) := dc_at (f := decode cL_law) dAL_law_q0 26 rfl
theorem dL_law_149 : decode cL_law 149 = .ok (.iaload, 1) := dc_at (f := decode cL_law) dAL_law_q0 27 rfl
theorem dL_law_150 : decode cL_law 150 = .ok (.aload_n 0, 1) := dc_at (f := decode cL_law) dAL_law_q0 28 rfl
theorem dL_law_151 : decode cL_law 151 = .ok (.iload_n 3, 1) := dc_at (f := decode cL_law) dAL_law_q0 29 rfl
theorem dL_law_152 : decode cL_law 152 = .ok (.iconst 2, 1) := dc_at (f := decode cL_law) dAL_law_q0 30 rfl
theorem dL_law_153 : decode cL_law 153 = .ok (.iadd, 1) := dc_at (f := decode cL_law) dAL_law_q0 31 rfl
theorem dL_law_154 : decode cL_law 154 = .ok (.iaload, 1) := dc_at (f := decode cL_law) dAL_law_q0 32 rfl
theorem dL_law_155 : decode cL_law 155 = .ok (.aload_n 0, 1) := dc_at (f := decode cL_law) dAL_law_q0 33 rfl
theorem dL_law_156 : decode cL_law 156 = .ok (.iload_n 3, 1) := dc_at (f := decode cL_law) dAL_law_q0 34 rfl
theorem dL_law_157 : decode cL_law 157 = .ok (.iconst 3, 1) := dc_at (f := decode cL_law) dAL_law_q0 35 rfl
theorem dL_law_158 : decode cL_law 158 = .ok (.iadd, 1) := dc_at (f := decode cL_law) dAL_law_q0 36 rfl
theorem dL_law_159 : decode cL_law 159 = .ok (.iaload, 1) := dc_at (f := decode cL_law) dAL_law_q0 37 rfl
theorem dL_law_160 : decode cL_law 160 = .ok (.aload_n 0, 1) := dc_at (f := decode cL_law) dAL_law_q0 38 rfl
theorem dL_law_161 : decode cL_law 161 = .ok (.iload_n 3, 1) := dc_at (f := decode cL_law) dAL_law_q0 39 rfl
theorem dL_law_162 : decode cL_law 162 = .ok (.iconst 4, 1) := dc_at (f := decode cL_law) dAL_law_q0 40 rfl
theorem dL_law_163 : decode cL_law 163 = .ok (.iadd, 1) := dc_at (f := decode cL_law) dAL_law_q0 41 rfl
theorem dL_law_164 : decode cL_law 164 = .ok (.iaload, 1) := dc_at (f := decode cL_law) dAL_law_q0 42 rfl
theorem dL_law_165 : decode cL_law 165 = .ok (.aload_n 0, 1) := dc_at (f := decode cL_law) dAL_law_q0 43 rfl
theorem dL_law_166 : decode cL_law 166 = .ok (.iload_n 3, 1) := dc_at (f := decode cL_law) dAL_law_q0 44 rfl
theorem dL_law_167 : decode cL_law 167 = .ok (.iconst 5, 1) := dc_at (f := decode cL_law) dAL_law_q0 45 rfl
theorem dL_law_168 : decode cL_law 168 = .ok (.iadd, 1) := dc_at (f := decode cL_law) dAL_law_q0 46 rfl
theorem dL_law_169 : decode cL_law 169 = .ok (.iaload, 1) := dc_at (f := decode cL_law) dAL_law_q0 47 rfl
def dPL_law_q1 : List (Nat × (Jvm.ClassFile.Instr × Nat)) := [(170, (.invokevirtual 13, 3)), (173, (.pop, 1)), (174, (.aload_n 2, 1)), (175, (.aload_n 0, 1)), (176, (.iload_n 3, 1)), (177, (.iconst 1, 1)), (178, (.iadd, 1)), (179, (.iaload, 1)), (180, (.aload_n 0, 1)), (181, (.iload_n 3, 1)), (182, (.iconst 2, 1)), (183, (.iadd, 1)), (184, (.iaload, 1)), (185, (.aload_n 0, 1)), (186, (.iload_n 3, 1)), (187, (.iconst 3, 1)), (188, (.iadd, 1)), (189, (.iaload, 1)), (190, (.aload_n 0, 1)), (191, (.iload_n 3, 1)), (192, (.iconst 4, 1)), (193, (.iadd, 1)), (194, (.iaload, 1)), (195, (.aload_n 0, 1)), (196, (.iload_n 3, 1)), (197, (.iconst 5, 1)), (198, (.iadd, 1)), (199, (.iaload, 1)), (200, (.invokevirtual 17, 3)), (203, (.pop, 1)), (204, (.goto 648, 3)), (207, (.aload_n 1, 1)), (208, (.aload_n 0, 1)), (209, (.iload_n 3, 1)), (210, (.iconst 1, 1)), (211, (.iadd, 1)), (212, (.iaload, 1)), (213, (.invokevirtual 18, 3)), (216, (.pop, 1)), (217, (.aload_n 2, 1)), (218, (.aload_n 0, 1)), (219, (.iload_n 3, 1)), (220, (.iconst 1, 1)), (221, (.iadd, 1)), (222, (.iaload, 1)), (223, (.invokevirtual 22, 3)), (226, (.pop, 1)), (227, (.goto 625, 3))]
theorem dAL_law_q1 : ∀ x ∈ dPL_law_q1, decode cL_law x.1 = .ok x.2 := by decide +kernel
theorem dL_law_170 : decode cL_law 170 = .ok (.invokevirtual 13, 3) := dc_at (f := decode cL_law) dAL_law_q1 0 rfl
theorem dL_law_173 : decode cL_law 173 = .ok (.pop, 1) := dc_at (f := decode cL_law) dAL_law_q1 1 rfl
theorem dL_law_174 : decode cL_law 174 = .ok (.aload_n 2, 1) := dc_at (f := decode cL_law) dAL_law_q1 2 rfl
theorem dL_law_175 : decode cL_law 175 = .ok (.aload_n 0, 1) := dc_at (f := decode cL_law) dAL_law_q1 3 rfl
theorem dL_law_176 : decode cL_law 176 = .ok (.iload_n 3, 1) := dc_at (f := decode cL_law) dAL_law_q1 4 rfl
theorem dL_law_177 : decode cL_law 177 = .ok (.iconst 1, 1) := dc_at (f := decode cL_law) dAL_law_q1 5 rfl
theorem dL_law_178 : decode cL_law 178 = .ok (.iadd, 1) := dc_at (f := decode cL_law) dAL_law_q1 6 rfl
theorem dL_law_179 : decode cL_law 179 = .ok (.iaload, 1) := dc_at (f := decode cL_law) dAL_law_q1 7 rfl
theorem dL_law_180 : decode cL_law 180 = .ok (.aload_n 0, 1) := dc_at (f := decode cL_law) dAL_law_q1 8 rfl
theorem dL_law_181 : decode cL_law 181 = .ok (.iload_n 3, 1) := dc_at (f := decode cL_law) dAL_law_q1 9 rfl
theorem dL_law_182 : decode cL_law 182 = .ok (.iconst 2, 1) := dc_at (f := decode cL_law) dAL_law_q1 10 rfl
theorem dL_law_183 : decode cL_law 183 = .ok (.iadd, 1) := dc_at (f := decode cL_law) dAL_law_q1 11 rfl
theorem dL_law_184 : decode cL_law 184 = .ok (.iaload, 1) := dc_at (f := decode cL_law) dAL_law_q1 12 rfl
theorem dL_law_185 : decode cL_law 185 = .ok (.aload_n 0, 1) := dc_at (f := decode cL_law) dAL_law_q1 13 rfl
theorem dL_law_186 : decode cL_law 186 = .ok (.iload_n 3, 1) := dc_at (f := decode cL_law) dAL_law_q1 14 rfl
theorem dL_law_187 : decode cL_law 187 = .ok (.iconst 3, 1) := dc_at (f := decode cL_law) dAL_law_q1 15 rfl
theorem dL_law_188 : decode cL_law 188 = .ok (.iadd, 1) := dc_at (f := decode cL_law) dAL_law_q1 16 rfl
theorem dL_law_189 : decode cL_law 189 = .ok (.iaload, 1) := dc_at (f := decode cL_law) dAL_law_q1 17 rfl
theorem dL_law_190 : decode cL_law 190 = .ok (.aload_n 0, 1) := dc_at (f := decode cL_law) dAL_law_q1 18 rfl
theorem dL_law_191 : decode cL_law 191 = .ok (.iload_n 3, 1) := dc_at (f := decode cL_law) dAL_law_q1 19 rfl
theorem dL_law_192 : decode cL_law 192 = .ok (.iconst 4, 1) := dc_at (f := decode cL_law) dAL_law_q1 20 rfl
theorem dL_law_193 : decode cL_law 193 = .ok (.iadd, 1) := dc_at (f := decode cL_law) dAL_law_q1 21 rfl
theorem dL_law_194 : decode cL_law 194 = .ok (.iaload, 1) := dc_at (f := decode cL_law) dAL_law_q1 22 rfl
theorem dL_law_195 : decode cL_law 195 = .ok (.aload_n 0, 1) := dc_at (f := decode cL_law) dAL_law_q1 23 rfl
theorem dL_law_196 : decode cL_law 196 = .ok (.iload_n 3, 1) := dc_at (f := decode cL_law) dAL_law_q1 24 rfl
theorem dL_law_197 : decode cL_law 197 = .ok (.iconst 5, 1) := dc_at (f := decode cL_law) dAL_law_q1 25 rfl
theorem dL_law_198 : decode cL_law 198 = .ok (.iadd, 1) := dc_at (f := decode cL_law) dAL_law_q1 26 rfl
theorem dL_law_199 : decode cL_law 199 = .ok (.iaload, 1) := dc_at (f := decode cL_law) dAL_law_q1 27 rfl
theorem dL_law_200 : decode cL_law 200 = .ok (.invokevirtual 17, 3) := dc_at (f := decode cL_law) dAL_law_q1 28 rfl
theorem dL_law_203 : decode cL_law 203 = .ok (.pop, 1) := dc_at (f := decode cL_law) dAL_law_q1 29 rfl
theorem dL_law_204 : decode cL_law 204 = .ok (.goto 648, 3) := dc_at (f := decode cL_law) dAL_law_q1 30 rfl
theorem dL_law_207 : decode cL_law 207 = .ok (.aload_n 1, 1) := dc_at (f := decode cL_law) dAL_law_q1 31 rfl
theorem dL_law_208 : decode cL_law 208 = .ok (.aload_n 0, 1) := dc_at (f := decode cL_law) dAL_law_q1 32 rfl
theorem dL_law_209 : decode cL_law 209 = .ok (.iload_n 3, 1) := dc_at (f := decode cL_law) dAL_law_q1 33 rfl
theorem dL_law_210 : decode cL_law 210 = .ok (.iconst 1, 1) := dc_at (f := decode cL_law) dAL_law_q1 34 rfl
theorem dL_law_211 : decode cL_law 211 = .ok (.iadd, 1) := dc_at (f := decode cL_law) dAL_law_q1 35 rfl
theorem dL_law_212 : decode cL_law 212 = .ok (.iaload, 1) := dc_at (f := decode cL_law) dAL_law_q1 36 rfl
theorem dL_law_213 : decode cL_law 213 = .ok (.invokevirtual 18, 3) := dc_at (f := decode cL_law) dAL_law_q1 37 rfl
theorem dL_law_216 : decode cL_law 216 = .ok (.pop, 1) := dc_at (f := decode cL_law) dAL_law_q1 38 rfl
theorem dL_law_217 : decode cL_law 217 = .ok (.aload_n 2, 1) := dc_at (f := decode cL_law) dAL_law_q1 39 rfl
theorem dL_law_218 : decode cL_law 218 = .ok (.aload_n 0, 1) := dc_at (f := decode cL_law) dAL_law_q1 40 rfl
theorem dL_law_219 : decode cL_law 219 = .ok (.iload_n 3, 1) := dc_at (f := decode cL_law) dAL_law_q1 41 rfl
theorem dL_law_220 : decode cL_law 220 = .ok (.iconst 1, 1) := dc_at (f := decode cL_law) dAL_law_q1 42 rfl
theorem dL_law_221 : decode cL_law 221 = .ok (.iadd, 1) := dc_at (f := decode cL_law) dAL_law_q1 43 rfl
theorem dL_law_222 : decode cL_law 222 = .ok (.iaload, 1) := dc_at (f := decode cL_law) dAL_law_q1 44 rfl
theorem dL_law_223 : decode cL_law 223 = .ok (.invokevirtual 22, 3) := dc_at (f := decode cL_law) dAL_law_q1 45 rfl
theorem dL_law_226 : decode cL_law 226 = .ok (.pop, 1) := dc_at (f := decode cL_law) dAL_law_q1 46 rfl
theorem dL_law_227 : decode cL_law 227 = .ok (.goto 625, 3) := dc_at (f := decode cL_law) dAL_law_q1 47 rfl
def dPL_law_q2 : List (Nat × (Jvm.ClassFile.Instr × Nat)) := [(230, (.aload_n 1, 1)), (231, (.invokevirtual 23, 3)), (234, (.pop, 1)), (235, (.aload_n 2, 1)), (236, (.invokevirtual 27, 3)), (239, (.pop, 1)), (240, (.goto 612, 3)), (243, (.aload_n 1, 1)), (244, (.aload_n 0, 1)), (245, (.iload_n 3, 1)), (246, (.iconst 1, 1)), (247, (.iadd, 1)), (248, (.iaload, 1)), (249, (.invokevirtual 28, 3)), (252, (.pop, 1)), (253, (.aload_n 2, 1)), (254, (.aload_n 0, 1)), (255, (.iload_n 3, 1)), (256, (.iconst 1, 1)), (257, (.iadd, 1)), (258, (.iaload, 1)), (259, (.invokevirtual 31, 3)), (262, (.pop, 1)), (263, (.goto 589, 3)), (266, (.aload_n 1, 1)), (267, (.aload_n 0, 1)), (268, (.iload_n 3, 1)), (269, (.iconst 1, 1)), (270, (.iadd, 1)), (271, (.iaload, 1)), (272, (.invokevirtual 32, 3)), (275, (.pop, 1)), (276, (.aload_n 2, 1)), (277, (.aload_n 0, 1)), (278, (.iload_n 3, 1)), (279, (.iconst 1, 1)), (280, (.iadd, 1)), (281, (.iaload, 1)), (282, (.invokevirtual 35, 3)), (285, (.pop, 1)), (286, (.goto 566, 3)), (289, (.aload_n 1, 1)), (290, (.aload_n 0, 1)), (291, (.iload_n 3, 1)), (292, (.iconst 1, 1)), (293, (.iadd, 1)), (294, (.iaload, 1)), (295, (.aload_n 0, 1))]
theorem dAL_law_q2 : ∀ x ∈ dPL_law_q2, decode cL_law x.1 = .ok x.2 := by decide +kernel
theorem dL_law_230 : decode cL_law 230 = .ok (.aload_n 1, 1) := dc_at (f := decode cL_law) dAL_law_q2 0 rfl
theorem dL_law_231 : decode cL_law 231 = .ok (.invokevirtual 23, 3) := dc_at (f := decode cL_law) dAL_law_q2 1 rfl
theorem dL_law_234 : decode cL_law 234 = .ok (.pop, 1) := dc_at (f := decode cL_law) dAL_law_q2 2 rfl
theorem dL_law_235 : decode cL_law 235 = .ok (.aload_n 2, 1) := dc_at (f := decode cL_law) dAL_law_q2 3 rfl
theorem dL_law_236 : decode cL_law 236 = .ok (.invokevirtual 27, 3) := dc_at (f := decode cL_law) dAL_law_q2 4 rfl
theorem dL_law_239 : decode cL_law 239 = .ok (.pop, 1) := dc_at (f := decode cL_law) dAL_law_q2 5 rfl
theorem dL_law_240 : decode cL_law 240 = .ok (.goto 612, 3) := dc_at (f := decode cL_law) dAL_law_q2 6 rfl
theorem dL_law_243 : decode cL_law 243 = .ok (.aload_n 1, 1) := dc_at (f := decode cL_law) dAL_law_q2 7 rfl
theorem dL_law_244 : decode cL_law 244 = .ok (.aload_n 0, 1) := dc_at (f := decode cL_law) dAL_law_q2 8 rfl
theorem dL_law_245 : decode cL_law 245 = .ok (.iload_n 3, 1) := dc_at (f := decode cL_law) dAL_law_q2 9 rfl
theorem dL_law_246 : decode cL_law 246 = .ok (.iconst 1, 1) := dc_at (f := decode cL_law) dAL_law_q2 10 rfl
theorem dL_law_247 : decode cL_law 247 = .ok (.iadd, 1) := dc_at (f := decode cL_law) dAL_law_q2 11 rfl
theorem dL_law_248 : decode cL_law 248 = .ok (.iaload, 1) := dc_at (f := decode cL_law) dAL_law_q2 12 rfl
theorem dL_law_249 : decode cL_law 249 = .ok (.invokevirtual 28, 3) := dc_at (f := decode cL_law) dAL_law_q2 13 rfl
theorem dL_law_252 : decode cL_law 252 = .ok (.pop, 1) := dc_at (f := decode cL_law) dAL_law_q2 14 rfl
theorem dL_law_253 : decode cL_law 253 = .ok (.aload_n 2, 1) := dc_at (f := decode cL_law) dAL_law_q2 15 rfl
theorem dL_law_254 : decode cL_law 254 = .ok (.aload_n 0, 1) := dc_at (f := decode cL_law) dAL_law_q2 16 rfl
theorem dL_law_255 : decode cL_law 255 = .ok (.iload_n 3, 1) := dc_at (f := decode cL_law) dAL_law_q2 17 rfl
theorem dL_law_256 : decode cL_law 256 = .ok (.iconst 1, 1) := dc_at (f := decode cL_law) dAL_law_q2 18 rfl
theorem dL_law_257 : decode cL_law 257 = .ok (.iadd, 1) := dc_at (f := decode cL_law) dAL_law_q2 19 rfl
theorem dL_law_258 : decode cL_law 258 = .ok (.iaload, 1) := dc_at (f := decode cL_law) dAL_law_q2 20 rfl
theorem dL_law_259 : decode cL_law 259 = .ok (.invokevirtual 31, 3) := dc_at (f := decode cL_law) dAL_law_q2 21 rfl
theorem dL_law_262 : decode cL_law 262 = .ok (.pop, 1) := dc_at (f := decode cL_law) dAL_law_q2 22 rfl
theorem dL_law_263 : decode cL_law 263 = .ok (.goto 589, 3) := dc_at (f := decode cL_law) dAL_law_q2 23 rfl
theorem dL_law_266 : decode cL_law 266 = .ok (.aload_n 1, 1) := dc_at (f := decode cL_law) dAL_law_q2 24 rfl
theorem dL_law_267 : decode cL_law 267 = .ok (.aload_n 0, 1) := dc_at (f := decode cL_law) dAL_law_q2 25 rfl
theorem dL_law_268 : decode cL_law 268 = .ok (.iload_n 3, 1) := dc_at (f := decode cL_law) dAL_law_q2 26 rfl
theorem dL_law_269 : decode cL_law 269 = .ok (.iconst 1, 1) := dc_at (f := decode cL_law) dAL_law_q2 27 rfl
theorem dL_law_270 : decode cL_law 270 = .ok (.iadd, 1) := dc_at (f := decode cL_law) dAL_law_q2 28 rfl
theorem dL_law_271 : decode cL_law 271 = .ok (.iaload, 1) := dc_at (f := decode cL_law) dAL_law_q2 29 rfl
theorem dL_law_272 : decode cL_law 272 = .ok (.invokevirtual 32, 3) := dc_at (f := decode cL_law) dAL_law_q2 30 rfl
theorem dL_law_275 : decode cL_law 275 = .ok (.pop, 1) := dc_at (f := decode cL_law) dAL_law_q2 31 rfl
theorem dL_law_276 : decode cL_law 276 = .ok (.aload_n 2, 1) := dc_at (f := decode cL_law) dAL_law_q2 32 rfl
theorem dL_law_277 : decode cL_law 277 = .ok (.aload_n 0, 1) := dc_at (f := decode cL_law) dAL_law_q2 33 rfl
theorem dL_law_278 : decode cL_law 278 = .ok (.iload_n 3, 1) := dc_at (f := decode cL_law) dAL_law_q2 34 rfl
theorem dL_law_279 : decode cL_law 279 = .ok (.iconst 1, 1) := dc_at (f := decode cL_law) dAL_law_q2 35 rfl
theorem dL_law_280 : decode cL_law 280 = .ok (.iadd, 1) := dc_at (f := decode cL_law) dAL_law_q2 36 rfl
theorem dL_law_281 : decode cL_law 281 = .ok (.iaload, 1) := dc_at (f := decode cL_law) dAL_law_q2 37 rfl
theorem dL_law_282 : decode cL_law 282 = .ok (.invokevirtual 35, 3) := dc_at (f := decode cL_law) dAL_law_q2 38 rfl
theorem dL_law_285 : decode cL_law 285 = .ok (.pop, 1) := dc_at (f := decode cL_law) dAL_law_q2 39 rfl
theorem dL_law_286 : decode cL_law 286 = .ok (.goto 566, 3) := dc_at (f := decode cL_law) dAL_law_q2 40 rfl
theorem dL_law_289 : decode cL_law 289 = .ok (.aload_n 1, 1) := dc_at (f := decode cL_law) dAL_law_q2 41 rfl
theorem dL_law_290 : decode cL_law 290 = .ok (.aload_n 0, 1) := dc_at (f := decode cL_law) dAL_law_q2 42 rfl
theorem dL_law_291 : decode cL_law 291 = .ok (.iload_n 3, 1) := dc_at (f := decode cL_law) dAL_law_q2 43 rfl
theorem dL_law_292 : decode cL_law 292 = .ok (.iconst 1, 1) := dc_at (f := decode cL_law) dAL_law_q2 44 rfl
theorem dL_law_293 : decode cL_law 293 = .ok (.iadd, 1) := dc_at (f := decode cL_law) dAL_law_q2 45 rfl
theorem dL_law_294 : decode cL_law 294 = .ok (.iaload, 1) := dc_at (f := decode cL_law) dAL_law_q2 46 rfl
theorem dL_law_295 : decode cL_law 295 = .ok (.aload_n 0, 1) := dc_at (f := decode cL_law) dAL_law_q2 47 rfl
def dPL_law_q3 : List (Nat × (Jvm.ClassFile.Instr × Nat)) := [(296, (.iload_n 3, 1)), (297, (.iconst 2, 1)), (298, (.iadd, 1)), (299, (.iaload, 1)), (300, (.aload_n 0, 1)), (301, (.iload_n 3, 1)), (302, (.iconst 3, 1)), (303, (.iadd, 1)), (304, (.iaload, 1)), (305, (.invokevirtual 36, 3)), (308, (.pop, 1)), (309, (.aload_n 2, 1)), (310, (.aload_n 0, 1)), (311, (.iload_n 3, 1)), (312, (.iconst 1, 1)), (313, (.iadd, 1)), (314, (.iaload, 1)), (315, (.aload_n 0, 1)), (316, (.iload_n 3, 1)), (317, (.iconst 2, 1)), (318, (.iadd, 1)), (319, (.iaload, 1)), (320, (.aload_n 0, 1)), (321, (.iload_n 3, 1)), (322, (.iconst 3, 1)), (323, (.iadd, 1)), (324, (.iaload, 1)), (325, (.invokevirtual 40, 3)), (328, (.pop, 1)), (329, (.goto 523, 3)), (332, (.aload_n 1, 1)), (333, (.aload_n 0, 1)), (334, (.iload_n 3, 1)), (335, (.iconst 1, 1)), (336, (.iadd, 1)), (337, (.iaload, 1)), (338, (.aload_n 0, 1)), (339, (.iload_n 3, 1)), (340, (.iconst 2, 1)), (341, (.iadd, 1)), (342, (.iaload, 1)), (343, (.ifCond .eq 7, 3)), (346, (.iconst 1, 1)), (347, (.goto 4, 3)), (350, (.iconst 0, 1)), (351, (.invokevirtual 41, 3)), (354, (.pop, 1)), (355, (.aload_n 2, 1))]
theorem dAL_law_q3 : ∀ x ∈ dPL_law_q3, decode cL_law x.1 = .ok x.2 := by decide +kernel
theorem dL_law_296 : decode cL_law 296 = .ok (.iload_n 3, 1) := dc_at (f := decode cL_law) dAL_law_q3 0 rfl
theorem dL_law_297 : decode cL_law 297 = .ok (.iconst 2, 1) := dc_at (f := decode cL_law) dAL_law_q3 1 rfl
theorem dL_law_298 : decode cL_law 298 = .ok (.iadd, 1) := dc_at (f := decode cL_law) dAL_law_q3 2 rfl
theorem dL_law_299 : decode cL_law 299 = .ok (.iaload, 1) := dc_at (f := decode cL_law) dAL_law_q3 3 rfl
theorem dL_law_300 : decode cL_law 300 = .ok (.aload_n 0, 1) := dc_at (f := decode cL_law) dAL_law_q3 4 rfl
theorem dL_law_301 : decode cL_law 301 = .ok (.iload_n 3, 1) := dc_at (f := decode cL_law) dAL_law_q3 5 rfl
theorem dL_law_302 : decode cL_law 302 = .ok (.iconst 3, 1) := dc_at (f := decode cL_law) dAL_law_q3 6 rfl
theorem dL_law_303 : decode cL_law 303 = .ok (.iadd, 1) := dc_at (f := decode cL_law) dAL_law_q3 7 rfl
theorem dL_law_304 : decode cL_law 304 = .ok (.iaload, 1) := dc_at (f := decode cL_law) dAL_law_q3 8 rfl
theorem dL_law_305 : decode cL_law 305 = .ok (.invokevirtual 36, 3) := dc_at (f := decode cL_law) dAL_law_q3 9 rfl
theorem dL_law_308 : decode cL_law 308 = .ok (.pop, 1) := dc_at (f := decode cL_law) dAL_law_q3 10 rfl
theorem dL_law_309 : decode cL_law 309 = .ok (.aload_n 2, 1) := dc_at (f := decode cL_law) dAL_law_q3 11 rfl
theorem dL_law_310 : decode cL_law 310 = .ok (.aload_n 0, 1) := dc_at (f := decode cL_law) dAL_law_q3 12 rfl
theorem dL_law_311 : decode cL_law 311 = .ok (.iload_n 3, 1) := dc_at (f := decode cL_law) dAL_law_q3 13 rfl
theorem dL_law_312 : decode cL_law 312 = .ok (.iconst 1, 1) := dc_at (f := decode cL_law) dAL_law_q3 14 rfl
theorem dL_law_313 : decode cL_law 313 = .ok (.iadd, 1) := dc_at (f := decode cL_law) dAL_law_q3 15 rfl
theorem dL_law_314 : decode cL_law 314 = .ok (.iaload, 1) := dc_at (f := decode cL_law) dAL_law_q3 16 rfl
theorem dL_law_315 : decode cL_law 315 = .ok (.aload_n 0, 1) := dc_at (f := decode cL_law) dAL_law_q3 17 rfl
theorem dL_law_316 : decode cL_law 316 = .ok (.iload_n 3, 1) := dc_at (f := decode cL_law) dAL_law_q3 18 rfl
theorem dL_law_317 : decode cL_law 317 = .ok (.iconst 2, 1) := dc_at (f := decode cL_law) dAL_law_q3 19 rfl
theorem dL_law_318 : decode cL_law 318 = .ok (.iadd, 1) := dc_at (f := decode cL_law) dAL_law_q3 20 rfl
theorem dL_law_319 : decode cL_law 319 = .ok (.iaload, 1) := dc_at (f := decode cL_law) dAL_law_q3 21 rfl
theorem dL_law_320 : decode cL_law 320 = .ok (.aload_n 0, 1) := dc_at (f := decode cL_law) dAL_law_q3 22 rfl
theorem dL_law_321 : decode cL_law 321 = .ok (.iload_n 3, 1) := dc_at (f := decode cL_law) dAL_law_q3 23 rfl
theorem dL_law_322 : decode cL_law 322 = .ok (.iconst 3, 1) := dc_at (f := decode cL_law) dAL_law_q3 24 rfl
theorem dL_law_323 : decode cL_law 323 = .ok (.iadd, 1) := dc_at (f := decode cL_law) dAL_law_q3 25 rfl
theorem dL_law_324 : decode cL_law 324 = .ok (.iaload, 1) := dc_at (f := decode cL_law) dAL_law_q3 26 rfl
theorem dL_law_325 : decode cL_law 325 = .ok (.invokevirtual 40, 3) := dc_at (f := decode cL_law) dAL_law_q3 27 rfl
theorem dL_law_328 : decode cL_law 328 = .ok (.pop, 1) := dc_at (f := decode cL_law) dAL_law_q3 28 rfl
theorem dL_law_329 : decode cL_law 329 = .ok (.goto 523, 3) := dc_at (f := decode cL_law) dAL_law_q3 29 rfl
theorem dL_law_332 : decode cL_law 332 = .ok (.aload_n 1, 1) := dc_at (f := decode cL_law) dAL_law_q3 30 rfl
theorem dL_law_333 : decode cL_law 333 = .ok (.aload_n 0, 1) := dc_at (f := decode cL_law) dAL_law_q3 31 rfl
theorem dL_law_334 : decode cL_law 334 = .ok (.iload_n 3, 1) := dc_at (f := decode cL_law) dAL_law_q3 32 rfl
theorem dL_law_335 : decode cL_law 335 = .ok (.iconst 1, 1) := dc_at (f := decode cL_law) dAL_law_q3 33 rfl
theorem dL_law_336 : decode cL_law 336 = .ok (.iadd, 1) := dc_at (f := decode cL_law) dAL_law_q3 34 rfl
theorem dL_law_337 : decode cL_law 337 = .ok (.iaload, 1) := dc_at (f := decode cL_law) dAL_law_q3 35 rfl
theorem dL_law_338 : decode cL_law 338 = .ok (.aload_n 0, 1) := dc_at (f := decode cL_law) dAL_law_q3 36 rfl
theorem dL_law_339 : decode cL_law 339 = .ok (.iload_n 3, 1) := dc_at (f := decode cL_law) dAL_law_q3 37 rfl
theorem dL_law_340 : decode cL_law 340 = .ok (.iconst 2, 1) := dc_at (f := decode cL_law) dAL_law_q3 38 rfl
theorem dL_law_341 : decode cL_law 341 = .ok (.iadd, 1) := dc_at (f := decode cL_law) dAL_law_q3 39 rfl
theorem dL_law_342 : decode cL_law 342 = .ok (.iaload, 1) := dc_at (f := decode cL_law) dAL_law_q3 40 rfl
theorem dL_law_343 : decode cL_law 343 = .ok (.ifCond .eq 7, 3) := dc_at (f := decode cL_law) dAL_law_q3 41 rfl
theorem dL_law_346 : decode cL_law 346 = .ok (.iconst 1, 1) := dc_at (f := decode cL_law) dAL_law_q3 42 rfl
theorem dL_law_347 : decode cL_law 347 = .ok (.goto 4, 3) := dc_at (f := decode cL_law) dAL_law_q3 43 rfl
theorem dL_law_350 : decode cL_law 350 = .ok (.iconst 0, 1) := dc_at (f := decode cL_law) dAL_law_q3 44 rfl
theorem dL_law_351 : decode cL_law 351 = .ok (.invokevirtual 41, 3) := dc_at (f := decode cL_law) dAL_law_q3 45 rfl
theorem dL_law_354 : decode cL_law 354 = .ok (.pop, 1) := dc_at (f := decode cL_law) dAL_law_q3 46 rfl
theorem dL_law_355 : decode cL_law 355 = .ok (.aload_n 2, 1) := dc_at (f := decode cL_law) dAL_law_q3 47 rfl
def dPL_law_q4 : List (Nat × (Jvm.ClassFile.Instr × Nat)) := [(356, (.aload_n 0, 1)), (357, (.iload_n 3, 1)), (358, (.iconst 1, 1)), (359, (.iadd, 1)), (360, (.iaload, 1)), (361, (.aload_n 0, 1)), (362, (.iload_n 3, 1)), (363, (.iconst 2, 1)), (364, (.iadd, 1)), (365, (.iaload, 1)), (366, (.ifCond .eq 7, 3)), (369, (.iconst 1, 1)), (370, (.goto 4, 3)), (373, (.iconst 0, 1)), (374, (.invokevirtual 45, 3)), (377, (.pop, 1)), (378, (.goto 474, 3)), (381, (.aload_n 1, 1)), (382, (.aload_n 0, 1)), (383, (.iload_n 3, 1)), (384, (.iconst 1, 1)), (385, (.iadd, 1)), (386, (.iaload, 1)), (387, (.aload_n 0, 1)), (388, (.iload_n 3, 1)), (389, (.iconst 2, 1)), (390, (.iadd, 1)), (391, (.iaload, 1)), (392, (.aload_n 0, 1)), (393, (.iload_n 3, 1)), (394, (.iconst 3, 1)), (395, (.iadd, 1)), (396, (.iaload, 1)), (397, (.aload_n 0, 1)), (398, (.iload_n 3, 1)), (399, (.iconst 4, 1)), (400, (.iadd, 1)), (401, (.iaload, 1)), (402, (.aload_n 0, 1)), (403, (.iload_n 3, 1)), (404, (.iconst 5, 1)), (405, (.iadd, 1)), (406, (.iaload, 1)), (407, (.invokevirtual 46, 3)), (410, (.pop, 1)), (411, (.aload_n 2, 1)), (412, (.aload_n 0, 1)), (413, (.iload_n 3, 1))]
theorem dAL_law_q4 : ∀ x ∈ dPL_law_q4, decode cL_law x.1 = .ok x.2 := by decide +kernel
theorem dL_law_356 : decode cL_law 356 = .ok (.aload_n 0, 1) := dc_at (f := decode cL_law) dAL_law_q4 0 rfl
theorem dL_law_357 : decode cL_law 357 = .ok (.iload_n 3, 1) := dc_at (f := decode cL_law) dAL_law_q4 1 rfl
theorem dL_law_358 : decode cL_law 358 = .ok (.iconst 1, 1) := dc_at (f := decode cL_law) dAL_law_q4 2 rfl
theorem dL_law_359 : decode cL_law 359 = .ok (.iadd, 1) := dc_at (f := decode cL_law) dAL_law_q4 3 rfl
theorem dL_law_360 : decode cL_law 360 = .ok (.iaload, 1) := dc_at (f := decode cL_law) dAL_law_q4 4 rfl
theorem dL_law_361 : decode cL_law 361 = .ok (.aload_n 0, 1) := dc_at (f := decode cL_law) dAL_law_q4 5 rfl
theorem dL_law_362 : decode cL_law 362 = .ok (.iload_n 3, 1) := dc_at (f := decode cL_law) dAL_law_q4 6 rfl
theorem dL_law_363 : decode cL_law 363 = .ok (.iconst 2, 1) := dc_at (f := decode cL_law) dAL_law_q4 7 rfl
theorem dL_law_364 : decode cL_law 364 = .ok (.iadd, 1) := dc_at (f := decode cL_law) dAL_law_q4 8 rfl
theorem dL_law_365 : decode cL_law 365 = .ok (.iaload, 1) := dc_at (f := decode cL_law) dAL_law_q4 9 rfl
theorem dL_law_366 : decode cL_law 366 = .ok (.ifCond .eq 7, 3) := dc_at (f := decode cL_law) dAL_law_q4 10 rfl
theorem dL_law_369 : decode cL_law 369 = .ok (.iconst 1, 1) := dc_at (f := decode cL_law) dAL_law_q4 11 rfl
theorem dL_law_370 : decode cL_law 370 = .ok (.goto 4, 3) := dc_at (f := decode cL_law) dAL_law_q4 12 rfl
theorem dL_law_373 : decode cL_law 373 = .ok (.iconst 0, 1) := dc_at (f := decode cL_law) dAL_law_q4 13 rfl
theorem dL_law_374 : decode cL_law 374 = .ok (.invokevirtual 45, 3) := dc_at (f := decode cL_law) dAL_law_q4 14 rfl
theorem dL_law_377 : decode cL_law 377 = .ok (.pop, 1) := dc_at (f := decode cL_law) dAL_law_q4 15 rfl
theorem dL_law_378 : decode cL_law 378 = .ok (.goto 474, 3) := dc_at (f := decode cL_law) dAL_law_q4 16 rfl
theorem dL_law_381 : decode cL_law 381 = .ok (.aload_n 1, 1) := dc_at (f := decode cL_law) dAL_law_q4 17 rfl
theorem dL_law_382 : decode cL_law 382 = .ok (.aload_n 0, 1) := dc_at (f := decode cL_law) dAL_law_q4 18 rfl
theorem dL_law_383 : decode cL_law 383 = .ok (.iload_n 3, 1) := dc_at (f := decode cL_law) dAL_law_q4 19 rfl
theorem dL_law_384 : decode cL_law 384 = .ok (.iconst 1, 1) := dc_at (f := decode cL_law) dAL_law_q4 20 rfl
theorem dL_law_385 : decode cL_law 385 = .ok (.iadd, 1) := dc_at (f := decode cL_law) dAL_law_q4 21 rfl
theorem dL_law_386 : decode cL_law 386 = .ok (.iaload, 1) := dc_at (f := decode cL_law) dAL_law_q4 22 rfl
theorem dL_law_387 : decode cL_law 387 = .ok (.aload_n 0, 1) := dc_at (f := decode cL_law) dAL_law_q4 23 rfl
theorem dL_law_388 : decode cL_law 388 = .ok (.iload_n 3, 1) := dc_at (f := decode cL_law) dAL_law_q4 24 rfl
theorem dL_law_389 : decode cL_law 389 = .ok (.iconst 2, 1) := dc_at (f := decode cL_law) dAL_law_q4 25 rfl
theorem dL_law_390 : decode cL_law 390 = .ok (.iadd, 1) := dc_at (f := decode cL_law) dAL_law_q4 26 rfl
theorem dL_law_391 : decode cL_law 391 = .ok (.iaload, 1) := dc_at (f := decode cL_law) dAL_law_q4 27 rfl
theorem dL_law_392 : decode cL_law 392 = .ok (.aload_n 0, 1) := dc_at (f := decode cL_law) dAL_law_q4 28 rfl
theorem dL_law_393 : decode cL_law 393 = .ok (.iload_n 3, 1) := dc_at (f := decode cL_law) dAL_law_q4 29 rfl
theorem dL_law_394 : decode cL_law 394 = .ok (.iconst 3, 1) := dc_at (f := decode cL_law) dAL_law_q4 30 rfl
theorem dL_law_395 : decode cL_law 395 = .ok (.iadd, 1) := dc_at (f := decode cL_law) dAL_law_q4 31 rfl
theorem dL_law_396 : decode cL_law 396 = .ok (.iaload, 1) := dc_at (f := decode cL_law) dAL_law_q4 32 rfl
theorem dL_law_397 : decode cL_law 397 = .ok (.aload_n 0, 1) := dc_at (f := decode cL_law) dAL_law_q4 33 rfl
theorem dL_law_398 : decode cL_law 398 = .ok (.iload_n 3, 1) := dc_at (f := decode cL_law) dAL_law_q4 34 rfl
theorem dL_law_399 : decode cL_law 399 = .ok (.iconst 4, 1) := dc_at (f := decode cL_law) dAL_law_q4 35 rfl
theorem dL_law_400 : decode cL_law 400 = .ok (.iadd, 1) := dc_at (f := decode cL_law) dAL_law_q4 36 rfl
theorem dL_law_401 : decode cL_law 401 = .ok (.iaload, 1) := dc_at (f := decode cL_law) dAL_law_q4 37 rfl
theorem dL_law_402 : decode cL_law 402 = .ok (.aload_n 0, 1) := dc_at (f := decode cL_law) dAL_law_q4 38 rfl
theorem dL_law_403 : decode cL_law 403 = .ok (.iload_n 3, 1) := dc_at (f := decode cL_law) dAL_law_q4 39 rfl
theorem dL_law_404 : decode cL_law 404 = .ok (.iconst 5, 1) := dc_at (f := decode cL_law) dAL_law_q4 40 rfl
theorem dL_law_405 : decode cL_law 405 = .ok (.iadd, 1) := dc_at (f := decode cL_law) dAL_law_q4 41 rfl
theorem dL_law_406 : decode cL_law 406 = .ok (.iaload, 1) := dc_at (f := decode cL_law) dAL_law_q4 42 rfl
theorem dL_law_407 : decode cL_law 407 = .ok (.invokevirtual 46, 3) := dc_at (f := decode cL_law) dAL_law_q4 43 rfl
theorem dL_law_410 : decode cL_law 410 = .ok (.pop, 1) := dc_at (f := decode cL_law) dAL_law_q4 44 rfl
theorem dL_law_411 : decode cL_law 411 = .ok (.aload_n 2, 1) := dc_at (f := decode cL_law) dAL_law_q4 45 rfl
theorem dL_law_412 : decode cL_law 412 = .ok (.aload_n 0, 1) := dc_at (f := decode cL_law) dAL_law_q4 46 rfl
theorem dL_law_413 : decode cL_law 413 = .ok (.iload_n 3, 1) := dc_at (f := decode cL_law) dAL_law_q4 47 rfl
def dPL_law_q5 : List (Nat × (Jvm.ClassFile.Instr × Nat)) := [(414, (.iconst 1, 1)), (415, (.iadd, 1)), (416, (.iaload, 1)), (417, (.aload_n 0, 1)), (418, (.iload_n 3, 1)), (419, (.iconst 2, 1)), (420, (.iadd, 1)), (421, (.iaload, 1)), (422, (.aload_n 0, 1)), (423, (.iload_n 3, 1)), (424, (.iconst 3, 1)), (425, (.iadd, 1)), (426, (.iaload, 1)), (427, (.aload_n 0, 1)), (428, (.iload_n 3, 1)), (429, (.iconst 4, 1)), (430, (.iadd, 1)), (431, (.iaload, 1)), (432, (.aload_n 0, 1)), (433, (.iload_n 3, 1)), (434, (.iconst 5, 1)), (435, (.iadd, 1)), (436, (.iaload, 1)), (437, (.invokevirtual 49, 3)), (440, (.pop, 1)), (441, (.goto 411, 3)), (444, (.aload_n 1, 1)), (445, (.aload_n 0, 1)), (446, (.iload_n 3, 1)), (447, (.iconst 1, 1)), (448, (.iadd, 1)), (449, (.iaload, 1)), (450, (.aload_n 0, 1)), (451, (.iload_n 3, 1)), (452, (.iconst 2, 1)), (453, (.iadd, 1)), (454, (.iaload, 1)), (455, (.invokevirtual 50, 3)), (458, (.pop, 1)), (459, (.aload_n 2, 1)), (460, (.aload_n 0, 1)), (461, (.iload_n 3, 1)), (462, (.iconst 1, 1)), (463, (.iadd, 1)), (464, (.iaload, 1)), (465, (.aload_n 0, 1)), (466, (.iload_n 3, 1)), (467, (.iconst 2, 1))]
theorem dAL_law_q5 : ∀ x ∈ dPL_law_q5, decode cL_law x.1 = .ok x.2 := by decide +kernel
theorem dL_law_414 : decode cL_law 414 = .ok (.iconst 1, 1) := dc_at (f := decode cL_law) dAL_law_q5 0 rfl
theorem dL_law_415 : decode cL_law 415 = .ok (.iadd, 1) := dc_at (f := decode cL_law) dAL_law_q5 1 rfl
theorem dL_law_416 : decode cL_law 416 = .ok (.iaload, 1) := dc_at (f := decode cL_law) dAL_law_q5 2 rfl
theorem dL_law_417 : decode cL_law 417 = .ok (.aload_n 0, 1) := dc_at (f := decode cL_law) dAL_law_q5 3 rfl
theorem dL_law_418 : decode cL_law 418 = .ok (.iload_n 3, 1) := dc_at (f := decode cL_law) dAL_law_q5 4 rfl
theorem dL_law_419 : decode cL_law 419 = .ok (.iconst 2, 1) := dc_at (f := decode cL_law) dAL_law_q5 5 rfl
theorem dL_law_420 : decode cL_law 420 = .ok (.iadd, 1) := dc_at (f := decode cL_law) dAL_law_q5 6 rfl
theorem dL_law_421 : decode cL_law 421 = .ok (.iaload, 1) := dc_at (f := decode cL_law) dAL_law_q5 7 rfl
theorem dL_law_422 : decode cL_law 422 = .ok (.aload_n 0, 1) := dc_at (f := decode cL_law) dAL_law_q5 8 rfl
theorem dL_law_423 : decode cL_law 423 = .ok (.iload_n 3, 1) := dc_at (f := decode cL_law) dAL_law_q5 9 rfl
theorem dL_law_424 : decode cL_law 424 = .ok (.iconst 3, 1) := dc_at (f := decode cL_law) dAL_law_q5 10 rfl
theorem dL_law_425 : decode cL_law 425 = .ok (.iadd, 1) := dc_at (f := decode cL_law) dAL_law_q5 11 rfl
theorem dL_law_426 : decode cL_law 426 = .ok (.iaload, 1) := dc_at (f := decode cL_law) dAL_law_q5 12 rfl
theorem dL_law_427 : decode cL_law 427 = .ok (.aload_n 0, 1) := dc_at (f := decode cL_law) dAL_law_q5 13 rfl
theorem dL_law_428 : decode cL_law 428 = .ok (.iload_n 3, 1) := dc_at (f := decode cL_law) dAL_law_q5 14 rfl
theorem dL_law_429 : decode cL_law 429 = .ok (.iconst 4, 1) := dc_at (f := decode cL_law) dAL_law_q5 15 rfl
theorem dL_law_430 : decode cL_law 430 = .ok (.iadd, 1) := dc_at (f := decode cL_law) dAL_law_q5 16 rfl
theorem dL_law_431 : decode cL_law 431 = .ok (.iaload, 1) := dc_at (f := decode cL_law) dAL_law_q5 17 rfl
theorem dL_law_432 : decode cL_law 432 = .ok (.aload_n 0, 1) := dc_at (f := decode cL_law) dAL_law_q5 18 rfl
theorem dL_law_433 : decode cL_law 433 = .ok (.iload_n 3, 1) := dc_at (f := decode cL_law) dAL_law_q5 19 rfl
theorem dL_law_434 : decode cL_law 434 = .ok (.iconst 5, 1) := dc_at (f := decode cL_law) dAL_law_q5 20 rfl
theorem dL_law_435 : decode cL_law 435 = .ok (.iadd, 1) := dc_at (f := decode cL_law) dAL_law_q5 21 rfl
theorem dL_law_436 : decode cL_law 436 = .ok (.iaload, 1) := dc_at (f := decode cL_law) dAL_law_q5 22 rfl
theorem dL_law_437 : decode cL_law 437 = .ok (.invokevirtual 49, 3) := dc_at (f := decode cL_law) dAL_law_q5 23 rfl
theorem dL_law_440 : decode cL_law 440 = .ok (.pop, 1) := dc_at (f := decode cL_law) dAL_law_q5 24 rfl
theorem dL_law_441 : decode cL_law 441 = .ok (.goto 411, 3) := dc_at (f := decode cL_law) dAL_law_q5 25 rfl
theorem dL_law_444 : decode cL_law 444 = .ok (.aload_n 1, 1) := dc_at (f := decode cL_law) dAL_law_q5 26 rfl
theorem dL_law_445 : decode cL_law 445 = .ok (.aload_n 0, 1) := dc_at (f := decode cL_law) dAL_law_q5 27 rfl
theorem dL_law_446 : decode cL_law 446 = .ok (.iload_n 3, 1) := dc_at (f := decode cL_law) dAL_law_q5 28 rfl
theorem dL_law_447 : decode cL_law 447 = .ok (.iconst 1, 1) := dc_at (f := decode cL_law) dAL_law_q5 29 rfl
theorem dL_law_448 : decode cL_law 448 = .ok (.iadd, 1) := dc_at (f := decode cL_law) dAL_law_q5 30 rfl
theorem dL_law_449 : decode cL_law 449 = .ok (.iaload, 1) := dc_at (f := decode cL_law) dAL_law_q5 31 rfl
theorem dL_law_450 : decode cL_law 450 = .ok (.aload_n 0, 1) := dc_at (f := decode cL_law) dAL_law_q5 32 rfl
theorem dL_law_451 : decode cL_law 451 = .ok (.iload_n 3, 1) := dc_at (f := decode cL_law) dAL_law_q5 33 rfl
theorem dL_law_452 : decode cL_law 452 = .ok (.iconst 2, 1) := dc_at (f := decode cL_law) dAL_law_q5 34 rfl
theorem dL_law_453 : decode cL_law 453 = .ok (.iadd, 1) := dc_at (f := decode cL_law) dAL_law_q5 35 rfl
theorem dL_law_454 : decode cL_law 454 = .ok (.iaload, 1) := dc_at (f := decode cL_law) dAL_law_q5 36 rfl
theorem dL_law_455 : decode cL_law 455 = .ok (.invokevirtual 50, 3) := dc_at (f := decode cL_law) dAL_law_q5 37 rfl
theorem dL_law_458 : decode cL_law 458 = .ok (.pop, 1) := dc_at (f := decode cL_law) dAL_law_q5 38 rfl
theorem dL_law_459 : decode cL_law 459 = .ok (.aload_n 2, 1) := dc_at (f := decode cL_law) dAL_law_q5 39 rfl
theorem dL_law_460 : decode cL_law 460 = .ok (.aload_n 0, 1) := dc_at (f := decode cL_law) dAL_law_q5 40 rfl
theorem dL_law_461 : decode cL_law 461 = .ok (.iload_n 3, 1) := dc_at (f := decode cL_law) dAL_law_q5 41 rfl
theorem dL_law_462 : decode cL_law 462 = .ok (.iconst 1, 1) := dc_at (f := decode cL_law) dAL_law_q5 42 rfl
theorem dL_law_463 : decode cL_law 463 = .ok (.iadd, 1) := dc_at (f := decode cL_law) dAL_law_q5 43 rfl
theorem dL_law_464 : decode cL_law 464 = .ok (.iaload, 1) := dc_at (f := decode cL_law) dAL_law_q5 44 rfl
theorem dL_law_465 : decode cL_law 465 = .ok (.aload_n 0, 1) := dc_at (f := decode cL_law) dAL_law_q5 45 rfl
theorem dL_law_466 : decode cL_law 466 = .ok (.iload_n 3, 1) := dc_at (f := decode cL_law) dAL_law_q5 46 rfl
theorem dL_law_467 : decode cL_law 467 = .ok (.iconst 2, 1) := dc_at (f := decode cL_law) dAL_law_q5 47 rfl
def dPL_law_q6 : List (Nat × (Jvm.ClassFile.Instr × Nat)) := [(468, (.iadd, 1)), (469, (.iaload, 1)), (470, (.invokevirtual 54, 3)), (473, (.pop, 1)), (474, (.goto 378, 3)), (477, (.aload_n 1, 1)), (478, (.aload_n 0, 1)), (479, (.iload_n 3, 1)), (480, (.iconst 1, 1)), (481, (.iadd, 1)), (482, (.iaload, 1)), (483, (.aload_n 0, 1)), (484, (.iload_n 3, 1)), (485, (.iconst 2, 1)), (486, (.iadd, 1)), (487, (.iaload, 1)), (488, (.invokevirtual 55, 3)), (491, (.pop, 1)), (492, (.aload_n 2, 1)), (493, (.aload_n 0, 1)), (494, (.iload_n 3, 1)), (495, (.iconst 1, 1)), (496, (.iadd, 1)), (497, (.iaload, 1)), (498, (.aload_n 0, 1)), (499, (.iload_n 3, 1)), (500, (.iconst 2, 1)), (501, (.iadd, 1)), (502, (.iaload, 1)), (503, (.invokevirtual 58, 3)), (506, (.pop, 1)), (507, (.goto 345, 3)), (510, (.aload_n 1, 1)), (511, (.aload_n 0, 1)), (512, (.iload_n 3, 1)), (513, (.iconst 1, 1)), (514, (.iadd, 1)), (515, (.iaload, 1)), (516, (.aload_n 0, 1)), (517, (.iload_n 3, 1)), (518, (.iconst 2, 1)), (519, (.iadd, 1)), (520, (.iaload, 1)), (521, (.invokevirtual 59, 3)), (524, (.pop, 1)), (525, (.aload_n 2, 1)), (526, (.aload_n 0, 1)), (527, (.iload_n 3, 1))]
theorem dAL_law_q6 : ∀ x ∈ dPL_law_q6, decode cL_law x.1 = .ok x.2 := by decide +kernel
theorem dL_law_468 : decode cL_law 468 = .ok (.iadd, 1) := dc_at (f := decode cL_law) dAL_law_q6 0 rfl
theorem dL_law_469 : decode cL_law 469 = .ok (.iaload, 1) := dc_at (f := decode cL_law) dAL_law_q6 1 rfl
theorem dL_law_470 : decode cL_law 470 = .ok (.invokevirtual 54, 3) := dc_at (f := decode cL_law) dAL_law_q6 2 rfl
theorem dL_law_473 : decode cL_law 473 = .ok (.pop, 1) := dc_at (f := decode cL_law) dAL_law_q6 3 rfl
theorem dL_law_474 : decode cL_law 474 = .ok (.goto 378, 3) := dc_at (f := decode cL_law) dAL_law_q6 4 rfl
theorem dL_law_477 : decode cL_law 477 = .ok (.aload_n 1, 1) := dc_at (f := decode cL_law) dAL_law_q6 5 rfl
theorem dL_law_478 : decode cL_law 478 = .ok (.aload_n 0, 1) := dc_at (f := decode cL_law) dAL_law_q6 6 rfl
theorem dL_law_479 : decode cL_law 479 = .ok (.iload_n 3, 1) := dc_at (f := decode cL_law) dAL_law_q6 7 rfl
theorem dL_law_480 : decode cL_law 480 = .ok (.iconst 1, 1) := dc_at (f := decode cL_law) dAL_law_q6 8 rfl
theorem dL_law_481 : decode cL_law 481 = .ok (.iadd, 1) := dc_at (f := decode cL_law) dAL_law_q6 9 rfl
theorem dL_law_482 : decode cL_law 482 = .ok (.iaload, 1) := dc_at (f := decode cL_law) dAL_law_q6 10 rfl
theorem dL_law_483 : decode cL_law 483 = .ok (.aload_n 0, 1) := dc_at (f := decode cL_law) dAL_law_q6 11 rfl
theorem dL_law_484 : decode cL_law 484 = .ok (.iload_n 3, 1) := dc_at (f := decode cL_law) dAL_law_q6 12 rfl
theorem dL_law_485 : decode cL_law 485 = .ok (.iconst 2, 1) := dc_at (f := decode cL_law) dAL_law_q6 13 rfl
theorem dL_law_486 : decode cL_law 486 = .ok (.iadd, 1) := dc_at (f := decode cL_law) dAL_law_q6 14 rfl
theorem dL_law_487 : decode cL_law 487 = .ok (.iaload, 1) := dc_at (f := decode cL_law) dAL_law_q6 15 rfl
theorem dL_law_488 : decode cL_law 488 = .ok (.invokevirtual 55, 3) := dc_at (f := decode cL_law) dAL_law_q6 16 rfl
theorem dL_law_491 : decode cL_law 491 = .ok (.pop, 1) := dc_at (f := decode cL_law) dAL_law_q6 17 rfl
theorem dL_law_492 : decode cL_law 492 = .ok (.aload_n 2, 1) := dc_at (f := decode cL_law) dAL_law_q6 18 rfl
theorem dL_law_493 : decode cL_law 493 = .ok (.aload_n 0, 1) := dc_at (f := decode cL_law) dAL_law_q6 19 rfl
theorem dL_law_494 : decode cL_law 494 = .ok (.iload_n 3, 1) := dc_at (f := decode cL_law) dAL_law_q6 20 rfl
theorem dL_law_495 : decode cL_law 495 = .ok (.iconst 1, 1) := dc_at (f := decode cL_law) dAL_law_q6 21 rfl
theorem dL_law_496 : decode cL_law 496 = .ok (.iadd, 1) := dc_at (f := decode cL_law) dAL_law_q6 22 rfl
theorem dL_law_497 : decode cL_law 497 = .ok (.iaload, 1) := dc_at (f := decode cL_law) dAL_law_q6 23 rfl
theorem dL_law_498 : decode cL_law 498 = .ok (.aload_n 0, 1) := dc_at (f := decode cL_law) dAL_law_q6 24 rfl
theorem dL_law_499 : decode cL_law 499 = .ok (.iload_n 3, 1) := dc_at (f := decode cL_law) dAL_law_q6 25 rfl
theorem dL_law_500 : decode cL_law 500 = .ok (.iconst 2, 1) := dc_at (f := decode cL_law) dAL_law_q6 26 rfl
theorem dL_law_501 : decode cL_law 501 = .ok (.iadd, 1) := dc_at (f := decode cL_law) dAL_law_q6 27 rfl
theorem dL_law_502 : decode cL_law 502 = .ok (.iaload, 1) := dc_at (f := decode cL_law) dAL_law_q6 28 rfl
theorem dL_law_503 : decode cL_law 503 = .ok (.invokevirtual 58, 3) := dc_at (f := decode cL_law) dAL_law_q6 29 rfl
theorem dL_law_506 : decode cL_law 506 = .ok (.pop, 1) := dc_at (f := decode cL_law) dAL_law_q6 30 rfl
theorem dL_law_507 : decode cL_law 507 = .ok (.goto 345, 3) := dc_at (f := decode cL_law) dAL_law_q6 31 rfl
theorem dL_law_510 : decode cL_law 510 = .ok (.aload_n 1, 1) := dc_at (f := decode cL_law) dAL_law_q6 32 rfl
theorem dL_law_511 : decode cL_law 511 = .ok (.aload_n 0, 1) := dc_at (f := decode cL_law) dAL_law_q6 33 rfl
theorem dL_law_512 : decode cL_law 512 = .ok (.iload_n 3, 1) := dc_at (f := decode cL_law) dAL_law_q6 34 rfl
theorem dL_law_513 : decode cL_law 513 = .ok (.iconst 1, 1) := dc_at (f := decode cL_law) dAL_law_q6 35 rfl
theorem dL_law_514 : decode cL_law 514 = .ok (.iadd, 1) := dc_at (f := decode cL_law) dAL_law_q6 36 rfl
theorem dL_law_515 : decode cL_law 515 = .ok (.iaload, 1) := dc_at (f := decode cL_law) dAL_law_q6 37 rfl
theorem dL_law_516 : decode cL_law 516 = .ok (.aload_n 0, 1) := dc_at (f := decode cL_law) dAL_law_q6 38 rfl
theorem dL_law_517 : decode cL_law 517 = .ok (.iload_n 3, 1) := dc_at (f := decode cL_law) dAL_law_q6 39 rfl
theorem dL_law_518 : decode cL_law 518 = .ok (.iconst 2, 1) := dc_at (f := decode cL_law) dAL_law_q6 40 rfl
theorem dL_law_519 : decode cL_law 519 = .ok (.iadd, 1) := dc_at (f := decode cL_law) dAL_law_q6 41 rfl
theorem dL_law_520 : decode cL_law 520 = .ok (.iaload, 1) := dc_at (f := decode cL_law) dAL_law_q6 42 rfl
theorem dL_law_521 : decode cL_law 521 = .ok (.invokevirtual 59, 3) := dc_at (f := decode cL_law) dAL_law_q6 43 rfl
theorem dL_law_524 : decode cL_law 524 = .ok (.pop, 1) := dc_at (f := decode cL_law) dAL_law_q6 44 rfl
theorem dL_law_525 : decode cL_law 525 = .ok (.aload_n 2, 1) := dc_at (f := decode cL_law) dAL_law_q6 45 rfl
theorem dL_law_526 : decode cL_law 526 = .ok (.aload_n 0, 1) := dc_at (f := decode cL_law) dAL_law_q6 46 rfl
theorem dL_law_527 : decode cL_law 527 = .ok (.iload_n 3, 1) := dc_at (f := decode cL_law) dAL_law_q6 47 rfl
def dPL_law_q7 : List (Nat × (Jvm.ClassFile.Instr × Nat)) := [(528, (.iconst 1, 1)), (529, (.iadd, 1)), (530, (.iaload, 1)), (531, (.aload_n 0, 1)), (532, (.iload_n 3, 1)), (533, (.iconst 2, 1)), (534, (.iadd, 1)), (535, (.iaload, 1)), (536, (.invokevirtual 62, 3)), (539, (.pop, 1)), (540, (.goto 312, 3)), (543, (.aload_n 1, 1)), (544, (.aload_n 0, 1)), (545, (.iload_n 3, 1)), (546, (.iconst 1, 1)), (547, (.iadd, 1)), (548, (.iaload, 1)), (549, (.invokevirtual 63, 3)), (552, (.pop, 1)), (553, (.aload_n 2, 1)), (554, (.aload_n 0, 1)), (555, (.iload_n 3, 1)), (556, (.iconst 1, 1)), (557, (.iadd, 1)), (558, (.iaload, 1)), (559, (.invokevirtual 66, 3)), (562, (.pop, 1)), (563, (.goto 289, 3)), (566, (.aload_n 1, 1)), (567, (.invokevirtual 67, 3)), (570, (.pop, 1)), (571, (.aload_n 2, 1)), (572, (.invokevirtual 70, 3)), (575, (.pop, 1)), (576, (.goto 276, 3)), (579, (.aload_n 1, 1)), (580, (.aload_n 0, 1)), (581, (.iload_n 3, 1)), (582, (.iconst 1, 1)), (583, (.iadd, 1)), (584, (.iaload, 1)), (585, (.aload_n 0, 1)), (586, (.iload_n 3, 1)), (587, (.iconst 2, 1)), (588, (.iadd, 1)), (589, (.iaload, 1)), (590, (.invokevirtual 71, 3)), (593, (.pop, 1))]
theorem dAL_law_q7 : ∀ x ∈ dPL_law_q7, decode cL_law x.1 = .ok x.2 := by decide +kernel
theorem dL_law_528 : decode cL_law 528 = .ok (.iconst 1, 1) := dc_at (f := decode cL_law) dAL_law_q7 0 rfl
theorem dL_law_529 : decode cL_law 529 = .ok (.iadd, 1) := dc_at (f := decode cL_law) dAL_law_q7 1 rfl
theorem dL_law_530 : decode cL_law 530 = .ok (.iaload, 1) := dc_at (f := decode cL_law) dAL_law_q7 2 rfl
theorem dL_law_531 : decode cL_law 531 = .ok (.aload_n 0, 1) := dc_at (f := decode cL_law) dAL_law_q7 3 rfl
theorem dL_law_532 : decode cL_law 532 = .ok (.iload_n 3, 1) := dc_at (f := decode cL_law) dAL_law_q7 4 rfl
theorem dL_law_533 : decode cL_law 533 = .ok (.iconst 2, 1) := dc_at (f := decode cL_law) dAL_law_q7 5 rfl
theorem dL_law_534 : decode cL_law 534 = .ok (.iadd, 1) := dc_at (f := decode cL_law) dAL_law_q7 6 rfl
theorem dL_law_535 : decode cL_law 535 = .ok (.iaload, 1) := dc_at (f := decode cL_law) dAL_law_q7 7 rfl
theorem dL_law_536 : decode cL_law 536 = .ok (.invokevirtual 62, 3) := dc_at (f := decode cL_law) dAL_law_q7 8 rfl
theorem dL_law_539 : decode cL_law 539 = .ok (.pop, 1) := dc_at (f := decode cL_law) dAL_law_q7 9 rfl
theorem dL_law_540 : decode cL_law 540 = .ok (.goto 312, 3) := dc_at (f := decode cL_law) dAL_law_q7 10 rfl
theorem dL_law_543 : decode cL_law 543 = .ok (.aload_n 1, 1) := dc_at (f := decode cL_law) dAL_law_q7 11 rfl
theorem dL_law_544 : decode cL_law 544 = .ok (.aload_n 0, 1) := dc_at (f := decode cL_law) dAL_law_q7 12 rfl
theorem dL_law_545 : decode cL_law 545 = .ok (.iload_n 3, 1) := dc_at (f := decode cL_law) dAL_law_q7 13 rfl
theorem dL_law_546 : decode cL_law 546 = .ok (.iconst 1, 1) := dc_at (f := decode cL_law) dAL_law_q7 14 rfl
theorem dL_law_547 : decode cL_law 547 = .ok (.iadd, 1) := dc_at (f := decode cL_law) dAL_law_q7 15 rfl
theorem dL_law_548 : decode cL_law 548 = .ok (.iaload, 1) := dc_at (f := decode cL_law) dAL_law_q7 16 rfl
theorem dL_law_549 : decode cL_law 549 = .ok (.invokevirtual 63, 3) := dc_at (f := decode cL_law) dAL_law_q7 17 rfl
theorem dL_law_552 : decode cL_law 552 = .ok (.pop, 1) := dc_at (f := decode cL_law) dAL_law_q7 18 rfl
theorem dL_law_553 : decode cL_law 553 = .ok (.aload_n 2, 1) := dc_at (f := decode cL_law) dAL_law_q7 19 rfl
theorem dL_law_554 : decode cL_law 554 = .ok (.aload_n 0, 1) := dc_at (f := decode cL_law) dAL_law_q7 20 rfl
theorem dL_law_555 : decode cL_law 555 = .ok (.iload_n 3, 1) := dc_at (f := decode cL_law) dAL_law_q7 21 rfl
theorem dL_law_556 : decode cL_law 556 = .ok (.iconst 1, 1) := dc_at (f := decode cL_law) dAL_law_q7 22 rfl
theorem dL_law_557 : decode cL_law 557 = .ok (.iadd, 1) := dc_at (f := decode cL_law) dAL_law_q7 23 rfl
theorem dL_law_558 : decode cL_law 558 = .ok (.iaload, 1) := dc_at (f := decode cL_law) dAL_law_q7 24 rfl
theorem dL_law_559 : decode cL_law 559 = .ok (.invokevirtual 66, 3) := dc_at (f := decode cL_law) dAL_law_q7 25 rfl
theorem dL_law_562 : decode cL_law 562 = .ok (.pop, 1) := dc_at (f := decode cL_law) dAL_law_q7 26 rfl
theorem dL_law_563 : decode cL_law 563 = .ok (.goto 289, 3) := dc_at (f := decode cL_law) dAL_law_q7 27 rfl
theorem dL_law_566 : decode cL_law 566 = .ok (.aload_n 1, 1) := dc_at (f := decode cL_law) dAL_law_q7 28 rfl
theorem dL_law_567 : decode cL_law 567 = .ok (.invokevirtual 67, 3) := dc_at (f := decode cL_law) dAL_law_q7 29 rfl
theorem dL_law_570 : decode cL_law 570 = .ok (.pop, 1) := dc_at (f := decode cL_law) dAL_law_q7 30 rfl
theorem dL_law_571 : decode cL_law 571 = .ok (.aload_n 2, 1) := dc_at (f := decode cL_law) dAL_law_q7 31 rfl
theorem dL_law_572 : decode cL_law 572 = .ok (.invokevirtual 70, 3) := dc_at (f := decode cL_law) dAL_law_q7 32 rfl
theorem dL_law_575 : decode cL_law 575 = .ok (.pop, 1) := dc_at (f := decode cL_law) dAL_law_q7 33 rfl
theorem dL_law_576 : decode cL_law 576 = .ok (.goto 276, 3) := dc_at (f := decode cL_law) dAL_law_q7 34 rfl
theorem dL_law_579 : decode cL_law 579 = .ok (.aload_n 1, 1) := dc_at (f := decode cL_law) dAL_law_q7 35 rfl
theorem dL_law_580 : decode cL_law 580 = .ok (.aload_n 0, 1) := dc_at (f := decode cL_law) dAL_law_q7 36 rfl
theorem dL_law_581 : decode cL_law 581 = .ok (.iload_n 3, 1) := dc_at (f := decode cL_law) dAL_law_q7 37 rfl
theorem dL_law_582 : decode cL_law 582 = .ok (.iconst 1, 1) := dc_at (f := decode cL_law) dAL_law_q7 38 rfl
theorem dL_law_583 : decode cL_law 583 = .ok (.iadd, 1) := dc_at (f := decode cL_law) dAL_law_q7 39 rfl
theorem dL_law_584 : decode cL_law 584 = .ok (.iaload, 1) := dc_at (f := decode cL_law) dAL_law_q7 40 rfl
theorem dL_law_585 : decode cL_law 585 = .ok (.aload_n 0, 1) := dc_at (f := decode cL_law) dAL_law_q7 41 rfl
theorem dL_law_586 : decode cL_law 586 = .ok (.iload_n 3, 1) := dc_at (f := decode cL_law) dAL_law_q7 42 rfl
theorem dL_law_587 : decode cL_law 587 = .ok (.iconst 2, 1) := dc_at (f := decode cL_law) dAL_law_q7 43 rfl
theorem dL_law_588 : decode cL_law 588 = .ok (.iadd, 1) := dc_at (f := decode cL_law) dAL_law_q7 44 rfl
theorem dL_law_589 : decode cL_law 589 = .ok (.iaload, 1) := dc_at (f := decode cL_law) dAL_law_q7 45 rfl
theorem dL_law_590 : decode cL_law 590 = .ok (.invokevirtual 71, 3) := dc_at (f := decode cL_law) dAL_law_q7 46 rfl
theorem dL_law_593 : decode cL_law 593 = .ok (.pop, 1) := dc_at (f := decode cL_law) dAL_law_q7 47 rfl
def dPL_law_q8 : List (Nat × (Jvm.ClassFile.Instr × Nat)) := [(594, (.aload_n 2, 1)), (595, (.aload_n 0, 1)), (596, (.iload_n 3, 1)), (597, (.iconst 1, 1)), (598, (.iadd, 1)), (599, (.iaload, 1)), (600, (.aload_n 0, 1)), (601, (.iload_n 3, 1)), (602, (.iconst 2, 1)), (603, (.iadd, 1)), (604, (.iaload, 1)), (605, (.invokevirtual 74, 3)), (608, (.pop, 1)), (609, (.goto 243, 3)), (612, (.aload_n 1, 1)), (613, (.aload_n 0, 1)), (614, (.iload_n 3, 1)), (615, (.iconst 1, 1)), (616, (.iadd, 1)), (617, (.iaload, 1)), (618, (.aload_n 0, 1)), (619, (.iload_n 3, 1)), (620, (.iconst 2, 1)), (621, (.iadd, 1)), (622, (.iaload, 1)), (623, (.invokevirtual 75, 3)), (626, (.pop, 1)), (627, (.aload_n 2, 1)), (628, (.aload_n 0, 1)), (629, (.iload_n 3, 1)), (630, (.iconst 1, 1)), (631, (.iadd, 1)), (632, (.iaload, 1)), (633, (.aload_n 0, 1)), (634, (.iload_n 3, 1)), (635, (.iconst 2, 1)), (636, (.iadd, 1)), (637, (.iaload, 1)), (638, (.invokevirtual 78, 3)), (641, (.pop, 1)), (642, (.goto 210, 3)), (645, (.aload_n 1, 1)), (646, (.aload_n 0, 1)), (647, (.iload_n 3, 1)), (648, (.iconst 1, 1)), (649, (.iadd, 1)), (650, (.iaload, 1)), (651, (.aload_n 0, 1))]
theorem dAL_law_q8 : ∀ x ∈ dPL_law_q8, decode cL_law x.1 = .ok x.2 := by decide +kernel
theorem dL_law_594 : decode cL_law 594 = .ok (.aload_n 2, 1) := dc_at (f := decode cL_law) dAL_law_q8 0 rfl
theorem dL_law_595 : decode cL_law 595 = .ok (.aload_n 0, 1) := dc_at (f := decode cL_law) dAL_law_q8 1 rfl
theorem dL_law_596 : decode cL_law 596 = .ok (.iload_n 3, 1) := dc_at (f := decode cL_law) dAL_law_q8 2 rfl
theorem dL_law_597 : decode cL_law 597 = .ok (.iconst 1, 1) := dc_at (f := decode cL_law) dAL_law_q8 3 rfl
theorem dL_law_598 : decode cL_law 598 = .ok (.iadd, 1) := dc_at (f := decode cL_law) dAL_law_q8 4 rfl
theorem dL_law_599 : decode cL_law 599 = .ok (.iaload, 1) := dc_at (f := decode cL_law) dAL_law_q8 5 rfl
theorem dL_law_600 : decode cL_law 600 = .ok (.aload_n 0, 1) := dc_at (f := decode cL_law) dAL_law_q8 6 rfl
theorem dL_law_601 : decode cL_law 601 = .ok (.iload_n 3, 1) := dc_at (f := decode cL_law) dAL_law_q8 7 rfl
theorem dL_law_602 : decode cL_law 602 = .ok (.iconst 2, 1) := dc_at (f := decode cL_law) dAL_law_q8 8 rfl
theorem dL_law_603 : decode cL_law 603 = .ok (.iadd, 1) := dc_at (f := decode cL_law) dAL_law_q8 9 rfl
theorem dL_law_604 : decode cL_law 604 = .ok (.iaload, 1) := dc_at (f := decode cL_law) dAL_law_q8 10 rfl
theorem dL_law_605 : decode cL_law 605 = .ok (.invokevirtual 74, 3) := dc_at (f := decode cL_law) dAL_law_q8 11 rfl
theorem dL_law_608 : decode cL_law 608 = .ok (.pop, 1) := dc_at (f := decode cL_law) dAL_law_q8 12 rfl
theorem dL_law_609 : decode cL_law 609 = .ok (.goto 243, 3) := dc_at (f := decode cL_law) dAL_law_q8 13 rfl
theorem dL_law_612 : decode cL_law 612 = .ok (.aload_n 1, 1) := dc_at (f := decode cL_law) dAL_law_q8 14 rfl
theorem dL_law_613 : decode cL_law 613 = .ok (.aload_n 0, 1) := dc_at (f := decode cL_law) dAL_law_q8 15 rfl
theorem dL_law_614 : decode cL_law 614 = .ok (.iload_n 3, 1) := dc_at (f := decode cL_law) dAL_law_q8 16 rfl
theorem dL_law_615 : decode cL_law 615 = .ok (.iconst 1, 1) := dc_at (f := decode cL_law) dAL_law_q8 17 rfl
theorem dL_law_616 : decode cL_law 616 = .ok (.iadd, 1) := dc_at (f := decode cL_law) dAL_law_q8 18 rfl
theorem dL_law_617 : decode cL_law 617 = .ok (.iaload, 1) := dc_at (f := decode cL_law) dAL_law_q8 19 rfl
theorem dL_law_618 : decode cL_law 618 = .ok (.aload_n 0, 1) := dc_at (f := decode cL_law) dAL_law_q8 20 rfl
theorem dL_law_619 : decode cL_law 619 = .ok (.iload_n 3, 1) := dc_at (f := decode cL_law) dAL_law_q8 21 rfl
theorem dL_law_620 : decode cL_law 620 = .ok (.iconst 2, 1) := dc_at (f := decode cL_law) dAL_law_q8 22 rfl
theorem dL_law_621 : decode cL_law 621 = .ok (.iadd, 1) := dc_at (f := decode cL_law) dAL_law_q8 23 rfl
theorem dL_law_622 : decode cL_law 622 = .ok (.iaload, 1) := dc_at (f := decode cL_law) dAL_law_q8 24 rfl
theorem dL_law_623 : decode cL_law 623 = .ok (.invokevirtual 75, 3) := dc_at (f := decode cL_law) dAL_law_q8 25 rfl
theorem dL_law_626 : decode cL_law 626 = .ok (.pop, 1) := dc_at (f := decode cL_law) dAL_law_q8 26 rfl
theorem dL_law_627 : decode cL_law 627 = .ok (.aload_n 2, 1) := dc_at (f := decode cL_law) dAL_law_q8 27 rfl
theorem dL_law_628 : decode cL_law 628 = .ok (.aload_n 0, 1) := dc_at (f := decode cL_law) dAL_law_q8 28 rfl
theorem dL_law_629 : decode cL_law 629 = .ok (.iload_n 3, 1) := dc_at (f := decode cL_law) dAL_law_q8 29 rfl
theorem dL_law_630 : decode cL_law 630 = .ok (.iconst 1, 1) := dc_at (f := decode cL_law) dAL_law_q8 30 rfl
theorem dL_law_631 : decode cL_law 631 = .ok (.iadd, 1) := dc_at (f := decode cL_law) dAL_law_q8 31 rfl
theorem dL_law_632 : decode cL_law 632 = .ok (.iaload, 1) := dc_at (f := decode cL_law) dAL_law_q8 32 rfl
theorem dL_law_633 : decode cL_law 633 = .ok (.aload_n 0, 1) := dc_at (f := decode cL_law) dAL_law_q8 33 rfl
theorem dL_law_634 : decode cL_law 634 = .ok (.iload_n 3, 1) := dc_at (f := decode cL_law) dAL_law_q8 34 rfl
theorem dL_law_635 : decode cL_law 635 = .ok (.iconst 2, 1) := dc_at (f := decode cL_law) dAL_law_q8 35 rfl
theorem dL_law_636 : decode cL_law 636 = .ok (.iadd, 1) := dc_at (f := decode cL_law) dAL_law_q8 36 rfl
theorem dL_law_637 : decode cL_law 637 = .ok (.iaload, 1) := dc_at (f := decode cL_law) dAL_law_q8 37 rfl
theorem dL_law_638 : decode cL_law 638 = .ok (.invokevirtual 78, 3) := dc_at (f := decode cL_law) dAL_law_q8 38 rfl
theorem dL_law_641 : decode cL_law 641 = .ok (.pop, 1) := dc_at (f := decode cL_law) dAL_law_q8 39 rfl
theorem dL_law_642 : decode cL_law 642 = .ok (.goto 210, 3) := dc_at (f := decode cL_law) dAL_law_q8 40 rfl
theorem dL_law_645 : decode cL_law 645 = .ok (.aload_n 1, 1) := dc_at (f := decode cL_law) dAL_law_q8 41 rfl
theorem dL_law_646 : decode cL_law 646 = .ok (.aload_n 0, 1) := dc_at (f := decode cL_law) dAL_law_q8 42 rfl
theorem dL_law_647 : decode cL_law 647 = .ok (.iload_n 3, 1) := dc_at (f := decode cL_law) dAL_law_q8 43 rfl
theorem dL_law_648 : decode cL_law 648 = .ok (.iconst 1, 1) := dc_at (f := decode cL_law) dAL_law_q8 44 rfl
theorem dL_law_649 : decode cL_law 649 = .ok (.iadd, 1) := dc_at (f := decode cL_law) dAL_law_q8 45 rfl
theorem dL_law_650 : decode cL_law 650 = .ok (.iaload, 1) := dc_at (f := decode cL_law) dAL_law_q8 46 rfl
theorem dL_law_651 : decode cL_law 651 = .ok (.aload_n 0, 1) := dc_at (f := decode cL_law) dAL_law_q8 47 rfl
def dPL_law_q9 : List (Nat × (Jvm.ClassFile.Instr × Nat)) := [(652, (.iload_n 3, 1)), (653, (.iconst 2, 1)), (654, (.iadd, 1)), (655, (.iaload, 1)), (656, (.invokevirtual 79, 3)), (659, (.pop, 1)), (660, (.aload_n 2, 1)), (661, (.aload_n 0, 1)), (662, (.iload_n 3, 1)), (663, (.iconst 1, 1)), (664, (.iadd, 1)), (665, (.iaload, 1)), (666, (.aload_n 0, 1)), (667, (.iload_n 3, 1)), (668, (.iconst 2, 1)), (669, (.iadd, 1)), (670, (.iaload, 1)), (671, (.invokevirtual 82, 3)), (674, (.pop, 1)), (675, (.goto 177, 3)), (678, (.aload_n 1, 1)), (679, (.invokevirtual 83, 3)), (682, (.pop, 1)), (683, (.aload_n 2, 1)), (684, (.invokevirtual 86, 3)), (687, (.pop, 1)), (688, (.goto 164, 3)), (691, (.aload_n 1, 1)), (692, (.aload_n 0, 1)), (693, (.iload_n 3, 1)), (694, (.iconst 1, 1)), (695, (.iadd, 1)), (696, (.iaload, 1)), (697, (.aload_n 0, 1)), (698, (.iload_n 3, 1)), (699, (.iconst 2, 1)), (700, (.iadd, 1)), (701, (.iaload, 1)), (702, (.invokevirtual 87, 3)), (705, (.pop, 1)), (706, (.aload_n 2, 1)), (707, (.aload_n 0, 1)), (708, (.iload_n 3, 1)), (709, (.iconst 1, 1)), (710, (.iadd, 1)), (711, (.iaload, 1)), (712, (.aload_n 0, 1)), (713, (.iload_n 3, 1))]
theorem dAL_law_q9 : ∀ x ∈ dPL_law_q9, decode cL_law x.1 = .ok x.2 := by decide +kernel
theorem dL_law_652 : decode cL_law 652 = .ok (.iload_n 3, 1) := dc_at (f := decode cL_law) dAL_law_q9 0 rfl
theorem dL_law_653 : decode cL_law 653 = .ok (.iconst 2, 1) := dc_at (f := decode cL_law) dAL_law_q9 1 rfl
theorem dL_law_654 : decode cL_law 654 = .ok (.iadd, 1) := dc_at (f := decode cL_law) dAL_law_q9 2 rfl
theorem dL_law_655 : decode cL_law 655 = .ok (.iaload, 1) := dc_at (f := decode cL_law) dAL_law_q9 3 rfl
theorem dL_law_656 : decode cL_law 656 = .ok (.invokevirtual 79, 3) := dc_at (f := decode cL_law) dAL_law_q9 4 rfl
theorem dL_law_659 : decode cL_law 659 = .ok (.pop, 1) := dc_at (f := decode cL_law) dAL_law_q9 5 rfl
theorem dL_law_660 : decode cL_law 660 = .ok (.aload_n 2, 1) := dc_at (f := decode cL_law) dAL_law_q9 6 rfl
theorem dL_law_661 : decode cL_law 661 = .ok (.aload_n 0, 1) := dc_at (f := decode cL_law) dAL_law_q9 7 rfl
theorem dL_law_662 : decode cL_law 662 = .ok (.iload_n 3, 1) := dc_at (f := decode cL_law) dAL_law_q9 8 rfl
theorem dL_law_663 : decode cL_law 663 = .ok (.iconst 1, 1) := dc_at (f := decode cL_law) dAL_law_q9 9 rfl
theorem dL_law_664 : decode cL_law 664 = .ok (.iadd, 1) := dc_at (f := decode cL_law) dAL_law_q9 10 rfl
theorem dL_law_665 : decode cL_law 665 = .ok (.iaload, 1) := dc_at (f := decode cL_law) dAL_law_q9 11 rfl
theorem dL_law_666 : decode cL_law 666 = .ok (.aload_n 0, 1) := dc_at (f := decode cL_law) dAL_law_q9 12 rfl
theorem dL_law_667 : decode cL_law 667 = .ok (.iload_n 3, 1) := dc_at (f := decode cL_law) dAL_law_q9 13 rfl
theorem dL_law_668 : decode cL_law 668 = .ok (.iconst 2, 1) := dc_at (f := decode cL_law) dAL_law_q9 14 rfl
theorem dL_law_669 : decode cL_law 669 = .ok (.iadd, 1) := dc_at (f := decode cL_law) dAL_law_q9 15 rfl
theorem dL_law_670 : decode cL_law 670 = .ok (.iaload, 1) := dc_at (f := decode cL_law) dAL_law_q9 16 rfl
theorem dL_law_671 : decode cL_law 671 = .ok (.invokevirtual 82, 3) := dc_at (f := decode cL_law) dAL_law_q9 17 rfl
theorem dL_law_674 : decode cL_law 674 = .ok (.pop, 1) := dc_at (f := decode cL_law) dAL_law_q9 18 rfl
theorem dL_law_675 : decode cL_law 675 = .ok (.goto 177, 3) := dc_at (f := decode cL_law) dAL_law_q9 19 rfl
theorem dL_law_678 : decode cL_law 678 = .ok (.aload_n 1, 1) := dc_at (f := decode cL_law) dAL_law_q9 20 rfl
theorem dL_law_679 : decode cL_law 679 = .ok (.invokevirtual 83, 3) := dc_at (f := decode cL_law) dAL_law_q9 21 rfl
theorem dL_law_682 : decode cL_law 682 = .ok (.pop, 1) := dc_at (f := decode cL_law) dAL_law_q9 22 rfl
theorem dL_law_683 : decode cL_law 683 = .ok (.aload_n 2, 1) := dc_at (f := decode cL_law) dAL_law_q9 23 rfl
theorem dL_law_684 : decode cL_law 684 = .ok (.invokevirtual 86, 3) := dc_at (f := decode cL_law) dAL_law_q9 24 rfl
theorem dL_law_687 : decode cL_law 687 = .ok (.pop, 1) := dc_at (f := decode cL_law) dAL_law_q9 25 rfl
theorem dL_law_688 : decode cL_law 688 = .ok (.goto 164, 3) := dc_at (f := decode cL_law) dAL_law_q9 26 rfl
theorem dL_law_691 : decode cL_law 691 = .ok (.aload_n 1, 1) := dc_at (f := decode cL_law) dAL_law_q9 27 rfl
theorem dL_law_692 : decode cL_law 692 = .ok (.aload_n 0, 1) := dc_at (f := decode cL_law) dAL_law_q9 28 rfl
theorem dL_law_693 : decode cL_law 693 = .ok (.iload_n 3, 1) := dc_at (f := decode cL_law) dAL_law_q9 29 rfl
theorem dL_law_694 : decode cL_law 694 = .ok (.iconst 1, 1) := dc_at (f := decode cL_law) dAL_law_q9 30 rfl
theorem dL_law_695 : decode cL_law 695 = .ok (.iadd, 1) := dc_at (f := decode cL_law) dAL_law_q9 31 rfl
theorem dL_law_696 : decode cL_law 696 = .ok (.iaload, 1) := dc_at (f := decode cL_law) dAL_law_q9 32 rfl
theorem dL_law_697 : decode cL_law 697 = .ok (.aload_n 0, 1) := dc_at (f := decode cL_law) dAL_law_q9 33 rfl
theorem dL_law_698 : decode cL_law 698 = .ok (.iload_n 3, 1) := dc_at (f := decode cL_law) dAL_law_q9 34 rfl
theorem dL_law_699 : decode cL_law 699 = .ok (.iconst 2, 1) := dc_at (f := decode cL_law) dAL_law_q9 35 rfl
theorem dL_law_700 : decode cL_law 700 = .ok (.iadd, 1) := dc_at (f := decode cL_law) dAL_law_q9 36 rfl
theorem dL_law_701 : decode cL_law 701 = .ok (.iaload, 1) := dc_at (f := decode cL_law) dAL_law_q9 37 rfl
theorem dL_law_702 : decode cL_law 702 = .ok (.invokevirtual 87, 3) := dc_at (f := decode cL_law) dAL_law_q9 38 rfl
theorem dL_law_705 : decode cL_law 705 = .ok (.pop, 1) := dc_at (f := decode cL_law) dAL_law_q9 39 rfl
theorem dL_law_706 : decode cL_law 706 = .ok (.aload_n 2, 1) := dc_at (f := decode cL_law) dAL_law_q9 40 rfl
theorem dL_law_707 : decode cL_law 707 = .ok (.aload_n 0, 1) := dc_at (f := decode cL_law) dAL_law_q9 41 rfl
theorem dL_law_708 : decode cL_law 708 = .ok (.iload_n 3, 1) := dc_at (f := decode cL_law) dAL_law_q9 42 rfl
theorem dL_law_709 : decode cL_law 709 = .ok (.iconst 1, 1) := dc_at (f := decode cL_law) dAL_law_q9 43 rfl
theorem dL_law_710 : decode cL_law 710 = .ok (.iadd, 1) := dc_at (f := decode cL_law) dAL_law_q9 44 rfl
theorem dL_law_711 : decode cL_law 711 = .ok (.iaload, 1) := dc_at (f := decode cL_law) dAL_law_q9 45 rfl
theorem dL_law_712 : decode cL_law 712 = .ok (.aload_n 0, 1) := dc_at (f := decode cL_law) dAL_law_q9 46 rfl
theorem dL_law_713 : decode cL_law 713 = .ok (.iload_n 3, 1) := dc_at (f := decode cL_law) dAL_law_q9 47 rfl
def dPL_law_q10 : List (Nat × (Jvm.ClassFile.Instr × Nat)) := [(714, (.iconst 2, 1)), (715, (.iadd, 1)), (716, (.iaload, 1)), (717, (.invokevirtual 90, 3)), (720, (.pop, 1)), (721, (.goto 131, 3)), (724, (.aload_n 1, 1)), (725, (.aload_n 0, 1)), (726, (.iload_n 3, 1)), (727, (.iconst 1, 1)), (728, (.iadd, 1)), (729, (.iaload, 1)), (730, (.invokevirtual 91, 3)), (733, (.pop, 1)), (734, (.aload_n 2, 1)), (735, (.aload_n 0, 1)), (736, (.iload_n 3, 1)), (737, (.iconst 1, 1)), (738, (.iadd, 1)), (739, (.iaload, 1)), (740, (.invokevirtual 94, 3)), (743, (.pop, 1)), (744, (.goto 108, 3)), (747, (.aload_n 1, 1)), (748, (.aload_n 0, 1)), (749, (.iload_n 3, 1)), (750, (.iconst 1, 1)), (751, (.iadd, 1)), (752, (.iaload, 1)), (753, (.invokevirtual 95, 3)), (756, (.pop, 1)), (757, (.aload_n 2, 1)), (758, (.aload_n 0, 1)), (759, (.iload_n 3, 1)), (760, (.iconst 1, 1)), (761, (.iadd, 1)), (762, (.iaload, 1)), (763, (.invokevirtual 98, 3)), (766, (.pop, 1)), (767, (.goto 85, 3)), (770, (.aload_n 1, 1)), (771, (.aload_n 0, 1)), (772, (.iload_n 3, 1)), (773, (.iconst 1, 1)), (774, (.iadd, 1)), (775, (.iaload, 1)), (776, (.invokevirtual 99, 3)), (779, (.pop, 1))]
theorem dAL_law_q10 : ∀ x ∈ dPL_law_q10, decode cL_law x.1 = .ok x.2 := by decide +kernel
theorem dL_law_714 : decode cL_law 714 = .ok (.iconst 2, 1) := dc_at (f := decode cL_law) dAL_law_q10 0 rfl
theorem dL_law_715 : decode cL_law 715 = .ok (.iadd, 1) := dc_at (f := decode cL_law) dAL_law_q10 1 rfl
theorem dL_law_716 : decode cL_law 716 = .ok (.iaload, 1) := dc_at (f := decode cL_law) dAL_law_q10 2 rfl
theorem dL_law_717 : decode cL_law 717 = .ok (.invokevirtual 90, 3) := dc_at (f := decode cL_law) dAL_law_q10 3 rfl
theorem dL_law_720 : decode cL_law 720 = .ok (.pop, 1) := dc_at (f := decode cL_law) dAL_law_q10 4 rfl
theorem dL_law_721 : decode cL_law 721 = .ok (.goto 131, 3) := dc_at (f := decode cL_law) dAL_law_q10 5 rfl
theorem dL_law_724 : decode cL_law 724 = .ok (.aload_n 1, 1) := dc_at (f := decode cL_law) dAL_law_q10 6 rfl
theorem dL_law_725 : decode cL_law 725 = .ok (.aload_n 0, 1) := dc_at (f := decode cL_law) dAL_law_q10 7 rfl
theorem dL_law_726 : decode cL_law 726 = .ok (.iload_n 3, 1) := dc_at (f := decode cL_law) dAL_law_q10 8 rfl
theorem dL_law_727 : decode cL_law 727 = .ok (.iconst 1, 1) := dc_at (f := decode cL_law) dAL_law_q10 9 rfl
theorem dL_law_728 : decode cL_law 728 = .ok (.iadd, 1) := dc_at (f := decode cL_law) dAL_law_q10 10 rfl
theorem dL_law_729 : decode cL_law 729 = .ok (.iaload, 1) := dc_at (f := decode cL_law) dAL_law_q10 11 rfl
theorem dL_law_730 : decode cL_law 730 = .ok (.invokevirtual 91, 3) := dc_at (f := decode cL_law) dAL_law_q10 12 rfl
theorem dL_law_733 : decode cL_law 733 = .ok (.pop, 1) := dc_at (f := decode cL_law) dAL_law_q10 13 rfl
theorem dL_law_734 : decode cL_law 734 = .ok (.aload_n 2, 1) := dc_at (f := decode cL_law) dAL_law_q10 14 rfl
theorem dL_law_735 : decode cL_law 735 = .ok (.aload_n 0, 1) := dc_at (f := decode cL_law) dAL_law_q10 15 rfl
theorem dL_law_736 : decode cL_law 736 = .ok (.iload_n 3, 1) := dc_at (f := decode cL_law) dAL_law_q10 16 rfl
theorem dL_law_737 : decode cL_law 737 = .ok (.iconst 1, 1) := dc_at (f := decode cL_law) dAL_law_q10 17 rfl
theorem dL_law_738 : decode cL_law 738 = .ok (.iadd, 1) := dc_at (f := decode cL_law) dAL_law_q10 18 rfl
theorem dL_law_739 : decode cL_law 739 = .ok (.iaload, 1) := dc_at (f := decode cL_law) dAL_law_q10 19 rfl
theorem dL_law_740 : decode cL_law 740 = .ok (.invokevirtual 94, 3) := dc_at (f := decode cL_law) dAL_law_q10 20 rfl
theorem dL_law_743 : decode cL_law 743 = .ok (.pop, 1) := dc_at (f := decode cL_law) dAL_law_q10 21 rfl
theorem dL_law_744 : decode cL_law 744 = .ok (.goto 108, 3) := dc_at (f := decode cL_law) dAL_law_q10 22 rfl
theorem dL_law_747 : decode cL_law 747 = .ok (.aload_n 1, 1) := dc_at (f := decode cL_law) dAL_law_q10 23 rfl
theorem dL_law_748 : decode cL_law 748 = .ok (.aload_n 0, 1) := dc_at (f := decode cL_law) dAL_law_q10 24 rfl
theorem dL_law_749 : decode cL_law 749 = .ok (.iload_n 3, 1) := dc_at (f := decode cL_law) dAL_law_q10 25 rfl
theorem dL_law_750 : decode cL_law 750 = .ok (.iconst 1, 1) := dc_at (f := decode cL_law) dAL_law_q10 26 rfl
theorem dL_law_751 : decode cL_law 751 = .ok (.iadd, 1) := dc_at (f := decode cL_law) dAL_law_q10 27 rfl
theorem dL_law_752 : decode cL_law 752 = .ok (.iaload, 1) := dc_at (f := decode cL_law) dAL_law_q10 28 rfl
theorem dL_law_753 : decode cL_law 753 = .ok (.invokevirtual 95, 3) := dc_at (f := decode cL_law) dAL_law_q10 29 rfl
theorem dL_law_756 : decode cL_law 756 = .ok (.pop, 1) := dc_at (f := decode cL_law) dAL_law_q10 30 rfl
theorem dL_law_757 : decode cL_law 757 = .ok (.aload_n 2, 1) := dc_at (f := decode cL_law) dAL_law_q10 31 rfl
theorem dL_law_758 : decode cL_law 758 = .ok (.aload_n 0, 1) := dc_at (f := decode cL_law) dAL_law_q10 32 rfl
theorem dL_law_759 : decode cL_law 759 = .ok (.iload_n 3, 1) := dc_at (f := decode cL_law) dAL_law_q10 33 rfl
theorem dL_law_760 : decode cL_law 760 = .ok (.iconst 1, 1) := dc_at (f := decode cL_law) dAL_law_q10 34 rfl
theorem dL_law_761 : decode cL_law 761 = .ok (.iadd, 1) := dc_at (f := decode cL_law) dAL_law_q10 35 rfl
theorem dL_law_762 : decode cL_law 762 = .ok (.iaload, 1) := dc_at (f := decode cL_law) dAL_law_q10 36 rfl
theorem dL_law_763 : decode cL_law 763 = .ok (.invokevirtual 98, 3) := dc_at (f := decode cL_law) dAL_law_q10 37 rfl
theorem dL_law_766 : decode cL_law 766 = .ok (.pop, 1) := dc_at (f := decode cL_law) dAL_law_q10 38 rfl
theorem dL_law_767 : decode cL_law 767 = .ok (.goto 85, 3) := dc_at (f := decode cL_law) dAL_law_q10 39 rfl
theorem dL_law_770 : decode cL_law 770 = .ok (.aload_n 1, 1) := dc_at (f := decode cL_law) dAL_law_q10 40 rfl
theorem dL_law_771 : decode cL_law 771 = .ok (.aload_n 0, 1) := dc_at (f := decode cL_law) dAL_law_q10 41 rfl
theorem dL_law_772 : decode cL_law 772 = .ok (.iload_n 3, 1) := dc_at (f := decode cL_law) dAL_law_q10 42 rfl
theorem dL_law_773 : decode cL_law 773 = .ok (.iconst 1, 1) := dc_at (f := decode cL_law) dAL_law_q10 43 rfl
theorem dL_law_774 : decode cL_law 774 = .ok (.iadd, 1) := dc_at (f := decode cL_law) dAL_law_q10 44 rfl
theorem dL_law_775 : decode cL_law 775 = .ok (.iaload, 1) := dc_at (f := decode cL_law) dAL_law_q10 45 rfl
theorem dL_law_776 : decode cL_law 776 = .ok (.invokevirtual 99, 3) := dc_at (f := decode cL_law) dAL_law_q10 46 rfl
theorem dL_law_779 : decode cL_law 779 = .ok (.pop, 1) := dc_at (f := decode cL_law) dAL_law_q10 47 rfl
def dPL_law_q11 : List (Nat × (Jvm.ClassFile.Instr × Nat)) := [(780, (.aload_n 2, 1)), (781, (.aload_n 0, 1)), (782, (.iload_n 3, 1)), (783, (.iconst 1, 1)), (784, (.iadd, 1)), (785, (.iaload, 1)), (786, (.invokevirtual 102, 3)), (789, (.pop, 1)), (790, (.goto 62, 3)), (793, (.aload_n 1, 1)), (794, (.invokevirtual 103, 3)), (797, (.pop, 1)), (798, (.aload_n 2, 1)), (799, (.invokevirtual 106, 3)), (802, (.pop, 1)), (803, (.goto 49, 3)), (806, (.aload_n 1, 1)), (807, (.aload_n 0, 1)), (808, (.iload_n 3, 1)), (809, (.iconst 1, 1)), (810, (.iadd, 1)), (811, (.iaload, 1)), (812, (.invokevirtual 107, 3)), (815, (.pop, 1)), (816, (.aload_n 2, 1)), (817, (.aload_n 0, 1)), (818, (.iload_n 3, 1)), (819, (.iconst 1, 1)), (820, (.iadd, 1)), (821, (.iaload, 1)), (822, (.invokevirtual 110, 3)), (825, (.pop, 1)), (826, (.goto 26, 3)), (829, (.aload_n 1, 1)), (830, (.aload_n 0, 1)), (831, (.iload_n 3, 1)), (832, (.iconst 1, 1)), (833, (.iadd, 1)), (834, (.iaload, 1)), (835, (.invokevirtual 111, 3)), (838, (.aload_n 2, 1)), (839, (.aload_n 0, 1)), (840, (.iload_n 3, 1)), (841, (.iconst 1, 1)), (842, (.iadd, 1)), (843, (.iaload, 1)), (844, (.invokevirtual 114, 3)), (847, (.if_icmp .eq 5, 3))]
theorem dAL_law_q11 : ∀ x ∈ dPL_law_q11, decode cL_law x.1 = .ok x.2 := by decide +kernel
theorem dL_law_780 : decode cL_law 780 = .ok (.aload_n 2, 1) := dc_at (f := decode cL_law) dAL_law_q11 0 rfl
theorem dL_law_781 : decode cL_law 781 = .ok (.aload_n 0, 1) := dc_at (f := decode cL_law) dAL_law_q11 1 rfl
theorem dL_law_782 : decode cL_law 782 = .ok (.iload_n 3, 1) := dc_at (f := decode cL_law) dAL_law_q11 2 rfl
theorem dL_law_783 : decode cL_law 783 = .ok (.iconst 1, 1) := dc_at (f := decode cL_law) dAL_law_q11 3 rfl
theorem dL_law_784 : decode cL_law 784 = .ok (.iadd, 1) := dc_at (f := decode cL_law) dAL_law_q11 4 rfl
theorem dL_law_785 : decode cL_law 785 = .ok (.iaload, 1) := dc_at (f := decode cL_law) dAL_law_q11 5 rfl
theorem dL_law_786 : decode cL_law 786 = .ok (.invokevirtual 102, 3) := dc_at (f := decode cL_law) dAL_law_q11 6 rfl
theorem dL_law_789 : decode cL_law 789 = .ok (.pop, 1) := dc_at (f := decode cL_law) dAL_law_q11 7 rfl
theorem dL_law_790 : decode cL_law 790 = .ok (.goto 62, 3) := dc_at (f := decode cL_law) dAL_law_q11 8 rfl
theorem dL_law_793 : decode cL_law 793 = .ok (.aload_n 1, 1) := dc_at (f := decode cL_law) dAL_law_q11 9 rfl
theorem dL_law_794 : decode cL_law 794 = .ok (.invokevirtual 103, 3) := dc_at (f := decode cL_law) dAL_law_q11 10 rfl
theorem dL_law_797 : decode cL_law 797 = .ok (.pop, 1) := dc_at (f := decode cL_law) dAL_law_q11 11 rfl
theorem dL_law_798 : decode cL_law 798 = .ok (.aload_n 2, 1) := dc_at (f := decode cL_law) dAL_law_q11 12 rfl
theorem dL_law_799 : decode cL_law 799 = .ok (.invokevirtual 106, 3) := dc_at (f := decode cL_law) dAL_law_q11 13 rfl
theorem dL_law_802 : decode cL_law 802 = .ok (.pop, 1) := dc_at (f := decode cL_law) dAL_law_q11 14 rfl
theorem dL_law_803 : decode cL_law 803 = .ok (.goto 49, 3) := dc_at (f := decode cL_law) dAL_law_q11 15 rfl
theorem dL_law_806 : decode cL_law 806 = .ok (.aload_n 1, 1) := dc_at (f := decode cL_law) dAL_law_q11 16 rfl
theorem dL_law_807 : decode cL_law 807 = .ok (.aload_n 0, 1) := dc_at (f := decode cL_law) dAL_law_q11 17 rfl
theorem dL_law_808 : decode cL_law 808 = .ok (.iload_n 3, 1) := dc_at (f := decode cL_law) dAL_law_q11 18 rfl
theorem dL_law_809 : decode cL_law 809 = .ok (.iconst 1, 1) := dc_at (f := decode cL_law) dAL_law_q11 19 rfl
theorem dL_law_810 : decode cL_law 810 = .ok (.iadd, 1) := dc_at (f := decode cL_law) dAL_law_q11 20 rfl
theorem dL_law_811 : decode cL_law 811 = .ok (.iaload, 1) := dc_at (f := decode cL_law) dAL_law_q11 21 rfl
theorem dL_law_812 : decode cL_law 812 = .ok (.invokevirtual 107, 3) := dc_at (f := decode cL_law) dAL_law_q11 22 rfl
theorem dL_law_815 : decode cL_law 815 = .ok (.pop, 1) := dc_at (f := decode cL_law) dAL_law_q11 23 rfl
theorem dL_law_816 : decode cL_law 816 = .ok (.aload_n 2, 1) := dc_at (f := decode cL_law) dAL_law_q11 24 rfl
theorem dL_law_817 : decode cL_law 817 = .ok (.aload_n 0, 1) := dc_at (f := decode cL_law) dAL_law_q11 25 rfl
theorem dL_law_818 : decode cL_law 818 = .ok (.iload_n 3, 1) := dc_at (f := decode cL_law) dAL_law_q11 26 rfl
theorem dL_law_819 : decode cL_law 819 = .ok (.iconst 1, 1) := dc_at (f := decode cL_law) dAL_law_q11 27 rfl
theorem dL_law_820 : decode cL_law 820 = .ok (.iadd, 1) := dc_at (f := decode cL_law) dAL_law_q11 28 rfl
theorem dL_law_821 : decode cL_law 821 = .ok (.iaload, 1) := dc_at (f := decode cL_law) dAL_law_q11 29 rfl
theorem dL_law_822 : decode cL_law 822 = .ok (.invokevirtual 110, 3) := dc_at (f := decode cL_law) dAL_law_q11 30 rfl
theorem dL_law_825 : decode cL_law 825 = .ok (.pop, 1) := dc_at (f := decode cL_law) dAL_law_q11 31 rfl
theorem dL_law_826 : decode cL_law 826 = .ok (.goto 26, 3) := dc_at (f := decode cL_law) dAL_law_q11 32 rfl
theorem dL_law_829 : decode cL_law 829 = .ok (.aload_n 1, 1) := dc_at (f := decode cL_law) dAL_law_q11 33 rfl
theorem dL_law_830 : decode cL_law 830 = .ok (.aload_n 0, 1) := dc_at (f := decode cL_law) dAL_law_q11 34 rfl
theorem dL_law_831 : decode cL_law 831 = .ok (.iload_n 3, 1) := dc_at (f := decode cL_law) dAL_law_q11 35 rfl
theorem dL_law_832 : decode cL_law 832 = .ok (.iconst 1, 1) := dc_at (f := decode cL_law) dAL_law_q11 36 rfl
theorem dL_law_833 : decode cL_law 833 = .ok (.iadd, 1) := dc_at (f := decode cL_law) dAL_law_q11 37 rfl
theorem dL_law_834 : decode cL_law 834 = .ok (.iaload, 1) := dc_at (f := decode cL_law) dAL_law_q11 38 rfl
theorem dL_law_835 : decode cL_law 835 = .ok (.invokevirtual 111, 3) := dc_at (f := decode cL_law) dAL_law_q11 39 rfl
theorem dL_law_838 : decode cL_law 838 = .ok (.aload_n 2, 1) := dc_at (f := decode cL_law) dAL_law_q11 40 rfl
theorem dL_law_839 : decode cL_law 839 = .ok (.aload_n 0, 1) := dc_at (f := decode cL_law) dAL_law_q11 41 rfl
theorem dL_law_840 : decode cL_law 840 = .ok (.iload_n 3, 1) := dc_at (f := decode cL_law) dAL_law_q11 42 rfl
theorem dL_law_841 : decode cL_law 841 = .ok (.iconst 1, 1) := dc_at (f := decode cL_law) dAL_law_q11 43 rfl
theorem dL_law_842 : decode cL_law 842 = .ok (.iadd, 1) := dc_at (f := decode cL_law) dAL_law_q11 44 rfl
theorem dL_law_843 : decode cL_law 843 = .ok (.iaload, 1) := dc_at (f := decode cL_law) dAL_law_q11 45 rfl
theorem dL_law_844 : decode cL_law 844 = .ok (.invokevirtual 114, 3) := dc_at (f := decode cL_law) dAL_law_q11 46 rfl
theorem dL_law_847 : decode cL_law 847 = .ok (.if_icmp .eq 5, 3) := dc_at (f := decode cL_law) dAL_law_q11 47 rfl
def dPL_law_q12 : List (Nat × (Jvm.ClassFile.Instr × Nat)) := [(850, (.iconst 0, 1)), (851, (.ireturn, 1)), (852, (.iinc 3 6, 3)), (855, (.goto (-837), 3)), (858, (.iconst 1, 1)), (859, (.ireturn, 1))]
theorem dAL_law_q12 : ∀ x ∈ dPL_law_q12, decode cL_law x.1 = .ok x.2 := by decide +kernel
theorem dL_law_852 : decode cL_law 852 = .ok (.iinc 3 6, 3) := dc_at (f := decode cL_law) dAL_law_q12 2 rfl
theorem dL_law_855 : decode cL_law 855 = .ok (.goto (-837), 3) := dc_at (f := decode cL_law) dAL_law_q12 3 rfl
theorem dL_law_858 : decode cL_law 858 = .ok (.iconst 1, 1) := dc_at (f := decode cL_law) dAL_law_q12 4 rfl
theorem dL_law_859 : decode cL_law 859 = .ok (.ireturn, 1) := dc_at (f := decode cL_law) dAL_law_q12 5 rfl

