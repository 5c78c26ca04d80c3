def dPX12_about_q1 : List (Nat × (Jvm.ClassFile.Instr × Nat)) := [(120, (.iload 4, 2)), (122, (.iaload, 1)), (123, (.iadd, 1)), (124, (.istore_n 3, 1)), (125, (.iinc 4 1, 3)), (128, (.goto (-29), 3)), (131, (.iload_n 3, 1)), (132, (.ireturn, 1)), (133, (.aload_n 0, 1)), (134, (.iload_n 1, 1)), (135, (.invokevirtual 267, 3)), (138, (.ireturn, 1)), (139, (.aload_n 0, 1)), (140, (.getfield 153, 3)), (143, (.iload_n 1, 1)), (144, (.baload, 1)), (145, (.ifCond .eq 7, 3)), (148, (.iconst 1, 1)), (149, (.goto 4, 3)), (152, (.iconst 0, 1)), (153, (.ireturn, 1)), (154, (.aload_n 0, 1)), (155, (.getfield 150, 3)), (158, (.iload_n 1, 1)), (159, (.iaload, 1)), (160, (.ireturn, 1)), (161, (.iconst 0, 1)), (162, (.istore 4, 2)), (164, (.iload 4, 2)), (166, (.aload_n 0, 1)), (167, (.getfield 147, 3)), (170, (.iload_n 1, 1)), (171, (.iaload, 1)), (172, (.if_icmp .ge 55, 3)), (175, (.aload_n 0, 1)), (176, (.getfield 153, 3)), (179, (.iload_n 1, 1)), (180, (.baload, 1)), (181, (.ifCond .ne 46, 3)), (184, (.aload_n 0, 1)), (185, (.getfield 165, 3)), (188, (.bipush 84, 2)), (190, (.iload_n 1, 1)), (191, (.imul, 1)), (192, (.iload 4, 2)), (194, (.iadd, 1)), (195, (.baload, 1)), (196, (.ifCond .eq 25, 3))]
theorem dAX12_about_q1 : ∀ x ∈ dPX12_about_q1, decode cX12_about x.1 = .ok x.2 := by decide +kernel
theorem dX12_about_120 : decode cX12_about 120 = .ok (.iload 4, 2) := dc_at (f := decode cX12_about) dAX12_about_q1 0 rfl
theorem dX12_about_122 : decode cX12_about 122 = .ok (.iaload, 1) := dc_at (f := decode cX12_about) dAX12_about_q1 1 rfl
theorem dX12_about_123 : decode cX12_about 123 = .ok (.iadd, 1) := dc_at (f := decode cX12_about) dAX12_about_q1 2 rfl
theorem dX12_about_124 : decode cX12_about 124 = .ok (.istore_n 3, 1) := dc_at (f := decode cX12_about) dAX12_about_q1 3 rfl
theorem dX12_about_125 : decode cX12_about 125 = .ok (.iinc 4 1, 3) := dc_at (f := decode cX12_about) dAX12_about_q1 4 rfl
theorem dX12_about_128 : decode cX12_about 128 = .ok (.goto (-29), 3) := dc_at (f := decode cX12_about) dAX12_about_q1 5 rfl
theorem dX12_about_131 : decode cX12_about 131 = .ok (.iload_n 3, 1) := dc_at (f := decode cX12_about) dAX12_about_q1 6 rfl
theorem dX12_about_132 : decode cX12_about 132 = .ok (.ireturn, 1) := dc_at (f := decode cX12_about) dAX12_about_q1 7 rfl
theorem dX12_about_133 : decode cX12_about 133 = .ok (.aload_n 0, 1) := dc_at (f := decode cX12_about) dAX12_about_q1 8 rfl
theorem dX12_about_134 : decode cX12_about 134 = .ok (.iload_n 1, 1) := dc_at (f := decode cX12_about) dAX12_about_q1 9 rfl
theorem dX12_about_135 : decode cX12_about 135 = .ok (.invokevirtual 267, 3) := dc_at (f := decode cX12_about) dAX12_about_q1 10 rfl
theorem dX12_about_138 : decode cX12_about 138 = .ok (.ireturn, 1) := dc_at (f := decode cX12_about) dAX12_about_q1 11 rfl
theorem dX12_about_139 : decode cX12_about 139 = .ok (.aload_n 0, 1) := dc_at (f := decode cX12_about) dAX12_about_q1 12 rfl
theorem dX12_about_140 : decode cX12_about 140 = .ok (.getfield 153, 3) := dc_at (f := decode cX12_about) dAX12_about_q1 13 rfl
theorem dX12_about_143 : decode cX12_about 143 = .ok (.iload_n 1, 1) := dc_at (f := decode cX12_about) dAX12_about_q1 14 rfl
theorem dX12_about_144 : decode cX12_about 144 = .ok (.baload, 1) := dc_at (f := decode cX12_about) dAX12_about_q1 15 rfl
theorem dX12_about_145 : decode cX12_about 145 = .ok (.ifCond .eq 7, 3) := dc_at (f := decode cX12_about) dAX12_about_q1 16 rfl
theorem dX12_about_148 : decode cX12_about 148 = .ok (.iconst 1, 1) := dc_at (f := decode cX12_about) dAX12_about_q1 17 rfl
theorem dX12_about_149 : decode cX12_about 149 = .ok (.goto 4, 3) := dc_at (f := decode cX12_about) dAX12_about_q1 18 rfl
theorem dX12_about_152 : decode cX12_about 152 = .ok (.iconst 0, 1) := dc_at (f := decode cX12_about) dAX12_about_q1 19 rfl
theorem dX12_about_153 : decode cX12_about 153 = .ok (.ireturn, 1) := dc_at (f := decode cX12_about) dAX12_about_q1 20 rfl
theorem dX12_about_154 : decode cX12_about 154 = .ok (.aload_n 0, 1) := dc_at (f := decode cX12_about) dAX12_about_q1 21 rfl
theorem dX12_about_155 : decode cX12_about 155 = .ok (.getfield 150, 3) := dc_at (f := decode cX12_about) dAX12_about_q1 22 rfl
theorem dX12_about_158 : decode cX12_about 158 = .ok (.iload_n 1, 1) := dc_at (f := decode cX12_about) dAX12_about_q1 23 rfl
theorem dX12_about_159 : decode cX12_about 159 = .ok (.iaload, 1) := dc_at (f := decode cX12_about) dAX12_about_q1 24 rfl
theorem dX12_about_160 : decode cX12_about 160 = .ok (.ireturn, 1) := dc_at (f := decode cX12_about) dAX12_about_q1 25 rfl
theorem dX12_about_161 : decode cX12_about 161 = .ok (.iconst 0, 1) := dc_at (f := decode cX12_about) dAX12_about_q1 26 rfl
theorem dX12_about_162 : decode cX12_about 162 = .ok (.istore 4, 2) := dc_at (f := decode cX12_about) dAX12_about_q1 27 rfl
theorem dX12_about_164 : decode cX12_about 164 = .ok (.iload 4, 2) := dc_at (f := decode cX12_about) dAX12_about_q1 28 rfl
theorem dX12_about_166 : decode cX12_about 166 = .ok (.aload_n 0, 1) := dc_at (f := decode cX12_about) dAX12_about_q1 29 rfl
theorem dX12_about_167 : decode cX12_about 167 = .ok (.getfield 147, 3) := dc_at (f := decode cX12_about) dAX12_about_q1 30 rfl
theorem dX12_about_170 : decode cX12_about 170 = .ok (.iload_n 1, 1) := dc_at (f := decode cX12_about) dAX12_about_q1 31 rfl
theorem dX12_about_171 : decode cX12_about 171 = .ok (.iaload, 1) := dc_at (f := decode cX12_about) dAX12_about_q1 32 rfl
theorem dX12_about_172 : decode cX12_about 172 = .ok (.if_icmp .ge 55, 3) := dc_at (f := decode cX12_about) dAX12_about_q1 33 rfl
theorem dX12_about_175 : decode cX12_about 175 = .ok (.aload_n 0, 1) := dc_at (f := decode cX12_about) dAX12_about_q1 34 rfl
theorem dX12_about_176 : decode cX12_about 176 = .ok (.getfield 153, 3) := dc_at (f := decode cX12_about) dAX12_about_q1 35 rfl
theorem dX12_about_179 : decode cX12_about 179 = .ok (.iload_n 1, 1) := dc_at (f := decode cX12_about) dAX12_about_q1 36 rfl
theorem dX12_about_180 : decode cX12_about 180 = .ok (.baload, 1) := dc_at (f := decode cX12_about) dAX12_about_q1 37 rfl
theorem dX12_about_181 : decode cX12_about 181 = .ok (.ifCond .ne 46, 3) := dc_at (f := decode cX12_about) dAX12_about_q1 38 rfl
theorem dX12_about_184 : decode cX12_about 184 = .ok (.aload_n 0, 1) := dc_at (f := decode cX12_about) dAX12_about_q1 39 rfl
theorem dX12_about_185 : decode cX12_about 185 = .ok (.getfield 165, 3) := dc_at (f := decode cX12_about) dAX12_about_q1 40 rfl
theorem dX12_about_188 : decode cX12_about 188 = .ok (.bipush 84, 2) := dc_at (f := decode cX12_about) dAX12_about_q1 41 rfl
theorem dX12_about_190 : decode cX12_about 190 = .ok (.iload_n 1, 1) := dc_at (f := decode cX12_about) dAX12_about_q1 42 rfl
theorem dX12_about_191 : decode cX12_about 191 = .ok (.imul, 1) := dc_at (f := decode cX12_about) dAX12_about_q1 43 rfl
theorem dX12_about_192 : decode cX12_about 192 = .ok (.iload 4, 2) := dc_at (f := decode cX12_about) dAX12_about_q1 44 rfl
theorem dX12_about_194 : decode cX12_about 194 = .ok (.iadd, 1) := dc_at (f := decode cX12_about) dAX12_about_q1 45 rfl
theorem dX12_about_195 : decode cX12_about 195 = .ok (.baload, 1) := dc_at (f := decode cX12_about) dAX12_about_q1 46 rfl
theorem dX12_about_196 : decode cX12_about 196 = .ok (.ifCond .eq 25, 3) := dc_at (f := decode cX12_about) dAX12_about_q1 47 rfl
def dPX12_about_q2 : List (Nat × (Jvm.ClassFile.Instr × Nat)) := [(199, (.aload_n 0, 1)), (200, (.iload_n 1, 1)), (201, (.iload 4, 2)), (203, (.invokevirtual 240, 3)), (206, (.aload_n 0, 1)), (207, (.getfield 230, 3)), (210, (.if_icmp .le 11, 3)), (213, (.aload_n 0, 1)), (214, (.iload_n 1, 1)), (215, (.iload 4, 2)), (217, (.invokevirtual 240, 3)), (220, (.ireturn, 1)), (221, (.iinc 4 1, 3)), (224, (.goto (-60), 3)), (227, (.iconst (-1), 1)), (228, (.ireturn, 1)), (229, (.iconst (-1), 1)), (230, (.ireturn, 1))]
theorem dAX12_about_q2 : ∀ x ∈ dPX12_about_q2, decode cX12_about x.1 = .ok x.2 := by decide +kernel
theorem dX12_about_199 : decode cX12_about 199 = .ok (.aload_n 0, 1) := dc_at (f := decode cX12_about) dAX12_about_q2 0 rfl
theorem dX12_about_200 : decode cX12_about 200 = .ok (.iload_n 1, 1) := dc_at (f := decode cX12_about) dAX12_about_q2 1 rfl
theorem dX12_about_201 : decode cX12_about 201 = .ok (.iload 4, 2) := dc_at (f := decode cX12_about) dAX12_about_q2 2 rfl
theorem dX12_about_203 : decode cX12_about 203 = .ok (.invokevirtual 240, 3) := dc_at (f := decode cX12_about) dAX12_about_q2 3 rfl
theorem dX12_about_206 : decode cX12_about 206 = .ok (.aload_n 0, 1) := dc_at (f := decode cX12_about) dAX12_about_q2 4 rfl
theorem dX12_about_207 : decode cX12_about 207 = .ok (.getfield 230, 3) := dc_at (f := decode cX12_about) dAX12_about_q2 5 rfl
theorem dX12_about_210 : decode cX12_about 210 = .ok (.if_icmp .le 11, 3) := dc_at (f := decode cX12_about) dAX12_about_q2 6 rfl
theorem dX12_about_213 : decode cX12_about 213 = .ok (.aload_n 0, 1) := dc_at (f := decode cX12_about) dAX12_about_q2 7 rfl
theorem dX12_about_214 : decode cX12_about 214 = .ok (.iload_n 1, 1) := dc_at (f := decode cX12_about) dAX12_about_q2 8 rfl
theorem dX12_about_215 : decode cX12_about 215 = .ok (.iload 4, 2) := dc_at (f := decode cX12_about) dAX12_about_q2 9 rfl
theorem dX12_about_217 : decode cX12_about 217 = .ok (.invokevirtual 240, 3) := dc_at (f := decode cX12_about) dAX12_about_q2 10 rfl
theorem dX12_about_220 : decode cX12_about 220 = .ok (.ireturn, 1) := dc_at (f := decode cX12_about) dAX12_about_q2 11 rfl
theorem dX12_about_221 : decode cX12_about 221 = .ok (.iinc 4 1, 3) := dc_at (f := decode cX12_about) dAX12_about_q2 12 rfl
theorem dX12_about_224 : decode cX12_about 224 = .ok (.goto (-60), 3) := dc_at (f := decode cX12_about) dAX12_about_q2 13 rfl
theorem dX12_about_227 : decode cX12_about 227 = .ok (.iconst (-1), 1) := dc_at (f := decode cX12_about) dAX12_about_q2 14 rfl
theorem dX12_about_228 : decode cX12_about 228 = .ok (.ireturn, 1) := dc_at (f := decode cX12_about) dAX12_about_q2 15 rfl
theorem dX12_about_229 : decode cX12_about 229 = .ok (.iconst (-1), 1) := dc_at (f := decode cX12_about) dAX12_about_q2 16 rfl
theorem dX12_about_230 : decode cX12_about 230 = .ok (.ireturn, 1) := dc_at (f := decode cX12_about) dAX12_about_q2 17 rfl
def dPX12_giver_q0 : List (Nat × (Jvm.ClassFile.Instr × Nat)) := [(0, (.iload_n 1, 1)), (1, (.invokestatic 218, 3)), (4, (.ifCond .ne 6, 3)), (7, (.bipush (-2), 2)), (9, (.ireturn, 1)), (10, (.iload_n 2, 1)), (11, (.tableswitch 126 0 4 #[33, 40, 97, 104, 111], 33)), (44, (.aload_n 0, 1)), (45, (.getfield 126, 3)), (48, (.iload_n 1, 1)), (49, (.iaload, 1)), (50, (.ireturn, 1)), (51, (.iconst 0, 1)), (52, (.istore_n 3, 1)), (53, (.iconst 0, 1)), (54, (.istore 4, 2)), (56, (.iload 4, 2)), (58, (.aload_n 0, 1)), (59, (.getfield 246, 3)), (62, (.if_icmp .ge 44, 3)), (65, (.iload_n 3, 1)), (66, (.aload_n 0, 1)), (67, (.getfield 171, 3)), (70, (.iload 4, 2)), (72, (.iaload, 1)), (73, (.iload_n 1, 1)), (74, (.if_icmp .ne 23, 3)), (77, (.aload_n 0, 1)), (78, (.getfield 180, 3)), (81, (.iload 4, 2)), (83, (.baload, 1)), (84, (.ifCond .ne 13, 3)), (87, (.aload_n 0, 1)), (88, (.getfield 177, 3)), (91, (.iload 4, 2)), (93, (.iaload, 1)), (94, (.goto 4, 3)), (97, (.iconst 0, 1)), (98, (.iadd, 1)), (99, (.istore_n 3, 1)), (100, (.iinc 4 1, 3)), (103, (.goto (-47), 3)), (106, (.iload_n 3, 1)), (107, (.ireturn, 1)), (108, (.aload_n 0, 1)), (109, (.getfield 120, 3)), (112, (.iload_n 1, 1)), (113, (.iaload, 1))]
theorem dAX12_giver_q0 : ∀ x ∈ dPX12_giver_q0, decode cX12_giver x.1 = .ok x.2 := by decide +kernel
theorem dX12_giver_0 : decode cX12_giver 0 = .ok (.iload_n 1, 1) := dc_at (f := decode cX12_giver) dAX12_giver_q0 0 rfl
theorem dX12_giver_1 : decode cX12_giver 1 = .ok (.invokestatic 218, 3) := dc_at (f := decode cX12_giver) dAX12_giver_q0 1 rfl
theorem dX12_giver_4 : decode cX12_giver 4 = .ok (.ifCond .ne 6, 3) := dc_at (f := decode cX12_giver) dAX12_giver_q0 2 rfl
theorem dX12_giver_7 : decode cX12_giver 7 = .ok (.bipush (-2), 2) := dc_at (f := decode cX12_giver) dAX12_giver_q0 3 rfl
theorem dX12_giver_9 : decode cX12_giver 9 = .ok (.ireturn, 1) := dc_at (f := decode cX12_giver) dAX12_giver_q0 4 rfl
theorem dX12_giver_10 : decode cX12_giver 10 = .ok (.iload_n 2, 1) := dc_at (f := decode cX12_giver) dAX12_giver_q0 5 rfl
theorem dX12_giver_11 : decode cX12_giver 11 = .ok (.tableswitch 126 0 4 #[33, 40, 97, 104, 111], 33) := dc_at (f := decode cX12_giver) dAX12_giver_q0 6 rfl
theorem dX12_giver_44 : decode cX12_giver 44 = .ok (.aload_n 0, 1) := dc_at (f := decode cX12_giver) dAX12_giver_q0 7 rfl
theorem dX12_giver_45 : decode cX12_giver 45 = .ok (.getfield 126, 3) := dc_at (f := decode cX12_giver) dAX12_giver_q0 8 rfl
theorem dX12_giver_48 : decode cX12_giver 48 = .ok (.iload_n 1, 1) := dc_at (f := decode cX12_giver) dAX12_giver_q0 9 rfl
theorem dX12_giver_49 : decode cX12_giver 49 = .ok (.iaload, 1) := dc_at (f := decode cX12_giver) dAX12_giver_q0 10 rfl
theorem dX12_giver_50 : decode cX12_giver 50 = .ok (.ireturn, 1) := dc_at (f := decode cX12_giver) dAX12_giver_q0 11 rfl
theorem dX12_giver_51 : decode cX12_giver 51 = .ok (.iconst 0, 1) := dc_at (f := decode cX12_giver) dAX12_giver_q0 12 rfl
theorem dX12_giver_52 : decode cX12_giver 52 = .ok (.istore_n 3, 1) := dc_at (f := decode cX12_giver) dAX12_giver_q0 13 rfl
theorem dX12_giver_53 : decode cX12_giver 53 = .ok (.iconst 0, 1) := dc_at (f := decode cX12_giver) dAX12_giver_q0 14 rfl
theorem dX12_giver_54 : decode cX12_giver 54 = .ok (.istore 4, 2) := dc_at (f := decode cX12_giver) dAX12_giver_q0 15 rfl
theorem dX12_giver_56 : decode cX12_giver 56 = .ok (.iload 4, 2) := dc_at (f := decode cX12_giver) dAX12_giver_q0 16 rfl
theorem dX12_giver_58 : decode cX12_giver 58 = .ok (.aload_n 0, 1) := dc_at (f := decode cX12_giver) dAX12_giver_q0 17 rfl
theorem dX12_giver_59 : decode cX12_giver 59 = .ok (.getfield 246, 3) := dc_at (f := decode cX12_giver) dAX12_giver_q0 18 rfl
theorem dX12_giver_62 : decode cX12_giver 62 = .ok (.if_icmp .ge 44, 3) := dc_at (f := decode cX12_giver) dAX12_giver_q0 19 rfl
theorem dX12_giver_65 : decode cX12_giver 65 = .ok (.iload_n 3, 1) := dc_at (f := decode cX12_giver) dAX12_giver_q0 20 rfl
theorem dX12_giver_66 : decode cX12_giver 66 = .ok (.aload_n 0, 1) := dc_at (f := decode cX12_giver) dAX12_giver_q0 21 rfl
theorem dX12_giver_67 : decode cX12_giver 67 = .ok (.getfield 171, 3) := dc_at (f := decode cX12_giver) dAX12_giver_q0 22 rfl
theorem dX12_giver_70 : decode cX12_giver 70 = .ok (.iload 4, 2) := dc_at (f := decode cX12_giver) dAX12_giver_q0 23 rfl
theorem dX12_giver_72 : decode cX12_giver 72 = .ok (.iaload, 1) := dc_at (f := decode cX12_giver) dAX12_giver_q0 24 rfl
theorem dX12_giver_73 : decode cX12_giver 73 = .ok (.iload_n 1, 1) := dc_at (f := decode cX12_giver) dAX12_giver_q0 25 rfl
theorem dX12_giver_74 : decode cX12_giver 74 = .ok (.if_icmp .ne 23, 3) := dc_at (f := decode cX12_giver) dAX12_giver_q0 26 rfl
theorem dX12_giver_77 : decode cX12_giver 77 = .ok (.aload_n 0, 1) := dc_at (f := decode cX12_giver) dAX12_giver_q0 27 rfl
theorem dX12_giver_78 : decode cX12_giver 78 = .ok (.getfield 180, 3) := dc_at (f := decode cX12_giver) dAX12_giver_q0 28 rfl
theorem dX12_giver_81 : decode cX12_giver 81 = .ok (.iload 4, 2) := dc_at (f := decode cX12_giver) dAX12_giver_q0 29 rfl
theorem dX12_giver_83 : decode cX12_giver 83 = .ok (.baload, 1) := dc_at (f := decode cX12_giver) dAX12_giver_q0 30 rfl
theorem dX12_giver_84 : decode cX12_giver 84 = .ok (.ifCond .ne 13, 3) := dc_at (f := decode cX12_giver) dAX12_giver_q0 31 rfl
theorem dX12_giver_87 : decode cX12_giver 87 = .ok (.aload_n 0, 1) := dc_at (f := decode cX12_giver) dAX12_giver_q0 32 rfl
theorem dX12_giver_88 : decode cX12_giver 88 = .ok (.getfield 177, 3) := dc_at (f := decode cX12_giver) dAX12_giver_q0 33 rfl
theorem dX12_giver_91 : decode cX12_giver 91 = .ok (.iload 4, 2) := dc_at (f := decode cX12_giver) dAX12_giver_q0 34 rfl
theorem dX12_giver_93 : decode cX12_giver 93 = .ok (.iaload, 1) := dc_at (f := decode cX12_giver) dAX12_giver_q0 35 rfl
theorem dX12_giver_94 : decode cX12_giver 94 = .ok (.goto 4, 3) := dc_at (f := decode cX12_giver) dAX12_giver_q0 36 rfl
theorem dX12_giver_97 : decode cX12_giver 97 = .ok (.iconst 0, 1) := dc_at (f := decode cX12_giver) dAX12_giver_q0 37 rfl
theorem dX12_giver_98 : decode cX12_giver 98 = .ok (.iadd, 1) := dc_at (f := decode cX12_giver) dAX12_giver_q0 38 rfl
theorem dX12_giver_99 : decode cX12_giver 99 = .ok (.istore_n 3, 1) := dc_at (f := decode cX12_giver) dAX12_giver_q0 39 rfl
theorem dX12_giver_100 : decode cX12_giver 100 = .ok (.iinc 4 1, 3) := dc_at (f := decode cX12_giver) dAX12_giver_q0 40 rfl
theorem dX12_giver_103 : decode cX12_giver 103 = .ok (.goto (-47), 3) := dc_at (f := decode cX12_giver) dAX12_giver_q0 41 rfl
theorem dX12_giver_106 : decode cX12_giver 106 = .ok (.iload_n 3, 1) := dc_at (f := decode cX12_giver) dAX12_giver_q0 42 rfl
theorem dX12_giver_107 : decode cX12_giver 107 = .ok (.ireturn, 1) := dc_at (f := decode cX12_giver) dAX12_giver_q0 43 rfl
theorem dX12_giver_108 : decode cX12_giver 108 = .ok (.aload_n 0, 1) := dc_at (f := decode cX12_giver) dAX12_giver_q0 44 rfl
theorem dX12_giver_109 : decode cX12_giver 109 = .ok (.getfield 120, 3) := dc_at (f := decode cX12_giver) dAX12_giver_q0 45 rfl
theorem dX12_giver_112 : decode cX12_giver 112 = .ok (.iload_n 1, 1) := dc_at (f := decode cX12_giver) dAX12_giver_q0 46 rfl
theorem dX12_giver_113 : decode cX12_giver 113 = .ok (.iaload, 1) := dc_at (f := decode cX12_giver) dAX12_giver_q0 47 rfl
def dPX12_giver_q1 : List (Nat × (Jvm.ClassFile.Instr × Nat)) := [(114, (.ireturn, 1)), (115, (.aload_n 0, 1)), (116, (.getfield 123, 3)), (119, (.iload_n 1, 1)), (120, (.iaload, 1)), (121, (.ireturn, 1)), (122, (.aload_n 0, 1)), (123, (.getfield 132, 3)), (126, (.iload_n 1, 1)), (127, (.baload, 1)), (128, (.ifCond .eq 7, 3)), (131, (.iconst 1, 1)), (132, (.goto 4, 3)), (135, (.iconst 0, 1)), (136, (.ireturn, 1)), (137, (.bipush (-2), 2)), (139, (.ireturn, 1))]
theorem dAX12_giver_q1 : ∀ x ∈ dPX12_giver_q1, decode cX12_giver x.1 = .ok x.2 := by decide +kernel
theorem dX12_giver_114 : decode cX12_giver 114 = .ok (.ireturn, 1) := dc_at (f := decode cX12_giver) dAX12_giver_q1 0 rfl
theorem dX12_giver_115 : decode cX12_giver 115 = .ok (.aload_n 0, 1) := dc_at (f := decode cX12_giver) dAX12_giver_q1 1 rfl
theorem dX12_giver_116 : decode cX12_giver 116 = .ok (.getfield 123, 3) := dc_at (f := decode cX12_giver) dAX12_giver_q1 2 rfl
theorem dX12_giver_119 : decode cX12_giver 119 = .ok (.iload_n 1, 1) := dc_at (f := decode cX12_giver) dAX12_giver_q1 3 rfl
theorem dX12_giver_120 : decode cX12_giver 120 = .ok (.iaload, 1) := dc_at (f := decode cX12_giver) dAX12_giver_q1 4 rfl
theorem dX12_giver_121 : decode cX12_giver 121 = .ok (.ireturn, 1) := dc_at (f := decode cX12_giver) dAX12_giver_q1 5 rfl
theorem dX12_giver_122 : decode cX12_giver 122 = .ok (.aload_n 0, 1) := dc_at (f := decode cX12_giver) dAX12_giver_q1 6 rfl
theorem dX12_giver_123 : decode cX12_giver 123 = .ok (.getfield 132, 3) := dc_at (f := decode cX12_giver) dAX12_giver_q1 7 rfl
theorem dX12_giver_126 : decode cX12_giver 126 = .ok (.iload_n 1, 1) := dc_at (f := decode cX12_giver) dAX12_giver_q1 8 rfl
theorem dX12_giver_127 : decode cX12_giver 127 = .ok (.baload, 1) := dc_at (f := decode cX12_giver) dAX12_giver_q1 9 rfl
theorem dX12_giver_128 : decode cX12_giver 128 = .ok (.ifCond .eq 7, 3) := dc_at (f := decode cX12_giver) dAX12_giver_q1 10 rfl
theorem dX12_giver_131 : decode cX12_giver 131 = .ok (.iconst 1, 1) := dc_at (f := decode cX12_giver) dAX12_giver_q1 11 rfl
theorem dX12_giver_132 : decode cX12_giver 132 = .ok (.goto 4, 3) := dc_at (f := decode cX12_giver) dAX12_giver_q1 12 rfl
theorem dX12_giver_135 : decode cX12_giver 135 = .ok (.iconst 0, 1) := dc_at (f := decode cX12_giver) dAX12_giver_q1 13 rfl
theorem dX12_giver_136 : decode cX12_giver 136 = .ok (.ireturn, 1) := dc_at (f := decode cX12_giver) dAX12_giver_q1 14 rfl
theorem dX12_giver_137 : decode cX12_giver 137 = .ok (.bipush (-2), 2) := dc_at (f := decode cX12_giver) dAX12_giver_q1 15 rfl
theorem dX12_giver_139 : decode cX12_giver 139 = .ok (.ireturn, 1) := dc_at (f := decode cX12_giver) dAX12_giver_q1 16 rfl
def dPX12_stage_q0 : List (Nat × (Jvm.ClassFile.Instr × Nat)) := [(0, (.iload_n 1, 1)), (1, (.i2l, 1)), (2, (.lconst 1, 1)), (3, (.ldc2_w 282, 3)), (6, (.invokestatic 58, 3)), (9, (.ifCond .eq 15, 3)), (12, (.iload_n 2, 1)), (13, (.i2l, 1)), (14, (.lconst 1, 1)), (15, (.ldc2_w 284, 3)), (18, (.invokestatic 58, 3)), (21, (.ifCond .ne 6, 3)), (24, (.bipush (-2), 2)), (26, (.ireturn, 1)), (27, (.aload_n 0, 1)), (28, (.getfield 224, 3)), (31, (.ifCond .eq 6, 3)), (34, (.bipush (-4), 2)), (36, (.ireturn, 1)), (37, (.aload_n 0, 1)), (38, (.getfield 286, 3)), (41, (.bipush 8, 2)), (43, (.if_icmp .ne 6, 3)), (46, (.bipush (-3), 2)), (48, (.ireturn, 1)), (49, (.aload_n 0, 1)), (50, (.getfield 183, 3)), (53, (.aload_n 0, 1)), (54, (.getfield 286, 3)), (57, (.iload_n 1, 1)), (58, (.iastore, 1)), (59, (.aload_n 0, 1)), (60, (.getfield 186, 3)), (63, (.aload_n 0, 1)), (64, (.getfield 286, 3)), (67, (.iload_n 2, 1)), (68, (.iastore, 1)), (69, (.aload_n 0, 1)), (70, (.dup, 1)), (71, (.getfield 286, 3)), (74, (.iconst 1, 1)), (75, (.iadd, 1)), (76, (.putfield 286, 3)), (79, (.aload_n 0, 1)), (80, (.getfield 286, 3)), (83, (.iconst 1, 1)), (84, (.isub, 1)), (85, (.ireturn, 1))]
theorem dAX12_stage_q0 : ∀ x ∈ dPX12_stage_q0, decode cX12_stage x.1 = .ok x.2 := by decide +kernel
theorem dX12_stage_0 : decode cX12_stage 0 = .ok (.iload_n 1, 1) := dc_at (f := decode cX12_stage) dAX12_stage_q0 0 rfl
theorem dX12_stage_1 : decode cX12_stage 1 = .ok (.i2l, 1) := dc_at (f := decode cX12_stage) dAX12_stage_q0 1 rfl
theorem dX12_stage_2 : decode cX12_stage 2 = .ok (.lconst 1, 1) := dc_at (f := decode cX12_stage) dAX12_stage_q0 2 rfl
theorem dX12_stage_3 : decode cX12_stage 3 = .ok (.ldc2_w 282, 3) := dc_at (f := decode cX12_stage) dAX12_stage_q0 3 rfl
theorem dX12_stage_6 : decode cX12_stage 6 = .ok (.invokestatic 58, 3) := dc_at (f := decode cX12_stage) dAX12_stage_q0 4 rfl
theorem dX12_stage_9 : decode cX12_stage 9 = .ok (.ifCond .eq 15, 3) := dc_at (f := decode cX12_stage) dAX12_stage_q0 5 rfl
theorem dX12_stage_12 : decode cX12_stage 12 = .ok (.iload_n 2, 1) := dc_at (f := decode cX12_stage) dAX12_stage_q0 6 rfl
theorem dX12_stage_13 : decode cX12_stage 13 = .ok (.i2l, 1) := dc_at (f := decode cX12_stage) dAX12_stage_q0 7 rfl
theorem dX12_stage_14 : decode cX12_stage 14 = .ok (.lconst 1, 1) := dc_at (f := decode cX12_stage) dAX12_stage_q0 8 rfl
theorem dX12_stage_15 : decode cX12_stage 15 = .ok (.ldc2_w 284, 3) := dc_at (f := decode cX12_stage) dAX12_stage_q0 9 rfl
theorem dX12_stage_18 : decode cX12_stage 18 = .ok (.invokestatic 58, 3) := dc_at (f := decode cX12_stage) dAX12_stage_q0 10 rfl
theorem dX12_stage_21 : decode cX12_stage 21 = .ok (.ifCond .ne 6, 3) := dc_at (f := decode cX12_stage) dAX12_stage_q0 11 rfl
theorem dX12_stage_24 : decode cX12_stage 24 = .ok (.bipush (-2), 2) := dc_at (f := decode cX12_stage) dAX12_stage_q0 12 rfl
theorem dX12_stage_26 : decode cX12_stage 26 = .ok (.ireturn, 1) := dc_at (f := decode cX12_stage) dAX12_stage_q0 13 rfl
theorem dX12_stage_27 : decode cX12_stage 27 = .ok (.aload_n 0, 1) := dc_at (f := decode cX12_stage) dAX12_stage_q0 14 rfl
theorem dX12_stage_28 : decode cX12_stage 28 = .ok (.getfield 224, 3) := dc_at (f := decode cX12_stage) dAX12_stage_q0 15 rfl
theorem dX12_stage_31 : decode cX12_stage 31 = .ok (.ifCond .eq 6, 3) := dc_at (f := decode cX12_stage) dAX12_stage_q0 16 rfl
theorem dX12_stage_34 : decode cX12_stage 34 = .ok (.bipush (-4), 2) := dc_at (f := decode cX12_stage) dAX12_stage_q0 17 rfl
theorem dX12_stage_36 : decode cX12_stage 36 = .ok (.ireturn, 1) := dc_at (f := decode cX12_stage) dAX12_stage_q0 18 rfl
theorem dX12_stage_37 : decode cX12_stage 37 = .ok (.aload_n 0, 1) := dc_at (f := decode cX12_stage) dAX12_stage_q0 19 rfl
theorem dX12_stage_38 : decode cX12_stage 38 = .ok (.getfield 286, 3) := dc_at (f := decode cX12_stage) dAX12_stage_q0 20 rfl
theorem dX12_stage_41 : decode cX12_stage 41 = .ok (.bipush 8, 2) := dc_at (f := decode cX12_stage) dAX12_stage_q0 21 rfl
theorem dX12_stage_43 : decode cX12_stage 43 = .ok (.if_icmp .ne 6, 3) := dc_at (f := decode cX12_stage) dAX12_stage_q0 22 rfl
theorem dX12_stage_46 : decode cX12_stage 46 = .ok (.bipush (-3), 2) := dc_at (f := decode cX12_stage) dAX12_stage_q0 23 rfl
theorem dX12_stage_48 : decode cX12_stage 48 = .ok (.ireturn, 1) := dc_at (f := decode cX12_stage) dAX12_stage_q0 24 rfl
theorem dX12_stage_49 : decode cX12_stage 49 = .ok (.aload_n 0, 1) := dc_at (f := decode cX12_stage) dAX12_stage_q0 25 rfl
theorem dX12_stage_50 : decode cX12_stage 50 = .ok (.getfield 183, 3) := dc_at (f := decode cX12_stage) dAX12_stage_q0 26 rfl
theorem dX12_stage_53 : decode cX12_stage 53 = .ok (.aload_n 0, 1) := dc_at (f := decode cX12_stage) dAX12_stage_q0 27 rfl
theorem dX12_stage_54 : decode cX12_stage 54 = .ok (.getfield 286, 3) := dc_at (f := decode cX12_stage) dAX12_stage_q0 28 rfl
theorem dX12_stage_57 : decode cX12_stage 57 = .ok (.iload_n 1, 1) := dc_at (f := decode cX12_stage) dAX12_stage_q0 29 rfl
theorem dX12_stage_58 : decode cX12_stage 58 = .ok (.iastore, 1) := dc_at (f := decode cX12_stage) dAX12_stage_q0 30 rfl
theorem dX12_stage_59 : decode cX12_stage 59 = .ok (.aload_n 0, 1) := dc_at (f := decode cX12_stage) dAX12_stage_q0 31 rfl
theorem dX12_stage_60 : decode cX12_stage 60 = .ok (.getfield 186, 3) := dc_at (f := decode cX12_stage) dAX12_stage_q0 32 rfl
theorem dX12_stage_63 : decode cX12_stage 63 = .ok (.aload_n 0, 1) := dc_at (f := decode cX12_stage) dAX12_stage_q0 33 rfl
theorem dX12_stage_64 : decode cX12_stage 64 = .ok (.getfield 286, 3) := dc_at (f := decode cX12_stage) dAX12_stage_q0 34 rfl
theorem dX12_stage_67 : decode cX12_stage 67 = .ok (.iload_n 2, 1) := dc_at (f := decode cX12_stage) dAX12_stage_q0 35 rfl
theorem dX12_stage_68 : decode cX12_stage 68 = .ok (.iastore, 1) := dc_at (f := decode cX12_stage) dAX12_stage_q0 36 rfl
theorem dX12_stage_69 : decode cX12_stage 69 = .ok (.aload_n 0, 1) := dc_at (f := decode cX12_stage) dAX12_stage_q0 37 rfl
theorem dX12_stage_70 : decode cX12_stage 70 = .ok (.dup, 1) := dc_at (f := decode cX12_stage) dAX12_stage_q0 38 rfl
theorem dX12_stage_71 : decode cX12_stage 71 = .ok (.getfield 286, 3) := dc_at (f := decode cX12_stage) dAX12_stage_q0 39 rfl
theorem dX12_stage_74 : decode cX12_stage 74 = .ok (.iconst 1, 1) := dc_at (f := decode cX12_stage) dAX12_stage_q0 40 rfl
theorem dX12_stage_75 : decode cX12_stage 75 = .ok (.iadd, 1) := dc_at (f := decode cX12_stage) dAX12_stage_q0 41 rfl
theorem dX12_stage_76 : decode cX12_stage 76 = .ok (.putfield 286, 3) := dc_at (f := decode cX12_stage) dAX12_stage_q0 42 rfl
theorem dX12_stage_79 : decode cX12_stage 79 = .ok (.aload_n 0, 1) := dc_at (f := decode cX12_stage) dAX12_stage_q0 43 rfl
theorem dX12_stage_80 : decode cX12_stage 80 = .ok (.getfield 286, 3) := dc_at (f := decode cX12_stage) dAX12_stage_q0 44 rfl
theorem dX12_stage_83 : decode cX12_stage 83 = .ok (.iconst 1, 1) := dc_at (f := decode cX12_stage) dAX12_stage_q0 45 rfl
theorem dX12_stage_84 : decode cX12_stage 84 = .ok (.isub, 1) := dc_at (f := decode cX12_stage) dAX12_stage_q0 46 rfl
theorem dX12_stage_85 : decode cX12_stage 85 = .ok (.ireturn, 1) := dc_at (f := decode cX12_stage) dAX12_stage_q0 47 rfl
def dPX12_runs_q0 : List (Nat × (Jvm.ClassFile.Instr × Nat)) := [(0, (.aload_n 0, 1)), (1, (.getfield 289, 3)), (4, (.ifCond .le 32, 3)), (7, (.aload_n 0, 1)), (8, (.getfield 188, 3)), (11, (.aload_n 0, 1)), (12, (.getfield 289, 3)), (15, (.iconst 1, 1)), (16, (.isub, 1)), (17, (.iaload, 1)), (18, (.aload_n 0, 1)), (19, (.getfield 186, 3)), (22, (.aload_n 0, 1)), (23, (.getfield 289, 3)), (26, (.iconst 1, 1)), (27, (.isub, 1)), (28, (.iaload, 1)), (29, (.if_icmp .ge 7, 3)), (32, (.iconst 1, 1)), (33, (.goto 4, 3)), (36, (.iconst 0, 1)), (37, (.ireturn, 1))]
theorem dAX12_runs_q0 : ∀ x ∈ dPX12_runs_q0, decode cX12_runs x.1 = .ok x.2 := by decide +kernel
theorem dX12_runs_0 : decode cX12_runs 0 = .ok (.aload_n 0, 1) := dc_at (f := decode cX12_runs) dAX12_runs_q0 0 rfl
theorem dX12_runs_1 : decode cX12_runs 1 = .ok (.getfield 289, 3) := dc_at (f := decode cX12_runs) dAX12_runs_q0 1 rfl
theorem dX12_runs_4 : decode cX12_runs 4 = .ok (.ifCond .le 32, 3) := dc_at (f := decode cX12_runs) dAX12_runs_q0 2 rfl
theorem dX12_runs_7 : decode cX12_runs 7 = .ok (.aload_n 0, 1) := dc_at (f := decode cX12_runs) dAX12_runs_q0 3 rfl
theorem dX12_runs_8 : decode cX12_runs 8 = .ok (.getfield 188, 3) := dc_at (f := decode cX12_runs) dAX12_runs_q0 4 rfl
theorem dX12_runs_11 : decode cX12_runs 11 = .ok (.aload_n 0, 1) := dc_at (f := decode cX12_runs) dAX12_runs_q0 5 rfl
theorem dX12_runs_12 : decode cX12_runs 12 = .ok (.getfield 289, 3) := dc_at (f := decode cX12_runs) dAX12_runs_q0 6 rfl
theorem dX12_runs_15 : decode cX12_runs 15 = .ok (.iconst 1, 1) := dc_at (f := decode cX12_runs) dAX12_runs_q0 7 rfl
theorem dX12_runs_16 : decode cX12_runs 16 = .ok (.isub, 1) := dc_at (f := decode cX12_runs) dAX12_runs_q0 8 rfl
theorem dX12_runs_17 : decode cX12_runs 17 = .ok (.iaload, 1) := dc_at (f := decode cX12_runs) dAX12_runs_q0 9 rfl
theorem dX12_runs_18 : decode cX12_runs 18 = .ok (.aload_n 0, 1) := dc_at (f := decode cX12_runs) dAX12_runs_q0 10 rfl
theorem dX12_runs_19 : decode cX12_runs 19 = .ok (.getfield 186, 3) := dc_at (f := decode cX12_runs) dAX12_runs_q0 11 rfl
theorem dX12_runs_22 : decode cX12_runs 22 = .ok (.aload_n 0, 1) := dc_at (f := decode cX12_runs) dAX12_runs_q0 12 rfl
theorem dX12_runs_23 : decode cX12_runs 23 = .ok (.getfield 289, 3) := dc_at (f := decode cX12_runs) dAX12_runs_q0 13 rfl
theorem dX12_runs_26 : decode cX12_runs 26 = .ok (.iconst 1, 1) := dc_at (f := decode cX12_runs) dAX12_runs_q0 14 rfl
theorem dX12_runs_27 : decode cX12_runs 27 = .ok (.isub, 1) := dc_at (f := decode cX12_runs) dAX12_runs_q0 15 rfl
theorem dX12_runs_28 : decode cX12_runs 28 = .ok (.iaload, 1) := dc_at (f := decode cX12_runs) dAX12_runs_q0 16 rfl
theorem dX12_runs_29 : decode cX12_runs 29 = .ok (.if_icmp .ge 7, 3) := dc_at (f := decode cX12_runs) dAX12_runs_q0 17 rfl
theorem dX12_runs_32 : decode cX12_runs 32 = .ok (.iconst 1, 1) := dc_at (f := decode cX12_runs) dAX12_runs_q0 18 rfl
theorem dX12_runs_33 : decode cX12_runs 33 = .ok (.goto 4, 3) := dc_at (f := decode cX12_runs) dAX12_runs_q0 19 rfl
theorem dX12_runs_36 : decode cX12_runs 36 = .ok (.iconst 0, 1) := dc_at (f := decode cX12_runs) dAX12_runs_q0 20 rfl
theorem dX12_runs_37 : decode cX12_runs 37 = .ok (.ireturn, 1) := dc_at (f := decode cX12_runs) dAX12_runs_q0 21 rfl
def dPX12_begin_q0 : List (Nat × (Jvm.ClassFile.Instr × Nat)) := [(0, (.aload_n 0, 1)), (1, (.getfield 224, 3)), (4, (.ifCond .ne 21, 3)), (7, (.aload_n 0, 1)), (8, (.invokevirtual 292, 3)), (11, (.ifCond .ne 14, 3)), (14, (.aload_n 0, 1)), (15, (.getfield 289, 3)), (18, (.aload_n 0, 1)), (19, (.getfield 286, 3)), (22, (.if_icmp .ne 6, 3)), (25, (.bipush (-4), 2)), (27, (.ireturn, 1)), (28, (.aload_n 0, 1)), (29, (.dup, 1)), (30, (.getfield 289, 3)), (33, (.iconst 1, 1)), (34, (.iadd, 1)), (35, (.putfield 289, 3)), (38, (.aload_n 0, 1)), (39, (.getfield 289, 3)), (42, (.iconst 1, 1)), (43, (.isub, 1)), (44, (.ireturn, 1))]
theorem dAX12_begin_q0 : ∀ x ∈ dPX12_begin_q0, decode cX12_begin x.1 = .ok x.2 := by decide +kernel
theorem dX12_begin_0 : decode cX12_begin 0 = .ok (.aload_n 0, 1) := dc_at (f := decode cX12_begin) dAX12_begin_q0 0 rfl
theorem dX12_begin_1 : decode cX12_begin 1 = .ok (.getfield 224, 3) := dc_at (f := decode cX12_begin) dAX12_begin_q0 1 rfl
theorem dX12_begin_4 : decode cX12_begin 4 = .ok (.ifCond .ne 21, 3) := dc_at (f := decode cX12_begin) dAX12_begin_q0 2 rfl
theorem dX12_begin_7 : decode cX12_begin 7 = .ok (.aload_n 0, 1) := dc_at (f := decode cX12_begin) dAX12_begin_q0 3 rfl
theorem dX12_begin_8 : decode cX12_begin 8 = .ok (.invokevirtual 292, 3) := dc_at (f := decode cX12_begin) dAX12_begin_q0 4 rfl
theorem dX12_begin_11 : decode cX12_begin 11 = .ok (.ifCond .ne 14, 3) := dc_at (f := decode cX12_begin) dAX12_begin_q0 5 rfl
theorem dX12_begin_14 : decode cX12_begin 14 = .ok (.aload_n 0, 1) := dc_at (f := decode cX12_begin) dAX12_begin_q0 6 rfl
theorem dX12_begin_15 : decode cX12_begin 15 = .ok (.getfield 289, 3) := dc_at (f := decode cX12_begin) dAX12_begin_q0 7 rfl
theorem dX12_begin_18 : decode cX12_begin 18 = .ok (.aload_n 0, 1) := dc_at (f := decode cX12_begin) dAX12_begin_q0 8 rfl
theorem dX12_begin_19 : decode cX12_begin 19 = .ok (.getfield 286, 3) := dc_at (f := decode cX12_begin) dAX12_begin_q0 9 rfl
theorem dX12_begin_22 : decode cX12_begin 22 = .ok (.if_icmp .ne 6, 3) := dc_at (f := decode cX12_begin) dAX12_begin_q0 10 rfl
theorem dX12_begin_25 : decode cX12_begin 25 = .ok (.bipush (-4), 2) := dc_at (f := decode cX12_begin) dAX12_begin_q0 11 rfl
theorem dX12_begin_27 : decode cX12_begin 27 = .ok (.ireturn, 1) := dc_at (f := decode cX12_begin) dAX12_begin_q0 12 rfl
theorem dX12_begin_28 : decode cX12_begin 28 = .ok (.aload_n 0, 1) := dc_at (f := decode cX12_begin) dAX12_begin_q0 13 rfl
theorem dX12_begin_29 : decode cX12_begin 29 = .ok (.dup, 1) := dc_at (f := decode cX12_begin) dAX12_begin_q0 14 rfl
theorem dX12_begin_30 : decode cX12_begin 30 = .ok (.getfield 289, 3) := dc_at (f := decode cX12_begin) dAX12_begin_q0 15 rfl
theorem dX12_begin_33 : decode cX12_begin 33 = .ok (.iconst 1, 1) := dc_at (f := decode cX12_begin) dAX12_begin_q0 16 rfl
theorem dX12_begin_34 : decode cX12_begin 34 = .ok (.iadd, 1) := dc_at (f := decode cX12_begin) dAX12_begin_q0 17 rfl
theorem dX12_begin_35 : decode cX12_begin 35 = .ok (.putfield 289, 3) := dc_at (f := decode cX12_begin) dAX12_begin_q0 18 rfl
theorem dX12_begin_38 : decode cX12_begin 38 = .ok (.aload_n 0, 1) := dc_at (f := decode cX12_begin) dAX12_begin_q0 19 rfl
theorem dX12_begin_39 : decode cX12_begin 39 = .ok (.getfield 289, 3) := dc_at (f := decode cX12_begin) dAX12_begin_q0 20 rfl
theorem dX12_begin_42 : decode cX12_begin 42 = .ok (.iconst 1, 1) := dc_at (f := decode cX12_begin) dAX12_begin_q0 21 rfl
theorem dX12_begin_43 : decode cX12_begin 43 = .ok (.isub, 1) := dc_at (f := decode cX12_begin) dAX12_begin_q0 22 rfl
theorem dX12_begin_44 : decode cX12_begin 44 = .ok (.ireturn, 1) := dc_at (f := decode cX12_begin) dAX12_begin_q0 23 rfl
def dPX12_built_q0 : List (Nat × (Jvm.ClassFile.Instr × Nat)) := [(0, (.iload_n 1, 1)), (1, (.i2l, 1)), (2, (.lconst 0, 1)), (3, (.aload_n 0, 1)), (4, (.getfield 286, 3)), (7, (.i2l, 1)), (8, (.lconst 1, 1)), (9, (.lsub, 1)), (10, (.invokestatic 58, 3)), (13, (.ifCond .ne 5, 3)), (16, (.iconst (-1), 1)), (17, (.ireturn, 1)), (18, (.iload_n 2, 1)), (19, (.tableswitch 94 0 4 #[33, 40, 47, 80, 87], 33)), (52, (.aload_n 0, 1)), (53, (.getfield 183, 3)), (56, (.iload_n 1, 1)), (57, (.iaload, 1)), (58, (.ireturn, 1)), (59, (.aload_n 0, 1)), (60, (.getfield 186, 3)), (63, (.iload_n 1, 1)), (64, (.iaload, 1)), (65, (.ireturn, 1)), (66, (.iload_n 1, 1)), (67, (.aload_n 0, 1)), (68, (.getfield 289, 3)), (71, (.if_icmp .lt 7, 3)), (74, (.iconst 0, 1)), (75, (.goto 23, 3)), (78, (.aload_n 0, 1)), (79, (.getfield 188, 3)), (82, (.iload_n 1, 1)), (83, (.iaload, 1)), (84, (.aload_n 0, 1)), (85, (.getfield 186, 3)), (88, (.iload_n 1, 1)), (89, (.iaload, 1)), (90, (.if_icmp .ge 7, 3)), (93, (.iconst 1, 1)), (94, (.goto 4, 3)), (97, (.iconst 2, 1)), (98, (.ireturn, 1)), (99, (.aload_n 0, 1)), (100, (.getfield 191, 3)), (103, (.iload_n 1, 1)), (104, (.iaload, 1)), (105, (.ireturn, 1))]
theorem dAX12_built_q0 : ∀ x ∈ dPX12_built_q0, decode cX12_built x.1 = .ok x.2 := by decide +kernel
theorem dX12_built_0 : decode cX12_built 0 = .ok (.iload_n 1, 1) := dc_at (f := decode cX12_built) dAX12_built_q0 0 rfl
theorem dX12_built_1 : decode cX12_built 1 = .ok (.i2l, 1) := dc_at (f := decode cX12_built) dAX12_built_q0 1 rfl
theorem dX12_built_2 : decode cX12_built 2 = .ok (.lconst 0, 1) := dc_at (f := decode cX12_built) dAX12_built_q0 2 rfl
theorem dX12_built_3 : decode cX12_built 3 = .ok (.aload_n 0, 1) := dc_at (f := decode cX12_built) dAX12_built_q0 3 rfl
theorem dX12_built_4 : decode cX12_built 4 = .ok (.getfield 286, 3) := dc_at (f := decode cX12_built) dAX12_built_q0 4 rfl
theorem dX12_built_7 : decode cX12_built 7 = .ok (.i2l, 1) := dc_at (f := decode cX12_built) dAX12_built_q0 5 rfl
theorem dX12_built_8 : decode cX12_built 8 = .ok (.lconst 1, 1) := dc_at (f := decode cX12_built) dAX12_built_q0 6 rfl
theorem dX12_built_9 : decode cX12_built 9 = .ok (.lsub, 1) := dc_at (f := decode cX12_built) dAX12_built_q0 7 rfl
theorem dX12_built_10 : decode cX12_built 10 = .ok (.invokestatic 58, 3) := dc_at (f := decode cX12_built) dAX12_built_q0 8 rfl
theorem dX12_built_13 : decode cX12_built 13 = .ok (.ifCond .ne 5, 3) := dc_at (f := decode cX12_built) dAX12_built_q0 9 rfl
theorem dX12_built_16 : decode cX12_built 16 = .ok (.iconst (-1), 1) := dc_at (f := decode cX12_built) dAX12_built_q0 10 rfl
theorem dX12_built_17 : decode cX12_built 17 = .ok (.ireturn, 1) := dc_at (f := decode cX12_built) dAX12_built_q0 11 rfl
theorem dX12_built_18 : decode cX12_built 18 = .ok (.iload_n 2, 1) := dc_at (f := decode cX12_built) dAX12_built_q0 12 rfl
theorem dX12_built_19 : decode cX12_built 19 = .ok (.tableswitch 94 0 4 #[33, 40, 47, 80, 87], 33) := dc_at (f := decode cX12_built) dAX12_built_q0 13 rfl
theorem dX12_built_52 : decode cX12_built 52 = .ok (.aload_n 0, 1) := dc_at (f := decode cX12_built) dAX12_built_q0 14 rfl
theorem dX12_built_53 : decode cX12_built 53 = .ok (.getfield 183, 3) := dc_at (f := decode cX12_built) dAX12_built_q0 15 rfl
theorem dX12_built_56 : decode cX12_built 56 = .ok (.iload_n 1, 1) := dc_at (f := decode cX12_built) dAX12_built_q0 16 rfl
theorem dX12_built_57 : decode cX12_built 57 = .ok (.iaload, 1) := dc_at (f := decode cX12_built) dAX12_built_q0 17 rfl
theorem dX12_built_58 : decode cX12_built 58 = .ok (.ireturn, 1) := dc_at (f := decode cX12_built) dAX12_built_q0 18 rfl
theorem dX12_built_59 : decode cX12_built 59 = .ok (.aload_n 0, 1) := dc_at (f := decode cX12_built) dAX12_built_q0 19 rfl
theorem dX12_built_60 : decode cX12_built 60 = .ok (.getfield 186, 3) := dc_at (f := decode cX12_built) dAX12_built_q0 20 rfl
theorem dX12_built_63 : decode cX12_built 63 = .ok (.iload_n 1, 1) := dc_at (f := decode cX12_built) dAX12_built_q0 21 rfl
theorem dX12_built_64 : decode cX12_built 64 = .ok (.iaload, 1) := dc_at (f := decode cX12_built) dAX12_built_q0 22 rfl
theorem dX12_built_65 : decode cX12_built 65 = .ok (.ireturn, 1) := dc_at (f := decode cX12_built) dAX12_built_q0 23 rfl
theorem dX12_built_66 : decode cX12_built 66 = .ok (.iload_n 1, 1) := dc_at (f := decode cX12_built) dAX12_built_q0 24 rfl
theorem dX12_built_67 : decode cX12_built 67 = .ok (.aload_n 0, 1) := dc_at (f := decode cX12_built) dAX12_built_q0 25 rfl
theorem dX12_built_68 : decode cX12_built 68 = .ok (.getfield 289, 3) := dc_at (f := decode cX12_built) dAX12_built_q0 26 rfl
theorem dX12_built_71 : decode cX12_built 71 = .ok (.if_icmp .lt 7, 3) := dc_at (f := decode cX12_built) dAX12_built_q0 27 rfl
theorem dX12_built_74 : decode cX12_built 74 = .ok (.iconst 0, 1) := dc_at (f := decode cX12_built) dAX12_built_q0 28 rfl
theorem dX12_built_75 : decode cX12_built 75 = .ok (.goto 23, 3) := dc_at (f := decode cX12_built) dAX12_built_q0 29 rfl
theorem dX12_built_78 : decode cX12_built 78 = .ok (.aload_n 0, 1) := dc_at (f := decode cX12_built) dAX12_built_q0 30 rfl
theorem dX12_built_79 : decode cX12_built 79 = .ok (.getfield 188, 3) := dc_at (f := decode cX12_built) dAX12_built_q0 31 rfl
theorem dX12_built_82 : decode cX12_built 82 = .ok (.iload_n 1, 1) := dc_at (f := decode cX12_built) dAX12_built_q0 32 rfl
theorem dX12_built_83 : decode cX12_built 83 = .ok (.iaload, 1) := dc_at (f := decode cX12_built) dAX12_built_q0 33 rfl
theorem dX12_built_84 : decode cX12_built 84 = .ok (.aload_n 0, 1) := dc_at (f := decode cX12_built) dAX12_built_q0 34 rfl
theorem dX12_built_85 : decode cX12_built 85 = .ok (.getfield 186, 3) := dc_at (f := decode cX12_built) dAX12_built_q0 35 rfl
theorem dX12_built_88 : decode cX12_built 88 = .ok (.iload_n 1, 1) := dc_at (f := decode cX12_built) dAX12_built_q0 36 rfl
theorem dX12_built_89 : decode cX12_built 89 = .ok (.iaload, 1) := dc_at (f := decode cX12_built) dAX12_built_q0 37 rfl
theorem dX12_built_90 : decode cX12_built 90 = .ok (.if_icmp .ge 7, 3) := dc_at (f := decode cX12_built) dAX12_built_q0 38 rfl
theorem dX12_built_93 : decode cX12_built 93 = .ok (.iconst 1, 1) := dc_at (f := decode cX12_built) dAX12_built_q0 39 rfl
theorem dX12_built_94 : decode cX12_built 94 = .ok (.goto 4, 3) := dc_at (f := decode cX12_built) dAX12_built_q0 40 rfl
theorem dX12_built_97 : decode cX12_built 97 = .ok (.iconst 2, 1) := dc_at (f := decode cX12_built) dAX12_built_q0 41 rfl
theorem dX12_built_98 : decode cX12_built 98 = .ok (.ireturn, 1) := dc_at (f := decode cX12_built) dAX12_built_q0 42 rfl
theorem dX12_built_99 : decode cX12_built 99 = .ok (.aload_n 0, 1) := dc_at (f := decode cX12_built) dAX12_built_q0 43 rfl
theorem dX12_built_100 : decode cX12_built 100 = .ok (.getfield 191, 3) := dc_at (f := decode cX12_built) dAX12_built_q0 44 rfl
theorem dX12_built_103 : decode cX12_built 103 = .ok (.iload_n 1, 1) := dc_at (f := decode cX12_built) dAX12_built_q0 45 rfl
theorem dX12_built_104 : decode cX12_built 104 = .ok (.iaload, 1) := dc_at (f := decode cX12_built) dAX12_built_q0 46 rfl
theorem dX12_built_105 : decode cX12_built 105 = .ok (.ireturn, 1) := dc_at (f := decode cX12_built) dAX12_built_q0 47 rfl
def dPX12_built_q1 : List (Nat × (Jvm.ClassFile.Instr × Nat)) := [(106, (.aload_n 0, 1)), (107, (.getfield 194, 3)), (110, (.iload_n 1, 1)), (111, (.iaload, 1)), (112, (.ireturn, 1)), (113, (.iconst (-1), 1)), (114, (.ireturn, 1))]
theorem dAX12_built_q1 : ∀ x ∈ dPX12_built_q1, decode cX12_built x.1 = .ok x.2 := by decide +kernel
theorem dX12_built_106 : decode cX12_built 106 = .ok (.aload_n 0, 1) := dc_at (f := decode cX12_built) dAX12_built_q1 0 rfl
theorem dX12_built_107 : decode cX12_built 107 = .ok (.getfield 194, 3) := dc_at (f := decode cX12_built) dAX12_built_q1 1 rfl
theorem dX12_built_110 : decode cX12_built 110 = .ok (.iload_n 1, 1) := dc_at (f := decode cX12_built) dAX12_built_q1 2 rfl
theorem dX12_built_111 : decode cX12_built 111 = .ok (.iaload, 1) := dc_at (f := decode cX12_built) dAX12_built_q1 3 rfl
theorem dX12_built_112 : decode cX12_built 112 = .ok (.ireturn, 1) := dc_at (f := decode cX12_built) dAX12_built_q1 4 rfl
theorem dX12_built_113 : decode cX12_built 113 = .ok (.iconst (-1), 1) := dc_at (f := decode cX12_built) dAX12_built_q1 5 rfl
theorem dX12_built_114 : decode cX12_built 114 = .ok (.ireturn, 1) := dc_at (f := decode cX12_built) dAX12_built_q1 6 rfl
def dPX12_lapse_q0 : List (Nat × (Jvm.ClassFile.Instr × Nat)) := [(0, (.aload_n 0, 1)), (1, (.getfield 153, 3)), (4, (.iload_n 1, 1)), (5, (.baload, 1)), (6, (.ifCond .ne 17, 3)), (9, (.aload_n 0, 1)), (10, (.iload_n 1, 1)), (11, (.invokevirtual 279, 3)), (14, (.aload_n 0, 1)), (15, (.getfield 114, 3)), (18, (.iconst 4, 1)), (19, (.iaload, 1)), (20, (.if_icmp .ge 4, 3)), (23, (.return_, 1)), (24, (.aload_n 0, 1)), (25, (.getfield 153, 3)), (28, (.iload_n 1, 1)), (29, (.iconst 1, 1)), (30, (.bastore, 1)), (31, (.aload_n 0, 1)), (32, (.getfield 150, 3)), (35, (.iload_n 1, 1)), (36, (.iaload, 1)), (37, (.iconst (-1), 1)), (38, (.if_icmp .ne 13, 3)), (41, (.aload_n 0, 1)), (42, (.getfield 150, 3)), (45, (.iload_n 1, 1)), (46, (.aload_n 0, 1)), (47, (.getfield 230, 3)), (50, (.iastore, 1)), (51, (.iconst 0, 1)), (52, (.istore_n 2, 1)), (53, (.iload_n 2, 1)), (54, (.aload_n 0, 1)), (55, (.getfield 147, 3)), (58, (.iload_n 1, 1)), (59, (.iaload, 1)), (60, (.if_icmp .ge 61, 3)), (63, (.bipush 84, 2)), (65, (.iload_n 1, 1)), (66, (.imul, 1)), (67, (.iload_n 2, 1)), (68, (.iadd, 1)), (69, (.istore_n 3, 1)), (70, (.aload_n 0, 1)), (71, (.getfield 162, 3)), (74, (.iload_n 3, 1))]
theorem dAX12_lapse_q0 : ∀ x ∈ dPX12_lapse_q0, decode cX12_lapse x.1 = .ok x.2 := by decide +kernel
theorem dX12_lapse_0 : decode cX12_lapse 0 = .ok (.aload_n 0, 1) := dc_at (f := decode cX12_lapse) dAX12_lapse_q0 0 rfl
theorem dX12_lapse_1 : decode cX12_lapse 1 = .ok (.getfield 153, 3) := dc_at (f := decode cX12_lapse) dAX12_lapse_q0 1 rfl
theorem dX12_lapse_4 : decode cX12_lapse 4 = .ok (.iload_n 1, 1) := dc_at (f := decode cX12_lapse) dAX12_lapse_q0 2 rfl
theorem dX12_lapse_5 : decode cX12_lapse 5 = .ok (.baload, 1) := dc_at (f := decode cX12_lapse) dAX12_lapse_q0 3 rfl
theorem dX12_lapse_6 : decode cX12_lapse 6 = .ok (.ifCond .ne 17, 3) := dc_at (f := decode cX12_lapse) dAX12_lapse_q0 4 rfl
theorem dX12_lapse_9 : decode cX12_lapse 9 = .ok (.aload_n 0, 1) := dc_at (f := decode cX12_lapse) dAX12_lapse_q0 5 rfl
theorem dX12_lapse_10 : decode cX12_lapse 10 = .ok (.iload_n 1, 1) := dc_at (f := decode cX12_lapse) dAX12_lapse_q0 6 rfl
theorem dX12_lapse_11 : decode cX12_lapse 11 = .ok (.invokevirtual 279, 3) := dc_at (f := decode cX12_lapse) dAX12_lapse_q0 7 rfl
theorem dX12_lapse_14 : decode cX12_lapse 14 = .ok (.aload_n 0, 1) := dc_at (f := decode cX12_lapse) dAX12_lapse_q0 8 rfl
theorem dX12_lapse_15 : decode cX12_lapse 15 = .ok (.getfield 114, 3) := dc_at (f := decode cX12_lapse) dAX12_lapse_q0 9 rfl
theorem dX12_lapse_18 : decode cX12_lapse 18 = .ok (.iconst 4, 1) := dc_at (f := decode cX12_lapse) dAX12_lapse_q0 10 rfl
theorem dX12_lapse_19 : decode cX12_lapse 19 = .ok (.iaload, 1) := dc_at (f := decode cX12_lapse) dAX12_lapse_q0 11 rfl
theorem dX12_lapse_20 : decode cX12_lapse 20 = .ok (.if_icmp .ge 4, 3) := dc_at (f := decode cX12_lapse) dAX12_lapse_q0 12 rfl
theorem dX12_lapse_23 : decode cX12_lapse 23 = .ok (.return_, 1) := dc_at (f := decode cX12_lapse) dAX12_lapse_q0 13 rfl
theorem dX12_lapse_24 : decode cX12_lapse 24 = .ok (.aload_n 0, 1) := dc_at (f := decode cX12_lapse) dAX12_lapse_q0 14 rfl
theorem dX12_lapse_25 : decode cX12_lapse 25 = .ok (.getfield 153, 3) := dc_at (f := decode cX12_lapse) dAX12_lapse_q0 15 rfl
theorem dX12_lapse_28 : decode cX12_lapse 28 = .ok (.iload_n 1, 1) := dc_at (f := decode cX12_lapse) dAX12_lapse_q0 16 rfl
theorem dX12_lapse_29 : decode cX12_lapse 29 = .ok (.iconst 1, 1) := dc_at (f := decode cX12_lapse) dAX12_lapse_q0 17 rfl
theorem dX12_lapse_30 : decode cX12_lapse 30 = .ok (.bastore, 1) := dc_at (f := decode cX12_lapse) dAX12_lapse_q0 18 rfl
theorem dX12_lapse_31 : decode cX12_lapse 31 = .ok (.aload_n 0, 1) := dc_at (f := decode cX12_lapse) dAX12_lapse_q0 19 rfl
theorem dX12_lapse_32 : decode cX12_lapse 32 = .ok (.getfield 150, 3) := dc_at (f := decode cX12_lapse) dAX12_lapse_q0 20 rfl
theorem dX12_lapse_35 : decode cX12_lapse 35 = .ok (.iload_n 1, 1) := dc_at (f := decode cX12_lapse) dAX12_lapse_q0 21 rfl
theorem dX12_lapse_36 : decode cX12_lapse 36 = .ok (.iaload, 1) := dc_at (f := decode cX12_lapse) dAX12_lapse_q0 22 rfl
theorem dX12_lapse_37 : decode cX12_lapse 37 = .ok (.iconst (-1), 1) := dc_at (f := decode cX12_lapse) dAX12_lapse_q0 23 rfl
theorem dX12_lapse_38 : decode cX12_lapse 38 = .ok (.if_icmp .ne 13, 3) := dc_at (f := decode cX12_lapse) dAX12_lapse_q0 24 rfl
theorem dX12_lapse_41 : decode cX12_lapse 41 = .ok (.aload_n 0, 1) := dc_at (f := decode cX12_lapse) dAX12_lapse_q0 25 rfl
theorem dX12_lapse_42 : decode cX12_lapse 42 = .ok (.getfield 150, 3) := dc_at (f := decode cX12_lapse) dAX12_lapse_q0 26 rfl
theorem dX12_lapse_45 : decode cX12_lapse 45 = .ok (.iload_n 1, 1) := dc_at (f := decode cX12_lapse) dAX12_lapse_q0 27 rfl
theorem dX12_lapse_46 : decode cX12_lapse 46 = .ok (.aload_n 0, 1) := dc_at (f := decode cX12_lapse) dAX12_lapse_q0 28 rfl
theorem dX12_lapse_47 : decode cX12_lapse 47 = .ok (.getfield 230, 3) := dc_at (f := decode cX12_lapse) dAX12_lapse_q0 29 rfl
theorem dX12_lapse_50 : decode cX12_lapse 50 = .ok (.iastore, 1) := dc_at (f := decode cX12_lapse) dAX12_lapse_q0 30 rfl
theorem dX12_lapse_51 : decode cX12_lapse 51 = .ok (.iconst 0, 1) := dc_at (f := decode cX12_lapse) dAX12_lapse_q0 31 rfl
theorem dX12_lapse_52 : decode cX12_lapse 52 = .ok (.istore_n 2, 1) := dc_at (f := decode cX12_lapse) dAX12_lapse_q0 32 rfl
theorem dX12_lapse_53 : decode cX12_lapse 53 = .ok (.iload_n 2, 1) := dc_at (f := decode cX12_lapse) dAX12_lapse_q0 33 rfl
theorem dX12_lapse_54 : decode cX12_lapse 54 = .ok (.aload_n 0, 1) := dc_at (f := decode cX12_lapse) dAX12_lapse_q0 34 rfl
theorem dX12_lapse_55 : decode cX12_lapse 55 = .ok (.getfield 147, 3) := dc_at (f := decode cX12_lapse) dAX12_lapse_q0 35 rfl
theorem dX12_lapse_58 : decode cX12_lapse 58 = .ok (.iload_n 1, 1) := dc_at (f := decode cX12_lapse) dAX12_lapse_q0 36 rfl
theorem dX12_lapse_59 : decode cX12_lapse 59 = .ok (.iaload, 1) := dc_at (f := decode cX12_lapse) dAX12_lapse_q0 37 rfl
theorem dX12_lapse_60 : decode cX12_lapse 60 = .ok (.if_icmp .ge 61, 3) := dc_at (f := decode cX12_lapse) dAX12_lapse_q0 38 rfl
theorem dX12_lapse_63 : decode cX12_lapse 63 = .ok (.bipush 84, 2) := dc_at (f := decode cX12_lapse) dAX12_lapse_q0 39 rfl
theorem dX12_lapse_65 : decode cX12_lapse 65 = .ok (.iload_n 1, 1) := dc_at (f := decode cX12_lapse) dAX12_lapse_q0 40 rfl
theorem dX12_lapse_66 : decode cX12_lapse 66 = .ok (.imul, 1) := dc_at (f := decode cX12_lapse) dAX12_lapse_q0 41 rfl
theorem dX12_lapse_67 : decode cX12_lapse 67 = .ok (.iload_n 2, 1) := dc_at (f := decode cX12_lapse) dAX12_lapse_q0 42 rfl
theorem dX12_lapse_68 : decode cX12_lapse 68 = .ok (.iadd, 1) := dc_at (f := decode cX12_lapse) dAX12_lapse_q0 43 rfl
theorem dX12_lapse_69 : decode cX12_lapse 69 = .ok (.istore_n 3, 1) := dc_at (f := decode cX12_lapse) dAX12_lapse_q0 44 rfl
theorem dX12_lapse_70 : decode cX12_lapse 70 = .ok (.aload_n 0, 1) := dc_at (f := decode cX12_lapse) dAX12_lapse_q0 45 rfl
theorem dX12_lapse_71 : decode cX12_lapse 71 = .ok (.getfield 162, 3) := dc_at (f := decode cX12_lapse) dAX12_lapse_q0 46 rfl
theorem dX12_lapse_74 : decode cX12_lapse 74 = .ok (.iload_n 3, 1) := dc_at (f := decode cX12_lapse) dAX12_lapse_q0 47 rfl
def dPX12_lapse_q1 : List (Nat × (Jvm.ClassFile.Instr × Nat)) := [(75, (.iaload, 1)), (76, (.aload_n 0, 1)), (77, (.getfield 159, 3)), (80, (.iload_n 3, 1)), (81, (.iaload, 1)), (82, (.if_icmp .ne 6, 3)), (85, (.goto 30, 3)), (88, (.aload_n 0, 1)), (89, (.getfield 165, 3)), (92, (.iload_n 3, 1)), (93, (.iconst 0, 1)), (94, (.bastore, 1)), (95, (.aload_n 0, 1)), (96, (.iload_n 1, 1)), (97, (.iload_n 2, 1)), (98, (.invokevirtual 240, 3)), (101, (.aload_n 0, 1)), (102, (.getfield 230, 3)), (105, (.if_icmp .le 10, 3)), (108, (.aload_n 0, 1)), (109, (.getfield 168, 3)), (112, (.iload_n 3, 1)), (113, (.iconst 0, 1)), (114, (.bastore, 1)), (115, (.iinc 2 1, 3)), (118, (.goto (-65), 3)), (121, (.return_, 1))]
theorem dAX12_lapse_q1 : ∀ x ∈ dPX12_lapse_q1, decode cX12_lapse x.1 = .ok x.2 := by decide +kernel
theorem dX12_lapse_75 : decode cX12_lapse 75 = .ok (.iaload, 1) := dc_at (f := decode cX12_lapse) dAX12_lapse_q1 0 rfl
theorem dX12_lapse_76 : decode cX12_lapse 76 = .ok (.aload_n 0, 1) := dc_at (f := decode cX12_lapse) dAX12_lapse_q1 1 rfl
theorem dX12_lapse_77 : decode cX12_lapse 77 = .ok (.getfield 159, 3) := dc_at (f := decode cX12_lapse) dAX12_lapse_q1 2 rfl
theorem dX12_lapse_80 : decode cX12_lapse 80 = .ok (.iload_n 3, 1) := dc_at (f := decode cX12_lapse) dAX12_lapse_q1 3 rfl
theorem dX12_lapse_81 : decode cX12_lapse 81 = .ok (.iaload, 1) := dc_at (f := decode cX12_lapse) dAX12_lapse_q1 4 rfl
theorem dX12_lapse_82 : decode cX12_lapse 82 = .ok (.if_icmp .ne 6, 3) := dc_at (f := decode cX12_lapse) dAX12_lapse_q1 5 rfl
theorem dX12_lapse_85 : decode cX12_lapse 85 = .ok (.goto 30, 3) := dc_at (f := decode cX12_lapse) dAX12_lapse_q1 6 rfl
theorem dX12_lapse_88 : decode cX12_lapse 88 = .ok (.aload_n 0, 1) := dc_at (f := decode cX12_lapse) dAX12_lapse_q1 7 rfl
theorem dX12_lapse_89 : decode cX12_lapse 89 = .ok (.getfield 165, 3) := dc_at (f := decode cX12_lapse) dAX12_lapse_q1 8 rfl
theorem dX12_lapse_92 : decode cX12_lapse 92 = .ok (.iload_n 3, 1) := dc_at (f := decode cX12_lapse) dAX12_lapse_q1 9 rfl
theorem dX12_lapse_93 : decode cX12_lapse 93 = .ok (.iconst 0, 1) := dc_at (f := decode cX12_lapse) dAX12_lapse_q1 10 rfl
theorem dX12_lapse_94 : decode cX12_lapse 94 = .ok (.bastore, 1) := dc_at (f := decode cX12_lapse) dAX12_lapse_q1 11 rfl
theorem dX12_lapse_95 : decode cX12_lapse 95 = .ok (.aload_n 0, 1) := dc_at (f := decode cX12_lapse) dAX12_lapse_q1 12 rfl
theorem dX12_lapse_96 : decode cX12_lapse 96 = .ok (.iload_n 1, 1) := dc_at (f := decode cX12_lapse) dAX12_lapse_q1 13 rfl
theorem dX12_lapse_97 : decode cX12_lapse 97 = .ok (.iload_n 2, 1) := dc_at (f := decode cX12_lapse) dAX12_lapse_q1 14 rfl
theorem dX12_lapse_98 : decode cX12_lapse 98 = .ok (.invokevirtual 240, 3) := dc_at (f := decode cX12_lapse) dAX12_lapse_q1 15 rfl
theorem dX12_lapse_101 : decode cX12_lapse 101 = .ok (.aload_n 0, 1) := dc_at (f := decode cX12_lapse) dAX12_lapse_q1 16 rfl
theorem dX12_lapse_102 : decode cX12_lapse 102 = .ok (.getfield 230, 3) := dc_at (f := decode cX12_lapse) dAX12_lapse_q1 17 rfl
theorem dX12_lapse_105 : decode cX12_lapse 105 = .ok (.if_icmp .le 10, 3) := dc_at (f := decode cX12_lapse) dAX12_lapse_q1 18 rfl
theorem dX12_lapse_108 : decode cX12_lapse 108 = .ok (.aload_n 0, 1) := dc_at (f := decode cX12_lapse) dAX12_lapse_q1 19 rfl
theorem dX12_lapse_109 : decode cX12_lapse 109 = .ok (.getfield 168, 3) := dc_at (f := decode cX12_lapse) dAX12_lapse_q1 20 rfl
theorem dX12_lapse_112 : decode cX12_lapse 112 = .ok (.iload_n 3, 1) := dc_at (f := decode cX12_lapse) dAX12_lapse_q1 21 rfl
theorem dX12_lapse_113 : decode cX12_lapse 113 = .ok (.iconst 0, 1) := dc_at (f := decode cX12_lapse) dAX12_lapse_q1 22 rfl
theorem dX12_lapse_114 : decode cX12_lapse 114 = .ok (.bastore, 1) := dc_at (f := decode cX12_lapse) dAX12_lapse_q1 23 rfl
theorem dX12_lapse_115 : decode cX12_lapse 115 = .ok (.iinc 2 1, 3) := dc_at (f := decode cX12_lapse) dAX12_lapse_q1 24 rfl
theorem dX12_lapse_118 : decode cX12_lapse 118 = .ok (.goto (-65), 3) := dc_at (f := decode cX12_lapse) dAX12_lapse_q1 25 rfl
theorem dX12_lapse_121 : decode cX12_lapse 121 = .ok (.return_, 1) := dc_at (f := decode cX12_lapse) dAX12_lapse_q1 26 rfl
def dPX12_build_q0 : List (Nat × (Jvm.ClassFile.Instr × Nat)) := [(0, (.aload_n 0, 1)), (1, (.getfield 289, 3)), (4, (.iconst 1, 1)), (5, (.isub, 1)), (6, (.istore_n 1, 1)), (7, (.aload_n 0, 1)), (8, (.getfield 183, 3)), (11, (.iload_n 1, 1)), (12, (.iaload, 1)), (13, (.aload_n 0, 1)), (14, (.getfield 186, 3)), (17, (.iload_n 1, 1)), (18, (.iaload, 1)), (19, (.idiv, 1)), (20, (.istore_n 2, 1)), (21, (.aload_n 0, 1)), (22, (.getfield 188, 3)), (25, (.iload_n 1, 1)), (26, (.iaload, 1)), (27, (.aload_n 0, 1)), (28, (.getfield 186, 3)), (31, (.iload_n 1, 1)), (32, (.iaload, 1)), (33, (.iconst 1, 1)), (34, (.isub, 1)), (35, (.if_icmp .ne 21, 3)), (38, (.aload_n 0, 1)), (39, (.getfield 183, 3)), (42, (.iload_n 1, 1)), (43, (.iaload, 1)), (44, (.iload_n 2, 1)), (45, (.aload_n 0, 1)), (46, (.getfield 188, 3)), (49, (.iload_n 1, 1)), (50, (.iaload, 1)), (51, (.imul, 1)), (52, (.isub, 1)), (53, (.goto 4, 3)), (56, (.iload_n 2, 1)), (57, (.istore_n 3, 1)), (58, (.iconst 0, 1)), (59, (.bipush 100, 2)), (61, (.aload_n 0, 1)), (62, (.getfield 114, 3)), (65, (.iconst 5, 1)), (66, (.iaload, 1)), (67, (.imul, 1)), (68, (.aload_n 0, 1))]
theorem dAX12_build_q0 : ∀ x ∈ dPX12_build_q0, decode cX12_build x.1 = .ok x.2 := by decide +kernel
theorem dX12_build_0 : decode cX12_build 0 = .ok (.aload_n 0, 1) := dc_at (f := decode cX12_build) dAX12_build_q0 0 rfl
theorem dX12_build_1 : decode cX12_build 1 = .ok (.getfield 289, 3) := dc_at (f := decode cX12_build) dAX12_build_q0 1 rfl
theorem dX12_build_4 : decode cX12_build 4 = .ok (.iconst 1, 1) := dc_at (f := decode cX12_build) dAX12_build_q0 2 rfl
theorem dX12_build_5 : decode cX12_build 5 = .ok (.isub, 1) := dc_at (f := decode cX12_build) dAX12_build_q0 3 rfl
theorem dX12_build_6 : decode cX12_build 6 = .ok (.istore_n 1, 1) := dc_at (f := decode cX12_build) dAX12_build_q0 4 rfl
theorem dX12_build_7 : decode cX12_build 7 = .ok (.aload_n 0, 1) := dc_at (f := decode cX12_build) dAX12_build_q0 5 rfl
theorem dX12_build_8 : decode cX12_build 8 = .ok (.getfield 183, 3) := dc_at (f := decode cX12_build) dAX12_build_q0 6 rfl
theorem dX12_build_11 : decode cX12_build 11 = .ok (.iload_n 1, 1) := dc_at (f := decode cX12_build) dAX12_build_q0 7 rfl
theorem dX12_build_12 : decode cX12_build 12 = .ok (.iaload, 1) := dc_at (f := decode cX12_build) dAX12_build_q0 8 rfl
theorem dX12_build_13 : decode cX12_build 13 = .ok (.aload_n 0, 1) := dc_at (f := decode cX12_build) dAX12_build_q0 9 rfl
theorem dX12_build_14 : decode cX12_build 14 = .ok (.getfield 186, 3) := dc_at (f := decode cX12_build) dAX12_build_q0 10 rfl
theorem dX12_build_17 : decode cX12_build 17 = .ok (.iload_n 1, 1) := dc_at (f := decode cX12_build) dAX12_build_q0 11 rfl
theorem dX12_build_18 : decode cX12_build 18 = .ok (.iaload, 1) := dc_at (f := decode cX12_build) dAX12_build_q0 12 rfl
theorem dX12_build_19 : decode cX12_build 19 = .ok (.idiv, 1) := dc_at (f := decode cX12_build) dAX12_build_q0 13 rfl
theorem dX12_build_20 : decode cX12_build 20 = .ok (.istore_n 2, 1) := dc_at (f := decode cX12_build) dAX12_build_q0 14 rfl
theorem dX12_build_21 : decode cX12_build 21 = .ok (.aload_n 0, 1) := dc_at (f := decode cX12_build) dAX12_build_q0 15 rfl
theorem dX12_build_22 : decode cX12_build 22 = .ok (.getfield 188, 3) := dc_at (f := decode cX12_build) dAX12_build_q0 16 rfl
theorem dX12_build_25 : decode cX12_build 25 = .ok (.iload_n 1, 1) := dc_at (f := decode cX12_build) dAX12_build_q0 17 rfl
theorem dX12_build_26 : decode cX12_build 26 = .ok (.iaload, 1) := dc_at (f := decode cX12_build) dAX12_build_q0 18 rfl
theorem dX12_build_27 : decode cX12_build 27 = .ok (.aload_n 0, 1) := dc_at (f := decode cX12_build) dAX12_build_q0 19 rfl
theorem dX12_build_28 : decode cX12_build 28 = .ok (.getfield 186, 3) := dc_at (f := decode cX12_build) dAX12_build_q0 20 rfl
theorem dX12_build_31 : decode cX12_build 31 = .ok (.iload_n 1, 1) := dc_at (f := decode cX12_build) dAX12_build_q0 21 rfl
theorem dX12_build_32 : decode cX12_build 32 = .ok (.iaload, 1) := dc_at (f := decode cX12_build) dAX12_build_q0 22 rfl
theorem dX12_build_33 : decode cX12_build 33 = .ok (.iconst 1, 1) := dc_at (f := decode cX12_build) dAX12_build_q0 23 rfl
theorem dX12_build_34 : decode cX12_build 34 = .ok (.isub, 1) := dc_at (f := decode cX12_build) dAX12_build_q0 24 rfl
theorem dX12_build_35 : decode cX12_build 35 = .ok (.if_icmp .ne 21, 3) := dc_at (f := decode cX12_build) dAX12_build_q0 25 rfl
theorem dX12_build_38 : decode cX12_build 38 = .ok (.aload_n 0, 1) := dc_at (f := decode cX12_build) dAX12_build_q0 26 rfl
theorem dX12_build_39 : decode cX12_build 39 = .ok (.getfield 183, 3) := dc_at (f := decode cX12_build) dAX12_build_q0 27 rfl
theorem dX12_build_42 : decode cX12_build 42 = .ok (.iload_n 1, 1) := dc_at (f := decode cX12_build) dAX12_build_q0 28 rfl
theorem dX12_build_43 : decode cX12_build 43 = .ok (.iaload, 1) := dc_at (f := decode cX12_build) dAX12_build_q0 29 rfl
theorem dX12_build_44 : decode cX12_build 44 = .ok (.iload_n 2, 1) := dc_at (f := decode cX12_build) dAX12_build_q0 30 rfl
theorem dX12_build_45 : decode cX12_build 45 = .ok (.aload_n 0, 1) := dc_at (f := decode cX12_build) dAX12_build_q0 31 rfl
theorem dX12_build_46 : decode cX12_build 46 = .ok (.getfield 188, 3) := dc_at (f := decode cX12_build) dAX12_build_q0 32 rfl
theorem dX12_build_49 : decode cX12_build 49 = .ok (.iload_n 1, 1) := dc_at (f := decode cX12_build) dAX12_build_q0 33 rfl
theorem dX12_build_50 : decode cX12_build 50 = .ok (.iaload, 1) := dc_at (f := decode cX12_build) dAX12_build_q0 34 rfl
theorem dX12_build_51 : decode cX12_build 51 = .ok (.imul, 1) := dc_at (f := decode cX12_build) dAX12_build_q0 35 rfl
theorem dX12_build_52 : decode cX12_build 52 = .ok (.isub, 1) := dc_at (f := decode cX12_build) dAX12_build_q0 36 rfl
theorem dX12_build_53 : decode cX12_build 53 = .ok (.goto 4, 3) := dc_at (f := decode cX12_build) dAX12_build_q0 37 rfl
theorem dX12_build_56 : decode cX12_build 56 = .ok (.iload_n 2, 1) := dc_at (f := decode cX12_build) dAX12_build_q0 38 rfl
theorem dX12_build_57 : decode cX12_build 57 = .ok (.istore_n 3, 1) := dc_at (f := decode cX12_build) dAX12_build_q0 39 rfl
theorem dX12_build_58 : decode cX12_build 58 = .ok (.iconst 0, 1) := dc_at (f := decode cX12_build) dAX12_build_q0 40 rfl
theorem dX12_build_59 : decode cX12_build 59 = .ok (.bipush 100, 2) := dc_at (f := decode cX12_build) dAX12_build_q0 41 rfl
theorem dX12_build_61 : decode cX12_build 61 = .ok (.aload_n 0, 1) := dc_at (f := decode cX12_build) dAX12_build_q0 42 rfl
theorem dX12_build_62 : decode cX12_build 62 = .ok (.getfield 114, 3) := dc_at (f := decode cX12_build) dAX12_build_q0 43 rfl
theorem dX12_build_65 : decode cX12_build 65 = .ok (.iconst 5, 1) := dc_at (f := decode cX12_build) dAX12_build_q0 44 rfl
theorem dX12_build_66 : decode cX12_build 66 = .ok (.iaload, 1) := dc_at (f := decode cX12_build) dAX12_build_q0 45 rfl
theorem dX12_build_67 : decode cX12_build 67 = .ok (.imul, 1) := dc_at (f := decode cX12_build) dAX12_build_q0 46 rfl
theorem dX12_build_68 : decode cX12_build 68 = .ok (.aload_n 0, 1) := dc_at (f := decode cX12_build) dAX12_build_q0 47 rfl
def dPX12_build_q1 : List (Nat × (Jvm.ClassFile.Instr × Nat)) := [(69, (.getfield 296, 3)), (72, (.isub, 1)), (73, (.invokestatic 259, 3)), (76, (.istore 4, 2)), (78, (.aload_n 0, 1)), (79, (.getfield 262, 3)), (82, (.i2l, 1)), (83, (.iload 4, 2)), (85, (.i2l, 1)), (86, (.ladd, 1)), (87, (.iload_n 3, 1)), (88, (.i2l, 1)), (89, (.lcmp, 1)), (90, (.ifCond .ge 14, 3)), (93, (.aload_n 0, 1)), (94, (.getfield 194, 3)), (97, (.iload_n 1, 1)), (98, (.dup2, 1)), (99, (.iaload, 1)), (100, (.iconst 1, 1)), (101, (.iadd, 1)), (102, (.iastore, 1)), (103, (.return_, 1)), (104, (.aload_n 0, 1)), (105, (.getfield 262, 3)), (108, (.iload_n 3, 1)), (109, (.invokestatic 254, 3)), (112, (.istore 5, 2)), (114, (.aload_n 0, 1)), (115, (.dup, 1)), (116, (.getfield 262, 3)), (119, (.iload 5, 2)), (121, (.isub, 1)), (122, (.putfield 262, 3)), (125, (.aload_n 0, 1)), (126, (.dup, 1)), (127, (.getfield 296, 3)), (130, (.iload_n 3, 1)), (131, (.iload 5, 2)), (133, (.isub, 1)), (134, (.iadd, 1)), (135, (.putfield 296, 3)), (138, (.aload_n 0, 1)), (139, (.dup, 1)), (140, (.getfield 298, 3)), (143, (.iload_n 3, 1)), (144, (.iadd, 1)), (145, (.putfield 298, 3))]
theorem dAX12_build_q1 : ∀ x ∈ dPX12_build_q1, decode cX12_build x.1 = .ok x.2 := by decide +kernel
theorem dX12_build_69 : decode cX12_build 69 = .ok (.getfield 296, 3) := dc_at (f := decode cX12_build) dAX12_build_q1 0 rfl
theorem dX12_build_72 : decode cX12_build 72 = .ok (.isub, 1) := dc_at (f := decode cX12_build) dAX12_build_q1 1 rfl
theorem dX12_build_73 : decode cX12_build 73 = .ok (.invokestatic 259, 3) := dc_at (f := decode cX12_build) dAX12_build_q1 2 rfl
theorem dX12_build_76 : decode cX12_build 76 = .ok (.istore 4, 2) := dc_at (f := decode cX12_build) dAX12_build_q1 3 rfl
theorem dX12_build_78 : decode cX12_build 78 = .ok (.aload_n 0, 1) := dc_at (f := decode cX12_build) dAX12_build_q1 4 rfl
theorem dX12_build_79 : decode cX12_build 79 = .ok (.getfield 262, 3) := dc_at (f := decode cX12_build) dAX12_build_q1 5 rfl
theorem dX12_build_82 : decode cX12_build 82 = .ok (.i2l, 1) := dc_at (f := decode cX12_build) dAX12_build_q1 6 rfl
theorem dX12_build_83 : decode cX12_build 83 = .ok (.iload 4, 2) := dc_at (f := decode cX12_build) dAX12_build_q1 7 rfl
theorem dX12_build_85 : decode cX12_build 85 = .ok (.i2l, 1) := dc_at (f := decode cX12_build) dAX12_build_q1 8 rfl
theorem dX12_build_86 : decode cX12_build 86 = .ok (.ladd, 1) := dc_at (f := decode cX12_build) dAX12_build_q1 9 rfl
theorem dX12_build_87 : decode cX12_build 87 = .ok (.iload_n 3, 1) := dc_at (f := decode cX12_build) dAX12_build_q1 10 rfl
theorem dX12_build_88 : decode cX12_build 88 = .ok (.i2l, 1) := dc_at (f := decode cX12_build) dAX12_build_q1 11 rfl
theorem dX12_build_89 : decode cX12_build 89 = .ok (.lcmp, 1) := dc_at (f := decode cX12_build) dAX12_build_q1 12 rfl
theorem dX12_build_90 : decode cX12_build 90 = .ok (.ifCond .ge 14, 3) := dc_at (f := decode cX12_build) dAX12_build_q1 13 rfl
theorem dX12_build_93 : decode cX12_build 93 = .ok (.aload_n 0, 1) := dc_at (f := decode cX12_build) dAX12_build_q1 14 rfl
theorem dX12_build_94 : decode cX12_build 94 = .ok (.getfield 194, 3) := dc_at (f := decode cX12_build) dAX12_build_q1 15 rfl
theorem dX12_build_97 : decode cX12_build 97 = .ok (.iload_n 1, 1) := dc_at (f := decode cX12_build) dAX12_build_q1 16 rfl
theorem dX12_build_98 : decode cX12_build 98 = .ok (.dup2, 1) := dc_at (f := decode cX12_build) dAX12_build_q1 17 rfl
theorem dX12_build_99 : decode cX12_build 99 = .ok (.iaload, 1) := dc_at (f := decode cX12_build) dAX12_build_q1 18 rfl
theorem dX12_build_100 : decode cX12_build 100 = .ok (.iconst 1, 1) := dc_at (f := decode cX12_build) dAX12_build_q1 19 rfl
theorem dX12_build_101 : decode cX12_build 101 = .ok (.iadd, 1) := dc_at (f := decode cX12_build) dAX12_build_q1 20 rfl
theorem dX12_build_102 : decode cX12_build 102 = .ok (.iastore, 1) := dc_at (f := decode cX12_build) dAX12_build_q1 21 rfl
theorem dX12_build_103 : decode cX12_build 103 = .ok (.return_, 1) := dc_at (f := decode cX12_build) dAX12_build_q1 22 rfl
theorem dX12_build_104 : decode cX12_build 104 = .ok (.aload_n 0, 1) := dc_at (f := decode cX12_build) dAX12_build_q1 23 rfl
theorem dX12_build_105 : decode cX12_build 105 = .ok (.getfield 262, 3) := dc_at (f := decode cX12_build) dAX12_build_q1 24 rfl
theorem dX12_build_108 : decode cX12_build 108 = .ok (.iload_n 3, 1) := dc_at (f := decode cX12_build) dAX12_build_q1 25 rfl
theorem dX12_build_109 : decode cX12_build 109 = .ok (.invokestatic 254, 3) := dc_at (f := decode cX12_build) dAX12_build_q1 26 rfl
theorem dX12_build_112 : decode cX12_build 112 = .ok (.istore 5, 2) := dc_at (f := decode cX12_build) dAX12_build_q1 27 rfl
theorem dX12_build_114 : decode cX12_build 114 = .ok (.aload_n 0, 1) := dc_at (f := decode cX12_build) dAX12_build_q1 28 rfl
theorem dX12_build_115 : decode cX12_build 115 = .ok (.dup, 1) := dc_at (f := decode cX12_build) dAX12_build_q1 29 rfl
theorem dX12_build_116 : decode cX12_build 116 = .ok (.getfield 262, 3) := dc_at (f := decode cX12_build) dAX12_build_q1 30 rfl
theorem dX12_build_119 : decode cX12_build 119 = .ok (.iload 5, 2) := dc_at (f := decode cX12_build) dAX12_build_q1 31 rfl
theorem dX12_build_121 : decode cX12_build 121 = .ok (.isub, 1) := dc_at (f := decode cX12_build) dAX12_build_q1 32 rfl
theorem dX12_build_122 : decode cX12_build 122 = .ok (.putfield 262, 3) := dc_at (f := decode cX12_build) dAX12_build_q1 33 rfl
theorem dX12_build_125 : decode cX12_build 125 = .ok (.aload_n 0, 1) := dc_at (f := decode cX12_build) dAX12_build_q1 34 rfl
theorem dX12_build_126 : decode cX12_build 126 = .ok (.dup, 1) := dc_at (f := decode cX12_build) dAX12_build_q1 35 rfl
theorem dX12_build_127 : decode cX12_build 127 = .ok (.getfield 296, 3) := dc_at (f := decode cX12_build) dAX12_build_q1 36 rfl
theorem dX12_build_130 : decode cX12_build 130 = .ok (.iload_n 3, 1) := dc_at (f := decode cX12_build) dAX12_build_q1 37 rfl
theorem dX12_build_131 : decode cX12_build 131 = .ok (.iload 5, 2) := dc_at (f := decode cX12_build) dAX12_build_q1 38 rfl
theorem dX12_build_133 : decode cX12_build 133 = .ok (.isub, 1) := dc_at (f := decode cX12_build) dAX12_build_q1 39 rfl
theorem dX12_build_134 : decode cX12_build 134 = .ok (.iadd, 1) := dc_at (f := decode cX12_build) dAX12_build_q1 40 rfl
theorem dX12_build_135 : decode cX12_build 135 = .ok (.putfield 296, 3) := dc_at (f := decode cX12_build) dAX12_build_q1 41 rfl
theorem dX12_build_138 : decode cX12_build 138 = .ok (.aload_n 0, 1) := dc_at (f := decode cX12_build) dAX12_build_q1 42 rfl
theorem dX12_build_139 : decode cX12_build 139 = .ok (.dup, 1) := dc_at (f := decode cX12_build) dAX12_build_q1 43 rfl
theorem dX12_build_140 : decode cX12_build 140 = .ok (.getfield 298, 3) := dc_at (f := decode cX12_build) dAX12_build_q1 44 rfl
theorem dX12_build_143 : decode cX12_build 143 = .ok (.iload_n 3, 1) := dc_at (f := decode cX12_build) dAX12_build_q1 45 rfl
theorem dX12_build_144 : decode cX12_build 144 = .ok (.iadd, 1) := dc_at (f := decode cX12_build) dAX12_build_q1 46 rfl
theorem dX12_build_145 : decode cX12_build 145 = .ok (.putfield 298, 3) := dc_at (f := decode cX12_build) dAX12_build_q1 47 rfl
def dPX12_build_q2 : List (Nat × (Jvm.ClassFile.Instr × Nat)) := [(148, (.aload_n 0, 1)), (149, (.getfield 191, 3)), (152, (.iload_n 1, 1)), (153, (.dup2, 1)), (154, (.iaload, 1)), (155, (.iload_n 3, 1)), (156, (.iadd, 1)), (157, (.iastore, 1)), (158, (.aload_n 0, 1)), (159, (.getfield 188, 3)), (162, (.iload_n 1, 1)), (163, (.dup2, 1)), (164, (.iaload, 1)), (165, (.iconst 1, 1)), (166, (.iadd, 1)), (167, (.iastore, 1)), (168, (.return_, 1))]
theorem dAX12_build_q2 : ∀ x ∈ dPX12_build_q2, decode cX12_build x.1 = .ok x.2 := by decide +kernel
theorem dX12_build_148 : decode cX12_build 148 = .ok (.aload_n 0, 1) := dc_at (f := decode cX12_build) dAX12_build_q2 0 rfl
theorem dX12_build_149 : decode cX12_build 149 = .ok (.getfield 191, 3) := dc_at (f := decode cX12_build) dAX12_build_q2 1 rfl
theorem dX12_build_152 : decode cX12_build 152 = .ok (.iload_n 1, 1) := dc_at (f := decode cX12_build) dAX12_build_q2 2 rfl
theorem dX12_build_153 : decode cX12_build 153 = .ok (.dup2, 1) := dc_at (f := decode cX12_build) dAX12_build_q2 3 rfl
theorem dX12_build_154 : decode cX12_build 154 = .ok (.iaload, 1) := dc_at (f := decode cX12_build) dAX12_build_q2 4 rfl
theorem dX12_build_155 : decode cX12_build 155 = .ok (.iload_n 3, 1) := dc_at (f := decode cX12_build) dAX12_build_q2 5 rfl
theorem dX12_build_156 : decode cX12_build 156 = .ok (.iadd, 1) := dc_at (f := decode cX12_build) dAX12_build_q2 6 rfl
theorem dX12_build_157 : decode cX12_build 157 = .ok (.iastore, 1) := dc_at (f := decode cX12_build) dAX12_build_q2 7 rfl
theorem dX12_build_158 : decode cX12_build 158 = .ok (.aload_n 0, 1) := dc_at (f := decode cX12_build) dAX12_build_q2 8 rfl
theorem dX12_build_159 : decode cX12_build 159 = .ok (.getfield 188, 3) := dc_at (f := decode cX12_build) dAX12_build_q2 9 rfl
theorem dX12_build_162 : decode cX12_build 162 = .ok (.iload_n 1, 1) := dc_at (f := decode cX12_build) dAX12_build_q2 10 rfl
theorem dX12_build_163 : decode cX12_build 163 = .ok (.dup2, 1) := dc_at (f := decode cX12_build) dAX12_build_q2 11 rfl
theorem dX12_build_164 : decode cX12_build 164 = .ok (.iaload, 1) := dc_at (f := decode cX12_build) dAX12_build_q2 12 rfl
theorem dX12_build_165 : decode cX12_build 165 = .ok (.iconst 1, 1) := dc_at (f := decode cX12_build) dAX12_build_q2 13 rfl
theorem dX12_build_166 : decode cX12_build 166 = .ok (.iadd, 1) := dc_at (f := decode cX12_build) dAX12_build_q2 14 rfl
theorem dX12_build_167 : decode cX12_build 167 = .ok (.iastore, 1) := dc_at (f := decode cX12_build) dAX12_build_q2 15 rfl
theorem dX12_build_168 : decode cX12_build 168 = .ok (.return_, 1) := dc_at (f := decode cX12_build) dAX12_build_q2 16 rfl
def dPX12_endMonth_q0 : List (Nat × (Jvm.ClassFile.Instr × Nat)) := [(0, (.iconst 0, 1)), (1, (.istore_n 1, 1)), (2, (.iload_n 1, 1)), (3, (.aload_n 0, 1)), (4, (.getfield 237, 3)), (7, (.if_icmp .ge 14, 3)), (10, (.aload_n 0, 1)), (11, (.iload_n 1, 1)), (12, (.invokevirtual 301, 3)), (15, (.iinc 1 1, 3)), (18, (.goto (-16), 3)), (21, (.aload_n 0, 1)), (22, (.getfield 296, 3)), (25, (.i2l, 1)), (26, (.aload_n 0, 1)), (27, (.getfield 114, 3)), (30, (.bipush 6, 2)), (32, (.iaload, 1)), (33, (.i2l, 1)), (34, (.lmul, 1)), (35, (.ldc2_w 303, 3)), (38, (.ldiv, 1)), (39, (.l2i, 1)), (40, (.istore_n 1, 1)), (41, (.aload_n 0, 1)), (42, (.dup, 1)), (43, (.getfield 296, 3)), (46, (.iload_n 1, 1)), (47, (.iadd, 1)), (48, (.putfield 296, 3)), (51, (.aload_n 0, 1)), (52, (.dup, 1)), (53, (.getfield 305, 3)), (56, (.iload_n 1, 1)), (57, (.iadd, 1)), (58, (.putfield 305, 3)), (61, (.aload_n 0, 1)), (62, (.invokevirtual 292, 3)), (65, (.ifCond .eq 7, 3)), (68, (.aload_n 0, 1)), (69, (.invokevirtual 308, 3)), (72, (.aload_n 0, 1)), (73, (.getfield 262, 3)), (76, (.aload_n 0, 1)), (77, (.getfield 296, 3)), (80, (.invokestatic 254, 3)), (83, (.istore_n 2, 1)), (84, (.aload_n 0, 1))]
theorem dAX12_endMonth_q0 : ∀ x ∈ dPX12_endMonth_q0, decode cX12_endMonth x.1 = .ok x.2 := by decide +kernel
theorem dX12_endMonth_0 : decode cX12_endMonth 0 = .ok (.iconst 0, 1) := dc_at (f := decode cX12_endMonth) dAX12_endMonth_q0 0 rfl
theorem dX12_endMonth_1 : decode cX12_endMonth 1 = .ok (.istore_n 1, 1) := dc_at (f := decode cX12_endMonth) dAX12_endMonth_q0 1 rfl
theorem dX12_endMonth_2 : decode cX12_endMonth 2 = .ok (.iload_n 1, 1) := dc_at (f := decode cX12_endMonth) dAX12_endMonth_q0 2 rfl
theorem dX12_endMonth_3 : decode cX12_endMonth 3 = .ok (.aload_n 0, 1) := dc_at (f := decode cX12_endMonth) dAX12_endMonth_q0 3 rfl
theorem dX12_endMonth_4 : decode cX12_endMonth 4 = .ok (.getfield 237, 3) := dc_at (f := decode cX12_endMonth) dAX12_endMonth_q0 4 rfl
theorem dX12_endMonth_7 : decode cX12_endMonth 7 = .ok (.if_icmp .ge 14, 3) := dc_at (f := decode cX12_endMonth) dAX12_endMonth_q0 5 rfl
theorem dX12_endMonth_10 : decode cX12_endMonth 10 = .ok (.aload_n 0, 1) := dc_at (f := decode cX12_endMonth) dAX12_endMonth_q0 6 rfl
theorem dX12_endMonth_11 : decode cX12_endMonth 11 = .ok (.iload_n 1, 1) := dc_at (f := decode cX12_endMonth) dAX12_endMonth_q0 7 rfl
theorem dX12_endMonth_12 : decode cX12_endMonth 12 = .ok (.invokevirtual 301, 3) := dc_at (f := decode cX12_endMonth) dAX12_endMonth_q0 8 rfl
theorem dX12_endMonth_15 : decode cX12_endMonth 15 = .ok (.iinc 1 1, 3) := dc_at (f := decode cX12_endMonth) dAX12_endMonth_q0 9 rfl
theorem dX12_endMonth_18 : decode cX12_endMonth 18 = .ok (.goto (-16), 3) := dc_at (f := decode cX12_endMonth) dAX12_endMonth_q0 10 rfl
theorem dX12_endMonth_21 : decode cX12_endMonth 21 = .ok (.aload_n 0, 1) := dc_at (f := decode cX12_endMonth) dAX12_endMonth_q0 11 rfl
theorem dX12_endMonth_22 : decode cX12_endMonth 22 = .ok (.getfield 296, 3) := dc_at (f := decode cX12_endMonth) dAX12_endMonth_q0 12 rfl
theorem dX12_endMonth_25 : decode cX12_endMonth 25 = .ok (.i2l, 1) := dc_at (f := decode cX12_endMonth) dAX12_endMonth_q0 13 rfl
theorem dX12_endMonth_26 : decode cX12_endMonth 26 = .ok (.aload_n 0, 1) := dc_at (f := decode cX12_endMonth) dAX12_endMonth_q0 14 rfl
theorem dX12_endMonth_27 : decode cX12_endMonth 27 = .ok (.getfield 114, 3) := dc_at (f := decode cX12_endMonth) dAX12_endMonth_q0 15 rfl
theorem dX12_endMonth_30 : decode cX12_endMonth 30 = .ok (.bipush 6, 2) := dc_at (f := decode cX12_endMonth) dAX12_endMonth_q0 16 rfl
theorem dX12_endMonth_32 : decode cX12_endMonth 32 = .ok (.iaload, 1) := dc_at (f := decode cX12_endMonth) dAX12_endMonth_q0 17 rfl
theorem dX12_endMonth_33 : decode cX12_endMonth 33 = .ok (.i2l, 1) := dc_at (f := decode cX12_endMonth) dAX12_endMonth_q0 18 rfl
theorem dX12_endMonth_34 : decode cX12_endMonth 34 = .ok (.lmul, 1) := dc_at (f := decode cX12_endMonth) dAX12_endMonth_q0 19 rfl
theorem dX12_endMonth_35 : decode cX12_endMonth 35 = .ok (.ldc2_w 303, 3) := dc_at (f := decode cX12_endMonth) dAX12_endMonth_q0 20 rfl
theorem dX12_endMonth_38 : decode cX12_endMonth 38 = .ok (.ldiv, 1) := dc_at (f := decode cX12_endMonth) dAX12_endMonth_q0 21 rfl
theorem dX12_endMonth_39 : decode cX12_endMonth 39 = .ok (.l2i, 1) := dc_at (f := decode cX12_endMonth) dAX12_endMonth_q0 22 rfl
theorem dX12_endMonth_40 : decode cX12_endMonth 40 = .ok (.istore_n 1, 1) := dc_at (f := decode cX12_endMonth) dAX12_endMonth_q0 23 rfl
theorem dX12_endMonth_41 : decode cX12_endMonth 41 = .ok (.aload_n 0, 1) := dc_at (f := decode cX12_endMonth) dAX12_endMonth_q0 24 rfl
theorem dX12_endMonth_42 : decode cX12_endMonth 42 = .ok (.dup, 1) := dc_at (f := decode cX12_endMonth) dAX12_endMonth_q0 25 rfl
theorem dX12_endMonth_43 : decode cX12_endMonth 43 = .ok (.getfield 296, 3) := dc_at (f := decode cX12_endMonth) dAX12_endMonth_q0 26 rfl
theorem dX12_endMonth_46 : decode cX12_endMonth 46 = .ok (.iload_n 1, 1) := dc_at (f := decode cX12_endMonth) dAX12_endMonth_q0 27 rfl
theorem dX12_endMonth_47 : decode cX12_endMonth 47 = .ok (.iadd, 1) := dc_at (f := decode cX12_endMonth) dAX12_endMonth_q0 28 rfl
theorem dX12_endMonth_48 : decode cX12_endMonth 48 = .ok (.putfield 296, 3) := dc_at (f := decode cX12_endMonth) dAX12_endMonth_q0 29 rfl
theorem dX12_endMonth_51 : decode cX12_endMonth 51 = .ok (.aload_n 0, 1) := dc_at (f := decode cX12_endMonth) dAX12_endMonth_q0 30 rfl
theorem dX12_endMonth_52 : decode cX12_endMonth 52 = .ok (.dup, 1) := dc_at (f := decode cX12_endMonth) dAX12_endMonth_q0 31 rfl
theorem dX12_endMonth_53 : decode cX12_endMonth 53 = .ok (.getfield 305, 3) := dc_at (f := decode cX12_endMonth) dAX12_endMonth_q0 32 rfl
theorem dX12_endMonth_56 : decode cX12_endMonth 56 = .ok (.iload_n 1, 1) := dc_at (f := decode cX12_endMonth) dAX12_endMonth_q0 33 rfl
theorem dX12_endMonth_57 : decode cX12_endMonth 57 = .ok (.iadd, 1) := dc_at (f := decode cX12_endMonth) dAX12_endMonth_q0 34 rfl
theorem dX12_endMonth_58 : decode cX12_endMonth 58 = .ok (.putfield 305, 3) := dc_at (f := decode cX12_endMonth) dAX12_endMonth_q0 35 rfl
theorem dX12_endMonth_61 : decode cX12_endMonth 61 = .ok (.aload_n 0, 1) := dc_at (f := decode cX12_endMonth) dAX12_endMonth_q0 36 rfl
theorem dX12_endMonth_62 : decode cX12_endMonth 62 = .ok (.invokevirtual 292, 3) := dc_at (f := decode cX12_endMonth) dAX12_endMonth_q0 37 rfl
theorem dX12_endMonth_65 : decode cX12_endMonth 65 = .ok (.ifCond .eq 7, 3) := dc_at (f := decode cX12_endMonth) dAX12_endMonth_q0 38 rfl
theorem dX12_endMonth_68 : decode cX12_endMonth 68 = .ok (.aload_n 0, 1) := dc_at (f := decode cX12_endMonth) dAX12_endMonth_q0 39 rfl
theorem dX12_endMonth_69 : decode cX12_endMonth 69 = .ok (.invokevirtual 308, 3) := dc_at (f := decode cX12_endMonth) dAX12_endMonth_q0 40 rfl
theorem dX12_endMonth_72 : decode cX12_endMonth 72 = .ok (.aload_n 0, 1) := dc_at (f := decode cX12_endMonth) dAX12_endMonth_q0 41 rfl
theorem dX12_endMonth_73 : decode cX12_endMonth 73 = .ok (.getfield 262, 3) := dc_at (f := decode cX12_endMonth) dAX12_endMonth_q0 42 rfl
theorem dX12_endMonth_76 : decode cX12_endMonth 76 = .ok (.aload_n 0, 1) := dc_at (f := decode cX12_endMonth) dAX12_endMonth_q0 43 rfl
theorem dX12_endMonth_77 : decode cX12_endMonth 77 = .ok (.getfield 296, 3) := dc_at (f := decode cX12_endMonth) dAX12_endMonth_q0 44 rfl
theorem dX12_endMonth_80 : decode cX12_endMonth 80 = .ok (.invokestatic 254, 3) := dc_at (f := decode cX12_endMonth) dAX12_endMonth_q0 45 rfl
theorem dX12_endMonth_83 : decode cX12_endMonth 83 = .ok (.istore_n 2, 1) := dc_at (f := decode cX12_endMonth) dAX12_endMonth_q0 46 rfl
theorem dX12_endMonth_84 : decode cX12_endMonth 84 = .ok (.aload_n 0, 1) := dc_at (f := decode cX12_endMonth) dAX12_endMonth_q0 47 rfl
def dPX12_endMonth_q1 : List (Nat × (Jvm.ClassFile.Instr × Nat)) := [(85, (.dup, 1)), (86, (.getfield 262, 3)), (89, (.iload_n 2, 1)), (90, (.isub, 1)), (91, (.putfield 262, 3)), (94, (.aload_n 0, 1)), (95, (.dup, 1)), (96, (.getfield 296, 3)), (99, (.iload_n 2, 1)), (100, (.isub, 1)), (101, (.putfield 296, 3)), (104, (.aload_n 0, 1)), (105, (.dup, 1)), (106, (.getfield 230, 3)), (109, (.iconst 1, 1)), (110, (.iadd, 1)), (111, (.putfield 230, 3)), (114, (.return_, 1))]
theorem dAX12_endMonth_q1 : ∀ x ∈ dPX12_endMonth_q1, decode cX12_endMonth x.1 = .ok x.2 := by decide +kernel
theorem dX12_endMonth_85 : decode cX12_endMonth 85 = .ok (.dup, 1) := dc_at (f := decode cX12_endMonth) dAX12_endMonth_q1 0 rfl
theorem dX12_endMonth_86 : decode cX12_endMonth 86 = .ok (.getfield 262, 3) := dc_at (f := decode cX12_endMonth) dAX12_endMonth_q1 1 rfl
theorem dX12_endMonth_89 : decode cX12_endMonth 89 = .ok (.iload_n 2, 1) := dc_at (f := decode cX12_endMonth) dAX12_endMonth_q1 2 rfl
theorem dX12_endMonth_90 : decode cX12_endMonth 90 = .ok (.isub, 1) := dc_at (f := decode cX12_endMonth) dAX12_endMonth_q1 3 rfl
theorem dX12_endMonth_91 : decode cX12_endMonth 91 = .ok (.putfield 262, 3) := dc_at (f := decode cX12_endMonth) dAX12_endMonth_q1 4 rfl
theorem dX12_endMonth_94 : decode cX12_endMonth 94 = .ok (.aload_n 0, 1) := dc_at (f := decode cX12_endMonth) dAX12_endMonth_q1 5 rfl
theorem dX12_endMonth_95 : decode cX12_endMonth 95 = .ok (.dup, 1) := dc_at (f := decode cX12_endMonth) dAX12_endMonth_q1 6 rfl
theorem dX12_endMonth_96 : decode cX12_endMonth 96 = .ok (.getfield 296, 3) := dc_at (f := decode cX12_endMonth) dAX12_endMonth_q1 7 rfl
theorem dX12_endMonth_99 : decode cX12_endMonth 99 = .ok (.iload_n 2, 1) := dc_at (f := decode cX12_endMonth) dAX12_endMonth_q1 8 rfl
theorem dX12_endMonth_100 : decode cX12_endMonth 100 = .ok (.isub, 1) := dc_at (f := decode cX12_endMonth) dAX12_endMonth_q1 9 rfl
theorem dX12_endMonth_101 : decode cX12_endMonth 101 = .ok (.putfield 296, 3) := dc_at (f := decode cX12_endMonth) dAX12_endMonth_q1 10 rfl
theorem dX12_endMonth_104 : decode cX12_endMonth 104 = .ok (.aload_n 0, 1) := dc_at (f := decode cX12_endMonth) dAX12_endMonth_q1 11 rfl
theorem dX12_endMonth_105 : decode cX12_endMonth 105 = .ok (.dup, 1) := dc_at (f := decode cX12_endMonth) dAX12_endMonth_q1 12 rfl
theorem dX12_endMonth_106 : decode cX12_endMonth 106 = .ok (.getfield 230, 3) := dc_at (f := decode cX12_endMonth) dAX12_endMonth_q1 13 rfl
theorem dX12_endMonth_109 : decode cX12_endMonth 109 = .ok (.iconst 1, 1) := dc_at (f := decode cX12_endMonth) dAX12_endMonth_q1 14 rfl
theorem dX12_endMonth_110 : decode cX12_endMonth 110 = .ok (.iadd, 1) := dc_at (f := decode cX12_endMonth) dAX12_endMonth_q1 15 rfl
theorem dX12_endMonth_111 : decode cX12_endMonth 111 = .ok (.putfield 230, 3) := dc_at (f := decode cX12_endMonth) dAX12_endMonth_q1 16 rfl
theorem dX12_endMonth_114 : decode cX12_endMonth 114 = .ok (.return_, 1) := dc_at (f := decode cX12_endMonth) dAX12_endMonth_q1 17 rfl
def dPX12_months_q0 : List (Nat × (Jvm.ClassFile.Instr × Nat)) := [(0, (.iload_n 1, 1)), (1, (.i2l, 1)), (2, (.lconst 1, 1)), (3, (.ldc2_w 284, 3)), (6, (.invokestatic 58, 3)), (9, (.ifCond .eq 14, 3)), (12, (.aload_n 0, 1)), (13, (.getfield 230, 3)), (16, (.iload_n 1, 1)), (17, (.iadd, 1)), (18, (.bipush 119, 2)), (20, (.if_icmp .le 6, 3)), (23, (.bipush (-2), 2)), (25, (.ireturn, 1)), (26, (.aload_n 0, 1)), (27, (.getfield 224, 3)), (30, (.ifCond .eq 6, 3)), (33, (.bipush (-4), 2)), (35, (.ireturn, 1)), (36, (.iconst 0, 1)), (37, (.istore_n 2, 1)), (38, (.iload_n 2, 1)), (39, (.iload_n 1, 1)), (40, (.if_icmp .ge 13, 3)), (43, (.aload_n 0, 1)), (44, (.invokevirtual 311, 3)), (47, (.iinc 2 1, 3)), (50, (.goto (-12), 3)), (53, (.aload_n 0, 1)), (54, (.getfield 230, 3)), (57, (.ireturn, 1))]
theorem dAX12_months_q0 : ∀ x ∈ dPX12_months_q0, decode cX12_months x.1 = .ok x.2 := by decide +kernel
theorem dX12_months_0 : decode cX12_months 0 = .ok (.iload_n 1, 1) := dc_at (f := decode cX12_months) dAX12_months_q0 0 rfl
theorem dX12_months_1 : decode cX12_months 1 = .ok (.i2l, 1) := dc_at (f := decode cX12_months) dAX12_months_q0 1 rfl
theorem dX12_months_2 : decode cX12_months 2 = .ok (.lconst 1, 1) := dc_at (f := decode cX12_months) dAX12_months_q0 2 rfl
theorem dX12_months_3 : decode cX12_months 3 = .ok (.ldc2_w 284, 3) := dc_at (f := decode cX12_months) dAX12_months_q0 3 rfl
theorem dX12_months_6 : decode cX12_months 6 = .ok (.invokestatic 58, 3) := dc_at (f := decode cX12_months) dAX12_months_q0 4 rfl
theorem dX12_months_9 : decode cX12_months 9 = .ok (.ifCond .eq 14, 3) := dc_at (f := decode cX12_months) dAX12_months_q0 5 rfl
theorem dX12_months_12 : decode cX12_months 12 = .ok (.aload_n 0, 1) := dc_at (f := decode cX12_months) dAX12_months_q0 6 rfl
theorem dX12_months_13 : decode cX12_months 13 = .ok (.getfield 230, 3) := dc_at (f := decode cX12_months) dAX12_months_q0 7 rfl
theorem dX12_months_16 : decode cX12_months 16 = .ok (.iload_n 1, 1) := dc_at (f := decode cX12_months) dAX12_months_q0 8 rfl
theorem dX12_months_17 : decode cX12_months 17 = .ok (.iadd, 1) := dc_at (f := decode cX12_months) dAX12_months_q0 9 rfl
theorem dX12_months_18 : decode cX12_months 18 = .ok (.bipush 119, 2) := dc_at (f := decode cX12_months) dAX12_months_q0 10 rfl
theorem dX12_months_20 : decode cX12_months 20 = .ok (.if_icmp .le 6, 3) := dc_at (f := decode cX12_months) dAX12_months_q0 11 rfl
theorem dX12_months_23 : decode cX12_months 23 = .ok (.bipush (-2), 2) := dc_at (f := decode cX12_months) dAX12_months_q0 12 rfl
theorem dX12_months_25 : decode cX12_months 25 = .ok (.ireturn, 1) := dc_at (f := decode cX12_months) dAX12_months_q0 13 rfl
theorem dX12_months_26 : decode cX12_months 26 = .ok (.aload_n 0, 1) := dc_at (f := decode cX12_months) dAX12_months_q0 14 rfl
theorem dX12_months_27 : decode cX12_months 27 = .ok (.getfield 224, 3) := dc_at (f := decode cX12_months) dAX12_months_q0 15 rfl
theorem dX12_months_30 : decode cX12_months 30 = .ok (.ifCond .eq 6, 3) := dc_at (f := decode cX12_months) dAX12_months_q0 16 rfl
theorem dX12_months_33 : decode cX12_months 33 = .ok (.bipush (-4), 2) := dc_at (f := decode cX12_months) dAX12_months_q0 17 rfl
theorem dX12_months_35 : decode cX12_months 35 = .ok (.ireturn, 1) := dc_at (f := decode cX12_months) dAX12_months_q0 18 rfl
theorem dX12_months_36 : decode cX12_months 36 = .ok (.iconst 0, 1) := dc_at (f := decode cX12_months) dAX12_months_q0 19 rfl
theorem dX12_months_37 : decode cX12_months 37 = .ok (.istore_n 2, 1) := dc_at (f := decode cX12_months) dAX12_months_q0 20 rfl
theorem dX12_months_38 : decode cX12_months 38 = .ok (.iload_n 2, 1) := dc_at (f := decode cX12_months) dAX12_months_q0 21 rfl
theorem dX12_months_39 : decode cX12_months 39 = .ok (.iload_n 1, 1) := dc_at (f := decode cX12_months) dAX12_months_q0 22 rfl
theorem dX12_months_40 : decode cX12_months 40 = .ok (.if_icmp .ge 13, 3) := dc_at (f := decode cX12_months) dAX12_months_q0 23 rfl
theorem dX12_months_43 : decode cX12_months 43 = .ok (.aload_n 0, 1) := dc_at (f := decode cX12_months) dAX12_months_q0 24 rfl
theorem dX12_months_44 : decode cX12_months 44 = .ok (.invokevirtual 311, 3) := dc_at (f := decode cX12_months) dAX12_months_q0 25 rfl
theorem dX12_months_47 : decode cX12_months 47 = .ok (.iinc 2 1, 3) := dc_at (f := decode cX12_months) dAX12_months_q0 26 rfl
theorem dX12_months_50 : decode cX12_months 50 = .ok (.goto (-12), 3) := dc_at (f := decode cX12_months) dAX12_months_q0 27 rfl
theorem dX12_months_53 : decode cX12_months 53 = .ok (.aload_n 0, 1) := dc_at (f := decode cX12_months) dAX12_months_q0 28 rfl
theorem dX12_months_54 : decode cX12_months 54 = .ok (.getfield 230, 3) := dc_at (f := decode cX12_months) dAX12_months_q0 29 rfl
theorem dX12_months_57 : decode cX12_months 57 = .ok (.ireturn, 1) := dc_at (f := decode cX12_months) dAX12_months_q0 30 rfl
def dPX12_sure_q0 : List (Nat × (Jvm.ClassFile.Instr × Nat)) := [(0, (.iload_n 1, 1)), (1, (.i2l, 1)), (2, (.lconst 1, 1)), (3, (.ldc2_w 235, 3)), (6, (.invokestatic 58, 3)), (9, (.ifCond .ne 6, 3)), (12, (.bipush (-2), 2)), (14, (.ireturn, 1)), (15, (.lconst 0, 1)), (16, (.lstore_n 2, 1)), (17, (.lconst 0, 1)), (18, (.lstore 4, 2)), (20, (.lconst 0, 1)), (21, (.lstore 6, 2)), (23, (.iconst 0, 1)), (24, (.istore 8, 2)), (26, (.iload 8, 2)), (28, (.aload_n 0, 1)), (29, (.getfield 237, 3)), (32, (.if_icmp .ge 150, 3)), (35, (.iconst 0, 1)), (36, (.istore 9, 2)), (38, (.iload 9, 2)), (40, (.aload_n 0, 1)), (41, (.getfield 147, 3)), (44, (.iload 8, 2)), (46, (.iaload, 1)), (47, (.if_icmp .ge 129, 3)), (50, (.bipush 84, 2)), (52, (.iload 8, 2)), (54, (.imul, 1)), (55, (.iload 9, 2)), (57, (.iadd, 1)), (58, (.istore 10, 2)), (60, (.aload_n 0, 1)), (61, (.iload 8, 2)), (63, (.iload 9, 2)), (65, (.invokevirtual 240, 3)), (68, (.istore 11, 2)), (70, (.aload_n 0, 1)), (71, (.getfield 165, 3)), (74, (.iload 10, 2)), (76, (.baload, 1)), (77, (.ifCond .eq 45, 3)), (80, (.iload 11, 2)), (82, (.i2l, 1)), (83, (.aload_n 0, 1)), (84, (.getfield 230, 3))]
theorem dAX12_sure_q0 : ∀ x ∈ dPX12_sure_q0, decode cX12_sure x.1 = .ok x.2 := by decide +kernel
theorem dX12_sure_0 : decode cX12_sure 0 = .ok (.iload_n 1, 1) := dc_at (f := decode cX12_sure) dAX12_sure_q0 0 rfl
theorem dX12_sure_1 : decode cX12_sure 1 = .ok (.i2l, 1) := dc_at (f := decode cX12_sure) dAX12_sure_q0 1 rfl
theorem dX12_sure_2 : decode cX12_sure 2 = .ok (.lconst 1, 1) := dc_at (f := decode cX12_sure) dAX12_sure_q0 2 rfl
theorem dX12_sure_3 : decode cX12_sure 3 = .ok (.ldc2_w 235, 3) := dc_at (f := decode cX12_sure) dAX12_sure_q0 3 rfl
theorem dX12_sure_6 : decode cX12_sure 6 = .ok (.invokestatic 58, 3) := dc_at (f := decode cX12_sure) dAX12_sure_q0 4 rfl
theorem dX12_sure_9 : decode cX12_sure 9 = .ok (.ifCond .ne 6, 3) := dc_at (f := decode cX12_sure) dAX12_sure_q0 5 rfl
theorem dX12_sure_12 : decode cX12_sure 12 = .ok (.bipush (-2), 2) := dc_at (f := decode cX12_sure) dAX12_sure_q0 6 rfl
theorem dX12_sure_14 : decode cX12_sure 14 = .ok (.ireturn, 1) := dc_at (f := decode cX12_sure) dAX12_sure_q0 7 rfl
theorem dX12_sure_15 : decode cX12_sure 15 = .ok (.lconst 0, 1) := dc_at (f := decode cX12_sure) dAX12_sure_q0 8 rfl
theorem dX12_sure_16 : decode cX12_sure 16 = .ok (.lstore_n 2, 1) := dc_at (f := decode cX12_sure) dAX12_sure_q0 9 rfl
theorem dX12_sure_17 : decode cX12_sure 17 = .ok (.lconst 0, 1) := dc_at (f := decode cX12_sure) dAX12_sure_q0 10 rfl
theorem dX12_sure_18 : decode cX12_sure 18 = .ok (.lstore 4, 2) := dc_at (f := decode cX12_sure) dAX12_sure_q0 11 rfl
theorem dX12_sure_20 : decode cX12_sure 20 = .ok (.lconst 0, 1) := dc_at (f := decode cX12_sure) dAX12_sure_q0 12 rfl
theorem dX12_sure_21 : decode cX12_sure 21 = .ok (.lstore 6, 2) := dc_at (f := decode cX12_sure) dAX12_sure_q0 13 rfl
theorem dX12_sure_23 : decode cX12_sure 23 = .ok (.iconst 0, 1) := dc_at (f := decode cX12_sure) dAX12_sure_q0 14 rfl
theorem dX12_sure_24 : decode cX12_sure 24 = .ok (.istore 8, 2) := dc_at (f := decode cX12_sure) dAX12_sure_q0 15 rfl
theorem dX12_sure_26 : decode cX12_sure 26 = .ok (.iload 8, 2) := dc_at (f := decode cX12_sure) dAX12_sure_q0 16 rfl
theorem dX12_sure_28 : decode cX12_sure 28 = .ok (.aload_n 0, 1) := dc_at (f := decode cX12_sure) dAX12_sure_q0 17 rfl
theorem dX12_sure_29 : decode cX12_sure 29 = .ok (.getfield 237, 3) := dc_at (f := decode cX12_sure) dAX12_sure_q0 18 rfl
theorem dX12_sure_32 : decode cX12_sure 32 = .ok (.if_icmp .ge 150, 3) := dc_at (f := decode cX12_sure) dAX12_sure_q0 19 rfl
theorem dX12_sure_35 : decode cX12_sure 35 = .ok (.iconst 0, 1) := dc_at (f := decode cX12_sure) dAX12_sure_q0 20 rfl
theorem dX12_sure_36 : decode cX12_sure 36 = .ok (.istore 9, 2) := dc_at (f := decode cX12_sure) dAX12_sure_q0 21 rfl
theorem dX12_sure_38 : decode cX12_sure 38 = .ok (.iload 9, 2) := dc_at (f := decode cX12_sure) dAX12_sure_q0 22 rfl
theorem dX12_sure_40 : decode cX12_sure 40 = .ok (.aload_n 0, 1) := dc_at (f := decode cX12_sure) dAX12_sure_q0 23 rfl
theorem dX12_sure_41 : decode cX12_sure 41 = .ok (.getfield 147, 3) := dc_at (f := decode cX12_sure) dAX12_sure_q0 24 rfl
theorem dX12_sure_44 : decode cX12_sure 44 = .ok (.iload 8, 2) := dc_at (f := decode cX12_sure) dAX12_sure_q0 25 rfl
theorem dX12_sure_46 : decode cX12_sure 46 = .ok (.iaload, 1) := dc_at (f := decode cX12_sure) dAX12_sure_q0 26 rfl
theorem dX12_sure_47 : decode cX12_sure 47 = .ok (.if_icmp .ge 129, 3) := dc_at (f := decode cX12_sure) dAX12_sure_q0 27 rfl
theorem dX12_sure_50 : decode cX12_sure 50 = .ok (.bipush 84, 2) := dc_at (f := decode cX12_sure) dAX12_sure_q0 28 rfl
theorem dX12_sure_52 : decode cX12_sure 52 = .ok (.iload 8, 2) := dc_at (f := decode cX12_sure) dAX12_sure_q0 29 rfl
theorem dX12_sure_54 : decode cX12_sure 54 = .ok (.imul, 1) := dc_at (f := decode cX12_sure) dAX12_sure_q0 30 rfl
theorem dX12_sure_55 : decode cX12_sure 55 = .ok (.iload 9, 2) := dc_at (f := decode cX12_sure) dAX12_sure_q0 31 rfl
theorem dX12_sure_57 : decode cX12_sure 57 = .ok (.iadd, 1) := dc_at (f := decode cX12_sure) dAX12_sure_q0 32 rfl
theorem dX12_sure_58 : decode cX12_sure 58 = .ok (.istore 10, 2) := dc_at (f := decode cX12_sure) dAX12_sure_q0 33 rfl
theorem dX12_sure_60 : decode cX12_sure 60 = .ok (.aload_n 0, 1) := dc_at (f := decode cX12_sure) dAX12_sure_q0 34 rfl
theorem dX12_sure_61 : decode cX12_sure 61 = .ok (.iload 8, 2) := dc_at (f := decode cX12_sure) dAX12_sure_q0 35 rfl
theorem dX12_sure_63 : decode cX12_sure 63 = .ok (.iload 9, 2) := dc_at (f := decode cX12_sure) dAX12_sure_q0 36 rfl
theorem dX12_sure_65 : decode cX12_sure 65 = .ok (.invokevirtual 240, 3) := dc_at (f := decode cX12_sure) dAX12_sure_q0 37 rfl
theorem dX12_sure_68 : decode cX12_sure 68 = .ok (.istore 11, 2) := dc_at (f := decode cX12_sure) dAX12_sure_q0 38 rfl
theorem dX12_sure_70 : decode cX12_sure 70 = .ok (.aload_n 0, 1) := dc_at (f := decode cX12_sure) dAX12_sure_q0 39 rfl
theorem dX12_sure_71 : decode cX12_sure 71 = .ok (.getfield 165, 3) := dc_at (f := decode cX12_sure) dAX12_sure_q0 40 rfl
theorem dX12_sure_74 : decode cX12_sure 74 = .ok (.iload 10, 2) := dc_at (f := decode cX12_sure) dAX12_sure_q0 41 rfl
theorem dX12_sure_76 : decode cX12_sure 76 = .ok (.baload, 1) := dc_at (f := decode cX12_sure) dAX12_sure_q0 42 rfl
theorem dX12_sure_77 : decode cX12_sure 77 = .ok (.ifCond .eq 45, 3) := dc_at (f := decode cX12_sure) dAX12_sure_q0 43 rfl
theorem dX12_sure_80 : decode cX12_sure 80 = .ok (.iload 11, 2) := dc_at (f := decode cX12_sure) dAX12_sure_q0 44 rfl
theorem dX12_sure_82 : decode cX12_sure 82 = .ok (.i2l, 1) := dc_at (f := decode cX12_sure) dAX12_sure_q0 45 rfl
theorem dX12_sure_83 : decode cX12_sure 83 = .ok (.aload_n 0, 1) := dc_at (f := decode cX12_sure) dAX12_sure_q0 46 rfl
theorem dX12_sure_84 : decode cX12_sure 84 = .ok (.getfield 230, 3) := dc_at (f := decode cX12_sure) dAX12_sure_q0 47 rfl
def dPX12_sure_q1 : List (Nat × (Jvm.ClassFile.Instr × Nat)) := [(87, (.i2l, 1)), (88, (.lconst 1, 1)), (89, (.ladd, 1)), (90, (.aload_n 0, 1)), (91, (.getfield 230, 3)), (94, (.iload_n 1, 1)), (95, (.iadd, 1)), (96, (.i2l, 1)), (97, (.invokestatic 58, 3)), (100, (.ifCond .eq 22, 3)), (103, (.lload_n 2, 1)), (104, (.aload_n 0, 1)), (105, (.getfield 159, 3)), (108, (.iload 10, 2)), (110, (.iaload, 1)), (111, (.aload_n 0, 1)), (112, (.getfield 162, 3)), (115, (.iload 10, 2)), (117, (.iaload, 1)), (118, (.isub, 1)), (119, (.i2l, 1)), (120, (.ladd, 1)), (121, (.lstore_n 2, 1)), (122, (.aload_n 0, 1)), (123, (.getfield 168, 3)), (126, (.iload 10, 2)), (128, (.baload, 1)), (129, (.ifCond .eq 41, 3)), (132, (.iload 11, 2)), (134, (.aload_n 0, 1)), (135, (.getfield 230, 3)), (138, (.if_icmp .le 6, 3)), (141, (.goto 29, 3)), (144, (.lload 4, 2)), (146, (.aload_n 0, 1)), (147, (.getfield 159, 3)), (150, (.iload 10, 2)), (152, (.iaload, 1)), (153, (.i2l, 1)), (154, (.ladd, 1)), (155, (.lstore 4, 2)), (157, (.lload 6, 2)), (159, (.aload_n 0, 1)), (160, (.getfield 162, 3)), (163, (.iload 10, 2)), (165, (.iaload, 1)), (166, (.i2l, 1)), (167, (.ladd, 1))]
theorem dAX12_sure_q1 : ∀ x ∈ dPX12_sure_q1, decode cX12_sure x.1 = .ok x.2 := by decide +kernel
theorem dX12_sure_87 : decode cX12_sure 87 = .ok (.i2l, 1) := dc_at (f := decode cX12_sure) dAX12_sure_q1 0 rfl
theorem dX12_sure_88 : decode cX12_sure 88 = .ok (.lconst 1, 1) := dc_at (f := decode cX12_sure) dAX12_sure_q1 1 rfl
theorem dX12_sure_89 : decode cX12_sure 89 = .ok (.ladd, 1) := dc_at (f := decode cX12_sure) dAX12_sure_q1 2 rfl
theorem dX12_sure_90 : decode cX12_sure 90 = .ok (.aload_n 0, 1) := dc_at (f := decode cX12_sure) dAX12_sure_q1 3 rfl
theorem dX12_sure_91 : decode cX12_sure 91 = .ok (.getfield 230, 3) := dc_at (f := decode cX12_sure) dAX12_sure_q1 4 rfl
theorem dX12_sure_94 : decode cX12_sure 94 = .ok (.iload_n 1, 1) := dc_at (f := decode cX12_sure) dAX12_sure_q1 5 rfl
theorem dX12_sure_95 : decode cX12_sure 95 = .ok (.iadd, 1) := dc_at (f := decode cX12_sure) dAX12_sure_q1 6 rfl
theorem dX12_sure_96 : decode cX12_sure 96 = .ok (.i2l, 1) := dc_at (f := decode cX12_sure) dAX12_sure_q1 7 rfl
theorem dX12_sure_97 : decode cX12_sure 97 = .ok (.invokestatic 58, 3) := dc_at (f := decode cX12_sure) dAX12_sure_q1 8 rfl
theorem dX12_sure_100 : decode cX12_sure 100 = .ok (.ifCond .eq 22, 3) := dc_at (f := decode cX12_sure) dAX12_sure_q1 9 rfl
theorem dX12_sure_103 : decode cX12_sure 103 = .ok (.lload_n 2, 1) := dc_at (f := decode cX12_sure) dAX12_sure_q1 10 rfl
theorem dX12_sure_104 : decode cX12_sure 104 = .ok (.aload_n 0, 1) := dc_at (f := decode cX12_sure) dAX12_sure_q1 11 rfl
theorem dX12_sure_105 : decode cX12_sure 105 = .ok (.getfield 159, 3) := dc_at (f := decode cX12_sure) dAX12_sure_q1 12 rfl
theorem dX12_sure_108 : decode cX12_sure 108 = .ok (.iload 10, 2) := dc_at (f := decode cX12_sure) dAX12_sure_q1 13 rfl
theorem dX12_sure_110 : decode cX12_sure 110 = .ok (.iaload, 1) := dc_at (f := decode cX12_sure) dAX12_sure_q1 14 rfl
theorem dX12_sure_111 : decode cX12_sure 111 = .ok (.aload_n 0, 1) := dc_at (f := decode cX12_sure) dAX12_sure_q1 15 rfl
theorem dX12_sure_112 : decode cX12_sure 112 = .ok (.getfield 162, 3) := dc_at (f := decode cX12_sure) dAX12_sure_q1 16 rfl
theorem dX12_sure_115 : decode cX12_sure 115 = .ok (.iload 10, 2) := dc_at (f := decode cX12_sure) dAX12_sure_q1 17 rfl
theorem dX12_sure_117 : decode cX12_sure 117 = .ok (.iaload, 1) := dc_at (f := decode cX12_sure) dAX12_sure_q1 18 rfl
theorem dX12_sure_118 : decode cX12_sure 118 = .ok (.isub, 1) := dc_at (f := decode cX12_sure) dAX12_sure_q1 19 rfl
theorem dX12_sure_119 : decode cX12_sure 119 = .ok (.i2l, 1) := dc_at (f := decode cX12_sure) dAX12_sure_q1 20 rfl
theorem dX12_sure_120 : decode cX12_sure 120 = .ok (.ladd, 1) := dc_at (f := decode cX12_sure) dAX12_sure_q1 21 rfl
theorem dX12_sure_121 : decode cX12_sure 121 = .ok (.lstore_n 2, 1) := dc_at (f := decode cX12_sure) dAX12_sure_q1 22 rfl
theorem dX12_sure_122 : decode cX12_sure 122 = .ok (.aload_n 0, 1) := dc_at (f := decode cX12_sure) dAX12_sure_q1 23 rfl
theorem dX12_sure_123 : decode cX12_sure 123 = .ok (.getfield 168, 3) := dc_at (f := decode cX12_sure) dAX12_sure_q1 24 rfl
theorem dX12_sure_126 : decode cX12_sure 126 = .ok (.iload 10, 2) := dc_at (f := decode cX12_sure) dAX12_sure_q1 25 rfl
theorem dX12_sure_128 : decode cX12_sure 128 = .ok (.baload, 1) := dc_at (f := decode cX12_sure) dAX12_sure_q1 26 rfl
theorem dX12_sure_129 : decode cX12_sure 129 = .ok (.ifCond .eq 41, 3) := dc_at (f := decode cX12_sure) dAX12_sure_q1 27 rfl
theorem dX12_sure_132 : decode cX12_sure 132 = .ok (.iload 11, 2) := dc_at (f := decode cX12_sure) dAX12_sure_q1 28 rfl
theorem dX12_sure_134 : decode cX12_sure 134 = .ok (.aload_n 0, 1) := dc_at (f := decode cX12_sure) dAX12_sure_q1 29 rfl
theorem dX12_sure_135 : decode cX12_sure 135 = .ok (.getfield 230, 3) := dc_at (f := decode cX12_sure) dAX12_sure_q1 30 rfl
theorem dX12_sure_138 : decode cX12_sure 138 = .ok (.if_icmp .le 6, 3) := dc_at (f := decode cX12_sure) dAX12_sure_q1 31 rfl
theorem dX12_sure_141 : decode cX12_sure 141 = .ok (.goto 29, 3) := dc_at (f := decode cX12_sure) dAX12_sure_q1 32 rfl
theorem dX12_sure_144 : decode cX12_sure 144 = .ok (.lload 4, 2) := dc_at (f := decode cX12_sure) dAX12_sure_q1 33 rfl
theorem dX12_sure_146 : decode cX12_sure 146 = .ok (.aload_n 0, 1) := dc_at (f := decode cX12_sure) dAX12_sure_q1 34 rfl
theorem dX12_sure_147 : decode cX12_sure 147 = .ok (.getfield 159, 3) := dc_at (f := decode cX12_sure) dAX12_sure_q1 35 rfl
theorem dX12_sure_150 : decode cX12_sure 150 = .ok (.iload 10, 2) := dc_at (f := decode cX12_sure) dAX12_sure_q1 36 rfl
theorem dX12_sure_152 : decode cX12_sure 152 = .ok (.iaload, 1) := dc_at (f := decode cX12_sure) dAX12_sure_q1 37 rfl
theorem dX12_sure_153 : decode cX12_sure 153 = .ok (.i2l, 1) := dc_at (f := decode cX12_sure) dAX12_sure_q1 38 rfl
theorem dX12_sure_154 : decode cX12_sure 154 = .ok (.ladd, 1) := dc_at (f := decode cX12_sure) dAX12_sure_q1 39 rfl
theorem dX12_sure_155 : decode cX12_sure 155 = .ok (.lstore 4, 2) := dc_at (f := decode cX12_sure) dAX12_sure_q1 40 rfl
theorem dX12_sure_157 : decode cX12_sure 157 = .ok (.lload 6, 2) := dc_at (f := decode cX12_sure) dAX12_sure_q1 41 rfl
theorem dX12_sure_159 : decode cX12_sure 159 = .ok (.aload_n 0, 1) := dc_at (f := decode cX12_sure) dAX12_sure_q1 42 rfl
theorem dX12_sure_160 : decode cX12_sure 160 = .ok (.getfield 162, 3) := dc_at (f := decode cX12_sure) dAX12_sure_q1 43 rfl
theorem dX12_sure_163 : decode cX12_sure 163 = .ok (.iload 10, 2) := dc_at (f := decode cX12_sure) dAX12_sure_q1 44 rfl
theorem dX12_sure_165 : decode cX12_sure 165 = .ok (.iaload, 1) := dc_at (f := decode cX12_sure) dAX12_sure_q1 45 rfl
theorem dX12_sure_166 : decode cX12_sure 166 = .ok (.i2l, 1) := dc_at (f := decode cX12_sure) dAX12_sure_q1 46 rfl
theorem dX12_sure_167 : decode cX12_sure 167 = .ok (.ladd, 1) := dc_at (f := decode cX12_sure) dAX12_sure_q1 47 rfl
def dPX12_sure_q2 : List (Nat × (Jvm.ClassFile.Instr × Nat)) := [(168, (.lstore 6, 2)), (170, (.iinc 9 1, 3)), (173, (.goto (-135), 3)), (176, (.iinc 8 1, 3)), (179, (.goto (-153), 3)), (182, (.lload 4, 2)), (184, (.lconst 0, 1)), (185, (.lcmp, 1)), (186, (.ifCond .ne 7, 3)), (189, (.iconst 0, 1)), (190, (.goto 11, 3)), (193, (.lload_n 2, 1)), (194, (.lload 6, 2)), (196, (.lmul, 1)), (197, (.lload 4, 2)), (199, (.ldiv, 1)), (200, (.l2i, 1)), (201, (.ireturn, 1))]
theorem dAX12_sure_q2 : ∀ x ∈ dPX12_sure_q2, decode cX12_sure x.1 = .ok x.2 := by decide +kernel
theorem dX12_sure_168 : decode cX12_sure 168 = .ok (.lstore 6, 2) := dc_at (f := decode cX12_sure) dAX12_sure_q2 0 rfl
theorem dX12_sure_170 : decode cX12_sure 170 = .ok (.iinc 9 1, 3) := dc_at (f := decode cX12_sure) dAX12_sure_q2 1 rfl
theorem dX12_sure_173 : decode cX12_sure 173 = .ok (.goto (-135), 3) := dc_at (f := decode cX12_sure) dAX12_sure_q2 2 rfl
theorem dX12_sure_176 : decode cX12_sure 176 = .ok (.iinc 8 1, 3) := dc_at (f := decode cX12_sure) dAX12_sure_q2 3 rfl
theorem dX12_sure_179 : decode cX12_sure 179 = .ok (.goto (-153), 3) := dc_at (f := decode cX12_sure) dAX12_sure_q2 4 rfl
theorem dX12_sure_182 : decode cX12_sure 182 = .ok (.lload 4, 2) := dc_at (f := decode cX12_sure) dAX12_sure_q2 5 rfl
theorem dX12_sure_184 : decode cX12_sure 184 = .ok (.lconst 0, 1) := dc_at (f := decode cX12_sure) dAX12_sure_q2 6 rfl
theorem dX12_sure_185 : decode cX12_sure 185 = .ok (.lcmp, 1) := dc_at (f := decode cX12_sure) dAX12_sure_q2 7 rfl
theorem dX12_sure_186 : decode cX12_sure 186 = .ok (.ifCond .ne 7, 3) := dc_at (f := decode cX12_sure) dAX12_sure_q2 8 rfl
theorem dX12_sure_189 : decode cX12_sure 189 = .ok (.iconst 0, 1) := dc_at (f := decode cX12_sure) dAX12_sure_q2 9 rfl
theorem dX12_sure_190 : decode cX12_sure 190 = .ok (.goto 11, 3) := dc_at (f := decode cX12_sure) dAX12_sure_q2 10 rfl
theorem dX12_sure_193 : decode cX12_sure 193 = .ok (.lload_n 2, 1) := dc_at (f := decode cX12_sure) dAX12_sure_q2 11 rfl
theorem dX12_sure_194 : decode cX12_sure 194 = .ok (.lload 6, 2) := dc_at (f := decode cX12_sure) dAX12_sure_q2 12 rfl
theorem dX12_sure_196 : decode cX12_sure 196 = .ok (.lmul, 1) := dc_at (f := decode cX12_sure) dAX12_sure_q2 13 rfl
theorem dX12_sure_197 : decode cX12_sure 197 = .ok (.lload 4, 2) := dc_at (f := decode cX12_sure) dAX12_sure_q2 14 rfl
theorem dX12_sure_199 : decode cX12_sure 199 = .ok (.ldiv, 1) := dc_at (f := decode cX12_sure) dAX12_sure_q2 15 rfl
theorem dX12_sure_200 : decode cX12_sure 200 = .ok (.l2i, 1) := dc_at (f := decode cX12_sure) dAX12_sure_q2 16 rfl
theorem dX12_sure_201 : decode cX12_sure 201 = .ok (.ireturn, 1) := dc_at (f := decode cX12_sure) dAX12_sure_q2 17 rfl
def dPX12_carve_q0 : List (Nat × (Jvm.ClassFile.Instr × Nat)) := [(0, (.iconst 0, 1)), (1, (.istore_n 1, 1)), (2, (.iload_n 1, 1)), (3, (.bipush 30, 2)), (5, (.if_icmp .ge 16, 3)), (8, (.aload_n 0, 1)), (9, (.getfield 197, 3)), (12, (.iload_n 1, 1)), (13, (.iconst 0, 1)), (14, (.iastore, 1)), (15, (.iinc 1 1, 3)), (18, (.goto (-16), 3)), (21, (.iconst 0, 1)), (22, (.istore_n 1, 1)), (23, (.iconst 0, 1)), (24, (.istore_n 2, 1)), (25, (.iload_n 2, 1)), (26, (.aload_n 0, 1)), (27, (.getfield 246, 3)), (30, (.if_icmp .ge 103, 3)), (33, (.aload_n 0, 1)), (34, (.getfield 171, 3)), (37, (.iload_n 2, 1)), (38, (.iaload, 1)), (39, (.istore_n 3, 1)), (40, (.aload_n 0, 1)), (41, (.getfield 197, 3)), (44, (.iload_n 3, 1)), (45, (.iaload, 1)), (46, (.bipush 100, 2)), (48, (.aload_n 0, 1)), (49, (.getfield 114, 3)), (52, (.bipush 7, 2)), (54, (.iaload, 1)), (55, (.imul, 1)), (56, (.if_icmp .lt 7, 3)), (59, (.iconst 1, 1)), (60, (.goto 4, 3)), (63, (.iconst 0, 1)), (64, (.istore 4, 2)), (66, (.aload_n 0, 1)), (67, (.getfield 197, 3)), (70, (.iload_n 3, 1)), (71, (.dup2, 1)), (72, (.iaload, 1)), (73, (.aload_n 0, 1)), (74, (.getfield 177, 3)), (77, (.iload_n 2, 1))]
theorem dAX12_carve_q0 : ∀ x ∈ dPX12_carve_q0, decode cX12_carve x.1 = .ok x.2 := by decide +kernel
theorem dX12_carve_0 : decode cX12_carve 0 = .ok (.iconst 0, 1) := dc_at (f := decode cX12_carve) dAX12_carve_q0 0 rfl
theorem dX12_carve_1 : decode cX12_carve 1 = .ok (.istore_n 1, 1) := dc_at (f := decode cX12_carve) dAX12_carve_q0 1 rfl
theorem dX12_carve_2 : decode cX12_carve 2 = .ok (.iload_n 1, 1) := dc_at (f := decode cX12_carve) dAX12_carve_q0 2 rfl
theorem dX12_carve_3 : decode cX12_carve 3 = .ok (.bipush 30, 2) := dc_at (f := decode cX12_carve) dAX12_carve_q0 3 rfl
theorem dX12_carve_5 : decode cX12_carve 5 = .ok (.if_icmp .ge 16, 3) := dc_at (f := decode cX12_carve) dAX12_carve_q0 4 rfl
theorem dX12_carve_8 : decode cX12_carve 8 = .ok (.aload_n 0, 1) := dc_at (f := decode cX12_carve) dAX12_carve_q0 5 rfl
theorem dX12_carve_9 : decode cX12_carve 9 = .ok (.getfield 197, 3) := dc_at (f := decode cX12_carve) dAX12_carve_q0 6 rfl
theorem dX12_carve_12 : decode cX12_carve 12 = .ok (.iload_n 1, 1) := dc_at (f := decode cX12_carve) dAX12_carve_q0 7 rfl
theorem dX12_carve_13 : decode cX12_carve 13 = .ok (.iconst 0, 1) := dc_at (f := decode cX12_carve) dAX12_carve_q0 8 rfl
theorem dX12_carve_14 : decode cX12_carve 14 = .ok (.iastore, 1) := dc_at (f := decode cX12_carve) dAX12_carve_q0 9 rfl
theorem dX12_carve_15 : decode cX12_carve 15 = .ok (.iinc 1 1, 3) := dc_at (f := decode cX12_carve) dAX12_carve_q0 10 rfl
theorem dX12_carve_18 : decode cX12_carve 18 = .ok (.goto (-16), 3) := dc_at (f := decode cX12_carve) dAX12_carve_q0 11 rfl
theorem dX12_carve_21 : decode cX12_carve 21 = .ok (.iconst 0, 1) := dc_at (f := decode cX12_carve) dAX12_carve_q0 12 rfl
theorem dX12_carve_22 : decode cX12_carve 22 = .ok (.istore_n 1, 1) := dc_at (f := decode cX12_carve) dAX12_carve_q0 13 rfl
theorem dX12_carve_23 : decode cX12_carve 23 = .ok (.iconst 0, 1) := dc_at (f := decode cX12_carve) dAX12_carve_q0 14 rfl
theorem dX12_carve_24 : decode cX12_carve 24 = .ok (.istore_n 2, 1) := dc_at (f := decode cX12_carve) dAX12_carve_q0 15 rfl
theorem dX12_carve_25 : decode cX12_carve 25 = .ok (.iload_n 2, 1) := dc_at (f := decode cX12_carve) dAX12_carve_q0 16 rfl
theorem dX12_carve_26 : decode cX12_carve 26 = .ok (.aload_n 0, 1) := dc_at (f := decode cX12_carve) dAX12_carve_q0 17 rfl
theorem dX12_carve_27 : decode cX12_carve 27 = .ok (.getfield 246, 3) := dc_at (f := decode cX12_carve) dAX12_carve_q0 18 rfl
theorem dX12_carve_30 : decode cX12_carve 30 = .ok (.if_icmp .ge 103, 3) := dc_at (f := decode cX12_carve) dAX12_carve_q0 19 rfl
theorem dX12_carve_33 : decode cX12_carve 33 = .ok (.aload_n 0, 1) := dc_at (f := decode cX12_carve) dAX12_carve_q0 20 rfl
theorem dX12_carve_34 : decode cX12_carve 34 = .ok (.getfield 171, 3) := dc_at (f := decode cX12_carve) dAX12_carve_q0 21 rfl
theorem dX12_carve_37 : decode cX12_carve 37 = .ok (.iload_n 2, 1) := dc_at (f := decode cX12_carve) dAX12_carve_q0 22 rfl
theorem dX12_carve_38 : decode cX12_carve 38 = .ok (.iaload, 1) := dc_at (f := decode cX12_carve) dAX12_carve_q0 23 rfl
theorem dX12_carve_39 : decode cX12_carve 39 = .ok (.istore_n 3, 1) := dc_at (f := decode cX12_carve) dAX12_carve_q0 24 rfl
theorem dX12_carve_40 : decode cX12_carve 40 = .ok (.aload_n 0, 1) := dc_at (f := decode cX12_carve) dAX12_carve_q0 25 rfl
theorem dX12_carve_41 : decode cX12_carve 41 = .ok (.getfield 197, 3) := dc_at (f := decode cX12_carve) dAX12_carve_q0 26 rfl
theorem dX12_carve_44 : decode cX12_carve 44 = .ok (.iload_n 3, 1) := dc_at (f := decode cX12_carve) dAX12_carve_q0 27 rfl
theorem dX12_carve_45 : decode cX12_carve 45 = .ok (.iaload, 1) := dc_at (f := decode cX12_carve) dAX12_carve_q0 28 rfl
theorem dX12_carve_46 : decode cX12_carve 46 = .ok (.bipush 100, 2) := dc_at (f := decode cX12_carve) dAX12_carve_q0 29 rfl
theorem dX12_carve_48 : decode cX12_carve 48 = .ok (.aload_n 0, 1) := dc_at (f := decode cX12_carve) dAX12_carve_q0 30 rfl
theorem dX12_carve_49 : decode cX12_carve 49 = .ok (.getfield 114, 3) := dc_at (f := decode cX12_carve) dAX12_carve_q0 31 rfl
theorem dX12_carve_52 : decode cX12_carve 52 = .ok (.bipush 7, 2) := dc_at (f := decode cX12_carve) dAX12_carve_q0 32 rfl
theorem dX12_carve_54 : decode cX12_carve 54 = .ok (.iaload, 1) := dc_at (f := decode cX12_carve) dAX12_carve_q0 33 rfl
theorem dX12_carve_55 : decode cX12_carve 55 = .ok (.imul, 1) := dc_at (f := decode cX12_carve) dAX12_carve_q0 34 rfl
theorem dX12_carve_56 : decode cX12_carve 56 = .ok (.if_icmp .lt 7, 3) := dc_at (f := decode cX12_carve) dAX12_carve_q0 35 rfl
theorem dX12_carve_59 : decode cX12_carve 59 = .ok (.iconst 1, 1) := dc_at (f := decode cX12_carve) dAX12_carve_q0 36 rfl
theorem dX12_carve_60 : decode cX12_carve 60 = .ok (.goto 4, 3) := dc_at (f := decode cX12_carve) dAX12_carve_q0 37 rfl
theorem dX12_carve_63 : decode cX12_carve 63 = .ok (.iconst 0, 1) := dc_at (f := decode cX12_carve) dAX12_carve_q0 38 rfl
theorem dX12_carve_64 : decode cX12_carve 64 = .ok (.istore 4, 2) := dc_at (f := decode cX12_carve) dAX12_carve_q0 39 rfl
theorem dX12_carve_66 : decode cX12_carve 66 = .ok (.aload_n 0, 1) := dc_at (f := decode cX12_carve) dAX12_carve_q0 40 rfl
theorem dX12_carve_67 : decode cX12_carve 67 = .ok (.getfield 197, 3) := dc_at (f := decode cX12_carve) dAX12_carve_q0 41 rfl
theorem dX12_carve_70 : decode cX12_carve 70 = .ok (.iload_n 3, 1) := dc_at (f := decode cX12_carve) dAX12_carve_q0 42 rfl
theorem dX12_carve_71 : decode cX12_carve 71 = .ok (.dup2, 1) := dc_at (f := decode cX12_carve) dAX12_carve_q0 43 rfl
theorem dX12_carve_72 : decode cX12_carve 72 = .ok (.iaload, 1) := dc_at (f := decode cX12_carve) dAX12_carve_q0 44 rfl
theorem dX12_carve_73 : decode cX12_carve 73 = .ok (.aload_n 0, 1) := dc_at (f := decode cX12_carve) dAX12_carve_q0 45 rfl
theorem dX12_carve_74 : decode cX12_carve 74 = .ok (.getfield 177, 3) := dc_at (f := decode cX12_carve) dAX12_carve_q0 46 rfl
theorem dX12_carve_77 : decode cX12_carve 77 = .ok (.iload_n 2, 1) := dc_at (f := decode cX12_carve) dAX12_carve_q0 47 rfl
def dPX12_carve_q1 : List (Nat × (Jvm.ClassFile.Instr × Nat)) := [(78, (.iaload, 1)), (79, (.iadd, 1)), (80, (.iastore, 1)), (81, (.iload 4, 2)), (83, (.ifCond .ne 44, 3)), (86, (.aload_n 0, 1)), (87, (.getfield 197, 3)), (90, (.iload_n 3, 1)), (91, (.iaload, 1)), (92, (.bipush 100, 2)), (94, (.aload_n 0, 1)), (95, (.getfield 114, 3)), (98, (.bipush 7, 2)), (100, (.iaload, 1)), (101, (.imul, 1)), (102, (.if_icmp .lt 25, 3)), (105, (.aload_n 0, 1)), (106, (.getfield 132, 3)), (109, (.iload_n 3, 1)), (110, (.baload, 1)), (111, (.ifCond .eq 6, 3)), (114, (.goto 13, 3)), (117, (.aload_n 0, 1)), (118, (.getfield 200, 3)), (121, (.iload_n 1, 1)), (122, (.iload_n 3, 1)), (123, (.iastore, 1)), (124, (.iinc 1 1, 3)), (127, (.iinc 2 1, 3)), (130, (.goto (-105), 3)), (133, (.iload_n 1, 1)), (134, (.ireturn, 1))]
theorem dAX12_carve_q1 : ∀ x ∈ dPX12_carve_q1, decode cX12_carve x.1 = .ok x.2 := by decide +kernel
theorem dX12_carve_78 : decode cX12_carve 78 = .ok (.iaload, 1) := dc_at (f := decode cX12_carve) dAX12_carve_q1 0 rfl
theorem dX12_carve_79 : decode cX12_carve 79 = .ok (.iadd, 1) := dc_at (f := decode cX12_carve) dAX12_carve_q1 1 rfl
theorem dX12_carve_80 : decode cX12_carve 80 = .ok (.iastore, 1) := dc_at (f := decode cX12_carve) dAX12_carve_q1 2 rfl
theorem dX12_carve_81 : decode cX12_carve 81 = .ok (.iload 4, 2) := dc_at (f := decode cX12_carve) dAX12_carve_q1 3 rfl
theorem dX12_carve_83 : decode cX12_carve 83 = .ok (.ifCond .ne 44, 3) := dc_at (f := decode cX12_carve) dAX12_carve_q1 4 rfl
theorem dX12_carve_86 : decode cX12_carve 86 = .ok (.aload_n 0, 1) := dc_at (f := decode cX12_carve) dAX12_carve_q1 5 rfl
theorem dX12_carve_87 : decode cX12_carve 87 = .ok (.getfield 197, 3) := dc_at (f := decode cX12_carve) dAX12_carve_q1 6 rfl
theorem dX12_carve_90 : decode cX12_carve 90 = .ok (.iload_n 3, 1) := dc_at (f := decode cX12_carve) dAX12_carve_q1 7 rfl
theorem dX12_carve_91 : decode cX12_carve 91 = .ok (.iaload, 1) := dc_at (f := decode cX12_carve) dAX12_carve_q1 8 rfl
theorem dX12_carve_92 : decode cX12_carve 92 = .ok (.bipush 100, 2) := dc_at (f := decode cX12_carve) dAX12_carve_q1 9 rfl
theorem dX12_carve_94 : decode cX12_carve 94 = .ok (.aload_n 0, 1) := dc_at (f := decode cX12_carve) dAX12_carve_q1 10 rfl
theorem dX12_carve_95 : decode cX12_carve 95 = .ok (.getfield 114, 3) := dc_at (f := decode cX12_carve) dAX12_carve_q1 11 rfl
theorem dX12_carve_98 : decode cX12_carve 98 = .ok (.bipush 7, 2) := dc_at (f := decode cX12_carve) dAX12_carve_q1 12 rfl
theorem dX12_carve_100 : decode cX12_carve 100 = .ok (.iaload, 1) := dc_at (f := decode cX12_carve) dAX12_carve_q1 13 rfl
theorem dX12_carve_101 : decode cX12_carve 101 = .ok (.imul, 1) := dc_at (f := decode cX12_carve) dAX12_carve_q1 14 rfl
theorem dX12_carve_102 : decode cX12_carve 102 = .ok (.if_icmp .lt 25, 3) := dc_at (f := decode cX12_carve) dAX12_carve_q1 15 rfl
theorem dX12_carve_105 : decode cX12_carve 105 = .ok (.aload_n 0, 1) := dc_at (f := decode cX12_carve) dAX12_carve_q1 16 rfl
theorem dX12_carve_106 : decode cX12_carve 106 = .ok (.getfield 132, 3) := dc_at (f := decode cX12_carve) dAX12_carve_q1 17 rfl
theorem dX12_carve_109 : decode cX12_carve 109 = .ok (.iload_n 3, 1) := dc_at (f := decode cX12_carve) dAX12_carve_q1 18 rfl
theorem dX12_carve_110 : decode cX12_carve 110 = .ok (.baload, 1) := dc_at (f := decode cX12_carve) dAX12_carve_q1 19 rfl
theorem dX12_carve_111 : decode cX12_carve 111 = .ok (.ifCond .eq 6, 3) := dc_at (f := decode cX12_carve) dAX12_carve_q1 20 rfl
theorem dX12_carve_114 : decode cX12_carve 114 = .ok (.goto 13, 3) := dc_at (f := decode cX12_carve) dAX12_carve_q1 21 rfl
theorem dX12_carve_117 : decode cX12_carve 117 = .ok (.aload_n 0, 1) := dc_at (f := decode cX12_carve) dAX12_carve_q1 22 rfl
theorem dX12_carve_118 : decode cX12_carve 118 = .ok (.getfield 200, 3) := dc_at (f := decode cX12_carve) dAX12_carve_q1 23 rfl
theorem dX12_carve_121 : decode cX12_carve 121 = .ok (.iload_n 1, 1) := dc_at (f := decode cX12_carve) dAX12_carve_q1 24 rfl
theorem dX12_carve_122 : decode cX12_carve 122 = .ok (.iload_n 3, 1) := dc_at (f := decode cX12_carve) dAX12_carve_q1 25 rfl
theorem dX12_carve_123 : decode cX12_carve 123 = .ok (.iastore, 1) := dc_at (f := decode cX12_carve) dAX12_carve_q1 26 rfl
theorem dX12_carve_124 : decode cX12_carve 124 = .ok (.iinc 1 1, 3) := dc_at (f := decode cX12_carve) dAX12_carve_q1 27 rfl
theorem dX12_carve_127 : decode cX12_carve 127 = .ok (.iinc 2 1, 3) := dc_at (f := decode cX12_carve) dAX12_carve_q1 28 rfl
theorem dX12_carve_130 : decode cX12_carve 130 = .ok (.goto (-105), 3) := dc_at (f := decode cX12_carve) dAX12_carve_q1 29 rfl
theorem dX12_carve_133 : decode cX12_carve 133 = .ok (.iload_n 1, 1) := dc_at (f := decode cX12_carve) dAX12_carve_q1 30 rfl
theorem dX12_carve_134 : decode cX12_carve 134 = .ok (.ireturn, 1) := dc_at (f := decode cX12_carve) dAX12_carve_q1 31 rfl
def dPX12_stone_q0 : List (Nat × (Jvm.ClassFile.Instr × Nat)) := [(0, (.iload_n 1, 1)), (1, (.i2l, 1)), (2, (.lconst 0, 1)), (3, (.aload_n 0, 1)), (4, (.invokevirtual 314, 3)), (7, (.i2l, 1)), (8, (.lconst 1, 1)), (9, (.lsub, 1)), (10, (.invokestatic 58, 3)), (13, (.ifCond .eq 12, 3)), (16, (.aload_n 0, 1)), (17, (.getfield 200, 3)), (20, (.iload_n 1, 1)), (21, (.iaload, 1)), (22, (.goto 4, 3)), (25, (.iconst (-1), 1)), (26, (.ireturn, 1))]
theorem dAX12_stone_q0 : ∀ x ∈ dPX12_stone_q0, decode cX12_stone x.1 = .ok x.2 := by decide +kernel
theorem dX12_stone_0 : decode cX12_stone 0 = .ok (.iload_n 1, 1) := dc_at (f := decode cX12_stone) dAX12_stone_q0 0 rfl
theorem dX12_stone_1 : decode cX12_stone 1 = .ok (.i2l, 1) := dc_at (f := decode cX12_stone) dAX12_stone_q0 1 rfl
theorem dX12_stone_2 : decode cX12_stone 2 = .ok (.lconst 0, 1) := dc_at (f := decode cX12_stone) dAX12_stone_q0 2 rfl
theorem dX12_stone_3 : decode cX12_stone 3 = .ok (.aload_n 0, 1) := dc_at (f := decode cX12_stone) dAX12_stone_q0 3 rfl
theorem dX12_stone_4 : decode cX12_stone 4 = .ok (.invokevirtual 314, 3) := dc_at (f := decode cX12_stone) dAX12_stone_q0 4 rfl
theorem dX12_stone_7 : decode cX12_stone 7 = .ok (.i2l, 1) := dc_at (f := decode cX12_stone) dAX12_stone_q0 5 rfl
theorem dX12_stone_8 : decode cX12_stone 8 = .ok (.lconst 1, 1) := dc_at (f := decode cX12_stone) dAX12_stone_q0 6 rfl
theorem dX12_stone_9 : decode cX12_stone 9 = .ok (.lsub, 1) := dc_at (f := decode cX12_stone) dAX12_stone_q0 7 rfl
theorem dX12_stone_10 : decode cX12_stone 10 = .ok (.invokestatic 58, 3) := dc_at (f := decode cX12_stone) dAX12_stone_q0 8 rfl
theorem dX12_stone_13 : decode cX12_stone 13 = .ok (.ifCond .eq 12, 3) := dc_at (f := decode cX12_stone) dAX12_stone_q0 9 rfl
theorem dX12_stone_16 : decode cX12_stone 16 = .ok (.aload_n 0, 1) := dc_at (f := decode cX12_stone) dAX12_stone_q0 10 rfl
theorem dX12_stone_17 : decode cX12_stone 17 = .ok (.getfield 200, 3) := dc_at (f := decode cX12_stone) dAX12_stone_q0 11 rfl
theorem dX12_stone_20 : decode cX12_stone 20 = .ok (.iload_n 1, 1) := dc_at (f := decode cX12_stone) dAX12_stone_q0 12 rfl
theorem dX12_stone_21 : decode cX12_stone 21 = .ok (.iaload, 1) := dc_at (f := decode cX12_stone) dAX12_stone_q0 13 rfl
theorem dX12_stone_22 : decode cX12_stone 22 = .ok (.goto 4, 3) := dc_at (f := decode cX12_stone) dAX12_stone_q0 14 rfl
theorem dX12_stone_25 : decode cX12_stone 25 = .ok (.iconst (-1), 1) := dc_at (f := decode cX12_stone) dAX12_stone_q0 15 rfl
theorem dX12_stone_26 : decode cX12_stone 26 = .ok (.ireturn, 1) := dc_at (f := decode cX12_stone) dAX12_stone_q0 16 rfl
def dPX12_allGiven_q0 : List (Nat × (Jvm.ClassFile.Instr × Nat)) := [(0, (.iconst 0, 1)), (1, (.istore_n 1, 1)), (2, (.iconst 0, 1)), (3, (.istore_n 2, 1)), (4, (.iload_n 2, 1)), (5, (.aload_n 0, 1)), (6, (.getfield 246, 3)), (9, (.if_icmp .ge 18, 3)), (12, (.iload_n 1, 1)), (13, (.aload_n 0, 1)), (14, (.getfield 177, 3)), (17, (.iload_n 2, 1)), (18, (.iaload, 1)), (19, (.iadd, 1)), (20, (.istore_n 1, 1)), (21, (.iinc 2 1, 3)), (24, (.goto (-20), 3)), (27, (.iload_n 1, 1)), (28, (.ireturn, 1))]
theorem dAX12_allGiven_q0 : ∀ x ∈ dPX12_allGiven_q0, decode cX12_allGiven x.1 = .ok x.2 := by decide +kernel
theorem dX12_allGiven_0 : decode cX12_allGiven 0 = .ok (.iconst 0, 1) := dc_at (f := decode cX12_allGiven) dAX12_allGiven_q0 0 rfl
theorem dX12_allGiven_1 : decode cX12_allGiven 1 = .ok (.istore_n 1, 1) := dc_at (f := decode cX12_allGiven) dAX12_allGiven_q0 1 rfl
theorem dX12_allGiven_2 : decode cX12_allGiven 2 = .ok (.iconst 0, 1) := dc_at (f := decode cX12_allGiven) dAX12_allGiven_q0 2 rfl
theorem dX12_allGiven_3 : decode cX12_allGiven 3 = .ok (.istore_n 2, 1) := dc_at (f := decode cX12_allGiven) dAX12_allGiven_q0 3 rfl
theorem dX12_allGiven_4 : decode cX12_allGiven 4 = .ok (.iload_n 2, 1) := dc_at (f := decode cX12_allGiven) dAX12_allGiven_q0 4 rfl
theorem dX12_allGiven_5 : decode cX12_allGiven 5 = .ok (.aload_n 0, 1) := dc_at (f := decode cX12_allGiven) dAX12_allGiven_q0 5 rfl
theorem dX12_allGiven_6 : decode cX12_allGiven 6 = .ok (.getfield 246, 3) := dc_at (f := decode cX12_allGiven) dAX12_allGiven_q0 6 rfl
theorem dX12_allGiven_9 : decode cX12_allGiven 9 = .ok (.if_icmp .ge 18, 3) := dc_at (f := decode cX12_allGiven) dAX12_allGiven_q0 7 rfl
theorem dX12_allGiven_12 : decode cX12_allGiven 12 = .ok (.iload_n 1, 1) := dc_at (f := decode cX12_allGiven) dAX12_allGiven_q0 8 rfl
theorem dX12_allGiven_13 : decode cX12_allGiven 13 = .ok (.aload_n 0, 1) := dc_at (f := decode cX12_allGiven) dAX12_allGiven_q0 9 rfl
theorem dX12_allGiven_14 : decode cX12_allGiven 14 = .ok (.getfield 177, 3) := dc_at (f := decode cX12_allGiven) dAX12_allGiven_q0 10 rfl
theorem dX12_allGiven_17 : decode cX12_allGiven 17 = .ok (.iload_n 2, 1) := dc_at (f := decode cX12_allGiven) dAX12_allGiven_q0 11 rfl
theorem dX12_allGiven_18 : decode cX12_allGiven 18 = .ok (.iaload, 1) := dc_at (f := decode cX12_allGiven) dAX12_allGiven_q0 12 rfl
theorem dX12_allGiven_19 : decode cX12_allGiven 19 = .ok (.iadd, 1) := dc_at (f := decode cX12_allGiven) dAX12_allGiven_q0 13 rfl
theorem dX12_allGiven_20 : decode cX12_allGiven 20 = .ok (.istore_n 1, 1) := dc_at (f := decode cX12_allGiven) dAX12_allGiven_q0 14 rfl
theorem dX12_allGiven_21 : decode cX12_allGiven 21 = .ok (.iinc 2 1, 3) := dc_at (f := decode cX12_allGiven) dAX12_allGiven_q0 15 rfl
theorem dX12_allGiven_24 : decode cX12_allGiven 24 = .ok (.goto (-20), 3) := dc_at (f := decode cX12_allGiven) dAX12_allGiven_q0 16 rfl
theorem dX12_allGiven_27 : decode cX12_allGiven 27 = .ok (.iload_n 1, 1) := dc_at (f := decode cX12_allGiven) dAX12_allGiven_q0 17 rfl
theorem dX12_allGiven_28 : decode cX12_allGiven 28 = .ok (.ireturn, 1) := dc_at (f := decode cX12_allGiven) dAX12_allGiven_q0 18 rfl
def dPX12_stop_q0 : List (Nat × (Jvm.ClassFile.Instr × Nat)) := [(0, (.aload_n 0, 1)), (1, (.getfield 224, 3)), (4, (.ifCond .eq 6, 3)), (7, (.bipush (-4), 2)), (9, (.ireturn, 1)), (10, (.aload_n 0, 1)), (11, (.iconst 1, 1)), (12, (.putfield 224, 3)), (15, (.aload_n 0, 1)), (16, (.invokevirtual 317, 3)), (19, (.istore_n 1, 1)), (20, (.iconst 0, 1)), (21, (.istore_n 2, 1)), (22, (.iconst 0, 1)), (23, (.istore_n 3, 1)), (24, (.iload_n 3, 1)), (25, (.bipush 30, 2)), (27, (.if_icmp .ge 77, 3)), (30, (.aload_n 0, 1)), (31, (.getfield 129, 3)), (34, (.iload_n 3, 1)), (35, (.iload_n 1, 1)), (36, (.ifCond .ne 7, 3)), (39, (.iconst 0, 1)), (40, (.goto 48, 3)), (43, (.aload_n 0, 1)), (44, (.getfield 114, 3)), (47, (.bipush 8, 2)), (49, (.iaload, 1)), (50, (.iconst 1, 1)), (51, (.if_icmp .ne 20, 3)), (54, (.aload_n 0, 1)), (55, (.getfield 262, 3)), (58, (.iload_n 1, 1)), (59, (.if_icmp .lt 12, 3)), (62, (.aload_n 0, 1)), (63, (.getfield 126, 3)), (66, (.iload_n 3, 1)), (67, (.iaload, 1)), (68, (.goto 20, 3)), (71, (.aload_n 0, 1)), (72, (.getfield 262, 3)), (75, (.i2l, 1)), (76, (.aload_n 0, 1)), (77, (.getfield 126, 3)), (80, (.iload_n 3, 1)), (81, (.iaload, 1)), (82, (.i2l, 1))]
theorem dAX12_stop_q0 : ∀ x ∈ dPX12_stop_q0, decode cX12_stop x.1 = .ok x.2 := by decide +kernel
theorem dX12_stop_0 : decode cX12_stop 0 = .ok (.aload_n 0, 1) := dc_at (f := decode cX12_stop) dAX12_stop_q0 0 rfl
theorem dX12_stop_1 : decode cX12_stop 1 = .ok (.getfield 224, 3) := dc_at (f := decode cX12_stop) dAX12_stop_q0 1 rfl
theorem dX12_stop_4 : decode cX12_stop 4 = .ok (.ifCond .eq 6, 3) := dc_at (f := decode cX12_stop) dAX12_stop_q0 2 rfl
theorem dX12_stop_7 : decode cX12_stop 7 = .ok (.bipush (-4), 2) := dc_at (f := decode cX12_stop) dAX12_stop_q0 3 rfl
theorem dX12_stop_9 : decode cX12_stop 9 = .ok (.ireturn, 1) := dc_at (f := decode cX12_stop) dAX12_stop_q0 4 rfl
theorem dX12_stop_10 : decode cX12_stop 10 = .ok (.aload_n 0, 1) := dc_at (f := decode cX12_stop) dAX12_stop_q0 5 rfl
theorem dX12_stop_11 : decode cX12_stop 11 = .ok (.iconst 1, 1) := dc_at (f := decode cX12_stop) dAX12_stop_q0 6 rfl
theorem dX12_stop_12 : decode cX12_stop 12 = .ok (.putfield 224, 3) := dc_at (f := decode cX12_stop) dAX12_stop_q0 7 rfl
theorem dX12_stop_15 : decode cX12_stop 15 = .ok (.aload_n 0, 1) := dc_at (f := decode cX12_stop) dAX12_stop_q0 8 rfl
theorem dX12_stop_16 : decode cX12_stop 16 = .ok (.invokevirtual 317, 3) := dc_at (f := decode cX12_stop) dAX12_stop_q0 9 rfl
theorem dX12_stop_19 : decode cX12_stop 19 = .ok (.istore_n 1, 1) := dc_at (f := decode cX12_stop) dAX12_stop_q0 10 rfl
theorem dX12_stop_20 : decode cX12_stop 20 = .ok (.iconst 0, 1) := dc_at (f := decode cX12_stop) dAX12_stop_q0 11 rfl
theorem dX12_stop_21 : decode cX12_stop 21 = .ok (.istore_n 2, 1) := dc_at (f := decode cX12_stop) dAX12_stop_q0 12 rfl
theorem dX12_stop_22 : decode cX12_stop 22 = .ok (.iconst 0, 1) := dc_at (f := decode cX12_stop) dAX12_stop_q0 13 rfl
theorem dX12_stop_23 : decode cX12_stop 23 = .ok (.istore_n 3, 1) := dc_at (f := decode cX12_stop) dAX12_stop_q0 14 rfl
theorem dX12_stop_24 : decode cX12_stop 24 = .ok (.iload_n 3, 1) := dc_at (f := decode cX12_stop) dAX12_stop_q0 15 rfl
theorem dX12_stop_25 : decode cX12_stop 25 = .ok (.bipush 30, 2) := dc_at (f := decode cX12_stop) dAX12_stop_q0 16 rfl
theorem dX12_stop_27 : decode cX12_stop 27 = .ok (.if_icmp .ge 77, 3) := dc_at (f := decode cX12_stop) dAX12_stop_q0 17 rfl
theorem dX12_stop_30 : decode cX12_stop 30 = .ok (.aload_n 0, 1) := dc_at (f := decode cX12_stop) dAX12_stop_q0 18 rfl
theorem dX12_stop_31 : decode cX12_stop 31 = .ok (.getfield 129, 3) := dc_at (f := decode cX12_stop) dAX12_stop_q0 19 rfl
theorem dX12_stop_34 : decode cX12_stop 34 = .ok (.iload_n 3, 1) := dc_at (f := decode cX12_stop) dAX12_stop_q0 20 rfl
theorem dX12_stop_35 : decode cX12_stop 35 = .ok (.iload_n 1, 1) := dc_at (f := decode cX12_stop) dAX12_stop_q0 21 rfl
theorem dX12_stop_36 : decode cX12_stop 36 = .ok (.ifCond .ne 7, 3) := dc_at (f := decode cX12_stop) dAX12_stop_q0 22 rfl
theorem dX12_stop_39 : decode cX12_stop 39 = .ok (.iconst 0, 1) := dc_at (f := decode cX12_stop) dAX12_stop_q0 23 rfl
theorem dX12_stop_40 : decode cX12_stop 40 = .ok (.goto 48, 3) := dc_at (f := decode cX12_stop) dAX12_stop_q0 24 rfl
theorem dX12_stop_43 : decode cX12_stop 43 = .ok (.aload_n 0, 1) := dc_at (f := decode cX12_stop) dAX12_stop_q0 25 rfl
theorem dX12_stop_44 : decode cX12_stop 44 = .ok (.getfield 114, 3) := dc_at (f := decode cX12_stop) dAX12_stop_q0 26 rfl
theorem dX12_stop_47 : decode cX12_stop 47 = .ok (.bipush 8, 2) := dc_at (f := decode cX12_stop) dAX12_stop_q0 27 rfl
theorem dX12_stop_49 : decode cX12_stop 49 = .ok (.iaload, 1) := dc_at (f := decode cX12_stop) dAX12_stop_q0 28 rfl
theorem dX12_stop_50 : decode cX12_stop 50 = .ok (.iconst 1, 1) := dc_at (f := decode cX12_stop) dAX12_stop_q0 29 rfl
theorem dX12_stop_51 : decode cX12_stop 51 = .ok (.if_icmp .ne 20, 3) := dc_at (f := decode cX12_stop) dAX12_stop_q0 30 rfl
theorem dX12_stop_54 : decode cX12_stop 54 = .ok (.aload_n 0, 1) := dc_at (f := decode cX12_stop) dAX12_stop_q0 31 rfl
theorem dX12_stop_55 : decode cX12_stop 55 = .ok (.getfield 262, 3) := dc_at (f := decode cX12_stop) dAX12_stop_q0 32 rfl
theorem dX12_stop_58 : decode cX12_stop 58 = .ok (.iload_n 1, 1) := dc_at (f := decode cX12_stop) dAX12_stop_q0 33 rfl
theorem dX12_stop_59 : decode cX12_stop 59 = .ok (.if_icmp .lt 12, 3) := dc_at (f := decode cX12_stop) dAX12_stop_q0 34 rfl
theorem dX12_stop_62 : decode cX12_stop 62 = .ok (.aload_n 0, 1) := dc_at (f := decode cX12_stop) dAX12_stop_q0 35 rfl
theorem dX12_stop_63 : decode cX12_stop 63 = .ok (.getfield 126, 3) := dc_at (f := decode cX12_stop) dAX12_stop_q0 36 rfl
theorem dX12_stop_66 : decode cX12_stop 66 = .ok (.iload_n 3, 1) := dc_at (f := decode cX12_stop) dAX12_stop_q0 37 rfl
theorem dX12_stop_67 : decode cX12_stop 67 = .ok (.iaload, 1) := dc_at (f := decode cX12_stop) dAX12_stop_q0 38 rfl
theorem dX12_stop_68 : decode cX12_stop 68 = .ok (.goto 20, 3) := dc_at (f := decode cX12_stop) dAX12_stop_q0 39 rfl
theorem dX12_stop_71 : decode cX12_stop 71 = .ok (.aload_n 0, 1) := dc_at (f := decode cX12_stop) dAX12_stop_q0 40 rfl
theorem dX12_stop_72 : decode cX12_stop 72 = .ok (.getfield 262, 3) := dc_at (f := decode cX12_stop) dAX12_stop_q0 41 rfl
theorem dX12_stop_75 : decode cX12_stop 75 = .ok (.i2l, 1) := dc_at (f := decode cX12_stop) dAX12_stop_q0 42 rfl
theorem dX12_stop_76 : decode cX12_stop 76 = .ok (.aload_n 0, 1) := dc_at (f := decode cX12_stop) dAX12_stop_q0 43 rfl
theorem dX12_stop_77 : decode cX12_stop 77 = .ok (.getfield 126, 3) := dc_at (f := decode cX12_stop) dAX12_stop_q0 44 rfl
theorem dX12_stop_80 : decode cX12_stop 80 = .ok (.iload_n 3, 1) := dc_at (f := decode cX12_stop) dAX12_stop_q0 45 rfl
theorem dX12_stop_81 : decode cX12_stop 81 = .ok (.iaload, 1) := dc_at (f := decode cX12_stop) dAX12_stop_q0 46 rfl
theorem dX12_stop_82 : decode cX12_stop 82 = .ok (.i2l, 1) := dc_at (f := decode cX12_stop) dAX12_stop_q0 47 rfl
def dPX12_stop_q1 : List (Nat × (Jvm.ClassFile.Instr × Nat)) := [(83, (.lmul, 1)), (84, (.iload_n 1, 1)), (85, (.i2l, 1)), (86, (.ldiv, 1)), (87, (.l2i, 1)), (88, (.iastore, 1)), (89, (.iload_n 2, 1)), (90, (.aload_n 0, 1)), (91, (.getfield 129, 3)), (94, (.iload_n 3, 1)), (95, (.iaload, 1)), (96, (.iadd, 1)), (97, (.istore_n 2, 1)), (98, (.iinc 3 1, 3)), (101, (.goto (-77), 3)), (104, (.aload_n 0, 1)), (105, (.dup, 1)), (106, (.getfield 262, 3)), (109, (.iload_n 2, 1)), (110, (.isub, 1)), (111, (.putfield 262, 3)), (114, (.iload_n 2, 1)), (115, (.ireturn, 1))]
theorem dAX12_stop_q1 : ∀ x ∈ dPX12_stop_q1, decode cX12_stop x.1 = .ok x.2 := by decide +kernel
theorem dX12_stop_83 : decode cX12_stop 83 = .ok (.lmul, 1) := dc_at (f := decode cX12_stop) dAX12_stop_q1 0 rfl
theorem dX12_stop_84 : decode cX12_stop 84 = .ok (.iload_n 1, 1) := dc_at (f := decode cX12_stop) dAX12_stop_q1 1 rfl
theorem dX12_stop_85 : decode cX12_stop 85 = .ok (.i2l, 1) := dc_at (f := decode cX12_stop) dAX12_stop_q1 2 rfl
theorem dX12_stop_86 : decode cX12_stop 86 = .ok (.ldiv, 1) := dc_at (f := decode cX12_stop) dAX12_stop_q1 3 rfl
theorem dX12_stop_87 : decode cX12_stop 87 = .ok (.l2i, 1) := dc_at (f := decode cX12_stop) dAX12_stop_q1 4 rfl
theorem dX12_stop_88 : decode cX12_stop 88 = .ok (.iastore, 1) := dc_at (f := decode cX12_stop) dAX12_stop_q1 5 rfl
theorem dX12_stop_89 : decode cX12_stop 89 = .ok (.iload_n 2, 1) := dc_at (f := decode cX12_stop) dAX12_stop_q1 6 rfl
theorem dX12_stop_90 : decode cX12_stop 90 = .ok (.aload_n 0, 1) := dc_at (f := decode cX12_stop) dAX12_stop_q1 7 rfl
theorem dX12_stop_91 : decode cX12_stop 91 = .ok (.getfield 129, 3) := dc_at (f := decode cX12_stop) dAX12_stop_q1 8 rfl
theorem dX12_stop_94 : decode cX12_stop 94 = .ok (.iload_n 3, 1) := dc_at (f := decode cX12_stop) dAX12_stop_q1 9 rfl
theorem dX12_stop_95 : decode cX12_stop 95 = .ok (.iaload, 1) := dc_at (f := decode cX12_stop) dAX12_stop_q1 10 rfl
theorem dX12_stop_96 : decode cX12_stop 96 = .ok (.iadd, 1) := dc_at (f := decode cX12_stop) dAX12_stop_q1 11 rfl
theorem dX12_stop_97 : decode cX12_stop 97 = .ok (.istore_n 2, 1) := dc_at (f := decode cX12_stop) dAX12_stop_q1 12 rfl
theorem dX12_stop_98 : decode cX12_stop 98 = .ok (.iinc 3 1, 3) := dc_at (f := decode cX12_stop) dAX12_stop_q1 13 rfl
theorem dX12_stop_101 : decode cX12_stop 101 = .ok (.goto (-77), 3) := dc_at (f := decode cX12_stop) dAX12_stop_q1 14 rfl
theorem dX12_stop_104 : decode cX12_stop 104 = .ok (.aload_n 0, 1) := dc_at (f := decode cX12_stop) dAX12_stop_q1 15 rfl
theorem dX12_stop_105 : decode cX12_stop 105 = .ok (.dup, 1) := dc_at (f := decode cX12_stop) dAX12_stop_q1 16 rfl
theorem dX12_stop_106 : decode cX12_stop 106 = .ok (.getfield 262, 3) := dc_at (f := decode cX12_stop) dAX12_stop_q1 17 rfl
theorem dX12_stop_109 : decode cX12_stop 109 = .ok (.iload_n 2, 1) := dc_at (f := decode cX12_stop) dAX12_stop_q1 18 rfl
theorem dX12_stop_110 : decode cX12_stop 110 = .ok (.isub, 1) := dc_at (f := decode cX12_stop) dAX12_stop_q1 19 rfl
theorem dX12_stop_111 : decode cX12_stop 111 = .ok (.putfield 262, 3) := dc_at (f := decode cX12_stop) dAX12_stop_q1 20 rfl
theorem dX12_stop_114 : decode cX12_stop 114 = .ok (.iload_n 2, 1) := dc_at (f := decode cX12_stop) dAX12_stop_q1 21 rfl
theorem dX12_stop_115 : decode cX12_stop 115 = .ok (.ireturn, 1) := dc_at (f := decode cX12_stop) dAX12_stop_q1 22 rfl
def dPX12_back_q0 : List (Nat × (Jvm.ClassFile.Instr × Nat)) := [(0, (.iload_n 1, 1)), (1, (.invokestatic 218, 3)), (4, (.ifCond .eq 12, 3)), (7, (.aload_n 0, 1)), (8, (.getfield 129, 3)), (11, (.iload_n 1, 1)), (12, (.iaload, 1)), (13, (.goto 5, 3)), (16, (.bipush (-2), 2)), (18, (.ireturn, 1))]
theorem dAX12_back_q0 : ∀ x ∈ dPX12_back_q0, decode cX12_back x.1 = .ok x.2 := by decide +kernel
theorem dX12_back_0 : decode cX12_back 0 = .ok (.iload_n 1, 1) := dc_at (f := decode cX12_back) dAX12_back_q0 0 rfl
theorem dX12_back_1 : decode cX12_back 1 = .ok (.invokestatic 218, 3) := dc_at (f := decode cX12_back) dAX12_back_q0 1 rfl
theorem dX12_back_4 : decode cX12_back 4 = .ok (.ifCond .eq 12, 3) := dc_at (f := decode cX12_back) dAX12_back_q0 2 rfl
theorem dX12_back_7 : decode cX12_back 7 = .ok (.aload_n 0, 1) := dc_at (f := decode cX12_back) dAX12_back_q0 3 rfl
theorem dX12_back_8 : decode cX12_back 8 = .ok (.getfield 129, 3) := dc_at (f := decode cX12_back) dAX12_back_q0 4 rfl
theorem dX12_back_11 : decode cX12_back 11 = .ok (.iload_n 1, 1) := dc_at (f := decode cX12_back) dAX12_back_q0 5 rfl
theorem dX12_back_12 : decode cX12_back 12 = .ok (.iaload, 1) := dc_at (f := decode cX12_back) dAX12_back_q0 6 rfl
theorem dX12_back_13 : decode cX12_back 13 = .ok (.goto 5, 3) := dc_at (f := decode cX12_back) dAX12_back_q0 7 rfl
theorem dX12_back_16 : decode cX12_back 16 = .ok (.bipush (-2), 2) := dc_at (f := decode cX12_back) dAX12_back_q0 8 rfl
theorem dX12_back_18 : decode cX12_back 18 = .ok (.ireturn, 1) := dc_at (f := decode cX12_back) dAX12_back_q0 9 rfl
def dPX12_count_q0 : List (Nat × (Jvm.ClassFile.Instr × Nat)) := [(0, (.iload_n 1, 1)), (1, (.tableswitch 190 0 14 #[75, 80, 85, 90, 95, 100, 105, 110, 115, 120, 157, 162, 167, 180, 185], 75)), (76, (.aload_n 0, 1)), (77, (.getfield 230, 3)), (80, (.ireturn, 1)), (81, (.aload_n 0, 1)), (82, (.getfield 262, 3)), (85, (.ireturn, 1)), (86, (.aload_n 0, 1)), (87, (.getfield 296, 3)), (90, (.ireturn, 1)), (91, (.aload_n 0, 1)), (92, (.invokevirtual 317, 3)), (95, (.ireturn, 1)), (96, (.aload_n 0, 1)), (97, (.getfield 251, 3)), (100, (.ireturn, 1)), (101, (.aload_n 0, 1)), (102, (.getfield 276, 3)), (105, (.ireturn, 1)), (106, (.aload_n 0, 1)), (107, (.getfield 298, 3)), (110, (.ireturn, 1)), (111, (.aload_n 0, 1)), (112, (.getfield 305, 3)), (115, (.ireturn, 1)), (116, (.aload_n 0, 1)), (117, (.getfield 237, 3)), (120, (.ireturn, 1)), (121, (.iconst 0, 1)), (122, (.istore_n 2, 1)), (123, (.iconst 0, 1)), (124, (.istore_n 3, 1)), (125, (.iload_n 3, 1)), (126, (.aload_n 0, 1)), (127, (.getfield 237, 3)), (130, (.if_icmp .ge 26, 3)), (133, (.iload_n 2, 1)), (134, (.aload_n 0, 1)), (135, (.getfield 153, 3)), (138, (.iload_n 3, 1)), (139, (.baload, 1)), (140, (.ifCond .eq 7, 3)), (143, (.iconst 1, 1)), (144, (.goto 4, 3)), (147, (.iconst 0, 1)), (148, (.iadd, 1)), (149, (.istore_n 2, 1))]
theorem dAX12_count_q0 : ∀ x ∈ dPX12_count_q0, decode cX12_count x.1 = .ok x.2 := by decide +kernel
theorem dX12_count_0 : decode cX12_count 0 = .ok (.iload_n 1, 1) := dc_at (f := decode cX12_count) dAX12_count_q0 0 rfl
theorem dX12_count_1 : decode cX12_count 1 = .ok (.tableswitch 190 0 14 #[75, 80, 85, 90, 95, 100, 105, 110, 115, 120, 157, 162, 167, 180, 185], 75) := dc_at (f := decode cX12_count) dAX12_count_q0 1 rfl
theorem dX12_count_76 : decode cX12_count 76 = .ok (.aload_n 0, 1) := dc_at (f := decode cX12_count) dAX12_count_q0 2 rfl
theorem dX12_count_77 : decode cX12_count 77 = .ok (.getfield 230, 3) := dc_at (f := decode cX12_count) dAX12_count_q0 3 rfl
theorem dX12_count_80 : decode cX12_count 80 = .ok (.ireturn, 1) := dc_at (f := decode cX12_count) dAX12_count_q0 4 rfl
theorem dX12_count_81 : decode cX12_count 81 = .ok (.aload_n 0, 1) := dc_at (f := decode cX12_count) dAX12_count_q0 5 rfl
theorem dX12_count_82 : decode cX12_count 82 = .ok (.getfield 262, 3) := dc_at (f := decode cX12_count) dAX12_count_q0 6 rfl
theorem dX12_count_85 : decode cX12_count 85 = .ok (.ireturn, 1) := dc_at (f := decode cX12_count) dAX12_count_q0 7 rfl
theorem dX12_count_86 : decode cX12_count 86 = .ok (.aload_n 0, 1) := dc_at (f := decode cX12_count) dAX12_count_q0 8 rfl
theorem dX12_count_87 : decode cX12_count 87 = .ok (.getfield 296, 3) := dc_at (f := decode cX12_count) dAX12_count_q0 9 rfl
theorem dX12_count_90 : decode cX12_count 90 = .ok (.ireturn, 1) := dc_at (f := decode cX12_count) dAX12_count_q0 10 rfl
theorem dX12_count_91 : decode cX12_count 91 = .ok (.aload_n 0, 1) := dc_at (f := decode cX12_count) dAX12_count_q0 11 rfl
theorem dX12_count_92 : decode cX12_count 92 = .ok (.invokevirtual 317, 3) := dc_at (f := decode cX12_count) dAX12_count_q0 12 rfl
theorem dX12_count_95 : decode cX12_count 95 = .ok (.ireturn, 1) := dc_at (f := decode cX12_count) dAX12_count_q0 13 rfl
theorem dX12_count_96 : decode cX12_count 96 = .ok (.aload_n 0, 1) := dc_at (f := decode cX12_count) dAX12_count_q0 14 rfl
theorem dX12_count_97 : decode cX12_count 97 = .ok (.getfield 251, 3) := dc_at (f := decode cX12_count) dAX12_count_q0 15 rfl
theorem dX12_count_100 : decode cX12_count 100 = .ok (.ireturn, 1) := dc_at (f := decode cX12_count) dAX12_count_q0 16 rfl
theorem dX12_count_101 : decode cX12_count 101 = .ok (.aload_n 0, 1) := dc_at (f := decode cX12_count) dAX12_count_q0 17 rfl
theorem dX12_count_102 : decode cX12_count 102 = .ok (.getfield 276, 3) := dc_at (f := decode cX12_count) dAX12_count_q0 18 rfl
theorem dX12_count_105 : decode cX12_count 105 = .ok (.ireturn, 1) := dc_at (f := decode cX12_count) dAX12_count_q0 19 rfl
theorem dX12_count_106 : decode cX12_count 106 = .ok (.aload_n 0, 1) := dc_at (f := decode cX12_count) dAX12_count_q0 20 rfl
theorem dX12_count_107 : decode cX12_count 107 = .ok (.getfield 298, 3) := dc_at (f := decode cX12_count) dAX12_count_q0 21 rfl
theorem dX12_count_110 : decode cX12_count 110 = .ok (.ireturn, 1) := dc_at (f := decode cX12_count) dAX12_count_q0 22 rfl
theorem dX12_count_111 : decode cX12_count 111 = .ok (.aload_n 0, 1) := dc_at (f := decode cX12_count) dAX12_count_q0 23 rfl
theorem dX12_count_112 : decode cX12_count 112 = .ok (.getfield 305, 3) := dc_at (f := decode cX12_count) dAX12_count_q0 24 rfl
theorem dX12_count_115 : decode cX12_count 115 = .ok (.ireturn, 1) := dc_at (f := decode cX12_count) dAX12_count_q0 25 rfl
theorem dX12_count_116 : decode cX12_count 116 = .ok (.aload_n 0, 1) := dc_at (f := decode cX12_count) dAX12_count_q0 26 rfl
theorem dX12_count_117 : decode cX12_count 117 = .ok (.getfield 237, 3) := dc_at (f := decode cX12_count) dAX12_count_q0 27 rfl
theorem dX12_count_120 : decode cX12_count 120 = .ok (.ireturn, 1) := dc_at (f := decode cX12_count) dAX12_count_q0 28 rfl
theorem dX12_count_121 : decode cX12_count 121 = .ok (.iconst 0, 1) := dc_at (f := decode cX12_count) dAX12_count_q0 29 rfl
theorem dX12_count_122 : decode cX12_count 122 = .ok (.istore_n 2, 1) := dc_at (f := decode cX12_count) dAX12_count_q0 30 rfl
theorem dX12_count_123 : decode cX12_count 123 = .ok (.iconst 0, 1) := dc_at (f := decode cX12_count) dAX12_count_q0 31 rfl
theorem dX12_count_124 : decode cX12_count 124 = .ok (.istore_n 3, 1) := dc_at (f := decode cX12_count) dAX12_count_q0 32 rfl
theorem dX12_count_125 : decode cX12_count 125 = .ok (.iload_n 3, 1) := dc_at (f := decode cX12_count) dAX12_count_q0 33 rfl
theorem dX12_count_126 : decode cX12_count 126 = .ok (.aload_n 0, 1) := dc_at (f := decode cX12_count) dAX12_count_q0 34 rfl
theorem dX12_count_127 : decode cX12_count 127 = .ok (.getfield 237, 3) := dc_at (f := decode cX12_count) dAX12_count_q0 35 rfl
theorem dX12_count_130 : decode cX12_count 130 = .ok (.if_icmp .ge 26, 3) := dc_at (f := decode cX12_count) dAX12_count_q0 36 rfl
theorem dX12_count_133 : decode cX12_count 133 = .ok (.iload_n 2, 1) := dc_at (f := decode cX12_count) dAX12_count_q0 37 rfl
theorem dX12_count_134 : decode cX12_count 134 = .ok (.aload_n 0, 1) := dc_at (f := decode cX12_count) dAX12_count_q0 38 rfl
theorem dX12_count_135 : decode cX12_count 135 = .ok (.getfield 153, 3) := dc_at (f := decode cX12_count) dAX12_count_q0 39 rfl
theorem dX12_count_138 : decode cX12_count 138 = .ok (.iload_n 3, 1) := dc_at (f := decode cX12_count) dAX12_count_q0 40 rfl
theorem dX12_count_139 : decode cX12_count 139 = .ok (.baload, 1) := dc_at (f := decode cX12_count) dAX12_count_q0 41 rfl
theorem dX12_count_140 : decode cX12_count 140 = .ok (.ifCond .eq 7, 3) := dc_at (f := decode cX12_count) dAX12_count_q0 42 rfl
theorem dX12_count_143 : decode cX12_count 143 = .ok (.iconst 1, 1) := dc_at (f := decode cX12_count) dAX12_count_q0 43 rfl
theorem dX12_count_144 : decode cX12_count 144 = .ok (.goto 4, 3) := dc_at (f := decode cX12_count) dAX12_count_q0 44 rfl
theorem dX12_count_147 : decode cX12_count 147 = .ok (.iconst 0, 1) := dc_at (f := decode cX12_count) dAX12_count_q0 45 rfl
theorem dX12_count_148 : decode cX12_count 148 = .ok (.iadd, 1) := dc_at (f := decode cX12_count) dAX12_count_q0 46 rfl
theorem dX12_count_149 : decode cX12_count 149 = .ok (.istore_n 2, 1) := dc_at (f := decode cX12_count) dAX12_count_q0 47 rfl

