theorem dX12_claim_109 : decode cX12_claim 109 = .ok (.lmul, 1) := by decide +kernel
theorem dX12_claim_110 : decode cX12_claim 110 = .ok (.ldc2_w 249, 3) := by decide +kernel
theorem dX12_claim_113 : decode cX12_claim 113 = .ok (.ldiv, 1) := by decide +kernel
theorem dX12_claim_114 : decode cX12_claim 114 = .ok (.l2i, 1) := by decide +kernel
theorem dX12_claim_115 : decode cX12_claim 115 = .ok (.iadd, 1) := by decide +kernel
theorem dX12_claim_116 : decode cX12_claim 116 = .ok (.istore_n 1, 1) := by decide +kernel
theorem dX12_claim_117 : decode cX12_claim 117 = .ok (.iinc 2 1, 3) := by decide +kernel
theorem dX12_claim_120 : decode cX12_claim 120 = .ok (.goto (-106), 3) := by decide +kernel
theorem dX12_claim_123 : decode cX12_claim 123 = .ok (.aload_n 0, 1) := by decide +kernel
theorem dX12_claim_124 : decode cX12_claim 124 = .ok (.dup, 1) := by decide +kernel
theorem dX12_claim_125 : decode cX12_claim 125 = .ok (.getfield 276, 3) := by decide +kernel
theorem dX12_claim_128 : decode cX12_claim 128 = .ok (.iload_n 1, 1) := by decide +kernel
theorem dX12_claim_129 : decode cX12_claim 129 = .ok (.iadd, 1) := by decide +kernel
theorem dX12_claim_130 : decode cX12_claim 130 = .ok (.putfield 276, 3) := by decide +kernel
theorem dX12_claim_133 : decode cX12_claim 133 = .ok (.aload_n 0, 1) := by decide +kernel
theorem dX12_claim_134 : decode cX12_claim 134 = .ok (.dup, 1) := by decide +kernel
theorem dX12_claim_135 : decode cX12_claim 135 = .ok (.getfield 262, 3) := by decide +kernel
theorem dX12_claim_138 : decode cX12_claim 138 = .ok (.iload_n 1, 1) := by decide +kernel
theorem dX12_claim_139 : decode cX12_claim 139 = .ok (.iadd, 1) := by decide +kernel
theorem dX12_claim_140 : decode cX12_claim 140 = .ok (.putfield 262, 3) := by decide +kernel
theorem dX12_claim_143 : decode cX12_claim 143 = .ok (.iload_n 1, 1) := by decide +kernel
theorem dX12_claim_144 : decode cX12_claim 144 = .ok (.ireturn, 1) := by decide +kernel
theorem dX12_overdue_0 : decode cX12_overdue 0 = .ok (.iconst 0, 1) := by decide +kernel
theorem dX12_overdue_1 : decode cX12_overdue 1 = .ok (.istore_n 2, 1) := by decide +kernel
theorem dX12_overdue_2 : decode cX12_overdue 2 = .ok (.iconst 0, 1) := by decide +kernel
theorem dX12_overdue_3 : decode cX12_overdue 3 = .ok (.istore_n 3, 1) := by decide +kernel
theorem dX12_overdue_4 : decode cX12_overdue 4 = .ok (.iload_n 3, 1) := by decide +kernel
theorem dX12_overdue_5 : decode cX12_overdue 5 = .ok (.aload_n 0, 1) := by decide +kernel
theorem dX12_overdue_6 : decode cX12_overdue 6 = .ok (.getfield 147, 3) := by decide +kernel
theorem dX12_overdue_9 : decode cX12_overdue 9 = .ok (.iload_n 1, 1) := by decide +kernel
theorem dX12_overdue_10 : decode cX12_overdue 10 = .ok (.iaload, 1) := by decide +kernel
theorem dX12_overdue_11 : decode cX12_overdue 11 = .ok (.if_icmp .ge 69, 3) := by decide +kernel
theorem dX12_overdue_14 : decode cX12_overdue 14 = .ok (.iload_n 2, 1) := by decide +kernel
theorem dX12_overdue_15 : decode cX12_overdue 15 = .ok (.aload_n 0, 1) := by decide +kernel
theorem dX12_overdue_16 : decode cX12_overdue 16 = .ok (.getfield 165, 3) := by decide +kernel
theorem dX12_overdue_19 : decode cX12_overdue 19 = .ok (.bipush 84, 2) := by decide +kernel
theorem dX12_overdue_21 : decode cX12_overdue 21 = .ok (.iload_n 1, 1) := by decide +kernel
theorem dX12_overdue_22 : decode cX12_overdue 22 = .ok (.imul, 1) := by decide +kernel
theorem dX12_overdue_23 : decode cX12_overdue 23 = .ok (.iload_n 3, 1) := by decide +kernel
theorem dX12_overdue_24 : decode cX12_overdue 24 = .ok (.iadd, 1) := by decide +kernel
theorem dX12_overdue_25 : decode cX12_overdue 25 = .ok (.baload, 1) := by decide +kernel
theorem dX12_overdue_26 : decode cX12_overdue 26 = .ok (.ifCond .eq 45, 3) := by decide +kernel
theorem dX12_overdue_29 : decode cX12_overdue 29 = .ok (.aload_n 0, 1) := by decide +kernel
theorem dX12_overdue_30 : decode cX12_overdue 30 = .ok (.iload_n 1, 1) := by decide +kernel
theorem dX12_overdue_31 : decode cX12_overdue 31 = .ok (.iload_n 3, 1) := by decide +kernel
theorem dX12_overdue_32 : decode cX12_overdue 32 = .ok (.invokevirtual 240, 3) := by decide +kernel
theorem dX12_overdue_35 : decode cX12_overdue 35 = .ok (.aload_n 0, 1) := by decide +kernel
theorem dX12_overdue_36 : decode cX12_overdue 36 = .ok (.getfield 230, 3) := by decide +kernel
theorem dX12_overdue_39 : decode cX12_overdue 39 = .ok (.if_icmp .gt 32, 3) := by decide +kernel
theorem dX12_overdue_42 : decode cX12_overdue 42 = .ok (.aload_n 0, 1) := by decide +kernel
theorem dX12_overdue_43 : decode cX12_overdue 43 = .ok (.getfield 162, 3) := by decide +kernel
theorem dX12_overdue_46 : decode cX12_overdue 46 = .ok (.bipush 84, 2) := by decide +kernel
theorem dX12_overdue_48 : decode cX12_overdue 48 = .ok (.iload_n 1, 1) := by decide +kernel
theorem dX12_overdue_49 : decode cX12_overdue 49 = .ok (.imul, 1) := by decide +kernel
theorem dX12_overdue_50 : decode cX12_overdue 50 = .ok (.iload_n 3, 1) := by decide +kernel
theorem dX12_overdue_51 : decode cX12_overdue 51 = .ok (.iadd, 1) := by decide +kernel
theorem dX12_overdue_52 : decode cX12_overdue 52 = .ok (.iaload, 1) := by decide +kernel
theorem dX12_overdue_53 : decode cX12_overdue 53 = .ok (.aload_n 0, 1) := by decide +kernel
theorem dX12_overdue_54 : decode cX12_overdue 54 = .ok (.getfield 159, 3) := by decide +kernel
theorem dX12_overdue_57 : decode cX12_overdue 57 = .ok (.bipush 84, 2) := by decide +kernel
theorem dX12_overdue_59 : decode cX12_overdue 59 = .ok (.iload_n 1, 1) := by decide +kernel
theorem dX12_overdue_60 : decode cX12_overdue 60 = .ok (.imul, 1) := by decide +kernel
theorem dX12_overdue_61 : decode cX12_overdue 61 = .ok (.iload_n 3, 1) := by decide +kernel
theorem dX12_overdue_62 : decode cX12_overdue 62 = .ok (.iadd, 1) := by decide +kernel
theorem dX12_overdue_63 : decode cX12_overdue 63 = .ok (.iaload, 1) := by decide +kernel
theorem dX12_overdue_64 : decode cX12_overdue 64 = .ok (.if_icmp .ge 7, 3) := by decide +kernel
theorem dX12_overdue_67 : decode cX12_overdue 67 = .ok (.iconst 1, 1) := by decide +kernel
theorem dX12_overdue_68 : decode cX12_overdue 68 = .ok (.goto 4, 3) := by decide +kernel
theorem dX12_overdue_71 : decode cX12_overdue 71 = .ok (.iconst 0, 1) := by decide +kernel
theorem dX12_overdue_72 : decode cX12_overdue 72 = .ok (.iadd, 1) := by decide +kernel
theorem dX12_overdue_73 : decode cX12_overdue 73 = .ok (.istore_n 2, 1) := by decide +kernel
theorem dX12_overdue_74 : decode cX12_overdue 74 = .ok (.iinc 3 1, 3) := by decide +kernel
theorem dX12_overdue_77 : decode cX12_overdue 77 = .ok (.goto (-73), 3) := by decide +kernel
theorem dX12_overdue_80 : decode cX12_overdue 80 = .ok (.iload_n 2, 1) := by decide +kernel
theorem dX12_overdue_81 : decode cX12_overdue 81 = .ok (.ireturn, 1) := by decide +kernel
theorem dX12_about_0 : decode cX12_about 0 = .ok (.aload_n 0, 1) := by decide +kernel
theorem dX12_about_1 : decode cX12_about 1 = .ok (.iload_n 1, 1) := by decide +kernel
theorem dX12_about_2 : decode cX12_about 2 = .ok (.invokevirtual 243, 3) := by decide +kernel
theorem dX12_about_5 : decode cX12_about 5 = .ok (.ifCond .ne 5, 3) := by decide +kernel
theorem dX12_about_8 : decode cX12_about 8 = .ok (.iconst (-1), 1) := by decide +kernel
theorem dX12_about_9 : decode cX12_about 9 = .ok (.ireturn, 1) := by decide +kernel
theorem dX12_about_10 : decode cX12_about 10 = .ok (.iconst 0, 1) := by decide +kernel
theorem dX12_about_11 : decode cX12_about 11 = .ok (.istore_n 3, 1) := by decide +kernel
theorem dX12_about_12 : decode cX12_about 12 = .ok (.iload_n 2, 1) := by decide +kernel
theorem dX12_about_13 : decode cX12_about 13 = .ok (.tableswitch 216 0 7 #[47, 54, 61, 80, 120, 126, 141, 148], 47) := by decide +kernel
theorem dX12_about_60 : decode cX12_about 60 = .ok (.aload_n 0, 1) := by decide +kernel
theorem dX12_about_61 : decode cX12_about 61 = .ok (.getfield 135, 3) := by decide +kernel
theorem dX12_about_64 : decode cX12_about 64 = .ok (.iload_n 1, 1) := by decide +kernel
theorem dX12_about_65 : decode cX12_about 65 = .ok (.iaload, 1) := by decide +kernel
theorem dX12_about_66 : decode cX12_about 66 = .ok (.ireturn, 1) := by decide +kernel
theorem dX12_about_67 : decode cX12_about 67 = .ok (.aload_n 0, 1) := by decide +kernel
theorem dX12_about_68 : decode cX12_about 68 = .ok (.getfield 138, 3) := by decide +kernel
theorem dX12_about_71 : decode cX12_about 71 = .ok (.iload_n 1, 1) := by decide +kernel
theorem dX12_about_72 : decode cX12_about 72 = .ok (.iaload, 1) := by decide +kernel
theorem dX12_about_73 : decode cX12_about 73 = .ok (.ireturn, 1) := by decide +kernel
theorem dX12_about_74 : decode cX12_about 74 = .ok (.aload_n 0, 1) := by decide +kernel
theorem dX12_about_75 : decode cX12_about 75 = .ok (.getfield 153, 3) := by decide +kernel
theorem dX12_about_78 : decode cX12_about 78 = .ok (.iload_n 1, 1) := by decide +kernel
theorem dX12_about_79 : decode cX12_about 79 = .ok (.baload, 1) := by decide +kernel
theorem dX12_about_80 : decode cX12_about 80 = .ok (.ifCond .eq 7, 3) := by decide +kernel
theorem dX12_about_83 : decode cX12_about 83 = .ok (.iconst 0, 1) := by decide +kernel
theorem dX12_about_84 : decode cX12_about 84 = .ok (.goto 8, 3) := by decide +kernel
theorem dX12_about_87 : decode cX12_about 87 = .ok (.aload_n 0, 1) := by decide +kernel
theorem dX12_about_88 : decode cX12_about 88 = .ok (.iload_n 1, 1) := by decide +kernel
theorem dX12_about_89 : decode cX12_about 89 = .ok (.invokevirtual 279, 3) := by decide +kernel
theorem dX12_about_92 : decode cX12_about 92 = .ok (.ireturn, 1) := by decide +kernel
theorem dX12_about_93 : decode cX12_about 93 = .ok (.bipush 84, 2) := by decide +kernel
theorem dX12_about_95 : decode cX12_about 95 = .ok (.iload_n 1, 1) := by decide +kernel
theorem dX12_about_96 : decode cX12_about 96 = .ok (.imul, 1) := by decide +kernel
theorem dX12_about_97 : decode cX12_about 97 = .ok (.istore 4, 2) := by decide +kernel
theorem dX12_about_99 : decode cX12_about 99 = .ok (.iload 4, 2) := by decide +kernel
theorem dX12_about_101 : decode cX12_about 101 = .ok (.bipush 84, 2) := by decide +kernel
theorem dX12_about_103 : decode cX12_about 103 = .ok (.iload_n 1, 1) := by decide +kernel
theorem dX12_about_104 : decode cX12_about 104 = .ok (.imul, 1) := by decide +kernel
theorem dX12_about_105 : decode cX12_about 105 = .ok (.aload_n 0, 1) := by decide +kernel
theorem dX12_about_106 : decode cX12_about 106 = .ok (.getfield 147, 3) := by decide +kernel
theorem dX12_about_109 : decode cX12_about 109 = .ok (.iload_n 1, 1) := by decide +kernel
theorem dX12_about_110 : decode cX12_about 110 = .ok (.iaload, 1) := by decide +kernel
theorem dX12_about_111 : decode cX12_about 111 = .ok (.iadd, 1) := by decide +kernel
theorem dX12_about_112 : decode cX12_about 112 = .ok (.if_icmp .ge 19, 3) := by decide +kernel
theorem dX12_about_115 : decode cX12_about 115 = .ok (.iload_n 3, 1) := by decide +kernel
theorem dX12_about_116 : decode cX12_about 116 = .ok (.aload_n 0, 1) := by decide +kernel
theorem dX12_about_117 : decode cX12_about 117 = .ok (.getfield 162, 3) := by decide +kernel
theorem dX12_about_120 : decode cX12_about 120 = .ok (.iload 4, 2) := by decide +kernel
theorem dX12_about_122 : decode cX12_about 122 = .ok (.iaload, 1) := by decide +kernel
theorem dX12_about_123 : decode cX12_about 123 = .ok (.iadd, 1) := by decide +kernel
theorem dX12_about_124 : decode cX12_about 124 = .ok (.istore_n 3, 1) := by decide +kernel
theorem dX12_about_125 : decode cX12_about 125 = .ok (.iinc 4 1, 3) := by decide +kernel
theorem dX12_about_128 : decode cX12_about 128 = .ok (.goto (-29), 3) := by decide +kernel
theorem dX12_about_131 : decode cX12_about 131 = .ok (.iload_n 3, 1) := by decide +kernel
theorem dX12_about_132 : decode cX12_about 132 = .ok (.ireturn, 1) := by decide +kernel
theorem dX12_about_133 : decode cX12_about 133 = .ok (.aload_n 0, 1) := by decide +kernel
theorem dX12_about_134 : decode cX12_about 134 = .ok (.iload_n 1, 1) := by decide +kernel
theorem dX12_about_135 : decode cX12_about 135 = .ok (.invokevirtual 267, 3) := by decide +kernel
theorem dX12_about_138 : decode cX12_about 138 = .ok (.ireturn, 1) := by decide +kernel
theorem dX12_about_139 : decode cX12_about 139 = .ok (.aload_n 0, 1) := by decide +kernel
theorem dX12_about_140 : decode cX12_about 140 = .ok (.getfield 153, 3) := by decide +kernel
theorem dX12_about_143 : decode cX12_about 143 = .ok (.iload_n 1, 1) := by decide +kernel
theorem dX12_about_144 : decode cX12_about 144 = .ok (.baload, 1) := by decide +kernel
theorem dX12_about_145 : decode cX12_about 145 = .ok (.ifCond .eq 7, 3) := by decide +kernel
theorem dX12_about_148 : decode cX12_about 148 = .ok (.iconst 1, 1) := by decide +kernel
theorem dX12_about_149 : decode cX12_about 149 = .ok (.goto 4, 3) := by decide +kernel
theorem dX12_about_152 : decode cX12_about 152 = .ok (.iconst 0, 1) := by decide +kernel
theorem dX12_about_153 : decode cX12_about 153 = .ok (.ireturn, 1) := by decide +kernel
theorem dX12_about_154 : decode cX12_about 154 = .ok (.aload_n 0, 1) := by decide +kernel
theorem dX12_about_155 : decode cX12_about 155 = .ok (.getfield 150, 3) := by decide +kernel
theorem dX12_about_158 : decode cX12_about 158 = .ok (.iload_n 1, 1) := by decide +kernel
theorem dX12_about_159 : decode cX12_about 159 = .ok (.iaload, 1) := by decide +kernel
theorem dX12_about_160 : decode cX12_about 160 = .ok (.ireturn, 1) := by decide +kernel
theorem dX12_about_161 : decode cX12_about 161 = .ok (.iconst 0, 1) := by decide +kernel
theorem dX12_about_162 : decode cX12_about 162 = .ok (.istore 4, 2) := by decide +kernel
theorem dX12_about_164 : decode cX12_about 164 = .ok (.iload 4, 2) := by decide +kernel
theorem dX12_about_166 : decode cX12_about 166 = .ok (.aload_n 0, 1) := by decide +kernel
theorem dX12_about_167 : decode cX12_about 167 = .ok (.getfield 147, 3) := by decide +kernel
theorem dX12_about_170 : decode cX12_about 170 = .ok (.iload_n 1, 1) := by decide +kernel
theorem dX12_about_171 : decode cX12_about 171 = .ok (.iaload, 1) := by decide +kernel
theorem dX12_about_172 : decode cX12_about 172 = .ok (.if_icmp .ge 55, 3) := by decide +kernel
theorem dX12_about_175 : decode cX12_about 175 = .ok (.aload_n 0, 1) := by decide +kernel
theorem dX12_about_176 : decode cX12_about 176 = .ok (.getfield 153, 3) := by decide +kernel
theorem dX12_about_179 : decode cX12_about 179 = .ok (.iload_n 1, 1) := by decide +kernel
theorem dX12_about_180 : decode cX12_about 180 = .ok (.baload, 1) := by decide +kernel
theorem dX12_about_181 : decode cX12_about 181 = .ok (.ifCond .ne 46, 3) := by decide +kernel
theorem dX12_about_184 : decode cX12_about 184 = .ok (.aload_n 0, 1) := by decide +kernel
theorem dX12_about_185 : decode cX12_about 185 = .ok (.getfield 165, 3) := by decide +kernel
theorem dX12_about_188 : decode cX12_about 188 = .ok (.bipush 84, 2) := by decide +kernel
theorem dX12_about_190 : decode cX12_about 190 = .ok (.iload_n 1, 1) := by decide +kernel
theorem dX12_about_191 : decode cX12_about 191 = .ok (.imul, 1) := by decide +kernel
theorem dX12_about_192 : decode cX12_about 192 = .ok (.iload 4, 2) := by decide +kernel
theorem dX12_about_194 : decode cX12_about 194 = .ok (.iadd, 1) := by decide +kernel
theorem dX12_about_195 : decode cX12_about 195 = .ok (.baload, 1) := by decide +kernel
theorem dX12_about_196 : decode cX12_about 196 = .ok (.ifCond .eq 25, 3) := by decide +kernel
theorem dX12_about_199 : decode cX12_about 199 = .ok (.aload_n 0, 1) := by decide +kernel
theorem dX12_about_200 : decode cX12_about 200 = .ok (.iload_n 1, 1) := by decide +kernel
theorem dX12_about_201 : decode cX12_about 201 = .ok (.iload 4, 2) := by decide +kernel
theorem dX12_about_203 : decode cX12_about 203 = .ok (.invokevirtual 240, 3) := by decide +kernel
theorem dX12_about_206 : decode cX12_about 206 = .ok (.aload_n 0, 1) := by decide +kernel
theorem dX12_about_207 : decode cX12_about 207 = .ok (.getfield 230, 3) := by decide +kernel
theorem dX12_about_210 : decode cX12_about 210 = .ok (.if_icmp .le 11, 3) := by decide +kernel
theorem dX12_about_213 : decode cX12_about 213 = .ok (.aload_n 0, 1) := by decide +kernel
theorem dX12_about_214 : decode cX12_about 214 = .ok (.iload_n 1, 1) := by decide +kernel
theorem dX12_about_215 : decode cX12_about 215 = .ok (.iload 4, 2) := by decide +kernel
theorem dX12_about_217 : decode cX12_about 217 = .ok (.invokevirtual 240, 3) := by decide +kernel
theorem dX12_about_220 : decode cX12_about 220 = .ok (.ireturn, 1) := by decide +kernel
theorem dX12_about_221 : decode cX12_about 221 = .ok (.iinc 4 1, 3) := by decide +kernel
theorem dX12_about_224 : decode cX12_about 224 = .ok (.goto (-60), 3) := by decide +kernel
theorem dX12_about_227 : decode cX12_about 227 = .ok (.iconst (-1), 1) := by decide +kernel
theorem dX12_about_228 : decode cX12_about 228 = .ok (.ireturn, 1) := by decide +kernel
theorem dX12_about_229 : decode cX12_about 229 = .ok (.iconst (-1), 1) := by decide +kernel
theorem dX12_about_230 : decode cX12_about 230 = .ok (.ireturn, 1) := by decide +kernel
theorem dX12_giver_0 : decode cX12_giver 0 = .ok (.iload_n 1, 1) := by decide +kernel
theorem dX12_giver_1 : decode cX12_giver 1 = .ok (.invokestatic 218, 3) := by decide +kernel
theorem dX12_giver_4 : decode cX12_giver 4 = .ok (.ifCond .ne 6, 3) := by decide +kernel
theorem dX12_giver_7 : decode cX12_giver 7 = .ok (.bipush (-2), 2) := by decide +kernel
theorem dX12_giver_9 : decode cX12_giver 9 = .ok (.ireturn, 1) := by decide +kernel
theorem dX12_giver_10 : decode cX12_giver 10 = .ok (.iload_n 2, 1) := by decide +kernel
theorem dX12_giver_11 : decode cX12_giver 11 = .ok (.tableswitch 126 0 4 #[33, 40, 97, 104, 111], 33) := by decide +kernel
theorem dX12_giver_44 : decode cX12_giver 44 = .ok (.aload_n 0, 1) := by decide +kernel
theorem dX12_giver_45 : decode cX12_giver 45 = .ok (.getfield 126, 3) := by decide +kernel
theorem dX12_giver_48 : decode cX12_giver 48 = .ok (.iload_n 1, 1) := by decide +kernel
theorem dX12_giver_49 : decode cX12_giver 49 = .ok (.iaload, 1) := by decide +kernel
theorem dX12_giver_50 : decode cX12_giver 50 = .ok (.ireturn, 1) := by decide +kernel
theorem dX12_giver_51 : decode cX12_giver 51 = .ok (.iconst 0, 1) := by decide +kernel
theorem dX12_giver_52 : decode cX12_giver 52 = .ok (.istore_n 3, 1) := by decide +kernel
theorem dX12_giver_53 : decode cX12_giver 53 = .ok (.iconst 0, 1) := by decide +kernel
theorem dX12_giver_54 : decode cX12_giver 54 = .ok (.istore 4, 2) := by decide +kernel
theorem dX12_giver_56 : decode cX12_giver 56 = .ok (.iload 4, 2) := by decide +kernel
theorem dX12_giver_58 : decode cX12_giver 58 = .ok (.aload_n 0, 1) := by decide +kernel
theorem dX12_giver_59 : decode cX12_giver 59 = .ok (.getfield 246, 3) := by decide +kernel
theorem dX12_giver_62 : decode cX12_giver 62 = .ok (.if_icmp .ge 44, 3) := by decide +kernel
theorem dX12_giver_65 : decode cX12_giver 65 = .ok (.iload_n 3, 1) := by decide +kernel
theorem dX12_giver_66 : decode cX12_giver 66 = .ok (.aload_n 0, 1) := by decide +kernel
theorem dX12_giver_67 : decode cX12_giver 67 = .ok (.getfield 171, 3) := by decide +kernel
theorem dX12_giver_70 : decode cX12_giver 70 = .ok (.iload 4, 2) := by decide +kernel
theorem dX12_giver_72 : decode cX12_giver 72 = .ok (.iaload, 1) := by decide +kernel
theorem dX12_giver_73 : decode cX12_giver 73 = .ok (.iload_n 1, 1) := by decide +kernel
theorem dX12_giver_74 : decode cX12_giver 74 = .ok (.if_icmp .ne 23, 3) := by decide +kernel
theorem dX12_giver_77 : decode cX12_giver 77 = .ok (.aload_n 0, 1) := by decide +kernel
theorem dX12_giver_78 : decode cX12_giver 78 = .ok (.getfield 180, 3) := by decide +kernel
theorem dX12_giver_81 : decode cX12_giver 81 = .ok (.iload 4, 2) := by decide +kernel
theorem dX12_giver_83 : decode cX12_giver 83 = .ok (.baload, 1) := by decide +kernel
theorem dX12_giver_84 : decode cX12_giver 84 = .ok (.ifCond .ne 13, 3) := by decide +kernel
theorem dX12_giver_87 : decode cX12_giver 87 = .ok (.aload_n 0, 1) := by decide +kernel
theorem dX12_giver_88 : decode cX12_giver 88 = .ok (.getfield 177, 3) := by decide +kernel
theorem dX12_giver_91 : decode cX12_giver 91 = .ok (.iload 4, 2) := by decide +kernel
theorem dX12_giver_93 : decode cX12_giver 93 = .ok (.iaload, 1) := by decide +kernel
theorem dX12_giver_94 : decode cX12_giver 94 = .ok (.goto 4, 3) := by decide +kernel
theorem dX12_giver_97 : decode cX12_giver 97 = .ok (.iconst 0, 1) := by decide +kernel
theorem dX12_giver_98 : decode cX12_giver 98 = .ok (.iadd, 1) := by decide +kernel
theorem dX12_giver_99 : decode cX12_giver 99 = .ok (.istore_n 3, 1) := by decide +kernel
theorem dX12_giver_100 : decode cX12_giver 100 = .ok (.iinc 4 1, 3) := by decide +kernel
theorem dX12_giver_103 : decode cX12_giver 103 = .ok (.goto (-47), 3) := by decide +kernel
theorem dX12_giver_106 : decode cX12_giver 106 = .ok (.iload_n 3, 1) := by decide +kernel
theorem dX12_giver_107 : decode cX12_giver 107 = .ok (.ireturn, 1) := by decide +kernel
theorem dX12_giver_108 : decode cX12_giver 108 = .ok (.aload_n 0, 1) := by decide +kernel
theorem dX12_giver_109 : decode cX12_giver 109 = .ok (.getfield 120, 3) := by decide +kernel
theorem dX12_giver_112 : decode cX12_giver 112 = .ok (.iload_n 1, 1) := by decide +kernel
theorem dX12_giver_113 : decode cX12_giver 113 = .ok (.iaload, 1) := by decide +kernel
theorem dX12_giver_114 : decode cX12_giver 114 = .ok (.ireturn, 1) := by decide +kernel
theorem dX12_giver_115 : decode cX12_giver 115 = .ok (.aload_n 0, 1) := by decide +kernel
theorem dX12_giver_116 : decode cX12_giver 116 = .ok (.getfield 123, 3) := by decide +kernel
theorem dX12_giver_119 : decode cX12_giver 119 = .ok (.iload_n 1, 1) := by decide +kernel
theorem dX12_giver_120 : decode cX12_giver 120 = .ok (.iaload, 1) := by decide +kernel
theorem dX12_giver_121 : decode cX12_giver 121 = .ok (.ireturn, 1) := by decide +kernel
theorem dX12_giver_122 : decode cX12_giver 122 = .ok (.aload_n 0, 1) := by decide +kernel
theorem dX12_giver_123 : decode cX12_giver 123 = .ok (.getfield 132, 3) := by decide +kernel
theorem dX12_giver_126 : decode cX12_giver 126 = .ok (.iload_n 1, 1) := by decide +kernel
theorem dX12_giver_127 : decode cX12_giver 127 = .ok (.baload, 1) := by decide +kernel
theorem dX12_giver_128 : decode cX12_giver 128 = .ok (.ifCond .eq 7, 3) := by decide +kernel
theorem dX12_giver_131 : decode cX12_giver 131 = .ok (.iconst 1, 1) := by decide +kernel
theorem dX12_giver_132 : decode cX12_giver 132 = .ok (.goto 4, 3) := by decide +kernel
theorem dX12_giver_135 : decode cX12_giver 135 = .ok (.iconst 0, 1) := by decide +kernel
theorem dX12_giver_136 : decode cX12_giver 136 = .ok (.ireturn, 1) := by decide +kernel
theorem dX12_giver_137 : decode cX12_giver 137 = .ok (.bipush (-2), 2) := by decide +kernel
theorem dX12_giver_139 : decode cX12_giver 139 = .ok (.ireturn, 1) := by decide +kernel
theorem dX12_stage_0 : decode cX12_stage 0 = .ok (.iload_n 1, 1) := by decide +kernel
theorem dX12_stage_1 : decode cX12_stage 1 = .ok (.i2l, 1) := by decide +kernel
theorem dX12_stage_2 : decode cX12_stage 2 = .ok (.lconst 1, 1) := by decide +kernel
theorem dX12_stage_3 : decode cX12_stage 3 = .ok (.ldc2_w 282, 3) := by decide +kernel
theorem dX12_stage_6 : decode cX12_stage 6 = .ok (.invokestatic 58, 3) := by decide +kernel
theorem dX12_stage_9 : decode cX12_stage 9 = .ok (.ifCond .eq 15, 3) := by decide +kernel
theorem dX12_stage_12 : decode cX12_stage 12 = .ok (.iload_n 2, 1) := by decide +kernel
theorem dX12_stage_13 : decode cX12_stage 13 = .ok (.i2l, 1) := by decide +kernel
theorem dX12_stage_14 : decode cX12_stage 14 = .ok (.lconst 1, 1) := by decide +kernel
theorem dX12_stage_15 : decode cX12_stage 15 = .ok (.ldc2_w 284, 3) := by decide +kernel
theorem dX12_stage_18 : decode cX12_stage 18 = .ok (.invokestatic 58, 3) := by decide +kernel
theorem dX12_stage_21 : decode cX12_stage 21 = .ok (.ifCond .ne 6, 3) := by decide +kernel
theorem dX12_stage_24 : decode cX12_stage 24 = .ok (.bipush (-2), 2) := by decide +kernel
theorem dX12_stage_26 : decode cX12_stage 26 = .ok (.ireturn, 1) := by decide +kernel
theorem dX12_stage_27 : decode cX12_stage 27 = .ok (.aload_n 0, 1) := by decide +kernel
theorem dX12_stage_28 : decode cX12_stage 28 = .ok (.getfield 224, 3) := by decide +kernel
theorem dX12_stage_31 : decode cX12_stage 31 = .ok (.ifCond .eq 6, 3) := by decide +kernel
theorem dX12_stage_34 : decode cX12_stage 34 = .ok (.bipush (-4), 2) := by decide +kernel
theorem dX12_stage_36 : decode cX12_stage 36 = .ok (.ireturn, 1) := by decide +kernel
theorem dX12_stage_37 : decode cX12_stage 37 = .ok (.aload_n 0, 1) := by decide +kernel
theorem dX12_stage_38 : decode cX12_stage 38 = .ok (.getfield 286, 3) := by decide +kernel
theorem dX12_stage_41 : decode cX12_stage 41 = .ok (.bipush 8, 2) := by decide +kernel
theorem dX12_stage_43 : decode cX12_stage 43 = .ok (.if_icmp .ne 6, 3) := by decide +kernel
theorem dX12_stage_46 : decode cX12_stage 46 = .ok (.bipush (-3), 2) := by decide +kernel
theorem dX12_stage_48 : decode cX12_stage 48 = .ok (.ireturn, 1) := by decide +kernel
theorem dX12_stage_49 : decode cX12_stage 49 = .ok (.aload_n 0, 1) := by decide +kernel
theorem dX12_stage_50 : decode cX12_stage 50 = .ok (.getfield 183, 3) := by decide +kernel
theorem dX12_stage_53 : decode cX12_stage 53 = .ok (.aload_n 0, 1) := by decide +kernel
theorem dX12_stage_54 : decode cX12_stage 54 = .ok (.getfield 286, 3) := by decide +kernel
theorem dX12_stage_57 : decode cX12_stage 57 = .ok (.iload_n 1, 1) := by decide +kernel
theorem dX12_stage_58 : decode cX12_stage 58 = .ok (.iastore, 1) := by decide +kernel
theorem dX12_stage_59 : decode cX12_stage 59 = .ok (.aload_n 0, 1) := by decide +kernel
theorem dX12_stage_60 : decode cX12_stage 60 = .ok (.getfield 186, 3) := by decide +kernel
theorem dX12_stage_63 : decode cX12_stage 63 = .ok (.aload_n 0, 1) := by decide +kernel
theorem dX12_stage_64 : decode cX12_stage 64 = .ok (.getfield 286, 3) := by decide +kernel
theorem dX12_stage_67 : decode cX12_stage 67 = .ok (.iload_n 2, 1) := by decide +kernel
theorem dX12_stage_68 : decode cX12_stage 68 = .ok (.iastore, 1) := by decide +kernel
theorem dX12_stage_69 : decode cX12_stage 69 = .ok (.aload_n 0, 1) := by decide +kernel
theorem dX12_stage_70 : decode cX12_stage 70 = .ok (.dup, 1) := by decide +kernel
theorem dX12_stage_71 : decode cX12_stage 71 = .ok (.getfield 286, 3) := by decide +kernel
theorem dX12_stage_74 : decode cX12_stage 74 = .ok (.iconst 1, 1) := by decide +kernel
theorem dX12_stage_75 : decode cX12_stage 75 = .ok (.iadd, 1) := by decide +kernel
theorem dX12_stage_76 : decode cX12_stage 76 = .ok (.putfield 286, 3) := by decide +kernel
theorem dX12_stage_79 : decode cX12_stage 79 = .ok (.aload_n 0, 1) := by decide +kernel
theorem dX12_stage_80 : decode cX12_stage 80 = .ok (.getfield 286, 3) := by decide +kernel
theorem dX12_stage_83 : decode cX12_stage 83 = .ok (.iconst 1, 1) := by decide +kernel
theorem dX12_stage_84 : decode cX12_stage 84 = .ok (.isub, 1) := by decide +kernel
theorem dX12_stage_85 : decode cX12_stage 85 = .ok (.ireturn, 1) := by decide +kernel
theorem dX12_runs_0 : decode cX12_runs 0 = .ok (.aload_n 0, 1) := by decide +kernel
theorem dX12_runs_1 : decode cX12_runs 1 = .ok (.getfield 289, 3) := by decide +kernel
theorem dX12_runs_4 : decode cX12_runs 4 = .ok (.ifCond .le 32, 3) := by decide +kernel
theorem dX12_runs_7 : decode cX12_runs 7 = .ok (.aload_n 0, 1) := by decide +kernel
theorem dX12_runs_8 : decode cX12_runs 8 = .ok (.getfield 188, 3) := by decide +kernel
theorem dX12_runs_11 : decode cX12_runs 11 = .ok (.aload_n 0, 1) := by decide +kernel
theorem dX12_runs_12 : decode cX12_runs 12 = .ok (.getfield 289, 3) := by decide +kernel
theorem dX12_runs_15 : decode cX12_runs 15 = .ok (.iconst 1, 1) := by decide +kernel
theorem dX12_runs_16 : decode cX12_runs 16 = .ok (.isub, 1) := by decide +kernel
theorem dX12_runs_17 : decode cX12_runs 17 = .ok (.iaload, 1) := by decide +kernel
theorem dX12_runs_18 : decode cX12_runs 18 = .ok (.aload_n 0, 1) := by decide +kernel
theorem dX12_runs_19 : decode cX12_runs 19 = .ok (.getfield 186, 3) := by decide +kernel
theorem dX12_runs_22 : decode cX12_runs 22 = .ok (.aload_n 0, 1) := by decide +kernel
theorem dX12_runs_23 : decode cX12_runs 23 = .ok (.getfield 289, 3) := by decide +kernel
theorem dX12_runs_26 : decode cX12_runs 26 = .ok (.iconst 1, 1) := by decide +kernel
theorem dX12_runs_27 : decode cX12_runs 27 = .ok (.isub, 1) := by decide +kernel
theorem dX12_runs_28 : decode cX12_runs 28 = .ok (.iaload, 1) := by decide +kernel
theorem dX12_runs_29 : decode cX12_runs 29 = .ok (.if_icmp .ge 7, 3) := by decide +kernel
theorem dX12_runs_32 : decode cX12_runs 32 = .ok (.iconst 1, 1) := by decide +kernel
theorem dX12_runs_33 : decode cX12_runs 33 = .ok (.goto 4, 3) := by decide +kernel
theorem dX12_runs_36 : decode cX12_runs 36 = .ok (.iconst 0, 1) := by decide +kernel
theorem dX12_runs_37 : decode cX12_runs 37 = .ok (.ireturn, 1) := by decide +kernel
theorem dX12_begin_0 : decode cX12_begin 0 = .ok (.aload_n 0, 1) := by decide +kernel
theorem dX12_begin_1 : decode cX12_begin 1 = .ok (.getfield 224, 3) := by decide +kernel
theorem dX12_begin_4 : decode cX12_begin 4 = .ok (.ifCond .ne 21, 3) := by decide +kernel
theorem dX12_begin_7 : decode cX12_begin 7 = .ok (.aload_n 0, 1) := by decide +kernel
theorem dX12_begin_8 : decode cX12_begin 8 = .ok (.invokevirtual 292, 3) := by decide +kernel
theorem dX12_begin_11 : decode cX12_begin 11 = .ok (.ifCond .ne 14, 3) := by decide +kernel
theorem dX12_begin_14 : decode cX12_begin 14 = .ok (.aload_n 0, 1) := by decide +kernel
theorem dX12_begin_15 : decode cX12_begin 15 = .ok (.getfield 289, 3) := by decide +kernel
theorem dX12_begin_18 : decode cX12_begin 18 = .ok (.aload_n 0, 1) := by decide +kernel
theorem dX12_begin_19 : decode cX12_begin 19 = .ok (.getfield 286, 3) := by decide +kernel
theorem dX12_begin_22 : decode cX12_begin 22 = .ok (.if_icmp .ne 6, 3) := by decide +kernel
theorem dX12_begin_25 : decode cX12_begin 25 = .ok (.bipush (-4), 2) := by decide +kernel
theorem dX12_begin_27 : decode cX12_begin 27 = .ok (.ireturn, 1) := by decide +kernel
theorem dX12_begin_28 : decode cX12_begin 28 = .ok (.aload_n 0, 1) := by decide +kernel
theorem dX12_begin_29 : decode cX12_begin 29 = .ok (.dup, 1) := by decide +kernel
theorem dX12_begin_30 : decode cX12_begin 30 = .ok (.getfield 289, 3) := by decide +kernel
theorem dX12_begin_33 : decode cX12_begin 33 = .ok (.iconst 1, 1) := by decide +kernel
theorem dX12_begin_34 : decode cX12_begin 34 = .ok (.iadd, 1) := by decide +kernel
theorem dX12_begin_35 : decode cX12_begin 35 = .ok (.putfield 289, 3) := by decide +kernel
theorem dX12_begin_38 : decode cX12_begin 38 = .ok (.aload_n 0, 1) := by decide +kernel
theorem dX12_begin_39 : decode cX12_begin 39 = .ok (.getfield 289, 3) := by decide +kernel
theorem dX12_begin_42 : decode cX12_begin 42 = .ok (.iconst 1, 1) := by decide +kernel
theorem dX12_begin_43 : decode cX12_begin 43 = .ok (.isub, 1) := by decide +kernel
theorem dX12_begin_44 : decode cX12_begin 44 = .ok (.ireturn, 1) := by decide +kernel
theorem dX12_built_0 : decode cX12_built 0 = .ok (.iload_n 1, 1) := by decide +kernel
theorem dX12_built_1 : decode cX12_built 1 = .ok (.i2l, 1) := by decide +kernel
theorem dX12_built_2 : decode cX12_built 2 = .ok (.lconst 0, 1) := by decide +kernel
theorem dX12_built_3 : decode cX12_built 3 = .ok (.aload_n 0, 1) := by decide +kernel
theorem dX12_built_4 : decode cX12_built 4 = .ok (.getfield 286, 3) := by decide +kernel
theorem dX12_built_7 : decode cX12_built 7 = .ok (.i2l, 1) := by decide +kernel
theorem dX12_built_8 : decode cX12_built 8 = .ok (.lconst 1, 1) := by decide +kernel
theorem dX12_built_9 : decode cX12_built 9 = .ok (.lsub, 1) := by decide +kernel
theorem dX12_built_10 : decode cX12_built 10 = .ok (.invokestatic 58, 3) := by decide +kernel
theorem dX12_built_13 : decode cX12_built 13 = .ok (.ifCond .ne 5, 3) := by decide +kernel
theorem dX12_built_16 : decode cX12_built 16 = .ok (.iconst (-1), 1) := by decide +kernel
theorem dX12_built_17 : decode cX12_built 17 = .ok (.ireturn, 1) := by decide +kernel
theorem dX12_built_18 : decode cX12_built 18 = .ok (.iload_n 2, 1) := by decide +kernel
theorem dX12_built_19 : decode cX12_built 19 = .ok (.tableswitch 94 0 4 #[33, 40, 47, 80, 87], 33) := by decide +kernel
theorem dX12_built_52 : decode cX12_built 52 = .ok (.aload_n 0, 1) := by decide +kernel
theorem dX12_built_53 : decode cX12_built 53 = .ok (.getfield 183, 3) := by decide +kernel
theorem dX12_built_56 : decode cX12_built 56 = .ok (.iload_n 1, 1) := by decide +kernel
theorem dX12_built_57 : decode cX12_built 57 = .ok (.iaload, 1) := by decide +kernel
theorem dX12_built_58 : decode cX12_built 58 = .ok (.ireturn, 1) := by decide +kernel
theorem dX12_built_59 : decode cX12_built 59 = .ok (.aload_n 0, 1) := by decide +kernel
theorem dX12_built_60 : decode cX12_built 60 = .ok (.getfield 186, 3) := by decide +kernel
theorem dX12_built_63 : decode cX12_built 63 = .ok (.iload_n 1, 1) := by decide +kernel
theorem dX12_built_64 : decode cX12_built 64 = .ok (.iaload, 1) := by decide +kernel
theorem dX12_built_65 : decode cX12_built 65 = .ok (.ireturn, 1) := by decide +kernel
theorem dX12_built_66 : decode cX12_built 66 = .ok (.iload_n 1, 1) := by decide +kernel
theorem dX12_built_67 : decode cX12_built 67 = .ok (.aload_n 0, 1) := by decide +kernel
theorem dX12_built_68 : decode cX12_built 68 = .ok (.getfield 289, 3) := by decide +kernel
theorem dX12_built_71 : decode cX12_built 71 = .ok (.if_icmp .lt 7, 3) := by decide +kernel
theorem dX12_built_74 : decode cX12_built 74 = .ok (.iconst 0, 1) := by decide +kernel
theorem dX12_built_75 : decode cX12_built 75 = .ok (.goto 23, 3) := by decide +kernel
theorem dX12_built_78 : decode cX12_built 78 = .ok (.aload_n 0, 1) := by decide +kernel
theorem dX12_built_79 : decode cX12_built 79 = .ok (.getfield 188, 3) := by decide +kernel
theorem dX12_built_82 : decode cX12_built 82 = .ok (.iload_n 1, 1) := by decide +kernel
theorem dX12_built_83 : decode cX12_built 83 = .ok (.iaload, 1) := by decide +kernel
theorem dX12_built_84 : decode cX12_built 84 = .ok (.aload_n 0, 1) := by decide +kernel
theorem dX12_built_85 : decode cX12_built 85 = .ok (.getfield 186, 3) := by decide +kernel
theorem dX12_built_88 : decode cX12_built 88 = .ok (.iload_n 1, 1) := by decide +kernel
theorem dX12_built_89 : decode cX12_built 89 = .ok (.iaload, 1) := by decide +kernel
theorem dX12_built_90 : decode cX12_built 90 = .ok (.if_icmp .ge 7, 3) := by decide +kernel
theorem dX12_built_93 : decode cX12_built 93 = .ok (.iconst 1, 1) := by decide +kernel
theorem dX12_built_94 : decode cX12_built 94 = .ok (.goto 4, 3) := by decide +kernel
theorem dX12_built_97 : decode cX12_built 97 = .ok (.iconst 2, 1) := by decide +kernel
theorem dX12_built_98 : decode cX12_built 98 = .ok (.ireturn, 1) := by decide +kernel
theorem dX12_built_99 : decode cX12_built 99 = .ok (.aload_n 0, 1) := by decide +kernel
theorem dX12_built_100 : decode cX12_built 100 = .ok (.getfield 191, 3) := by decide +kernel
theorem dX12_built_103 : decode cX12_built 103 = .ok (.iload_n 1, 1) := by decide +kernel
theorem dX12_built_104 : decode cX12_built 104 = .ok (.iaload, 1) := by decide +kernel
theorem dX12_built_105 : decode cX12_built 105 = .ok (.ireturn, 1) := by decide +kernel
theorem dX12_built_106 : decode cX12_built 106 = .ok (.aload_n 0, 1) := by decide +kernel
theorem dX12_built_107 : decode cX12_built 107 = .ok (.getfield 194, 3) := by decide +kernel
theorem dX12_built_110 : decode cX12_built 110 = .ok (.iload_n 1, 1) := by decide +kernel
theorem dX12_built_111 : decode cX12_built 111 = .ok (.iaload, 1) := by decide +kernel
theorem dX12_built_112 : decode cX12_built 112 = .ok (.ireturn, 1) := by decide +kernel
theorem dX12_built_113 : decode cX12_built 113 = .ok (.iconst (-1), 1) := by decide +kernel
theorem dX12_built_114 : decode cX12_built 114 = .ok (.ireturn, 1) := by decide +kernel
theorem dX12_lapse_0 : decode cX12_lapse 0 = .ok (.aload_n 0, 1) := by decide +kernel
theorem dX12_lapse_1 : decode cX12_lapse 1 = .ok (.getfield 153, 3) := by decide +kernel
theorem dX12_lapse_4 : decode cX12_lapse 4 = .ok (.iload_n 1, 1) := by decide +kernel
theorem dX12_lapse_5 : decode cX12_lapse 5 = .ok (.baload, 1) := by decide +kernel
theorem dX12_lapse_6 : decode cX12_lapse 6 = .ok (.ifCond .ne 17, 3) := by decide +kernel
theorem dX12_lapse_9 : decode cX12_lapse 9 = .ok (.aload_n 0, 1) := by decide +kernel
theorem dX12_lapse_10 : decode cX12_lapse 10 = .ok (.iload_n 1, 1) := by decide +kernel
theorem dX12_lapse_11 : decode cX12_lapse 11 = .ok (.invokevirtual 279, 3) := by decide +kernel
theorem dX12_lapse_14 : decode cX12_lapse 14 = .ok (.aload_n 0, 1) := by decide +kernel
theorem dX12_lapse_15 : decode cX12_lapse 15 = .ok (.getfield 114, 3) := by decide +kernel
theorem dX12_lapse_18 : decode cX12_lapse 18 = .ok (.iconst 4, 1) := by decide +kernel
theorem dX12_lapse_19 : decode cX12_lapse 19 = .ok (.iaload, 1) := by decide +kernel
theorem dX12_lapse_20 : decode cX12_lapse 20 = .ok (.if_icmp .ge 4, 3) := by decide +kernel
theorem dX12_lapse_23 : decode cX12_lapse 23 = .ok (.return_, 1) := by decide +kernel
theorem dX12_lapse_24 : decode cX12_lapse 24 = .ok (.aload_n 0, 1) := by decide +kernel
theorem dX12_lapse_25 : decode cX12_lapse 25 = .ok (.getfield 153, 3) := by decide +kernel
theorem dX12_lapse_28 : decode cX12_lapse 28 = .ok (.iload_n 1, 1) := by decide +kernel
theorem dX12_lapse_29 : decode cX12_lapse 29 = .ok (.iconst 1, 1) := by decide +kernel
theorem dX12_lapse_30 : decode cX12_lapse 30 = .ok (.bastore, 1) := by decide +kernel
theorem dX12_lapse_31 : decode cX12_lapse 31 = .ok (.aload_n 0, 1) := by decide +kernel
theorem dX12_lapse_32 : decode cX12_lapse 32 = .ok (.getfield 150, 3) := by decide +kernel
theorem dX12_lapse_35 : decode cX12_lapse 35 = .ok (.iload_n 1, 1) := by decide +kernel
theorem dX12_lapse_36 : decode cX12_lapse 36 = .ok (.iaload, 1) := by decide +kernel
theorem dX12_lapse_37 : decode cX12_lapse 37 = .ok (.iconst (-1), 1) := by decide +kernel
theorem dX12_lapse_38 : decode cX12_lapse 38 = .ok (.if_icmp .ne 13, 3) := by decide +kernel
theorem dX12_lapse_41 : decode cX12_lapse 41 = .ok (.aload_n 0, 1) := by decide +kernel
theorem dX12_lapse_42 : decode cX12_lapse 42 = .ok (.getfield 150, 3) := by decide +kernel
theorem dX12_lapse_45 : decode cX12_lapse 45 = .ok (.iload_n 1, 1) := by decide +kernel
theorem dX12_lapse_46 : decode cX12_lapse 46 = .ok (.aload_n 0, 1) := by decide +kernel
theorem dX12_lapse_47 : decode cX12_lapse 47 = .ok (.getfield 230, 3) := by decide +kernel
theorem dX12_lapse_50 : decode cX12_lapse 50 = .ok (.iastore, 1) := by decide +kernel
theorem dX12_lapse_51 : decode cX12_lapse 51 = .ok (.iconst 0, 1) := by decide +kernel
theorem dX12_lapse_52 : decode cX12_lapse 52 = .ok (.istore_n 2, 1) := by decide +kernel
theorem dX12_lapse_53 : decode cX12_lapse 53 = .ok (.iload_n 2, 1) := by decide +kernel
theorem dX12_lapse_54 : decode cX12_lapse 54 = .ok (.aload_n 0, 1) := by decide +kernel
theorem dX12_lapse_55 : decode cX12_lapse 55 = .ok (.getfield 147, 3) := by decide +kernel
theorem dX12_lapse_58 : decode cX12_lapse 58 = .ok (.iload_n 1, 1) := by decide +kernel
theorem dX12_lapse_59 : decode cX12_lapse 59 = .ok (.iaload, 1) := by decide +kernel
theorem dX12_lapse_60 : decode cX12_lapse 60 = .ok (.if_icmp .ge 61, 3) := by decide +kernel
theorem dX12_lapse_63 : decode cX12_lapse 63 = .ok (.bipush 84, 2) := by decide +kernel
theorem dX12_lapse_65 : decode cX12_lapse 65 = .ok (.iload_n 1, 1) := by decide +kernel
theorem dX12_lapse_66 : decode cX12_lapse 66 = .ok (.imul, 1) := by decide +kernel
theorem dX12_lapse_67 : decode cX12_lapse 67 = .ok (.iload_n 2, 1) := by decide +kernel
theorem dX12_lapse_68 : decode cX12_lapse 68 = .ok (.iadd, 1) := by decide +kernel
theorem dX12_lapse_69 : decode cX12_lapse 69 = .ok (.istore_n 3, 1) := by decide +kernel
theorem dX12_lapse_70 : decode cX12_lapse 70 = .ok (.aload_n 0, 1) := by decide +kernel
theorem dX12_lapse_71 : decode cX12_lapse 71 = .ok (.getfield 162, 3) := by decide +kernel
theorem dX12_lapse_74 : decode cX12_lapse 74 = .ok (.iload_n 3, 1) := by decide +kernel
theorem dX12_lapse_75 : decode cX12_lapse 75 = .ok (.iaload, 1) := by decide +kernel
theorem dX12_lapse_76 : decode cX12_lapse 76 = .ok (.aload_n 0, 1) := by decide +kernel
theorem dX12_lapse_77 : decode cX12_lapse 77 = .ok (.getfield 159, 3) := by decide +kernel
theorem dX12_lapse_80 : decode cX12_lapse 80 = .ok (.iload_n 3, 1) := by decide +kernel
theorem dX12_lapse_81 : decode cX12_lapse 81 = .ok (.iaload, 1) := by decide +kernel
theorem dX12_lapse_82 : decode cX12_lapse 82 = .ok (.if_icmp .ne 6, 3) := by decide +kernel
theorem dX12_lapse_85 : decode cX12_lapse 85 = .ok (.goto 30, 3) := by decide +kernel
theorem dX12_lapse_88 : decode cX12_lapse 88 = .ok (.aload_n 0, 1) := by decide +kernel
theorem dX12_lapse_89 : decode cX12_lapse 89 = .ok (.getfield 165, 3) := by decide +kernel
theorem dX12_lapse_92 : decode cX12_lapse 92 = .ok (.iload_n 3, 1) := by decide +kernel
theorem dX12_lapse_93 : decode cX12_lapse 93 = .ok (.iconst 0, 1) := by decide +kernel
theorem dX12_lapse_94 : decode cX12_lapse 94 = .ok (.bastore, 1) := by decide +kernel
theorem dX12_lapse_95 : decode cX12_lapse 95 = .ok (.aload_n 0, 1) := by decide +kernel
theorem dX12_lapse_96 : decode cX12_lapse 96 = .ok (.iload_n 1, 1) := by decide +kernel
theorem dX12_lapse_97 : decode cX12_lapse 97 = .ok (.iload_n 2, 1) := by decide +kernel
theorem dX12_lapse_98 : decode cX12_lapse 98 = .ok (.invokevirtual 240, 3) := by decide +kernel
theorem dX12_lapse_101 : decode cX12_lapse 101 = .ok (.aload_n 0, 1) := by decide +kernel
theorem dX12_lapse_102 : decode cX12_lapse 102 = .ok (.getfield 230, 3) := by decide +kernel
theorem dX12_lapse_105 : decode cX12_lapse 105 = .ok (.if_icmp .le 10, 3) := by decide +kernel
theorem dX12_lapse_108 : decode cX12_lapse 108 = .ok (.aload_n 0, 1) := by decide +kernel
theorem dX12_lapse_109 : decode cX12_lapse 109 = .ok (.getfield 168, 3) := by decide +kernel
theorem dX12_lapse_112 : decode cX12_lapse 112 = .ok (.iload_n 3, 1) := by decide +kernel
theorem dX12_lapse_113 : decode cX12_lapse 113 = .ok (.iconst 0, 1) := by decide +kernel
theorem dX12_lapse_114 : decode cX12_lapse 114 = .ok (.bastore, 1) := by decide +kernel
theorem dX12_lapse_115 : decode cX12_lapse 115 = .ok (.iinc 2 1, 3) := by decide +kernel
theorem dX12_lapse_118 : decode cX12_lapse 118 = .ok (.goto (-65), 3) := by decide +kernel
theorem dX12_lapse_121 : decode cX12_lapse 121 = .ok (.return_, 1) := by decide +kernel
theorem dX12_build_0 : decode cX12_build 0 = .ok (.aload_n 0, 1) := by decide +kernel
theorem dX12_build_1 : decode cX12_build 1 = .ok (.getfield 289, 3) := by decide +kernel
theorem dX12_build_4 : decode cX12_build 4 = .ok (.iconst 1, 1) := by decide +kernel
theorem dX12_build_5 : decode cX12_build 5 = .ok (.isub, 1) := by decide +kernel
theorem dX12_build_6 : decode cX12_build 6 = .ok (.istore_n 1, 1) := by decide +kernel
theorem dX12_build_7 : decode cX12_build 7 = .ok (.aload_n 0, 1) := by decide +kernel
theorem dX12_build_8 : decode cX12_build 8 = .ok (.getfield 183, 3) := by decide +kernel
theorem dX12_build_11 : decode cX12_build 11 = .ok (.iload_n 1, 1) := by decide +kernel
theorem dX12_build_12 : decode cX12_build 12 = .ok (.iaload, 1) := by decide +kernel
theorem dX12_build_13 : decode cX12_build 13 = .ok (.aload_n 0, 1) := by decide +kernel
theorem dX12_build_14 : decode cX12_build 14 = .ok (.getfield 186, 3) := by decide +kernel
theorem dX12_build_17 : decode cX12_build 17 = .ok (.iload_n 1, 1) := by decide +kernel
theorem dX12_build_18 : decode cX12_build 18 = .ok (.iaload, 1) := by decide +kernel
theorem dX12_build_19 : decode cX12_build 19 = .ok (.idiv, 1) := by decide +kernel
theorem dX12_build_20 : decode cX12_build 20 = .ok (.istore_n 2, 1) := by decide +kernel
theorem dX12_build_21 : decode cX12_build 21 = .ok (.aload_n 0, 1) := by decide +kernel
theorem dX12_build_22 : decode cX12_build 22 = .ok (.getfield 188, 3) := by decide +kernel
theorem dX12_build_25 : decode cX12_build 25 = .ok (.iload_n 1, 1) := by decide +kernel
theorem dX12_build_26 : decode cX12_build 26 = .ok (.iaload, 1) := by decide +kernel
theorem dX12_build_27 : decode cX12_build 27 = .ok (.aload_n 0, 1) := by decide +kernel
theorem dX12_build_28 : decode cX12_build 28 = .ok (.getfield 186, 3) := by decide +kernel
theorem dX12_build_31 : decode cX12_build 31 = .ok (.iload_n 1, 1) := by decide +kernel
theorem dX12_build_32 : decode cX12_build 32 = .ok (.iaload, 1) := by decide +kernel
theorem dX12_build_33 : decode cX12_build 33 = .ok (.iconst 1, 1) := by decide +kernel
theorem dX12_build_34 : decode cX12_build 34 = .ok (.isub, 1) := by decide +kernel
theorem dX12_build_35 : decode cX12_build 35 = .ok (.if_icmp .ne 21, 3) := by decide +kernel
theorem dX12_build_38 : decode cX12_build 38 = .ok (.aload_n 0, 1) := by decide +kernel
theorem dX12_build_39 : decode cX12_build 39 = .ok (.getfield 183, 3) := by decide +kernel
theorem dX12_build_42 : decode cX12_build 42 = .ok (.iload_n 1, 1) := by decide +kernel
theorem dX12_build_43 : decode cX12_build 43 = .ok (.iaload, 1) := by decide +kernel
theorem dX12_build_44 : decode cX12_build 44 = .ok (.iload_n 2, 1) := by decide +kernel
theorem dX12_build_45 : decode cX12_build 45 = .ok (.aload_n 0, 1) := by decide +kernel
theorem dX12_build_46 : decode cX12_build 46 = .ok (.getfield 188, 3) := by decide +kernel
theorem dX12_build_49 : decode cX12_build 49 = .ok (.iload_n 1, 1) := by decide +kernel
theorem dX12_build_50 : decode cX12_build 50 = .ok (.iaload, 1) := by decide +kernel
theorem dX12_build_51 : decode cX12_build 51 = .ok (.imul, 1) := by decide +kernel
theorem dX12_build_52 : decode cX12_build 52 = .ok (.isub, 1) := by decide +kernel
theorem dX12_build_53 : decode cX12_build 53 = .ok (.goto 4, 3) := by decide +kernel
theorem dX12_build_56 : decode cX12_build 56 = .ok (.iload_n 2, 1) := by decide +kernel
theorem dX12_build_57 : decode cX12_build 57 = .ok (.istore_n 3, 1) := by decide +kernel
theorem dX12_build_58 : decode cX12_build 58 = .ok (.iconst 0, 1) := by decide +kernel
theorem dX12_build_59 : decode cX12_build 59 = .ok (.bipush 100, 2) := by decide +kernel
theorem dX12_build_61 : decode cX12_build 61 = .ok (.aload_n 0, 1) := by decide +kernel
theorem dX12_build_62 : decode cX12_build 62 = .ok (.getfield 114, 3) := by decide +kernel
theorem dX12_build_65 : decode cX12_build 65 = .ok (.iconst 5, 1) := by decide +kernel
theorem dX12_build_66 : decode cX12_build 66 = .ok (.iaload, 1) := by decide +kernel
theorem dX12_build_67 : decode cX12_build 67 = .ok (.imul, 1) := by decide +kernel
theorem dX12_build_68 : decode cX12_build 68 = .ok (.aload_n 0, 1) := by decide +kernel
theorem dX12_build_69 : decode cX12_build 69 = .ok (.getfield 296, 3) := by decide +kernel
theorem dX12_build_72 : decode cX12_build 72 = .ok (.isub, 1) := by decide +kernel
theorem dX12_build_73 : decode cX12_build 73 = .ok (.invokestatic 259, 3) := by decide +kernel
theorem dX12_build_76 : decode cX12_build 76 = .ok (.istore 4, 2) := by decide +kernel
theorem dX12_build_78 : decode cX12_build 78 = .ok (.aload_n 0, 1) := by decide +kernel
theorem dX12_build_79 : decode cX12_build 79 = .ok (.getfield 262, 3) := by decide +kernel
theorem dX12_build_82 : decode cX12_build 82 = .ok (.i2l, 1) := by decide +kernel
theorem dX12_build_83 : decode cX12_build 83 = .ok (.iload 4, 2) := by decide +kernel
theorem dX12_build_85 : decode cX12_build 85 = .ok (.i2l, 1) := by decide +kernel
theorem dX12_build_86 : decode cX12_build 86 = .ok (.ladd, 1) := by decide +kernel
theorem dX12_build_87 : decode cX12_build 87 = .ok (.iload_n 3, 1) := by decide +kernel
theorem dX12_build_88 : decode cX12_build 88 = .ok (.i2l, 1) := by decide +kernel
theorem dX12_build_89 : decode cX12_build 89 = .ok (.lcmp, 1) := by decide +kernel
theorem dX12_build_90 : decode cX12_build 90 = .ok (.ifCond .ge 14, 3) := by decide +kernel
theorem dX12_build_93 : decode cX12_build 93 = .ok (.aload_n 0, 1) := by decide +kernel
theorem dX12_build_94 : decode cX12_build 94 = .ok (.getfield 194, 3) := by decide +kernel
theorem dX12_build_97 : decode cX12_build 97 = .ok (.iload_n 1, 1) := by decide +kernel
theorem dX12_build_98 : decode cX12_build 98 = .ok (.dup2, 1) := by decide +kernel
theorem dX12_build_99 : decode cX12_build 99 = .ok (.iaload, 1) := by decide +kernel
theorem dX12_build_100 : decode cX12_build 100 = .ok (.iconst 1, 1) := by decide +kernel
theorem dX12_build_101 : decode cX12_build 101 = .ok (.iadd, 1) := by decide +kernel
theorem dX12_build_102 : decode cX12_build 102 = .ok (.iastore, 1) := by decide +kernel
theorem dX12_build_103 : decode cX12_build 103 = .ok (.return_, 1) := by decide +kernel
theorem dX12_build_104 : decode cX12_build 104 = .ok (.aload_n 0, 1) := by decide +kernel
theorem dX12_build_105 : decode cX12_build 105 = .ok (.getfield 262, 3) := by decide +kernel
theorem dX12_build_108 : decode cX12_build 108 = .ok (.iload_n 3, 1) := by decide +kernel
theorem dX12_build_109 : decode cX12_build 109 = .ok (.invokestatic 254, 3) := by decide +kernel
theorem dX12_build_112 : decode cX12_build 112 = .ok (.istore 5, 2) := by decide +kernel
theorem dX12_build_114 : decode cX12_build 114 = .ok (.aload_n 0, 1) := by decide +kernel
theorem dX12_build_115 : decode cX12_build 115 = .ok (.dup, 1) := by decide +kernel
theorem dX12_build_116 : decode cX12_build 116 = .ok (.getfield 262, 3) := by decide +kernel
theorem dX12_build_119 : decode cX12_build 119 = .ok (.iload 5, 2) := by decide +kernel
theorem dX12_build_121 : decode cX12_build 121 = .ok (.isub, 1) := by decide +kernel
theorem dX12_build_122 : decode cX12_build 122 = .ok (.putfield 262, 3) := by decide +kernel
theorem dX12_build_125 : decode cX12_build 125 = .ok (.aload_n 0, 1) := by decide +kernel
theorem dX12_build_126 : decode cX12_build 126 = .ok (.dup, 1) := by decide +kernel
theorem dX12_build_127 : decode cX12_build 127 = .ok (.getfield 296, 3) := by decide +kernel
theorem dX12_build_130 : decode cX12_build 130 = .ok (.iload_n 3, 1) := by decide +kernel
theorem dX12_build_131 : decode cX12_build 131 = .ok (.iload 5, 2) := by decide +kernel
theorem dX12_build_133 : decode cX12_build 133 = .ok (.isub, 1) := by decide +kernel
theorem dX12_build_134 : decode cX12_build 134 = .ok (.iadd, 1) := by decide +kernel
theorem dX12_build_135 : decode cX12_build 135 = .ok (.putfield 296, 3) := by decide +kernel
theorem dX12_build_138 : decode cX12_build 138 = .ok (.aload_n 0, 1) := by decide +kernel
theorem dX12_build_139 : decode cX12_build 139 = .ok (.dup, 1) := by decide +kernel
theorem dX12_build_140 : decode cX12_build 140 = .ok (.getfield 298, 3) := by decide +kernel
theorem dX12_build_143 : decode cX12_build 143 = .ok (.iload_n 3, 1) := by decide +kernel
theorem dX12_build_144 : decode cX12_build 144 = .ok (.iadd, 1) := by decide +kernel
theorem dX12_build_145 : decode cX12_build 145 = .ok (.putfield 298, 3) := by decide +kernel
theorem dX12_build_148 : decode cX12_build 148 = .ok (.aload_n 0, 1) := by decide +kernel
theorem dX12_build_149 : decode cX12_build 149 = .ok (.getfield 191, 3) := by decide +kernel
theorem dX12_build_152 : decode cX12_build 152 = .ok (.iload_n 1, 1) := by decide +kernel
theorem dX12_build_153 : decode cX12_build 153 = .ok (.dup2, 1) := by decide +kernel
theorem dX12_build_154 : decode cX12_build 154 = .ok (.iaload, 1) := by decide +kernel
theorem dX12_build_155 : decode cX12_build 155 = .ok (.iload_n 3, 1) := by decide +kernel
theorem dX12_build_156 : decode cX12_build 156 = .ok (.iadd, 1) := by decide +kernel
theorem dX12_build_157 : decode cX12_build 157 = .ok (.iastore, 1) := by decide +kernel
theorem dX12_build_158 : decode cX12_build 158 = .ok (.aload_n 0, 1) := by decide +kernel
theorem dX12_build_159 : decode cX12_build 159 = .ok (.getfield 188, 3) := by decide +kernel
theorem dX12_build_162 : decode cX12_build 162 = .ok (.iload_n 1, 1) := by decide +kernel
theorem dX12_build_163 : decode cX12_build 163 = .ok (.dup2, 1) := by decide +kernel
theorem dX12_build_164 : decode cX12_build 164 = .ok (.iaload, 1) := by decide +kernel
theorem dX12_build_165 : decode cX12_build 165 = .ok (.iconst 1, 1) := by decide +kernel
theorem dX12_build_166 : decode cX12_build 166 = .ok (.iadd, 1) := by decide +kernel
theorem dX12_build_167 : decode cX12_build 167 = .ok (.iastore, 1) := by decide +kernel
theorem dX12_build_168 : decode cX12_build 168 = .ok (.return_, 1) := by decide +kernel
theorem dX12_endMonth_0 : decode cX12_endMonth 0 = .ok (.iconst 0, 1) := by decide +kernel
theorem dX12_endMonth_1 : decode cX12_endMonth 1 = .ok (.istore_n 1, 1) := by decide +kernel
theorem dX12_endMonth_2 : decode cX12_endMonth 2 = .ok (.iload_n 1, 1) := by decide +kernel
theorem dX12_endMonth_3 : decode cX12_endMonth 3 = .ok (.aload_n 0, 1) := by decide +kernel
theorem dX12_endMonth_4 : decode cX12_endMonth 4 = .ok (.getfield 237, 3) := by decide +kernel
theorem dX12_endMonth_7 : decode cX12_endMonth 7 = .ok (.if_icmp .ge 14, 3) := by decide +kernel
theorem dX12_endMonth_10 : decode cX12_endMonth 10 = .ok (.aload_n 0, 1) := by decide +kernel
theorem dX12_endMonth_11 : decode cX12_endMonth 11 = .ok (.iload_n 1, 1) := by decide +kernel
theorem dX12_endMonth_12 : decode cX12_endMonth 12 = .ok (.invokevirtual 301, 3) := by decide +kernel
theorem dX12_endMonth_15 : decode cX12_endMonth 15 = .ok (.iinc 1 1, 3) := by decide +kernel
theorem dX12_endMonth_18 : decode cX12_endMonth 18 = .ok (.goto (-16), 3) := by decide +kernel
theorem dX12_endMonth_21 : decode cX12_endMonth 21 = .ok (.aload_n 0, 1) := by decide +kernel
theorem dX12_endMonth_22 : decode cX12_endMonth 22 = .ok (.getfield 296, 3) := by decide +kernel
theorem dX12_endMonth_25 : decode cX12_endMonth 25 = .ok (.i2l, 1) := by decide +kernel
theorem dX12_endMonth_26 : decode cX12_endMonth 26 = .ok (.aload_n 0, 1) := by decide +kernel
theorem dX12_endMonth_27 : decode cX12_endMonth 27 = .ok (.getfield 114, 3) := by decide +kernel
theorem dX12_endMonth_30 : decode cX12_endMonth 30 = .ok (.bipush 6, 2) := by decide +kernel
theorem dX12_endMonth_32 : decode cX12_endMonth 32 = .ok (.iaload, 1) := by decide +kernel
theorem dX12_endMonth_33 : decode cX12_endMonth 33 = .ok (.i2l, 1) := by decide +kernel
theorem dX12_endMonth_34 : decode cX12_endMonth 34 = .ok (.lmul, 1) := by decide +kernel
theorem dX12_endMonth_35 : decode cX12_endMonth 35 = .ok (.ldc2_w 303, 3) := by decide +kernel
theorem dX12_endMonth_38 : decode cX12_endMonth 38 = .ok (.ldiv, 1) := by decide +kernel
theorem dX12_endMonth_39 : decode cX12_endMonth 39 = .ok (.l2i, 1) := by decide +kernel
theorem dX12_endMonth_40 : decode cX12_endMonth 40 = .ok (.istore_n 1, 1) := by decide +kernel
theorem dX12_endMonth_41 : decode cX12_endMonth 41 = .ok (.aload_n 0, 1) := by decide +kernel
theorem dX12_endMonth_42 : decode cX12_endMonth 42 = .ok (.dup, 1) := by decide +kernel
theorem dX12_endMonth_43 : decode cX12_endMonth 43 = .ok (.getfield 296, 3) := by decide +kernel
theorem dX12_endMonth_46 : decode cX12_endMonth 46 = .ok (.iload_n 1, 1) := by decide +kernel
theorem dX12_endMonth_47 : decode cX12_endMonth 47 = .ok (.iadd, 1) := by decide +kernel
theorem dX12_endMonth_48 : decode cX12_endMonth 48 = .ok (.putfield 296, 3) := by decide +kernel
theorem dX12_endMonth_51 : decode cX12_endMonth 51 = .ok (.aload_n 0, 1) := by decide +kernel
theorem dX12_endMonth_52 : decode cX12_endMonth 52 = .ok (.dup, 1) := by decide +kernel
theorem dX12_endMonth_53 : decode cX12_endMonth 53 = .ok (.getfield 305, 3) := by decide +kernel
theorem dX12_endMonth_56 : decode cX12_endMonth 56 = .ok (.iload_n 1, 1) := by decide +kernel
theorem dX12_endMonth_57 : decode cX12_endMonth 57 = .ok (.iadd, 1) := by decide +kernel
theorem dX12_endMonth_58 : decode cX12_endMonth 58 = .ok (.putfield 305, 3) := by decide +kernel
theorem dX12_endMonth_61 : decode cX12_endMonth 61 = .ok (.aload_n 0, 1) := by decide +kernel
theorem dX12_endMonth_62 : decode cX12_endMonth 62 = .ok (.invokevirtual 292, 3) := by decide +kernel
theorem dX12_endMonth_65 : decode cX12_endMonth 65 = .ok (.ifCond .eq 7, 3) := by decide +kernel
theorem dX12_endMonth_68 : decode cX12_endMonth 68 = .ok (.aload_n 0, 1) := by decide +kernel
theorem dX12_endMonth_69 : decode cX12_endMonth 69 = .ok (.invokevirtual 308, 3) := by decide +kernel
theorem dX12_endMonth_72 : decode cX12_endMonth 72 = .ok (.aload_n 0, 1) := by decide +kernel
theorem dX12_endMonth_73 : decode cX12_endMonth 73 = .ok (.getfield 262, 3) := by decide +kernel
theorem dX12_endMonth_76 : decode cX12_endMonth 76 = .ok (.aload_n 0, 1) := by decide +kernel
theorem dX12_endMonth_77 : decode cX12_endMonth 77 = .ok (.getfield 296, 3) := by decide +kernel
theorem dX12_endMonth_80 : decode cX12_endMonth 80 = .ok (.invokestatic 254, 3) := by decide +kernel
theorem dX12_endMonth_83 : decode cX12_endMonth 83 = .ok (.istore_n 2, 1) := by decide +kernel
theorem dX12_endMonth_84 : decode cX12_endMonth 84 = .ok (.aload_n 0, 1) := by decide +kernel
theorem dX12_endMonth_85 : decode cX12_endMonth 85 = .ok (.dup, 1) := by decide +kernel
theorem dX12_endMonth_86 : decode cX12_endMonth 86 = .ok (.getfield 262, 3) := by decide +kernel
theorem dX12_endMonth_89 : decode cX12_endMonth 89 = .ok (.iload_n 2, 1) := by decide +kernel
theorem dX12_endMonth_90 : decode cX12_endMonth 90 = .ok (.isub, 1) := by decide +kernel
theorem dX12_endMonth_91 : decode cX12_endMonth 91 = .ok (.putfield 262, 3) := by decide +kernel
theorem dX12_endMonth_94 : decode cX12_endMonth 94 = .ok (.aload_n 0, 1) := by decide +kernel
theorem dX12_endMonth_95 : decode cX12_endMonth 95 = .ok (.dup, 1) := by decide +kernel
theorem dX12_endMonth_96 : decode cX12_endMonth 96 = .ok (.getfield 296, 3) := by decide +kernel
theorem dX12_endMonth_99 : decode cX12_endMonth 99 = .ok (.iload_n 2, 1) := by decide +kernel
theorem dX12_endMonth_100 : decode cX12_endMonth 100 = .ok (.isub, 1) := by decide +kernel
theorem dX12_endMonth_101 : decode cX12_endMonth 101 = .ok (.putfield 296, 3) := by decide +kernel
theorem dX12_endMonth_104 : decode cX12_endMonth 104 = .ok (.aload_n 0, 1) := by decide +kernel
theorem dX12_endMonth_105 : decode cX12_endMonth 105 = .ok (.dup, 1) := by decide +kernel
theorem dX12_endMonth_106 : decode cX12_endMonth 106 = .ok (.getfield 230, 3) := by decide +kernel
theorem dX12_endMonth_109 : decode cX12_endMonth 109 = .ok (.iconst 1, 1) := by decide +kernel
theorem dX12_endMonth_110 : decode cX12_endMonth 110 = .ok (.iadd, 1) := by decide +kernel
theorem dX12_endMonth_111 : decode cX12_endMonth 111 = .ok (.putfield 230, 3) := by decide +kernel
theorem dX12_endMonth_114 : decode cX12_endMonth 114 = .ok (.return_, 1) := by decide +kernel
theorem dX12_months_0 : decode cX12_months 0 = .ok (.iload_n 1, 1) := by decide +kernel
theorem dX12_months_1 : decode cX12_months 1 = .ok (.i2l, 1) := by decide +kernel
theorem dX12_months_2 : decode cX12_months 2 = .ok (.lconst 1, 1) := by decide +kernel
theorem dX12_months_3 : decode cX12_months 3 = .ok (.ldc2_w 284, 3) := by decide +kernel
theorem dX12_months_6 : decode cX12_months 6 = .ok (.invokestatic 58, 3) := by decide +kernel
theorem dX12_months_9 : decode cX12_months 9 = .ok (.ifCond .eq 14, 3) := by decide +kernel
theorem dX12_months_12 : decode cX12_months 12 = .ok (.aload_n 0, 1) := by decide +kernel
theorem dX12_months_13 : decode cX12_months 13 = .ok (.getfield 230, 3) := by decide +kernel
theorem dX12_months_16 : decode cX12_months 16 = .ok (.iload_n 1, 1) := by decide +kernel
theorem dX12_months_17 : decode cX12_months 17 = .ok (.iadd, 1) := by decide +kernel
theorem dX12_months_18 : decode cX12_months 18 = .ok (.bipush 119, 2) := by decide +kernel
theorem dX12_months_20 : decode cX12_months 20 = .ok (.if_icmp .le 6, 3) := by decide +kernel
theorem dX12_months_23 : decode cX12_months 23 = .ok (.bipush (-2), 2) := by decide +kernel
theorem dX12_months_25 : decode cX12_months 25 = .ok (.ireturn, 1) := by decide +kernel
theorem dX12_months_26 : decode cX12_months 26 = .ok (.aload_n 0, 1) := by decide +kernel
theorem dX12_months_27 : decode cX12_months 27 = .ok (.getfield 224, 3) := by decide +kernel
theorem dX12_months_30 : decode cX12_months 30 = .ok (.ifCond .eq 6, 3) := by decide +kernel
theorem dX12_months_33 : decode cX12_months 33 = .ok (.bipush (-4), 2) := by decide +kernel
theorem dX12_months_35 : decode cX12_months 35 = .ok (.ireturn, 1) := by decide +kernel
theorem dX12_months_36 : decode cX12_months 36 = .ok (.iconst 0, 1) := by decide +kernel
theorem dX12_months_37 : decode cX12_months 37 = .ok (.istore_n 2, 1) := by decide +kernel
theorem dX12_months_38 : decode cX12_months 38 = .ok (.iload_n 2, 1) := by decide +kernel
theorem dX12_months_39 : decode cX12_months 39 = .ok (.iload_n 1, 1) := by decide +kernel
theorem dX12_months_40 : decode cX12_months 40 = .ok (.if_icmp .ge 13, 3) := by decide +kernel
theorem dX12_months_43 : decode cX12_months 43 = .ok (.aload_n 0, 1) := by decide +kernel
theorem dX12_months_44 : decode cX12_months 44 = .ok (.invokevirtual 311, 3) := by decide +kernel
theorem dX12_months_47 : decode cX12_months 47 = .ok (.iinc 2 1, 3) := by decide +kernel
theorem dX12_months_50 : decode cX12_months 50 = .ok (.goto (-12), 3) := by decide +kernel
theorem dX12_months_53 : decode cX12_months 53 = .ok (.aload_n 0, 1) := by decide +kernel
theorem dX12_months_54 : decode cX12_months 54 = .ok (.getfield 230, 3) := by decide +kernel
theorem dX12_months_57 : decode cX12_months 57 = .ok (.ireturn, 1) := by decide +kernel
theorem dX12_sure_0 : decode cX12_sure 0 = .ok (.iload_n 1, 1) := by decide +kernel
theorem dX12_sure_1 : decode cX12_sure 1 = .ok (.i2l, 1) := by decide +kernel
theorem dX12_sure_2 : decode cX12_sure 2 = .ok (.lconst 1, 1) := by decide +kernel
theorem dX12_sure_3 : decode cX12_sure 3 = .ok (.ldc2_w 235, 3) := by decide +kernel
theorem dX12_sure_6 : decode cX12_sure 6 = .ok (.invokestatic 58, 3) := by decide +kernel
theorem dX12_sure_9 : decode cX12_sure 9 = .ok (.ifCond .ne 6, 3) := by decide +kernel
theorem dX12_sure_12 : decode cX12_sure 12 = .ok (.bipush (-2), 2) := by decide +kernel
theorem dX12_sure_14 : decode cX12_sure 14 = .ok (.ireturn, 1) := by decide +kernel
theorem dX12_sure_15 : decode cX12_sure 15 = .ok (.lconst 0, 1) := by decide +kernel
theorem dX12_sure_16 : decode cX12_sure 16 = .ok (.lstore_n 2, 1) := by decide +kernel
theorem dX12_sure_17 : decode cX12_sure 17 = .ok (.lconst 0, 1) := by decide +kernel
theorem dX12_sure_18 : decode cX12_sure 18 = .ok (.lstore 4, 2) := by decide +kernel
theorem dX12_sure_20 : decode cX12_sure 20 = .ok (.lconst 0, 1) := by decide +kernel
theorem dX12_sure_21 : decode cX12_sure 21 = .ok (.lstore 6, 2) := by decide +kernel
theorem dX12_sure_23 : decode cX12_sure 23 = .ok (.iconst 0, 1) := by decide +kernel
theorem dX12_sure_24 : decode cX12_sure 24 = .ok (.istore 8, 2) := by decide +kernel
theorem dX12_sure_26 : decode cX12_sure 26 = .ok (.iload 8, 2) := by decide +kernel
theorem dX12_sure_28 : decode cX12_sure 28 = .ok (.aload_n 0, 1) := by decide +kernel
theorem dX12_sure_29 : decode cX12_sure 29 = .ok (.getfield 237, 3) := by decide +kernel
theorem dX12_sure_32 : decode cX12_sure 32 = .ok (.if_icmp .ge 150, 3) := by decide +kernel
theorem dX12_sure_35 : decode cX12_sure 35 = .ok (.iconst 0, 1) := by decide +kernel
theorem dX12_sure_36 : decode cX12_sure 36 = .ok (.istore 9, 2) := by decide +kernel
theorem dX12_sure_38 : decode cX12_sure 38 = .ok (.iload 9, 2) := by decide +kernel
theorem dX12_sure_40 : decode cX12_sure 40 = .ok (.aload_n 0, 1) := by decide +kernel
theorem dX12_sure_41 : decode cX12_sure 41 = .ok (.getfield 147, 3) := by decide +kernel
theorem dX12_sure_44 : decode cX12_sure 44 = .ok (.iload 8, 2) := by decide +kernel
theorem dX12_sure_46 : decode cX12_sure 46 = .ok (.iaload, 1) := by decide +kernel
theorem dX12_sure_47 : decode cX12_sure 47 = .ok (.if_icmp .ge 129, 3) := by decide +kernel
theorem dX12_sure_50 : decode cX12_sure 50 = .ok (.bipush 84, 2) := by decide +kernel
theorem dX12_sure_52 : decode cX12_sure 52 = .ok (.iload 8, 2) := by decide +kernel
theorem dX12_sure_54 : decode cX12_sure 54 = .ok (.imul, 1) := by decide +kernel
theorem dX12_sure_55 : decode cX12_sure 55 = .ok (.iload 9, 2) := by decide +kernel
theorem dX12_sure_57 : decode cX12_sure 57 = .ok (.iadd, 1) := by decide +kernel
theorem dX12_sure_58 : decode cX12_sure 58 = .ok (.istore 10, 2) := by decide +kernel
theorem dX12_sure_60 : decode cX12_sure 60 = .ok (.aload_n 0, 1) := by decide +kernel
theorem dX12_sure_61 : decode cX12_sure 61 = .ok (.iload 8, 2) := by decide +kernel
theorem dX12_sure_63 : decode cX12_sure 63 = .ok (.iload 9, 2) := by decide +kernel
theorem dX12_sure_65 : decode cX12_sure 65 = .ok (.invokevirtual 240, 3) := by decide +kernel
theorem dX12_sure_68 : decode cX12_sure 68 = .ok (.istore 11, 2) := by decide +kernel
theorem dX12_sure_70 : decode cX12_sure 70 = .ok (.aload_n 0, 1) := by decide +kernel
theorem dX12_sure_71 : decode cX12_sure 71 = .ok (.getfield 165, 3) := by decide +kernel
theorem dX12_sure_74 : decode cX12_sure 74 = .ok (.iload 10, 2) := by decide +kernel
theorem dX12_sure_76 : decode cX12_sure 76 = .ok (.baload, 1) := by decide +kernel
theorem dX12_sure_77 : decode cX12_sure 77 = .ok (.ifCond .eq 45, 3) := by decide +kernel
theorem dX12_sure_80 : decode cX12_sure 80 = .ok (.iload 11, 2) := by decide +kernel
theorem dX12_sure_82 : decode cX12_sure 82 = .ok (.i2l, 1) := by decide +kernel
theorem dX12_sure_83 : decode cX12_sure 83 = .ok (.aload_n 0, 1) := by decide +kernel
theorem dX12_sure_84 : decode cX12_sure 84 = .ok (.getfield 230, 3) := by decide +kernel
theorem dX12_sure_87 : decode cX12_sure 87 = .ok (.i2l, 1) := by decide +kernel
theorem dX12_sure_88 : decode cX12_sure 88 = .ok (.lconst 1, 1) := by decide +kernel
theorem dX12_sure_89 : decode cX12_sure 89 = .ok (.ladd, 1) := by decide +kernel
theorem dX12_sure_90 : decode cX12_sure 90 = .ok (.aload_n 0, 1) := by decide +kernel
theorem dX12_sure_91 : decode cX12_sure 91 = .ok (.getfield 230, 3) := by decide +kernel
theorem dX12_sure_94 : decode cX12_sure 94 = .ok (.iload_n 1, 1) := by decide +kernel
theorem dX12_sure_95 : decode cX12_sure 95 = .ok (.iadd, 1) := by decide +kernel
theorem dX12_sure_96 : decode cX12_sure 96 = .ok (.i2l, 1) := by decide +kernel
theorem dX12_sure_97 : decode cX12_sure 97 = .ok (.invokestatic 58, 3) := by decide +kernel
theorem dX12_sure_100 : decode cX12_sure 100 = .ok (.ifCond .eq 22, 3) := by decide +kernel
theorem dX12_sure_103 : decode cX12_sure 103 = .ok (.lload_n 2, 1) := by decide +kernel
theorem dX12_sure_104 : decode cX12_sure 104 = .ok (.aload_n 0, 1) := by decide +kernel
theorem dX12_sure_105 : decode cX12_sure 105 = .ok (.getfield 159, 3) := by decide +kernel
theorem dX12_sure_108 : decode cX12_sure 108 = .ok (.iload 10, 2) := by decide +kernel
theorem dX12_sure_110 : decode cX12_sure 110 = .ok (.iaload, 1) := by decide +kernel
theorem dX12_sure_111 : decode cX12_sure 111 = .ok (.aload_n 0, 1) := by decide +kernel
theorem dX12_sure_112 : decode cX12_sure 112 = .ok (.getfield 162, 3) := by decide +kernel
theorem dX12_sure_115 : decode cX12_sure 115 = .ok (.iload 10, 2) := by decide +kernel
theorem dX12_sure_117 : decode cX12_sure 117 = .ok (.iaload, 1) := by decide +kernel
theorem dX12_sure_118 : decode cX12_sure 118 = .ok (.isub, 1) := by decide +kernel
theorem dX12_sure_119 : decode cX12_sure 119 = .ok (.i2l, 1) := by decide +kernel
theorem dX12_sure_120 : decode cX12_sure 120 = .ok (.ladd, 1) := by decide +kernel
theorem dX12_sure_121 : decode cX12_sure 121 = .ok (.lstore_n 2, 1) := by decide +kernel
theorem dX12_sure_122 : decode cX12_sure 122 = .ok (.aload_n 0, 1) := by decide +kernel
theorem dX12_sure_123 : decode cX12_sure 123 = .ok (.getfield 168, 3) := by decide +kernel
theorem dX12_sure_126 : decode cX12_sure 126 = .ok (.iload 10, 2) := by decide +kernel
theorem dX12_sure_128 : decode cX12_sure 128 = .ok (.baload, 1) := by decide +kernel
theorem dX12_sure_129 : decode cX12_sure 129 = .ok (.ifCond .eq 41, 3) := by decide +kernel
theorem dX12_sure_132 : decode cX12_sure 132 = .ok (.iload 11, 2) := by decide +kernel
theorem dX12_sure_134 : decode cX12_sure 134 = .ok (.aload_n 0, 1) := by decide +kernel
theorem dX12_sure_135 : decode cX12_sure 135 = .ok (.getfield 230, 3) := by decide +kernel
theorem dX12_sure_138 : decode cX12_sure 138 = .ok (.if_icmp .le 6, 3) := by decide +kernel
theorem dX12_sure_141 : decode cX12_sure 141 = .ok (.goto 29, 3) := by decide +kernel
theorem dX12_sure_144 : decode cX12_sure 144 = .ok (.lload 4, 2) := by decide +kernel
theorem dX12_sure_146 : decode cX12_sure 146 = .ok (.aload_n 0, 1) := by decide +kernel
theorem dX12_sure_147 : decode cX12_sure 147 = .ok (.getfield 159, 3) := by decide +kernel
theorem dX12_sure_150 : decode cX12_sure 150 = .ok (.iload 10, 2) := by decide +kernel
theorem dX12_sure_152 : decode cX12_sure 152 = .ok (.iaload, 1) := by decide +kernel
theorem dX12_sure_153 : decode cX12_sure 153 = .ok (.i2l, 1) := by decide +kernel
theorem dX12_sure_154 : decode cX12_sure 154 = .ok (.ladd, 1) := by decide +kernel
theorem dX12_sure_155 : decode cX12_sure 155 = .ok (.lstore 4, 2) := by decide +kernel
theorem dX12_sure_157 : decode cX12_sure 157 = .ok (.lload 6, 2) := by decide +kernel
theorem dX12_sure_159 : decode cX12_sure 159 = .ok (.aload_n 0, 1) := by decide +kernel
theorem dX12_sure_160 : decode cX12_sure 160 = .ok (.getfield 162, 3) := by decide +kernel
theorem dX12_sure_163 : decode cX12_sure 163 = .ok (.iload 10, 2) := by decide +kernel
theorem dX12_sure_165 : decode cX12_sure 165 = .ok (.iaload, 1) := by decide +kernel
theorem dX12_sure_166 : decode cX12_sure 166 = .ok (.i2l, 1) := by decide +kernel
theorem dX12_sure_167 : decode cX12_sure 167 = .ok (.ladd, 1) := by decide +kernel
theorem dX12_sure_168 : decode cX12_sure 168 = .ok (.lstore 6, 2) := by decide +kernel
theorem dX12_sure_170 : decode cX12_sure 170 = .ok (.iinc 9 1, 3) := by decide +kernel
theorem dX12_sure_173 : decode cX12_sure 173 = .ok (.goto (-135), 3) := by decide +kernel
theorem dX12_sure_176 : decode cX12_sure 176 = .ok (.iinc 8 1, 3) := by decide +kernel
theorem dX12_sure_179 : decode cX12_sure 179 = .ok (.goto (-153), 3) := by decide +kernel
theorem dX12_sure_182 : decode cX12_sure 182 = .ok (.lload 4, 2) := by decide +kernel
theorem dX12_sure_184 : decode cX12_sure 184 = .ok (.lconst 0, 1) := by decide +kernel
theorem dX12_sure_185 : decode cX12_sure 185 = .ok (.lcmp, 1) := by decide +kernel
theorem dX12_sure_186 : decode cX12_sure 186 = .ok (.ifCond .ne 7, 3) := by decide +kernel
theorem dX12_sure_189 : decode cX12_sure 189 = .ok (.iconst 0, 1) := by decide +kernel
theorem dX12_sure_190 : decode cX12_sure 190 = .ok (.goto 11, 3) := by decide +kernel
theorem dX12_sure_193 : decode cX12_sure 193 = .ok (.lload_n 2, 1) := by decide +kernel
theorem dX12_sure_194 : decode cX12_sure 194 = .ok (.lload 6, 2) := by decide +kernel
theorem dX12_sure_196 : decode cX12_sure 196 = .ok (.lmul, 1) := by decide +kernel
theorem dX12_sure_197 : decode cX12_sure 197 = .ok (.lload 4, 2) := by decide +kernel
theorem dX12_sure_199 : decode cX12_sure 199 = .ok (.ldiv, 1) := by decide +kernel
theorem dX12_sure_200 : decode cX12_sure 200 = .ok (.l2i, 1) := by decide +kernel
theorem dX12_sure_201 : decode cX12_sure 201 = .ok (.ireturn, 1) := by decide +kernel
theorem dX12_carve_0 : decode cX12_carve 0 = .ok (.iconst 0, 1) := by decide +kernel
theorem dX12_carve_1 : decode cX12_carve 1 = .ok (.istore_n 1, 1) := by decide +kernel
theorem dX12_carve_2 : decode cX12_carve 2 = .ok (.iload_n 1, 1) := by decide +kernel
theorem dX12_carve_3 : decode cX12_carve 3 = .ok (.bipush 30, 2) := by decide +kernel
theorem dX12_carve_5 : decode cX12_carve 5 = .ok (.if_icmp .ge 16, 3) := by decide +kernel
theorem dX12_carve_8 : decode cX12_carve 8 = .ok (.aload_n 0, 1) := by decide +kernel
theorem dX12_carve_9 : decode cX12_carve 9 = .ok (.getfield 197, 3) := by decide +kernel
theorem dX12_carve_12 : decode cX12_carve 12 = .ok (.iload_n 1, 1) := by decide +kernel
theorem dX12_carve_13 : decode cX12_carve 13 = .ok (.iconst 0, 1) := by decide +kernel
theorem dX12_carve_14 : decode cX12_carve 14 = .ok (.iastore, 1) := by decide +kernel
theorem dX12_carve_15 : decode cX12_carve 15 = .ok (.iinc 1 1, 3) := by decide +kernel
theorem dX12_carve_18 : decode cX12_carve 18 = .ok (.goto (-16), 3) := by decide +kernel
theorem dX12_carve_21 : decode cX12_carve 21 = .ok (.iconst 0, 1) := by decide +kernel
theorem dX12_carve_22 : decode cX12_carve 22 = .ok (.istore_n 1, 1) := by decide +kernel
theorem dX12_carve_23 : decode cX12_carve 23 = .ok (.iconst 0, 1) := by decide +kernel
theorem dX12_carve_24 : decode cX12_carve 24 = .ok (.istore_n 2, 1) := by decide +kernel
theorem dX12_carve_25 : decode cX12_carve 25 = .ok (.iload_n 2, 1) := by decide +kernel
theorem dX12_carve_26 : decode cX12_carve 26 = .ok (.aload_n 0, 1) := by decide +kernel
theorem dX12_carve_27 : decode cX12_carve 27 = .ok (.getfield 246, 3) := by decide +kernel
theorem dX12_carve_30 : decode cX12_carve 30 = .ok (.if_icmp .ge 103, 3) := by decide +kernel
theorem dX12_carve_33 : decode cX12_carve 33 = .ok (.aload_n 0, 1) := by decide +kernel
theorem dX12_carve_34 : decode cX12_carve 34 = .ok (.getfield 171, 3) := by decide +kernel
theorem dX12_carve_37 : decode cX12_carve 37 = .ok (.iload_n 2, 1) := by decide +kernel
theorem dX12_carve_38 : decode cX12_carve 38 = .ok (.iaload, 1) := by decide +kernel
theorem dX12_carve_39 : decode cX12_carve 39 = .ok (.istore_n 3, 1) := by decide +kernel
theorem dX12_carve_40 : decode cX12_carve 40 = .ok (.aload_n 0, 1) := by decide +kernel
theorem dX12_carve_41 : decode cX12_carve 41 = .ok (.getfield 197, 3) := by decide +kernel
theorem dX12_carve_44 : decode cX12_carve 44 = .ok (.iload_n 3, 1) := by decide +kernel
theorem dX12_carve_45 : decode cX12_carve 45 = .ok (.iaload, 1) := by decide +kernel
theorem dX12_carve_46 : decode cX12_carve 46 = .ok (.bipush 100, 2) := by decide +kernel
theorem dX12_carve_48 : decode cX12_carve 48 = .ok (.aload_n 0, 1) := by decide +kernel
theorem dX12_carve_49 : decode cX12_carve 49 = .ok (.getfield 114, 3) := by decide +kernel
theorem dX12_carve_52 : decode cX12_carve 52 = .ok (.bipush 7, 2) := by decide +kernel
theorem dX12_carve_54 : decode cX12_carve 54 = .ok (.iaload, 1) := by decide +kernel
theorem dX12_carve_55 : decode cX12_carve 55 = .ok (.imul, 1) := by decide +kernel
theorem dX12_carve_56 : decode cX12_carve 56 = .ok (.if_icmp .lt 7, 3) := by decide +kernel
theorem dX12_carve_59 : decode cX12_carve 59 = .ok (.iconst 1, 1) := by decide +kernel
theorem dX12_carve_60 : decode cX12_carve 60 = .ok (.goto 4, 3) := by decide +kernel
theorem dX12_carve_63 : decode cX12_carve 63 = .ok (.iconst 0, 1) := by decide +kernel
theorem dX12_carve_64 : decode cX12_carve 64 = .ok (.istore 4, 2) := by decide +kernel
theorem dX12_carve_66 : decode cX12_carve 66 = .ok (.aload_n 0, 1) := by decide +kernel
theorem dX12_carve_67 : decode cX12_carve 67 = .ok (.getfield 197, 3) := by decide +kernel
theorem dX12_carve_70 : decode cX12_carve 70 = .ok (.iload_n 3, 1) := by decide +kernel
theorem dX12_carve_71 : decode cX12_carve 71 = .ok (.dup2, 1) := by decide +kernel
theorem dX12_carve_72 : decode cX12_carve 72 = .ok (.iaload, 1) := by decide +kernel
theorem dX12_carve_73 : decode cX12_carve 73 = .ok (.aload_n 0, 1) := by decide +kernel
theorem dX12_carve_74 : decode cX12_carve 74 = .ok (.getfield 177, 3) := by decide +kernel
theorem dX12_carve_77 : decode cX12_carve 77 = .ok (.iload_n 2, 1) := by decide +kernel
theorem dX12_carve_78 : decode cX12_carve 78 = .ok (.iaload, 1) := by decide +kernel
theorem dX12_carve_79 : decode cX12_carve 79 = .ok (.iadd, 1) := by decide +kernel
theorem dX12_carve_80 : decode cX12_carve 80 = .ok (.iastore, 1) := by decide +kernel
theorem dX12_carve_81 : decode cX12_carve 81 = .ok (.iload 4, 2) := by decide +kernel
theorem dX12_carve_83 : decode cX12_carve 83 = .ok (.ifCond .ne 44, 3) := by decide +kernel
theorem dX12_carve_86 : decode cX12_carve 86 = .ok (.aload_n 0, 1) := by decide +kernel
theorem dX12_carve_87 : decode cX12_carve 87 = .ok (.getfield 197, 3) := by decide +kernel
theorem dX12_carve_90 : decode cX12_carve 90 = .ok (.iload_n 3, 1) := by decide +kernel
theorem dX12_carve_91 : decode cX12_carve 91 = .ok (.iaload, 1) := by decide +kernel
theorem dX12_carve_92 : decode cX12_carve 92 = .ok (.bipush 100, 2) := by decide +kernel
theorem dX12_carve_94 : decode cX12_carve 94 = .ok (.aload_n 0, 1) := by decide +kernel
theorem dX12_carve_95 : decode cX12_carve 95 = .ok (.getfield 114, 3) := by decide +kernel
theorem dX12_carve_98 : decode cX12_carve 98 = .ok (.bipush 7, 2) := by decide +kernel
theorem dX12_carve_100 : decode cX12_carve 100 = .ok (.iaload, 1) := by decide +kernel
theorem dX12_carve_101 : decode cX12_carve 101 = .ok (.imul, 1) := by decide +kernel
theorem dX12_carve_102 : decode cX12_carve 102 = .ok (.if_icmp .lt 25, 3) := by decide +kernel
theorem dX12_carve_105 : decode cX12_carve 105 = .ok (.aload_n 0, 1) := by decide +kernel
theorem dX12_carve_106 : decode cX12_carve 106 = .ok (.getfield 132, 3) := by decide +kernel
theorem dX12_carve_109 : decode cX12_carve 109 = .ok (.iload_n 3, 1) := by decide +kernel
theorem dX12_carve_110 : decode cX12_carve 110 = .ok (.baload, 1) := by decide +kernel
theorem dX12_carve_111 : decode cX12_carve 111 = .ok (.ifCond .eq 6, 3) := by decide +kernel
theorem dX12_carve_114 : decode cX12_carve 114 = .ok (.goto 13, 3) := by decide +kernel
theorem dX12_carve_117 : decode cX12_carve 117 = .ok (.aload_n 0, 1) := by decide +kernel
theorem dX12_carve_118 : decode cX12_carve 118 = .ok (.getfield 200, 3) := by decide +kernel
theorem dX12_carve_121 : decode cX12_carve 121 = .ok (.iload_n 1, 1) := by decide +kernel
theorem dX12_carve_122 : decode cX12_carve 122 = .ok (.iload_n 3, 1) := by decide +kernel
theorem dX12_carve_123 : decode cX12_carve 123 = .ok (.iastore, 1) := by decide +kernel
theorem dX12_carve_124 : decode cX12_carve 124 = .ok (.iinc 1 1, 3) := by decide +kernel
theorem dX12_carve_127 : decode cX12_carve 127 = .ok (.iinc 2 1, 3) := by decide +kernel
theorem dX12_carve_130 : decode cX12_carve 130 = .ok (.goto (-105), 3) := by decide +kernel
theorem dX12_carve_133 : decode cX12_carve 133 = .ok (.iload_n 1, 1) := by decide +kernel
theorem dX12_carve_134 : decode cX12_carve 134 = .ok (.ireturn, 1) := by decide +kernel
theorem dX12_stone_0 : decode cX12_stone 0 = .ok (.iload_n 1, 1) := by decide +kernel
theorem dX12_stone_1 : decode cX12_stone 1 = .ok (.i2l, 1) := by decide +kernel
theorem dX12_stone_2 : decode cX12_stone 2 = .ok (.lconst 0, 1) := by decide +kernel
theorem dX12_stone_3 : decode cX12_stone 3 = .ok (.aload_n 0, 1) := by decide +kernel
theorem dX12_stone_4 : decode cX12_stone 4 = .ok (.invokevirtual 314, 3) := by decide +kernel
theorem dX12_stone_7 : decode cX12_stone 7 = .ok (.i2l, 1) := by decide +kernel
theorem dX12_stone_8 : decode cX12_stone 8 = .ok (.lconst 1, 1) := by decide +kernel
theorem dX12_stone_9 : decode cX12_stone 9 = .ok (.lsub, 1) := by decide +kernel
theorem dX12_stone_10 : decode cX12_stone 10 = .ok (.invokestatic 58, 3) := by decide +kernel
theorem dX12_stone_13 : decode cX12_stone 13 = .ok (.ifCond .eq 12, 3) := by decide +kernel
theorem dX12_stone_16 : decode cX12_stone 16 = .ok (.aload_n 0, 1) := by decide +kernel
theorem dX12_stone_17 : decode cX12_stone 17 = .ok (.getfield 200, 3) := by decide +kernel
theorem dX12_stone_20 : decode cX12_stone 20 = .ok (.iload_n 1, 1) := by decide +kernel
theorem dX12_stone_21 : decode cX12_stone 21 = .ok (.iaload, 1) := by decide +kernel
theorem dX12_stone_22 : decode cX12_stone 22 = .ok (.goto 4, 3) := by decide +kernel
theorem dX12_stone_25 : decode cX12_stone 25 = .ok (.iconst (-1), 1) := by decide +kernel
theorem dX12_stone_26 : decode cX12_stone 26 = .ok (.ireturn, 1) := by decide +kernel
theorem dX12_allGiven_0 : decode cX12_allGiven 0 = .ok (.iconst 0, 1) := by decide +kernel

