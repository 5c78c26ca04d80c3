theorem dX10_stage_37 : decode cX10_stage 37 = .ok (.invokevirtual 216, 3) := by decide +kernel
theorem dX10_stage_40 : decode cX10_stage 40 = .ok (.ifCond .eq 8, 3) := by decide +kernel
theorem dX10_stage_43 : decode cX10_stage 43 = .ok (.bipush (-3), 2) := by decide +kernel
theorem dX10_stage_45 : decode cX10_stage 45 = .ok (.goto 19, 3) := by decide +kernel
theorem dX10_stage_48 : decode cX10_stage 48 = .ok (.aload_n 0, 1) := by decide +kernel
theorem dX10_stage_49 : decode cX10_stage 49 = .ok (.getfield 61, 3) := by decide +kernel
theorem dX10_stage_52 : decode cX10_stage 52 = .ok (.new 217, 3) := by decide +kernel
theorem dX10_stage_55 : decode cX10_stage 55 = .ok (.dup, 1) := by decide +kernel
theorem dX10_stage_56 : decode cX10_stage 56 = .ok (.iload_n 1, 1) := by decide +kernel
theorem dX10_stage_57 : decode cX10_stage 57 = .ok (.iload_n 2, 1) := by decide +kernel
theorem dX10_stage_58 : decode cX10_stage 58 = .ok (.invokespecial 219, 3) := by decide +kernel
theorem dX10_stage_61 : decode cX10_stage 61 = .ok (.invokevirtual 221, 3) := by decide +kernel
theorem dX10_stage_64 : decode cX10_stage 64 = .ok (.ireturn, 1) := by decide +kernel
theorem dX10_begin_0 : decode cX10_begin 0 = .ok (.aload_n 0, 1) := by decide +kernel
theorem dX10_begin_1 : decode cX10_begin 1 = .ok (.getfield 106, 3) := by decide +kernel
theorem dX10_begin_4 : decode cX10_begin 4 = .ok (.ifCond .ne 13, 3) := by decide +kernel
theorem dX10_begin_7 : decode cX10_begin 7 = .ok (.aload_n 0, 1) := by decide +kernel
theorem dX10_begin_8 : decode cX10_begin 8 = .ok (.getfield 61, 3) := by decide +kernel
theorem dX10_begin_11 : decode cX10_begin 11 = .ok (.invokevirtual 224, 3) := by decide +kernel
theorem dX10_begin_14 : decode cX10_begin 14 = .ok (.ifCond .ne 6, 3) := by decide +kernel
theorem dX10_begin_17 : decode cX10_begin 17 = .ok (.bipush (-4), 2) := by decide +kernel
theorem dX10_begin_19 : decode cX10_begin 19 = .ok (.ireturn, 1) := by decide +kernel
theorem dX10_begin_20 : decode cX10_begin 20 = .ok (.aload_n 0, 1) := by decide +kernel
theorem dX10_begin_21 : decode cX10_begin 21 = .ok (.getfield 61, 3) := by decide +kernel
theorem dX10_begin_24 : decode cX10_begin 24 = .ok (.invokevirtual 227, 3) := by decide +kernel
theorem dX10_begin_27 : decode cX10_begin 27 = .ok (.ireturn, 1) := by decide +kernel
theorem dX10_built_0 : decode cX10_built 0 = .ok (.aload_n 0, 1) := by decide +kernel
theorem dX10_built_1 : decode cX10_built 1 = .ok (.getfield 61, 3) := by decide +kernel
theorem dX10_built_4 : decode cX10_built 4 = .ok (.iload_n 1, 1) := by decide +kernel
theorem dX10_built_5 : decode cX10_built 5 = .ok (.invokevirtual 230, 3) := by decide +kernel
theorem dX10_built_8 : decode cX10_built 8 = .ok (.astore_n 3, 1) := by decide +kernel
theorem dX10_built_9 : decode cX10_built 9 = .ok (.aload_n 3, 1) := by decide +kernel
theorem dX10_built_10 : decode cX10_built 10 = .ok (.ifnonnull 5, 3) := by decide +kernel
theorem dX10_built_13 : decode cX10_built 13 = .ok (.iconst (-1), 1) := by decide +kernel
theorem dX10_built_14 : decode cX10_built 14 = .ok (.ireturn, 1) := by decide +kernel
theorem dX10_built_15 : decode cX10_built 15 = .ok (.iload_n 2, 1) := by decide +kernel
theorem dX10_built_16 : decode cX10_built 16 = .ok (.tableswitch 61 0 4 #[36, 41, 46, 51, 56], 36) := by decide +kernel
theorem dX10_built_52 : decode cX10_built 52 = .ok (.aload_n 3, 1) := by decide +kernel
theorem dX10_built_53 : decode cX10_built 53 = .ok (.invokevirtual 233, 3) := by decide +kernel
theorem dX10_built_56 : decode cX10_built 56 = .ok (.ireturn, 1) := by decide +kernel
theorem dX10_built_57 : decode cX10_built 57 = .ok (.aload_n 3, 1) := by decide +kernel
theorem dX10_built_58 : decode cX10_built 58 = .ok (.invokevirtual 236, 3) := by decide +kernel
theorem dX10_built_61 : decode cX10_built 61 = .ok (.ireturn, 1) := by decide +kernel
theorem dX10_built_62 : decode cX10_built 62 = .ok (.aload_n 3, 1) := by decide +kernel
theorem dX10_built_63 : decode cX10_built 63 = .ok (.invokevirtual 239, 3) := by decide +kernel
theorem dX10_built_66 : decode cX10_built 66 = .ok (.ireturn, 1) := by decide +kernel
theorem dX10_built_67 : decode cX10_built 67 = .ok (.aload_n 3, 1) := by decide +kernel
theorem dX10_built_68 : decode cX10_built 68 = .ok (.invokevirtual 242, 3) := by decide +kernel
theorem dX10_built_71 : decode cX10_built 71 = .ok (.ireturn, 1) := by decide +kernel
theorem dX10_built_72 : decode cX10_built 72 = .ok (.aload_n 3, 1) := by decide +kernel
theorem dX10_built_73 : decode cX10_built 73 = .ok (.invokevirtual 245, 3) := by decide +kernel
theorem dX10_built_76 : decode cX10_built 76 = .ok (.ireturn, 1) := by decide +kernel
theorem dX10_built_77 : decode cX10_built 77 = .ok (.iconst (-1), 1) := by decide +kernel
theorem dX10_built_78 : decode cX10_built 78 = .ok (.ireturn, 1) := by decide +kernel
theorem dX10_months_0 : decode cX10_months 0 = .ok (.iload_n 1, 1) := by decide +kernel
theorem dX10_months_1 : decode cX10_months 1 = .ok (.iconst 1, 1) := by decide +kernel
theorem dX10_months_2 : decode cX10_months 2 = .ok (.bipush 24, 2) := by decide +kernel
theorem dX10_months_4 : decode cX10_months 4 = .ok (.invokestatic 119, 3) := by decide +kernel
theorem dX10_months_7 : decode cX10_months 7 = .ok (.ifCond .eq 14, 3) := by decide +kernel
theorem dX10_months_10 : decode cX10_months 10 = .ok (.aload_n 0, 1) := by decide +kernel
theorem dX10_months_11 : decode cX10_months 11 = .ok (.getfield 123, 3) := by decide +kernel
theorem dX10_months_14 : decode cX10_months 14 = .ok (.iload_n 1, 1) := by decide +kernel
theorem dX10_months_15 : decode cX10_months 15 = .ok (.iadd, 1) := by decide +kernel
theorem dX10_months_16 : decode cX10_months 16 = .ok (.bipush 119, 2) := by decide +kernel
theorem dX10_months_18 : decode cX10_months 18 = .ok (.if_icmp .le 6, 3) := by decide +kernel
theorem dX10_months_21 : decode cX10_months 21 = .ok (.bipush (-2), 2) := by decide +kernel
theorem dX10_months_23 : decode cX10_months 23 = .ok (.ireturn, 1) := by decide +kernel
theorem dX10_months_24 : decode cX10_months 24 = .ok (.aload_n 0, 1) := by decide +kernel
theorem dX10_months_25 : decode cX10_months 25 = .ok (.getfield 106, 3) := by decide +kernel
theorem dX10_months_28 : decode cX10_months 28 = .ok (.ifCond .eq 6, 3) := by decide +kernel
theorem dX10_months_31 : decode cX10_months 31 = .ok (.bipush (-4), 2) := by decide +kernel
theorem dX10_months_33 : decode cX10_months 33 = .ok (.ireturn, 1) := by decide +kernel
theorem dX10_months_34 : decode cX10_months 34 = .ok (.iconst 0, 1) := by decide +kernel
theorem dX10_months_35 : decode cX10_months 35 = .ok (.istore_n 2, 1) := by decide +kernel
theorem dX10_months_36 : decode cX10_months 36 = .ok (.iload_n 2, 1) := by decide +kernel
theorem dX10_months_37 : decode cX10_months 37 = .ok (.iload_n 1, 1) := by decide +kernel
theorem dX10_months_38 : decode cX10_months 38 = .ok (.if_icmp .ge 13, 3) := by decide +kernel
theorem dX10_months_41 : decode cX10_months 41 = .ok (.aload_n 0, 1) := by decide +kernel
theorem dX10_months_42 : decode cX10_months 42 = .ok (.invokevirtual 248, 3) := by decide +kernel
theorem dX10_months_45 : decode cX10_months 45 = .ok (.iinc 2 1, 3) := by decide +kernel
theorem dX10_months_48 : decode cX10_months 48 = .ok (.goto (-12), 3) := by decide +kernel
theorem dX10_months_51 : decode cX10_months 51 = .ok (.aload_n 0, 1) := by decide +kernel
theorem dX10_months_52 : decode cX10_months 52 = .ok (.getfield 123, 3) := by decide +kernel
theorem dX10_months_55 : decode cX10_months 55 = .ok (.ireturn, 1) := by decide +kernel
theorem dX10_sure_0 : decode cX10_sure 0 = .ok (.iload_n 1, 1) := by decide +kernel
theorem dX10_sure_1 : decode cX10_sure 1 = .ok (.iconst 1, 1) := by decide +kernel
theorem dX10_sure_2 : decode cX10_sure 2 = .ok (.bipush 84, 2) := by decide +kernel
theorem dX10_sure_4 : decode cX10_sure 4 = .ok (.invokestatic 119, 3) := by decide +kernel
theorem dX10_sure_7 : decode cX10_sure 7 = .ok (.ifCond .eq 18, 3) := by decide +kernel
theorem dX10_sure_10 : decode cX10_sure 10 = .ok (.aload_n 0, 1) := by decide +kernel
theorem dX10_sure_11 : decode cX10_sure 11 = .ok (.getfield 40, 3) := by decide +kernel
theorem dX10_sure_14 : decode cX10_sure 14 = .ok (.iload_n 1, 1) := by decide +kernel
theorem dX10_sure_15 : decode cX10_sure 15 = .ok (.aload_n 0, 1) := by decide +kernel
theorem dX10_sure_16 : decode cX10_sure 16 = .ok (.getfield 123, 3) := by decide +kernel
theorem dX10_sure_19 : decode cX10_sure 19 = .ok (.invokevirtual 251, 3) := by decide +kernel
theorem dX10_sure_22 : decode cX10_sure 22 = .ok (.goto 5, 3) := by decide +kernel
theorem dX10_sure_25 : decode cX10_sure 25 = .ok (.bipush (-2), 2) := by decide +kernel
theorem dX10_sure_27 : decode cX10_sure 27 = .ok (.ireturn, 1) := by decide +kernel
theorem dX10_stone_0 : decode cX10_stone 0 = .ok (.aload_n 0, 1) := by decide +kernel
theorem dX10_stone_1 : decode cX10_stone 1 = .ok (.getfield 33, 3) := by decide +kernel
theorem dX10_stone_4 : decode cX10_stone 4 = .ok (.aload_n 0, 1) := by decide +kernel
theorem dX10_stone_5 : decode cX10_stone 5 = .ok (.getfield 47, 3) := by decide +kernel
theorem dX10_stone_8 : decode cX10_stone 8 = .ok (.aload_n 0, 1) := by decide +kernel
theorem dX10_stone_9 : decode cX10_stone 9 = .ok (.getfield 26, 3) := by decide +kernel
theorem dX10_stone_12 : decode cX10_stone 12 = .ok (.invokevirtual 254, 3) := by decide +kernel
theorem dX10_stone_15 : decode cX10_stone 15 = .ok (.invokevirtual 257, 3) := by decide +kernel
theorem dX10_stone_18 : decode cX10_stone 18 = .ok (.istore_n 2, 1) := by decide +kernel
theorem dX10_stone_19 : decode cX10_stone 19 = .ok (.iload_n 1, 1) := by decide +kernel
theorem dX10_stone_20 : decode cX10_stone 20 = .ok (.ifCond .lt 19, 3) := by decide +kernel
theorem dX10_stone_23 : decode cX10_stone 23 = .ok (.iload_n 1, 1) := by decide +kernel
theorem dX10_stone_24 : decode cX10_stone 24 = .ok (.iload_n 2, 1) := by decide +kernel
theorem dX10_stone_25 : decode cX10_stone 25 = .ok (.if_icmp .ge 14, 3) := by decide +kernel
theorem dX10_stone_28 : decode cX10_stone 28 = .ok (.aload_n 0, 1) := by decide +kernel
theorem dX10_stone_29 : decode cX10_stone 29 = .ok (.getfield 33, 3) := by decide +kernel
theorem dX10_stone_32 : decode cX10_stone 32 = .ok (.iload_n 1, 1) := by decide +kernel
theorem dX10_stone_33 : decode cX10_stone 33 = .ok (.invokevirtual 261, 3) := by decide +kernel
theorem dX10_stone_36 : decode cX10_stone 36 = .ok (.goto 4, 3) := by decide +kernel
theorem dX10_stone_39 : decode cX10_stone 39 = .ok (.iconst (-1), 1) := by decide +kernel
theorem dX10_stone_40 : decode cX10_stone 40 = .ok (.ireturn, 1) := by decide +kernel
theorem dX10_stop_0 : decode cX10_stop 0 = .ok (.aload_n 0, 1) := by decide +kernel
theorem dX10_stop_1 : decode cX10_stop 1 = .ok (.getfield 106, 3) := by decide +kernel
theorem dX10_stop_4 : decode cX10_stop 4 = .ok (.ifCond .eq 6, 3) := by decide +kernel
theorem dX10_stop_7 : decode cX10_stop 7 = .ok (.bipush (-4), 2) := by decide +kernel
theorem dX10_stop_9 : decode cX10_stop 9 = .ok (.ireturn, 1) := by decide +kernel
theorem dX10_stop_10 : decode cX10_stop 10 = .ok (.aload_n 0, 1) := by decide +kernel
theorem dX10_stop_11 : decode cX10_stop 11 = .ok (.iconst 1, 1) := by decide +kernel
theorem dX10_stop_12 : decode cX10_stop 12 = .ok (.putfield 106, 3) := by decide +kernel
theorem dX10_stop_15 : decode cX10_stop 15 = .ok (.aload_n 0, 1) := by decide +kernel
theorem dX10_stop_16 : decode cX10_stop 16 = .ok (.getfield 33, 3) := by decide +kernel
theorem dX10_stop_19 : decode cX10_stop 19 = .ok (.aload_n 0, 1) := by decide +kernel
theorem dX10_stop_20 : decode cX10_stop 20 = .ok (.getfield 54, 3) := by decide +kernel
theorem dX10_stop_23 : decode cX10_stop 23 = .ok (.invokevirtual 264, 3) := by decide +kernel
theorem dX10_stop_26 : decode cX10_stop 26 = .ok (.aload_n 0, 1) := by decide +kernel
theorem dX10_stop_27 : decode cX10_stop 27 = .ok (.getfield 47, 3) := by decide +kernel
theorem dX10_stop_30 : decode cX10_stop 30 = .ok (.aload_n 0, 1) := by decide +kernel
theorem dX10_stop_31 : decode cX10_stop 31 = .ok (.getfield 26, 3) := by decide +kernel
theorem dX10_stop_34 : decode cX10_stop 34 = .ok (.invokevirtual 268, 3) := by decide +kernel
theorem dX10_stop_37 : decode cX10_stop 37 = .ok (.invokevirtual 271, 3) := by decide +kernel
theorem dX10_stop_40 : decode cX10_stop 40 = .ok (.istore_n 1, 1) := by decide +kernel
theorem dX10_stop_41 : decode cX10_stop 41 = .ok (.aload_n 0, 1) := by decide +kernel
theorem dX10_stop_42 : decode cX10_stop 42 = .ok (.getfield 54, 3) := by decide +kernel
theorem dX10_stop_45 : decode cX10_stop 45 = .ok (.iload_n 1, 1) := by decide +kernel
theorem dX10_stop_46 : decode cX10_stop 46 = .ok (.invokevirtual 275, 3) := by decide +kernel
theorem dX10_stop_49 : decode cX10_stop 49 = .ok (.iload_n 1, 1) := by decide +kernel
theorem dX10_stop_50 : decode cX10_stop 50 = .ok (.ireturn, 1) := by decide +kernel
theorem dX10_back_0 : decode cX10_back 0 = .ok (.iload_n 1, 1) := by decide +kernel
theorem dX10_back_1 : decode cX10_back 1 = .ok (.invokestatic 102, 3) := by decide +kernel
theorem dX10_back_4 : decode cX10_back 4 = .ok (.ifCond .eq 14, 3) := by decide +kernel
theorem dX10_back_7 : decode cX10_back 7 = .ok (.aload_n 0, 1) := by decide +kernel
theorem dX10_back_8 : decode cX10_back 8 = .ok (.getfield 33, 3) := by decide +kernel
theorem dX10_back_11 : decode cX10_back 11 = .ok (.iload_n 1, 1) := by decide +kernel
theorem dX10_back_12 : decode cX10_back 12 = .ok (.invokevirtual 278, 3) := by decide +kernel
theorem dX10_back_15 : decode cX10_back 15 = .ok (.goto 5, 3) := by decide +kernel
theorem dX10_back_18 : decode cX10_back 18 = .ok (.bipush (-2), 2) := by decide +kernel
theorem dX10_back_20 : decode cX10_back 20 = .ok (.ireturn, 1) := by decide +kernel
theorem dX10_count_0 : decode cX10_count 0 = .ok (.iload_n 1, 1) := by decide +kernel
theorem dX10_count_1 : decode cX10_count 1 = .ok (.tableswitch 215 0 14 #[75, 80, 89, 98, 107, 116, 125, 134, 143, 151, 159, 167, 175, 188, 196], 75) := by decide +kernel
theorem dX10_count_76 : decode cX10_count 76 = .ok (.aload_n 0, 1) := by decide +kernel
theorem dX10_count_77 : decode cX10_count 77 = .ok (.getfield 123, 3) := by decide +kernel
theorem dX10_count_80 : decode cX10_count 80 = .ok (.ireturn, 1) := by decide +kernel
theorem dX10_count_81 : decode cX10_count 81 = .ok (.aload_n 0, 1) := by decide +kernel
theorem dX10_count_82 : decode cX10_count 82 = .ok (.getfield 54, 3) := by decide +kernel
theorem dX10_count_85 : decode cX10_count 85 = .ok (.invokevirtual 264, 3) := by decide +kernel
theorem dX10_count_88 : decode cX10_count 88 = .ok (.l2i, 1) := by decide +kernel
theorem dX10_count_89 : decode cX10_count 89 = .ok (.ireturn, 1) := by decide +kernel
theorem dX10_count_90 : decode cX10_count 90 = .ok (.aload_n 0, 1) := by decide +kernel
theorem dX10_count_91 : decode cX10_count 91 = .ok (.getfield 54, 3) := by decide +kernel
theorem dX10_count_94 : decode cX10_count 94 = .ok (.invokevirtual 281, 3) := by decide +kernel
theorem dX10_count_97 : decode cX10_count 97 = .ok (.l2i, 1) := by decide +kernel
theorem dX10_count_98 : decode cX10_count 98 = .ok (.ireturn, 1) := by decide +kernel
theorem dX10_count_99 : decode cX10_count 99 = .ok (.aload_n 0, 1) := by decide +kernel
theorem dX10_count_100 : decode cX10_count 100 = .ok (.getfield 47, 3) := by decide +kernel
theorem dX10_count_103 : decode cX10_count 103 = .ok (.invokevirtual 284, 3) := by decide +kernel
theorem dX10_count_106 : decode cX10_count 106 = .ok (.l2i, 1) := by decide +kernel
theorem dX10_count_107 : decode cX10_count 107 = .ok (.ireturn, 1) := by decide +kernel
theorem dX10_count_108 : decode cX10_count 108 = .ok (.aload_n 0, 1) := by decide +kernel
theorem dX10_count_109 : decode cX10_count 109 = .ok (.getfield 54, 3) := by decide +kernel
theorem dX10_count_112 : decode cX10_count 112 = .ok (.invokevirtual 287, 3) := by decide +kernel
theorem dX10_count_115 : decode cX10_count 115 = .ok (.l2i, 1) := by decide +kernel
theorem dX10_count_116 : decode cX10_count 116 = .ok (.ireturn, 1) := by decide +kernel
theorem dX10_count_117 : decode cX10_count 117 = .ok (.aload_n 0, 1) := by decide +kernel
theorem dX10_count_118 : decode cX10_count 118 = .ok (.getfield 54, 3) := by decide +kernel
theorem dX10_count_121 : decode cX10_count 121 = .ok (.invokevirtual 290, 3) := by decide +kernel
theorem dX10_count_124 : decode cX10_count 124 = .ok (.l2i, 1) := by decide +kernel
theorem dX10_count_125 : decode cX10_count 125 = .ok (.ireturn, 1) := by decide +kernel
theorem dX10_count_126 : decode cX10_count 126 = .ok (.aload_n 0, 1) := by decide +kernel
theorem dX10_count_127 : decode cX10_count 127 = .ok (.getfield 54, 3) := by decide +kernel
theorem dX10_count_130 : decode cX10_count 130 = .ok (.invokevirtual 293, 3) := by decide +kernel
theorem dX10_count_133 : decode cX10_count 133 = .ok (.l2i, 1) := by decide +kernel
theorem dX10_count_134 : decode cX10_count 134 = .ok (.ireturn, 1) := by decide +kernel
theorem dX10_count_135 : decode cX10_count 135 = .ok (.aload_n 0, 1) := by decide +kernel
theorem dX10_count_136 : decode cX10_count 136 = .ok (.getfield 54, 3) := by decide +kernel
theorem dX10_count_139 : decode cX10_count 139 = .ok (.invokevirtual 296, 3) := by decide +kernel
theorem dX10_count_142 : decode cX10_count 142 = .ok (.l2i, 1) := by decide +kernel
theorem dX10_count_143 : decode cX10_count 143 = .ok (.ireturn, 1) := by decide +kernel
theorem dX10_count_144 : decode cX10_count 144 = .ok (.aload_n 0, 1) := by decide +kernel
theorem dX10_count_145 : decode cX10_count 145 = .ok (.getfield 40, 3) := by decide +kernel
theorem dX10_count_148 : decode cX10_count 148 = .ok (.invokevirtual 299, 3) := by decide +kernel
theorem dX10_count_151 : decode cX10_count 151 = .ok (.ireturn, 1) := by decide +kernel
theorem dX10_count_152 : decode cX10_count 152 = .ok (.aload_n 0, 1) := by decide +kernel
theorem dX10_count_153 : decode cX10_count 153 = .ok (.getfield 40, 3) := by decide +kernel
theorem dX10_count_156 : decode cX10_count 156 = .ok (.invokevirtual 302, 3) := by decide +kernel
theorem dX10_count_159 : decode cX10_count 159 = .ok (.ireturn, 1) := by decide +kernel
theorem dX10_count_160 : decode cX10_count 160 = .ok (.aload_n 0, 1) := by decide +kernel
theorem dX10_count_161 : decode cX10_count 161 = .ok (.getfield 61, 3) := by decide +kernel
theorem dX10_count_164 : decode cX10_count 164 = .ok (.invokevirtual 305, 3) := by decide +kernel
theorem dX10_count_167 : decode cX10_count 167 = .ok (.ireturn, 1) := by decide +kernel
theorem dX10_count_168 : decode cX10_count 168 = .ok (.aload_n 0, 1) := by decide +kernel
theorem dX10_count_169 : decode cX10_count 169 = .ok (.getfield 47, 3) := by decide +kernel
theorem dX10_count_172 : decode cX10_count 172 = .ok (.invokevirtual 306, 3) := by decide +kernel
theorem dX10_count_175 : decode cX10_count 175 = .ok (.ireturn, 1) := by decide +kernel
theorem dX10_count_176 : decode cX10_count 176 = .ok (.aload_n 0, 1) := by decide +kernel
theorem dX10_count_177 : decode cX10_count 177 = .ok (.getfield 106, 3) := by decide +kernel
theorem dX10_count_180 : decode cX10_count 180 = .ok (.ifCond .eq 7, 3) := by decide +kernel
theorem dX10_count_183 : decode cX10_count 183 = .ok (.iconst 1, 1) := by decide +kernel
theorem dX10_count_184 : decode cX10_count 184 = .ok (.goto 4, 3) := by decide +kernel
theorem dX10_count_187 : decode cX10_count 187 = .ok (.iconst 0, 1) := by decide +kernel
theorem dX10_count_188 : decode cX10_count 188 = .ok (.ireturn, 1) := by decide +kernel
theorem dX10_count_189 : decode cX10_count 189 = .ok (.aload_n 0, 1) := by decide +kernel
theorem dX10_count_190 : decode cX10_count 190 = .ok (.getfield 10, 3) := by decide +kernel
theorem dX10_count_193 : decode cX10_count 193 = .ok (.invokevirtual 73, 3) := by decide +kernel
theorem dX10_count_196 : decode cX10_count 196 = .ok (.ireturn, 1) := by decide +kernel
theorem dX10_count_197 : decode cX10_count 197 = .ok (.aload_n 0, 1) := by decide +kernel
theorem dX10_count_198 : decode cX10_count 198 = .ok (.getfield 33, 3) := by decide +kernel
theorem dX10_count_201 : decode cX10_count 201 = .ok (.aload_n 0, 1) := by decide +kernel
theorem dX10_count_202 : decode cX10_count 202 = .ok (.getfield 47, 3) := by decide +kernel
theorem dX10_count_205 : decode cX10_count 205 = .ok (.aload_n 0, 1) := by decide +kernel
theorem dX10_count_206 : decode cX10_count 206 = .ok (.getfield 26, 3) := by decide +kernel
theorem dX10_count_209 : decode cX10_count 209 = .ok (.invokevirtual 254, 3) := by decide +kernel
theorem dX10_count_212 : decode cX10_count 212 = .ok (.invokevirtual 257, 3) := by decide +kernel
theorem dX10_count_215 : decode cX10_count 215 = .ok (.ireturn, 1) := by decide +kernel
theorem dX10_count_216 : decode cX10_count 216 = .ok (.iconst (-1), 1) := by decide +kernel
theorem dX10_count_217 : decode cX10_count 217 = .ok (.ireturn, 1) := by decide +kernel
theorem dX10_isGiver_0 : decode cX10_isGiver 0 = .ok (.iload_n 0, 1) := by decide +kernel
theorem dX10_isGiver_1 : decode cX10_isGiver 1 = .ok (.ifCond .lt 13, 3) := by decide +kernel
theorem dX10_isGiver_4 : decode cX10_isGiver 4 = .ok (.iload_n 0, 1) := by decide +kernel
theorem dX10_isGiver_5 : decode cX10_isGiver 5 = .ok (.bipush 30, 2) := by decide +kernel
theorem dX10_isGiver_7 : decode cX10_isGiver 7 = .ok (.if_icmp .ge 7, 3) := by decide +kernel
theorem dX10_isGiver_10 : decode cX10_isGiver 10 = .ok (.iconst 1, 1) := by decide +kernel
theorem dX10_isGiver_11 : decode cX10_isGiver 11 = .ok (.goto 4, 3) := by decide +kernel
theorem dX10_isGiver_14 : decode cX10_isGiver 14 = .ok (.iconst 0, 1) := by decide +kernel
theorem dX10_isGiver_15 : decode cX10_isGiver 15 = .ok (.ireturn, 1) := by decide +kernel
theorem dX10_isSum_0 : decode cX10_isSum 0 = .ok (.iload_n 0, 1) := by decide +kernel
theorem dX10_isSum_1 : decode cX10_isSum 1 = .ok (.iconst 1, 1) := by decide +kernel
theorem dX10_isSum_2 : decode cX10_isSum 2 = .ok (.ldc_w 307, 3) := by decide +kernel
theorem dX10_isSum_5 : decode cX10_isSum 5 = .ok (.invokestatic 119, 3) := by decide +kernel
theorem dX10_isSum_8 : decode cX10_isSum 8 = .ok (.ireturn, 1) := by decide +kernel
theorem dX10_isWithin_0 : decode cX10_isWithin 0 = .ok (.iload_n 0, 1) := by decide +kernel
theorem dX10_isWithin_1 : decode cX10_isWithin 1 = .ok (.iload_n 1, 1) := by decide +kernel
theorem dX10_isWithin_2 : decode cX10_isWithin 2 = .ok (.if_icmp .lt 12, 3) := by decide +kernel
theorem dX10_isWithin_5 : decode cX10_isWithin 5 = .ok (.iload_n 0, 1) := by decide +kernel
theorem dX10_isWithin_6 : decode cX10_isWithin 6 = .ok (.iload_n 2, 1) := by decide +kernel
theorem dX10_isWithin_7 : decode cX10_isWithin 7 = .ok (.if_icmp .gt 7, 3) := by decide +kernel
theorem dX10_isWithin_10 : decode cX10_isWithin 10 = .ok (.iconst 1, 1) := by decide +kernel
theorem dX10_isWithin_11 : decode cX10_isWithin 11 = .ok (.goto 4, 3) := by decide +kernel
theorem dX10_isWithin_14 : decode cX10_isWithin 14 = .ok (.iconst 0, 1) := by decide +kernel
theorem dX10_isWithin_15 : decode cX10_isWithin 15 = .ok (.ireturn, 1) := by decide +kernel
theorem dX10_receive_0 : decode cX10_receive 0 = .ok (.aload_n 0, 1) := by decide +kernel
theorem dX10_receive_1 : decode cX10_receive 1 = .ok (.getfield 47, 3) := by decide +kernel
theorem dX10_receive_4 : decode cX10_receive 4 = .ok (.iload_n 1, 1) := by decide +kernel
theorem dX10_receive_5 : decode cX10_receive 5 = .ok (.iload_n 2, 1) := by decide +kernel
theorem dX10_receive_6 : decode cX10_receive 6 = .ok (.aload_n 0, 1) := by decide +kernel
theorem dX10_receive_7 : decode cX10_receive 7 = .ok (.getfield 123, 3) := by decide +kernel
theorem dX10_receive_10 : decode cX10_receive 10 = .ok (.invokevirtual 308, 3) := by decide +kernel
theorem dX10_receive_13 : decode cX10_receive 13 = .ok (.aload_n 0, 1) := by decide +kernel
theorem dX10_receive_14 : decode cX10_receive 14 = .ok (.getfield 54, 3) := by decide +kernel
theorem dX10_receive_17 : decode cX10_receive 17 = .ok (.iload_n 2, 1) := by decide +kernel
theorem dX10_receive_18 : decode cX10_receive 18 = .ok (.aload_n 0, 1) := by decide +kernel
theorem dX10_receive_19 : decode cX10_receive 19 = .ok (.getfield 123, 3) := by decide +kernel
theorem dX10_receive_22 : decode cX10_receive 22 = .ok (.aload_n 0, 1) := by decide +kernel
theorem dX10_receive_23 : decode cX10_receive 23 = .ok (.getfield 26, 3) := by decide +kernel
theorem dX10_receive_26 : decode cX10_receive 26 = .ok (.invokevirtual 310, 3) := by decide +kernel
theorem dX10_receive_29 : decode cX10_receive 29 = .ok (.ireturn, 1) := by decide +kernel
theorem dX10_endMonth_0 : decode cX10_endMonth 0 = .ok (.aload_n 0, 1) := by decide +kernel
theorem dX10_endMonth_1 : decode cX10_endMonth 1 = .ok (.getfield 40, 3) := by decide +kernel
theorem dX10_endMonth_4 : decode cX10_endMonth 4 = .ok (.aload_n 0, 1) := by decide +kernel
theorem dX10_endMonth_5 : decode cX10_endMonth 5 = .ok (.getfield 123, 3) := by decide +kernel
theorem dX10_endMonth_8 : decode cX10_endMonth 8 = .ok (.aload_n 0, 1) := by decide +kernel
theorem dX10_endMonth_9 : decode cX10_endMonth 9 = .ok (.getfield 26, 3) := by decide +kernel
theorem dX10_endMonth_12 : decode cX10_endMonth 12 = .ok (.invokevirtual 314, 3) := by decide +kernel
theorem dX10_endMonth_15 : decode cX10_endMonth 15 = .ok (.invokevirtual 317, 3) := by decide +kernel
theorem dX10_endMonth_18 : decode cX10_endMonth 18 = .ok (.aload_n 0, 1) := by decide +kernel
theorem dX10_endMonth_19 : decode cX10_endMonth 19 = .ok (.getfield 54, 3) := by decide +kernel
theorem dX10_endMonth_22 : decode cX10_endMonth 22 = .ok (.aload_n 0, 1) := by decide +kernel
theorem dX10_endMonth_23 : decode cX10_endMonth 23 = .ok (.getfield 26, 3) := by decide +kernel
theorem dX10_endMonth_26 : decode cX10_endMonth 26 = .ok (.invokevirtual 320, 3) := by decide +kernel
theorem dX10_endMonth_29 : decode cX10_endMonth 29 = .ok (.invokevirtual 323, 3) := by decide +kernel
theorem dX10_endMonth_32 : decode cX10_endMonth 32 = .ok (.aload_n 0, 1) := by decide +kernel
theorem dX10_endMonth_33 : decode cX10_endMonth 33 = .ok (.getfield 61, 3) := by decide +kernel
theorem dX10_endMonth_36 : decode cX10_endMonth 36 = .ok (.aload_n 0, 1) := by decide +kernel
theorem dX10_endMonth_37 : decode cX10_endMonth 37 = .ok (.getfield 54, 3) := by decide +kernel
theorem dX10_endMonth_40 : decode cX10_endMonth 40 = .ok (.aload_n 0, 1) := by decide +kernel
theorem dX10_endMonth_41 : decode cX10_endMonth 41 = .ok (.getfield 26, 3) := by decide +kernel
theorem dX10_endMonth_44 : decode cX10_endMonth 44 = .ok (.invokevirtual 326, 3) := by decide +kernel
theorem dX10_endMonth_47 : decode cX10_endMonth 47 = .ok (.invokevirtual 329, 3) := by decide +kernel
theorem dX10_endMonth_50 : decode cX10_endMonth 50 = .ok (.aload_n 0, 1) := by decide +kernel
theorem dX10_endMonth_51 : decode cX10_endMonth 51 = .ok (.getfield 54, 3) := by decide +kernel
theorem dX10_endMonth_54 : decode cX10_endMonth 54 = .ok (.invokevirtual 333, 3) := by decide +kernel
theorem dX10_endMonth_57 : decode cX10_endMonth 57 = .ok (.aload_n 0, 1) := by decide +kernel
theorem dX10_endMonth_58 : decode cX10_endMonth 58 = .ok (.dup, 1) := by decide +kernel
theorem dX10_endMonth_59 : decode cX10_endMonth 59 = .ok (.getfield 123, 3) := by decide +kernel
theorem dX10_endMonth_62 : decode cX10_endMonth 62 = .ok (.iconst 1, 1) := by decide +kernel
theorem dX10_endMonth_63 : decode cX10_endMonth 63 = .ok (.iadd, 1) := by decide +kernel
theorem dX10_endMonth_64 : decode cX10_endMonth 64 = .ok (.putfield 123, 3) := by decide +kernel
theorem dX10_endMonth_67 : decode cX10_endMonth 67 = .ok (.return_, 1) := by decide +kernel
theorem dX11_init_0 : decode cX11_init 0 = .ok (.aload_n 0, 1) := by decide +kernel
theorem dX11_init_1 : decode cX11_init 1 = .ok (.aconst_null, 1) := by decide +kernel
theorem dX11_init_2 : decode cX11_init 2 = .ok (.aconst_null, 1) := by decide +kernel
theorem dX11_init_3 : decode cX11_init 3 = .ok (.iconst 0, 1) := by decide +kernel
theorem dX11_init_4 : decode cX11_init 4 = .ok (.iconst 0, 1) := by decide +kernel
theorem dX11_init_5 : decode cX11_init 5 = .ok (.invokespecial 1, 3) := by decide +kernel
theorem dX11_init_8 : decode cX11_init 8 = .ok (.return_, 1) := by decide +kernel
theorem dX12_in_0 : decode cX12_in 0 = .ok (.lload_n 0, 1) := by decide +kernel
theorem dX12_in_1 : decode cX12_in 1 = .ok (.lload_n 2, 1) := by decide +kernel
theorem dX12_in_2 : decode cX12_in 2 = .ok (.lcmp, 1) := by decide +kernel
theorem dX12_in_3 : decode cX12_in 3 = .ok (.ifCond .lt 14, 3) := by decide +kernel
theorem dX12_in_6 : decode cX12_in 6 = .ok (.lload_n 0, 1) := by decide +kernel
theorem dX12_in_7 : decode cX12_in 7 = .ok (.lload 4, 2) := by decide +kernel
theorem dX12_in_9 : decode cX12_in 9 = .ok (.lcmp, 1) := by decide +kernel
theorem dX12_in_10 : decode cX12_in 10 = .ok (.ifCond .gt 7, 3) := by decide +kernel
theorem dX12_in_13 : decode cX12_in 13 = .ok (.iconst 1, 1) := by decide +kernel
theorem dX12_in_14 : decode cX12_in 14 = .ok (.goto 4, 3) := by decide +kernel
theorem dX12_in_17 : decode cX12_in 17 = .ok (.iconst 0, 1) := by decide +kernel
theorem dX12_in_18 : decode cX12_in 18 = .ok (.ireturn, 1) := by decide +kernel
theorem dX12_wrong_0 : decode cX12_wrong 0 = .ok (.aload_n 0, 1) := by decide +kernel
theorem dX12_wrong_1 : decode cX12_wrong 1 = .ok (.iload_n 1, 1) := by decide +kernel
theorem dX12_wrong_2 : decode cX12_wrong 2 = .ok (.putfield 1, 3) := by decide +kernel
theorem dX12_wrong_5 : decode cX12_wrong 5 = .ok (.aload_n 0, 1) := by decide +kernel
theorem dX12_wrong_6 : decode cX12_wrong 6 = .ok (.aload_n 0, 1) := by decide +kernel
theorem dX12_wrong_7 : decode cX12_wrong 7 = .ok (.getfield 7, 3) := by decide +kernel
theorem dX12_wrong_10 : decode cX12_wrong 10 = .ok (.putfield 10, 3) := by decide +kernel
theorem dX12_wrong_13 : decode cX12_wrong 13 = .ok (.aload_n 0, 1) := by decide +kernel
theorem dX12_wrong_14 : decode cX12_wrong 14 = .ok (.getfield 13, 3) := by decide +kernel
theorem dX12_wrong_17 : decode cX12_wrong 17 = .ok (.areturn, 1) := by decide +kernel
theorem dX12_byteAt_0 : decode cX12_byteAt 0 = .ok (.iload_n 1, 1) := by decide +kernel
theorem dX12_byteAt_1 : decode cX12_byteAt 1 = .ok (.aload_n 0, 1) := by decide +kernel
theorem dX12_byteAt_2 : decode cX12_byteAt 2 = .ok (.getfield 17, 3) := by decide +kernel
theorem dX12_byteAt_5 : decode cX12_byteAt 5 = .ok (.if_icmp .ge 16, 3) := by decide +kernel
theorem dX12_byteAt_8 : decode cX12_byteAt 8 = .ok (.aload_n 0, 1) := by decide +kernel
theorem dX12_byteAt_9 : decode cX12_byteAt 9 = .ok (.getfield 20, 3) := by decide +kernel
theorem dX12_byteAt_12 : decode cX12_byteAt 12 = .ok (.iload_n 1, 1) := by decide +kernel
theorem dX12_byteAt_13 : decode cX12_byteAt 13 = .ok (.baload, 1) := by decide +kernel
theorem dX12_byteAt_14 : decode cX12_byteAt 14 = .ok (.sipush 255, 3) := by decide +kernel
theorem dX12_byteAt_17 : decode cX12_byteAt 17 = .ok (.iand, 1) := by decide +kernel
theorem dX12_byteAt_18 : decode cX12_byteAt 18 = .ok (.goto 4, 3) := by decide +kernel
theorem dX12_byteAt_21 : decode cX12_byteAt 21 = .ok (.iconst 0, 1) := by decide +kernel
theorem dX12_byteAt_22 : decode cX12_byteAt 22 = .ok (.ireturn, 1) := by decide +kernel
theorem dX12_isLetter_0 : decode cX12_isLetter 0 = .ok (.iload_n 0, 1) := by decide +kernel
theorem dX12_isLetter_1 : decode cX12_isLetter 1 = .ok (.bipush 97, 2) := by decide +kernel
theorem dX12_isLetter_3 : decode cX12_isLetter 3 = .ok (.if_icmp .lt 13, 3) := by decide +kernel
theorem dX12_isLetter_6 : decode cX12_isLetter 6 = .ok (.iload_n 0, 1) := by decide +kernel
theorem dX12_isLetter_7 : decode cX12_isLetter 7 = .ok (.bipush 122, 2) := by decide +kernel
theorem dX12_isLetter_9 : decode cX12_isLetter 9 = .ok (.if_icmp .gt 7, 3) := by decide +kernel
theorem dX12_isLetter_12 : decode cX12_isLetter 12 = .ok (.iconst 1, 1) := by decide +kernel
theorem dX12_isLetter_13 : decode cX12_isLetter 13 = .ok (.goto 4, 3) := by decide +kernel
theorem dX12_isLetter_16 : decode cX12_isLetter 16 = .ok (.iconst 0, 1) := by decide +kernel
theorem dX12_isLetter_17 : decode cX12_isLetter 17 = .ok (.ireturn, 1) := by decide +kernel
theorem dX12_isDigit_0 : decode cX12_isDigit 0 = .ok (.iload_n 0, 1) := by decide +kernel
theorem dX12_isDigit_1 : decode cX12_isDigit 1 = .ok (.bipush 48, 2) := by decide +kernel
theorem dX12_isDigit_3 : decode cX12_isDigit 3 = .ok (.if_icmp .lt 13, 3) := by decide +kernel
theorem dX12_isDigit_6 : decode cX12_isDigit 6 = .ok (.iload_n 0, 1) := by decide +kernel
theorem dX12_isDigit_7 : decode cX12_isDigit 7 = .ok (.bipush 57, 2) := by decide +kernel
theorem dX12_isDigit_9 : decode cX12_isDigit 9 = .ok (.if_icmp .gt 7, 3) := by decide +kernel
theorem dX12_isDigit_12 : decode cX12_isDigit 12 = .ok (.iconst 1, 1) := by decide +kernel
theorem dX12_isDigit_13 : decode cX12_isDigit 13 = .ok (.goto 4, 3) := by decide +kernel
theorem dX12_isDigit_16 : decode cX12_isDigit 16 = .ok (.iconst 0, 1) := by decide +kernel
theorem dX12_isDigit_17 : decode cX12_isDigit 17 = .ok (.ireturn, 1) := by decide +kernel
theorem dX12_scan_0 : decode cX12_scan 0 = .ok (.aload_n 0, 1) := by decide +kernel
theorem dX12_scan_1 : decode cX12_scan 1 = .ok (.getfield 24, 3) := by decide +kernel
theorem dX12_scan_4 : decode cX12_scan 4 = .ok (.aload_n 0, 1) := by decide +kernel
theorem dX12_scan_5 : decode cX12_scan 5 = .ok (.getfield 17, 3) := by decide +kernel
theorem dX12_scan_8 : decode cX12_scan 8 = .ok (.if_icmp .ge 44, 3) := by decide +kernel
theorem dX12_scan_11 : decode cX12_scan 11 = .ok (.aload_n 0, 1) := by decide +kernel
theorem dX12_scan_12 : decode cX12_scan 12 = .ok (.getfield 20, 3) := by decide +kernel
theorem dX12_scan_15 : decode cX12_scan 15 = .ok (.aload_n 0, 1) := by decide +kernel
theorem dX12_scan_16 : decode cX12_scan 16 = .ok (.getfield 24, 3) := by decide +kernel
theorem dX12_scan_19 : decode cX12_scan 19 = .ok (.baload, 1) := by decide +kernel
theorem dX12_scan_20 : decode cX12_scan 20 = .ok (.bipush 32, 2) := by decide +kernel
theorem dX12_scan_22 : decode cX12_scan 22 = .ok (.if_icmp .eq 17, 3) := by decide +kernel
theorem dX12_scan_25 : decode cX12_scan 25 = .ok (.aload_n 0, 1) := by decide +kernel
theorem dX12_scan_26 : decode cX12_scan 26 = .ok (.getfield 20, 3) := by decide +kernel
theorem dX12_scan_29 : decode cX12_scan 29 = .ok (.aload_n 0, 1) := by decide +kernel
theorem dX12_scan_30 : decode cX12_scan 30 = .ok (.getfield 24, 3) := by decide +kernel
theorem dX12_scan_33 : decode cX12_scan 33 = .ok (.baload, 1) := by decide +kernel
theorem dX12_scan_34 : decode cX12_scan 34 = .ok (.bipush 10, 2) := by decide +kernel
theorem dX12_scan_36 : decode cX12_scan 36 = .ok (.if_icmp .ne 16, 3) := by decide +kernel
theorem dX12_scan_39 : decode cX12_scan 39 = .ok (.aload_n 0, 1) := by decide +kernel
theorem dX12_scan_40 : decode cX12_scan 40 = .ok (.dup, 1) := by decide +kernel
theorem dX12_scan_41 : decode cX12_scan 41 = .ok (.getfield 24, 3) := by decide +kernel
theorem dX12_scan_44 : decode cX12_scan 44 = .ok (.iconst 1, 1) := by decide +kernel
theorem dX12_scan_45 : decode cX12_scan 45 = .ok (.iadd, 1) := by decide +kernel
theorem dX12_scan_46 : decode cX12_scan 46 = .ok (.putfield 24, 3) := by decide +kernel
theorem dX12_scan_49 : decode cX12_scan 49 = .ok (.goto (-49), 3) := by decide +kernel
theorem dX12_scan_52 : decode cX12_scan 52 = .ok (.aload_n 0, 1) := by decide +kernel
theorem dX12_scan_53 : decode cX12_scan 53 = .ok (.aload_n 0, 1) := by decide +kernel
theorem dX12_scan_54 : decode cX12_scan 54 = .ok (.getfield 24, 3) := by decide +kernel
theorem dX12_scan_57 : decode cX12_scan 57 = .ok (.putfield 7, 3) := by decide +kernel
theorem dX12_scan_60 : decode cX12_scan 60 = .ok (.aload_n 0, 1) := by decide +kernel
theorem dX12_scan_61 : decode cX12_scan 61 = .ok (.aload_n 0, 1) := by decide +kernel
theorem dX12_scan_62 : decode cX12_scan 62 = .ok (.getfield 7, 3) := by decide +kernel
theorem dX12_scan_65 : decode cX12_scan 65 = .ok (.invokevirtual 27, 3) := by decide +kernel
theorem dX12_scan_68 : decode cX12_scan 68 = .ok (.istore_n 1, 1) := by decide +kernel
theorem dX12_scan_69 : decode cX12_scan 69 = .ok (.aload_n 0, 1) := by decide +kernel
theorem dX12_scan_70 : decode cX12_scan 70 = .ok (.getfield 7, 3) := by decide +kernel
theorem dX12_scan_73 : decode cX12_scan 73 = .ok (.aload_n 0, 1) := by decide +kernel
theorem dX12_scan_74 : decode cX12_scan 74 = .ok (.getfield 17, 3) := by decide +kernel
theorem dX12_scan_77 : decode cX12_scan 77 = .ok (.if_icmp .ne 11, 3) := by decide +kernel
theorem dX12_scan_80 : decode cX12_scan 80 = .ok (.aload_n 0, 1) := by decide +kernel
theorem dX12_scan_81 : decode cX12_scan 81 = .ok (.iconst 0, 1) := by decide +kernel
theorem dX12_scan_82 : decode cX12_scan 82 = .ok (.putfield 31, 3) := by decide +kernel
theorem dX12_scan_85 : decode cX12_scan 85 = .ok (.goto 172, 3) := by decide +kernel
theorem dX12_scan_88 : decode cX12_scan 88 = .ok (.iload_n 1, 1) := by decide +kernel
theorem dX12_scan_89 : decode cX12_scan 89 = .ok (.invokestatic 34, 3) := by decide +kernel
theorem dX12_scan_92 : decode cX12_scan 92 = .ok (.ifCond .eq 38, 3) := by decide +kernel
theorem dX12_scan_95 : decode cX12_scan 95 = .ok (.aload_n 0, 1) := by decide +kernel
theorem dX12_scan_96 : decode cX12_scan 96 = .ok (.aload_n 0, 1) := by decide +kernel
theorem dX12_scan_97 : decode cX12_scan 97 = .ok (.getfield 24, 3) := by decide +kernel
theorem dX12_scan_100 : decode cX12_scan 100 = .ok (.invokevirtual 27, 3) := by decide +kernel
theorem dX12_scan_103 : decode cX12_scan 103 = .ok (.invokestatic 34, 3) := by decide +kernel
theorem dX12_scan_106 : decode cX12_scan 106 = .ok (.ifCond .eq 16, 3) := by decide +kernel
theorem dX12_scan_109 : decode cX12_scan 109 = .ok (.aload_n 0, 1) := by decide +kernel
theorem dX12_scan_110 : decode cX12_scan 110 = .ok (.dup, 1) := by decide +kernel
theorem dX12_scan_111 : decode cX12_scan 111 = .ok (.getfield 24, 3) := by decide +kernel
theorem dX12_scan_114 : decode cX12_scan 114 = .ok (.iconst 1, 1) := by decide +kernel
theorem dX12_scan_115 : decode cX12_scan 115 = .ok (.iadd, 1) := by decide +kernel
theorem dX12_scan_116 : decode cX12_scan 116 = .ok (.putfield 24, 3) := by decide +kernel
theorem dX12_scan_119 : decode cX12_scan 119 = .ok (.goto (-24), 3) := by decide +kernel
theorem dX12_scan_122 : decode cX12_scan 122 = .ok (.aload_n 0, 1) := by decide +kernel
theorem dX12_scan_123 : decode cX12_scan 123 = .ok (.iconst 1, 1) := by decide +kernel
theorem dX12_scan_124 : decode cX12_scan 124 = .ok (.putfield 31, 3) := by decide +kernel
theorem dX12_scan_127 : decode cX12_scan 127 = .ok (.goto 130, 3) := by decide +kernel
theorem dX12_scan_130 : decode cX12_scan 130 = .ok (.iload_n 1, 1) := by decide +kernel
theorem dX12_scan_131 : decode cX12_scan 131 = .ok (.invokestatic 38, 3) := by decide +kernel
theorem dX12_scan_134 : decode cX12_scan 134 = .ok (.ifCond .eq 98, 3) := by decide +kernel
theorem dX12_scan_137 : decode cX12_scan 137 = .ok (.aload_n 0, 1) := by decide +kernel
theorem dX12_scan_138 : decode cX12_scan 138 = .ok (.iconst 0, 1) := by decide +kernel
theorem dX12_scan_139 : decode cX12_scan 139 = .ok (.putfield 41, 3) := by decide +kernel
theorem dX12_scan_142 : decode cX12_scan 142 = .ok (.aload_n 0, 1) := by decide +kernel
theorem dX12_scan_143 : decode cX12_scan 143 = .ok (.aload_n 0, 1) := by decide +kernel
theorem dX12_scan_144 : decode cX12_scan 144 = .ok (.getfield 24, 3) := by decide +kernel
theorem dX12_scan_147 : decode cX12_scan 147 = .ok (.invokevirtual 27, 3) := by decide +kernel
theorem dX12_scan_150 : decode cX12_scan 150 = .ok (.invokestatic 38, 3) := by decide +kernel
theorem dX12_scan_153 : decode cX12_scan 153 = .ok (.ifCond .eq 53, 3) := by decide +kernel
theorem dX12_scan_156 : decode cX12_scan 156 = .ok (.aload_n 0, 1) := by decide +kernel
theorem dX12_scan_157 : decode cX12_scan 157 = .ok (.getfield 24, 3) := by decide +kernel
theorem dX12_scan_160 : decode cX12_scan 160 = .ok (.aload_n 0, 1) := by decide +kernel
theorem dX12_scan_161 : decode cX12_scan 161 = .ok (.getfield 7, 3) := by decide +kernel
theorem dX12_scan_164 : decode cX12_scan 164 = .ok (.isub, 1) := by decide +kernel
theorem dX12_scan_165 : decode cX12_scan 165 = .ok (.bipush 6, 2) := by decide +kernel
theorem dX12_scan_167 : decode cX12_scan 167 = .ok (.if_icmp .ge 26, 3) := by decide +kernel
theorem dX12_scan_170 : decode cX12_scan 170 = .ok (.aload_n 0, 1) := by decide +kernel
theorem dX12_scan_171 : decode cX12_scan 171 = .ok (.bipush 10, 2) := by decide +kernel
theorem dX12_scan_173 : decode cX12_scan 173 = .ok (.aload_n 0, 1) := by decide +kernel
theorem dX12_scan_174 : decode cX12_scan 174 = .ok (.getfield 41, 3) := by decide +kernel
theorem dX12_scan_177 : decode cX12_scan 177 = .ok (.imul, 1) := by decide +kernel
theorem dX12_scan_178 : decode cX12_scan 178 = .ok (.aload_n 0, 1) := by decide +kernel
theorem dX12_scan_179 : decode cX12_scan 179 = .ok (.aload_n 0, 1) := by decide +kernel
theorem dX12_scan_180 : decode cX12_scan 180 = .ok (.getfield 24, 3) := by decide +kernel
theorem dX12_scan_183 : decode cX12_scan 183 = .ok (.invokevirtual 27, 3) := by decide +kernel
theorem dX12_scan_186 : decode cX12_scan 186 = .ok (.iadd, 1) := by decide +kernel
theorem dX12_scan_187 : decode cX12_scan 187 = .ok (.bipush 48, 2) := by decide +kernel
theorem dX12_scan_189 : decode cX12_scan 189 = .ok (.isub, 1) := by decide +kernel
theorem dX12_scan_190 : decode cX12_scan 190 = .ok (.putfield 41, 3) := by decide +kernel
theorem dX12_scan_193 : decode cX12_scan 193 = .ok (.aload_n 0, 1) := by decide +kernel
theorem dX12_scan_194 : decode cX12_scan 194 = .ok (.dup, 1) := by decide +kernel
theorem dX12_scan_195 : decode cX12_scan 195 = .ok (.getfield 24, 3) := by decide +kernel
theorem dX12_scan_198 : decode cX12_scan 198 = .ok (.iconst 1, 1) := by decide +kernel
theorem dX12_scan_199 : decode cX12_scan 199 = .ok (.iadd, 1) := by decide +kernel
theorem dX12_scan_200 : decode cX12_scan 200 = .ok (.putfield 24, 3) := by decide +kernel
theorem dX12_scan_203 : decode cX12_scan 203 = .ok (.goto (-61), 3) := by decide +kernel
theorem dX12_scan_206 : decode cX12_scan 206 = .ok (.aload_n 0, 1) := by decide +kernel
theorem dX12_scan_207 : decode cX12_scan 207 = .ok (.aload_n 0, 1) := by decide +kernel
theorem dX12_scan_208 : decode cX12_scan 208 = .ok (.getfield 24, 3) := by decide +kernel
theorem dX12_scan_211 : decode cX12_scan 211 = .ok (.aload_n 0, 1) := by decide +kernel
theorem dX12_scan_212 : decode cX12_scan 212 = .ok (.getfield 7, 3) := by decide +kernel
theorem dX12_scan_215 : decode cX12_scan 215 = .ok (.isub, 1) := by decide +kernel
theorem dX12_scan_216 : decode cX12_scan 216 = .ok (.bipush 6, 2) := by decide +kernel
theorem dX12_scan_218 : decode cX12_scan 218 = .ok (.if_icmp .le 7, 3) := by decide +kernel
theorem dX12_scan_221 : decode cX12_scan 221 = .ok (.iconst 4, 1) := by decide +kernel
theorem dX12_scan_222 : decode cX12_scan 222 = .ok (.goto 4, 3) := by decide +kernel
theorem dX12_scan_225 : decode cX12_scan 225 = .ok (.iconst 2, 1) := by decide +kernel
theorem dX12_scan_226 : decode cX12_scan 226 = .ok (.putfield 31, 3) := by decide +kernel
theorem dX12_scan_229 : decode cX12_scan 229 = .ok (.goto 28, 3) := by decide +kernel
theorem dX12_scan_232 : decode cX12_scan 232 = .ok (.aload_n 0, 1) := by decide +kernel
theorem dX12_scan_233 : decode cX12_scan 233 = .ok (.iload_n 1, 1) := by decide +kernel
theorem dX12_scan_234 : decode cX12_scan 234 = .ok (.bipush 59, 2) := by decide +kernel
theorem dX12_scan_236 : decode cX12_scan 236 = .ok (.if_icmp .ne 7, 3) := by decide +kernel
theorem dX12_scan_239 : decode cX12_scan 239 = .ok (.iconst 3, 1) := by decide +kernel
theorem dX12_scan_240 : decode cX12_scan 240 = .ok (.goto 4, 3) := by decide +kernel
theorem dX12_scan_243 : decode cX12_scan 243 = .ok (.iconst 4, 1) := by decide +kernel
theorem dX12_scan_244 : decode cX12_scan 244 = .ok (.putfield 31, 3) := by decide +kernel
theorem dX12_scan_247 : decode cX12_scan 247 = .ok (.aload_n 0, 1) := by decide +kernel
theorem dX12_scan_248 : decode cX12_scan 248 = .ok (.dup, 1) := by decide +kernel
theorem dX12_scan_249 : decode cX12_scan 249 = .ok (.getfield 24, 3) := by decide +kernel
theorem dX12_scan_252 : decode cX12_scan 252 = .ok (.iconst 1, 1) := by decide +kernel
theorem dX12_scan_253 : decode cX12_scan 253 = .ok (.iadd, 1) := by decide +kernel
theorem dX12_scan_254 : decode cX12_scan 254 = .ok (.putfield 24, 3) := by decide +kernel
theorem dX12_scan_257 : decode cX12_scan 257 = .ok (.return_, 1) := by decide +kernel
theorem dX12_is_0 : decode cX12_is 0 = .ok (.aload_n 0, 1) := by decide +kernel
theorem dX12_is_1 : decode cX12_is 1 = .ok (.getfield 31, 3) := by decide +kernel
theorem dX12_is_4 : decode cX12_is 4 = .ok (.iconst 1, 1) := by decide +kernel
theorem dX12_is_5 : decode cX12_is 5 = .ok (.if_icmp .ne 23, 3) := by decide +kernel
theorem dX12_is_8 : decode cX12_is 8 = .ok (.aload_n 0, 1) := by decide +kernel
theorem dX12_is_9 : decode cX12_is 9 = .ok (.getfield 24, 3) := by decide +kernel
theorem dX12_is_12 : decode cX12_is 12 = .ok (.aload_n 0, 1) := by decide +kernel
theorem dX12_is_13 : decode cX12_is 13 = .ok (.getfield 7, 3) := by decide +kernel
theorem dX12_is_16 : decode cX12_is 16 = .ok (.isub, 1) := by decide +kernel
theorem dX12_is_17 : decode cX12_is 17 = .ok (.aload_n 1, 1) := by decide +kernel
theorem dX12_is_18 : decode cX12_is 18 = .ok (.invokevirtual 44, 3) := by decide +kernel
theorem dX12_is_21 : decode cX12_is 21 = .ok (.if_icmp .ne 7, 3) := by decide +kernel
theorem dX12_is_24 : decode cX12_is 24 = .ok (.iconst 1, 1) := by decide +kernel
theorem dX12_is_25 : decode cX12_is 25 = .ok (.goto 4, 3) := by decide +kernel
theorem dX12_is_28 : decode cX12_is 28 = .ok (.iconst 0, 1) := by decide +kernel
theorem dX12_is_29 : decode cX12_is 29 = .ok (.istore_n 2, 1) := by decide +kernel
theorem dX12_is_30 : decode cX12_is 30 = .ok (.iconst 0, 1) := by decide +kernel
theorem dX12_is_31 : decode cX12_is 31 = .ok (.istore_n 3, 1) := by decide +kernel
theorem dX12_is_32 : decode cX12_is 32 = .ok (.iload_n 3, 1) := by decide +kernel
theorem dX12_is_33 : decode cX12_is 33 = .ok (.aload_n 1, 1) := by decide +kernel
theorem dX12_is_34 : decode cX12_is 34 = .ok (.invokevirtual 44, 3) := by decide +kernel
theorem dX12_is_37 : decode cX12_is 37 = .ok (.if_icmp .ge 38, 3) := by decide +kernel
theorem dX12_is_40 : decode cX12_is 40 = .ok (.iload_n 2, 1) := by decide +kernel
theorem dX12_is_41 : decode cX12_is 41 = .ok (.ifCond .eq 34, 3) := by decide +kernel
theorem dX12_is_44 : decode cX12_is 44 = .ok (.aload_n 0, 1) := by decide +kernel
theorem dX12_is_45 : decode cX12_is 45 = .ok (.getfield 20, 3) := by decide +kernel
theorem dX12_is_48 : decode cX12_is 48 = .ok (.aload_n 0, 1) := by decide +kernel
theorem dX12_is_49 : decode cX12_is 49 = .ok (.getfield 7, 3) := by decide +kernel
theorem dX12_is_52 : decode cX12_is 52 = .ok (.iload_n 3, 1) := by decide +kernel
theorem dX12_is_53 : decode cX12_is 53 = .ok (.iadd, 1) := by decide +kernel
theorem dX12_is_54 : decode cX12_is 54 = .ok (.baload, 1) := by decide +kernel
theorem dX12_is_55 : decode cX12_is 55 = .ok (.aload_n 1, 1) := by decide +kernel
theorem dX12_is_56 : decode cX12_is 56 = .ok (.iload_n 3, 1) := by decide +kernel
theorem dX12_is_57 : decode cX12_is 57 = .ok (.invokevirtual 50, 3) := by decide +kernel
theorem dX12_is_60 : decode cX12_is 60 = .ok (.if_icmp .ne 7, 3) := by decide +kernel
theorem dX12_is_63 : decode cX12_is 63 = .ok (.iconst 1, 1) := by decide +kernel
theorem dX12_is_64 : decode cX12_is 64 = .ok (.goto 4, 3) := by decide +kernel
theorem dX12_is_67 : decode cX12_is 67 = .ok (.iconst 0, 1) := by decide +kernel
theorem dX12_is_68 : decode cX12_is 68 = .ok (.istore_n 2, 1) := by decide +kernel
theorem dX12_is_69 : decode cX12_is 69 = .ok (.iinc 3 1, 3) := by decide +kernel
theorem dX12_is_72 : decode cX12_is 72 = .ok (.goto (-40), 3) := by decide +kernel
theorem dX12_is_75 : decode cX12_is 75 = .ok (.iload_n 2, 1) := by decide +kernel
theorem dX12_is_76 : decode cX12_is 76 = .ok (.ireturn, 1) := by decide +kernel
theorem dX12_number_0 : decode cX12_number 0 = .ok (.aload_n 0, 1) := by decide +kernel
theorem dX12_number_1 : decode cX12_number 1 = .ok (.getfield 31, 3) := by decide +kernel
theorem dX12_number_4 : decode cX12_number 4 = .ok (.iconst 2, 1) := by decide +kernel
theorem dX12_number_5 : decode cX12_number 5 = .ok (.if_icmp .eq 9, 3) := by decide +kernel
theorem dX12_number_8 : decode cX12_number 8 = .ok (.aload_n 0, 1) := by decide +kernel
theorem dX12_number_9 : decode cX12_number 9 = .ok (.iconst 1, 1) := by decide +kernel
theorem dX12_number_10 : decode cX12_number 10 = .ok (.invokevirtual 54, 3) := by decide +kernel
theorem dX12_number_13 : decode cX12_number 13 = .ok (.athrow, 1) := by decide +kernel
theorem dX12_number_14 : decode cX12_number 14 = .ok (.aload_n 0, 1) := by decide +kernel
theorem dX12_number_15 : decode cX12_number 15 = .ok (.getfield 41, 3) := by decide +kernel
theorem dX12_number_18 : decode cX12_number 18 = .ok (.i2l, 1) := by decide +kernel
theorem dX12_number_19 : decode cX12_number 19 = .ok (.iload_n 1, 1) := by decide +kernel
theorem dX12_number_20 : decode cX12_number 20 = .ok (.i2l, 1) := by decide +kernel
theorem dX12_number_21 : decode cX12_number 21 = .ok (.iload_n 2, 1) := by decide +kernel
theorem dX12_number_22 : decode cX12_number 22 = .ok (.i2l, 1) := by decide +kernel
theorem dX12_number_23 : decode cX12_number 23 = .ok (.invokestatic 58, 3) := by decide +kernel
theorem dX12_number_26 : decode cX12_number 26 = .ok (.ifCond .ne 9, 3) := by decide +kernel
theorem dX12_number_29 : decode cX12_number 29 = .ok (.aload_n 0, 1) := by decide +kernel
theorem dX12_number_30 : decode cX12_number 30 = .ok (.iconst 2, 1) := by decide +kernel
theorem dX12_number_31 : decode cX12_number 31 = .ok (.invokevirtual 54, 3) := by decide +kernel
theorem dX12_number_34 : decode cX12_number 34 = .ok (.athrow, 1) := by decide +kernel
theorem dX12_number_35 : decode cX12_number 35 = .ok (.aload_n 0, 1) := by decide +kernel
theorem dX12_number_36 : decode cX12_number 36 = .ok (.getfield 41, 3) := by decide +kernel
theorem dX12_number_39 : decode cX12_number 39 = .ok (.istore_n 3, 1) := by decide +kernel
theorem dX12_number_40 : decode cX12_number 40 = .ok (.aload_n 0, 1) := by decide +kernel
theorem dX12_number_41 : decode cX12_number 41 = .ok (.invokevirtual 62, 3) := by decide +kernel
theorem dX12_number_44 : decode cX12_number 44 = .ok (.iload_n 3, 1) := by decide +kernel
theorem dX12_number_45 : decode cX12_number 45 = .ok (.ireturn, 1) := by decide +kernel
theorem dX12_key_0 : decode cX12_key 0 = .ok (.aload_n 0, 1) := by decide +kernel
theorem dX12_key_1 : decode cX12_key 1 = .ok (.ldc 66, 2) := by decide +kernel
theorem dX12_key_3 : decode cX12_key 3 = .ok (.invokevirtual 68, 3) := by decide +kernel
theorem dX12_key_6 : decode cX12_key 6 = .ok (.ifCond .eq 5, 3) := by decide +kernel
theorem dX12_key_9 : decode cX12_key 9 = .ok (.iconst 0, 1) := by decide +kernel
theorem dX12_key_10 : decode cX12_key 10 = .ok (.ireturn, 1) := by decide +kernel
theorem dX12_key_11 : decode cX12_key 11 = .ok (.aload_n 0, 1) := by decide +kernel
theorem dX12_key_12 : decode cX12_key 12 = .ok (.ldc 72, 2) := by decide +kernel
theorem dX12_key_14 : decode cX12_key 14 = .ok (.invokevirtual 68, 3) := by decide +kernel
theorem dX12_key_17 : decode cX12_key 17 = .ok (.ifCond .eq 5, 3) := by decide +kernel
theorem dX12_key_20 : decode cX12_key 20 = .ok (.iconst 1, 1) := by decide +kernel
theorem dX12_key_21 : decode cX12_key 21 = .ok (.ireturn, 1) := by decide +kernel
theorem dX12_key_22 : decode cX12_key 22 = .ok (.aload_n 0, 1) := by decide +kernel
theorem dX12_key_23 : decode cX12_key 23 = .ok (.ldc 74, 2) := by decide +kernel
theorem dX12_key_25 : decode cX12_key 25 = .ok (.invokevirtual 68, 3) := by decide +kernel
theorem dX12_key_28 : decode cX12_key 28 = .ok (.ifCond .eq 5, 3) := by decide +kernel
theorem dX12_key_31 : decode cX12_key 31 = .ok (.iconst 2, 1) := by decide +kernel
theorem dX12_key_32 : decode cX12_key 32 = .ok (.ireturn, 1) := by decide +kernel
theorem dX12_key_33 : decode cX12_key 33 = .ok (.aload_n 0, 1) := by decide +kernel
theorem dX12_key_34 : decode cX12_key 34 = .ok (.ldc 76, 2) := by decide +kernel
theorem dX12_key_36 : decode cX12_key 36 = .ok (.invokevirtual 68, 3) := by decide +kernel
theorem dX12_key_39 : decode cX12_key 39 = .ok (.ifCond .eq 5, 3) := by decide +kernel
theorem dX12_key_42 : decode cX12_key 42 = .ok (.iconst 3, 1) := by decide +kernel
theorem dX12_key_43 : decode cX12_key 43 = .ok (.ireturn, 1) := by decide +kernel
theorem dX12_key_44 : decode cX12_key 44 = .ok (.aload_n 0, 1) := by decide +kernel
theorem dX12_key_45 : decode cX12_key 45 = .ok (.ldc 78, 2) := by decide +kernel
theorem dX12_key_47 : decode cX12_key 47 = .ok (.invokevirtual 68, 3) := by decide +kernel
theorem dX12_key_50 : decode cX12_key 50 = .ok (.ifCond .eq 5, 3) := by decide +kernel
theorem dX12_key_53 : decode cX12_key 53 = .ok (.iconst 4, 1) := by decide +kernel
theorem dX12_key_54 : decode cX12_key 54 = .ok (.ireturn, 1) := by decide +kernel
theorem dX12_key_55 : decode cX12_key 55 = .ok (.aload_n 0, 1) := by decide +kernel
theorem dX12_key_56 : decode cX12_key 56 = .ok (.ldc 80, 2) := by decide +kernel
theorem dX12_key_58 : decode cX12_key 58 = .ok (.invokevirtual 68, 3) := by decide +kernel
theorem dX12_key_61 : decode cX12_key 61 = .ok (.ifCond .eq 7, 3) := by decide +kernel
theorem dX12_key_64 : decode cX12_key 64 = .ok (.iconst 5, 1) := by decide +kernel
theorem dX12_key_65 : decode cX12_key 65 = .ok (.goto 4, 3) := by decide +kernel
theorem dX12_key_68 : decode cX12_key 68 = .ok (.iconst (-1), 1) := by decide +kernel
theorem dX12_key_69 : decode cX12_key 69 = .ok (.ireturn, 1) := by decide +kernel
theorem dX12_readTrust_0 : decode cX12_readTrust 0 = .ok (.iconst 0, 1) := by decide +kernel
theorem dX12_readTrust_1 : decode cX12_readTrust 1 = .ok (.istore_n 1, 1) := by decide +kernel
theorem dX12_readTrust_2 : decode cX12_readTrust 2 = .ok (.iload_n 1, 1) := by decide +kernel
theorem dX12_readTrust_3 : decode cX12_readTrust 3 = .ok (.bipush 9, 2) := by decide +kernel
theorem dX12_readTrust_5 : decode cX12_readTrust 5 = .ok (.if_icmp .ge 20, 3) := by decide +kernel
theorem dX12_readTrust_8 : decode cX12_readTrust 8 = .ok (.aload_n 0, 1) := by decide +kernel
theorem dX12_readTrust_9 : decode cX12_readTrust 9 = .ok (.getfield 82, 3) := by decide +kernel
theorem dX12_readTrust_12 : decode cX12_readTrust 12 = .ok (.iload_n 1, 1) := by decide +kernel
theorem dX12_readTrust_13 : decode cX12_readTrust 13 = .ok (.getstatic 86, 3) := by decide +kernel
theorem dX12_readTrust_16 : decode cX12_readTrust 16 = .ok (.iload_n 1, 1) := by decide +kernel
theorem dX12_readTrust_17 : decode cX12_readTrust 17 = .ok (.iaload, 1) := by decide +kernel
theorem dX12_readTrust_18 : decode cX12_readTrust 18 = .ok (.iastore, 1) := by decide +kernel
theorem dX12_readTrust_19 : decode cX12_readTrust 19 = .ok (.iinc 1 1, 3) := by decide +kernel
theorem dX12_readTrust_22 : decode cX12_readTrust 22 = .ok (.goto (-20), 3) := by decide +kernel
theorem dX12_readTrust_25 : decode cX12_readTrust 25 = .ok (.iconst 0, 1) := by decide +kernel
theorem dX12_readTrust_26 : decode cX12_readTrust 26 = .ok (.istore_n 1, 1) := by decide +kernel
theorem dX12_readTrust_27 : decode cX12_readTrust 27 = .ok (.iload_n 1, 1) := by decide +kernel
theorem dX12_readTrust_28 : decode cX12_readTrust 28 = .ok (.aload_n 0, 1) := by decide +kernel
theorem dX12_readTrust_29 : decode cX12_readTrust 29 = .ok (.getfield 89, 3) := by decide +kernel
theorem dX12_readTrust_32 : decode cX12_readTrust 32 = .ok (.arraylength, 1) := by decide +kernel
theorem dX12_readTrust_33 : decode cX12_readTrust 33 = .ok (.if_icmp .ge 16, 3) := by decide +kernel
theorem dX12_readTrust_36 : decode cX12_readTrust 36 = .ok (.aload_n 0, 1) := by decide +kernel
theorem dX12_readTrust_37 : decode cX12_readTrust 37 = .ok (.getfield 89, 3) := by decide +kernel
theorem dX12_readTrust_40 : decode cX12_readTrust 40 = .ok (.iload_n 1, 1) := by decide +kernel
theorem dX12_readTrust_41 : decode cX12_readTrust 41 = .ok (.iconst 0, 1) := by decide +kernel
theorem dX12_readTrust_42 : decode cX12_readTrust 42 = .ok (.bastore, 1) := by decide +kernel
theorem dX12_readTrust_43 : decode cX12_readTrust 43 = .ok (.iinc 1 1, 3) := by decide +kernel
theorem dX12_readTrust_46 : decode cX12_readTrust 46 = .ok (.goto (-19), 3) := by decide +kernel
theorem dX12_readTrust_49 : decode cX12_readTrust 49 = .ok (.iconst 0, 1) := by decide +kernel
theorem dX12_readTrust_50 : decode cX12_readTrust 50 = .ok (.istore_n 1, 1) := by decide +kernel
theorem dX12_readTrust_51 : decode cX12_readTrust 51 = .ok (.aload_n 0, 1) := by decide +kernel
theorem dX12_readTrust_52 : decode cX12_readTrust 52 = .ok (.getfield 31, 3) := by decide +kernel
theorem dX12_readTrust_55 : decode cX12_readTrust 55 = .ok (.ifCond .eq 74, 3) := by decide +kernel
theorem dX12_readTrust_58 : decode cX12_readTrust 58 = .ok (.aload_n 0, 1) := by decide +kernel
theorem dX12_readTrust_59 : decode cX12_readTrust 59 = .ok (.invokevirtual 93, 3) := by decide +kernel
theorem dX12_readTrust_62 : decode cX12_readTrust 62 = .ok (.istore_n 2, 1) := by decide +kernel
theorem dX12_readTrust_63 : decode cX12_readTrust 63 = .ok (.iload_n 2, 1) := by decide +kernel
theorem dX12_readTrust_64 : decode cX12_readTrust 64 = .ok (.iconst (-1), 1) := by decide +kernel
theorem dX12_readTrust_65 : decode cX12_readTrust 65 = .ok (.if_icmp .ne 9, 3) := by decide +kernel
theorem dX12_readTrust_68 : decode cX12_readTrust 68 = .ok (.aload_n 0, 1) := by decide +kernel
theorem dX12_readTrust_69 : decode cX12_readTrust 69 = .ok (.iconst 1, 1) := by decide +kernel
theorem dX12_readTrust_70 : decode cX12_readTrust 70 = .ok (.invokevirtual 54, 3) := by decide +kernel
theorem dX12_readTrust_73 : decode cX12_readTrust 73 = .ok (.athrow, 1) := by decide +kernel
theorem dX12_readTrust_74 : decode cX12_readTrust 74 = .ok (.aload_n 0, 1) := by decide +kernel
theorem dX12_readTrust_75 : decode cX12_readTrust 75 = .ok (.getfield 89, 3) := by decide +kernel
theorem dX12_readTrust_78 : decode cX12_readTrust 78 = .ok (.iload_n 2, 1) := by decide +kernel
theorem dX12_readTrust_79 : decode cX12_readTrust 79 = .ok (.baload, 1) := by decide +kernel
theorem dX12_readTrust_80 : decode cX12_readTrust 80 = .ok (.ifCond .eq 9, 3) := by decide +kernel
theorem dX12_readTrust_83 : decode cX12_readTrust 83 = .ok (.aload_n 0, 1) := by decide +kernel
theorem dX12_readTrust_84 : decode cX12_readTrust 84 = .ok (.iconst 3, 1) := by decide +kernel
theorem dX12_readTrust_85 : decode cX12_readTrust 85 = .ok (.invokevirtual 54, 3) := by decide +kernel
theorem dX12_readTrust_88 : decode cX12_readTrust 88 = .ok (.athrow, 1) := by decide +kernel
theorem dX12_readTrust_89 : decode cX12_readTrust 89 = .ok (.aload_n 0, 1) := by decide +kernel
theorem dX12_readTrust_90 : decode cX12_readTrust 90 = .ok (.getfield 89, 3) := by decide +kernel
theorem dX12_readTrust_93 : decode cX12_readTrust 93 = .ok (.iload_n 2, 1) := by decide +kernel
theorem dX12_readTrust_94 : decode cX12_readTrust 94 = .ok (.iconst 1, 1) := by decide +kernel
theorem dX12_readTrust_95 : decode cX12_readTrust 95 = .ok (.bastore, 1) := by decide +kernel
theorem dX12_readTrust_96 : decode cX12_readTrust 96 = .ok (.aload_n 0, 1) := by decide +kernel
theorem dX12_readTrust_97 : decode cX12_readTrust 97 = .ok (.invokevirtual 62, 3) := by decide +kernel
theorem dX12_readTrust_100 : decode cX12_readTrust 100 = .ok (.aload_n 0, 1) := by decide +kernel
theorem dX12_readTrust_101 : decode cX12_readTrust 101 = .ok (.iload_n 2, 1) := by decide +kernel
theorem dX12_readTrust_102 : decode cX12_readTrust 102 = .ok (.invokevirtual 96, 3) := by decide +kernel
theorem dX12_readTrust_105 : decode cX12_readTrust 105 = .ok (.aload_n 0, 1) := by decide +kernel
theorem dX12_readTrust_106 : decode cX12_readTrust 106 = .ok (.getfield 31, 3) := by decide +kernel
theorem dX12_readTrust_109 : decode cX12_readTrust 109 = .ok (.iconst 3, 1) := by decide +kernel
theorem dX12_readTrust_110 : decode cX12_readTrust 110 = .ok (.if_icmp .eq 9, 3) := by decide +kernel
theorem dX12_readTrust_113 : decode cX12_readTrust 113 = .ok (.aload_n 0, 1) := by decide +kernel
theorem dX12_readTrust_114 : decode cX12_readTrust 114 = .ok (.iconst 1, 1) := by decide +kernel
theorem dX12_readTrust_115 : decode cX12_readTrust 115 = .ok (.invokevirtual 54, 3) := by decide +kernel
theorem dX12_readTrust_118 : decode cX12_readTrust 118 = .ok (.athrow, 1) := by decide +kernel
theorem dX12_readTrust_119 : decode cX12_readTrust 119 = .ok (.aload_n 0, 1) := by decide +kernel
theorem dX12_readTrust_120 : decode cX12_readTrust 120 = .ok (.invokevirtual 62, 3) := by decide +kernel
theorem dX12_readTrust_123 : decode cX12_readTrust 123 = .ok (.iinc 1 1, 3) := by decide +kernel
theorem dX12_readTrust_126 : decode cX12_readTrust 126 = .ok (.goto (-75), 3) := by decide +kernel
theorem dX12_readTrust_129 : decode cX12_readTrust 129 = .ok (.iload_n 1, 1) := by decide +kernel
theorem dX12_readTrust_130 : decode cX12_readTrust 130 = .ok (.ireturn, 1) := by decide +kernel
theorem dX12_readLine_0 : decode cX12_readLine 0 = .ok (.iload_n 1, 1) := by decide +kernel
theorem dX12_readLine_1 : decode cX12_readLine 1 = .ok (.tableswitch 156 0 4 #[35, 77, 93, 109, 139], 35) := by decide +kernel
theorem dX12_readLine_36 : decode cX12_readLine 36 = .ok (.aload_n 0, 1) := by decide +kernel
theorem dX12_readLine_37 : decode cX12_readLine 37 = .ok (.getfield 82, 3) := by decide +kernel
theorem dX12_readLine_40 : decode cX12_readLine 40 = .ok (.iconst 0, 1) := by decide +kernel
theorem dX12_readLine_41 : decode cX12_readLine 41 = .ok (.aload_n 0, 1) := by decide +kernel
theorem dX12_readLine_42 : decode cX12_readLine 42 = .ok (.iconst 0, 1) := by decide +kernel
theorem dX12_readLine_43 : decode cX12_readLine 43 = .ok (.bipush 100, 2) := by decide +kernel
theorem dX12_readLine_45 : decode cX12_readLine 45 = .ok (.invokevirtual 100, 3) := by decide +kernel
theorem dX12_readLine_48 : decode cX12_readLine 48 = .ok (.iastore, 1) := by decide +kernel
theorem dX12_readLine_49 : decode cX12_readLine 49 = .ok (.aload_n 0, 1) := by decide +kernel
theorem dX12_readLine_50 : decode cX12_readLine 50 = .ok (.getfield 82, 3) := by decide +kernel
theorem dX12_readLine_53 : decode cX12_readLine 53 = .ok (.iconst 1, 1) := by decide +kernel
theorem dX12_readLine_54 : decode cX12_readLine 54 = .ok (.aload_n 0, 1) := by decide +kernel
theorem dX12_readLine_55 : decode cX12_readLine 55 = .ok (.iconst 0, 1) := by decide +kernel
theorem dX12_readLine_56 : decode cX12_readLine 56 = .ok (.ldc 104, 2) := by decide +kernel
theorem dX12_readLine_58 : decode cX12_readLine 58 = .ok (.invokevirtual 100, 3) := by decide +kernel
theorem dX12_readLine_61 : decode cX12_readLine 61 = .ok (.iastore, 1) := by decide +kernel
theorem dX12_readLine_62 : decode cX12_readLine 62 = .ok (.aload_n 0, 1) := by decide +kernel
theorem dX12_readLine_63 : decode cX12_readLine 63 = .ok (.getfield 82, 3) := by decide +kernel
theorem dX12_readLine_66 : decode cX12_readLine 66 = .ok (.iconst 2, 1) := by decide +kernel
theorem dX12_readLine_67 : decode cX12_readLine 67 = .ok (.aload_n 0, 1) := by decide +kernel
theorem dX12_readLine_68 : decode cX12_readLine 68 = .ok (.iconst 0, 1) := by decide +kernel
theorem dX12_readLine_69 : decode cX12_readLine 69 = .ok (.bipush 119, 2) := by decide +kernel
theorem dX12_readLine_71 : decode cX12_readLine 71 = .ok (.invokevirtual 100, 3) := by decide +kernel
theorem dX12_readLine_74 : decode cX12_readLine 74 = .ok (.iastore, 1) := by decide +kernel
theorem dX12_readLine_75 : decode cX12_readLine 75 = .ok (.goto 131, 3) := by decide +kernel
theorem dX12_readLine_78 : decode cX12_readLine 78 = .ok (.aload_n 0, 1) := by decide +kernel
theorem dX12_readLine_79 : decode cX12_readLine 79 = .ok (.getfield 82, 3) := by decide +kernel
theorem dX12_readLine_82 : decode cX12_readLine 82 = .ok (.iconst 3, 1) := by decide +kernel
theorem dX12_readLine_83 : decode cX12_readLine 83 = .ok (.aload_n 0, 1) := by decide +kernel
theorem dX12_readLine_84 : decode cX12_readLine 84 = .ok (.iconst 0, 1) := by decide +kernel
theorem dX12_readLine_85 : decode cX12_readLine 85 = .ok (.bipush 50, 2) := by decide +kernel
theorem dX12_readLine_87 : decode cX12_readLine 87 = .ok (.invokevirtual 100, 3) := by decide +kernel
theorem dX12_readLine_90 : decode cX12_readLine 90 = .ok (.iastore, 1) := by decide +kernel
theorem dX12_readLine_91 : decode cX12_readLine 91 = .ok (.goto 115, 3) := by decide +kernel
theorem dX12_readLine_94 : decode cX12_readLine 94 = .ok (.aload_n 0, 1) := by decide +kernel
theorem dX12_readLine_95 : decode cX12_readLine 95 = .ok (.getfield 82, 3) := by decide +kernel
theorem dX12_readLine_98 : decode cX12_readLine 98 = .ok (.iconst 4, 1) := by decide +kernel
theorem dX12_readLine_99 : decode cX12_readLine 99 = .ok (.aload_n 0, 1) := by decide +kernel
theorem dX12_readLine_100 : decode cX12_readLine 100 = .ok (.iconst 1, 1) := by decide +kernel
theorem dX12_readLine_101 : decode cX12_readLine 101 = .ok (.bipush 12, 2) := by decide +kernel
theorem dX12_readLine_103 : decode cX12_readLine 103 = .ok (.invokevirtual 100, 3) := by decide +kernel
theorem dX12_readLine_106 : decode cX12_readLine 106 = .ok (.iastore, 1) := by decide +kernel
theorem dX12_readLine_107 : decode cX12_readLine 107 = .ok (.goto 99, 3) := by decide +kernel
theorem dX12_readLine_110 : decode cX12_readLine 110 = .ok (.aload_n 0, 1) := by decide +kernel
theorem dX12_readLine_111 : decode cX12_readLine 111 = .ok (.getfield 82, 3) := by decide +kernel
theorem dX12_readLine_114 : decode cX12_readLine 114 = .ok (.iconst 5, 1) := by decide +kernel
theorem dX12_readLine_115 : decode cX12_readLine 115 = .ok (.aload_n 0, 1) := by decide +kernel
theorem dX12_readLine_116 : decode cX12_readLine 116 = .ok (.iconst 0, 1) := by decide +kernel
theorem dX12_readLine_117 : decode cX12_readLine 117 = .ok (.ldc 104, 2) := by decide +kernel
theorem dX12_readLine_119 : decode cX12_readLine 119 = .ok (.invokevirtual 100, 3) := by decide +kernel
theorem dX12_readLine_122 : decode cX12_readLine 122 = .ok (.iastore, 1) := by decide +kernel
theorem dX12_readLine_123 : decode cX12_readLine 123 = .ok (.aload_n 0, 1) := by decide +kernel
theorem dX12_readLine_124 : decode cX12_readLine 124 = .ok (.getfield 82, 3) := by decide +kernel
theorem dX12_readLine_127 : decode cX12_readLine 127 = .ok (.bipush 6, 2) := by decide +kernel
theorem dX12_readLine_129 : decode cX12_readLine 129 = .ok (.aload_n 0, 1) := by decide +kernel
theorem dX12_readLine_130 : decode cX12_readLine 130 = .ok (.iconst 0, 1) := by decide +kernel
theorem dX12_readLine_131 : decode cX12_readLine 131 = .ok (.bipush 10, 2) := by decide +kernel
theorem dX12_readLine_133 : decode cX12_readLine 133 = .ok (.invokevirtual 100, 3) := by decide +kernel
theorem dX12_readLine_136 : decode cX12_readLine 136 = .ok (.iastore, 1) := by decide +kernel
theorem dX12_readLine_137 : decode cX12_readLine 137 = .ok (.goto 69, 3) := by decide +kernel
theorem dX12_readLine_140 : decode cX12_readLine 140 = .ok (.aload_n 0, 1) := by decide +kernel
theorem dX12_readLine_141 : decode cX12_readLine 141 = .ok (.getfield 82, 3) := by decide +kernel
theorem dX12_readLine_144 : decode cX12_readLine 144 = .ok (.bipush 7, 2) := by decide +kernel
theorem dX12_readLine_146 : decode cX12_readLine 146 = .ok (.aload_n 0, 1) := by decide +kernel
theorem dX12_readLine_147 : decode cX12_readLine 147 = .ok (.iconst 1, 1) := by decide +kernel
theorem dX12_readLine_148 : decode cX12_readLine 148 = .ok (.ldc 104, 2) := by decide +kernel
theorem dX12_readLine_150 : decode cX12_readLine 150 = .ok (.invokevirtual 100, 3) := by decide +kernel
theorem dX12_readLine_153 : decode cX12_readLine 153 = .ok (.iastore, 1) := by decide +kernel
theorem dX12_readLine_154 : decode cX12_readLine 154 = .ok (.goto 52, 3) := by decide +kernel
theorem dX12_readLine_157 : decode cX12_readLine 157 = .ok (.aload_n 0, 1) := by decide +kernel
theorem dX12_readLine_158 : decode cX12_readLine 158 = .ok (.ldc 105, 2) := by decide +kernel
theorem dX12_readLine_160 : decode cX12_readLine 160 = .ok (.invokevirtual 68, 3) := by decide +kernel
theorem dX12_readLine_163 : decode cX12_readLine 163 = .ok (.ifCond .ne 18, 3) := by decide +kernel
theorem dX12_readLine_166 : decode cX12_readLine 166 = .ok (.aload_n 0, 1) := by decide +kernel
theorem dX12_readLine_167 : decode cX12_readLine 167 = .ok (.ldc 107, 2) := by decide +kernel
theorem dX12_readLine_169 : decode cX12_readLine 169 = .ok (.invokevirtual 68, 3) := by decide +kernel
theorem dX12_readLine_172 : decode cX12_readLine 172 = .ok (.ifCond .ne 9, 3) := by decide +kernel
theorem dX12_readLine_175 : decode cX12_readLine 175 = .ok (.aload_n 0, 1) := by decide +kernel
theorem dX12_readLine_176 : decode cX12_readLine 176 = .ok (.iconst 1, 1) := by decide +kernel
theorem dX12_readLine_177 : decode cX12_readLine 177 = .ok (.invokevirtual 54, 3) := by decide +kernel
theorem dX12_readLine_180 : decode cX12_readLine 180 = .ok (.athrow, 1) := by decide +kernel
theorem dX12_readLine_181 : decode cX12_readLine 181 = .ok (.aload_n 0, 1) := by decide +kernel
theorem dX12_readLine_182 : decode cX12_readLine 182 = .ok (.getfield 82, 3) := by decide +kernel
theorem dX12_readLine_185 : decode cX12_readLine 185 = .ok (.bipush 8, 2) := by decide +kernel
theorem dX12_readLine_187 : decode cX12_readLine 187 = .ok (.aload_n 0, 1) := by decide +kernel
theorem dX12_readLine_188 : decode cX12_readLine 188 = .ok (.ldc 105, 2) := by decide +kernel
theorem dX12_readLine_190 : decode cX12_readLine 190 = .ok (.invokevirtual 68, 3) := by decide +kernel
theorem dX12_readLine_193 : decode cX12_readLine 193 = .ok (.ifCond .eq 7, 3) := by decide +kernel
theorem dX12_readLine_196 : decode cX12_readLine 196 = .ok (.iconst 1, 1) := by decide +kernel
theorem dX12_readLine_197 : decode cX12_readLine 197 = .ok (.goto 4, 3) := by decide +kernel
theorem dX12_readLine_200 : decode cX12_readLine 200 = .ok (.iconst 0, 1) := by decide +kernel
theorem dX12_readLine_201 : decode cX12_readLine 201 = .ok (.iastore, 1) := by decide +kernel
theorem dX12_readLine_202 : decode cX12_readLine 202 = .ok (.aload_n 0, 1) := by decide +kernel
theorem dX12_readLine_203 : decode cX12_readLine 203 = .ok (.invokevirtual 62, 3) := by decide +kernel
theorem dX12_readLine_206 : decode cX12_readLine 206 = .ok (.return_, 1) := by decide +kernel
theorem dX12_init_0 : decode cX12_init 0 = .ok (.aload_n 0, 1) := by decide +kernel
theorem dX12_init_1 : decode cX12_init 1 = .ok (.invokespecial 109, 3) := by decide +kernel
theorem dX12_init_4 : decode cX12_init 4 = .ok (.aload_n 0, 1) := by decide +kernel
theorem dX12_init_5 : decode cX12_init 5 = .ok (.bipush 9, 2) := by decide +kernel
theorem dX12_init_7 : decode cX12_init 7 = .ok (.newarray .int, 2) := by decide +kernel
theorem dX12_init_9 : decode cX12_init 9 = .ok (.putfield 114, 3) := by decide +kernel
theorem dX12_init_12 : decode cX12_init 12 = .ok (.aload_n 0, 1) := by decide +kernel
theorem dX12_init_13 : decode cX12_init 13 = .ok (.bipush 9, 2) := by decide +kernel
theorem dX12_init_15 : decode cX12_init 15 = .ok (.newarray .int, 2) := by decide +kernel
theorem dX12_init_17 : decode cX12_init 17 = .ok (.putfield 82, 3) := by decide +kernel
theorem dX12_init_20 : decode cX12_init 20 = .ok (.aload_n 0, 1) := by decide +kernel
theorem dX12_init_21 : decode cX12_init 21 = .ok (.new 117, 3) := by decide +kernel
theorem dX12_init_24 : decode cX12_init 24 = .ok (.dup, 1) := by decide +kernel
theorem dX12_init_25 : decode cX12_init 25 = .ok (.invokespecial 119, 3) := by decide +kernel
theorem dX12_init_28 : decode cX12_init 28 = .ok (.putfield 13, 3) := by decide +kernel
theorem dX12_init_31 : decode cX12_init 31 = .ok (.aload_n 0, 1) := by decide +kernel
theorem dX12_init_32 : decode cX12_init 32 = .ok (.sipush 400, 3) := by decide +kernel
theorem dX12_init_35 : decode cX12_init 35 = .ok (.newarray .byte, 2) := by decide +kernel
theorem dX12_init_37 : decode cX12_init 37 = .ok (.putfield 20, 3) := by decide +kernel
theorem dX12_init_40 : decode cX12_init 40 = .ok (.aload_n 0, 1) := by decide +kernel
theorem dX12_init_41 : decode cX12_init 41 = .ok (.iconst (-1), 1) := by decide +kernel
theorem dX12_init_42 : decode cX12_init 42 = .ok (.putfield 10, 3) := by decide +kernel
theorem dX12_init_45 : decode cX12_init 45 = .ok (.aload_n 0, 1) := by decide +kernel
theorem dX12_init_46 : decode cX12_init 46 = .ok (.bipush 6, 2) := by decide +kernel
theorem dX12_init_48 : decode cX12_init 48 = .ok (.newarray .boolean, 2) := by decide +kernel
theorem dX12_init_50 : decode cX12_init 50 = .ok (.putfield 89, 3) := by decide +kernel
theorem dX12_init_53 : decode cX12_init 53 = .ok (.aload_n 0, 1) := by decide +kernel
theorem dX12_init_54 : decode cX12_init 54 = .ok (.bipush 30, 2) := by decide +kernel
theorem dX12_init_56 : decode cX12_init 56 = .ok (.newarray .int, 2) := by decide +kernel
theorem dX12_init_58 : decode cX12_init 58 = .ok (.putfield 120, 3) := by decide +kernel
theorem dX12_init_61 : decode cX12_init 61 = .ok (.aload_n 0, 1) := by decide +kernel
theorem dX12_init_62 : decode cX12_init 62 = .ok (.bipush 30, 2) := by decide +kernel
theorem dX12_init_64 : decode cX12_init 64 = .ok (.newarray .int, 2) := by decide +kernel
theorem dX12_init_66 : decode cX12_init 66 = .ok (.putfield 123, 3) := by decide +kernel
theorem dX12_init_69 : decode cX12_init 69 = .ok (.aload_n 0, 1) := by decide +kernel
theorem dX12_init_70 : decode cX12_init 70 = .ok (.bipush 30, 2) := by decide +kernel
theorem dX12_init_72 : decode cX12_init 72 = .ok (.newarray .int, 2) := by decide +kernel
theorem dX12_init_74 : decode cX12_init 74 = .ok (.putfield 126, 3) := by decide +kernel
theorem dX12_init_77 : decode cX12_init 77 = .ok (.aload_n 0, 1) := by decide +kernel
theorem dX12_init_78 : decode cX12_init 78 = .ok (.bipush 30, 2) := by decide +kernel
theorem dX12_init_80 : decode cX12_init 80 = .ok (.newarray .int, 2) := by decide +kernel
theorem dX12_init_82 : decode cX12_init 82 = .ok (.putfield 129, 3) := by decide +kernel
theorem dX12_init_85 : decode cX12_init 85 = .ok (.aload_n 0, 1) := by decide +kernel
theorem dX12_init_86 : decode cX12_init 86 = .ok (.bipush 30, 2) := by decide +kernel
theorem dX12_init_88 : decode cX12_init 88 = .ok (.newarray .boolean, 2) := by decide +kernel
theorem dX12_init_90 : decode cX12_init 90 = .ok (.putfield 132, 3) := by decide +kernel
theorem dX12_init_93 : decode cX12_init 93 = .ok (.aload_n 0, 1) := by decide +kernel
theorem dX12_init_94 : decode cX12_init 94 = .ok (.bipush 60, 2) := by decide +kernel
theorem dX12_init_96 : decode cX12_init 96 = .ok (.newarray .int, 2) := by decide +kernel
theorem dX12_init_98 : decode cX12_init 98 = .ok (.putfield 135, 3) := by decide +kernel
theorem dX12_init_101 : decode cX12_init 101 = .ok (.aload_n 0, 1) := by decide +kernel
theorem dX12_init_102 : decode cX12_init 102 = .ok (.bipush 60, 2) := by decide +kernel
theorem dX12_init_104 : decode cX12_init 104 = .ok (.newarray .int, 2) := by decide +kernel
theorem dX12_init_106 : decode cX12_init 106 = .ok (.putfield 138, 3) := by decide +kernel
theorem dX12_init_109 : decode cX12_init 109 = .ok (.aload_n 0, 1) := by decide +kernel
theorem dX12_init_110 : decode cX12_init 110 = .ok (.bipush 60, 2) := by decide +kernel
theorem dX12_init_112 : decode cX12_init 112 = .ok (.newarray .int, 2) := by decide +kernel
theorem dX12_init_114 : decode cX12_init 114 = .ok (.putfield 141, 3) := by decide +kernel
theorem dX12_init_117 : decode cX12_init 117 = .ok (.aload_n 0, 1) := by decide +kernel
theorem dX12_init_118 : decode cX12_init 118 = .ok (.bipush 60, 2) := by decide +kernel
theorem dX12_init_120 : decode cX12_init 120 = .ok (.newarray .int, 2) := by decide +kernel
theorem dX12_init_122 : decode cX12_init 122 = .ok (.putfield 144, 3) := by decide +kernel
theorem dX12_init_125 : decode cX12_init 125 = .ok (.aload_n 0, 1) := by decide +kernel
theorem dX12_init_126 : decode cX12_init 126 = .ok (.bipush 60, 2) := by decide +kernel
theorem dX12_init_128 : decode cX12_init 128 = .ok (.newarray .int, 2) := by decide +kernel
theorem dX12_init_130 : decode cX12_init 130 = .ok (.putfield 147, 3) := by decide +kernel
theorem dX12_init_133 : decode cX12_init 133 = .ok (.aload_n 0, 1) := by decide +kernel
theorem dX12_init_134 : decode cX12_init 134 = .ok (.bipush 60, 2) := by decide +kernel
theorem dX12_init_136 : decode cX12_init 136 = .ok (.newarray .int, 2) := by decide +kernel
theorem dX12_init_138 : decode cX12_init 138 = .ok (.putfield 150, 3) := by decide +kernel
theorem dX12_init_141 : decode cX12_init 141 = .ok (.aload_n 0, 1) := by decide +kernel
theorem dX12_init_142 : decode cX12_init 142 = .ok (.bipush 60, 2) := by decide +kernel
theorem dX12_init_144 : decode cX12_init 144 = .ok (.newarray .boolean, 2) := by decide +kernel
theorem dX12_init_146 : decode cX12_init 146 = .ok (.putfield 153, 3) := by decide +kernel
theorem dX12_init_149 : decode cX12_init 149 = .ok (.aload_n 0, 1) := by decide +kernel
theorem dX12_init_150 : decode cX12_init 150 = .ok (.bipush 60, 2) := by decide +kernel
theorem dX12_init_152 : decode cX12_init 152 = .ok (.newarray .boolean, 2) := by decide +kernel
theorem dX12_init_154 : decode cX12_init 154 = .ok (.putfield 156, 3) := by decide +kernel
theorem dX12_init_157 : decode cX12_init 157 = .ok (.aload_n 0, 1) := by decide +kernel
theorem dX12_init_158 : decode cX12_init 158 = .ok (.sipush 5040, 3) := by decide +kernel
theorem dX12_init_161 : decode cX12_init 161 = .ok (.newarray .int, 2) := by decide +kernel
theorem dX12_init_163 : decode cX12_init 163 = .ok (.putfield 159, 3) := by decide +kernel
theorem dX12_init_166 : decode cX12_init 166 = .ok (.aload_n 0, 1) := by decide +kernel
theorem dX12_init_167 : decode cX12_init 167 = .ok (.sipush 5040, 3) := by decide +kernel
theorem dX12_init_170 : decode cX12_init 170 = .ok (.newarray .int, 2) := by decide +kernel
theorem dX12_init_172 : decode cX12_init 172 = .ok (.putfield 162, 3) := by decide +kernel
theorem dX12_init_175 : decode cX12_init 175 = .ok (.aload_n 0, 1) := by decide +kernel
theorem dX12_init_176 : decode cX12_init 176 = .ok (.sipush 5040, 3) := by decide +kernel
theorem dX12_init_179 : decode cX12_init 179 = .ok (.newarray .boolean, 2) := by decide +kernel
theorem dX12_init_181 : decode cX12_init 181 = .ok (.putfield 165, 3) := by decide +kernel
theorem dX12_init_184 : decode cX12_init 184 = .ok (.aload_n 0, 1) := by decide +kernel
theorem dX12_init_185 : decode cX12_init 185 = .ok (.sipush 5040, 3) := by decide +kernel
theorem dX12_init_188 : decode cX12_init 188 = .ok (.newarray .boolean, 2) := by decide +kernel
theorem dX12_init_190 : decode cX12_init 190 = .ok (.putfield 168, 3) := by decide +kernel
theorem dX12_init_193 : decode cX12_init 193 = .ok (.aload_n 0, 1) := by decide +kernel
theorem dX12_init_194 : decode cX12_init 194 = .ok (.sipush 250, 3) := by decide +kernel
theorem dX12_init_197 : decode cX12_init 197 = .ok (.newarray .int, 2) := by decide +kernel
theorem dX12_init_199 : decode cX12_init 199 = .ok (.putfield 171, 3) := by decide +kernel
theorem dX12_init_202 : decode cX12_init 202 = .ok (.aload_n 0, 1) := by decide +kernel
theorem dX12_init_203 : decode cX12_init 203 = .ok (.sipush 250, 3) := by decide +kernel
theorem dX12_init_206 : decode cX12_init 206 = .ok (.newarray .int, 2) := by decide +kernel
theorem dX12_init_208 : decode cX12_init 208 = .ok (.putfield 174, 3) := by decide +kernel
theorem dX12_init_211 : decode cX12_init 211 = .ok (.aload_n 0, 1) := by decide +kernel
theorem dX12_init_212 : decode cX12_init 212 = .ok (.sipush 250, 3) := by decide +kernel
theorem dX12_init_215 : decode cX12_init 215 = .ok (.newarray .int, 2) := by decide +kernel
theorem dX12_init_217 : decode cX12_init 217 = .ok (.putfield 177, 3) := by decide +kernel
theorem dX12_init_220 : decode cX12_init 220 = .ok (.aload_n 0, 1) := by decide +kernel
theorem dX12_init_221 : decode cX12_init 221 = .ok (.sipush 250, 3) := by decide +kernel
theorem dX12_init_224 : decode cX12_init 224 = .ok (.newarray .boolean, 2) := by decide +kernel
theorem dX12_init_226 : decode cX12_init 226 = .ok (.putfield 180, 3) := by decide +kernel
theorem dX12_init_229 : decode cX12_init 229 = .ok (.aload_n 0, 1) := by decide +kernel
theorem dX12_init_230 : decode cX12_init 230 = .ok (.bipush 8, 2) := by decide +kernel
theorem dX12_init_232 : decode cX12_init 232 = .ok (.newarray .int, 2) := by decide +kernel
theorem dX12_init_234 : decode cX12_init 234 = .ok (.putfield 183, 3) := by decide +kernel
theorem dX12_init_237 : decode cX12_init 237 = .ok (.aload_n 0, 1) := by decide +kernel
theorem dX12_init_238 : decode cX12_init 238 = .ok (.bipush 8, 2) := by decide +kernel
theorem dX12_init_240 : decode cX12_init 240 = .ok (.newarray .int, 2) := by decide +kernel
theorem dX12_init_242 : decode cX12_init 242 = .ok (.putfield 186, 3) := by decide +kernel
theorem dX12_init_245 : decode cX12_init 245 = .ok (.aload_n 0, 1) := by decide +kernel
theorem dX12_init_246 : decode cX12_init 246 = .ok (.bipush 8, 2) := by decide +kernel

