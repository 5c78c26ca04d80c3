def wP10 : List (Nat × Cond) := [(918, Cond.methodLink RX10 271 yX0_partCoin), (919, Cond.instanceMethod yX0_partCoin), (920, Cond.selects RX0 yX0_partCoin yX0_partCoin), (922, Cond.methodLink RX0 48 yX5_total), (923, Cond.instanceMethod yX5_total), (924, Cond.selects RX5 yX5_total yX5_total), (926, Cond.methodLink RX0 52 yX5_givenBy), (927, Cond.methodLink RX10 275 yX3_giveBack), (928, Cond.instanceMethod yX3_giveBack), (929, Cond.selects RX3 yX3_giveBack yX3_giveBack), (931, Cond.methodLink RL 107 yX10_back), (932, Cond.instanceMethod yX10_back), (933, Cond.selects RX10 yX10_back yX10_back), (935, Cond.methodLink RX10 278 yX0_gotBack), (936, Cond.instanceMethod yX0_gotBack), (937, Cond.selects RX0 yX0_gotBack yX0_gotBack), (939, Cond.methodLink RL 111 yX10_count), (940, Cond.instanceMethod yX10_count), (941, Cond.selects RX10 yX10_count yX10_count), (943, Cond.methodLink RX10 281 yX3_loan), (944, Cond.instanceMethod yX3_loan), (945, Cond.selects RX3 yX3_loan yX3_loan), (947, Cond.methodLink RX10 284 yX5_total), (948, Cond.methodLink RX10 287 yX3_matched), (949, Cond.instanceMethod yX3_matched), (950, Cond.selects RX3 yX3_matched yX3_matched), (952, Cond.methodLink RX10 290 yX3_tax), (953, Cond.instanceMethod yX3_tax), (954, Cond.selects RX3 yX3_tax yX3_tax), (956, Cond.methodLink RX10 293 yX3_paidForStages), (957, Cond.instanceMethod yX3_paidForStages), (958, Cond.selects RX3 yX3_paidForStages yX3_paidForStages), (960, Cond.methodLink RX10 296 yX3_grown), (961, Cond.instanceMethod yX3_grown), (962, Cond.selects RX3 yX3_grown yX3_grown), (964, Cond.methodLink RX10 299 yX2_size), (965, Cond.instanceMethod yX2_size), (966, Cond.selects RX2 yX2_size yX2_size), (968, Cond.methodLink RX10 302 yX2_lapsedNow), (969, Cond.instanceMethod yX2_lapsedNow), (970, Cond.selects RX2 yX2_lapsedNow yX2_lapsedNow), (972, Cond.methodLink RX2 25 yX1_isLapsed), (973, Cond.methodLink RX10 305 yX7_size), (974, Cond.instanceMethod yX7_size), (975, Cond.selects RX7 yX7_size yX7_size), (977, Cond.methodLink RX10 306 yX5_size), (978, Cond.classLink RL 10 RX12), (979, Cond.instantiable RX12 53), (980, Cond.methodLink RL 12 yX12_init), (981, Cond.instanceMethod yX12_init), (983, Cond.methodLink RX12 109 objectInit), (984, Cond.classLink RX12 117 RX11), (985, Cond.instantiable RX11 6), (1003, Cond.fieldLink RH 198 "java/lang/Throwable" "backtrace" "Ljava/lang/Object;"), (1004, Cond.superclass RH "java/lang/Object"), (1005, Cond.instanceMethod ⟨"java/lang/Throwable", "<init>", "()V"⟩), (1007, Cond.methodLink RH 1 objectInit), (1008, Cond.fieldLink RH 13 "java/lang/Throwable" "UNASSIGNED_STACK" "[Ljava/lang/StackTraceElement;"), (1010, Cond.fieldLink RH 20 "java/lang/Throwable" "SUPPRESSED_SENTINEL" "Ljava/util/List;"), (1012, Cond.methodLink RH 27 ⟨"java/lang/Throwable", "fillInStackTrace", "()Ljava/lang/Throwable;"⟩)]
set_option maxRecDepth 100000 in
theorem wA10 : wq_k lw_tbl 0 wP10 = true := by decide +kernel
theorem km_X10_271 : Cond.methodLink RX10 271 yX0_partCoin ∈ tb := wq_at wA10 0 rfl
theorem kj_X0_partCoin : Cond.instanceMethod yX0_partCoin ∈ tb := wq_at wA10 1 rfl
theorem kl_X0_partCoin : Cond.selects RX0 yX0_partCoin yX0_partCoin ∈ tb := wq_at wA10 2 rfl
theorem km_X0_48 : Cond.methodLink RX0 48 yX5_total ∈ tb := wq_at wA10 3 rfl
theorem kj_X5_total : Cond.instanceMethod yX5_total ∈ tb := wq_at wA10 4 rfl
theorem kl_X5_total : Cond.selects RX5 yX5_total yX5_total ∈ tb := wq_at wA10 5 rfl
theorem km_X0_52 : Cond.methodLink RX0 52 yX5_givenBy ∈ tb := wq_at wA10 6 rfl
theorem km_X10_275 : Cond.methodLink RX10 275 yX3_giveBack ∈ tb := wq_at wA10 7 rfl
theorem kj_X3_giveBack : Cond.instanceMethod yX3_giveBack ∈ tb := wq_at wA10 8 rfl
theorem kl_X3_giveBack : Cond.selects RX3 yX3_giveBack yX3_giveBack ∈ tb := wq_at wA10 9 rfl
theorem km_L_107 : Cond.methodLink RL 107 yX10_back ∈ tb := wq_at wA10 10 rfl
theorem kj_X10_back : Cond.instanceMethod yX10_back ∈ tb := wq_at wA10 11 rfl
theorem kl_X10_back : Cond.selects RX10 yX10_back yX10_back ∈ tb := wq_at wA10 12 rfl
theorem km_X10_278 : Cond.methodLink RX10 278 yX0_gotBack ∈ tb := wq_at wA10 13 rfl
theorem kj_X0_gotBack : Cond.instanceMethod yX0_gotBack ∈ tb := wq_at wA10 14 rfl
theorem kl_X0_gotBack : Cond.selects RX0 yX0_gotBack yX0_gotBack ∈ tb := wq_at wA10 15 rfl
theorem km_L_111 : Cond.methodLink RL 111 yX10_count ∈ tb := wq_at wA10 16 rfl
theorem kj_X10_count : Cond.instanceMethod yX10_count ∈ tb := wq_at wA10 17 rfl
theorem kl_X10_count : Cond.selects RX10 yX10_count yX10_count ∈ tb := wq_at wA10 18 rfl
theorem km_X10_281 : Cond.methodLink RX10 281 yX3_loan ∈ tb := wq_at wA10 19 rfl
theorem kj_X3_loan : Cond.instanceMethod yX3_loan ∈ tb := wq_at wA10 20 rfl
theorem kl_X3_loan : Cond.selects RX3 yX3_loan yX3_loan ∈ tb := wq_at wA10 21 rfl
theorem km_X10_284 : Cond.methodLink RX10 284 yX5_total ∈ tb := wq_at wA10 22 rfl
theorem km_X10_287 : Cond.methodLink RX10 287 yX3_matched ∈ tb := wq_at wA10 23 rfl
theorem kj_X3_matched : Cond.instanceMethod yX3_matched ∈ tb := wq_at wA10 24 rfl
theorem kl_X3_matched : Cond.selects RX3 yX3_matched yX3_matched ∈ tb := wq_at wA10 25 rfl
theorem km_X10_290 : Cond.methodLink RX10 290 yX3_tax ∈ tb := wq_at wA10 26 rfl
theorem kj_X3_tax : Cond.instanceMethod yX3_tax ∈ tb := wq_at wA10 27 rfl
theorem kl_X3_tax : Cond.selects RX3 yX3_tax yX3_tax ∈ tb := wq_at wA10 28 rfl
theorem km_X10_293 : Cond.methodLink RX10 293 yX3_paidForStages ∈ tb := wq_at wA10 29 rfl
theorem kj_X3_paidForStages : Cond.instanceMethod yX3_paidForStages ∈ tb := wq_at wA10 30 rfl
theorem kl_X3_paidForStages : Cond.selects RX3 yX3_paidForStages yX3_paidForStages ∈ tb := wq_at wA10 31 rfl
theorem km_X10_296 : Cond.methodLink RX10 296 yX3_grown ∈ tb := wq_at wA10 32 rfl
theorem kj_X3_grown : Cond.instanceMethod yX3_grown ∈ tb := wq_at wA10 33 rfl
theorem kl_X3_grown : Cond.selects RX3 yX3_grown yX3_grown ∈ tb := wq_at wA10 34 rfl
theorem km_X10_299 : Cond.methodLink RX10 299 yX2_size ∈ tb := wq_at wA10 35 rfl
theorem kj_X2_size : Cond.instanceMethod yX2_size ∈ tb := wq_at wA10 36 rfl
theorem kl_X2_size : Cond.selects RX2 yX2_size yX2_size ∈ tb := wq_at wA10 37 rfl
theorem km_X10_302 : Cond.methodLink RX10 302 yX2_lapsedNow ∈ tb := wq_at wA10 38 rfl
theorem kj_X2_lapsedNow : Cond.instanceMethod yX2_lapsedNow ∈ tb := wq_at wA10 39 rfl
theorem kl_X2_lapsedNow : Cond.selects RX2 yX2_lapsedNow yX2_lapsedNow ∈ tb := wq_at wA10 40 rfl
theorem km_X2_25 : Cond.methodLink RX2 25 yX1_isLapsed ∈ tb := wq_at wA10 41 rfl
theorem km_X10_305 : Cond.methodLink RX10 305 yX7_size ∈ tb := wq_at wA10 42 rfl
theorem kj_X7_size : Cond.instanceMethod yX7_size ∈ tb := wq_at wA10 43 rfl
theorem kl_X7_size : Cond.selects RX7 yX7_size yX7_size ∈ tb := wq_at wA10 44 rfl
theorem km_X10_306 : Cond.methodLink RX10 306 yX5_size ∈ tb := wq_at wA10 45 rfl
theorem kc_L_10 : Cond.classLink RL 10 RX12 ∈ tb := wq_at wA10 46 rfl
theorem kn_X12 : Cond.instantiable RX12 53 ∈ tb := wq_at wA10 47 rfl
theorem km_L_12 : Cond.methodLink RL 12 yX12_init ∈ tb := wq_at wA10 48 rfl
theorem kj_X12_init : Cond.instanceMethod yX12_init ∈ tb := wq_at wA10 49 rfl
theorem km_X12_109 : Cond.methodLink RX12 109 objectInit ∈ tb := wq_at wA10 50 rfl
theorem kc_X12_117 : Cond.classLink RX12 117 RX11 ∈ tb := wq_at wA10 51 rfl
theorem kn_X11 : Cond.instantiable RX11 6 ∈ tb := wq_at wA10 52 rfl
theorem km_H_1 : Cond.methodLink RH 1 objectInit ∈ tb := wq_at wA10 56 rfl
theorem kf_H_13 : Cond.fieldLink RH 13 "java/lang/Throwable" "UNASSIGNED_STACK" "[Ljava/lang/StackTraceElement;" ∈ tb := wq_at wA10 57 rfl
theorem kf_H_20 : Cond.fieldLink RH 20 "java/lang/Throwable" "SUPPRESSED_SENTINEL" "Ljava/util/List;" ∈ tb := wq_at wA10 58 rfl
def wP11 : List (Nat × Cond) := [(1013, Cond.instanceMethod ⟨"java/lang/Throwable", "fillInStackTrace", "()Ljava/lang/Throwable;"⟩), (1016, Cond.methodLink RH 202 ⟨"java/lang/Throwable", "fillInStackTrace", "(I)Ljava/lang/Throwable;"⟩), (1018, Cond.instanceMethod ⟨"java/lang/Throwable", "fillInStackTrace", "(I)Ljava/lang/Throwable;"⟩), (1019, Cond.instantiable RH 6), (1020, Cond.native ⟨"java/lang/Throwable", "fillInStackTrace", "(I)Ljava/lang/Throwable;"⟩), (1021, Cond.methodLink RX12 119 yX11_init), (1022, Cond.instanceMethod yX11_init), (1024, Cond.methodLink RX11 1 yE_init), (1025, Cond.instanceMethod yE_init), (1027, Cond.methodLink RE 16 yH_init), (1028, Cond.instanceMethod yH_init), (1031, Cond.fieldLink RH 31 "java/lang/Throwable" "detailMessage" "Ljava/lang/String;"), (1032, Cond.fieldLink RH 7 "java/lang/Throwable" "cause" "Ljava/lang/Throwable;"), (1033, Cond.fieldLink RH 17 "java/lang/Throwable" "stackTrace" "[Ljava/lang/StackTraceElement;"), (1034, Cond.fieldLink RH 24 "java/lang/Throwable" "suppressedExceptions" "Ljava/util/List;"), (1042, Cond.superclass RX11 RE), (1043, Cond.fieldLink RX12 86 "TowerAppealModel" "PLAIN" "[I"), (1045, Cond.fieldLink RX12 114 "TowerAppealModel" "rule" "[I"), (1046, Cond.fieldLink RX12 82 "TowerAppealModel" "read" "[I"), (1047, Cond.fieldLink RX12 13 "TowerAppealModel" "halt" "LTowerAppealModel$Stop;"), (1048, Cond.fieldLink RX12 20 "TowerAppealModel" "tape" "[B"), (1049, Cond.fieldLink RX12 203 "TowerAppealModel" "taped" "I"), (1050, Cond.fieldLink RX12 17 "TowerAppealModel" "size" "I"), (1051, Cond.fieldLink RX12 7 "TowerAppealModel" "from" "I"), (1052, Cond.fieldLink RX12 24 "TowerAppealModel" "behind" "I"), (1053, Cond.fieldLink RX12 31 "TowerAppealModel" "hand" "I"), (1054, Cond.fieldLink RX12 41 "TowerAppealModel" "value" "I"), (1055, Cond.fieldLink RX12 1 "TowerAppealModel" "fault" "I"), (1056, Cond.fieldLink RX12 10 "TowerAppealModel" "faultAt" "I"), (1057, Cond.fieldLink RX12 89 "TowerAppealModel" "told" "[Z"), (1058, Cond.fieldLink RX12 230 "TowerAppealModel" "clock" "I"), (1059, Cond.fieldLink RX12 262 "TowerAppealModel" "coin" "I"), (1060, Cond.fieldLink RX12 296 "TowerAppealModel" "loan" "I"), (1061, Cond.fieldLink RX12 251 "TowerAppealModel" "matched" "I"), (1062, Cond.fieldLink RX12 276 "TowerAppealModel" "taxed" "I"), (1063, Cond.fieldLink RX12 298 "TowerAppealModel" "paidStages" "I"), (1064, Cond.fieldLink RX12 305 "TowerAppealModel" "grown" "I"), (1065, Cond.fieldLink RX12 237 "TowerAppealModel" "pledges" "I"), (1066, Cond.fieldLink RX12 246 "TowerAppealModel" "sums" "I"), (1067, Cond.fieldLink RX12 286 "TowerAppealModel" "stages" "I"), (1068, Cond.fieldLink RX12 224 "TowerAppealModel" "isStopped" "Z"), (1069, Cond.fieldLink RX12 120 "TowerAppealModel" "declaredFrom" "[I"), (1070, Cond.fieldLink RX12 123 "TowerAppealModel" "declaredTo" "[I"), (1071, Cond.fieldLink RX12 126 "TowerAppealModel" "given" "[I"), (1072, Cond.fieldLink RX12 129 "TowerAppealModel" "back" "[I"), (1073, Cond.fieldLink RX12 132 "TowerAppealModel" "isNameless" "[Z"), (1074, Cond.fieldLink RX12 135 "TowerAppealModel" "giver" "[I"), (1075, Cond.fieldLink RX12 138 "TowerAppealModel" "pence" "[I"), (1076, Cond.fieldLink RX12 141 "TowerAppealModel" "first" "[I"), (1077, Cond.fieldLink RX12 144 "TowerAppealModel" "every" "[I"), (1078, Cond.fieldLink RX12 147 "TowerAppealModel" "dues" "[I"), (1079, Cond.fieldLink RX12 150 "TowerAppealModel" "lapsedAt" "[I"), (1080, Cond.fieldLink RX12 153 "TowerAppealModel" "isLapsed" "[Z"), (1081, Cond.fieldLink RX12 156 "TowerAppealModel" "wasTakenUp" "[Z"), (1082, Cond.fieldLink RX12 159 "TowerAppealModel" "due" "[I"), (1083, Cond.fieldLink RX12 162 "TowerAppealModel" "filled" "[I"), (1084, Cond.fieldLink RX12 165 "TowerAppealModel" "isThere" "[Z"), (1085, Cond.fieldLink RX12 168 "TowerAppealModel" "counts" "[Z"), (1086, Cond.fieldLink RX12 171 "TowerAppealModel" "sumGiver" "[I"), (1087, Cond.fieldLink RX12 174 "TowerAppealModel" "sumMonth" "[I")]
set_option maxRecDepth 100000 in
theorem wA11 : wq_k lw_tbl 0 wP11 = true := by decide +kernel
theorem km_X12_119 : Cond.methodLink RX12 119 yX11_init ∈ tb := wq_at wA11 5 rfl
theorem kj_X11_init : Cond.instanceMethod yX11_init ∈ tb := wq_at wA11 6 rfl
theorem km_X11_1 : Cond.methodLink RX11 1 yE_init ∈ tb := wq_at wA11 7 rfl
theorem kj_E_init : Cond.instanceMethod yE_init ∈ tb := wq_at wA11 8 rfl
theorem km_E_16 : Cond.methodLink RE 16 yH_init ∈ tb := wq_at wA11 9 rfl
theorem kj_H_init : Cond.instanceMethod yH_init ∈ tb := wq_at wA11 10 rfl
theorem kf_H_31 : Cond.fieldLink RH 31 "java/lang/Throwable" "detailMessage" "Ljava/lang/String;" ∈ tb := wq_at wA11 11 rfl
theorem kf_H_7 : Cond.fieldLink RH 7 "java/lang/Throwable" "cause" "Ljava/lang/Throwable;" ∈ tb := wq_at wA11 12 rfl
theorem kf_H_17 : Cond.fieldLink RH 17 "java/lang/Throwable" "stackTrace" "[Ljava/lang/StackTraceElement;" ∈ tb := wq_at wA11 13 rfl
theorem kf_H_24 : Cond.fieldLink RH 24 "java/lang/Throwable" "suppressedExceptions" "Ljava/util/List;" ∈ tb := wq_at wA11 14 rfl
theorem kf_X12_86 : Cond.fieldLink RX12 86 "TowerAppealModel" "PLAIN" "[I" ∈ tb := wq_at wA11 16 rfl
theorem kf_X12_114 : Cond.fieldLink RX12 114 "TowerAppealModel" "rule" "[I" ∈ tb := wq_at wA11 17 rfl
theorem kf_X12_82 : Cond.fieldLink RX12 82 "TowerAppealModel" "read" "[I" ∈ tb := wq_at wA11 18 rfl
theorem kf_X12_13 : Cond.fieldLink RX12 13 "TowerAppealModel" "halt" "LTowerAppealModel$Stop;" ∈ tb := wq_at wA11 19 rfl
theorem kf_X12_20 : Cond.fieldLink RX12 20 "TowerAppealModel" "tape" "[B" ∈ tb := wq_at wA11 20 rfl
theorem kf_X12_203 : Cond.fieldLink RX12 203 "TowerAppealModel" "taped" "I" ∈ tb := wq_at wA11 21 rfl
theorem kf_X12_17 : Cond.fieldLink RX12 17 "TowerAppealModel" "size" "I" ∈ tb := wq_at wA11 22 rfl
theorem kf_X12_7 : Cond.fieldLink RX12 7 "TowerAppealModel" "from" "I" ∈ tb := wq_at wA11 23 rfl
theorem kf_X12_24 : Cond.fieldLink RX12 24 "TowerAppealModel" "behind" "I" ∈ tb := wq_at wA11 24 rfl
theorem kf_X12_31 : Cond.fieldLink RX12 31 "TowerAppealModel" "hand" "I" ∈ tb := wq_at wA11 25 rfl
theorem kf_X12_41 : Cond.fieldLink RX12 41 "TowerAppealModel" "value" "I" ∈ tb := wq_at wA11 26 rfl
theorem kf_X12_1 : Cond.fieldLink RX12 1 "TowerAppealModel" "fault" "I" ∈ tb := wq_at wA11 27 rfl
theorem kf_X12_10 : Cond.fieldLink RX12 10 "TowerAppealModel" "faultAt" "I" ∈ tb := wq_at wA11 28 rfl
theorem kf_X12_89 : Cond.fieldLink RX12 89 "TowerAppealModel" "told" "[Z" ∈ tb := wq_at wA11 29 rfl
theorem kf_X12_230 : Cond.fieldLink RX12 230 "TowerAppealModel" "clock" "I" ∈ tb := wq_at wA11 30 rfl
theorem kf_X12_262 : Cond.fieldLink RX12 262 "TowerAppealModel" "coin" "I" ∈ tb := wq_at wA11 31 rfl
theorem kf_X12_296 : Cond.fieldLink RX12 296 "TowerAppealModel" "loan" "I" ∈ tb := wq_at wA11 32 rfl
theorem kf_X12_251 : Cond.fieldLink RX12 251 "TowerAppealModel" "matched" "I" ∈ tb := wq_at wA11 33 rfl
theorem kf_X12_276 : Cond.fieldLink RX12 276 "TowerAppealModel" "taxed" "I" ∈ tb := wq_at wA11 34 rfl
theorem kf_X12_298 : Cond.fieldLink RX12 298 "TowerAppealModel" "paidStages" "I" ∈ tb := wq_at wA11 35 rfl
theorem kf_X12_305 : Cond.fieldLink RX12 305 "TowerAppealModel" "grown" "I" ∈ tb := wq_at wA11 36 rfl
theorem kf_X12_237 : Cond.fieldLink RX12 237 "TowerAppealModel" "pledges" "I" ∈ tb := wq_at wA11 37 rfl
theorem kf_X12_246 : Cond.fieldLink RX12 246 "TowerAppealModel" "sums" "I" ∈ tb := wq_at wA11 38 rfl
theorem kf_X12_286 : Cond.fieldLink RX12 286 "TowerAppealModel" "stages" "I" ∈ tb := wq_at wA11 39 rfl
theorem kf_X12_224 : Cond.fieldLink RX12 224 "TowerAppealModel" "isStopped" "Z" ∈ tb := wq_at wA11 40 rfl
theorem kf_X12_120 : Cond.fieldLink RX12 120 "TowerAppealModel" "declaredFrom" "[I" ∈ tb := wq_at wA11 41 rfl
theorem kf_X12_123 : Cond.fieldLink RX12 123 "TowerAppealModel" "declaredTo" "[I" ∈ tb := wq_at wA11 42 rfl
theorem kf_X12_126 : Cond.fieldLink RX12 126 "TowerAppealModel" "given" "[I" ∈ tb := wq_at wA11 43 rfl
theorem kf_X12_129 : Cond.fieldLink RX12 129 "TowerAppealModel" "back" "[I" ∈ tb := wq_at wA11 44 rfl
theorem kf_X12_132 : Cond.fieldLink RX12 132 "TowerAppealModel" "isNameless" "[Z" ∈ tb := wq_at wA11 45 rfl
theorem kf_X12_135 : Cond.fieldLink RX12 135 "TowerAppealModel" "giver" "[I" ∈ tb := wq_at wA11 46 rfl
theorem kf_X12_138 : Cond.fieldLink RX12 138 "TowerAppealModel" "pence" "[I" ∈ tb := wq_at wA11 47 rfl
theorem kf_X12_141 : Cond.fieldLink RX12 141 "TowerAppealModel" "first" "[I" ∈ tb := wq_at wA11 48 rfl
theorem kf_X12_144 : Cond.fieldLink RX12 144 "TowerAppealModel" "every" "[I" ∈ tb := wq_at wA11 49 rfl
theorem kf_X12_147 : Cond.fieldLink RX12 147 "TowerAppealModel" "dues" "[I" ∈ tb := wq_at wA11 50 rfl
theorem kf_X12_150 : Cond.fieldLink RX12 150 "TowerAppealModel" "lapsedAt" "[I" ∈ tb := wq_at wA11 51 rfl
theorem kf_X12_153 : Cond.fieldLink RX12 153 "TowerAppealModel" "isLapsed" "[Z" ∈ tb := wq_at wA11 52 rfl
theorem kf_X12_156 : Cond.fieldLink RX12 156 "TowerAppealModel" "wasTakenUp" "[Z" ∈ tb := wq_at wA11 53 rfl
theorem kf_X12_159 : Cond.fieldLink RX12 159 "TowerAppealModel" "due" "[I" ∈ tb := wq_at wA11 54 rfl
theorem kf_X12_162 : Cond.fieldLink RX12 162 "TowerAppealModel" "filled" "[I" ∈ tb := wq_at wA11 55 rfl
theorem kf_X12_165 : Cond.fieldLink RX12 165 "TowerAppealModel" "isThere" "[Z" ∈ tb := wq_at wA11 56 rfl
theorem kf_X12_168 : Cond.fieldLink RX12 168 "TowerAppealModel" "counts" "[Z" ∈ tb := wq_at wA11 57 rfl
theorem kf_X12_171 : Cond.fieldLink RX12 171 "TowerAppealModel" "sumGiver" "[I" ∈ tb := wq_at wA11 58 rfl
theorem kf_X12_174 : Cond.fieldLink RX12 174 "TowerAppealModel" "sumMonth" "[I" ∈ tb := wq_at wA11 59 rfl
def wP12 : List (Nat × Cond) := [(1088, Cond.fieldLink RX12 177 "TowerAppealModel" "sumPence" "[I"), (1089, Cond.fieldLink RX12 180 "TowerAppealModel" "isClaimed" "[Z"), (1090, Cond.fieldLink RX12 183 "TowerAppealModel" "cost" "[I"), (1091, Cond.fieldLink RX12 186 "TowerAppealModel" "length" "[I"), (1092, Cond.fieldLink RX12 188 "TowerAppealModel" "parts" "[I"), (1093, Cond.fieldLink RX12 191 "TowerAppealModel" "stagePaid" "[I"), (1094, Cond.fieldLink RX12 194 "TowerAppealModel" "paused" "[I"), (1095, Cond.fieldLink RX12 289 "TowerAppealModel" "begun" "I"), (1096, Cond.fieldLink RX12 197 "TowerAppealModel" "sum" "[I"), (1097, Cond.fieldLink RX12 200 "TowerAppealModel" "stones" "[I"), (1204, Cond.superclass RX12 "java/lang/Object"), (1205, Cond.methodLink RL 17 yX12_feed), (1206, Cond.instanceMethod yX12_feed), (1207, Cond.selects RX12 yX12_feed yX12_feed), (1209, Cond.methodLink RX12 206 yX12_lay), (1211, Cond.instanceMethod yX12_lay), (1213, Cond.methodLink RL 22 yX12_end), (1214, Cond.instanceMethod yX12_end), (1215, Cond.selects RX12 yX12_end yX12_end), (1217, Cond.methodLink RX12 58 yX12_in), (1218, Cond.static yX12_in), (1220, Cond.methodLink RL 27 yX12_trust), (1221, Cond.instanceMethod yX12_trust), (1222, Cond.selects RX12 yX12_trust yX12_trust), (1224, Cond.methodLink RX12 62 yX12_scan), (1226, Cond.instanceMethod yX12_scan), (1228, Cond.methodLink RX12 27 yX12_byteAt), (1230, Cond.instanceMethod yX12_byteAt), (1232, Cond.methodLink RX12 34 yX12_isLetter), (1233, Cond.static yX12_isLetter), (1235, Cond.methodLink RX12 38 yX12_isDigit), (1236, Cond.static yX12_isDigit), (1238, Cond.methodLink RX12 209 yX12_readTrust), (1240, Cond.instanceMethod yX12_readTrust), (1242, Cond.methodLink RX12 93 yX12_key), (1244, Cond.instanceMethod yX12_key), (1247, Cond.methodLink RX12 68 yX12_is), (1249, Cond.instanceMethod yX12_is), (1251, Cond.methodLink RX12 44 yJ0_length_8abf5), (1252, Cond.methodLink RX12 50 yJ0_charAt_5068e), (1258, Cond.methodLink RX12 54 yX12_wrong), (1260, Cond.instanceMethod yX12_wrong), (1262, Cond.methodLink RX12 96 yX12_readLine), (1264, Cond.instanceMethod yX12_readLine), (1266, Cond.methodLink RX12 100 yX12_number), (1268, Cond.instanceMethod yX12_number), (1270, Cond.constant RX12 104 (999999 : Int32)), (1273, Cond.methodLink RL 31 yX12_fault), (1274, Cond.instanceMethod yX12_fault), (1275, Cond.selects RX12 yX12_fault yX12_fault), (1277, Cond.methodLink RL 35 yX12_rule), (1278, Cond.instanceMethod yX12_rule), (1279, Cond.selects RX12 yX12_rule yX12_rule), (1281, Cond.constantLong RX12 212 (8 : Int64)), (1282, Cond.methodLink RL 40 yX12_declare), (1283, Cond.instanceMethod yX12_declare), (1284, Cond.selects RX12 yX12_declare yX12_declare), (1286, Cond.methodLink RX12 218 yX12_isGiver), (1287, Cond.static yX12_isGiver), (1289, Cond.constantLong RX12 214 (29 : Int64))]
set_option maxRecDepth 100000 in
theorem wA12 : wq_k lw_tbl 0 wP12 = true := by decide +kernel
theorem kf_X12_177 : Cond.fieldLink RX12 177 "TowerAppealModel" "sumPence" "[I" ∈ tb := wq_at wA12 0 rfl
theorem kf_X12_180 : Cond.fieldLink RX12 180 "TowerAppealModel" "isClaimed" "[Z" ∈ tb := wq_at wA12 1 rfl
theorem kf_X12_183 : Cond.fieldLink RX12 183 "TowerAppealModel" "cost" "[I" ∈ tb := wq_at wA12 2 rfl
theorem kf_X12_186 : Cond.fieldLink RX12 186 "TowerAppealModel" "length" "[I" ∈ tb := wq_at wA12 3 rfl
theorem kf_X12_188 : Cond.fieldLink RX12 188 "TowerAppealModel" "parts" "[I" ∈ tb := wq_at wA12 4 rfl
theorem kf_X12_191 : Cond.fieldLink RX12 191 "TowerAppealModel" "stagePaid" "[I" ∈ tb := wq_at wA12 5 rfl
theorem kf_X12_194 : Cond.fieldLink RX12 194 "TowerAppealModel" "paused" "[I" ∈ tb := wq_at wA12 6 rfl
theorem kf_X12_289 : Cond.fieldLink RX12 289 "TowerAppealModel" "begun" "I" ∈ tb := wq_at wA12 7 rfl
theorem kf_X12_197 : Cond.fieldLink RX12 197 "TowerAppealModel" "sum" "[I" ∈ tb := wq_at wA12 8 rfl
theorem kf_X12_200 : Cond.fieldLink RX12 200 "TowerAppealModel" "stones" "[I" ∈ tb := wq_at wA12 9 rfl
theorem km_L_17 : Cond.methodLink RL 17 yX12_feed ∈ tb := wq_at wA12 11 rfl
theorem kj_X12_feed : Cond.instanceMethod yX12_feed ∈ tb := wq_at wA12 12 rfl
theorem kl_X12_feed : Cond.selects RX12 yX12_feed yX12_feed ∈ tb := wq_at wA12 13 rfl
theorem km_X12_206 : Cond.methodLink RX12 206 yX12_lay ∈ tb := wq_at wA12 14 rfl
theorem kj_X12_lay : Cond.instanceMethod yX12_lay ∈ tb := wq_at wA12 15 rfl
theorem km_L_22 : Cond.methodLink RL 22 yX12_end ∈ tb := wq_at wA12 16 rfl
theorem kj_X12_end : Cond.instanceMethod yX12_end ∈ tb := wq_at wA12 17 rfl
theorem kl_X12_end : Cond.selects RX12 yX12_end yX12_end ∈ tb := wq_at wA12 18 rfl
theorem km_X12_58 : Cond.methodLink RX12 58 yX12_in ∈ tb := wq_at wA12 19 rfl
theorem ks_X12_in : Cond.static yX12_in ∈ tb := wq_at wA12 20 rfl
theorem km_L_27 : Cond.methodLink RL 27 yX12_trust ∈ tb := wq_at wA12 21 rfl
theorem kj_X12_trust : Cond.instanceMethod yX12_trust ∈ tb := wq_at wA12 22 rfl
theorem kl_X12_trust : Cond.selects RX12 yX12_trust yX12_trust ∈ tb := wq_at wA12 23 rfl
theorem km_X12_62 : Cond.methodLink RX12 62 yX12_scan ∈ tb := wq_at wA12 24 rfl
theorem kj_X12_scan : Cond.instanceMethod yX12_scan ∈ tb := wq_at wA12 25 rfl
theorem km_X12_27 : Cond.methodLink RX12 27 yX12_byteAt ∈ tb := wq_at wA12 26 rfl
theorem kj_X12_byteAt : Cond.instanceMethod yX12_byteAt ∈ tb := wq_at wA12 27 rfl
theorem km_X12_34 : Cond.methodLink RX12 34 yX12_isLetter ∈ tb := wq_at wA12 28 rfl
theorem ks_X12_isLetter : Cond.static yX12_isLetter ∈ tb := wq_at wA12 29 rfl
theorem km_X12_38 : Cond.methodLink RX12 38 yX12_isDigit ∈ tb := wq_at wA12 30 rfl
theorem ks_X12_isDigit : Cond.static yX12_isDigit ∈ tb := wq_at wA12 31 rfl
theorem km_X12_209 : Cond.methodLink RX12 209 yX12_readTrust ∈ tb := wq_at wA12 32 rfl
theorem kj_X12_readTrust : Cond.instanceMethod yX12_readTrust ∈ tb := wq_at wA12 33 rfl
theorem km_X12_93 : Cond.methodLink RX12 93 yX12_key ∈ tb := wq_at wA12 34 rfl
theorem kj_X12_key : Cond.instanceMethod yX12_key ∈ tb := wq_at wA12 35 rfl
theorem km_X12_68 : Cond.methodLink RX12 68 yX12_is ∈ tb := wq_at wA12 36 rfl
theorem kj_X12_is : Cond.instanceMethod yX12_is ∈ tb := wq_at wA12 37 rfl
theorem km_X12_44 : Cond.methodLink RX12 44 yJ0_length_8abf5 ∈ tb := wq_at wA12 38 rfl
theorem km_X12_50 : Cond.methodLink RX12 50 yJ0_charAt_5068e ∈ tb := wq_at wA12 39 rfl
theorem km_X12_54 : Cond.methodLink RX12 54 yX12_wrong ∈ tb := wq_at wA12 40 rfl
theorem kj_X12_wrong : Cond.instanceMethod yX12_wrong ∈ tb := wq_at wA12 41 rfl
theorem km_X12_96 : Cond.methodLink RX12 96 yX12_readLine ∈ tb := wq_at wA12 42 rfl
theorem kj_X12_readLine : Cond.instanceMethod yX12_readLine ∈ tb := wq_at wA12 43 rfl
theorem km_X12_100 : Cond.methodLink RX12 100 yX12_number ∈ tb := wq_at wA12 44 rfl
theorem kj_X12_number : Cond.instanceMethod yX12_number ∈ tb := wq_at wA12 45 rfl
theorem kk_X12_104 : Cond.constant RX12 104 (999999 : Int32) ∈ tb := wq_at wA12 46 rfl
theorem km_L_31 : Cond.methodLink RL 31 yX12_fault ∈ tb := wq_at wA12 47 rfl
theorem kj_X12_fault : Cond.instanceMethod yX12_fault ∈ tb := wq_at wA12 48 rfl
theorem kl_X12_fault : Cond.selects RX12 yX12_fault yX12_fault ∈ tb := wq_at wA12 49 rfl
theorem km_L_35 : Cond.methodLink RL 35 yX12_rule ∈ tb := wq_at wA12 50 rfl
theorem kj_X12_rule : Cond.instanceMethod yX12_rule ∈ tb := wq_at wA12 51 rfl
theorem kl_X12_rule : Cond.selects RX12 yX12_rule yX12_rule ∈ tb := wq_at wA12 52 rfl
theorem kk_X12_212 : Cond.constantLong RX12 212 (8 : Int64) ∈ tb := wq_at wA12 53 rfl
theorem km_L_40 : Cond.methodLink RL 40 yX12_declare ∈ tb := wq_at wA12 54 rfl
theorem kj_X12_declare : Cond.instanceMethod yX12_declare ∈ tb := wq_at wA12 55 rfl
theorem kl_X12_declare : Cond.selects RX12 yX12_declare yX12_declare ∈ tb := wq_at wA12 56 rfl
theorem km_X12_218 : Cond.methodLink RX12 218 yX12_isGiver ∈ tb := wq_at wA12 57 rfl
theorem ks_X12_isGiver : Cond.static yX12_isGiver ∈ tb := wq_at wA12 58 rfl
theorem kk_X12_214 : Cond.constantLong RX12 214 (29 : Int64) ∈ tb := wq_at wA12 59 rfl
def wP13 : List (Nat × Cond) := [(1290, Cond.methodLink RX12 221 yX12_isMonth), (1291, Cond.static yX12_isMonth), (1293, Cond.constantLong RX12 216 (119 : Int64)), (1294, Cond.methodLink RL 45 yX12_nameless), (1295, Cond.instanceMethod yX12_nameless), (1296, Cond.selects RX12 yX12_nameless yX12_nameless), (1298, Cond.methodLink RL 49 yX12_pledge), (1299, Cond.instanceMethod yX12_pledge), (1300, Cond.selects RX12 yX12_pledge yX12_pledge), (1302, Cond.constantLong RX12 228 (100000 : Int64)), (1303, Cond.constantLong RX12 233 (12 : Int64)), (1304, Cond.constantLong RX12 235 (84 : Int64)), (1305, Cond.methodLink RX12 240 yX12_monthOf), (1307, Cond.instanceMethod yX12_monthOf), (1309, Cond.methodLink RL 54 yX12_change), (1310, Cond.instanceMethod yX12_change), (1311, Cond.selects RX12 yX12_change yX12_change), (1313, Cond.methodLink RX12 243 yX12_isPledge), (1315, Cond.instanceMethod yX12_isPledge), (1317, Cond.methodLink RL 58 yX12_pay), (1318, Cond.instanceMethod yX12_pay), (1319, Cond.selects RX12 yX12_pay yX12_pay), (1321, Cond.constantLong RX12 265 (5000000 : Int64)), (1322, Cond.methodLink RX12 267 yX12_unfilled), (1324, Cond.instanceMethod yX12_unfilled), (1326, Cond.methodLink RX12 254 yJ9_min_7cf53), (1327, Cond.methodLink RX12 270 yX12_come), (1329, Cond.instanceMethod yX12_come), (1331, Cond.constantLong RX12 249 (100 : Int64)), (1332, Cond.methodLink RX12 259 yJ9_max_7cf53), (1333, Cond.static yJ9_max_7cf53), (1335, Cond.methodLink RL 62 yX12_gift), (1336, Cond.instanceMethod yX12_gift), (1337, Cond.selects RX12 yX12_gift yX12_gift), (1339, Cond.methodLink RL 66 yX12_takeUp), (1340, Cond.instanceMethod yX12_takeUp), (1341, Cond.selects RX12 yX12_takeUp yX12_takeUp), (1343, Cond.methodLink RX12 273 yX12_toCome), (1345, Cond.instanceMethod yX12_toCome), (1347, Cond.methodLink RL 70 yX12_claim), (1348, Cond.instanceMethod yX12_claim), (1349, Cond.selects RX12 yX12_claim yX12_claim), (1351, Cond.methodLink RL 74 yX12_about), (1352, Cond.instanceMethod yX12_about), (1353, Cond.selects RX12 yX12_about yX12_about), (1355, Cond.methodLink RX12 279 yX12_overdue), (1357, Cond.instanceMethod yX12_overdue), (1359, Cond.methodLink RL 78 yX12_giver), (1360, Cond.instanceMethod yX12_giver), (1361, Cond.selects RX12 yX12_giver yX12_giver), (1363, Cond.methodLink RL 82 yX12_stage), (1364, Cond.instanceMethod yX12_stage), (1365, Cond.selects RX12 yX12_stage yX12_stage), (1367, Cond.constantLong RX12 282 (100000000 : Int64)), (1368, Cond.constantLong RX12 284 (24 : Int64)), (1369, Cond.methodLink RL 86 yX12_begin), (1370, Cond.instanceMethod yX12_begin), (1371, Cond.selects RX12 yX12_begin yX12_begin), (1373, Cond.methodLink RX12 292 yX12_runs), (1375, Cond.instanceMethod yX12_runs)]
set_option maxRecDepth 100000 in
theorem wA13 : wq_k lw_tbl 0 wP13 = true := by decide +kernel
theorem km_X12_221 : Cond.methodLink RX12 221 yX12_isMonth ∈ tb := wq_at wA13 0 rfl
theorem ks_X12_isMonth : Cond.static yX12_isMonth ∈ tb := wq_at wA13 1 rfl
theorem kk_X12_216 : Cond.constantLong RX12 216 (119 : Int64) ∈ tb := wq_at wA13 2 rfl
theorem km_L_45 : Cond.methodLink RL 45 yX12_nameless ∈ tb := wq_at wA13 3 rfl
theorem kj_X12_nameless : Cond.instanceMethod yX12_nameless ∈ tb := wq_at wA13 4 rfl
theorem kl_X12_nameless : Cond.selects RX12 yX12_nameless yX12_nameless ∈ tb := wq_at wA13 5 rfl
theorem km_L_49 : Cond.methodLink RL 49 yX12_pledge ∈ tb := wq_at wA13 6 rfl
theorem kj_X12_pledge : Cond.instanceMethod yX12_pledge ∈ tb := wq_at wA13 7 rfl
theorem kl_X12_pledge : Cond.selects RX12 yX12_pledge yX12_pledge ∈ tb := wq_at wA13 8 rfl
theorem kk_X12_228 : Cond.constantLong RX12 228 (100000 : Int64) ∈ tb := wq_at wA13 9 rfl
theorem kk_X12_233 : Cond.constantLong RX12 233 (12 : Int64) ∈ tb := wq_at wA13 10 rfl
theorem kk_X12_235 : Cond.constantLong RX12 235 (84 : Int64) ∈ tb := wq_at wA13 11 rfl
theorem km_X12_240 : Cond.methodLink RX12 240 yX12_monthOf ∈ tb := wq_at wA13 12 rfl
theorem kj_X12_monthOf : Cond.instanceMethod yX12_monthOf ∈ tb := wq_at wA13 13 rfl
theorem km_L_54 : Cond.methodLink RL 54 yX12_change ∈ tb := wq_at wA13 14 rfl
theorem kj_X12_change : Cond.instanceMethod yX12_change ∈ tb := wq_at wA13 15 rfl
theorem kl_X12_change : Cond.selects RX12 yX12_change yX12_change ∈ tb := wq_at wA13 16 rfl
theorem km_X12_243 : Cond.methodLink RX12 243 yX12_isPledge ∈ tb := wq_at wA13 17 rfl
theorem kj_X12_isPledge : Cond.instanceMethod yX12_isPledge ∈ tb := wq_at wA13 18 rfl
theorem km_L_58 : Cond.methodLink RL 58 yX12_pay ∈ tb := wq_at wA13 19 rfl
theorem kj_X12_pay : Cond.instanceMethod yX12_pay ∈ tb := wq_at wA13 20 rfl
theorem kl_X12_pay : Cond.selects RX12 yX12_pay yX12_pay ∈ tb := wq_at wA13 21 rfl
theorem kk_X12_265 : Cond.constantLong RX12 265 (5000000 : Int64) ∈ tb := wq_at wA13 22 rfl
theorem km_X12_267 : Cond.methodLink RX12 267 yX12_unfilled ∈ tb := wq_at wA13 23 rfl
theorem kj_X12_unfilled : Cond.instanceMethod yX12_unfilled ∈ tb := wq_at wA13 24 rfl
theorem km_X12_254 : Cond.methodLink RX12 254 yJ9_min_7cf53 ∈ tb := wq_at wA13 25 rfl
theorem km_X12_270 : Cond.methodLink RX12 270 yX12_come ∈ tb := wq_at wA13 26 rfl
theorem kj_X12_come : Cond.instanceMethod yX12_come ∈ tb := wq_at wA13 27 rfl
theorem kk_X12_249 : Cond.constantLong RX12 249 (100 : Int64) ∈ tb := wq_at wA13 28 rfl
theorem km_X12_259 : Cond.methodLink RX12 259 yJ9_max_7cf53 ∈ tb := wq_at wA13 29 rfl
theorem ks_J9_max_7cf53 : Cond.static yJ9_max_7cf53 ∈ tb := wq_at wA13 30 rfl
theorem km_L_62 : Cond.methodLink RL 62 yX12_gift ∈ tb := wq_at wA13 31 rfl
theorem kj_X12_gift : Cond.instanceMethod yX12_gift ∈ tb := wq_at wA13 32 rfl
theorem kl_X12_gift : Cond.selects RX12 yX12_gift yX12_gift ∈ tb := wq_at wA13 33 rfl
theorem km_L_66 : Cond.methodLink RL 66 yX12_takeUp ∈ tb := wq_at wA13 34 rfl
theorem kj_X12_takeUp : Cond.instanceMethod yX12_takeUp ∈ tb := wq_at wA13 35 rfl
theorem kl_X12_takeUp : Cond.selects RX12 yX12_takeUp yX12_takeUp ∈ tb := wq_at wA13 36 rfl
theorem km_X12_273 : Cond.methodLink RX12 273 yX12_toCome ∈ tb := wq_at wA13 37 rfl
theorem kj_X12_toCome : Cond.instanceMethod yX12_toCome ∈ tb := wq_at wA13 38 rfl
theorem km_L_70 : Cond.methodLink RL 70 yX12_claim ∈ tb := wq_at wA13 39 rfl
theorem kj_X12_claim : Cond.instanceMethod yX12_claim ∈ tb := wq_at wA13 40 rfl
theorem kl_X12_claim : Cond.selects RX12 yX12_claim yX12_claim ∈ tb := wq_at wA13 41 rfl
theorem km_L_74 : Cond.methodLink RL 74 yX12_about ∈ tb := wq_at wA13 42 rfl
theorem kj_X12_about : Cond.instanceMethod yX12_about ∈ tb := wq_at wA13 43 rfl
theorem kl_X12_about : Cond.selects RX12 yX12_about yX12_about ∈ tb := wq_at wA13 44 rfl
theorem km_X12_279 : Cond.methodLink RX12 279 yX12_overdue ∈ tb := wq_at wA13 45 rfl
theorem kj_X12_overdue : Cond.instanceMethod yX12_overdue ∈ tb := wq_at wA13 46 rfl
theorem km_L_78 : Cond.methodLink RL 78 yX12_giver ∈ tb := wq_at wA13 47 rfl
theorem kj_X12_giver : Cond.instanceMethod yX12_giver ∈ tb := wq_at wA13 48 rfl
theorem kl_X12_giver : Cond.selects RX12 yX12_giver yX12_giver ∈ tb := wq_at wA13 49 rfl
theorem km_L_82 : Cond.methodLink RL 82 yX12_stage ∈ tb := wq_at wA13 50 rfl
theorem kj_X12_stage : Cond.instanceMethod yX12_stage ∈ tb := wq_at wA13 51 rfl
theorem kl_X12_stage : Cond.selects RX12 yX12_stage yX12_stage ∈ tb := wq_at wA13 52 rfl
theorem kk_X12_282 : Cond.constantLong RX12 282 (100000000 : Int64) ∈ tb := wq_at wA13 53 rfl
theorem kk_X12_284 : Cond.constantLong RX12 284 (24 : Int64) ∈ tb := wq_at wA13 54 rfl
theorem km_L_86 : Cond.methodLink RL 86 yX12_begin ∈ tb := wq_at wA13 55 rfl
theorem kj_X12_begin : Cond.instanceMethod yX12_begin ∈ tb := wq_at wA13 56 rfl
theorem kl_X12_begin : Cond.selects RX12 yX12_begin yX12_begin ∈ tb := wq_at wA13 57 rfl
theorem km_X12_292 : Cond.methodLink RX12 292 yX12_runs ∈ tb := wq_at wA13 58 rfl
theorem kj_X12_runs : Cond.instanceMethod yX12_runs ∈ tb := wq_at wA13 59 rfl
def wP14 : List (Nat × Cond) := [(1377, Cond.methodLink RL 90 yX12_built), (1378, Cond.instanceMethod yX12_built), (1379, Cond.selects RX12 yX12_built yX12_built), (1381, Cond.methodLink RL 94 yX12_months), (1382, Cond.instanceMethod yX12_months), (1383, Cond.selects RX12 yX12_months yX12_months), (1385, Cond.methodLink RX12 311 yX12_endMonth), (1387, Cond.instanceMethod yX12_endMonth), (1389, Cond.methodLink RX12 301 yX12_lapse), (1391, Cond.instanceMethod yX12_lapse), (1393, Cond.constantLong RX12 303 (1000 : Int64)), (1394, Cond.methodLink RX12 308 yX12_build), (1396, Cond.instanceMethod yX12_build), (1398, Cond.methodLink RL 98 yX12_sure), (1399, Cond.instanceMethod yX12_sure), (1400, Cond.selects RX12 yX12_sure yX12_sure), (1402, Cond.methodLink RL 102 yX12_stone), (1403, Cond.instanceMethod yX12_stone), (1404, Cond.selects RX12 yX12_stone yX12_stone), (1406, Cond.methodLink RX12 314 yX12_carve), (1408, Cond.instanceMethod yX12_carve), (1410, Cond.methodLink RL 106 yX12_stop), (1411, Cond.instanceMethod yX12_stop), (1412, Cond.selects RX12 yX12_stop yX12_stop), (1414, Cond.methodLink RX12 317 yX12_allGiven), (1416, Cond.instanceMethod yX12_allGiven), (1418, Cond.methodLink RL 110 yX12_back), (1419, Cond.instanceMethod yX12_back), (1420, Cond.selects RX12 yX12_back yX12_back), (1422, Cond.methodLink RL 114 yX12_count), (1423, Cond.instanceMethod yX12_count), (1424, Cond.selects RX12 yX12_count yX12_count), (1427, Cond.fieldLink RJ0 9 "java/lang/String" "value" "[B"), (1428, Cond.fieldLink RJ0 15 "java/lang/String" "coder" "B")]
set_option maxRecDepth 100000 in
theorem wA14 : wq_k lw_tbl 0 wP14 = true := by decide +kernel
theorem km_L_90 : Cond.methodLink RL 90 yX12_built ∈ tb := wq_at wA14 0 rfl
theorem kj_X12_built : Cond.instanceMethod yX12_built ∈ tb := wq_at wA14 1 rfl
theorem kl_X12_built : Cond.selects RX12 yX12_built yX12_built ∈ tb := wq_at wA14 2 rfl
theorem km_L_94 : Cond.methodLink RL 94 yX12_months ∈ tb := wq_at wA14 3 rfl
theorem kj_X12_months : Cond.instanceMethod yX12_months ∈ tb := wq_at wA14 4 rfl
theorem kl_X12_months : Cond.selects RX12 yX12_months yX12_months ∈ tb := wq_at wA14 5 rfl
theorem km_X12_311 : Cond.methodLink RX12 311 yX12_endMonth ∈ tb := wq_at wA14 6 rfl
theorem kj_X12_endMonth : Cond.instanceMethod yX12_endMonth ∈ tb := wq_at wA14 7 rfl
theorem km_X12_301 : Cond.methodLink RX12 301 yX12_lapse ∈ tb := wq_at wA14 8 rfl
theorem kj_X12_lapse : Cond.instanceMethod yX12_lapse ∈ tb := wq_at wA14 9 rfl
theorem kk_X12_303 : Cond.constantLong RX12 303 (1000 : Int64) ∈ tb := wq_at wA14 10 rfl
theorem km_X12_308 : Cond.methodLink RX12 308 yX12_build ∈ tb := wq_at wA14 11 rfl
theorem kj_X12_build : Cond.instanceMethod yX12_build ∈ tb := wq_at wA14 12 rfl
theorem km_L_98 : Cond.methodLink RL 98 yX12_sure ∈ tb := wq_at wA14 13 rfl
theorem kj_X12_sure : Cond.instanceMethod yX12_sure ∈ tb := wq_at wA14 14 rfl
theorem kl_X12_sure : Cond.selects RX12 yX12_sure yX12_sure ∈ tb := wq_at wA14 15 rfl
theorem km_L_102 : Cond.methodLink RL 102 yX12_stone ∈ tb := wq_at wA14 16 rfl
theorem kj_X12_stone : Cond.instanceMethod yX12_stone ∈ tb := wq_at wA14 17 rfl
theorem kl_X12_stone : Cond.selects RX12 yX12_stone yX12_stone ∈ tb := wq_at wA14 18 rfl
theorem km_X12_314 : Cond.methodLink RX12 314 yX12_carve ∈ tb := wq_at wA14 19 rfl
theorem kj_X12_carve : Cond.instanceMethod yX12_carve ∈ tb := wq_at wA14 20 rfl
theorem km_L_106 : Cond.methodLink RL 106 yX12_stop ∈ tb := wq_at wA14 21 rfl
theorem kj_X12_stop : Cond.instanceMethod yX12_stop ∈ tb := wq_at wA14 22 rfl
theorem kl_X12_stop : Cond.selects RX12 yX12_stop yX12_stop ∈ tb := wq_at wA14 23 rfl
theorem km_X12_317 : Cond.methodLink RX12 317 yX12_allGiven ∈ tb := wq_at wA14 24 rfl
theorem kj_X12_allGiven : Cond.instanceMethod yX12_allGiven ∈ tb := wq_at wA14 25 rfl
theorem km_L_110 : Cond.methodLink RL 110 yX12_back ∈ tb := wq_at wA14 26 rfl
theorem kj_X12_back : Cond.instanceMethod yX12_back ∈ tb := wq_at wA14 27 rfl
theorem kl_X12_back : Cond.selects RX12 yX12_back yX12_back ∈ tb := wq_at wA14 28 rfl
theorem km_L_114 : Cond.methodLink RL 114 yX12_count ∈ tb := wq_at wA14 29 rfl
theorem kj_X12_count : Cond.instanceMethod yX12_count ∈ tb := wq_at wA14 30 rfl
theorem kl_X12_count : Cond.selects RX12 yX12_count yX12_count ∈ tb := wq_at wA14 31 rfl
theorem kf_J0_9 : Cond.fieldLink RJ0 9 "java/lang/String" "value" "[B" ∈ tb := wq_at wA14 32 rfl
theorem kf_J0_15 : Cond.fieldLink RJ0 15 "java/lang/String" "coder" "B" ∈ tb := wq_at wA14 33 rfl
set_option maxRecDepth 100000 in
theorem kd_X10_init : Cond.code yX10_init cX10_init 1 none ∈ tb := tb_mem 62 rfl rfl
set_option maxRecDepth 100000 in
theorem kd_objectInit : Cond.code objectInit ⟨#[0xb1]⟩ 1 none ∈ tb := tb_mem 65 rfl rfl
set_option maxRecDepth 100000 in
theorem kd_X6_init : Cond.code yX6_init cX6_init 1 none ∈ tb := tb_mem 70 rfl rfl
set_option maxRecDepth 100000 in
theorem kd_X9_init : Cond.code yX9_init cX9_init 1 none ∈ tb := tb_mem 84 rfl rfl
set_option maxRecDepth 100000 in
theorem kd_X8_init : Cond.code yX8_init cX8_init 1 none ∈ tb := tb_mem 90 rfl rfl
set_option maxRecDepth 100000 in
theorem kd_X0_init : Cond.code yX0_init cX0_init 2 none ∈ tb := tb_mem 134 rfl rfl
set_option maxRecDepth 100000 in
theorem kd_X2_init : Cond.code yX2_init cX2_init 1 none ∈ tb := tb_mem 159 rfl rfl
set_option maxRecDepth 100000 in
theorem kd_X5_init : Cond.code yX5_init cX5_init 1 none ∈ tb := tb_mem 174 rfl rfl
set_option maxRecDepth 100000 in
theorem kd_X3_init : Cond.code yX3_init cX3_init 1 none ∈ tb := tb_mem 199 rfl rfl
set_option maxRecDepth 100000 in
theorem kd_X7_init : Cond.code yX7_init cX7_init 1 none ∈ tb := tb_mem 224 rfl rfl
set_option maxRecDepth 100000 in
theorem kd_X10_feed : Cond.code yX10_feed cX10_feed 6 (some .int) ∈ tb := tb_mem 272 rfl rfl
set_option maxRecDepth 100000 in
theorem kd_X6_hasRoomForTwenty : Cond.code yX6_hasRoomForTwenty cX6_hasRoomForTwenty 1 (some .boolean) ∈ tb := tb_mem 276 rfl rfl
set_option maxRecDepth 100000 in
theorem kd_X6_putFour : Cond.code yX6_putFour cX6_putFour 3 none ∈ tb := tb_mem 280 rfl rfl
set_option maxRecDepth 100000 in
theorem kd_X6_length : Cond.code yX6_length cX6_length 1 (some .int) ∈ tb := tb_mem 284 rfl rfl
set_option maxRecDepth 100000 in
theorem kd_X10_end : Cond.code yX10_end cX10_end 2 (some .int) ∈ tb := tb_mem 288 rfl rfl
set_option maxRecDepth 100000 in
theorem kd_X6_cutTo : Cond.code yX6_cutTo cX6_cutTo 2 none ∈ tb := tb_mem 292 rfl rfl
set_option maxRecDepth 100000 in
theorem kd_X10_trust : Cond.code yX10_trust cX10_trust 2 (some .int) ∈ tb := tb_mem 296 rfl rfl
set_option maxRecDepth 100000 in
theorem kd_X9_read : Cond.code yX9_read cX9_read 4 (some .int) ∈ tb := tb_mem 300 rfl rfl
set_option maxRecDepth 100000 in
theorem kd_X9_startAnew : Cond.code yX9_startAnew cX9_startAnew 2 none ∈ tb := tb_mem 304 rfl rfl
set_option maxRecDepth 100000 in
theorem kd_X8_forget : Cond.code yX8_forget cX8_forget 1 none ∈ tb := tb_mem 308 rfl rfl
set_option maxRecDepth 100000 in
theorem kd_X9_readToken : Cond.code yX9_readToken cX9_readToken 3 none ∈ tb := tb_mem 312 rfl rfl
set_option maxRecDepth 100000 in
theorem kd_X6_at : Cond.code yX6_at cX6_at 2 (some .int) ∈ tb := tb_mem 317 rfl rfl
set_option maxRecDepth 100000 in
theorem kd_X9_isBlank : Cond.code yX9_isBlank cX9_isBlank 1 (some .boolean) ∈ tb := tb_mem 320 rfl rfl
set_option maxRecDepth 100000 in
theorem kd_X9_isLetter : Cond.code yX9_isLetter cX9_isLetter 1 (some .boolean) ∈ tb := tb_mem 323 rfl rfl
set_option maxRecDepth 100000 in
theorem kd_X9_readWord : Cond.code yX9_readWord cX9_readWord 2 none ∈ tb := tb_mem 327 rfl rfl
set_option maxRecDepth 100000 in
theorem kd_X9_isDigit : Cond.code yX9_isDigit cX9_isDigit 1 (some .boolean) ∈ tb := tb_mem 330 rfl rfl
set_option maxRecDepth 100000 in
theorem kd_X9_readNumber : Cond.code yX9_readNumber cX9_readNumber 2 none ∈ tb := tb_mem 334 rfl rfl
set_option maxRecDepth 100000 in
theorem kd_X9_readLine : Cond.code yX9_readLine cX9_readLine 3 none ∈ tb := tb_mem 338 rfl rfl
set_option maxRecDepth 100000 in
theorem kd_X9_lineOfWord : Cond.code yX9_lineOfWord cX9_lineOfWord 2 (some .int) ∈ tb := tb_mem 342 rfl rfl
set_option maxRecDepth 100000 in
theorem kd_X9_isWord : Cond.code yX9_isWord cX9_isWord 4 (some .boolean) ∈ tb := tb_mem 347 rfl rfl
set_option maxRecDepth 100000 in
theorem kd_J0_length_8abf5 : Cond.code yJ0_length_8abf5 cJ0_length_8abf5 1 (some .int) ∈ tb := tb_mem 351 rfl rfl
set_option maxRecDepth 100000 in
theorem kd_J0_coder_7d493 : Cond.code yJ0_coder_7d493 cJ0_coder_7d493 1 (some .byte) ∈ tb := tb_mem 355 rfl rfl
set_option maxRecDepth 100000 in
theorem kd_J0_charAt_5068e : Cond.code yJ0_charAt_5068e cJ0_charAt_5068e 2 (some .char) ∈ tb := tb_mem 361 rfl rfl
set_option maxRecDepth 100000 in
theorem kd_J0_isLatin1_aae02 : Cond.code yJ0_isLatin1_aae02 cJ0_isLatin1_aae02 1 (some .boolean) ∈ tb := tb_mem 365 rfl rfl
set_option maxRecDepth 100000 in
theorem kd_J1_charAt_3b067 : Cond.code yJ1_charAt_3b067 cJ1_charAt_3b067 2 (some .char) ∈ tb := tb_mem 368 rfl rfl
set_option maxRecDepth 100000 in
theorem kd_J0_checkIndex_df160 : Cond.code yJ0_checkIndex_df160 cJ0_checkIndex_df160 2 none ∈ tb := tb_mem 371 rfl rfl
set_option maxRecDepth 100000 in
theorem kd_J3_checkIndex_8e157 : Cond.code yJ3_checkIndex_8e157 cJ3_checkIndex_8e157 3 (some .int) ∈ tb := tb_mem 376 rfl rfl
set_option maxRecDepth 100000 in
theorem kd_X9_refuse : Cond.code yX9_refuse cX9_refuse 2 none ∈ tb := tb_mem 404 rfl rfl
set_option maxRecDepth 100000 in
theorem kd_X9_readStop : Cond.code yX9_readStop cX9_readStop 2 none ∈ tb := tb_mem 408 rfl rfl
set_option maxRecDepth 100000 in
theorem kd_X8_put : Cond.code yX8_put cX8_put 3 none ∈ tb := tb_mem 413 rfl rfl
set_option maxRecDepth 100000 in
theorem kd_X9_readNumbers : Cond.code yX9_readNumbers cX9_readNumbers 6 none ∈ tb := tb_mem 418 rfl rfl
set_option maxRecDepth 100000 in
theorem kd_X9_isInBounds : Cond.code yX9_isInBounds cX9_isInBounds 2 (some .boolean) ∈ tb := tb_mem 425 rfl rfl
set_option maxRecDepth 100000 in
theorem kd_X9_draft : Cond.code yX9_draft cX9_draft 1 (some (.object "TowerAppeal$Trust")) ∈ tb := tb_mem 433 rfl rfl
set_option maxRecDepth 100000 in
theorem kd_X8_takeOver : Cond.code yX8_takeOver cX8_takeOver 2 none ∈ tb := tb_mem 437 rfl rfl
set_option maxRecDepth 100000 in
theorem kd_X10_fault : Cond.code yX10_fault cX10_fault 2 (some .int) ∈ tb := tb_mem 441 rfl rfl
set_option maxRecDepth 100000 in
theorem kd_X9_faultKind : Cond.code yX9_faultKind cX9_faultKind 1 (some .int) ∈ tb := tb_mem 445 rfl rfl
set_option maxRecDepth 100000 in
theorem kd_X9_faultPlace : Cond.code yX9_faultPlace cX9_faultPlace 1 (some .int) ∈ tb := tb_mem 449 rfl rfl
set_option maxRecDepth 100000 in
theorem kd_X10_rule : Cond.code yX10_rule cX10_rule 2 (some .int) ∈ tb := tb_mem 453 rfl rfl
set_option maxRecDepth 100000 in
theorem kd_X8_at : Cond.code yX8_at cX8_at 2 (some .int) ∈ tb := tb_mem 457 rfl rfl
set_option maxRecDepth 100000 in
theorem kd_X10_declare : Cond.code yX10_declare cX10_declare 4 (some .int) ∈ tb := tb_mem 461 rfl rfl
set_option maxRecDepth 100000 in
theorem kd_X10_isGiver : Cond.code yX10_isGiver cX10_isGiver 1 (some .boolean) ∈ tb := tb_mem 464 rfl rfl
set_option maxRecDepth 100000 in
theorem kd_X0_setDeclaration : Cond.code yX0_setDeclaration cX0_setDeclaration 4 none ∈ tb := tb_mem 468 rfl rfl
set_option maxRecDepth 100000 in
theorem kd_X10_nameless : Cond.code yX10_nameless cX10_nameless 3 (some .int) ∈ tb := tb_mem 473 rfl rfl
set_option maxRecDepth 100000 in
theorem kd_X0_setWithoutName : Cond.code yX0_setWithoutName cX0_setWithoutName 3 (some .boolean) ∈ tb := tb_mem 477 rfl rfl
set_option maxRecDepth 100000 in
theorem kd_X10_pledge : Cond.code yX10_pledge cX10_pledge 6 (some .int) ∈ tb := tb_mem 481 rfl rfl
set_option maxRecDepth 100000 in
theorem kd_X10_isWithin : Cond.code yX10_isWithin cX10_isWithin 3 (some .boolean) ∈ tb := tb_mem 485 rfl rfl
set_option maxRecDepth 100000 in
theorem kd_X2_isFull : Cond.code yX2_isFull cX2_isFull 1 (some .boolean) ∈ tb := tb_mem 489 rfl rfl
set_option maxRecDepth 100000 in
theorem kd_X1_init : Cond.code yX1_init cX1_init 7 none ∈ tb := tb_mem 494 rfl rfl
set_option maxRecDepth 100000 in
theorem kd_X1_duesThatCome : Cond.code yX1_duesThatCome cX1_duesThatCome 5 (some .int) ∈ tb := tb_mem 498 rfl rfl
set_option maxRecDepth 100000 in
theorem kd_X2_add : Cond.code yX2_add cX2_add 2 (some .int) ∈ tb := tb_mem 539 rfl rfl
set_option maxRecDepth 100000 in
theorem kd_X10_change : Cond.code yX10_change cX10_change 4 (some .int) ∈ tb := tb_mem 543 rfl rfl
set_option maxRecDepth 100000 in
theorem kd_X2_at : Cond.code yX2_at cX2_at 2 (some (.object "TowerAppeal$Pledge")) ∈ tb := tb_mem 547 rfl rfl
set_option maxRecDepth 100000 in
theorem kd_X1_isLapsed : Cond.code yX1_isLapsed cX1_isLapsed 1 (some .boolean) ∈ tb := tb_mem 551 rfl rfl
set_option maxRecDepth 100000 in
theorem kd_X1_setPence : Cond.code yX1_setPence cX1_setPence 4 none ∈ tb := tb_mem 555 rfl rfl
set_option maxRecDepth 100000 in
theorem kd_X1_monthOf : Cond.code yX1_monthOf cX1_monthOf 2 (some .int) ∈ tb := tb_mem 559 rfl rfl
set_option maxRecDepth 100000 in
theorem kd_X10_pay : Cond.code yX10_pay cX10_pay 4 (some .int) ∈ tb := tb_mem 563 rfl rfl
set_option maxRecDepth 100000 in
theorem kd_X10_isSum : Cond.code yX10_isSum cX10_isSum 1 (some .boolean) ∈ tb := tb_mem 566 rfl rfl
set_option maxRecDepth 100000 in
theorem kd_X1_unfilled : Cond.code yX1_unfilled cX1_unfilled 1 (some .int) ∈ tb := tb_mem 571 rfl rfl
set_option maxRecDepth 100000 in
theorem kd_X1_unfilledWithin : Cond.code yX1_unfilledWithin cX1_unfilledWithin 5 (some .int) ∈ tb := tb_mem 575 rfl rfl
set_option maxRecDepth 100000 in
theorem kd_X5_isFull : Cond.code yX5_isFull cX5_isFull 1 (some .boolean) ∈ tb := tb_mem 579 rfl rfl
set_option maxRecDepth 100000 in
theorem kd_X1_fill : Cond.code yX1_fill cX1_fill 5 none ∈ tb := tb_mem 583 rfl rfl
set_option maxRecDepth 100000 in
theorem kd_J9_min_7cf53 : Cond.code yJ9_min_7cf53 cJ9_min_7cf53 2 (some .int) ∈ tb := tb_mem 586 rfl rfl
set_option maxRecDepth 100000 in
theorem kd_X1_giverNumber : Cond.code yX1_giverNumber cX1_giverNumber 1 (some .int) ∈ tb := tb_mem 590 rfl rfl
set_option maxRecDepth 100000 in
theorem kd_X10_receive : Cond.code yX10_receive cX10_receive 3 (some .int) ∈ tb := tb_mem 594 rfl rfl
set_option maxRecDepth 100000 in
theorem kd_X5_add : Cond.code yX5_add cX5_add 4 none ∈ tb := tb_mem 598 rfl rfl
set_option maxRecDepth 100000 in
theorem kd_X3_takeSum : Cond.code yX3_takeSum cX3_takeSum 10 (some .int) ∈ tb := tb_mem 602 rfl rfl
set_option maxRecDepth 100000 in
theorem kd_X8_matchTill : Cond.code yX8_matchTill cX8_matchTill 1 (some .int) ∈ tb := tb_mem 606 rfl rfl
set_option maxRecDepth 100000 in
theorem kd_X8_matchHundredths : Cond.code yX8_matchHundredths cX8_matchHundredths 1 (some .int) ∈ tb := tb_mem 610 rfl rfl
set_option maxRecDepth 100000 in
theorem kd_X8_matchCapPence : Cond.code yX8_matchCapPence cX8_matchCapPence 1 (some .int) ∈ tb := tb_mem 615 rfl rfl
set_option maxRecDepth 100000 in
theorem kd_J9_max_f86c9 : Cond.code yJ9_max_f86c9 cJ9_max_f86c9 4 (some .long) ∈ tb := tb_mem 618 rfl rfl
set_option maxRecDepth 100000 in
theorem kd_J9_min_f86c9 : Cond.code yJ9_min_f86c9 cJ9_min_f86c9 4 (some .long) ∈ tb := tb_mem 621 rfl rfl
set_option maxRecDepth 100000 in
theorem kd_X10_gift : Cond.code yX10_gift cX10_gift 3 (some .int) ∈ tb := tb_mem 625 rfl rfl
set_option maxRecDepth 100000 in
theorem kd_X10_takeUp : Cond.code yX10_takeUp cX10_takeUp 3 (some .int) ∈ tb := tb_mem 629 rfl rfl
set_option maxRecDepth 100000 in
theorem kd_X1_mayBeTakenUp : Cond.code yX1_mayBeTakenUp cX1_mayBeTakenUp 1 (some .boolean) ∈ tb := tb_mem 633 rfl rfl
set_option maxRecDepth 100000 in
theorem kd_X1_standAgain : Cond.code yX1_standAgain cX1_standAgain 3 none ∈ tb := tb_mem 637 rfl rfl
set_option maxRecDepth 100000 in
theorem kd_X1_duesToCome : Cond.code yX1_duesToCome cX1_duesToCome 4 (some .int) ∈ tb := tb_mem 641 rfl rfl
set_option maxRecDepth 100000 in
theorem kd_X10_claim : Cond.code yX10_claim cX10_claim 2 (some .int) ∈ tb := tb_mem 645 rfl rfl
set_option maxRecDepth 100000 in
theorem kd_X8_taxHundredths : Cond.code yX8_taxHundredths cX8_taxHundredths 1 (some .int) ∈ tb := tb_mem 649 rfl rfl
set_option maxRecDepth 100000 in
theorem kd_X5_claimTax : Cond.code yX5_claimTax cX5_claimTax 6 (some .int) ∈ tb := tb_mem 653 rfl rfl
set_option maxRecDepth 100000 in
theorem kd_X0_hasDeclared : Cond.code yX0_hasDeclared cX0_hasDeclared 3 (some .boolean) ∈ tb := tb_mem 657 rfl rfl
set_option maxRecDepth 100000 in
theorem kd_X3_takeTax : Cond.code yX3_takeTax cX3_takeTax 2 none ∈ tb := tb_mem 662 rfl rfl
set_option maxRecDepth 100000 in
theorem kd_X10_about : Cond.code yX10_about cX10_about 4 (some .int) ∈ tb := tb_mem 666 rfl rfl
set_option maxRecDepth 100000 in
theorem kd_X1_penceToCome : Cond.code yX1_penceToCome cX1_penceToCome 1 (some .int) ∈ tb := tb_mem 670 rfl rfl
set_option maxRecDepth 100000 in
theorem kd_X1_overdue : Cond.code yX1_overdue cX1_overdue 4 (some .int) ∈ tb := tb_mem 674 rfl rfl
set_option maxRecDepth 100000 in
theorem kd_X1_filledInAll : Cond.code yX1_filledInAll cX1_filledInAll 1 (some .int) ∈ tb := tb_mem 678 rfl rfl
set_option maxRecDepth 100000 in
theorem kd_X1_firstLapse : Cond.code yX1_firstLapse cX1_firstLapse 1 (some .int) ∈ tb := tb_mem 682 rfl rfl
set_option maxRecDepth 100000 in
theorem kd_X1_nextDue : Cond.code yX1_nextDue cX1_nextDue 3 (some .int) ∈ tb := tb_mem 686 rfl rfl
set_option maxRecDepth 100000 in
theorem kd_X10_giver : Cond.code yX10_giver cX10_giver 3 (some .int) ∈ tb := tb_mem 690 rfl rfl
set_option maxRecDepth 100000 in
theorem kd_X5_givenBy : Cond.code yX5_givenBy cX5_givenBy 4 (some .int) ∈ tb := tb_mem 694 rfl rfl
set_option maxRecDepth 100000 in
theorem kd_X5_unclaimedOf : Cond.code yX5_unclaimedOf cX5_unclaimedOf 4 (some .int) ∈ tb := tb_mem 698 rfl rfl
set_option maxRecDepth 100000 in
theorem kd_X0_declaredFrom : Cond.code yX0_declaredFrom cX0_declaredFrom 2 (some .int) ∈ tb := tb_mem 702 rfl rfl
set_option maxRecDepth 100000 in
theorem kd_X0_declaredTo : Cond.code yX0_declaredTo cX0_declaredTo 2 (some .int) ∈ tb := tb_mem 706 rfl rfl
set_option maxRecDepth 100000 in
theorem kd_X0_isWithoutName : Cond.code yX0_isWithoutName cX0_isWithoutName 2 (some .boolean) ∈ tb := tb_mem 710 rfl rfl
set_option maxRecDepth 100000 in
theorem kd_X10_stage : Cond.code yX10_stage cX10_stage 3 (some .int) ∈ tb := tb_mem 714 rfl rfl
set_option maxRecDepth 100000 in
theorem kd_X7_isFull : Cond.code yX7_isFull cX7_isFull 1 (some .boolean) ∈ tb := tb_mem 719 rfl rfl
set_option maxRecDepth 100000 in
theorem kd_X4_init : Cond.code yX4_init cX4_init 3 none ∈ tb := tb_mem 724 rfl rfl
set_option maxRecDepth 100000 in
theorem kd_X7_add : Cond.code yX7_add cX7_add 2 (some .int) ∈ tb := tb_mem 748 rfl rfl
set_option maxRecDepth 100000 in
theorem kd_X10_begin : Cond.code yX10_begin cX10_begin 1 (some .int) ∈ tb := tb_mem 752 rfl rfl
set_option maxRecDepth 100000 in
theorem kd_X7_mayStartNext : Cond.code yX7_mayStartNext cX7_mayStartNext 1 (some .boolean) ∈ tb := tb_mem 756 rfl rfl
set_option maxRecDepth 100000 in
theorem kd_X7_running : Cond.code yX7_running cX7_running 2 (some (.object "TowerAppeal$Stage")) ∈ tb := tb_mem 760 rfl rfl
set_option maxRecDepth 100000 in
theorem kd_X7_at : Cond.code yX7_at cX7_at 2 (some (.object "TowerAppeal$Stage")) ∈ tb := tb_mem 764 rfl rfl
set_option maxRecDepth 100000 in
theorem kd_X4_runs : Cond.code yX4_runs cX4_runs 1 (some .boolean) ∈ tb := tb_mem 768 rfl rfl
set_option maxRecDepth 100000 in
theorem kd_X7_startNext : Cond.code yX7_startNext cX7_startNext 2 (some .int) ∈ tb := tb_mem 772 rfl rfl
set_option maxRecDepth 100000 in
theorem kd_X4_start : Cond.code yX4_start cX4_start 1 none ∈ tb := tb_mem 776 rfl rfl
set_option maxRecDepth 100000 in
theorem kd_X10_built : Cond.code yX10_built cX10_built 4 (some .int) ∈ tb := tb_mem 780 rfl rfl
set_option maxRecDepth 100000 in
theorem kd_X4_cost : Cond.code yX4_cost cX4_cost 1 (some .int) ∈ tb := tb_mem 785 rfl rfl
set_option maxRecDepth 100000 in
theorem kd_X4_parts : Cond.code yX4_parts cX4_parts 1 (some .int) ∈ tb := tb_mem 789 rfl rfl
set_option maxRecDepth 100000 in
theorem kd_X4_progress : Cond.code yX4_progress cX4_progress 1 (some .int) ∈ tb := tb_mem 793 rfl rfl
set_option maxRecDepth 100000 in
theorem kd_X4_paid : Cond.code yX4_paid cX4_paid 1 (some .int) ∈ tb := tb_mem 797 rfl rfl
set_option maxRecDepth 100000 in
theorem kd_X4_paused : Cond.code yX4_paused cX4_paused 1 (some .int) ∈ tb := tb_mem 801 rfl rfl
set_option maxRecDepth 100000 in
theorem kd_X10_months : Cond.code yX10_months cX10_months 3 (some .int) ∈ tb := tb_mem 805 rfl rfl
set_option maxRecDepth 100000 in
theorem kd_X10_endMonth : Cond.code yX10_endMonth cX10_endMonth 1 none ∈ tb := tb_mem 809 rfl rfl
set_option maxRecDepth 100000 in
theorem kd_X8_lapseDues : Cond.code yX8_lapseDues cX8_lapseDues 1 (some .int) ∈ tb := tb_mem 813 rfl rfl
set_option maxRecDepth 100000 in
theorem kd_X2_lapseAll : Cond.code yX2_lapseAll cX2_lapseAll 5 none ∈ tb := tb_mem 817 rfl rfl
set_option maxRecDepth 100000 in
theorem kd_X1_lapseIn : Cond.code yX1_lapseIn cX1_lapseIn 3 none ∈ tb := tb_mem 823 rfl rfl
set_option maxRecDepth 100000 in
theorem kd_X8_loanThousandths : Cond.code yX8_loanThousandths cX8_loanThousandths 1 (some .int) ∈ tb := tb_mem 827 rfl rfl
set_option maxRecDepth 100000 in
theorem kd_X3_growLoan : Cond.code yX3_growLoan cX3_growLoan 4 none ∈ tb := tb_mem 831 rfl rfl
set_option maxRecDepth 100000 in
theorem kd_X8_loanPence : Cond.code yX8_loanPence cX8_loanPence 1 (some .int) ∈ tb := tb_mem 836 rfl rfl
set_option maxRecDepth 100000 in
theorem kd_X7_payPart : Cond.code yX7_payPart cX7_payPart 5 none ∈ tb := tb_mem 840 rfl rfl
set_option maxRecDepth 100000 in
theorem kd_X4_nextPart : Cond.code yX4_nextPart cX4_nextPart 1 (some .int) ∈ tb := tb_mem 844 rfl rfl
set_option maxRecDepth 100000 in
theorem kd_X3_paysPart : Cond.code yX3_paysPart cX3_paysPart 7 (some .boolean) ∈ tb := tb_mem 848 rfl rfl
set_option maxRecDepth 100000 in
theorem kd_X4_bookPart : Cond.code yX4_bookPart cX4_bookPart 2 none ∈ tb := tb_mem 852 rfl rfl
set_option maxRecDepth 100000 in
theorem kd_X4_bookPause : Cond.code yX4_bookPause cX4_bookPause 1 none ∈ tb := tb_mem 856 rfl rfl
set_option maxRecDepth 100000 in
theorem kd_X3_payBackLoan : Cond.code yX3_payBackLoan cX3_payBackLoan 3 none ∈ tb := tb_mem 860 rfl rfl
set_option maxRecDepth 100000 in
theorem kd_X10_sure : Cond.code yX10_sure cX10_sure 2 (some .int) ∈ tb := tb_mem 864 rfl rfl
set_option maxRecDepth 100000 in
theorem kd_X2_sureWithin : Cond.code yX2_sureWithin cX2_sureWithin 11 (some .int) ∈ tb := tb_mem 868 rfl rfl
set_option maxRecDepth 100000 in
theorem kd_X1_dueSoFar : Cond.code yX1_dueSoFar cX1_dueSoFar 4 (some .int) ∈ tb := tb_mem 873 rfl rfl
set_option maxRecDepth 100000 in
theorem kd_X1_filledSoFar : Cond.code yX1_filledSoFar cX1_filledSoFar 4 (some .int) ∈ tb := tb_mem 877 rfl rfl
set_option maxRecDepth 100000 in
theorem kd_X10_stone : Cond.code yX10_stone cX10_stone 3 (some .int) ∈ tb := tb_mem 881 rfl rfl
set_option maxRecDepth 100000 in
theorem kd_X8_stonePence : Cond.code yX8_stonePence cX8_stonePence 1 (some .int) ∈ tb := tb_mem 885 rfl rfl
set_option maxRecDepth 100000 in
theorem kd_X0_orderStones : Cond.code yX0_orderStones cX0_orderStones 8 (some .int) ∈ tb := tb_mem 889 rfl rfl
set_option maxRecDepth 100000 in
theorem kd_X5_size : Cond.code yX5_size cX5_size 1 (some .int) ∈ tb := tb_mem 893 rfl rfl
set_option maxRecDepth 100000 in
theorem kd_X5_giverOf : Cond.code yX5_giverOf cX5_giverOf 2 (some .int) ∈ tb := tb_mem 897 rfl rfl
set_option maxRecDepth 100000 in
theorem kd_X5_penceOf : Cond.code yX5_penceOf cX5_penceOf 2 (some .int) ∈ tb := tb_mem 901 rfl rfl
set_option maxRecDepth 100000 in
theorem kd_X0_ofStone : Cond.code yX0_ofStone cX0_ofStone 2 (some .int) ∈ tb := tb_mem 905 rfl rfl
set_option maxRecDepth 100000 in
theorem kd_X10_stop : Cond.code yX10_stop cX10_stop 2 (some .int) ∈ tb := tb_mem 909 rfl rfl
set_option maxRecDepth 100000 in
theorem kd_X3_coin : Cond.code yX3_coin cX3_coin 1 (some .long) ∈ tb := tb_mem 913 rfl rfl
set_option maxRecDepth 100000 in
theorem kd_X8_givesAllBack : Cond.code yX8_givesAllBack cX8_givesAllBack 1 (some .boolean) ∈ tb := tb_mem 917 rfl rfl
set_option maxRecDepth 100000 in
theorem kd_X0_partCoin : Cond.code yX0_partCoin cX0_partCoin 11 (some .int) ∈ tb := tb_mem 921 rfl rfl
set_option maxRecDepth 100000 in
theorem kd_X5_total : Cond.code yX5_total cX5_total 1 (some .long) ∈ tb := tb_mem 925 rfl rfl
set_option maxRecDepth 100000 in
theorem kd_X3_giveBack : Cond.code yX3_giveBack cX3_giveBack 2 none ∈ tb := tb_mem 930 rfl rfl
set_option maxRecDepth 100000 in
theorem kd_X10_back : Cond.code yX10_back cX10_back 2 (some .int) ∈ tb := tb_mem 934 rfl rfl
set_option maxRecDepth 100000 in
theorem kd_X0_gotBack : Cond.code yX0_gotBack cX0_gotBack 2 (some .int) ∈ tb := tb_mem 938 rfl rfl
set_option maxRecDepth 100000 in
theorem kd_X10_count : Cond.code yX10_count cX10_count 2 (some .int) ∈ tb := tb_mem 942 rfl rfl
set_option maxRecDepth 100000 in
theorem kd_X3_loan : Cond.code yX3_loan cX3_loan 1 (some .long) ∈ tb := tb_mem 946 rfl rfl
set_option maxRecDepth 100000 in
theorem kd_X3_matched : Cond.code yX3_matched cX3_matched 1 (some .long) ∈ tb := tb_mem 951 rfl rfl
set_option maxRecDepth 100000 in
theorem kd_X3_tax : Cond.code yX3_tax cX3_tax 1 (some .long) ∈ tb := tb_mem 955 rfl rfl
set_option maxRecDepth 100000 in
theorem kd_X3_paidForStages : Cond.code yX3_paidForStages cX3_paidForStages 1 (some .long) ∈ tb := tb_mem 959 rfl rfl
set_option maxRecDepth 100000 in
theorem kd_X3_grown : Cond.code yX3_grown cX3_grown 1 (some .long) ∈ tb := tb_mem 963 rfl rfl
set_option maxRecDepth 100000 in
theorem kd_X2_size : Cond.code yX2_size cX2_size 1 (some .int) ∈ tb := tb_mem 967 rfl rfl
set_option maxRecDepth 100000 in
theorem kd_X2_lapsedNow : Cond.code yX2_lapsedNow cX2_lapsedNow 4 (some .int) ∈ tb := tb_mem 971 rfl rfl
set_option maxRecDepth 100000 in
theorem kd_X7_size : Cond.code yX7_size cX7_size 1 (some .int) ∈ tb := tb_mem 976 rfl rfl
set_option maxRecDepth 100000 in
theorem kd_X12_init : Cond.code yX12_init cX12_init 2 none ∈ tb := tb_mem 982 rfl rfl
set_option maxRecDepth 100000 in
theorem kd_X11_init : Cond.code yX11_init cX11_init 1 none ∈ tb := tb_mem 1023 rfl rfl
set_option maxRecDepth 100000 in
theorem kd_E_init : Cond.code yE_init cE_init 5 none ∈ tb := tb_mem 1026 rfl rfl
set_option maxRecDepth 100000 in
theorem kd_H_init : Cond.code yH_init cH_init 5 none ∈ tb := tb_mem 1029 rfl rfl
set_option maxRecDepth 100000 in
theorem kd_X12_feed : Cond.code yX12_feed cX12_feed 6 (some .int) ∈ tb := tb_mem 1208 rfl rfl
set_option maxRecDepth 100000 in
theorem kd_X12_lay : Cond.code yX12_lay cX12_lay 3 none ∈ tb := tb_mem 1212 rfl rfl
set_option maxRecDepth 100000 in
theorem kd_X12_end : Cond.code yX12_end cX12_end 2 (some .int) ∈ tb := tb_mem 1216 rfl rfl
set_option maxRecDepth 100000 in
theorem kd_X12_in : Cond.code yX12_in cX12_in 6 (some .boolean) ∈ tb := tb_mem 1219 rfl rfl
set_option maxRecDepth 100000 in
theorem kd_X12_trust : Cond.codeWith yX12_trust cX12_trust 3 (some .int) [((28), (37), (40), (117))] ∈ tb := tb_mem 1223 rfl rfl
set_option maxRecDepth 100000 in
theorem kd_X12_scan : Cond.code yX12_scan cX12_scan 2 none ∈ tb := tb_mem 1227 rfl rfl
set_option maxRecDepth 100000 in
theorem kd_X12_byteAt : Cond.code yX12_byteAt cX12_byteAt 2 (some .int) ∈ tb := tb_mem 1231 rfl rfl
set_option maxRecDepth 100000 in
theorem kd_X12_isLetter : Cond.code yX12_isLetter cX12_isLetter 1 (some .boolean) ∈ tb := tb_mem 1234 rfl rfl
set_option maxRecDepth 100000 in
theorem kd_X12_isDigit : Cond.code yX12_isDigit cX12_isDigit 1 (some .boolean) ∈ tb := tb_mem 1237 rfl rfl
set_option maxRecDepth 100000 in
theorem kd_X12_readTrust : Cond.code yX12_readTrust cX12_readTrust 3 (some .int) ∈ tb := tb_mem 1241 rfl rfl
set_option maxRecDepth 100000 in
theorem kd_X12_key : Cond.code yX12_key cX12_key 1 (some .int) ∈ tb := tb_mem 1245 rfl rfl
set_option maxRecDepth 100000 in
theorem kd_X12_is : Cond.code yX12_is cX12_is 4 (some .boolean) ∈ tb := tb_mem 1250 rfl rfl
set_option maxRecDepth 100000 in
theorem kd_X12_wrong : Cond.code yX12_wrong cX12_wrong 2 (some (.object "TowerAppealModel$Stop")) ∈ tb := tb_mem 1261 rfl rfl
set_option maxRecDepth 100000 in
theorem kd_X12_readLine : Cond.code yX12_readLine cX12_readLine 2 none ∈ tb := tb_mem 1265 rfl rfl
set_option maxRecDepth 100000 in
theorem kd_X12_number : Cond.code yX12_number cX12_number 4 (some .int) ∈ tb := tb_mem 1269 rfl rfl
set_option maxRecDepth 100000 in
theorem kd_X12_fault : Cond.code yX12_fault cX12_fault 2 (some .int) ∈ tb := tb_mem 1276 rfl rfl
set_option maxRecDepth 100000 in
theorem kd_X12_rule : Cond.code yX12_rule cX12_rule 2 (some .int) ∈ tb := tb_mem 1280 rfl rfl
set_option maxRecDepth 100000 in
theorem kd_X12_declare : Cond.code yX12_declare cX12_declare 4 (some .int) ∈ tb := tb_mem 1285 rfl rfl
set_option maxRecDepth 100000 in
theorem kd_X12_isGiver : Cond.code yX12_isGiver cX12_isGiver 1 (some .boolean) ∈ tb := tb_mem 1288 rfl rfl
set_option maxRecDepth 100000 in
theorem kd_X12_isMonth : Cond.code yX12_isMonth cX12_isMonth 1 (some .boolean) ∈ tb := tb_mem 1292 rfl rfl
set_option maxRecDepth 100000 in
theorem kd_X12_nameless : Cond.code yX12_nameless cX12_nameless 4 (some .int) ∈ tb := tb_mem 1297 rfl rfl
set_option maxRecDepth 100000 in
theorem kd_X12_pledge : Cond.code yX12_pledge cX12_pledge 8 (some .int) ∈ tb := tb_mem 1301 rfl rfl
set_option maxRecDepth 100000 in
theorem kd_X12_monthOf : Cond.code yX12_monthOf cX12_monthOf 3 (some .int) ∈ tb := tb_mem 1308 rfl rfl
set_option maxRecDepth 100000 in
theorem kd_X12_change : Cond.code yX12_change cX12_change 4 (some .int) ∈ tb := tb_mem 1312 rfl rfl
set_option maxRecDepth 100000 in
theorem kd_X12_isPledge : Cond.code yX12_isPledge cX12_isPledge 2 (some .boolean) ∈ tb := tb_mem 1316 rfl rfl
set_option maxRecDepth 100000 in
theorem kd_X12_pay : Cond.code yX12_pay cX12_pay 6 (some .int) ∈ tb := tb_mem 1320 rfl rfl
set_option maxRecDepth 100000 in
theorem kd_X12_unfilled : Cond.code yX12_unfilled cX12_unfilled 4 (some .int) ∈ tb := tb_mem 1325 rfl rfl
set_option maxRecDepth 100000 in
theorem kd_X12_come : Cond.code yX12_come cX12_come 4 (some .int) ∈ tb := tb_mem 1330 rfl rfl
set_option maxRecDepth 100000 in
theorem kd_J9_max_7cf53 : Cond.code yJ9_max_7cf53 cJ9_max_7cf53 2 (some .int) ∈ tb := tb_mem 1334 rfl rfl
set_option maxRecDepth 100000 in
theorem kd_X12_gift : Cond.code yX12_gift cX12_gift 3 (some .int) ∈ tb := tb_mem 1338 rfl rfl
set_option maxRecDepth 100000 in
theorem kd_X12_takeUp : Cond.code yX12_takeUp cX12_takeUp 3 (some .int) ∈ tb := tb_mem 1342 rfl rfl
set_option maxRecDepth 100000 in
theorem kd_X12_toCome : Cond.code yX12_toCome cX12_toCome 4 (some .int) ∈ tb := tb_mem 1346 rfl rfl
set_option maxRecDepth 100000 in
theorem kd_X12_claim : Cond.code yX12_claim cX12_claim 4 (some .int) ∈ tb := tb_mem 1350 rfl rfl
set_option maxRecDepth 100000 in
theorem kd_X12_about : Cond.code yX12_about cX12_about 5 (some .int) ∈ tb := tb_mem 1354 rfl rfl
set_option maxRecDepth 100000 in
theorem kd_X12_overdue : Cond.code yX12_overdue cX12_overdue 4 (some .int) ∈ tb := tb_mem 1358 rfl rfl
set_option maxRecDepth 100000 in
theorem kd_X12_giver : Cond.code yX12_giver cX12_giver 5 (some .int) ∈ tb := tb_mem 1362 rfl rfl
set_option maxRecDepth 100000 in
theorem kd_X12_stage : Cond.code yX12_stage cX12_stage 3 (some .int) ∈ tb := tb_mem 1366 rfl rfl
set_option maxRecDepth 100000 in
theorem kd_X12_begin : Cond.code yX12_begin cX12_begin 1 (some .int) ∈ tb := tb_mem 1372 rfl rfl
set_option maxRecDepth 100000 in
theorem kd_X12_runs : Cond.code yX12_runs cX12_runs 1 (some .boolean) ∈ tb := tb_mem 1376 rfl rfl
set_option maxRecDepth 100000 in
theorem kd_X12_built : Cond.code yX12_built cX12_built 3 (some .int) ∈ tb := tb_mem 1380 rfl rfl
set_option maxRecDepth 100000 in
theorem kd_X12_months : Cond.code yX12_months cX12_months 3 (some .int) ∈ tb := tb_mem 1384 rfl rfl
set_option maxRecDepth 100000 in
theorem kd_X12_endMonth : Cond.code yX12_endMonth cX12_endMonth 3 none ∈ tb := tb_mem 1388 rfl rfl
set_option maxRecDepth 100000 in
theorem kd_X12_lapse : Cond.code yX12_lapse cX12_lapse 4 none ∈ tb := tb_mem 1392 rfl rfl
set_option maxRecDepth 100000 in
theorem kd_X12_build : Cond.code yX12_build cX12_build 6 none ∈ tb := tb_mem 1397 rfl rfl
set_option maxRecDepth 100000 in
theorem kd_X12_sure : Cond.code yX12_sure cX12_sure 12 (some .int) ∈ tb := tb_mem 1401 rfl rfl
set_option maxRecDepth 100000 in
theorem kd_X12_stone : Cond.code yX12_stone cX12_stone 2 (some .int) ∈ tb := tb_mem 1405 rfl rfl
set_option maxRecDepth 100000 in
theorem kd_X12_carve : Cond.code yX12_carve cX12_carve 5 (some .int) ∈ tb := tb_mem 1409 rfl rfl
set_option maxRecDepth 100000 in
theorem kd_X12_stop : Cond.code yX12_stop cX12_stop 4 (some .int) ∈ tb := tb_mem 1413 rfl rfl
set_option maxRecDepth 100000 in
theorem kd_X12_allGiven : Cond.code yX12_allGiven cX12_allGiven 3 (some .int) ∈ tb := tb_mem 1417 rfl rfl
set_option maxRecDepth 100000 in
theorem kd_X12_back : Cond.code yX12_back cX12_back 2 (some .int) ∈ tb := tb_mem 1421 rfl rfl
set_option maxRecDepth 100000 in
theorem kd_X12_count : Cond.code yX12_count cX12_count 4 (some .int) ∈ tb := tb_mem 1425 rfl rfl

