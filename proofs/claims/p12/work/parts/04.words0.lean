set_option maxRecDepth 100000 in
theorem kl_X9_startAnew : Cond.selects RX9 yX9_startAnew yX9_startAnew ∈ tb := tb_mem 0 (by decide +kernel) rfl
set_option maxRecDepth 100000 in
theorem kl_X9_readToken : Cond.selects RX9 yX9_readToken yX9_readToken ∈ tb := tb_mem 1 (by decide +kernel) rfl
set_option maxRecDepth 100000 in
theorem kl_X9_readWord : Cond.selects RX9 yX9_readWord yX9_readWord ∈ tb := tb_mem 2 (by decide +kernel) rfl
set_option maxRecDepth 100000 in
theorem kl_X9_readNumber : Cond.selects RX9 yX9_readNumber yX9_readNumber ∈ tb := tb_mem 3 (by decide +kernel) rfl
set_option maxRecDepth 100000 in
theorem kl_X9_readLine : Cond.selects RX9 yX9_readLine yX9_readLine ∈ tb := tb_mem 4 (by decide +kernel) rfl
set_option maxRecDepth 100000 in
theorem kl_X9_lineOfWord : Cond.selects RX9 yX9_lineOfWord yX9_lineOfWord ∈ tb := tb_mem 5 (by decide +kernel) rfl
set_option maxRecDepth 100000 in
theorem kl_X9_isWord : Cond.selects RX9 yX9_isWord yX9_isWord ∈ tb := tb_mem 6 (by decide +kernel) rfl
set_option maxRecDepth 100000 in
theorem kl_X9_refuse : Cond.selects RX9 yX9_refuse yX9_refuse ∈ tb := tb_mem 7 (by decide +kernel) rfl
set_option maxRecDepth 100000 in
theorem kl_X9_readStop : Cond.selects RX9 yX9_readStop yX9_readStop ∈ tb := tb_mem 8 (by decide +kernel) rfl
set_option maxRecDepth 100000 in
theorem kl_X9_readNumbers : Cond.selects RX9 yX9_readNumbers yX9_readNumbers ∈ tb := tb_mem 9 (by decide +kernel) rfl
set_option maxRecDepth 100000 in
theorem kl_X1_monthOf : Cond.selects RX1 yX1_monthOf yX1_monthOf ∈ tb := tb_mem 10 (by decide +kernel) rfl
set_option maxRecDepth 100000 in
theorem kl_X10_receive : Cond.selects RX10 yX10_receive yX10_receive ∈ tb := tb_mem 11 (by decide +kernel) rfl
set_option maxRecDepth 100000 in
theorem kl_X7_running : Cond.selects RX7 yX7_running yX7_running ∈ tb := tb_mem 12 (by decide +kernel) rfl
set_option maxRecDepth 100000 in
theorem kl_X10_endMonth : Cond.selects RX10 yX10_endMonth yX10_endMonth ∈ tb := tb_mem 13 (by decide +kernel) rfl
set_option maxRecDepth 100000 in
theorem kl_X12_lay : Cond.selects RX12 yX12_lay yX12_lay ∈ tb := tb_mem 15 (by decide +kernel) rfl
set_option maxRecDepth 100000 in
theorem kl_X12_scan : Cond.selects RX12 yX12_scan yX12_scan ∈ tb := tb_mem 16 (by decide +kernel) rfl
set_option maxRecDepth 100000 in
theorem kl_X12_byteAt : Cond.selects RX12 yX12_byteAt yX12_byteAt ∈ tb := tb_mem 17 (by decide +kernel) rfl
set_option maxRecDepth 100000 in
theorem kl_X12_readTrust : Cond.selects RX12 yX12_readTrust yX12_readTrust ∈ tb := tb_mem 18 (by decide +kernel) rfl
set_option maxRecDepth 100000 in
theorem kl_X12_key : Cond.selects RX12 yX12_key yX12_key ∈ tb := tb_mem 19 (by decide +kernel) rfl
set_option maxRecDepth 100000 in
theorem kl_X12_is : Cond.selects RX12 yX12_is yX12_is ∈ tb := tb_mem 20 (by decide +kernel) rfl
set_option maxRecDepth 100000 in
theorem kl_X12_wrong : Cond.selects RX12 yX12_wrong yX12_wrong ∈ tb := tb_mem 21 (by decide +kernel) rfl
set_option maxRecDepth 100000 in
theorem kl_X12_readLine : Cond.selects RX12 yX12_readLine yX12_readLine ∈ tb := tb_mem 22 (by decide +kernel) rfl
set_option maxRecDepth 100000 in
theorem kl_X12_number : Cond.selects RX12 yX12_number yX12_number ∈ tb := tb_mem 23 (by decide +kernel) rfl
set_option maxRecDepth 100000 in
theorem kl_X12_monthOf : Cond.selects RX12 yX12_monthOf yX12_monthOf ∈ tb := tb_mem 24 (by decide +kernel) rfl
set_option maxRecDepth 100000 in
theorem kl_X12_isPledge : Cond.selects RX12 yX12_isPledge yX12_isPledge ∈ tb := tb_mem 25 (by decide +kernel) rfl
set_option maxRecDepth 100000 in
theorem kl_X12_unfilled : Cond.selects RX12 yX12_unfilled yX12_unfilled ∈ tb := tb_mem 26 (by decide +kernel) rfl
set_option maxRecDepth 100000 in
theorem kl_X12_come : Cond.selects RX12 yX12_come yX12_come ∈ tb := tb_mem 27 (by decide +kernel) rfl
set_option maxRecDepth 100000 in
theorem kl_X12_toCome : Cond.selects RX12 yX12_toCome yX12_toCome ∈ tb := tb_mem 28 (by decide +kernel) rfl
set_option maxRecDepth 100000 in
theorem kl_X12_overdue : Cond.selects RX12 yX12_overdue yX12_overdue ∈ tb := tb_mem 29 (by decide +kernel) rfl
set_option maxRecDepth 100000 in
theorem kl_X12_runs : Cond.selects RX12 yX12_runs yX12_runs ∈ tb := tb_mem 30 (by decide +kernel) rfl
set_option maxRecDepth 100000 in
theorem kl_X12_endMonth : Cond.selects RX12 yX12_endMonth yX12_endMonth ∈ tb := tb_mem 31 (by decide +kernel) rfl
set_option maxRecDepth 100000 in
theorem kl_X12_lapse : Cond.selects RX12 yX12_lapse yX12_lapse ∈ tb := tb_mem 32 (by decide +kernel) rfl
set_option maxRecDepth 100000 in
theorem kl_X12_build : Cond.selects RX12 yX12_build yX12_build ∈ tb := tb_mem 33 (by decide +kernel) rfl
set_option maxRecDepth 100000 in
theorem kl_X12_carve : Cond.selects RX12 yX12_carve yX12_carve ∈ tb := tb_mem 34 (by decide +kernel) rfl
set_option maxRecDepth 100000 in
theorem kl_X12_allGiven : Cond.selects RX12 yX12_allGiven yX12_allGiven ∈ tb := tb_mem 35 (by decide +kernel) rfl
set_option maxRecDepth 100000 in
theorem ki_X10 : Cond.initialized RX10 ∈ tb := tb_mem 37 (by decide +kernel) rfl
set_option maxRecDepth 100000 in
theorem ki_X6 : Cond.initialized RX6 ∈ tb := tb_mem 38 (by decide +kernel) rfl
set_option maxRecDepth 100000 in
theorem ki_X9 : Cond.initialized RX9 ∈ tb := tb_mem 39 (by decide +kernel) rfl
set_option maxRecDepth 100000 in
theorem ki_X8 : Cond.initialized RX8 ∈ tb := tb_mem 40 (by decide +kernel) rfl
set_option maxRecDepth 100000 in
theorem ki_J10 : Cond.initialized RJ10 ∈ tb := tb_mem 41 (by decide +kernel) rfl
set_option maxRecDepth 100000 in
theorem ki_X0 : Cond.initialized RX0 ∈ tb := tb_mem 42 (by decide +kernel) rfl
set_option maxRecDepth 100000 in
theorem ki_X2 : Cond.initialized RX2 ∈ tb := tb_mem 43 (by decide +kernel) rfl
set_option maxRecDepth 100000 in
theorem ki_X5 : Cond.initialized RX5 ∈ tb := tb_mem 44 (by decide +kernel) rfl
set_option maxRecDepth 100000 in
theorem ki_X3 : Cond.initialized RX3 ∈ tb := tb_mem 45 (by decide +kernel) rfl
set_option maxRecDepth 100000 in
theorem ki_X7 : Cond.initialized RX7 ∈ tb := tb_mem 46 (by decide +kernel) rfl
set_option maxRecDepth 100000 in
theorem ki_X12 : Cond.initialized RX12 ∈ tb := tb_mem 47 (by decide +kernel) rfl
set_option maxRecDepth 100000 in
theorem ki_H : Cond.initialized RH ∈ tb := tb_mem 48 (by decide +kernel) rfl
set_option maxRecDepth 100000 in
theorem ki_E : Cond.initialized RE ∈ tb := tb_mem 49 (by decide +kernel) rfl
set_option maxRecDepth 100000 in
theorem ki_X11 : Cond.initialized RX11 ∈ tb := tb_mem 50 (by decide +kernel) rfl
set_option maxRecDepth 100000 in
theorem ki_J0 : Cond.initialized RJ0 ∈ tb := tb_mem 51 (by decide +kernel) rfl
set_option maxRecDepth 100000 in
theorem ki_J1 : Cond.initialized RJ1 ∈ tb := tb_mem 52 (by decide +kernel) rfl
set_option maxRecDepth 100000 in
theorem ki_J3 : Cond.initialized RJ3 ∈ tb := tb_mem 53 (by decide +kernel) rfl
set_option maxRecDepth 100000 in
theorem ki_X1 : Cond.initialized RX1 ∈ tb := tb_mem 55 (by decide +kernel) rfl
set_option maxRecDepth 100000 in
theorem ki_J9 : Cond.initialized RJ9 ∈ tb := tb_mem 56 (by decide +kernel) rfl
set_option maxRecDepth 100000 in
theorem ki_X4 : Cond.initialized RX4 ∈ tb := tb_mem 57 (by decide +kernel) rfl
set_option maxRecDepth 100000 in
theorem kc_L_7 : Cond.classLink RL 7 RX10 ∈ tb := tb_mem 58 (by decide +kernel) rfl
set_option maxRecDepth 100000 in
theorem kn_X10 : Cond.instantiable RX10 10 ∈ tb := tb_mem 59 (by decide +kernel) rfl
set_option maxRecDepth 100000 in
theorem km_L_9 : Cond.methodLink RL 9 yX10_init ∈ tb := tb_mem 60 (by decide +kernel) rfl
set_option maxRecDepth 100000 in
theorem kj_X10_init : Cond.instanceMethod yX10_init ∈ tb := tb_mem 61 (by decide +kernel) rfl
set_option maxRecDepth 100000 in
theorem kd_X10_init : Cond.code yX10_init cX10_init 1 none ∈ tb := tb_mem 62 rfl rfl
set_option maxRecDepth 100000 in
theorem km_X10_1 : Cond.methodLink RX10 1 objectInit ∈ tb := tb_mem 63 (by decide +kernel) rfl
set_option maxRecDepth 100000 in
theorem kj_objectInit : Cond.instanceMethod objectInit ∈ tb := tb_mem 64 (by decide +kernel) rfl
set_option maxRecDepth 100000 in
theorem kd_objectInit : Cond.code objectInit ⟨#[0xb1]⟩ 1 none ∈ tb := tb_mem 65 rfl rfl
set_option maxRecDepth 100000 in
theorem kc_X10_7 : Cond.classLink RX10 7 RX6 ∈ tb := tb_mem 66 (by decide +kernel) rfl
set_option maxRecDepth 100000 in
theorem kn_X6 : Cond.instantiable RX6 2 ∈ tb := tb_mem 67 (by decide +kernel) rfl
set_option maxRecDepth 100000 in
theorem kj_X6_init : Cond.instanceMethod yX6_init ∈ tb := tb_mem 69 (by decide +kernel) rfl
set_option maxRecDepth 100000 in
theorem kd_X6_init : Cond.code yX6_init cX6_init 1 none ∈ tb := tb_mem 70 rfl rfl
set_option maxRecDepth 100000 in
theorem km_X6_3 : Cond.methodLink RX6 3 objectInit ∈ tb := tb_mem 71 (by decide +kernel) rfl
set_option maxRecDepth 100000 in
theorem kf_X6_11 : Cond.fieldLink RX6 11 "TowerAppeal$Tape" "bytes" "[B" ∈ tb := tb_mem 72 (by decide +kernel) rfl
set_option maxRecDepth 100000 in
theorem kf_X6_15 : Cond.fieldLink RX6 15 "TowerAppeal$Tape" "length" "I" ∈ tb := tb_mem 73 (by decide +kernel) rfl
set_option maxRecDepth 100000 in
theorem ka_byte : Cond.arrayClass .byte ∈ tb := tb_mem 79 (by decide +kernel) rfl
set_option maxRecDepth 100000 in
theorem kc_X10_16 : Cond.classLink RX10 16 RX9 ∈ tb := tb_mem 80 (by decide +kernel) rfl
set_option maxRecDepth 100000 in
theorem kn_X9 : Cond.instantiable RX9 8 ∈ tb := tb_mem 81 (by decide +kernel) rfl
set_option maxRecDepth 100000 in
theorem kj_X9_init : Cond.instanceMethod yX9_init ∈ tb := tb_mem 83 (by decide +kernel) rfl
set_option maxRecDepth 100000 in
theorem kd_X9_init : Cond.code yX9_init cX9_init 1 none ∈ tb := tb_mem 84 rfl rfl
set_option maxRecDepth 100000 in
theorem km_X9_3 : Cond.methodLink RX9 3 objectInit ∈ tb := tb_mem 85 (by decide +kernel) rfl
set_option maxRecDepth 100000 in
theorem kc_X9_9 : Cond.classLink RX9 9 RX8 ∈ tb := tb_mem 86 (by decide +kernel) rfl
set_option maxRecDepth 100000 in
theorem kn_X8 : Cond.instantiable RX8 1 ∈ tb := tb_mem 87 (by decide +kernel) rfl
set_option maxRecDepth 100000 in
theorem km_X9_11 : Cond.methodLink RX9 11 yX8_init ∈ tb := tb_mem 88 (by decide +kernel) rfl
set_option maxRecDepth 100000 in
theorem kj_X8_init : Cond.instanceMethod yX8_init ∈ tb := tb_mem 89 (by decide +kernel) rfl
set_option maxRecDepth 100000 in
theorem kd_X8_init : Cond.code yX8_init cX8_init 1 none ∈ tb := tb_mem 90 rfl rfl
set_option maxRecDepth 100000 in
theorem km_X8_3 : Cond.methodLink RX8 3 objectInit ∈ tb := tb_mem 91 (by decide +kernel) rfl
set_option maxRecDepth 100000 in
theorem kf_X8_15 : Cond.fieldLink RX8 15 "TowerAppeal$Trust" "UNTOLD" "[I" ∈ tb := tb_mem 92 (by decide +kernel) rfl
set_option maxRecDepth 100000 in
theorem km_X8_18 : Cond.methodLink RX8 18 arraycopyName ∈ tb := tb_mem 94 (by decide +kernel) rfl
set_option maxRecDepth 100000 in
theorem ks_arraycopyName : Cond.static arraycopyName ∈ tb := tb_mem 95 (by decide +kernel) rfl
set_option maxRecDepth 100000 in
theorem kv_arraycopyName : Cond.native arraycopyName ∈ tb := tb_mem 96 (by decide +kernel) rfl
set_option maxRecDepth 100000 in
theorem kf_X8_11 : Cond.fieldLink RX8 11 "TowerAppeal$Trust" "rules" "[I" ∈ tb := tb_mem 97 (by decide +kernel) rfl
set_option maxRecDepth 100000 in
theorem ka_int : Cond.arrayClass .int ∈ tb := tb_mem 101 (by decide +kernel) rfl
set_option maxRecDepth 100000 in
theorem kf_X9_12 : Cond.fieldLink RX9 12 "TowerAppeal$TrustReader" "draft" "LTowerAppeal$Trust;" ∈ tb := tb_mem 102 (by decide +kernel) rfl
set_option maxRecDepth 100000 in
theorem kf_X9_18 : Cond.fieldLink RX9 18 "TowerAppeal$TrustReader" "told" "[Z" ∈ tb := tb_mem 103 (by decide +kernel) rfl
set_option maxRecDepth 100000 in
theorem kf_X9_45 : Cond.fieldLink RX9 45 "TowerAppeal$TrustReader" "head" "I" ∈ tb := tb_mem 104 (by decide +kernel) rfl
set_option maxRecDepth 100000 in
theorem kf_X9_36 : Cond.fieldLink RX9 36 "TowerAppeal$TrustReader" "token" "I" ∈ tb := tb_mem 105 (by decide +kernel) rfl
set_option maxRecDepth 100000 in
theorem kf_X9_48 : Cond.fieldLink RX9 48 "TowerAppeal$TrustReader" "tokenStart" "I" ∈ tb := tb_mem 106 (by decide +kernel) rfl
set_option maxRecDepth 100000 in
theorem kf_X9_73 : Cond.fieldLink RX9 73 "TowerAppeal$TrustReader" "tokenValue" "I" ∈ tb := tb_mem 107 (by decide +kernel) rfl
set_option maxRecDepth 100000 in
theorem kf_X9_26 : Cond.fieldLink RX9 26 "TowerAppeal$TrustReader" "faultKind" "I" ∈ tb := tb_mem 108 (by decide +kernel) rfl
set_option maxRecDepth 100000 in
theorem kf_X9_22 : Cond.fieldLink RX9 22 "TowerAppeal$TrustReader" "faultPlace" "I" ∈ tb := tb_mem 109 (by decide +kernel) rfl
set_option maxRecDepth 100000 in
theorem ka_boolean : Cond.arrayClass .boolean ∈ tb := tb_mem 127 (by decide +kernel) rfl
set_option maxRecDepth 100000 in
theorem kc_X10_23 : Cond.classLink RX10 23 RX8 ∈ tb := tb_mem 128 (by decide +kernel) rfl
set_option maxRecDepth 100000 in
theorem km_X10_25 : Cond.methodLink RX10 25 yX8_init ∈ tb := tb_mem 129 (by decide +kernel) rfl
set_option maxRecDepth 100000 in
theorem kc_X10_30 : Cond.classLink RX10 30 RX0 ∈ tb := tb_mem 130 (by decide +kernel) rfl
set_option maxRecDepth 100000 in
theorem kn_X0 : Cond.instantiable RX0 6 ∈ tb := tb_mem 131 (by decide +kernel) rfl
set_option maxRecDepth 100000 in
theorem km_X10_32 : Cond.methodLink RX10 32 yX0_init ∈ tb := tb_mem 132 (by decide +kernel) rfl
set_option maxRecDepth 100000 in
theorem kj_X0_init : Cond.instanceMethod yX0_init ∈ tb := tb_mem 133 (by decide +kernel) rfl
set_option maxRecDepth 100000 in
theorem kd_X0_init : Cond.code yX0_init cX0_init 2 none ∈ tb := tb_mem 134 rfl rfl
set_option maxRecDepth 100000 in
theorem km_X0_3 : Cond.methodLink RX0 3 objectInit ∈ tb := tb_mem 135 (by decide +kernel) rfl
set_option maxRecDepth 100000 in
theorem kf_X0_9 : Cond.fieldLink RX0 9 "TowerAppeal$Givers" "from" "[I" ∈ tb := tb_mem 136 (by decide +kernel) rfl
set_option maxRecDepth 100000 in
theorem kf_X0_15 : Cond.fieldLink RX0 15 "TowerAppeal$Givers" "to" "[I" ∈ tb := tb_mem 137 (by decide +kernel) rfl
set_option maxRecDepth 100000 in
theorem kf_X0_18 : Cond.fieldLink RX0 18 "TowerAppeal$Givers" "withoutName" "[Z" ∈ tb := tb_mem 138 (by decide +kernel) rfl
set_option maxRecDepth 100000 in
theorem kf_X0_22 : Cond.fieldLink RX0 22 "TowerAppeal$Givers" "gotBack" "[I" ∈ tb := tb_mem 139 (by decide +kernel) rfl
set_option maxRecDepth 100000 in
theorem kf_X0_25 : Cond.fieldLink RX0 25 "TowerAppeal$Givers" "gaveSoFar" "[I" ∈ tb := tb_mem 140 (by decide +kernel) rfl
set_option maxRecDepth 100000 in
theorem kf_X0_28 : Cond.fieldLink RX0 28 "TowerAppeal$Givers" "stoneOrder" "[I" ∈ tb := tb_mem 141 (by decide +kernel) rfl
set_option maxRecDepth 100000 in
theorem kc_X10_37 : Cond.classLink RX10 37 RX2 ∈ tb := tb_mem 155 (by decide +kernel) rfl
set_option maxRecDepth 100000 in
theorem kn_X2 : Cond.instantiable RX2 2 ∈ tb := tb_mem 156 (by decide +kernel) rfl
set_option maxRecDepth 100000 in
theorem kj_X2_init : Cond.instanceMethod yX2_init ∈ tb := tb_mem 158 (by decide +kernel) rfl
set_option maxRecDepth 100000 in
theorem kd_X2_init : Cond.code yX2_init cX2_init 1 none ∈ tb := tb_mem 159 rfl rfl
set_option maxRecDepth 100000 in
theorem km_X2_3 : Cond.methodLink RX2 3 objectInit ∈ tb := tb_mem 160 (by decide +kernel) rfl
set_option maxRecDepth 100000 in
theorem kc_X2_9 : Cond.classLink RX2 9 RX1 ∈ tb := tb_mem 161 (by decide +kernel) rfl
set_option maxRecDepth 100000 in
theorem kf_X2_11 : Cond.fieldLink RX2 11 "TowerAppeal$PledgeBook" "all" "[LTowerAppeal$Pledge;" ∈ tb := tb_mem 163 (by decide +kernel) rfl
set_option maxRecDepth 100000 in
theorem kf_X2_17 : Cond.fieldLink RX2 17 "TowerAppeal$PledgeBook" "size" "I" ∈ tb := tb_mem 164 (by decide +kernel) rfl
set_option maxRecDepth 100000 in
theorem kc_X10_44 : Cond.classLink RX10 44 RX5 ∈ tb := tb_mem 170 (by decide +kernel) rfl
set_option maxRecDepth 100000 in
theorem kn_X5 : Cond.instantiable RX5 6 ∈ tb := tb_mem 171 (by decide +kernel) rfl
set_option maxRecDepth 100000 in
theorem kj_X5_init : Cond.instanceMethod yX5_init ∈ tb := tb_mem 173 (by decide +kernel) rfl
set_option maxRecDepth 100000 in
theorem kd_X5_init : Cond.code yX5_init cX5_init 1 none ∈ tb := tb_mem 174 rfl rfl
set_option maxRecDepth 100000 in
theorem km_X5_3 : Cond.methodLink RX5 3 objectInit ∈ tb := tb_mem 175 (by decide +kernel) rfl
set_option maxRecDepth 100000 in
theorem kf_X5_9 : Cond.fieldLink RX5 9 "TowerAppeal$Sums" "giver" "[I" ∈ tb := tb_mem 176 (by decide +kernel) rfl
set_option maxRecDepth 100000 in
theorem kf_X5_15 : Cond.fieldLink RX5 15 "TowerAppeal$Sums" "pence" "[I" ∈ tb := tb_mem 177 (by decide +kernel) rfl
set_option maxRecDepth 100000 in
theorem kf_X5_18 : Cond.fieldLink RX5 18 "TowerAppeal$Sums" "month" "[I" ∈ tb := tb_mem 178 (by decide +kernel) rfl
set_option maxRecDepth 100000 in
theorem kf_X5_21 : Cond.fieldLink RX5 21 "TowerAppeal$Sums" "claimed" "[Z" ∈ tb := tb_mem 179 (by decide +kernel) rfl
set_option maxRecDepth 100000 in
theorem kf_X5_25 : Cond.fieldLink RX5 25 "TowerAppeal$Sums" "size" "I" ∈ tb := tb_mem 180 (by decide +kernel) rfl
set_option maxRecDepth 100000 in
theorem kf_X5_29 : Cond.fieldLink RX5 29 "TowerAppeal$Sums" "total" "J" ∈ tb := tb_mem 181 (by decide +kernel) rfl
set_option maxRecDepth 100000 in
theorem kc_X10_51 : Cond.classLink RX10 51 RX3 ∈ tb := tb_mem 195 (by decide +kernel) rfl
set_option maxRecDepth 100000 in
theorem kn_X3 : Cond.instantiable RX3 6 ∈ tb := tb_mem 196 (by decide +kernel) rfl
set_option maxRecDepth 100000 in
theorem kj_X3_init : Cond.instanceMethod yX3_init ∈ tb := tb_mem 198 (by decide +kernel) rfl
set_option maxRecDepth 100000 in
theorem kd_X3_init : Cond.code yX3_init cX3_init 1 none ∈ tb := tb_mem 199 rfl rfl
set_option maxRecDepth 100000 in
theorem km_X3_1 : Cond.methodLink RX3 1 objectInit ∈ tb := tb_mem 200 (by decide +kernel) rfl
set_option maxRecDepth 100000 in
theorem kf_X3_7 : Cond.fieldLink RX3 7 "TowerAppeal$Purse" "coin" "J" ∈ tb := tb_mem 201 (by decide +kernel) rfl
set_option maxRecDepth 100000 in
theorem kf_X3_13 : Cond.fieldLink RX3 13 "TowerAppeal$Purse" "loan" "J" ∈ tb := tb_mem 202 (by decide +kernel) rfl
set_option maxRecDepth 100000 in
theorem kf_X3_16 : Cond.fieldLink RX3 16 "TowerAppeal$Purse" "matched" "J" ∈ tb := tb_mem 203 (by decide +kernel) rfl
set_option maxRecDepth 100000 in
theorem kf_X3_19 : Cond.fieldLink RX3 19 "TowerAppeal$Purse" "tax" "J" ∈ tb := tb_mem 204 (by decide +kernel) rfl
set_option maxRecDepth 100000 in
theorem kf_X3_22 : Cond.fieldLink RX3 22 "TowerAppeal$Purse" "paidForStages" "J" ∈ tb := tb_mem 205 (by decide +kernel) rfl
set_option maxRecDepth 100000 in
theorem kf_X3_25 : Cond.fieldLink RX3 25 "TowerAppeal$Purse" "grown" "J" ∈ tb := tb_mem 206 (by decide +kernel) rfl
set_option maxRecDepth 100000 in
theorem kc_X10_58 : Cond.classLink RX10 58 RX7 ∈ tb := tb_mem 220 (by decide +kernel) rfl
set_option maxRecDepth 100000 in
theorem kn_X7 : Cond.instantiable RX7 3 ∈ tb := tb_mem 221 (by decide +kernel) rfl
set_option maxRecDepth 100000 in
theorem kj_X7_init : Cond.instanceMethod yX7_init ∈ tb := tb_mem 223 (by decide +kernel) rfl
set_option maxRecDepth 100000 in
theorem kd_X7_init : Cond.code yX7_init cX7_init 1 none ∈ tb := tb_mem 224 rfl rfl
set_option maxRecDepth 100000 in
theorem km_X7_3 : Cond.methodLink RX7 3 objectInit ∈ tb := tb_mem 225 (by decide +kernel) rfl
set_option maxRecDepth 100000 in
theorem kc_X7_9 : Cond.classLink RX7 9 RX4 ∈ tb := tb_mem 226 (by decide +kernel) rfl
set_option maxRecDepth 100000 in
theorem kf_X7_11 : Cond.fieldLink RX7 11 "TowerAppeal$Tower" "all" "[LTowerAppeal$Stage;" ∈ tb := tb_mem 228 (by decide +kernel) rfl
set_option maxRecDepth 100000 in
theorem kf_X7_17 : Cond.fieldLink RX7 17 "TowerAppeal$Tower" "size" "I" ∈ tb := tb_mem 229 (by decide +kernel) rfl
set_option maxRecDepth 100000 in
theorem kf_X7_21 : Cond.fieldLink RX7 21 "TowerAppeal$Tower" "started" "I" ∈ tb := tb_mem 230 (by decide +kernel) rfl
set_option maxRecDepth 100000 in
theorem kf_X10_10 : Cond.fieldLink RX10 10 "TowerAppeal" "tape" "LTowerAppeal$Tape;" ∈ tb := tb_mem 238 (by decide +kernel) rfl
set_option maxRecDepth 100000 in
theorem kf_X10_19 : Cond.fieldLink RX10 19 "TowerAppeal" "reader" "LTowerAppeal$TrustReader;" ∈ tb := tb_mem 239 (by decide +kernel) rfl
set_option maxRecDepth 100000 in
theorem kf_X10_26 : Cond.fieldLink RX10 26 "TowerAppeal" "inForce" "LTowerAppeal$Trust;" ∈ tb := tb_mem 240 (by decide +kernel) rfl
set_option maxRecDepth 100000 in
theorem kf_X10_33 : Cond.fieldLink RX10 33 "TowerAppeal" "givers" "LTowerAppeal$Givers;" ∈ tb := tb_mem 241 (by decide +kernel) rfl
set_option maxRecDepth 100000 in
theorem kf_X10_40 : Cond.fieldLink RX10 40 "TowerAppeal" "pledges" "LTowerAppeal$PledgeBook;" ∈ tb := tb_mem 242 (by decide +kernel) rfl
set_option maxRecDepth 100000 in
theorem kf_X10_47 : Cond.fieldLink RX10 47 "TowerAppeal" "sums" "LTowerAppeal$Sums;" ∈ tb := tb_mem 243 (by decide +kernel) rfl
set_option maxRecDepth 100000 in
theorem kf_X10_54 : Cond.fieldLink RX10 54 "TowerAppeal" "purse" "LTowerAppeal$Purse;" ∈ tb := tb_mem 244 (by decide +kernel) rfl
set_option maxRecDepth 100000 in
theorem kf_X10_61 : Cond.fieldLink RX10 61 "TowerAppeal" "tower" "LTowerAppeal$Tower;" ∈ tb := tb_mem 245 (by decide +kernel) rfl
set_option maxRecDepth 100000 in
theorem kf_X10_123 : Cond.fieldLink RX10 123 "TowerAppeal" "clock" "I" ∈ tb := tb_mem 246 (by decide +kernel) rfl
set_option maxRecDepth 100000 in
theorem kf_X10_106 : Cond.fieldLink RX10 106 "TowerAppeal" "stopped" "Z" ∈ tb := tb_mem 247 (by decide +kernel) rfl
set_option maxRecDepth 100000 in
theorem km_L_13 : Cond.methodLink RL 13 yX10_feed ∈ tb := tb_mem 269 (by decide +kernel) rfl
set_option maxRecDepth 100000 in
theorem kj_X10_feed : Cond.instanceMethod yX10_feed ∈ tb := tb_mem 270 (by decide +kernel) rfl
set_option maxRecDepth 100000 in
theorem kl_X10_feed : Cond.selects RX10 yX10_feed yX10_feed ∈ tb := tb_mem 271 (by decide +kernel) rfl
set_option maxRecDepth 100000 in
theorem kd_X10_feed : Cond.code yX10_feed cX10_feed 6 (some .int) ∈ tb := tb_mem 272 rfl rfl
set_option maxRecDepth 100000 in
theorem km_X10_65 : Cond.methodLink RX10 65 yX6_hasRoomForTwenty ∈ tb := tb_mem 273 (by decide +kernel) rfl
set_option maxRecDepth 100000 in
theorem kj_X6_hasRoomForTwenty : Cond.instanceMethod yX6_hasRoomForTwenty ∈ tb := tb_mem 274 (by decide +kernel) rfl
set_option maxRecDepth 100000 in
theorem kl_X6_hasRoomForTwenty : Cond.selects RX6 yX6_hasRoomForTwenty yX6_hasRoomForTwenty ∈ tb := tb_mem 275 (by decide +kernel) rfl
set_option maxRecDepth 100000 in
theorem kd_X6_hasRoomForTwenty : Cond.code yX6_hasRoomForTwenty cX6_hasRoomForTwenty 1 (some .boolean) ∈ tb := tb_mem 276 rfl rfl
set_option maxRecDepth 100000 in
theorem km_X10_69 : Cond.methodLink RX10 69 yX6_putFour ∈ tb := tb_mem 277 (by decide +kernel) rfl
set_option maxRecDepth 100000 in
theorem kj_X6_putFour : Cond.instanceMethod yX6_putFour ∈ tb := tb_mem 278 (by decide +kernel) rfl
set_option maxRecDepth 100000 in
theorem kl_X6_putFour : Cond.selects RX6 yX6_putFour yX6_putFour ∈ tb := tb_mem 279 (by decide +kernel) rfl
set_option maxRecDepth 100000 in
theorem kd_X6_putFour : Cond.code yX6_putFour cX6_putFour 3 none ∈ tb := tb_mem 280 rfl rfl
set_option maxRecDepth 100000 in
theorem km_X10_73 : Cond.methodLink RX10 73 yX6_length ∈ tb := tb_mem 281 (by decide +kernel) rfl
set_option maxRecDepth 100000 in
theorem kj_X6_length : Cond.instanceMethod yX6_length ∈ tb := tb_mem 282 (by decide +kernel) rfl
set_option maxRecDepth 100000 in
theorem kl_X6_length : Cond.selects RX6 yX6_length yX6_length ∈ tb := tb_mem 283 (by decide +kernel) rfl
set_option maxRecDepth 100000 in
theorem kd_X6_length : Cond.code yX6_length cX6_length 1 (some .int) ∈ tb := tb_mem 284 rfl rfl
set_option maxRecDepth 100000 in
theorem km_L_18 : Cond.methodLink RL 18 yX10_end ∈ tb := tb_mem 285 (by decide +kernel) rfl
set_option maxRecDepth 100000 in
theorem kj_X10_end : Cond.instanceMethod yX10_end ∈ tb := tb_mem 286 (by decide +kernel) rfl
set_option maxRecDepth 100000 in
theorem kl_X10_end : Cond.selects RX10 yX10_end yX10_end ∈ tb := tb_mem 287 (by decide +kernel) rfl
set_option maxRecDepth 100000 in
theorem kd_X10_end : Cond.code yX10_end cX10_end 2 (some .int) ∈ tb := tb_mem 288 rfl rfl
set_option maxRecDepth 100000 in
theorem km_X10_77 : Cond.methodLink RX10 77 yX6_cutTo ∈ tb := tb_mem 289 (by decide +kernel) rfl
set_option maxRecDepth 100000 in
theorem kj_X6_cutTo : Cond.instanceMethod yX6_cutTo ∈ tb := tb_mem 290 (by decide +kernel) rfl
set_option maxRecDepth 100000 in
theorem kl_X6_cutTo : Cond.selects RX6 yX6_cutTo yX6_cutTo ∈ tb := tb_mem 291 (by decide +kernel) rfl
set_option maxRecDepth 100000 in
theorem kd_X6_cutTo : Cond.code yX6_cutTo cX6_cutTo 2 none ∈ tb := tb_mem 292 rfl rfl
set_option maxRecDepth 100000 in
theorem km_L_23 : Cond.methodLink RL 23 yX10_trust ∈ tb := tb_mem 293 (by decide +kernel) rfl
set_option maxRecDepth 100000 in
theorem kj_X10_trust : Cond.instanceMethod yX10_trust ∈ tb := tb_mem 294 (by decide +kernel) rfl
set_option maxRecDepth 100000 in
theorem kl_X10_trust : Cond.selects RX10 yX10_trust yX10_trust ∈ tb := tb_mem 295 (by decide +kernel) rfl
set_option maxRecDepth 100000 in
theorem kd_X10_trust : Cond.code yX10_trust cX10_trust 2 (some .int) ∈ tb := tb_mem 296 rfl rfl
set_option maxRecDepth 100000 in
theorem km_X10_80 : Cond.methodLink RX10 80 yX9_read ∈ tb := tb_mem 297 (by decide +kernel) rfl
set_option maxRecDepth 100000 in
theorem kj_X9_read : Cond.instanceMethod yX9_read ∈ tb := tb_mem 298 (by decide +kernel) rfl
set_option maxRecDepth 100000 in
theorem kl_X9_read : Cond.selects RX9 yX9_read yX9_read ∈ tb := tb_mem 299 (by decide +kernel) rfl
set_option maxRecDepth 100000 in
theorem kd_X9_read : Cond.code yX9_read cX9_read 4 (some .int) ∈ tb := tb_mem 300 rfl rfl
set_option maxRecDepth 100000 in
theorem km_X9_29 : Cond.methodLink RX9 29 yX9_startAnew ∈ tb := tb_mem 301 (by decide +kernel) rfl
set_option maxRecDepth 100000 in
theorem kj_X9_startAnew : Cond.instanceMethod yX9_startAnew ∈ tb := tb_mem 303 (by decide +kernel) rfl
set_option maxRecDepth 100000 in
theorem kd_X9_startAnew : Cond.code yX9_startAnew cX9_startAnew 2 none ∈ tb := tb_mem 304 rfl rfl
set_option maxRecDepth 100000 in
theorem km_X9_42 : Cond.methodLink RX9 42 yX8_forget ∈ tb := tb_mem 305 (by decide +kernel) rfl
set_option maxRecDepth 100000 in
theorem kj_X8_forget : Cond.instanceMethod yX8_forget ∈ tb := tb_mem 306 (by decide +kernel) rfl
set_option maxRecDepth 100000 in
theorem kl_X8_forget : Cond.selects RX8 yX8_forget yX8_forget ∈ tb := tb_mem 307 (by decide +kernel) rfl
set_option maxRecDepth 100000 in
theorem kd_X8_forget : Cond.code yX8_forget cX8_forget 1 none ∈ tb := tb_mem 308 rfl rfl
set_option maxRecDepth 100000 in
theorem km_X9_32 : Cond.methodLink RX9 32 yX9_readToken ∈ tb := tb_mem 309 (by decide +kernel) rfl
set_option maxRecDepth 100000 in
theorem kj_X9_readToken : Cond.instanceMethod yX9_readToken ∈ tb := tb_mem 311 (by decide +kernel) rfl
set_option maxRecDepth 100000 in
theorem kd_X9_readToken : Cond.code yX9_readToken cX9_readToken 3 none ∈ tb := tb_mem 312 rfl rfl
set_option maxRecDepth 100000 in
theorem km_X9_126 : Cond.methodLink RX9 126 yX6_length ∈ tb := tb_mem 313 (by decide +kernel) rfl
set_option maxRecDepth 100000 in
theorem km_X9_116 : Cond.methodLink RX9 116 yX6_at ∈ tb := tb_mem 314 (by decide +kernel) rfl
set_option maxRecDepth 100000 in
theorem kj_X6_at : Cond.instanceMethod yX6_at ∈ tb := tb_mem 315 (by decide +kernel) rfl
set_option maxRecDepth 100000 in
theorem kl_X6_at : Cond.selects RX6 yX6_at yX6_at ∈ tb := tb_mem 316 (by decide +kernel) rfl
set_option maxRecDepth 100000 in
theorem kd_X6_at : Cond.code yX6_at cX6_at 2 (some .int) ∈ tb := tb_mem 317 rfl rfl
set_option maxRecDepth 100000 in
theorem km_X9_127 : Cond.methodLink RX9 127 yX9_isBlank ∈ tb := tb_mem 318 (by decide +kernel) rfl
set_option maxRecDepth 100000 in
theorem ks_X9_isBlank : Cond.static yX9_isBlank ∈ tb := tb_mem 319 (by decide +kernel) rfl
set_option maxRecDepth 100000 in
theorem kd_X9_isBlank : Cond.code yX9_isBlank cX9_isBlank 1 (some .boolean) ∈ tb := tb_mem 320 rfl rfl
set_option maxRecDepth 100000 in
theorem km_X9_131 : Cond.methodLink RX9 131 yX9_isLetter ∈ tb := tb_mem 321 (by decide +kernel) rfl
set_option maxRecDepth 100000 in
theorem ks_X9_isLetter : Cond.static yX9_isLetter ∈ tb := tb_mem 322 (by decide +kernel) rfl
set_option maxRecDepth 100000 in
theorem kd_X9_isLetter : Cond.code yX9_isLetter cX9_isLetter 1 (some .boolean) ∈ tb := tb_mem 323 rfl rfl
set_option maxRecDepth 100000 in
theorem km_X9_134 : Cond.methodLink RX9 134 yX9_readWord ∈ tb := tb_mem 324 (by decide +kernel) rfl
set_option maxRecDepth 100000 in
theorem kj_X9_readWord : Cond.instanceMethod yX9_readWord ∈ tb := tb_mem 326 (by decide +kernel) rfl
set_option maxRecDepth 100000 in
theorem kd_X9_readWord : Cond.code yX9_readWord cX9_readWord 2 none ∈ tb := tb_mem 327 rfl rfl
set_option maxRecDepth 100000 in
theorem km_X9_137 : Cond.methodLink RX9 137 yX9_isDigit ∈ tb := tb_mem 328 (by decide +kernel) rfl
set_option maxRecDepth 100000 in
theorem ks_X9_isDigit : Cond.static yX9_isDigit ∈ tb := tb_mem 329 (by decide +kernel) rfl
set_option maxRecDepth 100000 in
theorem kd_X9_isDigit : Cond.code yX9_isDigit cX9_isDigit 1 (some .boolean) ∈ tb := tb_mem 330 rfl rfl
set_option maxRecDepth 100000 in
theorem km_X9_140 : Cond.methodLink RX9 140 yX9_readNumber ∈ tb := tb_mem 331 (by decide +kernel) rfl
set_option maxRecDepth 100000 in
theorem kj_X9_readNumber : Cond.instanceMethod yX9_readNumber ∈ tb := tb_mem 333 (by decide +kernel) rfl
set_option maxRecDepth 100000 in
theorem kd_X9_readNumber : Cond.code yX9_readNumber cX9_readNumber 2 none ∈ tb := tb_mem 334 rfl rfl
set_option maxRecDepth 100000 in
theorem km_X9_39 : Cond.methodLink RX9 39 yX9_readLine ∈ tb := tb_mem 335 (by decide +kernel) rfl
set_option maxRecDepth 100000 in
theorem kj_X9_readLine : Cond.instanceMethod yX9_readLine ∈ tb := tb_mem 337 (by decide +kernel) rfl
set_option maxRecDepth 100000 in
theorem kd_X9_readLine : Cond.code yX9_readLine cX9_readLine 3 none ∈ tb := tb_mem 338 rfl rfl
set_option maxRecDepth 100000 in
theorem km_X9_51 : Cond.methodLink RX9 51 yX9_lineOfWord ∈ tb := tb_mem 339 (by decide +kernel) rfl
set_option maxRecDepth 100000 in
theorem kj_X9_lineOfWord : Cond.instanceMethod yX9_lineOfWord ∈ tb := tb_mem 341 (by decide +kernel) rfl
set_option maxRecDepth 100000 in
theorem kd_X9_lineOfWord : Cond.code yX9_lineOfWord cX9_lineOfWord 2 (some .int) ∈ tb := tb_mem 342 rfl rfl
set_option maxRecDepth 100000 in
theorem km_X9_92 : Cond.methodLink RX9 92 yX9_isWord ∈ tb := tb_mem 344 (by decide +kernel) rfl
set_option maxRecDepth 100000 in
theorem kj_X9_isWord : Cond.instanceMethod yX9_isWord ∈ tb := tb_mem 346 (by decide +kernel) rfl
set_option maxRecDepth 100000 in
theorem kd_X9_isWord : Cond.code yX9_isWord cX9_isWord 4 (some .boolean) ∈ tb := tb_mem 347 rfl rfl
set_option maxRecDepth 100000 in
theorem km_X9_110 : Cond.methodLink RX9 110 yJ0_length_8abf5 ∈ tb := tb_mem 348 (by decide +kernel) rfl
set_option maxRecDepth 100000 in
theorem kj_J0_length_8abf5 : Cond.instanceMethod yJ0_length_8abf5 ∈ tb := tb_mem 349 (by decide +kernel) rfl
set_option maxRecDepth 100000 in
theorem kl_J0_length_8abf5 : Cond.selects RJ0 yJ0_length_8abf5 yJ0_length_8abf5 ∈ tb := tb_mem 350 (by decide +kernel) rfl
set_option maxRecDepth 100000 in
theorem kd_J0_length_8abf5 : Cond.code yJ0_length_8abf5 cJ0_length_8abf5 1 (some .int) ∈ tb := tb_mem 351 rfl rfl
set_option maxRecDepth 100000 in
theorem km_J0_335 : Cond.methodLink RJ0 335 yJ0_coder_7d493 ∈ tb := tb_mem 352 (by decide +kernel) rfl
set_option maxRecDepth 100000 in
theorem kj_J0_coder_7d493 : Cond.instanceMethod yJ0_coder_7d493 ∈ tb := tb_mem 353 (by decide +kernel) rfl
set_option maxRecDepth 100000 in
theorem kl_J0_coder_7d493 : Cond.selects RJ0 yJ0_coder_7d493 yJ0_coder_7d493 ∈ tb := tb_mem 354 (by decide +kernel) rfl
set_option maxRecDepth 100000 in
theorem kd_J0_coder_7d493 : Cond.code yJ0_coder_7d493 cJ0_coder_7d493 1 (some .byte) ∈ tb := tb_mem 355 rfl rfl
set_option maxRecDepth 100000 in
theorem kf_J0_38 : Cond.fieldLink RJ0 38 "java/lang/String" "COMPACT_STRINGS" "Z" ∈ tb := tb_mem 356 (by decide +kernel) rfl
set_option maxRecDepth 100000 in
theorem km_X9_122 : Cond.methodLink RX9 122 yJ0_charAt_5068e ∈ tb := tb_mem 358 (by decide +kernel) rfl
set_option maxRecDepth 100000 in
theorem kj_J0_charAt_5068e : Cond.instanceMethod yJ0_charAt_5068e ∈ tb := tb_mem 359 (by decide +kernel) rfl
set_option maxRecDepth 100000 in
theorem kl_J0_charAt_5068e : Cond.selects RJ0 yJ0_charAt_5068e yJ0_charAt_5068e ∈ tb := tb_mem 360 (by decide +kernel) rfl
set_option maxRecDepth 100000 in
theorem kd_J0_charAt_5068e : Cond.code yJ0_charAt_5068e cJ0_charAt_5068e 2 (some .char) ∈ tb := tb_mem 361 rfl rfl
set_option maxRecDepth 100000 in
theorem km_J0_492 : Cond.methodLink RJ0 492 yJ0_isLatin1_aae02 ∈ tb := tb_mem 362 (by decide +kernel) rfl
set_option maxRecDepth 100000 in
theorem kj_J0_isLatin1_aae02 : Cond.instanceMethod yJ0_isLatin1_aae02 ∈ tb := tb_mem 363 (by decide +kernel) rfl
set_option maxRecDepth 100000 in
theorem kl_J0_isLatin1_aae02 : Cond.selects RJ0 yJ0_isLatin1_aae02 yJ0_isLatin1_aae02 ∈ tb := tb_mem 364 (by decide +kernel) rfl
set_option maxRecDepth 100000 in
theorem kd_J0_isLatin1_aae02 : Cond.code yJ0_isLatin1_aae02 cJ0_isLatin1_aae02 1 (some .boolean) ∈ tb := tb_mem 365 rfl rfl
set_option maxRecDepth 100000 in
theorem km_J0_495 : Cond.methodLink RJ0 495 yJ1_charAt_3b067 ∈ tb := tb_mem 366 (by decide +kernel) rfl
set_option maxRecDepth 100000 in
theorem ks_J1_charAt_3b067 : Cond.static yJ1_charAt_3b067 ∈ tb := tb_mem 367 (by decide +kernel) rfl
set_option maxRecDepth 100000 in
theorem kd_J1_charAt_3b067 : Cond.code yJ1_charAt_3b067 cJ1_charAt_3b067 2 (some .char) ∈ tb := tb_mem 368 rfl rfl
set_option maxRecDepth 100000 in
theorem km_J1_9 : Cond.methodLink RJ1 9 yJ0_checkIndex_df160 ∈ tb := tb_mem 369 (by decide +kernel) rfl
set_option maxRecDepth 100000 in
theorem ks_J0_checkIndex_df160 : Cond.static yJ0_checkIndex_df160 ∈ tb := tb_mem 370 (by decide +kernel) rfl
set_option maxRecDepth 100000 in
theorem kd_J0_checkIndex_df160 : Cond.code yJ0_checkIndex_df160 cJ0_checkIndex_df160 2 none ∈ tb := tb_mem 371 rfl rfl
set_option maxRecDepth 100000 in
theorem kf_J0_1053 : Cond.fieldLink RJ0 1053 "jdk/internal/util/Preconditions" "SIOOBE_FORMATTER" "Ljava/util/function/BiFunction;" ∈ tb := tb_mem 372 (by decide +kernel) rfl
set_option maxRecDepth 100000 in
theorem km_J0_1059 : Cond.methodLink RJ0 1059 yJ3_checkIndex_8e157 ∈ tb := tb_mem 374 (by decide +kernel) rfl
set_option maxRecDepth 100000 in
theorem ks_J3_checkIndex_8e157 : Cond.static yJ3_checkIndex_8e157 ∈ tb := tb_mem 375 (by decide +kernel) rfl
set_option maxRecDepth 100000 in
theorem kd_J3_checkIndex_8e157 : Cond.code yJ3_checkIndex_8e157 cJ3_checkIndex_8e157 3 (some .int) ∈ tb := tb_mem 376 rfl rfl
set_option maxRecDepth 100000 in
theorem km_X9_55 : Cond.methodLink RX9 55 yX9_refuse ∈ tb := tb_mem 401 (by decide +kernel) rfl
set_option maxRecDepth 100000 in
theorem kj_X9_refuse : Cond.instanceMethod yX9_refuse ∈ tb := tb_mem 403 (by decide +kernel) rfl
set_option maxRecDepth 100000 in
theorem kd_X9_refuse : Cond.code yX9_refuse cX9_refuse 2 none ∈ tb := tb_mem 404 rfl rfl
set_option maxRecDepth 100000 in
theorem km_X9_59 : Cond.methodLink RX9 59 yX9_readStop ∈ tb := tb_mem 405 (by decide +kernel) rfl
set_option maxRecDepth 100000 in
theorem kj_X9_readStop : Cond.instanceMethod yX9_readStop ∈ tb := tb_mem 407 (by decide +kernel) rfl
set_option maxRecDepth 100000 in
theorem kd_X9_readStop : Cond.code yX9_readStop cX9_readStop 2 none ∈ tb := tb_mem 408 rfl rfl
set_option maxRecDepth 100000 in
theorem km_X9_80 : Cond.methodLink RX9 80 yX8_put ∈ tb := tb_mem 410 (by decide +kernel) rfl
set_option maxRecDepth 100000 in
theorem kj_X8_put : Cond.instanceMethod yX8_put ∈ tb := tb_mem 411 (by decide +kernel) rfl
set_option maxRecDepth 100000 in
theorem kl_X8_put : Cond.selects RX8 yX8_put yX8_put ∈ tb := tb_mem 412 (by decide +kernel) rfl
set_option maxRecDepth 100000 in
theorem kd_X8_put : Cond.code yX8_put cX8_put 3 none ∈ tb := tb_mem 413 rfl rfl
set_option maxRecDepth 100000 in
theorem km_X9_62 : Cond.methodLink RX9 62 yX9_readNumbers ∈ tb := tb_mem 415 (by decide +kernel) rfl
set_option maxRecDepth 100000 in
theorem kj_X9_readNumbers : Cond.instanceMethod yX9_readNumbers ∈ tb := tb_mem 417 (by decide +kernel) rfl
set_option maxRecDepth 100000 in
theorem kd_X9_readNumbers : Cond.code yX9_readNumbers cX9_readNumbers 6 none ∈ tb := tb_mem 418 rfl rfl
set_option maxRecDepth 100000 in
theorem kf_X9_66 : Cond.fieldLink RX9 66 "TowerAppeal$TrustReader" "FIRST_RULE" "[I" ∈ tb := tb_mem 419 (by decide +kernel) rfl
set_option maxRecDepth 100000 in
theorem kf_X9_70 : Cond.fieldLink RX9 70 "TowerAppeal$TrustReader" "NUMBERS" "[I" ∈ tb := tb_mem 421 (by decide +kernel) rfl

