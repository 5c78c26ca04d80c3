set_option maxRecDepth 100000 in
theorem inX0 : ∀ w ∈ u_ws RX0 TX0 6, w ∈ tb := in_of [142, 144, 146, 148, 150, 152] (by decide +kernel)
set_option maxRecDepth 100000 in
theorem inX1 : ∀ w ∈ u_ws RX1 TX1 12, w ∈ tb := in_of [511, 513, 515, 517, 519, 521, 523, 525, 527, 529, 531, 533] (by decide +kernel)
set_option maxRecDepth 100000 in
theorem inX2 : ∀ w ∈ u_ws RX2 TX2 2, w ∈ tb := in_of [165, 167] (by decide +kernel)
set_option maxRecDepth 100000 in
theorem inX3 : ∀ w ∈ u_ws RX3 TX3 6, w ∈ tb := in_of [207, 209, 211, 213, 215, 217] (by decide +kernel)
set_option maxRecDepth 100000 in
theorem inX4 : ∀ w ∈ u_ws RX4 TX4 6, w ∈ tb := in_of [732, 734, 736, 738, 740, 742] (by decide +kernel)
set_option maxRecDepth 100000 in
theorem inX5 : ∀ w ∈ u_ws RX5 TX5 6, w ∈ tb := in_of [182, 184, 186, 188, 190, 192] (by decide +kernel)
set_option maxRecDepth 100000 in
theorem inX6 : ∀ w ∈ u_ws RX6 TX6 2, w ∈ tb := in_of [74, 76] (by decide +kernel)
set_option maxRecDepth 100000 in
theorem inX7 : ∀ w ∈ u_ws RX7 TX7 3, w ∈ tb := in_of [231, 233, 235] (by decide +kernel)
set_option maxRecDepth 100000 in
theorem inX8 : ∀ w ∈ u_ws RX8 TX8 1, w ∈ tb := in_of [98] (by decide +kernel)
set_option maxRecDepth 100000 in
theorem inX9 : ∀ w ∈ u_ws RX9 TX9 8, w ∈ tb := in_of [110, 112, 114, 116, 118, 120, 122, 124] (by decide +kernel)
set_option maxRecDepth 100000 in
theorem inX10 : ∀ w ∈ u_ws RX10 TX10 10, w ∈ tb := in_of [248, 250, 252, 254, 256, 258, 260, 262, 264, 266] (by decide +kernel)
set_option maxRecDepth 100000 in
theorem inX11 : ∀ w ∈ u_ws RX11 TX11 6, w ∈ tb := in_of [993, 995, 997, 999, 1001, 1039] (by decide +kernel)
set_option maxRecDepth 100000 in
theorem inX12 : ∀ w ∈ u_ws RX12 TX12 53, w ∈ tb := in_of [1098, 1100, 1102, 1104, 1106, 1108, 1110, 1112, 1114, 1116, 1118, 1120, 1122, 1124, 1126, 1128, 1130, 1132, 1134, 1136, 1138, 1140, 1142, 1144, 1146, 1148, 1150, 1152, 1154, 1156, 1158, 1160, 1162, 1164, 1166, 1168, 1170, 1172, 1174, 1176, 1178, 1180, 1182, 1184, 1186, 1188, 1190, 1192, 1194, 1196, 1198, 1200, 1202] (by decide +kernel)
set_option maxRecDepth 100000 in
theorem mf_X0_init : mI yX0_init cX0_init 2 0 := ⟨kd_X0_init, ki_X0, kj_X0_init, rfl, by decide +kernel⟩
set_option maxRecDepth 100000 in
theorem mf_X0_setDeclaration : mV yX0_setDeclaration cX0_setDeclaration 4 none 3 := ⟨kd_X0_setDeclaration, ki_X0, kj_X0_setDeclaration, kl_X0_setDeclaration, by decide +kernel⟩
set_option maxRecDepth 100000 in
theorem mf_X0_declaredFrom : mV yX0_declaredFrom cX0_declaredFrom 2 (some .int) 1 := ⟨kd_X0_declaredFrom, ki_X0, kj_X0_declaredFrom, kl_X0_declaredFrom, by decide +kernel⟩
set_option maxRecDepth 100000 in
theorem mf_X0_declaredTo : mV yX0_declaredTo cX0_declaredTo 2 (some .int) 1 := ⟨kd_X0_declaredTo, ki_X0, kj_X0_declaredTo, kl_X0_declaredTo, by decide +kernel⟩
set_option maxRecDepth 100000 in
theorem mf_X0_hasDeclared : mV yX0_hasDeclared cX0_hasDeclared 3 (some .boolean) 2 := ⟨kd_X0_hasDeclared, ki_X0, kj_X0_hasDeclared, kl_X0_hasDeclared, by decide +kernel⟩
set_option maxRecDepth 100000 in
theorem mf_X0_setWithoutName : mV yX0_setWithoutName cX0_setWithoutName 3 (some .boolean) 2 := ⟨kd_X0_setWithoutName, ki_X0, kj_X0_setWithoutName, kl_X0_setWithoutName, by decide +kernel⟩
set_option maxRecDepth 100000 in
theorem mf_X0_isWithoutName : mV yX0_isWithoutName cX0_isWithoutName 2 (some .boolean) 1 := ⟨kd_X0_isWithoutName, ki_X0, kj_X0_isWithoutName, kl_X0_isWithoutName, by decide +kernel⟩
set_option maxRecDepth 100000 in
theorem mf_X0_gotBack : mV yX0_gotBack cX0_gotBack 2 (some .int) 1 := ⟨kd_X0_gotBack, ki_X0, kj_X0_gotBack, kl_X0_gotBack, by decide +kernel⟩
set_option maxRecDepth 100000 in
theorem mf_X0_ofStone : mV yX0_ofStone cX0_ofStone 2 (some .int) 1 := ⟨kd_X0_ofStone, ki_X0, kj_X0_ofStone, kl_X0_ofStone, by decide +kernel⟩
set_option maxRecDepth 100000 in
theorem mf_X0_orderStones : mV yX0_orderStones cX0_orderStones 8 (some .int) 2 := ⟨kd_X0_orderStones, ki_X0, kj_X0_orderStones, kl_X0_orderStones, by decide +kernel⟩
set_option maxRecDepth 100000 in
theorem mf_X0_partCoin : mV yX0_partCoin cX0_partCoin 11 (some .int) 3 := ⟨kd_X0_partCoin, ki_X0, kj_X0_partCoin, kl_X0_partCoin, by decide +kernel⟩
set_option maxRecDepth 100000 in
theorem mf_X1_init : mI yX1_init cX1_init 7 5 := ⟨kd_X1_init, ki_X1, kj_X1_init, rfl, by decide +kernel⟩
set_option maxRecDepth 100000 in
theorem mf_X1_duesThatCome : mS yX1_duesThatCome cX1_duesThatCome 5 (some .int) 3 := ⟨kd_X1_duesThatCome, ki_X1, ks_X1_duesThatCome, by decide +kernel⟩
set_option maxRecDepth 100000 in
theorem mf_X1_monthOf : mV yX1_monthOf cX1_monthOf 2 (some .int) 1 := ⟨kd_X1_monthOf, ki_X1, kj_X1_monthOf, kl_X1_monthOf, by decide +kernel⟩
set_option maxRecDepth 100000 in
theorem mf_X1_giverNumber : mV yX1_giverNumber cX1_giverNumber 1 (some .int) 0 := ⟨kd_X1_giverNumber, ki_X1, kj_X1_giverNumber, kl_X1_giverNumber, by decide +kernel⟩
set_option maxRecDepth 100000 in
theorem mf_X1_penceToCome : mV yX1_penceToCome cX1_penceToCome 1 (some .int) 0 := ⟨kd_X1_penceToCome, ki_X1, kj_X1_penceToCome, kl_X1_penceToCome, by decide +kernel⟩
set_option maxRecDepth 100000 in
theorem mf_X1_filledInAll : mV yX1_filledInAll cX1_filledInAll 1 (some .int) 0 := ⟨kd_X1_filledInAll, ki_X1, kj_X1_filledInAll, kl_X1_filledInAll, by decide +kernel⟩
set_option maxRecDepth 100000 in
theorem mf_X1_isLapsed : mV yX1_isLapsed cX1_isLapsed 1 (some .boolean) 0 := ⟨kd_X1_isLapsed, ki_X1, kj_X1_isLapsed, kl_X1_isLapsed, by decide +kernel⟩
set_option maxRecDepth 100000 in
theorem mf_X1_firstLapse : mV yX1_firstLapse cX1_firstLapse 1 (some .int) 0 := ⟨kd_X1_firstLapse, ki_X1, kj_X1_firstLapse, kl_X1_firstLapse, by decide +kernel⟩
set_option maxRecDepth 100000 in
theorem mf_X1_mayBeTakenUp : mV yX1_mayBeTakenUp cX1_mayBeTakenUp 1 (some .boolean) 0 := ⟨kd_X1_mayBeTakenUp, ki_X1, kj_X1_mayBeTakenUp, kl_X1_mayBeTakenUp, by decide +kernel⟩
set_option maxRecDepth 100000 in
theorem mf_X1_overdue : mV yX1_overdue cX1_overdue 4 (some .int) 1 := ⟨kd_X1_overdue, ki_X1, kj_X1_overdue, kl_X1_overdue, by decide +kernel⟩
set_option maxRecDepth 100000 in
theorem mf_X1_unfilled : mV yX1_unfilled cX1_unfilled 1 (some .int) 0 := ⟨kd_X1_unfilled, ki_X1, kj_X1_unfilled, kl_X1_unfilled, by decide +kernel⟩
set_option maxRecDepth 100000 in
theorem mf_X1_unfilledWithin : mV yX1_unfilledWithin cX1_unfilledWithin 5 (some .int) 2 := ⟨kd_X1_unfilledWithin, ki_X1, kj_X1_unfilledWithin, kl_X1_unfilledWithin, by decide +kernel⟩
set_option maxRecDepth 100000 in
theorem mf_X1_nextDue : mV yX1_nextDue cX1_nextDue 3 (some .int) 1 := ⟨kd_X1_nextDue, ki_X1, kj_X1_nextDue, kl_X1_nextDue, by decide +kernel⟩
set_option maxRecDepth 100000 in
theorem mf_X1_duesToCome : mV yX1_duesToCome cX1_duesToCome 4 (some .int) 1 := ⟨kd_X1_duesToCome, ki_X1, kj_X1_duesToCome, kl_X1_duesToCome, by decide +kernel⟩
set_option maxRecDepth 100000 in
theorem mf_X1_dueSoFar : mV yX1_dueSoFar cX1_dueSoFar 4 (some .int) 1 := ⟨kd_X1_dueSoFar, ki_X1, kj_X1_dueSoFar, kl_X1_dueSoFar, by decide +kernel⟩
set_option maxRecDepth 100000 in
theorem mf_X1_filledSoFar : mV yX1_filledSoFar cX1_filledSoFar 4 (some .int) 1 := ⟨kd_X1_filledSoFar, ki_X1, kj_X1_filledSoFar, kl_X1_filledSoFar, by decide +kernel⟩
set_option maxRecDepth 100000 in
theorem mf_X1_setPence : mV yX1_setPence cX1_setPence 4 none 2 := ⟨kd_X1_setPence, ki_X1, kj_X1_setPence, kl_X1_setPence, by decide +kernel⟩
set_option maxRecDepth 100000 in
theorem mf_X1_fill : mV yX1_fill cX1_fill 5 none 1 := ⟨kd_X1_fill, ki_X1, kj_X1_fill, kl_X1_fill, by decide +kernel⟩
set_option maxRecDepth 100000 in
theorem mf_X1_lapseIn : mV yX1_lapseIn cX1_lapseIn 3 none 1 := ⟨kd_X1_lapseIn, ki_X1, kj_X1_lapseIn, kl_X1_lapseIn, by decide +kernel⟩
set_option maxRecDepth 100000 in
theorem mf_X1_standAgain : mV yX1_standAgain cX1_standAgain 3 none 1 := ⟨kd_X1_standAgain, ki_X1, kj_X1_standAgain, kl_X1_standAgain, by decide +kernel⟩
set_option maxRecDepth 100000 in
theorem mf_X2_init : mI yX2_init cX2_init 1 0 := ⟨kd_X2_init, ki_X2, kj_X2_init, rfl, by decide +kernel⟩
set_option maxRecDepth 100000 in
theorem mf_X2_size : mV yX2_size cX2_size 1 (some .int) 0 := ⟨kd_X2_size, ki_X2, kj_X2_size, kl_X2_size, by decide +kernel⟩
set_option maxRecDepth 100000 in
theorem mf_X2_isFull : mV yX2_isFull cX2_isFull 1 (some .boolean) 0 := ⟨kd_X2_isFull, ki_X2, kj_X2_isFull, kl_X2_isFull, by decide +kernel⟩
set_option maxRecDepth 100000 in
theorem mf_X2_add : mV yX2_add cX2_add 2 (some .int) 1 := ⟨kd_X2_add, ki_X2, kj_X2_add, kl_X2_add, by decide +kernel⟩
set_option maxRecDepth 100000 in
theorem mf_X2_at : mV yX2_at cX2_at 2 (some (.object "TowerAppeal$Pledge")) 1 := ⟨kd_X2_at, ki_X2, kj_X2_at, kl_X2_at, by decide +kernel⟩
set_option maxRecDepth 100000 in
theorem mf_X2_lapsedNow : mV yX2_lapsedNow cX2_lapsedNow 4 (some .int) 0 := ⟨kd_X2_lapsedNow, ki_X2, kj_X2_lapsedNow, kl_X2_lapsedNow, by decide +kernel⟩
set_option maxRecDepth 100000 in
theorem mf_X2_lapseAll : mV yX2_lapseAll cX2_lapseAll 5 none 2 := ⟨kd_X2_lapseAll, ki_X2, kj_X2_lapseAll, kl_X2_lapseAll, by decide +kernel⟩
set_option maxRecDepth 100000 in
theorem mf_X2_sureWithin : mV yX2_sureWithin cX2_sureWithin 11 (some .int) 2 := ⟨kd_X2_sureWithin, ki_X2, kj_X2_sureWithin, kl_X2_sureWithin, by decide +kernel⟩
set_option maxRecDepth 100000 in
theorem mf_X3_init : mI yX3_init cX3_init 1 0 := ⟨kd_X3_init, ki_X3, kj_X3_init, rfl, by decide +kernel⟩
set_option maxRecDepth 100000 in
theorem mf_X3_coin : mV yX3_coin cX3_coin 1 (some .long) 0 := ⟨kd_X3_coin, ki_X3, kj_X3_coin, kl_X3_coin, by decide +kernel⟩
set_option maxRecDepth 100000 in
theorem mf_X3_loan : mV yX3_loan cX3_loan 1 (some .long) 0 := ⟨kd_X3_loan, ki_X3, kj_X3_loan, kl_X3_loan, by decide +kernel⟩
set_option maxRecDepth 100000 in
theorem mf_X3_matched : mV yX3_matched cX3_matched 1 (some .long) 0 := ⟨kd_X3_matched, ki_X3, kj_X3_matched, kl_X3_matched, by decide +kernel⟩
set_option maxRecDepth 100000 in
theorem mf_X3_tax : mV yX3_tax cX3_tax 1 (some .long) 0 := ⟨kd_X3_tax, ki_X3, kj_X3_tax, kl_X3_tax, by decide +kernel⟩
set_option maxRecDepth 100000 in
theorem mf_X3_paidForStages : mV yX3_paidForStages cX3_paidForStages 1 (some .long) 0 := ⟨kd_X3_paidForStages, ki_X3, kj_X3_paidForStages, kl_X3_paidForStages, by decide +kernel⟩
set_option maxRecDepth 100000 in
theorem mf_X3_grown : mV yX3_grown cX3_grown 1 (some .long) 0 := ⟨kd_X3_grown, ki_X3, kj_X3_grown, kl_X3_grown, by decide +kernel⟩
set_option maxRecDepth 100000 in
theorem mf_X3_takeSum : mV yX3_takeSum cX3_takeSum 10 (some .int) 3 := ⟨kd_X3_takeSum, ki_X3, kj_X3_takeSum, kl_X3_takeSum, by decide +kernel⟩
set_option maxRecDepth 100000 in
theorem mf_X3_takeTax : mV yX3_takeTax cX3_takeTax 2 none 1 := ⟨kd_X3_takeTax, ki_X3, kj_X3_takeTax, kl_X3_takeTax, by decide +kernel⟩
set_option maxRecDepth 100000 in
theorem mf_X3_growLoan : mV yX3_growLoan cX3_growLoan 4 none 1 := ⟨kd_X3_growLoan, ki_X3, kj_X3_growLoan, kl_X3_growLoan, by decide +kernel⟩
set_option maxRecDepth 100000 in
theorem mf_X3_paysPart : mV yX3_paysPart cX3_paysPart 7 (some .boolean) 2 := ⟨kd_X3_paysPart, ki_X3, kj_X3_paysPart, kl_X3_paysPart, by decide +kernel⟩
set_option maxRecDepth 100000 in
theorem mf_X3_payBackLoan : mV yX3_payBackLoan cX3_payBackLoan 3 none 0 := ⟨kd_X3_payBackLoan, ki_X3, kj_X3_payBackLoan, kl_X3_payBackLoan, by decide +kernel⟩
set_option maxRecDepth 100000 in
theorem mf_X3_giveBack : mV yX3_giveBack cX3_giveBack 2 none 1 := ⟨kd_X3_giveBack, ki_X3, kj_X3_giveBack, kl_X3_giveBack, by decide +kernel⟩
set_option maxRecDepth 100000 in
theorem mf_X4_init : mI yX4_init cX4_init 3 2 := ⟨kd_X4_init, ki_X4, kj_X4_init, rfl, by decide +kernel⟩
set_option maxRecDepth 100000 in
theorem mf_X4_cost : mV yX4_cost cX4_cost 1 (some .int) 0 := ⟨kd_X4_cost, ki_X4, kj_X4_cost, kl_X4_cost, by decide +kernel⟩
set_option maxRecDepth 100000 in
theorem mf_X4_parts : mV yX4_parts cX4_parts 1 (some .int) 0 := ⟨kd_X4_parts, ki_X4, kj_X4_parts, kl_X4_parts, by decide +kernel⟩
set_option maxRecDepth 100000 in
theorem mf_X4_progress : mV yX4_progress cX4_progress 1 (some .int) 0 := ⟨kd_X4_progress, ki_X4, kj_X4_progress, kl_X4_progress, by decide +kernel⟩
set_option maxRecDepth 100000 in
theorem mf_X4_paid : mV yX4_paid cX4_paid 1 (some .int) 0 := ⟨kd_X4_paid, ki_X4, kj_X4_paid, kl_X4_paid, by decide +kernel⟩
set_option maxRecDepth 100000 in
theorem mf_X4_paused : mV yX4_paused cX4_paused 1 (some .int) 0 := ⟨kd_X4_paused, ki_X4, kj_X4_paused, kl_X4_paused, by decide +kernel⟩
set_option maxRecDepth 100000 in
theorem mf_X4_runs : mV yX4_runs cX4_runs 1 (some .boolean) 0 := ⟨kd_X4_runs, ki_X4, kj_X4_runs, kl_X4_runs, by decide +kernel⟩
set_option maxRecDepth 100000 in
theorem mf_X4_start : mV yX4_start cX4_start 1 none 0 := ⟨kd_X4_start, ki_X4, kj_X4_start, kl_X4_start, by decide +kernel⟩
set_option maxRecDepth 100000 in
theorem mf_X4_nextPart : mV yX4_nextPart cX4_nextPart 1 (some .int) 0 := ⟨kd_X4_nextPart, ki_X4, kj_X4_nextPart, kl_X4_nextPart, by decide +kernel⟩
set_option maxRecDepth 100000 in
theorem mf_X4_bookPart : mV yX4_bookPart cX4_bookPart 2 none 1 := ⟨kd_X4_bookPart, ki_X4, kj_X4_bookPart, kl_X4_bookPart, by decide +kernel⟩
set_option maxRecDepth 100000 in
theorem mf_X4_bookPause : mV yX4_bookPause cX4_bookPause 1 none 0 := ⟨kd_X4_bookPause, ki_X4, kj_X4_bookPause, kl_X4_bookPause, by decide +kernel⟩
set_option maxRecDepth 100000 in
theorem mf_X5_init : mI yX5_init cX5_init 1 0 := ⟨kd_X5_init, ki_X5, kj_X5_init, rfl, by decide +kernel⟩
set_option maxRecDepth 100000 in
theorem mf_X5_size : mV yX5_size cX5_size 1 (some .int) 0 := ⟨kd_X5_size, ki_X5, kj_X5_size, kl_X5_size, by decide +kernel⟩
set_option maxRecDepth 100000 in
theorem mf_X5_total : mV yX5_total cX5_total 1 (some .long) 0 := ⟨kd_X5_total, ki_X5, kj_X5_total, kl_X5_total, by decide +kernel⟩
set_option maxRecDepth 100000 in
theorem mf_X5_isFull : mV yX5_isFull cX5_isFull 1 (some .boolean) 0 := ⟨kd_X5_isFull, ki_X5, kj_X5_isFull, kl_X5_isFull, by decide +kernel⟩
set_option maxRecDepth 100000 in
theorem mf_X5_add : mV yX5_add cX5_add 4 none 3 := ⟨kd_X5_add, ki_X5, kj_X5_add, kl_X5_add, by decide +kernel⟩
set_option maxRecDepth 100000 in
theorem mf_X5_giverOf : mV yX5_giverOf cX5_giverOf 2 (some .int) 1 := ⟨kd_X5_giverOf, ki_X5, kj_X5_giverOf, kl_X5_giverOf, by decide +kernel⟩
set_option maxRecDepth 100000 in
theorem mf_X5_penceOf : mV yX5_penceOf cX5_penceOf 2 (some .int) 1 := ⟨kd_X5_penceOf, ki_X5, kj_X5_penceOf, kl_X5_penceOf, by decide +kernel⟩
set_option maxRecDepth 100000 in
theorem mf_X5_givenBy : mV yX5_givenBy cX5_givenBy 4 (some .int) 1 := ⟨kd_X5_givenBy, ki_X5, kj_X5_givenBy, kl_X5_givenBy, by decide +kernel⟩
set_option maxRecDepth 100000 in
theorem mf_X5_unclaimedOf : mV yX5_unclaimedOf cX5_unclaimedOf 4 (some .int) 1 := ⟨kd_X5_unclaimedOf, ki_X5, kj_X5_unclaimedOf, kl_X5_unclaimedOf, by decide +kernel⟩
set_option maxRecDepth 100000 in
theorem mf_X5_claimTax : mV yX5_claimTax cX5_claimTax 6 (some .int) 2 := ⟨kd_X5_claimTax, ki_X5, kj_X5_claimTax, kl_X5_claimTax, by decide +kernel⟩
set_option maxRecDepth 100000 in
theorem mf_X6_init : mI yX6_init cX6_init 1 0 := ⟨kd_X6_init, ki_X6, kj_X6_init, rfl, by decide +kernel⟩
set_option maxRecDepth 100000 in
theorem mf_X6_length : mV yX6_length cX6_length 1 (some .int) 0 := ⟨kd_X6_length, ki_X6, kj_X6_length, kl_X6_length, by decide +kernel⟩
set_option maxRecDepth 100000 in
theorem mf_X6_hasRoomForTwenty : mV yX6_hasRoomForTwenty cX6_hasRoomForTwenty 1 (some .boolean) 0 := ⟨kd_X6_hasRoomForTwenty, ki_X6, kj_X6_hasRoomForTwenty, kl_X6_hasRoomForTwenty, by decide +kernel⟩
set_option maxRecDepth 100000 in
theorem mf_X6_putFour : mV yX6_putFour cX6_putFour 3 none 1 := ⟨kd_X6_putFour, ki_X6, kj_X6_putFour, kl_X6_putFour, by decide +kernel⟩
set_option maxRecDepth 100000 in
theorem mf_X6_cutTo : mV yX6_cutTo cX6_cutTo 2 none 1 := ⟨kd_X6_cutTo, ki_X6, kj_X6_cutTo, kl_X6_cutTo, by decide +kernel⟩
set_option maxRecDepth 100000 in
theorem mf_X6_at : mV yX6_at cX6_at 2 (some .int) 1 := ⟨kd_X6_at, ki_X6, kj_X6_at, kl_X6_at, by decide +kernel⟩
set_option maxRecDepth 100000 in
theorem mf_X7_init : mI yX7_init cX7_init 1 0 := ⟨kd_X7_init, ki_X7, kj_X7_init, rfl, by decide +kernel⟩
set_option maxRecDepth 100000 in
theorem mf_X7_size : mV yX7_size cX7_size 1 (some .int) 0 := ⟨kd_X7_size, ki_X7, kj_X7_size, kl_X7_size, by decide +kernel⟩
set_option maxRecDepth 100000 in
theorem mf_X7_isFull : mV yX7_isFull cX7_isFull 1 (some .boolean) 0 := ⟨kd_X7_isFull, ki_X7, kj_X7_isFull, kl_X7_isFull, by decide +kernel⟩
set_option maxRecDepth 100000 in
theorem mf_X7_add : mV yX7_add cX7_add 2 (some .int) 1 := ⟨kd_X7_add, ki_X7, kj_X7_add, kl_X7_add, by decide +kernel⟩
set_option maxRecDepth 100000 in
theorem mf_X7_at : mV yX7_at cX7_at 2 (some (.object "TowerAppeal$Stage")) 1 := ⟨kd_X7_at, ki_X7, kj_X7_at, kl_X7_at, by decide +kernel⟩
set_option maxRecDepth 100000 in
theorem mf_X7_running : mV yX7_running cX7_running 2 (some (.object "TowerAppeal$Stage")) 0 := ⟨kd_X7_running, ki_X7, kj_X7_running, kl_X7_running, by decide +kernel⟩
set_option maxRecDepth 100000 in
theorem mf_X7_mayStartNext : mV yX7_mayStartNext cX7_mayStartNext 1 (some .boolean) 0 := ⟨kd_X7_mayStartNext, ki_X7, kj_X7_mayStartNext, kl_X7_mayStartNext, by decide +kernel⟩
set_option maxRecDepth 100000 in
theorem mf_X7_startNext : mV yX7_startNext cX7_startNext 2 (some .int) 0 := ⟨kd_X7_startNext, ki_X7, kj_X7_startNext, kl_X7_startNext, by decide +kernel⟩
set_option maxRecDepth 100000 in
theorem mf_X7_payPart : mV yX7_payPart cX7_payPart 5 none 2 := ⟨kd_X7_payPart, ki_X7, kj_X7_payPart, kl_X7_payPart, by decide +kernel⟩
set_option maxRecDepth 100000 in
theorem mf_X8_init : mI yX8_init cX8_init 1 0 := ⟨kd_X8_init, ki_X8, kj_X8_init, rfl, by decide +kernel⟩
set_option maxRecDepth 100000 in
theorem mf_X8_forget : mV yX8_forget cX8_forget 1 none 0 := ⟨kd_X8_forget, ki_X8, kj_X8_forget, kl_X8_forget, by decide +kernel⟩
set_option maxRecDepth 100000 in
theorem mf_X8_takeOver : mV yX8_takeOver cX8_takeOver 2 none 1 := ⟨kd_X8_takeOver, ki_X8, kj_X8_takeOver, kl_X8_takeOver, by decide +kernel⟩
set_option maxRecDepth 100000 in
theorem mf_X8_at : mV yX8_at cX8_at 2 (some .int) 1 := ⟨kd_X8_at, ki_X8, kj_X8_at, kl_X8_at, by decide +kernel⟩
set_option maxRecDepth 100000 in
theorem mf_X8_put : mV yX8_put cX8_put 3 none 2 := ⟨kd_X8_put, ki_X8, kj_X8_put, kl_X8_put, by decide +kernel⟩
set_option maxRecDepth 100000 in
theorem mf_X8_matchHundredths : mV yX8_matchHundredths cX8_matchHundredths 1 (some .int) 0 := ⟨kd_X8_matchHundredths, ki_X8, kj_X8_matchHundredths, kl_X8_matchHundredths, by decide +kernel⟩
set_option maxRecDepth 100000 in
theorem mf_X8_matchCapPence : mV yX8_matchCapPence cX8_matchCapPence 1 (some .int) 0 := ⟨kd_X8_matchCapPence, ki_X8, kj_X8_matchCapPence, kl_X8_matchCapPence, by decide +kernel⟩
set_option maxRecDepth 100000 in
theorem mf_X8_matchTill : mV yX8_matchTill cX8_matchTill 1 (some .int) 0 := ⟨kd_X8_matchTill, ki_X8, kj_X8_matchTill, kl_X8_matchTill, by decide +kernel⟩
set_option maxRecDepth 100000 in
theorem mf_X8_taxHundredths : mV yX8_taxHundredths cX8_taxHundredths 1 (some .int) 0 := ⟨kd_X8_taxHundredths, ki_X8, kj_X8_taxHundredths, kl_X8_taxHundredths, by decide +kernel⟩
set_option maxRecDepth 100000 in
theorem mf_X8_lapseDues : mV yX8_lapseDues cX8_lapseDues 1 (some .int) 0 := ⟨kd_X8_lapseDues, ki_X8, kj_X8_lapseDues, kl_X8_lapseDues, by decide +kernel⟩
set_option maxRecDepth 100000 in
theorem mf_X8_loanPence : mV yX8_loanPence cX8_loanPence 1 (some .int) 0 := ⟨kd_X8_loanPence, ki_X8, kj_X8_loanPence, kl_X8_loanPence, by decide +kernel⟩
set_option maxRecDepth 100000 in
theorem mf_X8_loanThousandths : mV yX8_loanThousandths cX8_loanThousandths 1 (some .int) 0 := ⟨kd_X8_loanThousandths, ki_X8, kj_X8_loanThousandths, kl_X8_loanThousandths, by decide +kernel⟩
set_option maxRecDepth 100000 in
theorem mf_X8_stonePence : mV yX8_stonePence cX8_stonePence 1 (some .int) 0 := ⟨kd_X8_stonePence, ki_X8, kj_X8_stonePence, kl_X8_stonePence, by decide +kernel⟩
set_option maxRecDepth 100000 in
theorem mf_X8_givesAllBack : mV yX8_givesAllBack cX8_givesAllBack 1 (some .boolean) 0 := ⟨kd_X8_givesAllBack, ki_X8, kj_X8_givesAllBack, kl_X8_givesAllBack, by decide +kernel⟩
set_option maxRecDepth 100000 in
theorem mf_X9_init : mI yX9_init cX9_init 1 0 := ⟨kd_X9_init, ki_X9, kj_X9_init, rfl, by decide +kernel⟩
set_option maxRecDepth 100000 in
theorem mf_X9_draft : mV yX9_draft cX9_draft 1 (some (.object "TowerAppeal$Trust")) 0 := ⟨kd_X9_draft, ki_X9, kj_X9_draft, kl_X9_draft, by decide +kernel⟩
set_option maxRecDepth 100000 in
theorem mf_X9_faultKind : mV yX9_faultKind cX9_faultKind 1 (some .int) 0 := ⟨kd_X9_faultKind, ki_X9, kj_X9_faultKind, kl_X9_faultKind, by decide +kernel⟩
set_option maxRecDepth 100000 in
theorem mf_X9_faultPlace : mV yX9_faultPlace cX9_faultPlace 1 (some .int) 0 := ⟨kd_X9_faultPlace, ki_X9, kj_X9_faultPlace, kl_X9_faultPlace, by decide +kernel⟩
set_option maxRecDepth 100000 in
theorem mf_X9_read : mV yX9_read cX9_read 4 (some .int) 1 := ⟨kd_X9_read, ki_X9, kj_X9_read, kl_X9_read, by decide +kernel⟩
set_option maxRecDepth 100000 in
theorem mf_X9_startAnew : mV yX9_startAnew cX9_startAnew 2 none 0 := ⟨kd_X9_startAnew, ki_X9, kj_X9_startAnew, kl_X9_startAnew, by decide +kernel⟩
set_option maxRecDepth 100000 in
theorem mf_X9_refuse : mV yX9_refuse cX9_refuse 2 none 1 := ⟨kd_X9_refuse, ki_X9, kj_X9_refuse, kl_X9_refuse, by decide +kernel⟩
set_option maxRecDepth 100000 in
theorem mf_X9_readLine : mV yX9_readLine cX9_readLine 3 none 1 := ⟨kd_X9_readLine, ki_X9, kj_X9_readLine, kl_X9_readLine, by decide +kernel⟩
set_option maxRecDepth 100000 in
theorem mf_X9_readNumbers : mV yX9_readNumbers cX9_readNumbers 6 none 2 := ⟨kd_X9_readNumbers, ki_X9, kj_X9_readNumbers, kl_X9_readNumbers, by decide +kernel⟩
set_option maxRecDepth 100000 in
theorem mf_X9_isInBounds : mS yX9_isInBounds cX9_isInBounds 2 (some .boolean) 2 := ⟨kd_X9_isInBounds, ki_X9, ks_X9_isInBounds, by decide +kernel⟩
set_option maxRecDepth 100000 in
theorem mf_X9_readStop : mV yX9_readStop cX9_readStop 2 none 1 := ⟨kd_X9_readStop, ki_X9, kj_X9_readStop, kl_X9_readStop, by decide +kernel⟩
set_option maxRecDepth 100000 in
theorem mf_X9_lineOfWord : mV yX9_lineOfWord cX9_lineOfWord 2 (some .int) 1 := ⟨kd_X9_lineOfWord, ki_X9, kj_X9_lineOfWord, kl_X9_lineOfWord, by decide +kernel⟩
set_option maxRecDepth 100000 in
theorem mf_X9_isWord : mV yX9_isWord cX9_isWord 4 (some .boolean) 2 := ⟨kd_X9_isWord, ki_X9, kj_X9_isWord, kl_X9_isWord, by decide +kernel⟩
set_option maxRecDepth 100000 in
theorem mf_X9_readToken : mV yX9_readToken cX9_readToken 3 none 1 := ⟨kd_X9_readToken, ki_X9, kj_X9_readToken, kl_X9_readToken, by decide +kernel⟩
set_option maxRecDepth 100000 in
theorem mf_X9_readWord : mV yX9_readWord cX9_readWord 2 none 1 := ⟨kd_X9_readWord, ki_X9, kj_X9_readWord, kl_X9_readWord, by decide +kernel⟩
set_option maxRecDepth 100000 in
theorem mf_X9_readNumber : mV yX9_readNumber cX9_readNumber 2 none 1 := ⟨kd_X9_readNumber, ki_X9, kj_X9_readNumber, kl_X9_readNumber, by decide +kernel⟩
set_option maxRecDepth 100000 in
theorem mf_X9_isBlank : mS yX9_isBlank cX9_isBlank 1 (some .boolean) 1 := ⟨kd_X9_isBlank, ki_X9, ks_X9_isBlank, by decide +kernel⟩
set_option maxRecDepth 100000 in
theorem mf_X9_isLetter : mS yX9_isLetter cX9_isLetter 1 (some .boolean) 1 := ⟨kd_X9_isLetter, ki_X9, ks_X9_isLetter, by decide +kernel⟩
set_option maxRecDepth 100000 in
theorem mf_X9_isDigit : mS yX9_isDigit cX9_isDigit 1 (some .boolean) 1 := ⟨kd_X9_isDigit, ki_X9, ks_X9_isDigit, by decide +kernel⟩
set_option maxRecDepth 100000 in
theorem mf_X10_init : mI yX10_init cX10_init 1 0 := ⟨kd_X10_init, ki_X10, kj_X10_init, rfl, by decide +kernel⟩
set_option maxRecDepth 100000 in
theorem mf_X10_feed : mV yX10_feed cX10_feed 6 (some .int) 5 := ⟨kd_X10_feed, ki_X10, kj_X10_feed, kl_X10_feed, by decide +kernel⟩
set_option maxRecDepth 100000 in
theorem mf_X10_end : mV yX10_end cX10_end 2 (some .int) 1 := ⟨kd_X10_end, ki_X10, kj_X10_end, kl_X10_end, by decide +kernel⟩
set_option maxRecDepth 100000 in
theorem mf_X10_trust : mV yX10_trust cX10_trust 2 (some .int) 0 := ⟨kd_X10_trust, ki_X10, kj_X10_trust, kl_X10_trust, by decide +kernel⟩
set_option maxRecDepth 100000 in
theorem mf_X10_fault : mV yX10_fault cX10_fault 2 (some .int) 1 := ⟨kd_X10_fault, ki_X10, kj_X10_fault, kl_X10_fault, by decide +kernel⟩
set_option maxRecDepth 100000 in
theorem mf_X10_rule : mV yX10_rule cX10_rule 2 (some .int) 1 := ⟨kd_X10_rule, ki_X10, kj_X10_rule, kl_X10_rule, by decide +kernel⟩
set_option maxRecDepth 100000 in
theorem mf_X10_declare : mV yX10_declare cX10_declare 4 (some .int) 3 := ⟨kd_X10_declare, ki_X10, kj_X10_declare, kl_X10_declare, by decide +kernel⟩
set_option maxRecDepth 100000 in
theorem mf_X10_nameless : mV yX10_nameless cX10_nameless 3 (some .int) 2 := ⟨kd_X10_nameless, ki_X10, kj_X10_nameless, kl_X10_nameless, by decide +kernel⟩
set_option maxRecDepth 100000 in
theorem mf_X10_pledge : mV yX10_pledge cX10_pledge 6 (some .int) 5 := ⟨kd_X10_pledge, ki_X10, kj_X10_pledge, kl_X10_pledge, by decide +kernel⟩
set_option maxRecDepth 100000 in
theorem mf_X10_change : mV yX10_change cX10_change 4 (some .int) 2 := ⟨kd_X10_change, ki_X10, kj_X10_change, kl_X10_change, by decide +kernel⟩
set_option maxRecDepth 100000 in
theorem mf_X10_pay : mV yX10_pay cX10_pay 4 (some .int) 2 := ⟨kd_X10_pay, ki_X10, kj_X10_pay, kl_X10_pay, by decide +kernel⟩
set_option maxRecDepth 100000 in
theorem mf_X10_gift : mV yX10_gift cX10_gift 3 (some .int) 2 := ⟨kd_X10_gift, ki_X10, kj_X10_gift, kl_X10_gift, by decide +kernel⟩
set_option maxRecDepth 100000 in
theorem mf_X10_takeUp : mV yX10_takeUp cX10_takeUp 3 (some .int) 1 := ⟨kd_X10_takeUp, ki_X10, kj_X10_takeUp, kl_X10_takeUp, by decide +kernel⟩
set_option maxRecDepth 100000 in
theorem mf_X10_claim : mV yX10_claim cX10_claim 2 (some .int) 0 := ⟨kd_X10_claim, ki_X10, kj_X10_claim, kl_X10_claim, by decide +kernel⟩
set_option maxRecDepth 100000 in
theorem mf_X10_about : mV yX10_about cX10_about 4 (some .int) 2 := ⟨kd_X10_about, ki_X10, kj_X10_about, kl_X10_about, by decide +kernel⟩
set_option maxRecDepth 100000 in
theorem mf_X10_giver : mV yX10_giver cX10_giver 3 (some .int) 2 := ⟨kd_X10_giver, ki_X10, kj_X10_giver, kl_X10_giver, by decide +kernel⟩
set_option maxRecDepth 100000 in
theorem mf_X10_stage : mV yX10_stage cX10_stage 3 (some .int) 2 := ⟨kd_X10_stage, ki_X10, kj_X10_stage, kl_X10_stage, by decide +kernel⟩
set_option maxRecDepth 100000 in
theorem mf_X10_begin : mV yX10_begin cX10_begin 1 (some .int) 0 := ⟨kd_X10_begin, ki_X10, kj_X10_begin, kl_X10_begin, by decide +kernel⟩
set_option maxRecDepth 100000 in
theorem mf_X10_built : mV yX10_built cX10_built 4 (some .int) 2 := ⟨kd_X10_built, ki_X10, kj_X10_built, kl_X10_built, by decide +kernel⟩
set_option maxRecDepth 100000 in
theorem mf_X10_months : mV yX10_months cX10_months 3 (some .int) 1 := ⟨kd_X10_months, ki_X10, kj_X10_months, kl_X10_months, by decide +kernel⟩
set_option maxRecDepth 100000 in
theorem mf_X10_sure : mV yX10_sure cX10_sure 2 (some .int) 1 := ⟨kd_X10_sure, ki_X10, kj_X10_sure, kl_X10_sure, by decide +kernel⟩
set_option maxRecDepth 100000 in
theorem mf_X10_stone : mV yX10_stone cX10_stone 3 (some .int) 1 := ⟨kd_X10_stone, ki_X10, kj_X10_stone, kl_X10_stone, by decide +kernel⟩
set_option maxRecDepth 100000 in
theorem mf_X10_stop : mV yX10_stop cX10_stop 2 (some .int) 0 := ⟨kd_X10_stop, ki_X10, kj_X10_stop, kl_X10_stop, by decide +kernel⟩
set_option maxRecDepth 100000 in
theorem mf_X10_back : mV yX10_back cX10_back 2 (some .int) 1 := ⟨kd_X10_back, ki_X10, kj_X10_back, kl_X10_back, by decide +kernel⟩
set_option maxRecDepth 100000 in
theorem mf_X10_count : mV yX10_count cX10_count 2 (some .int) 1 := ⟨kd_X10_count, ki_X10, kj_X10_count, kl_X10_count, by decide +kernel⟩
set_option maxRecDepth 100000 in
theorem mf_X10_isGiver : mS yX10_isGiver cX10_isGiver 1 (some .boolean) 1 := ⟨kd_X10_isGiver, ki_X10, ks_X10_isGiver, by decide +kernel⟩
set_option maxRecDepth 100000 in
theorem mf_X10_isSum : mS yX10_isSum cX10_isSum 1 (some .boolean) 1 := ⟨kd_X10_isSum, ki_X10, ks_X10_isSum, by decide +kernel⟩
set_option maxRecDepth 100000 in
theorem mf_X10_isWithin : mS yX10_isWithin cX10_isWithin 3 (some .boolean) 3 := ⟨kd_X10_isWithin, ki_X10, ks_X10_isWithin, by decide +kernel⟩
set_option maxRecDepth 100000 in
theorem mf_X10_receive : mV yX10_receive cX10_receive 3 (some .int) 2 := ⟨kd_X10_receive, ki_X10, kj_X10_receive, kl_X10_receive, by decide +kernel⟩
set_option maxRecDepth 100000 in
theorem mf_X10_endMonth : mV yX10_endMonth cX10_endMonth 1 none 0 := ⟨kd_X10_endMonth, ki_X10, kj_X10_endMonth, kl_X10_endMonth, by decide +kernel⟩
set_option maxRecDepth 100000 in
theorem mf_X11_init : mI yX11_init cX11_init 1 0 := ⟨kd_X11_init, ki_X11, kj_X11_init, rfl, by decide +kernel⟩
set_option maxRecDepth 100000 in
theorem mf_X12_in : mS yX12_in cX12_in 6 (some .boolean) 3 := ⟨kd_X12_in, ki_X12, ks_X12_in, by decide +kernel⟩
set_option maxRecDepth 100000 in
theorem mf_X12_wrong : mV yX12_wrong cX12_wrong 2 (some (.object "TowerAppealModel$Stop")) 1 := ⟨kd_X12_wrong, ki_X12, kj_X12_wrong, kl_X12_wrong, by decide +kernel⟩
set_option maxRecDepth 100000 in
theorem mf_X12_byteAt : mV yX12_byteAt cX12_byteAt 2 (some .int) 1 := ⟨kd_X12_byteAt, ki_X12, kj_X12_byteAt, kl_X12_byteAt, by decide +kernel⟩
set_option maxRecDepth 100000 in
theorem mf_X12_isLetter : mS yX12_isLetter cX12_isLetter 1 (some .boolean) 1 := ⟨kd_X12_isLetter, ki_X12, ks_X12_isLetter, by decide +kernel⟩
set_option maxRecDepth 100000 in
theorem mf_X12_isDigit : mS yX12_isDigit cX12_isDigit 1 (some .boolean) 1 := ⟨kd_X12_isDigit, ki_X12, ks_X12_isDigit, by decide +kernel⟩
set_option maxRecDepth 100000 in
theorem mf_X12_scan : mV yX12_scan cX12_scan 2 none 0 := ⟨kd_X12_scan, ki_X12, kj_X12_scan, kl_X12_scan, by decide +kernel⟩
set_option maxRecDepth 100000 in
theorem mf_X12_is : mV yX12_is cX12_is 4 (some .boolean) 1 := ⟨kd_X12_is, ki_X12, kj_X12_is, kl_X12_is, by decide +kernel⟩
set_option maxRecDepth 100000 in
theorem mf_X12_number : mV yX12_number cX12_number 4 (some .int) 2 := ⟨kd_X12_number, ki_X12, kj_X12_number, kl_X12_number, by decide +kernel⟩
set_option maxRecDepth 100000 in
theorem mf_X12_key : mV yX12_key cX12_key 1 (some .int) 0 := ⟨kd_X12_key, ki_X12, kj_X12_key, kl_X12_key, by decide +kernel⟩
set_option maxRecDepth 100000 in
theorem mf_X12_readTrust : mV yX12_readTrust cX12_readTrust 3 (some .int) 0 := ⟨kd_X12_readTrust, ki_X12, kj_X12_readTrust, kl_X12_readTrust, by decide +kernel⟩
set_option maxRecDepth 100000 in
theorem mf_X12_readLine : mV yX12_readLine cX12_readLine 2 none 1 := ⟨kd_X12_readLine, ki_X12, kj_X12_readLine, kl_X12_readLine, by decide +kernel⟩
set_option maxRecDepth 100000 in
theorem mf_X12_init : mI yX12_init cX12_init 2 0 := ⟨kd_X12_init, ki_X12, kj_X12_init, rfl, by decide +kernel⟩
set_option maxRecDepth 100000 in
theorem mf_X12_feed : mV yX12_feed cX12_feed 6 (some .int) 5 := ⟨kd_X12_feed, ki_X12, kj_X12_feed, kl_X12_feed, by decide +kernel⟩
set_option maxRecDepth 100000 in
theorem mf_X12_lay : mV yX12_lay cX12_lay 3 none 1 := ⟨kd_X12_lay, ki_X12, kj_X12_lay, kl_X12_lay, by decide +kernel⟩
set_option maxRecDepth 100000 in
theorem mf_X12_end : mV yX12_end cX12_end 2 (some .int) 1 := ⟨kd_X12_end, ki_X12, kj_X12_end, kl_X12_end, by decide +kernel⟩
set_option maxRecDepth 100000 in
theorem mf_X12_fault : mV yX12_fault cX12_fault 2 (some .int) 1 := ⟨kd_X12_fault, ki_X12, kj_X12_fault, kl_X12_fault, by decide +kernel⟩
set_option maxRecDepth 100000 in
theorem mf_X12_rule : mV yX12_rule cX12_rule 2 (some .int) 1 := ⟨kd_X12_rule, ki_X12, kj_X12_rule, kl_X12_rule, by decide +kernel⟩
set_option maxRecDepth 100000 in
theorem mf_X12_isGiver : mS yX12_isGiver cX12_isGiver 1 (some .boolean) 1 := ⟨kd_X12_isGiver, ki_X12, ks_X12_isGiver, by decide +kernel⟩
set_option maxRecDepth 100000 in
theorem mf_X12_isMonth : mS yX12_isMonth cX12_isMonth 1 (some .boolean) 1 := ⟨kd_X12_isMonth, ki_X12, ks_X12_isMonth, by decide +kernel⟩
set_option maxRecDepth 100000 in
theorem mf_X12_declare : mV yX12_declare cX12_declare 4 (some .int) 3 := ⟨kd_X12_declare, ki_X12, kj_X12_declare, kl_X12_declare, by decide +kernel⟩
set_option maxRecDepth 100000 in
theorem mf_X12_nameless : mV yX12_nameless cX12_nameless 4 (some .int) 2 := ⟨kd_X12_nameless, ki_X12, kj_X12_nameless, kl_X12_nameless, by decide +kernel⟩
set_option maxRecDepth 100000 in
theorem mf_X12_monthOf : mV yX12_monthOf cX12_monthOf 3 (some .int) 2 := ⟨kd_X12_monthOf, ki_X12, kj_X12_monthOf, kl_X12_monthOf, by decide +kernel⟩
set_option maxRecDepth 100000 in
theorem mf_X12_pledge : mV yX12_pledge cX12_pledge 8 (some .int) 5 := ⟨kd_X12_pledge, ki_X12, kj_X12_pledge, kl_X12_pledge, by decide +kernel⟩
set_option maxRecDepth 100000 in
theorem mf_X12_isPledge : mV yX12_isPledge cX12_isPledge 2 (some .boolean) 1 := ⟨kd_X12_isPledge, ki_X12, kj_X12_isPledge, kl_X12_isPledge, by decide +kernel⟩
set_option maxRecDepth 100000 in
theorem mf_X12_change : mV yX12_change cX12_change 4 (some .int) 2 := ⟨kd_X12_change, ki_X12, kj_X12_change, kl_X12_change, by decide +kernel⟩
set_option maxRecDepth 100000 in
theorem mf_X12_unfilled : mV yX12_unfilled cX12_unfilled 4 (some .int) 1 := ⟨kd_X12_unfilled, ki_X12, kj_X12_unfilled, kl_X12_unfilled, by decide +kernel⟩
set_option maxRecDepth 100000 in
theorem mf_X12_come : mV yX12_come cX12_come 4 (some .int) 2 := ⟨kd_X12_come, ki_X12, kj_X12_come, kl_X12_come, by decide +kernel⟩
set_option maxRecDepth 100000 in
theorem mf_X12_pay : mV yX12_pay cX12_pay 6 (some .int) 2 := ⟨kd_X12_pay, ki_X12, kj_X12_pay, kl_X12_pay, by decide +kernel⟩
set_option maxRecDepth 100000 in
theorem mf_X12_gift : mV yX12_gift cX12_gift 3 (some .int) 2 := ⟨kd_X12_gift, ki_X12, kj_X12_gift, kl_X12_gift, by decide +kernel⟩
set_option maxRecDepth 100000 in
theorem mf_X12_toCome : mV yX12_toCome cX12_toCome 4 (some .int) 1 := ⟨kd_X12_toCome, ki_X12, kj_X12_toCome, kl_X12_toCome, by decide +kernel⟩
set_option maxRecDepth 100000 in
theorem mf_X12_takeUp : mV yX12_takeUp cX12_takeUp 3 (some .int) 1 := ⟨kd_X12_takeUp, ki_X12, kj_X12_takeUp, kl_X12_takeUp, by decide +kernel⟩
set_option maxRecDepth 100000 in
theorem mf_X12_claim : mV yX12_claim cX12_claim 4 (some .int) 0 := ⟨kd_X12_claim, ki_X12, kj_X12_claim, kl_X12_claim, by decide +kernel⟩
set_option maxRecDepth 100000 in
theorem mf_X12_overdue : mV yX12_overdue cX12_overdue 4 (some .int) 1 := ⟨kd_X12_overdue, ki_X12, kj_X12_overdue, kl_X12_overdue, by decide +kernel⟩
set_option maxRecDepth 100000 in
theorem mf_X12_about : mV yX12_about cX12_about 5 (some .int) 2 := ⟨kd_X12_about, ki_X12, kj_X12_about, kl_X12_about, by decide +kernel⟩
set_option maxRecDepth 100000 in
theorem mf_X12_giver : mV yX12_giver cX12_giver 5 (some .int) 2 := ⟨kd_X12_giver, ki_X12, kj_X12_giver, kl_X12_giver, by decide +kernel⟩
set_option maxRecDepth 100000 in
theorem mf_X12_stage : mV yX12_stage cX12_stage 3 (some .int) 2 := ⟨kd_X12_stage, ki_X12, kj_X12_stage, kl_X12_stage, by decide +kernel⟩
set_option maxRecDepth 100000 in
theorem mf_X12_runs : mV yX12_runs cX12_runs 1 (some .boolean) 0 := ⟨kd_X12_runs, ki_X12, kj_X12_runs, kl_X12_runs, by decide +kernel⟩
set_option maxRecDepth 100000 in
theorem mf_X12_begin : mV yX12_begin cX12_begin 1 (some .int) 0 := ⟨kd_X12_begin, ki_X12, kj_X12_begin, kl_X12_begin, by decide +kernel⟩
set_option maxRecDepth 100000 in
theorem mf_X12_built : mV yX12_built cX12_built 3 (some .int) 2 := ⟨kd_X12_built, ki_X12, kj_X12_built, kl_X12_built, by decide +kernel⟩
set_option maxRecDepth 100000 in
theorem mf_X12_lapse : mV yX12_lapse cX12_lapse 4 none 1 := ⟨kd_X12_lapse, ki_X12, kj_X12_lapse, kl_X12_lapse, by decide +kernel⟩
set_option maxRecDepth 100000 in
theorem mf_X12_build : mV yX12_build cX12_build 6 none 0 := ⟨kd_X12_build, ki_X12, kj_X12_build, kl_X12_build, by decide +kernel⟩
set_option maxRecDepth 100000 in
theorem mf_X12_endMonth : mV yX12_endMonth cX12_endMonth 3 none 0 := ⟨kd_X12_endMonth, ki_X12, kj_X12_endMonth, kl_X12_endMonth, by decide +kernel⟩
set_option maxRecDepth 100000 in
theorem mf_X12_months : mV yX12_months cX12_months 3 (some .int) 1 := ⟨kd_X12_months, ki_X12, kj_X12_months, kl_X12_months, by decide +kernel⟩
set_option maxRecDepth 100000 in
theorem mf_X12_sure : mV yX12_sure cX12_sure 12 (some .int) 1 := ⟨kd_X12_sure, ki_X12, kj_X12_sure, kl_X12_sure, by decide +kernel⟩
set_option maxRecDepth 100000 in
theorem mf_X12_carve : mV yX12_carve cX12_carve 5 (some .int) 0 := ⟨kd_X12_carve, ki_X12, kj_X12_carve, kl_X12_carve, by decide +kernel⟩
set_option maxRecDepth 100000 in
theorem mf_X12_stone : mV yX12_stone cX12_stone 2 (some .int) 1 := ⟨kd_X12_stone, ki_X12, kj_X12_stone, kl_X12_stone, by decide +kernel⟩
set_option maxRecDepth 100000 in
theorem mf_X12_allGiven : mV yX12_allGiven cX12_allGiven 3 (some .int) 0 := ⟨kd_X12_allGiven, ki_X12, kj_X12_allGiven, kl_X12_allGiven, by decide +kernel⟩
set_option maxRecDepth 100000 in
theorem mf_X12_stop : mV yX12_stop cX12_stop 4 (some .int) 0 := ⟨kd_X12_stop, ki_X12, kj_X12_stop, kl_X12_stop, by decide +kernel⟩
set_option maxRecDepth 100000 in
theorem mf_X12_back : mV yX12_back cX12_back 2 (some .int) 1 := ⟨kd_X12_back, ki_X12, kj_X12_back, kl_X12_back, by decide +kernel⟩
set_option maxRecDepth 100000 in
theorem mf_X12_count : mV yX12_count cX12_count 4 (some .int) 1 := ⟨kd_X12_count, ki_X12, kj_X12_count, kl_X12_count, by decide +kernel⟩
set_option maxRecDepth 100000 in
theorem mf_J0_length_8abf5 : mV yJ0_length_8abf5 cJ0_length_8abf5 1 (some .int) 0 := ⟨kd_J0_length_8abf5, ki_J0, kj_J0_length_8abf5, kl_J0_length_8abf5, by decide +kernel⟩
set_option maxRecDepth 100000 in
theorem mf_J0_charAt_5068e : mV yJ0_charAt_5068e cJ0_charAt_5068e 2 (some .char) 1 := ⟨kd_J0_charAt_5068e, ki_J0, kj_J0_charAt_5068e, kl_J0_charAt_5068e, by decide +kernel⟩
set_option maxRecDepth 100000 in
theorem mf_J0_coder_7d493 : mV yJ0_coder_7d493 cJ0_coder_7d493 1 (some .byte) 0 := ⟨kd_J0_coder_7d493, ki_J0, kj_J0_coder_7d493, kl_J0_coder_7d493, by decide +kernel⟩
set_option maxRecDepth 100000 in
theorem mf_J0_isLatin1_aae02 : mV yJ0_isLatin1_aae02 cJ0_isLatin1_aae02 1 (some .boolean) 0 := ⟨kd_J0_isLatin1_aae02, ki_J0, kj_J0_isLatin1_aae02, kl_J0_isLatin1_aae02, by decide +kernel⟩
set_option maxRecDepth 100000 in
theorem mf_J0_checkIndex_df160 : mS yJ0_checkIndex_df160 cJ0_checkIndex_df160 2 none 2 := ⟨kd_J0_checkIndex_df160, ki_J0, ks_J0_checkIndex_df160, by decide +kernel⟩
set_option maxRecDepth 100000 in
theorem mf_J1_charAt_3b067 : mS yJ1_charAt_3b067 cJ1_charAt_3b067 2 (some .char) 2 := ⟨kd_J1_charAt_3b067, ki_J1, ks_J1_charAt_3b067, by decide +kernel⟩
set_option maxRecDepth 100000 in
theorem mf_J3_checkIndex_8e157 : mS yJ3_checkIndex_8e157 cJ3_checkIndex_8e157 3 (some .int) 3 := ⟨kd_J3_checkIndex_8e157, ki_J3, ks_J3_checkIndex_8e157, by decide +kernel⟩
set_option maxRecDepth 100000 in
theorem mf_E_init : mI yE_init cE_init 5 4 := ⟨kd_E_init, ki_E, kj_E_init, rfl, by decide +kernel⟩
set_option maxRecDepth 100000 in
theorem mf_H_init : mI yH_init cH_init 5 4 := ⟨kd_H_init, ki_H, kj_H_init, rfl, by decide +kernel⟩
section CB2
variable {p : Program} {l : Launch} {e : Env} {R : Room} {s : State} {m : MethodId} {args : Array Value} {below : List Frame} {meth : Method} {c : Code} {H : Heap} {locs : List Loc} {cells slots : Nat} {Q : State → Prop}
variable {cc : ByteArray} {pc nL : Nat} {ls : Array Slot} {rest : List Value} {G : va_G} {k : Nat → Nat} {A : Nat → Prop} {a : Nat} {tys tc : List (ClassId × FieldType)} {ws wc wr w' : va_W} {own : String}
theorem cs_newq (F : CallFix p m c cc nL s args tb own) (St : cS G k ws tys A s H locs) {C : String} {index : Nat} (hcl : Cond.classLink own index C ∈ tb) (hover : va_AO C s) {n : Int32} {N' : Nat} (hn : ¬ n < 0) (hN : n.toNatClampNeg = N') (hbytes : N' * 4 ≤ 536870912) (hcells : cells + 1 ≤ R.cells) (hslots : slots + N' ≤ R.slots) (hdg : decode cc pc = .ok (.anewarray index, 3))
    (kk : ∀ (q : Nat) (cA : ClassId) (H1 : Heap), cS G k (ws ++ [(q, .inl (cA, N', .inr (.inr (.inr (.inr (fun _ => none))))))]) (tys ++ [(cA, .object C)]) A s H1 locs → W p l e R s m args below meth c H1 locs (cells + 1) (slots + N') Q (F0 m (pc + 3) ls (.ref q :: rest))) : W p l e R s m args below meth c H locs cells slots Q (F0 m pc ls (.int n :: rest)) :=
  va_newq F.1 F.2.1 F.2.2.2.1 (F.2.2.2.2 _ hcl) hover St.1 St.2.1 St.2.2.1 St.toS St.2.2.2.2.1 hn hN hbytes hcells hslots hdg (fun q cA H1 hK hP hD hS => kk q cA H1 ⟨hK, hP, hD, hS, St.2.2.2.2.1, St.2.2.2.2.2⟩)
theorem cs_astq (F : CallFix p m c cc nL s args tb own) (St : cS G k ws tys A s H locs) (q0 t0 qk ci : Nat) {cA : ClassId} {r : vw_C} {n v : Nat} {vs : List Value} {f : Nat → Option Nat} (ha : ws[q0]? = some (a, .inl (cA, n, .inr (.inr (.inr (.inr f)))))) (hv : ws[qk]? = some (v, .inr (ci, vs))) (hc : vwCl[ci]? = some r) (ht : tys[t0]? = some (cA, .object r.1)) {i : Int32} (hin : vp_in i n) (hw : ws.set q0 (a, .inl (cA, n, .inr (.inr (.inr (.inr (va_up f i.toNatClampNeg (some v))))))) = w') (hdg : decode cc pc = .ok (.aastore, 1))
    (kk : ∀ (H1 : Heap) (locs1 : List Loc), cS G k w' tys A s H1 locs1 → W p l e R s m args below meth c H1 locs1 cells slots Q (F0 m (pc + 1) ls rest)) : W p l e R s m args below meth c H locs cells slots Q (F0 m pc ls (.ref v :: .int i :: .ref a :: rest)) := by
  subst hw
  exact va_astq F.1 F.2.1 St.1 St.2.1 St.2.2.1 St.toS q0 t0 qk ci ha ht hv hc hin hdg (fun H1 locs1 hP hD hS => kk H1 locs1 ⟨St.1, hP, hD, hS, St.2.2.2.2.1, St.2.2.2.2.2⟩)
/-- nine ints out of a row of the world -/
theorem cs_cp (F : CallFix p m c cc nL s args tb own) {lv : List (Nat × Value)} (hl : lv_has ls nL lv) (St : cS G k ws tys A s H locs) (q0 q1 t0 t1 : Nat) {a0 : Nat} {c0 c1 : ClassId} {f g : Nat → Int32} (ha0 : ws[q0]? = some (a0, .inl (c0, 9, .inl f))) (ha1 : ws[q1]? = some (a, .inl (c1, 9, .inl g))) (ht0 : tys[t0]? = some (c0, .int)) (ht1 : tys[t1]? = some (c1, .int)) {index : Nat} (hlink : Cond.methodLink own index arraycopyName ∈ tb) (hframes : 1 ≤ R.frames) (hlocals : 40 ≤ R.locals) (hrest : (rest.map fun v => v.category).sum ≤ 8) (hw : ws.set q1 (a, .inl (c1, 9, .inl (va_cpy f g 0 0 9))) = w') (hdg : decode cc pc = .ok (.invokestatic index, 3))
    (kk : ∀ (H1 : Heap) (locs1 : List Loc), cS G k w' tys A s H1 locs1 → W p l e R s m args below meth c H1 locs1 cells slots Q (F0 m (pc + 3) ls rest)) : W p l e R s m args below meth c H locs cells slots Q (F0 m pc ls (.int 9 :: .int 0 :: .ref a :: .int 0 :: .ref a0 :: rest)) := by
  subst hw
  have hnw : nativeFrameWords "java/lang/System" "arraycopy" 5 = 7 := by decide
  exact va_copyi F.1 F.2.1 (F.2.2.1.trans hl.1.symm) F.2.2.2.1 (F.2.2.2.2 _ hlink) (F.2.2.2.2 _ kv_arraycopyName) (F.2.2.2.2 _ ks_arraycopyName) (F.2.2.2.2 _ ki_J10) St.1 St.2.1 St.2.2.1 St.toS q0 q1 t0 t1 ha0 ha1 ht0 ht1 rfl (by decide) (by decide) (by decide) (by decide) (by decide) (fun _ _ => rfl) hframes (by omega) hdg (fun H1 locs1 hP hD hS => kk H1 locs1 ⟨St.1, hP, hD, hS, St.2.2.2.2.1, St.2.2.2.2.2⟩)
/-- nine ints out of a static row -/
theorem cs_cpT (F : CallFix p m c cc nL s args tb own) {lv : List (Nat × Value)} (hl : lv_has ls nL lv) (St : cS G k ws tys A s H locs) {b0 : Nat} {f : Nat → Int32} (hX : va_T .int b0 9 (fun j => .int (f j)) A s s.heap) (q1 t1 : Nat) {c1 : ClassId} {g : Nat → Int32} (ha1 : ws[q1]? = some (a, .inl (c1, 9, .inl g))) (ht1 : tys[t1]? = some (c1, .int)) {index : Nat} (hlink : Cond.methodLink own index arraycopyName ∈ tb) (hframes : 1 ≤ R.frames) (hlocals : 40 ≤ R.locals) (hrest : (rest.map fun v => v.category).sum ≤ 8) (hw : ws.set q1 (a, .inl (c1, 9, .inl (va_cpy f g 0 0 9))) = w') (hdg : decode cc pc = .ok (.invokestatic index, 3))
    (kk : ∀ (H1 : Heap) (locs1 : List Loc), cS G k w' tys A s H1 locs1 → W p l e R s m args below meth c H1 locs1 cells slots Q (F0 m (pc + 3) ls rest)) : W p l e R s m args below meth c H locs cells slots Q (F0 m pc ls (.int 9 :: .int 0 :: .ref a :: .int 0 :: .ref b0 :: rest)) := by
  subst hw
  intro T hT X
  have hnw : nativeFrameWords "java/lang/System" "arraycopy" 5 = 7 := by decide
  have z9 : (9 : Int32).toNatClampNeg = 9 := by decide
  have z0 : (0 : Int32).toNatClampNeg = 0 := by decide
  have y9 : (9 : Int32).toInt = 9 := by decide
  have y0 : (0 : Int32).toInt = 0 := by decide
  obtain ⟨hK, hP, hD, hS, hA, hg⟩ := St
  obtain ⟨src, u1, u2, u3, u4, -, u5, u6⟩ := hX
  have hsrc : H[b0]? = some src := (hS.2.1 b0 (Array.getElem?_eq_some_iff.mp u1).1 u6).trans u1
  have hdst : H[a]? = some (vp_cell c1 (9, .inl g)) := hP q1 _ ha1
  obtain ⟨v1, ks, v2, cs, v3⟩ := u2
  obtain ⟨-, kd, x2, cd, x3⟩ := (hK.2 t1 _ ht1).1 9 (fun j => .int (g j))
  have hlt : a < H.size := (Array.getElem?_eq_some_iff.mp hdst).1
  obtain ⟨vm', X', step⟩ := X.arraycopy F.1 F.2.2.2.1 (F.2.2.2.2 _ hlink) (F.2.2.2.2 _ kv_arraycopyName) (F.2.2.2.2 _ ks_arraycopyName) (F.2.2.2.2 _ ki_J10) (src := b0) (dst := a) (srcPos := 0) (destPos := 0) (n := 9) (cs := src) (cd := vp_cell c1 (9, .inl g)) (by rw [hT]; exact hsrc) (by rw [hT]; exact hdst) v1 (fun _ h => by cases h) u3 (fun h => by cases h) v2 x2 v3 x3 (by simp [refKind]) (by decide) (by decide) (by decide)
    (by rw [y0, y9]; omega)
    (by rw [y0, y9]; show ¬ _ > ((arrV c1 9 (fun j => .int (g j))).slots.size : Int); rw [arrV_size]; omega)
    (fun vm1 _ i hi => by
      rw [z9] at hi
      have ev : src.slots.getD ((0 : Int32).toNatClampNeg + i) .null = .int (f i) := by
        rw [z0, Nat.zero_add, Array.getD_eq_getD_getElem?, u5 i hi]
        rfl
      rw [ev]
      exact ⟨rfl, trivial⟩)
    (g := F0 m pc ls (.int 9 :: .int 0 :: .ref a :: .int 0 :: .ref b0 :: rest)) rfl (hl.1.trans F.2.2.1.symm) (rest := rest) rfl (by rw [F.2.1]; exact hdg) hframes (by show 2 * 0 + _ + _ ≤ _; omega)
  have e1 : copied src (vp_cell c1 (9, .inl g)) 0 0 9 = vp_cell c1 (9, .inl (va_cpy f g 0 0 9)) := va_copiedX (fun z => .int z) src c1 f g u5 (by decide)
  rw [e1] at X' step
  have hheap : ((T.setVm vm').setCell a (vp_cell c1 (9, .inl (va_cpy f g 0 0 9)))).heap = H.setIfInBounds a (vp_cell c1 (9, .inl (va_cpy f g 0 0 9))) := by rw [← hT]; rfl
  have other : ∀ q : Nat, q ≠ a → (H.setIfInBounds a (vp_cell c1 (9, .inl (va_cpy f g 0 0 9))))[q]? = H[q]? := fun q hq => by simp [Array.getElem?_setIfInBounds, Ne.symm hq]
  have hself : (H.setIfInBounds a (vp_cell c1 (9, .inl (va_cpy f g 0 0 9))))[a]? = some (vp_cell c1 (9, .inl (va_cpy f g 0 0 9))) := by simp [Array.getElem?_setIfInBounds, hlt]
  have hS1 : va_S A s.heap (H.setIfInBounds a (vp_cell c1 (9, .inl (va_cpy f g 0 0 9)))) (locs ++ (src.stretch (0 : Int32).toNatClampNeg (9 : Int32).toNatClampNeg).zipIdx.map fun q => ⟨a, (0 : Int32).toNatClampNeg + q.2⟩) := by
    refine ⟨by simpa using hS.1, fun q h1 h2 => ?_, fun q hq => ?_⟩
    · rw [other q (fun h => h2 (by rw [h]; exact hD.2 q1 _ ha1))]
      exact hS.2.1 q h1 h2
    · rcases List.mem_append.mp hq with h | h
      · exact hS.2.2 q h
      · obtain ⟨z, -, rfl⟩ := List.mem_map.mp h
        exact hD.2 q1 _ ha1
  obtain ⟨t, a1, b1⟩ := kk _ _ ⟨hK, hP.set hD ha1 hself other, hD.set ha1, hS1, hA, hg⟩ _ hheap X'
  exact ⟨t, step t a1, b1⟩
end CB2
theorem cpy_untold : va_cpy untold (fun _ => 0) 0 0 9 = untold := by
  funext j
  simp only [va_cpy, untold]
  split <;> rename_i h
  · simp
  · have : ¬ j = 4 ∧ ¬ j = 7 := by omega
    simp [this.1, this.2]
def minus (n : Int) : Nat → Int32 := fun j => if (j : Int) < n then -1 else 0
theorem minus_0 : (fun _ => 0) = minus 0 := by
  funext j
  have : ¬ (j : Int) < 0 := by omega
  simp [minus, this]
theorem nc_int {x : Int32} (h : 0 ≤ x.toInt) : (x.toNatClampNeg : Int) = x.toInt := by
  show ((x.toInt.toNat : Nat) : Int) = x.toInt
  omega
theorem minus_up {i y : Int32} (h0 : 0 ≤ i.toInt) (h : y.toInt = i.toInt + 1) : upd (minus i.toInt) i.toNatClampNeg (-1) = minus y.toInt := by
  have hn := nc_int h0
  funext j
  by_cases hj : j = i.toNatClampNeg
  · subst hj
    rw [pk_us]
    have : ((i.toNatClampNeg : Nat) : Int) < y.toInt := by omega
    simp [minus, this]
  · rw [pk_un hj]
    have e : (j : Int) < i.toInt ↔ (j : Int) < y.toInt := by omega
    simp only [minus, e]
theorem cl_lt {x y : Int64} {u v : Int} (hx : x.toInt = u) (hy : y.toInt = v) (h : x < y) : u < v := by rw [← hx, ← hy]; exact Int64.lt_iff_toInt_lt.mp h
theorem cl_nlt {x y : Int64} {u v : Int} (hx : x.toInt = u) (hy : y.toInt = v) (h : ¬ x < y) : ¬ u < v := by rw [← hx, ← hy]; exact fun q => h (Int64.lt_iff_toInt_lt.mpr q)
theorem cl_le {x y : Int64} {u v : Int} (hx : x.toInt = u) (hy : y.toInt = v) (h : x ≤ y) : u ≤ v := by rw [← hx, ← hy]; exact Int64.le_iff_toInt_le.mp h
theorem cl_nle {x y : Int64} {u v : Int} (hx : x.toInt = u) (hy : y.toInt = v) (h : ¬ x ≤ y) : ¬ u ≤ v := by rw [← hx, ← hy]; exact fun q => h (Int64.le_iff_toInt_le.mpr q)
theorem cl_eq {x y : Int64} {u v : Int} (hx : x.toInt = u) (hy : y.toInt = v) (h : x = y) : u = v := by rw [← hx, ← hy, h]
theorem cl_ne {x y : Int64} {u v : Int} (hx : x.toInt = u) (hy : y.toInt = v) (h : ¬ x = y) : ¬ u = v := by rw [← hx, ← hy]; exact fun q => h (Int64.toInt_inj.mp q)
theorem nar_z0 : vp_nar .boolean 0 = 0 := by decide
theorem nar_z1 : vp_nar .boolean 1 = 1 := by decide
theorem nc_ex {x : Int32} (h : 0 ≤ x.toInt) : ∃ N : Nat, x.toNatClampNeg = N ∧ (N : Int) = x.toInt ∧ ¬ x < 0 :=
  ⟨x.toNatClampNeg, rfl, nc_int h, fun q => by have := ci_lt (x := x) (y := 0) rfl (show (0 : Int32).toInt = 0 by decide) q; omega⟩
-- a method whose code has a table of handlers: its start, its call
def mVW (y : MethodName) (bytes : ByteArray) (maxL : Nat) (ret : Option FieldType) (hh : List (Nat × Nat × Nat × Nat)) (n : Nat) : Prop := Cond.codeWith y bytes maxL ret hh ∈ tb ∧ Cond.initialized y.cls ∈ tb ∧ Cond.instanceMethod y ∈ tb ∧ Cond.selects y.cls y y ∈ tb ∧ (y.cls ≠ "java/lang/invoke/MethodHandle" ∧ y.cls ≠ "java/lang/invoke/VarHandle" ∧ (parseMethodDescriptor y.desc).map (fun d => d.parameters.length) = some n)
section CW
variable {p : Program} {l : Launch} {e : Env} {R : Room} {s : State} {m : MethodId} {args : Array Value} {below : List Frame} {meth : Method} {c : Code} {H : Heap} {locs : List Loc} {cells slots : Nat} {Q : State → Prop}
variable {cc : ByteArray} {pc nL : Nat} {ls : Array Slot} {rest : List Value} {G : va_G} {k : Nat → Nat} {A : Nat → Prop} {a : Nat} {tys tc : List (ClassId × FieldType)} {ws wc wr w' : va_W} {own : String}
theorem runVW {y : MethodName} {bytes : ByteArray} {maxL n index mc ms : Nat} {ret : Option FieldType} {hh : List (Nat × Nat × Nat × Nat)} {rm : Room} {Pc : Array Value → State → Prop} {Qc : Array Value → State → Outcome → State → Prop} {free : Addr → Prop} {b : Addr} {As : List Value} {g : JFrame}
    (F : CallFix p m c cc nL s args tb own) (hM : Met l y (Cond.codeWith y bytes maxL ret hh :: tb) rm Pc Qc mc ms free) (h : mVW y bytes maxL ret hh n) (hlk : Cond.methodLink own index y ∈ tb) (hrc : rm.cells = mc) (hrs : rm.slots = ms) (hR : rm.frames + 1 ≤ R.frames ∧ 8 + (maxL + 11) + rm.locals ≤ R.locals) (hp : PreV s H y.cls b Pc As)
    (hg : g.method = m) (hn : As.length = n) (hsize : g.locals.size = nL) (hstack : g.stack = As.reverse ++ .ref b :: rest) (hW : 2 * g.monitorRoom + (rest.map fun v => v.category).sum ≤ 8) (hdg : decode cc g.pc = .ok (.invokevirtual index, 3)) (hf : cells + mc ≤ R.cells ∧ slots + ms ≤ R.slots) :
    va_Run p l e R s m args below meth c H locs cells slots mc ms g rest (Qc (Value.ref b :: As).toArray) free := by
  obtain ⟨hcd, hini, hinst, hsel, hmh, hvh, hds⟩ := h
  obtain ⟨hx, hb, hml, ho, ht⟩ := F
  have hpay : ∀ w ∈ Cond.codeWith y bytes maxL ret hh :: tb, ∀ (a' : Array Value) (U : State), s.WarmedH U.vm → w.before a' U = true := pay_in ht (tb_GoodT hcd)
  have hK : Back l R p e below s args y 3 8 (PreOf R mc ms Pc) (PostOf Qc mc ms free) := va_backW (bytes := bytes) (maxL := maxL) (ret := ret) (hh := hh) hM hp.1 hrc hrs hR.1 hR.2 hpay List.mem_cons_self (fun a' U hU => hpay _ (List.mem_cons_of_mem _ hini) a' U hU)
  obtain ⟨mk, methM, hnamed, hmethM, hstM, habM⟩ := Cond.instanceMethod_spec (ht _ hinst)
  obtain ⟨m9, meth9, c9, hn9, hm9, -, -, -, -, -, -, hsig⟩ := Cond.codeWith_spec (ht _ hcd)
  cases hnamed.symm.trans hn9
  cases hmethM.symm.trans hm9
  obtain ⟨-, ⟨cellB, hcB, hoB, hclB⟩, hPc⟩ := hp
  obtain ⟨c2, r2, m2, q1, q2, q3, q4, kP, hkP, hkPi⟩ := Cond.selects_spec (ht _ hsel)
  cases hclB.symm.trans q1
  cases (State.methodFound?_of_named hnamed ⟨hmh, hvh⟩).symm.trans q2
  cases hnamed.symm.trans q3
  have hnp : As.length = methM.sig.parameters.length := by
    rw [hsig] at hds
    exact hn.trans (Option.some.inj hds).symm
  intro T hT X
  have hse : selectMethod e.platform s.vm cellB.cls mk = .method mk := by rw [Launch.admits_selectMethod X.admits]; exact q4
  obtain ⟨vm₁, X₁, st₁⟩ := X.invokevirtual hx ho (ht _ hlk) hnamed hmethM hstM hkP hkPi ⟨hmh, hvh⟩ (a := b) (cell := cellB) (by rw [hT]; exact hcB) (fun z h => by rw [h] at hoB; cases hoB) hse hmethM habM hkP hkPi (g := g) hg (argsL := As) (rest := rest) hnp hstack (by rw [hb]; exact hdg)
  obtain ⟨v, ⟨U', l2, c2', s2⟩, X', ⟨g', mk', t, L, e1, e2, hq, h1, hL, h2, h3⟩, st⟩ := hK m meth c ⟨T.setVm vm₁, locs, cells, slots⟩ { g with stack := rest } (.invokevirtual index) mk (Value.ref b :: As).toArray X₁ hg (hsize.trans hml.symm) (by rw [hb]; exact hdg) hW (X₁.named hnamed) ⟨hf.1, hf.2, hPc (T.setVm vm₁) hT X₁.warmed⟩
  dsimp only [Pt.U, Pt.locs, Pt.cells, Pt.slots] at X' e1 e2 h1 h2 h3 st
  subst h1; subst h2; subst h3
  exact ⟨v, (T.setVm vm₁).calling g' mk' (Value.ref b :: As).toArray, t, U', L, hT, X', hL, e1, e2, hq, fun target h => st₁ _ fun acts => by rw [doInvoke_state]; exact st.trans h⟩
end CW
set_option maxRecDepth 100000 in
theorem mf_X12_trust : mVW yX12_trust cX12_trust 3 (some .int) [((28), (37), (40), (117))] 0 := ⟨kd_X12_trust, ki_X12, kj_X12_trust, kl_X12_trust, by decide +kernel⟩
def ufill (n : Int) : Nat → Int32 := fun j => if (j : Int) < n then untold j else 0
theorem ufill_0 : (fun _ => 0) = ufill 0 := by
  funext j
  have : ¬ (j : Int) < 0 := by omega
  simp [ufill, this]
theorem ufill_up {i y : Int32} (h0 : 0 ≤ i.toInt) (h : y.toInt = i.toInt + 1) : upd (ufill i.toInt) i.toNatClampNeg (untold i.toNatClampNeg) = ufill y.toInt := by
  have hn := nc_int h0
  funext j
  by_cases hj : j = i.toNatClampNeg
  · subst hj
    rw [pk_us]
    have : ((i.toNatClampNeg : Nat) : Int) < y.toInt := by omega
    simp [ufill, this]
  · rw [pk_un hj]
    have e : (j : Int) < i.toInt ↔ (j : Int) < y.toInt := by omega
    simp only [ufill, e]
theorem ufill_9 : ufill 9 = untold := by
  funext j
  simp only [ufill, untold]
  split <;> rename_i h
  · rfl
  · have : ¬ j = 4 ∧ ¬ j = 7 := by omega
    simp [this.1, this.2]
theorem cs_pick {G : va_G} {k : Nat → Nat} {ws w' : va_W} {tys t' : List (ClassId × FieldType)} {A : Nat → Prop} {s : State} {H : Heap} {locs : List Loc} (St : cS G k ws tys A s H locs) (is : List Nat) (hw : is.map (fun i => ws[i]?) = w'.map some) (hn : va_nd is = true) (it : List Nat) (ht : it.filterMap (fun i => tys[i]?) = t') : cS G k w' t' A s H locs :=
  ⟨St.1.sub (tys' := t') it ht, St.2.1.sub (ws' := w') is (fm_of_map _ _ _ hw), St.2.2.1.sub (ws' := w') is hn hw, St.2.2.2.1, St.2.2.2.2.1, St.2.2.2.2.2⟩

