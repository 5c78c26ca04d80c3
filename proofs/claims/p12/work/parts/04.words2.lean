set_option maxRecDepth 100000 in
theorem km_X7_28 : Cond.methodLink RX7 28 yX4_runs ∈ tb := tb_mem 765 (by decide +kernel) rfl
set_option maxRecDepth 100000 in
theorem kj_X4_runs : Cond.instanceMethod yX4_runs ∈ tb := tb_mem 766 (by decide +kernel) rfl
set_option maxRecDepth 100000 in
theorem kl_X4_runs : Cond.selects RX4 yX4_runs yX4_runs ∈ tb := tb_mem 767 (by decide +kernel) rfl
set_option maxRecDepth 100000 in
theorem kd_X4_runs : Cond.code yX4_runs cX4_runs 1 (some .boolean) ∈ tb := tb_mem 768 rfl rfl
set_option maxRecDepth 100000 in
theorem km_X10_227 : Cond.methodLink RX10 227 yX7_startNext ∈ tb := tb_mem 769 (by decide +kernel) rfl
set_option maxRecDepth 100000 in
theorem kj_X7_startNext : Cond.instanceMethod yX7_startNext ∈ tb := tb_mem 770 (by decide +kernel) rfl
set_option maxRecDepth 100000 in
theorem kl_X7_startNext : Cond.selects RX7 yX7_startNext yX7_startNext ∈ tb := tb_mem 771 (by decide +kernel) rfl
set_option maxRecDepth 100000 in
theorem kd_X7_startNext : Cond.code yX7_startNext cX7_startNext 2 (some .int) ∈ tb := tb_mem 772 rfl rfl
set_option maxRecDepth 100000 in
theorem km_X7_36 : Cond.methodLink RX7 36 yX4_start ∈ tb := tb_mem 773 (by decide +kernel) rfl
set_option maxRecDepth 100000 in
theorem kj_X4_start : Cond.instanceMethod yX4_start ∈ tb := tb_mem 774 (by decide +kernel) rfl
set_option maxRecDepth 100000 in
theorem kl_X4_start : Cond.selects RX4 yX4_start yX4_start ∈ tb := tb_mem 775 (by decide +kernel) rfl
set_option maxRecDepth 100000 in
theorem kd_X4_start : Cond.code yX4_start cX4_start 1 none ∈ tb := tb_mem 776 rfl rfl
set_option maxRecDepth 100000 in
theorem km_L_87 : Cond.methodLink RL 87 yX10_built ∈ tb := tb_mem 777 (by decide +kernel) rfl
set_option maxRecDepth 100000 in
theorem kj_X10_built : Cond.instanceMethod yX10_built ∈ tb := tb_mem 778 (by decide +kernel) rfl
set_option maxRecDepth 100000 in
theorem kl_X10_built : Cond.selects RX10 yX10_built yX10_built ∈ tb := tb_mem 779 (by decide +kernel) rfl
set_option maxRecDepth 100000 in
theorem kd_X10_built : Cond.code yX10_built cX10_built 4 (some .int) ∈ tb := tb_mem 780 rfl rfl
set_option maxRecDepth 100000 in
theorem km_X10_230 : Cond.methodLink RX10 230 yX7_at ∈ tb := tb_mem 781 (by decide +kernel) rfl
set_option maxRecDepth 100000 in
theorem km_X10_233 : Cond.methodLink RX10 233 yX4_cost ∈ tb := tb_mem 782 (by decide +kernel) rfl
set_option maxRecDepth 100000 in
theorem kj_X4_cost : Cond.instanceMethod yX4_cost ∈ tb := tb_mem 783 (by decide +kernel) rfl
set_option maxRecDepth 100000 in
theorem kl_X4_cost : Cond.selects RX4 yX4_cost yX4_cost ∈ tb := tb_mem 784 (by decide +kernel) rfl
set_option maxRecDepth 100000 in
theorem kd_X4_cost : Cond.code yX4_cost cX4_cost 1 (some .int) ∈ tb := tb_mem 785 rfl rfl
set_option maxRecDepth 100000 in
theorem km_X10_236 : Cond.methodLink RX10 236 yX4_parts ∈ tb := tb_mem 786 (by decide +kernel) rfl
set_option maxRecDepth 100000 in
theorem kj_X4_parts : Cond.instanceMethod yX4_parts ∈ tb := tb_mem 787 (by decide +kernel) rfl
set_option maxRecDepth 100000 in
theorem kl_X4_parts : Cond.selects RX4 yX4_parts yX4_parts ∈ tb := tb_mem 788 (by decide +kernel) rfl
set_option maxRecDepth 100000 in
theorem kd_X4_parts : Cond.code yX4_parts cX4_parts 1 (some .int) ∈ tb := tb_mem 789 rfl rfl
set_option maxRecDepth 100000 in
theorem km_X10_239 : Cond.methodLink RX10 239 yX4_progress ∈ tb := tb_mem 790 (by decide +kernel) rfl
set_option maxRecDepth 100000 in
theorem kj_X4_progress : Cond.instanceMethod yX4_progress ∈ tb := tb_mem 791 (by decide +kernel) rfl
set_option maxRecDepth 100000 in
theorem kl_X4_progress : Cond.selects RX4 yX4_progress yX4_progress ∈ tb := tb_mem 792 (by decide +kernel) rfl
set_option maxRecDepth 100000 in
theorem kd_X4_progress : Cond.code yX4_progress cX4_progress 1 (some .int) ∈ tb := tb_mem 793 rfl rfl
set_option maxRecDepth 100000 in
theorem km_X10_242 : Cond.methodLink RX10 242 yX4_paid ∈ tb := tb_mem 794 (by decide +kernel) rfl
set_option maxRecDepth 100000 in
theorem kj_X4_paid : Cond.instanceMethod yX4_paid ∈ tb := tb_mem 795 (by decide +kernel) rfl
set_option maxRecDepth 100000 in
theorem kl_X4_paid : Cond.selects RX4 yX4_paid yX4_paid ∈ tb := tb_mem 796 (by decide +kernel) rfl
set_option maxRecDepth 100000 in
theorem kd_X4_paid : Cond.code yX4_paid cX4_paid 1 (some .int) ∈ tb := tb_mem 797 rfl rfl
set_option maxRecDepth 100000 in
theorem km_X10_245 : Cond.methodLink RX10 245 yX4_paused ∈ tb := tb_mem 798 (by decide +kernel) rfl
set_option maxRecDepth 100000 in
theorem kj_X4_paused : Cond.instanceMethod yX4_paused ∈ tb := tb_mem 799 (by decide +kernel) rfl
set_option maxRecDepth 100000 in
theorem kl_X4_paused : Cond.selects RX4 yX4_paused yX4_paused ∈ tb := tb_mem 800 (by decide +kernel) rfl
set_option maxRecDepth 100000 in
theorem kd_X4_paused : Cond.code yX4_paused cX4_paused 1 (some .int) ∈ tb := tb_mem 801 rfl rfl
set_option maxRecDepth 100000 in
theorem km_L_91 : Cond.methodLink RL 91 yX10_months ∈ tb := tb_mem 802 (by decide +kernel) rfl
set_option maxRecDepth 100000 in
theorem kj_X10_months : Cond.instanceMethod yX10_months ∈ tb := tb_mem 803 (by decide +kernel) rfl
set_option maxRecDepth 100000 in
theorem kl_X10_months : Cond.selects RX10 yX10_months yX10_months ∈ tb := tb_mem 804 (by decide +kernel) rfl
set_option maxRecDepth 100000 in
theorem kd_X10_months : Cond.code yX10_months cX10_months 3 (some .int) ∈ tb := tb_mem 805 rfl rfl
set_option maxRecDepth 100000 in
theorem km_X10_248 : Cond.methodLink RX10 248 yX10_endMonth ∈ tb := tb_mem 806 (by decide +kernel) rfl
set_option maxRecDepth 100000 in
theorem kj_X10_endMonth : Cond.instanceMethod yX10_endMonth ∈ tb := tb_mem 808 (by decide +kernel) rfl
set_option maxRecDepth 100000 in
theorem kd_X10_endMonth : Cond.code yX10_endMonth cX10_endMonth 1 none ∈ tb := tb_mem 809 rfl rfl
set_option maxRecDepth 100000 in
theorem km_X10_314 : Cond.methodLink RX10 314 yX8_lapseDues ∈ tb := tb_mem 810 (by decide +kernel) rfl
set_option maxRecDepth 100000 in
theorem kj_X8_lapseDues : Cond.instanceMethod yX8_lapseDues ∈ tb := tb_mem 811 (by decide +kernel) rfl
set_option maxRecDepth 100000 in
theorem kl_X8_lapseDues : Cond.selects RX8 yX8_lapseDues yX8_lapseDues ∈ tb := tb_mem 812 (by decide +kernel) rfl
set_option maxRecDepth 100000 in
theorem kd_X8_lapseDues : Cond.code yX8_lapseDues cX8_lapseDues 1 (some .int) ∈ tb := tb_mem 813 rfl rfl
set_option maxRecDepth 100000 in
theorem km_X10_317 : Cond.methodLink RX10 317 yX2_lapseAll ∈ tb := tb_mem 814 (by decide +kernel) rfl
set_option maxRecDepth 100000 in
theorem kj_X2_lapseAll : Cond.instanceMethod yX2_lapseAll ∈ tb := tb_mem 815 (by decide +kernel) rfl
set_option maxRecDepth 100000 in
theorem kl_X2_lapseAll : Cond.selects RX2 yX2_lapseAll yX2_lapseAll ∈ tb := tb_mem 816 (by decide +kernel) rfl
set_option maxRecDepth 100000 in
theorem kd_X2_lapseAll : Cond.code yX2_lapseAll cX2_lapseAll 5 none ∈ tb := tb_mem 817 rfl rfl
set_option maxRecDepth 100000 in
theorem km_X2_21 : Cond.methodLink RX2 21 yX2_at ∈ tb := tb_mem 818 (by decide +kernel) rfl
set_option maxRecDepth 100000 in
theorem km_X2_29 : Cond.methodLink RX2 29 yX1_overdue ∈ tb := tb_mem 819 (by decide +kernel) rfl
set_option maxRecDepth 100000 in
theorem km_X2_33 : Cond.methodLink RX2 33 yX1_lapseIn ∈ tb := tb_mem 820 (by decide +kernel) rfl
set_option maxRecDepth 100000 in
theorem kj_X1_lapseIn : Cond.instanceMethod yX1_lapseIn ∈ tb := tb_mem 821 (by decide +kernel) rfl
set_option maxRecDepth 100000 in
theorem kl_X1_lapseIn : Cond.selects RX1 yX1_lapseIn yX1_lapseIn ∈ tb := tb_mem 822 (by decide +kernel) rfl
set_option maxRecDepth 100000 in
theorem kd_X1_lapseIn : Cond.code yX1_lapseIn cX1_lapseIn 3 none ∈ tb := tb_mem 823 rfl rfl
set_option maxRecDepth 100000 in
theorem km_X10_320 : Cond.methodLink RX10 320 yX8_loanThousandths ∈ tb := tb_mem 824 (by decide +kernel) rfl
set_option maxRecDepth 100000 in
theorem kj_X8_loanThousandths : Cond.instanceMethod yX8_loanThousandths ∈ tb := tb_mem 825 (by decide +kernel) rfl
set_option maxRecDepth 100000 in
theorem kl_X8_loanThousandths : Cond.selects RX8 yX8_loanThousandths yX8_loanThousandths ∈ tb := tb_mem 826 (by decide +kernel) rfl
set_option maxRecDepth 100000 in
theorem kd_X8_loanThousandths : Cond.code yX8_loanThousandths cX8_loanThousandths 1 (some .int) ∈ tb := tb_mem 827 rfl rfl
set_option maxRecDepth 100000 in
theorem km_X10_323 : Cond.methodLink RX10 323 yX3_growLoan ∈ tb := tb_mem 828 (by decide +kernel) rfl
set_option maxRecDepth 100000 in
theorem kj_X3_growLoan : Cond.instanceMethod yX3_growLoan ∈ tb := tb_mem 829 (by decide +kernel) rfl
set_option maxRecDepth 100000 in
theorem kl_X3_growLoan : Cond.selects RX3 yX3_growLoan yX3_growLoan ∈ tb := tb_mem 830 (by decide +kernel) rfl
set_option maxRecDepth 100000 in
theorem kd_X3_growLoan : Cond.code yX3_growLoan cX3_growLoan 4 none ∈ tb := tb_mem 831 rfl rfl
set_option maxRecDepth 100000 in
theorem kk_X3_51 : Cond.constantLong RX3 51 (1000 : Int64) ∈ tb := tb_mem 832 (by decide +kernel) rfl
set_option maxRecDepth 100000 in
theorem km_X10_326 : Cond.methodLink RX10 326 yX8_loanPence ∈ tb := tb_mem 833 (by decide +kernel) rfl
set_option maxRecDepth 100000 in
theorem kj_X8_loanPence : Cond.instanceMethod yX8_loanPence ∈ tb := tb_mem 834 (by decide +kernel) rfl
set_option maxRecDepth 100000 in
theorem kl_X8_loanPence : Cond.selects RX8 yX8_loanPence yX8_loanPence ∈ tb := tb_mem 835 (by decide +kernel) rfl
set_option maxRecDepth 100000 in
theorem kd_X8_loanPence : Cond.code yX8_loanPence cX8_loanPence 1 (some .int) ∈ tb := tb_mem 836 rfl rfl
set_option maxRecDepth 100000 in
theorem km_X10_329 : Cond.methodLink RX10 329 yX7_payPart ∈ tb := tb_mem 837 (by decide +kernel) rfl
set_option maxRecDepth 100000 in
theorem kj_X7_payPart : Cond.instanceMethod yX7_payPart ∈ tb := tb_mem 838 (by decide +kernel) rfl
set_option maxRecDepth 100000 in
theorem kl_X7_payPart : Cond.selects RX7 yX7_payPart yX7_payPart ∈ tb := tb_mem 839 (by decide +kernel) rfl
set_option maxRecDepth 100000 in
theorem kd_X7_payPart : Cond.code yX7_payPart cX7_payPart 5 none ∈ tb := tb_mem 840 rfl rfl
set_option maxRecDepth 100000 in
theorem km_X7_39 : Cond.methodLink RX7 39 yX4_nextPart ∈ tb := tb_mem 841 (by decide +kernel) rfl
set_option maxRecDepth 100000 in
theorem kj_X4_nextPart : Cond.instanceMethod yX4_nextPart ∈ tb := tb_mem 842 (by decide +kernel) rfl
set_option maxRecDepth 100000 in
theorem kl_X4_nextPart : Cond.selects RX4 yX4_nextPart yX4_nextPart ∈ tb := tb_mem 843 (by decide +kernel) rfl
set_option maxRecDepth 100000 in
theorem kd_X4_nextPart : Cond.code yX4_nextPart cX4_nextPart 1 (some .int) ∈ tb := tb_mem 844 rfl rfl
set_option maxRecDepth 100000 in
theorem km_X7_43 : Cond.methodLink RX7 43 yX3_paysPart ∈ tb := tb_mem 845 (by decide +kernel) rfl
set_option maxRecDepth 100000 in
theorem kj_X3_paysPart : Cond.instanceMethod yX3_paysPart ∈ tb := tb_mem 846 (by decide +kernel) rfl
set_option maxRecDepth 100000 in
theorem kl_X3_paysPart : Cond.selects RX3 yX3_paysPart yX3_paysPart ∈ tb := tb_mem 847 (by decide +kernel) rfl
set_option maxRecDepth 100000 in
theorem kd_X3_paysPart : Cond.code yX3_paysPart cX3_paysPart 7 (some .boolean) ∈ tb := tb_mem 848 rfl rfl
set_option maxRecDepth 100000 in
theorem km_X7_49 : Cond.methodLink RX7 49 yX4_bookPart ∈ tb := tb_mem 849 (by decide +kernel) rfl
set_option maxRecDepth 100000 in
theorem kj_X4_bookPart : Cond.instanceMethod yX4_bookPart ∈ tb := tb_mem 850 (by decide +kernel) rfl
set_option maxRecDepth 100000 in
theorem kl_X4_bookPart : Cond.selects RX4 yX4_bookPart yX4_bookPart ∈ tb := tb_mem 851 (by decide +kernel) rfl
set_option maxRecDepth 100000 in
theorem kd_X4_bookPart : Cond.code yX4_bookPart cX4_bookPart 2 none ∈ tb := tb_mem 852 rfl rfl
set_option maxRecDepth 100000 in
theorem km_X7_53 : Cond.methodLink RX7 53 yX4_bookPause ∈ tb := tb_mem 853 (by decide +kernel) rfl
set_option maxRecDepth 100000 in
theorem kj_X4_bookPause : Cond.instanceMethod yX4_bookPause ∈ tb := tb_mem 854 (by decide +kernel) rfl
set_option maxRecDepth 100000 in
theorem kl_X4_bookPause : Cond.selects RX4 yX4_bookPause yX4_bookPause ∈ tb := tb_mem 855 (by decide +kernel) rfl
set_option maxRecDepth 100000 in
theorem kd_X4_bookPause : Cond.code yX4_bookPause cX4_bookPause 1 none ∈ tb := tb_mem 856 rfl rfl
set_option maxRecDepth 100000 in
theorem km_X10_333 : Cond.methodLink RX10 333 yX3_payBackLoan ∈ tb := tb_mem 857 (by decide +kernel) rfl
set_option maxRecDepth 100000 in
theorem kj_X3_payBackLoan : Cond.instanceMethod yX3_payBackLoan ∈ tb := tb_mem 858 (by decide +kernel) rfl
set_option maxRecDepth 100000 in
theorem kl_X3_payBackLoan : Cond.selects RX3 yX3_payBackLoan yX3_payBackLoan ∈ tb := tb_mem 859 (by decide +kernel) rfl
set_option maxRecDepth 100000 in
theorem kd_X3_payBackLoan : Cond.code yX3_payBackLoan cX3_payBackLoan 3 none ∈ tb := tb_mem 860 rfl rfl
set_option maxRecDepth 100000 in
theorem km_L_95 : Cond.methodLink RL 95 yX10_sure ∈ tb := tb_mem 861 (by decide +kernel) rfl
set_option maxRecDepth 100000 in
theorem kj_X10_sure : Cond.instanceMethod yX10_sure ∈ tb := tb_mem 862 (by decide +kernel) rfl
set_option maxRecDepth 100000 in
theorem kl_X10_sure : Cond.selects RX10 yX10_sure yX10_sure ∈ tb := tb_mem 863 (by decide +kernel) rfl
set_option maxRecDepth 100000 in
theorem kd_X10_sure : Cond.code yX10_sure cX10_sure 2 (some .int) ∈ tb := tb_mem 864 rfl rfl
set_option maxRecDepth 100000 in
theorem km_X10_251 : Cond.methodLink RX10 251 yX2_sureWithin ∈ tb := tb_mem 865 (by decide +kernel) rfl
set_option maxRecDepth 100000 in
theorem kj_X2_sureWithin : Cond.instanceMethod yX2_sureWithin ∈ tb := tb_mem 866 (by decide +kernel) rfl
set_option maxRecDepth 100000 in
theorem kl_X2_sureWithin : Cond.selects RX2 yX2_sureWithin yX2_sureWithin ∈ tb := tb_mem 867 (by decide +kernel) rfl
set_option maxRecDepth 100000 in
theorem kd_X2_sureWithin : Cond.code yX2_sureWithin cX2_sureWithin 11 (some .int) ∈ tb := tb_mem 868 rfl rfl
set_option maxRecDepth 100000 in
theorem km_X2_37 : Cond.methodLink RX2 37 yX1_unfilledWithin ∈ tb := tb_mem 869 (by decide +kernel) rfl
set_option maxRecDepth 100000 in
theorem km_X2_41 : Cond.methodLink RX2 41 yX1_dueSoFar ∈ tb := tb_mem 870 (by decide +kernel) rfl
set_option maxRecDepth 100000 in
theorem kj_X1_dueSoFar : Cond.instanceMethod yX1_dueSoFar ∈ tb := tb_mem 871 (by decide +kernel) rfl
set_option maxRecDepth 100000 in
theorem kl_X1_dueSoFar : Cond.selects RX1 yX1_dueSoFar yX1_dueSoFar ∈ tb := tb_mem 872 (by decide +kernel) rfl
set_option maxRecDepth 100000 in
theorem kd_X1_dueSoFar : Cond.code yX1_dueSoFar cX1_dueSoFar 4 (some .int) ∈ tb := tb_mem 873 rfl rfl
set_option maxRecDepth 100000 in
theorem km_X2_44 : Cond.methodLink RX2 44 yX1_filledSoFar ∈ tb := tb_mem 874 (by decide +kernel) rfl
set_option maxRecDepth 100000 in
theorem kj_X1_filledSoFar : Cond.instanceMethod yX1_filledSoFar ∈ tb := tb_mem 875 (by decide +kernel) rfl
set_option maxRecDepth 100000 in
theorem kl_X1_filledSoFar : Cond.selects RX1 yX1_filledSoFar yX1_filledSoFar ∈ tb := tb_mem 876 (by decide +kernel) rfl
set_option maxRecDepth 100000 in
theorem kd_X1_filledSoFar : Cond.code yX1_filledSoFar cX1_filledSoFar 4 (some .int) ∈ tb := tb_mem 877 rfl rfl
set_option maxRecDepth 100000 in
theorem km_L_99 : Cond.methodLink RL 99 yX10_stone ∈ tb := tb_mem 878 (by decide +kernel) rfl
set_option maxRecDepth 100000 in
theorem kj_X10_stone : Cond.instanceMethod yX10_stone ∈ tb := tb_mem 879 (by decide +kernel) rfl
set_option maxRecDepth 100000 in
theorem kl_X10_stone : Cond.selects RX10 yX10_stone yX10_stone ∈ tb := tb_mem 880 (by decide +kernel) rfl
set_option maxRecDepth 100000 in
theorem kd_X10_stone : Cond.code yX10_stone cX10_stone 3 (some .int) ∈ tb := tb_mem 881 rfl rfl
set_option maxRecDepth 100000 in
theorem km_X10_254 : Cond.methodLink RX10 254 yX8_stonePence ∈ tb := tb_mem 882 (by decide +kernel) rfl
set_option maxRecDepth 100000 in
theorem kj_X8_stonePence : Cond.instanceMethod yX8_stonePence ∈ tb := tb_mem 883 (by decide +kernel) rfl
set_option maxRecDepth 100000 in
theorem kl_X8_stonePence : Cond.selects RX8 yX8_stonePence yX8_stonePence ∈ tb := tb_mem 884 (by decide +kernel) rfl
set_option maxRecDepth 100000 in
theorem kd_X8_stonePence : Cond.code yX8_stonePence cX8_stonePence 1 (some .int) ∈ tb := tb_mem 885 rfl rfl
set_option maxRecDepth 100000 in
theorem km_X10_257 : Cond.methodLink RX10 257 yX0_orderStones ∈ tb := tb_mem 886 (by decide +kernel) rfl
set_option maxRecDepth 100000 in
theorem kj_X0_orderStones : Cond.instanceMethod yX0_orderStones ∈ tb := tb_mem 887 (by decide +kernel) rfl
set_option maxRecDepth 100000 in
theorem kl_X0_orderStones : Cond.selects RX0 yX0_orderStones yX0_orderStones ∈ tb := tb_mem 888 (by decide +kernel) rfl
set_option maxRecDepth 100000 in
theorem kd_X0_orderStones : Cond.code yX0_orderStones cX0_orderStones 8 (some .int) ∈ tb := tb_mem 889 rfl rfl
set_option maxRecDepth 100000 in
theorem km_X0_35 : Cond.methodLink RX0 35 yX5_size ∈ tb := tb_mem 890 (by decide +kernel) rfl
set_option maxRecDepth 100000 in
theorem kj_X5_size : Cond.instanceMethod yX5_size ∈ tb := tb_mem 891 (by decide +kernel) rfl
set_option maxRecDepth 100000 in
theorem kl_X5_size : Cond.selects RX5 yX5_size yX5_size ∈ tb := tb_mem 892 (by decide +kernel) rfl
set_option maxRecDepth 100000 in
theorem kd_X5_size : Cond.code yX5_size cX5_size 1 (some .int) ∈ tb := tb_mem 893 rfl rfl
set_option maxRecDepth 100000 in
theorem km_X0_41 : Cond.methodLink RX0 41 yX5_giverOf ∈ tb := tb_mem 894 (by decide +kernel) rfl
set_option maxRecDepth 100000 in
theorem kj_X5_giverOf : Cond.instanceMethod yX5_giverOf ∈ tb := tb_mem 895 (by decide +kernel) rfl
set_option maxRecDepth 100000 in
theorem kl_X5_giverOf : Cond.selects RX5 yX5_giverOf yX5_giverOf ∈ tb := tb_mem 896 (by decide +kernel) rfl
set_option maxRecDepth 100000 in
theorem kd_X5_giverOf : Cond.code yX5_giverOf cX5_giverOf 2 (some .int) ∈ tb := tb_mem 897 rfl rfl
set_option maxRecDepth 100000 in
theorem km_X0_45 : Cond.methodLink RX0 45 yX5_penceOf ∈ tb := tb_mem 898 (by decide +kernel) rfl
set_option maxRecDepth 100000 in
theorem kj_X5_penceOf : Cond.instanceMethod yX5_penceOf ∈ tb := tb_mem 899 (by decide +kernel) rfl
set_option maxRecDepth 100000 in
theorem kl_X5_penceOf : Cond.selects RX5 yX5_penceOf yX5_penceOf ∈ tb := tb_mem 900 (by decide +kernel) rfl
set_option maxRecDepth 100000 in
theorem kd_X5_penceOf : Cond.code yX5_penceOf cX5_penceOf 2 (some .int) ∈ tb := tb_mem 901 rfl rfl
set_option maxRecDepth 100000 in
theorem km_X10_261 : Cond.methodLink RX10 261 yX0_ofStone ∈ tb := tb_mem 902 (by decide +kernel) rfl
set_option maxRecDepth 100000 in
theorem kj_X0_ofStone : Cond.instanceMethod yX0_ofStone ∈ tb := tb_mem 903 (by decide +kernel) rfl
set_option maxRecDepth 100000 in
theorem kl_X0_ofStone : Cond.selects RX0 yX0_ofStone yX0_ofStone ∈ tb := tb_mem 904 (by decide +kernel) rfl
set_option maxRecDepth 100000 in
theorem kd_X0_ofStone : Cond.code yX0_ofStone cX0_ofStone 2 (some .int) ∈ tb := tb_mem 905 rfl rfl
set_option maxRecDepth 100000 in
theorem km_L_103 : Cond.methodLink RL 103 yX10_stop ∈ tb := tb_mem 906 (by decide +kernel) rfl
set_option maxRecDepth 100000 in
theorem kj_X10_stop : Cond.instanceMethod yX10_stop ∈ tb := tb_mem 907 (by decide +kernel) rfl
set_option maxRecDepth 100000 in
theorem kl_X10_stop : Cond.selects RX10 yX10_stop yX10_stop ∈ tb := tb_mem 908 (by decide +kernel) rfl
set_option maxRecDepth 100000 in
theorem kd_X10_stop : Cond.code yX10_stop cX10_stop 2 (some .int) ∈ tb := tb_mem 909 rfl rfl
set_option maxRecDepth 100000 in
theorem km_X10_264 : Cond.methodLink RX10 264 yX3_coin ∈ tb := tb_mem 910 (by decide +kernel) rfl
set_option maxRecDepth 100000 in
theorem kj_X3_coin : Cond.instanceMethod yX3_coin ∈ tb := tb_mem 911 (by decide +kernel) rfl
set_option maxRecDepth 100000 in
theorem kl_X3_coin : Cond.selects RX3 yX3_coin yX3_coin ∈ tb := tb_mem 912 (by decide +kernel) rfl
set_option maxRecDepth 100000 in
theorem kd_X3_coin : Cond.code yX3_coin cX3_coin 1 (some .long) ∈ tb := tb_mem 913 rfl rfl
set_option maxRecDepth 100000 in
theorem km_X10_268 : Cond.methodLink RX10 268 yX8_givesAllBack ∈ tb := tb_mem 914 (by decide +kernel) rfl
set_option maxRecDepth 100000 in
theorem kj_X8_givesAllBack : Cond.instanceMethod yX8_givesAllBack ∈ tb := tb_mem 915 (by decide +kernel) rfl
set_option maxRecDepth 100000 in
theorem kl_X8_givesAllBack : Cond.selects RX8 yX8_givesAllBack yX8_givesAllBack ∈ tb := tb_mem 916 (by decide +kernel) rfl
set_option maxRecDepth 100000 in
theorem kd_X8_givesAllBack : Cond.code yX8_givesAllBack cX8_givesAllBack 1 (some .boolean) ∈ tb := tb_mem 917 rfl rfl
set_option maxRecDepth 100000 in
theorem km_X10_271 : Cond.methodLink RX10 271 yX0_partCoin ∈ tb := tb_mem 918 (by decide +kernel) rfl
set_option maxRecDepth 100000 in
theorem kj_X0_partCoin : Cond.instanceMethod yX0_partCoin ∈ tb := tb_mem 919 (by decide +kernel) rfl
set_option maxRecDepth 100000 in
theorem kl_X0_partCoin : Cond.selects RX0 yX0_partCoin yX0_partCoin ∈ tb := tb_mem 920 (by decide +kernel) rfl
set_option maxRecDepth 100000 in
theorem kd_X0_partCoin : Cond.code yX0_partCoin cX0_partCoin 11 (some .int) ∈ tb := tb_mem 921 rfl rfl
set_option maxRecDepth 100000 in
theorem km_X0_48 : Cond.methodLink RX0 48 yX5_total ∈ tb := tb_mem 922 (by decide +kernel) rfl
set_option maxRecDepth 100000 in
theorem kj_X5_total : Cond.instanceMethod yX5_total ∈ tb := tb_mem 923 (by decide +kernel) rfl
set_option maxRecDepth 100000 in
theorem kl_X5_total : Cond.selects RX5 yX5_total yX5_total ∈ tb := tb_mem 924 (by decide +kernel) rfl
set_option maxRecDepth 100000 in
theorem kd_X5_total : Cond.code yX5_total cX5_total 1 (some .long) ∈ tb := tb_mem 925 rfl rfl
set_option maxRecDepth 100000 in
theorem km_X0_52 : Cond.methodLink RX0 52 yX5_givenBy ∈ tb := tb_mem 926 (by decide +kernel) rfl
set_option maxRecDepth 100000 in
theorem km_X10_275 : Cond.methodLink RX10 275 yX3_giveBack ∈ tb := tb_mem 927 (by decide +kernel) rfl
set_option maxRecDepth 100000 in
theorem kj_X3_giveBack : Cond.instanceMethod yX3_giveBack ∈ tb := tb_mem 928 (by decide +kernel) rfl
set_option maxRecDepth 100000 in
theorem kl_X3_giveBack : Cond.selects RX3 yX3_giveBack yX3_giveBack ∈ tb := tb_mem 929 (by decide +kernel) rfl
set_option maxRecDepth 100000 in
theorem kd_X3_giveBack : Cond.code yX3_giveBack cX3_giveBack 2 none ∈ tb := tb_mem 930 rfl rfl
set_option maxRecDepth 100000 in
theorem km_L_107 : Cond.methodLink RL 107 yX10_back ∈ tb := tb_mem 931 (by decide +kernel) rfl
set_option maxRecDepth 100000 in
theorem kj_X10_back : Cond.instanceMethod yX10_back ∈ tb := tb_mem 932 (by decide +kernel) rfl
set_option maxRecDepth 100000 in
theorem kl_X10_back : Cond.selects RX10 yX10_back yX10_back ∈ tb := tb_mem 933 (by decide +kernel) rfl
set_option maxRecDepth 100000 in
theorem kd_X10_back : Cond.code yX10_back cX10_back 2 (some .int) ∈ tb := tb_mem 934 rfl rfl
set_option maxRecDepth 100000 in
theorem km_X10_278 : Cond.methodLink RX10 278 yX0_gotBack ∈ tb := tb_mem 935 (by decide +kernel) rfl
set_option maxRecDepth 100000 in
theorem kj_X0_gotBack : Cond.instanceMethod yX0_gotBack ∈ tb := tb_mem 936 (by decide +kernel) rfl
set_option maxRecDepth 100000 in
theorem kl_X0_gotBack : Cond.selects RX0 yX0_gotBack yX0_gotBack ∈ tb := tb_mem 937 (by decide +kernel) rfl
set_option maxRecDepth 100000 in
theorem kd_X0_gotBack : Cond.code yX0_gotBack cX0_gotBack 2 (some .int) ∈ tb := tb_mem 938 rfl rfl
set_option maxRecDepth 100000 in
theorem km_L_111 : Cond.methodLink RL 111 yX10_count ∈ tb := tb_mem 939 (by decide +kernel) rfl
set_option maxRecDepth 100000 in
theorem kj_X10_count : Cond.instanceMethod yX10_count ∈ tb := tb_mem 940 (by decide +kernel) rfl
set_option maxRecDepth 100000 in
theorem kl_X10_count : Cond.selects RX10 yX10_count yX10_count ∈ tb := tb_mem 941 (by decide +kernel) rfl
set_option maxRecDepth 100000 in
theorem kd_X10_count : Cond.code yX10_count cX10_count 2 (some .int) ∈ tb := tb_mem 942 rfl rfl
set_option maxRecDepth 100000 in
theorem km_X10_281 : Cond.methodLink RX10 281 yX3_loan ∈ tb := tb_mem 943 (by decide +kernel) rfl
set_option maxRecDepth 100000 in
theorem kj_X3_loan : Cond.instanceMethod yX3_loan ∈ tb := tb_mem 944 (by decide +kernel) rfl
set_option maxRecDepth 100000 in
theorem kl_X3_loan : Cond.selects RX3 yX3_loan yX3_loan ∈ tb := tb_mem 945 (by decide +kernel) rfl
set_option maxRecDepth 100000 in
theorem kd_X3_loan : Cond.code yX3_loan cX3_loan 1 (some .long) ∈ tb := tb_mem 946 rfl rfl
set_option maxRecDepth 100000 in
theorem km_X10_284 : Cond.methodLink RX10 284 yX5_total ∈ tb := tb_mem 947 (by decide +kernel) rfl
set_option maxRecDepth 100000 in
theorem km_X10_287 : Cond.methodLink RX10 287 yX3_matched ∈ tb := tb_mem 948 (by decide +kernel) rfl
set_option maxRecDepth 100000 in
theorem kj_X3_matched : Cond.instanceMethod yX3_matched ∈ tb := tb_mem 949 (by decide +kernel) rfl
set_option maxRecDepth 100000 in
theorem kl_X3_matched : Cond.selects RX3 yX3_matched yX3_matched ∈ tb := tb_mem 950 (by decide +kernel) rfl
set_option maxRecDepth 100000 in
theorem kd_X3_matched : Cond.code yX3_matched cX3_matched 1 (some .long) ∈ tb := tb_mem 951 rfl rfl
set_option maxRecDepth 100000 in
theorem km_X10_290 : Cond.methodLink RX10 290 yX3_tax ∈ tb := tb_mem 952 (by decide +kernel) rfl
set_option maxRecDepth 100000 in
theorem kj_X3_tax : Cond.instanceMethod yX3_tax ∈ tb := tb_mem 953 (by decide +kernel) rfl
set_option maxRecDepth 100000 in
theorem kl_X3_tax : Cond.selects RX3 yX3_tax yX3_tax ∈ tb := tb_mem 954 (by decide +kernel) rfl
set_option maxRecDepth 100000 in
theorem kd_X3_tax : Cond.code yX3_tax cX3_tax 1 (some .long) ∈ tb := tb_mem 955 rfl rfl
set_option maxRecDepth 100000 in
theorem km_X10_293 : Cond.methodLink RX10 293 yX3_paidForStages ∈ tb := tb_mem 956 (by decide +kernel) rfl
set_option maxRecDepth 100000 in
theorem kj_X3_paidForStages : Cond.instanceMethod yX3_paidForStages ∈ tb := tb_mem 957 (by decide +kernel) rfl
set_option maxRecDepth 100000 in
theorem kl_X3_paidForStages : Cond.selects RX3 yX3_paidForStages yX3_paidForStages ∈ tb := tb_mem 958 (by decide +kernel) rfl
set_option maxRecDepth 100000 in
theorem kd_X3_paidForStages : Cond.code yX3_paidForStages cX3_paidForStages 1 (some .long) ∈ tb := tb_mem 959 rfl rfl
set_option maxRecDepth 100000 in
theorem km_X10_296 : Cond.methodLink RX10 296 yX3_grown ∈ tb := tb_mem 960 (by decide +kernel) rfl
set_option maxRecDepth 100000 in
theorem kj_X3_grown : Cond.instanceMethod yX3_grown ∈ tb := tb_mem 961 (by decide +kernel) rfl
set_option maxRecDepth 100000 in
theorem kl_X3_grown : Cond.selects RX3 yX3_grown yX3_grown ∈ tb := tb_mem 962 (by decide +kernel) rfl
set_option maxRecDepth 100000 in
theorem kd_X3_grown : Cond.code yX3_grown cX3_grown 1 (some .long) ∈ tb := tb_mem 963 rfl rfl
set_option maxRecDepth 100000 in
theorem km_X10_299 : Cond.methodLink RX10 299 yX2_size ∈ tb := tb_mem 964 (by decide +kernel) rfl
set_option maxRecDepth 100000 in
theorem kj_X2_size : Cond.instanceMethod yX2_size ∈ tb := tb_mem 965 (by decide +kernel) rfl
set_option maxRecDepth 100000 in
theorem kl_X2_size : Cond.selects RX2 yX2_size yX2_size ∈ tb := tb_mem 966 (by decide +kernel) rfl
set_option maxRecDepth 100000 in
theorem kd_X2_size : Cond.code yX2_size cX2_size 1 (some .int) ∈ tb := tb_mem 967 rfl rfl
set_option maxRecDepth 100000 in
theorem km_X10_302 : Cond.methodLink RX10 302 yX2_lapsedNow ∈ tb := tb_mem 968 (by decide +kernel) rfl
set_option maxRecDepth 100000 in
theorem kj_X2_lapsedNow : Cond.instanceMethod yX2_lapsedNow ∈ tb := tb_mem 969 (by decide +kernel) rfl
set_option maxRecDepth 100000 in
theorem kl_X2_lapsedNow : Cond.selects RX2 yX2_lapsedNow yX2_lapsedNow ∈ tb := tb_mem 970 (by decide +kernel) rfl
set_option maxRecDepth 100000 in
theorem kd_X2_lapsedNow : Cond.code yX2_lapsedNow cX2_lapsedNow 4 (some .int) ∈ tb := tb_mem 971 rfl rfl
set_option maxRecDepth 100000 in
theorem km_X2_25 : Cond.methodLink RX2 25 yX1_isLapsed ∈ tb := tb_mem 972 (by decide +kernel) rfl
set_option maxRecDepth 100000 in
theorem km_X10_305 : Cond.methodLink RX10 305 yX7_size ∈ tb := tb_mem 973 (by decide +kernel) rfl
set_option maxRecDepth 100000 in
theorem kj_X7_size : Cond.instanceMethod yX7_size ∈ tb := tb_mem 974 (by decide +kernel) rfl
set_option maxRecDepth 100000 in
theorem kl_X7_size : Cond.selects RX7 yX7_size yX7_size ∈ tb := tb_mem 975 (by decide +kernel) rfl
set_option maxRecDepth 100000 in
theorem kd_X7_size : Cond.code yX7_size cX7_size 1 (some .int) ∈ tb := tb_mem 976 rfl rfl
set_option maxRecDepth 100000 in
theorem km_X10_306 : Cond.methodLink RX10 306 yX5_size ∈ tb := tb_mem 977 (by decide +kernel) rfl
set_option maxRecDepth 100000 in
theorem kc_L_10 : Cond.classLink RL 10 RX12 ∈ tb := tb_mem 978 (by decide +kernel) rfl
set_option maxRecDepth 100000 in
theorem kn_X12 : Cond.instantiable RX12 53 ∈ tb := tb_mem 979 (by decide +kernel) rfl
set_option maxRecDepth 100000 in
theorem km_L_12 : Cond.methodLink RL 12 yX12_init ∈ tb := tb_mem 980 (by decide +kernel) rfl
set_option maxRecDepth 100000 in
theorem kj_X12_init : Cond.instanceMethod yX12_init ∈ tb := tb_mem 981 (by decide +kernel) rfl
set_option maxRecDepth 100000 in
theorem kd_X12_init : Cond.code yX12_init cX12_init 2 none ∈ tb := tb_mem 982 rfl rfl
set_option maxRecDepth 100000 in
theorem km_X12_109 : Cond.methodLink RX12 109 objectInit ∈ tb := tb_mem 983 (by decide +kernel) rfl
set_option maxRecDepth 100000 in
theorem kc_X12_117 : Cond.classLink RX12 117 RX11 ∈ tb := tb_mem 984 (by decide +kernel) rfl
set_option maxRecDepth 100000 in
theorem kn_X11 : Cond.instantiable RX11 6 ∈ tb := tb_mem 985 (by decide +kernel) rfl
set_option maxRecDepth 100000 in
theorem km_H_1 : Cond.methodLink RH 1 objectInit ∈ tb := tb_mem 1007 (by decide +kernel) rfl
set_option maxRecDepth 100000 in
theorem kf_H_13 : Cond.fieldLink RH 13 "java/lang/Throwable" "UNASSIGNED_STACK" "[Ljava/lang/StackTraceElement;" ∈ tb := tb_mem 1008 (by decide +kernel) rfl
set_option maxRecDepth 100000 in
theorem kf_H_20 : Cond.fieldLink RH 20 "java/lang/Throwable" "SUPPRESSED_SENTINEL" "Ljava/util/List;" ∈ tb := tb_mem 1010 (by decide +kernel) rfl
set_option maxRecDepth 100000 in
theorem km_X12_119 : Cond.methodLink RX12 119 yX11_init ∈ tb := tb_mem 1021 (by decide +kernel) rfl
set_option maxRecDepth 100000 in
theorem kj_X11_init : Cond.instanceMethod yX11_init ∈ tb := tb_mem 1022 (by decide +kernel) rfl
set_option maxRecDepth 100000 in
theorem kd_X11_init : Cond.code yX11_init cX11_init 1 none ∈ tb := tb_mem 1023 rfl rfl
set_option maxRecDepth 100000 in
theorem km_X11_1 : Cond.methodLink RX11 1 yE_init ∈ tb := tb_mem 1024 (by decide +kernel) rfl
set_option maxRecDepth 100000 in
theorem kj_E_init : Cond.instanceMethod yE_init ∈ tb := tb_mem 1025 (by decide +kernel) rfl
set_option maxRecDepth 100000 in
theorem kd_E_init : Cond.code yE_init cE_init 5 none ∈ tb := tb_mem 1026 rfl rfl
set_option maxRecDepth 100000 in
theorem km_E_16 : Cond.methodLink RE 16 yH_init ∈ tb := tb_mem 1027 (by decide +kernel) rfl
set_option maxRecDepth 100000 in
theorem kj_H_init : Cond.instanceMethod yH_init ∈ tb := tb_mem 1028 (by decide +kernel) rfl
set_option maxRecDepth 100000 in
theorem kd_H_init : Cond.code yH_init cH_init 5 none ∈ tb := tb_mem 1029 rfl rfl
set_option maxRecDepth 100000 in
theorem kf_H_31 : Cond.fieldLink RH 31 "java/lang/Throwable" "detailMessage" "Ljava/lang/String;" ∈ tb := tb_mem 1031 (by decide +kernel) rfl
set_option maxRecDepth 100000 in
theorem kf_H_7 : Cond.fieldLink RH 7 "java/lang/Throwable" "cause" "Ljava/lang/Throwable;" ∈ tb := tb_mem 1032 (by decide +kernel) rfl
set_option maxRecDepth 100000 in
theorem kf_H_17 : Cond.fieldLink RH 17 "java/lang/Throwable" "stackTrace" "[Ljava/lang/StackTraceElement;" ∈ tb := tb_mem 1033 (by decide +kernel) rfl
set_option maxRecDepth 100000 in
theorem kf_H_24 : Cond.fieldLink RH 24 "java/lang/Throwable" "suppressedExceptions" "Ljava/util/List;" ∈ tb := tb_mem 1034 (by decide +kernel) rfl
set_option maxRecDepth 100000 in
theorem kf_X12_86 : Cond.fieldLink RX12 86 "TowerAppealModel" "PLAIN" "[I" ∈ tb := tb_mem 1043 (by decide +kernel) rfl
set_option maxRecDepth 100000 in
theorem kf_X12_114 : Cond.fieldLink RX12 114 "TowerAppealModel" "rule" "[I" ∈ tb := tb_mem 1045 (by decide +kernel) rfl
set_option maxRecDepth 100000 in
theorem kf_X12_82 : Cond.fieldLink RX12 82 "TowerAppealModel" "read" "[I" ∈ tb := tb_mem 1046 (by decide +kernel) rfl
set_option maxRecDepth 100000 in
theorem kf_X12_13 : Cond.fieldLink RX12 13 "TowerAppealModel" "halt" "LTowerAppealModel$Stop;" ∈ tb := tb_mem 1047 (by decide +kernel) rfl
set_option maxRecDepth 100000 in
theorem kf_X12_20 : Cond.fieldLink RX12 20 "TowerAppealModel" "tape" "[B" ∈ tb := tb_mem 1048 (by decide +kernel) rfl
set_option maxRecDepth 100000 in
theorem kf_X12_203 : Cond.fieldLink RX12 203 "TowerAppealModel" "taped" "I" ∈ tb := tb_mem 1049 (by decide +kernel) rfl
set_option maxRecDepth 100000 in
theorem kf_X12_17 : Cond.fieldLink RX12 17 "TowerAppealModel" "size" "I" ∈ tb := tb_mem 1050 (by decide +kernel) rfl
set_option maxRecDepth 100000 in
theorem kf_X12_7 : Cond.fieldLink RX12 7 "TowerAppealModel" "from" "I" ∈ tb := tb_mem 1051 (by decide +kernel) rfl
set_option maxRecDepth 100000 in
theorem kf_X12_24 : Cond.fieldLink RX12 24 "TowerAppealModel" "behind" "I" ∈ tb := tb_mem 1052 (by decide +kernel) rfl
set_option maxRecDepth 100000 in
theorem kf_X12_31 : Cond.fieldLink RX12 31 "TowerAppealModel" "hand" "I" ∈ tb := tb_mem 1053 (by decide +kernel) rfl
set_option maxRecDepth 100000 in
theorem kf_X12_41 : Cond.fieldLink RX12 41 "TowerAppealModel" "value" "I" ∈ tb := tb_mem 1054 (by decide +kernel) rfl
set_option maxRecDepth 100000 in
theorem kf_X12_1 : Cond.fieldLink RX12 1 "TowerAppealModel" "fault" "I" ∈ tb := tb_mem 1055 (by decide +kernel) rfl
set_option maxRecDepth 100000 in
theorem kf_X12_10 : Cond.fieldLink RX12 10 "TowerAppealModel" "faultAt" "I" ∈ tb := tb_mem 1056 (by decide +kernel) rfl
set_option maxRecDepth 100000 in
theorem kf_X12_89 : Cond.fieldLink RX12 89 "TowerAppealModel" "told" "[Z" ∈ tb := tb_mem 1057 (by decide +kernel) rfl
set_option maxRecDepth 100000 in
theorem kf_X12_230 : Cond.fieldLink RX12 230 "TowerAppealModel" "clock" "I" ∈ tb := tb_mem 1058 (by decide +kernel) rfl
set_option maxRecDepth 100000 in
theorem kf_X12_262 : Cond.fieldLink RX12 262 "TowerAppealModel" "coin" "I" ∈ tb := tb_mem 1059 (by decide +kernel) rfl
set_option maxRecDepth 100000 in
theorem kf_X12_296 : Cond.fieldLink RX12 296 "TowerAppealModel" "loan" "I" ∈ tb := tb_mem 1060 (by decide +kernel) rfl
set_option maxRecDepth 100000 in
theorem kf_X12_251 : Cond.fieldLink RX12 251 "TowerAppealModel" "matched" "I" ∈ tb := tb_mem 1061 (by decide +kernel) rfl
set_option maxRecDepth 100000 in
theorem kf_X12_276 : Cond.fieldLink RX12 276 "TowerAppealModel" "taxed" "I" ∈ tb := tb_mem 1062 (by decide +kernel) rfl
set_option maxRecDepth 100000 in
theorem kf_X12_298 : Cond.fieldLink RX12 298 "TowerAppealModel" "paidStages" "I" ∈ tb := tb_mem 1063 (by decide +kernel) rfl
set_option maxRecDepth 100000 in
theorem kf_X12_305 : Cond.fieldLink RX12 305 "TowerAppealModel" "grown" "I" ∈ tb := tb_mem 1064 (by decide +kernel) rfl
set_option maxRecDepth 100000 in
theorem kf_X12_237 : Cond.fieldLink RX12 237 "TowerAppealModel" "pledges" "I" ∈ tb := tb_mem 1065 (by decide +kernel) rfl
set_option maxRecDepth 100000 in
theorem kf_X12_246 : Cond.fieldLink RX12 246 "TowerAppealModel" "sums" "I" ∈ tb := tb_mem 1066 (by decide +kernel) rfl
set_option maxRecDepth 100000 in
theorem kf_X12_286 : Cond.fieldLink RX12 286 "TowerAppealModel" "stages" "I" ∈ tb := tb_mem 1067 (by decide +kernel) rfl
set_option maxRecDepth 100000 in
theorem kf_X12_224 : Cond.fieldLink RX12 224 "TowerAppealModel" "isStopped" "Z" ∈ tb := tb_mem 1068 (by decide +kernel) rfl
set_option maxRecDepth 100000 in
theorem kf_X12_120 : Cond.fieldLink RX12 120 "TowerAppealModel" "declaredFrom" "[I" ∈ tb := tb_mem 1069 (by decide +kernel) rfl
set_option maxRecDepth 100000 in
theorem kf_X12_123 : Cond.fieldLink RX12 123 "TowerAppealModel" "declaredTo" "[I" ∈ tb := tb_mem 1070 (by decide +kernel) rfl
set_option maxRecDepth 100000 in
theorem kf_X12_126 : Cond.fieldLink RX12 126 "TowerAppealModel" "given" "[I" ∈ tb := tb_mem 1071 (by decide +kernel) rfl
set_option maxRecDepth 100000 in
theorem kf_X12_129 : Cond.fieldLink RX12 129 "TowerAppealModel" "back" "[I" ∈ tb := tb_mem 1072 (by decide +kernel) rfl
set_option maxRecDepth 100000 in
theorem kf_X12_132 : Cond.fieldLink RX12 132 "TowerAppealModel" "isNameless" "[Z" ∈ tb := tb_mem 1073 (by decide +kernel) rfl
set_option maxRecDepth 100000 in
theorem kf_X12_135 : Cond.fieldLink RX12 135 "TowerAppealModel" "giver" "[I" ∈ tb := tb_mem 1074 (by decide +kernel) rfl
set_option maxRecDepth 100000 in
theorem kf_X12_138 : Cond.fieldLink RX12 138 "TowerAppealModel" "pence" "[I" ∈ tb := tb_mem 1075 (by decide +kernel) rfl
set_option maxRecDepth 100000 in
theorem kf_X12_141 : Cond.fieldLink RX12 141 "TowerAppealModel" "first" "[I" ∈ tb := tb_mem 1076 (by decide +kernel) rfl
set_option maxRecDepth 100000 in
theorem kf_X12_144 : Cond.fieldLink RX12 144 "TowerAppealModel" "every" "[I" ∈ tb := tb_mem 1077 (by decide +kernel) rfl
set_option maxRecDepth 100000 in
theorem kf_X12_147 : Cond.fieldLink RX12 147 "TowerAppealModel" "dues" "[I" ∈ tb := tb_mem 1078 (by decide +kernel) rfl
set_option maxRecDepth 100000 in
theorem kf_X12_150 : Cond.fieldLink RX12 150 "TowerAppealModel" "lapsedAt" "[I" ∈ tb := tb_mem 1079 (by decide +kernel) rfl
set_option maxRecDepth 100000 in
theorem kf_X12_153 : Cond.fieldLink RX12 153 "TowerAppealModel" "isLapsed" "[Z" ∈ tb := tb_mem 1080 (by decide +kernel) rfl
set_option maxRecDepth 100000 in
theorem kf_X12_156 : Cond.fieldLink RX12 156 "TowerAppealModel" "wasTakenUp" "[Z" ∈ tb := tb_mem 1081 (by decide +kernel) rfl
set_option maxRecDepth 100000 in
theorem kf_X12_159 : Cond.fieldLink RX12 159 "TowerAppealModel" "due" "[I" ∈ tb := tb_mem 1082 (by decide +kernel) rfl
set_option maxRecDepth 100000 in
theorem kf_X12_162 : Cond.fieldLink RX12 162 "TowerAppealModel" "filled" "[I" ∈ tb := tb_mem 1083 (by decide +kernel) rfl
set_option maxRecDepth 100000 in
theorem kf_X12_165 : Cond.fieldLink RX12 165 "TowerAppealModel" "isThere" "[Z" ∈ tb := tb_mem 1084 (by decide +kernel) rfl
set_option maxRecDepth 100000 in
theorem kf_X12_168 : Cond.fieldLink RX12 168 "TowerAppealModel" "counts" "[Z" ∈ tb := tb_mem 1085 (by decide +kernel) rfl
set_option maxRecDepth 100000 in
theorem kf_X12_171 : Cond.fieldLink RX12 171 "TowerAppealModel" "sumGiver" "[I" ∈ tb := tb_mem 1086 (by decide +kernel) rfl
set_option maxRecDepth 100000 in
theorem kf_X12_174 : Cond.fieldLink RX12 174 "TowerAppealModel" "sumMonth" "[I" ∈ tb := tb_mem 1087 (by decide +kernel) rfl
set_option maxRecDepth 100000 in
theorem kf_X12_177 : Cond.fieldLink RX12 177 "TowerAppealModel" "sumPence" "[I" ∈ tb := tb_mem 1088 (by decide +kernel) rfl
set_option maxRecDepth 100000 in
theorem kf_X12_180 : Cond.fieldLink RX12 180 "TowerAppealModel" "isClaimed" "[Z" ∈ tb := tb_mem 1089 (by decide +kernel) rfl
set_option maxRecDepth 100000 in
theorem kf_X12_183 : Cond.fieldLink RX12 183 "TowerAppealModel" "cost" "[I" ∈ tb := tb_mem 1090 (by decide +kernel) rfl
set_option maxRecDepth 100000 in
theorem kf_X12_186 : Cond.fieldLink RX12 186 "TowerAppealModel" "length" "[I" ∈ tb := tb_mem 1091 (by decide +kernel) rfl
set_option maxRecDepth 100000 in
theorem kf_X12_188 : Cond.fieldLink RX12 188 "TowerAppealModel" "parts" "[I" ∈ tb := tb_mem 1092 (by decide +kernel) rfl
set_option maxRecDepth 100000 in
theorem kf_X12_191 : Cond.fieldLink RX12 191 "TowerAppealModel" "stagePaid" "[I" ∈ tb := tb_mem 1093 (by decide +kernel) rfl
set_option maxRecDepth 100000 in
theorem kf_X12_194 : Cond.fieldLink RX12 194 "TowerAppealModel" "paused" "[I" ∈ tb := tb_mem 1094 (by decide +kernel) rfl
set_option maxRecDepth 100000 in
theorem kf_X12_289 : Cond.fieldLink RX12 289 "TowerAppealModel" "begun" "I" ∈ tb := tb_mem 1095 (by decide +kernel) rfl
set_option maxRecDepth 100000 in
theorem kf_X12_197 : Cond.fieldLink RX12 197 "TowerAppealModel" "sum" "[I" ∈ tb := tb_mem 1096 (by decide +kernel) rfl
set_option maxRecDepth 100000 in
theorem kf_X12_200 : Cond.fieldLink RX12 200 "TowerAppealModel" "stones" "[I" ∈ tb := tb_mem 1097 (by decide +kernel) rfl

