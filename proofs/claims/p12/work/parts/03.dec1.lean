theorem dX2_sureWithin_92 : decode cX2_sureWithin 92 = .ok (.l2i, 1) := by decide +kernel
theorem dX2_sureWithin_93 : decode cX2_sureWithin 93 = .ok (.goto 4, 3) := by decide +kernel
theorem dX2_sureWithin_96 : decode cX2_sureWithin 96 = .ok (.iconst 0, 1) := by decide +kernel
theorem dX2_sureWithin_97 : decode cX2_sureWithin 97 = .ok (.ireturn, 1) := by decide +kernel
theorem dX3_init_0 : decode cX3_init 0 = .ok (.aload_n 0, 1) := by decide +kernel
theorem dX3_init_1 : decode cX3_init 1 = .ok (.invokespecial 1, 3) := by decide +kernel
theorem dX3_init_4 : decode cX3_init 4 = .ok (.return_, 1) := by decide +kernel
theorem dX3_coin_0 : decode cX3_coin 0 = .ok (.aload_n 0, 1) := by decide +kernel
theorem dX3_coin_1 : decode cX3_coin 1 = .ok (.getfield 7, 3) := by decide +kernel
theorem dX3_coin_4 : decode cX3_coin 4 = .ok (.lreturn, 1) := by decide +kernel
theorem dX3_loan_0 : decode cX3_loan 0 = .ok (.aload_n 0, 1) := by decide +kernel
theorem dX3_loan_1 : decode cX3_loan 1 = .ok (.getfield 13, 3) := by decide +kernel
theorem dX3_loan_4 : decode cX3_loan 4 = .ok (.lreturn, 1) := by decide +kernel
theorem dX3_matched_0 : decode cX3_matched 0 = .ok (.aload_n 0, 1) := by decide +kernel
theorem dX3_matched_1 : decode cX3_matched 1 = .ok (.getfield 16, 3) := by decide +kernel
theorem dX3_matched_4 : decode cX3_matched 4 = .ok (.lreturn, 1) := by decide +kernel
theorem dX3_tax_0 : decode cX3_tax 0 = .ok (.aload_n 0, 1) := by decide +kernel
theorem dX3_tax_1 : decode cX3_tax 1 = .ok (.getfield 19, 3) := by decide +kernel
theorem dX3_tax_4 : decode cX3_tax 4 = .ok (.lreturn, 1) := by decide +kernel
theorem dX3_paidForStages_0 : decode cX3_paidForStages 0 = .ok (.aload_n 0, 1) := by decide +kernel
theorem dX3_paidForStages_1 : decode cX3_paidForStages 1 = .ok (.getfield 22, 3) := by decide +kernel
theorem dX3_paidForStages_4 : decode cX3_paidForStages 4 = .ok (.lreturn, 1) := by decide +kernel
theorem dX3_grown_0 : decode cX3_grown 0 = .ok (.aload_n 0, 1) := by decide +kernel
theorem dX3_grown_1 : decode cX3_grown 1 = .ok (.getfield 25, 3) := by decide +kernel
theorem dX3_grown_4 : decode cX3_grown 4 = .ok (.lreturn, 1) := by decide +kernel
theorem dX3_takeSum_0 : decode cX3_takeSum 0 = .ok (.lconst 0, 1) := by decide +kernel
theorem dX3_takeSum_1 : decode cX3_takeSum 1 = .ok (.lstore 4, 2) := by decide +kernel
theorem dX3_takeSum_3 : decode cX3_takeSum 3 = .ok (.iload_n 2, 1) := by decide +kernel
theorem dX3_takeSum_4 : decode cX3_takeSum 4 = .ok (.aload_n 3, 1) := by decide +kernel
theorem dX3_takeSum_5 : decode cX3_takeSum 5 = .ok (.invokevirtual 28, 3) := by decide +kernel
theorem dX3_takeSum_8 : decode cX3_takeSum 8 = .ok (.if_icmp .gt 42, 3) := by decide +kernel
theorem dX3_takeSum_11 : decode cX3_takeSum 11 = .ok (.iload_n 1, 1) := by decide +kernel
theorem dX3_takeSum_12 : decode cX3_takeSum 12 = .ok (.i2l, 1) := by decide +kernel
theorem dX3_takeSum_13 : decode cX3_takeSum 13 = .ok (.aload_n 3, 1) := by decide +kernel
theorem dX3_takeSum_14 : decode cX3_takeSum 14 = .ok (.invokevirtual 34, 3) := by decide +kernel
theorem dX3_takeSum_17 : decode cX3_takeSum 17 = .ok (.i2l, 1) := by decide +kernel
theorem dX3_takeSum_18 : decode cX3_takeSum 18 = .ok (.lmul, 1) := by decide +kernel
theorem dX3_takeSum_19 : decode cX3_takeSum 19 = .ok (.ldc2_w 37, 3) := by decide +kernel
theorem dX3_takeSum_22 : decode cX3_takeSum 22 = .ok (.ldiv, 1) := by decide +kernel
theorem dX3_takeSum_23 : decode cX3_takeSum 23 = .ok (.lstore 6, 2) := by decide +kernel
theorem dX3_takeSum_25 : decode cX3_takeSum 25 = .ok (.lconst 0, 1) := by decide +kernel
theorem dX3_takeSum_26 : decode cX3_takeSum 26 = .ok (.aload_n 3, 1) := by decide +kernel
theorem dX3_takeSum_27 : decode cX3_takeSum 27 = .ok (.invokevirtual 39, 3) := by decide +kernel
theorem dX3_takeSum_30 : decode cX3_takeSum 30 = .ok (.i2l, 1) := by decide +kernel
theorem dX3_takeSum_31 : decode cX3_takeSum 31 = .ok (.aload_n 0, 1) := by decide +kernel
theorem dX3_takeSum_32 : decode cX3_takeSum 32 = .ok (.getfield 16, 3) := by decide +kernel
theorem dX3_takeSum_35 : decode cX3_takeSum 35 = .ok (.lsub, 1) := by decide +kernel
theorem dX3_takeSum_36 : decode cX3_takeSum 36 = .ok (.invokestatic 42, 3) := by decide +kernel
theorem dX3_takeSum_39 : decode cX3_takeSum 39 = .ok (.lstore 8, 2) := by decide +kernel
theorem dX3_takeSum_41 : decode cX3_takeSum 41 = .ok (.lload 6, 2) := by decide +kernel
theorem dX3_takeSum_43 : decode cX3_takeSum 43 = .ok (.lload 8, 2) := by decide +kernel
theorem dX3_takeSum_45 : decode cX3_takeSum 45 = .ok (.invokestatic 48, 3) := by decide +kernel
theorem dX3_takeSum_48 : decode cX3_takeSum 48 = .ok (.lstore 4, 2) := by decide +kernel
theorem dX3_takeSum_50 : decode cX3_takeSum 50 = .ok (.aload_n 0, 1) := by decide +kernel
theorem dX3_takeSum_51 : decode cX3_takeSum 51 = .ok (.dup, 1) := by decide +kernel
theorem dX3_takeSum_52 : decode cX3_takeSum 52 = .ok (.getfield 16, 3) := by decide +kernel
theorem dX3_takeSum_55 : decode cX3_takeSum 55 = .ok (.lload 4, 2) := by decide +kernel
theorem dX3_takeSum_57 : decode cX3_takeSum 57 = .ok (.ladd, 1) := by decide +kernel
theorem dX3_takeSum_58 : decode cX3_takeSum 58 = .ok (.putfield 16, 3) := by decide +kernel
theorem dX3_takeSum_61 : decode cX3_takeSum 61 = .ok (.aload_n 0, 1) := by decide +kernel
theorem dX3_takeSum_62 : decode cX3_takeSum 62 = .ok (.dup, 1) := by decide +kernel
theorem dX3_takeSum_63 : decode cX3_takeSum 63 = .ok (.getfield 7, 3) := by decide +kernel
theorem dX3_takeSum_66 : decode cX3_takeSum 66 = .ok (.iload_n 1, 1) := by decide +kernel
theorem dX3_takeSum_67 : decode cX3_takeSum 67 = .ok (.i2l, 1) := by decide +kernel
theorem dX3_takeSum_68 : decode cX3_takeSum 68 = .ok (.lload 4, 2) := by decide +kernel
theorem dX3_takeSum_70 : decode cX3_takeSum 70 = .ok (.ladd, 1) := by decide +kernel
theorem dX3_takeSum_71 : decode cX3_takeSum 71 = .ok (.ladd, 1) := by decide +kernel
theorem dX3_takeSum_72 : decode cX3_takeSum 72 = .ok (.putfield 7, 3) := by decide +kernel
theorem dX3_takeSum_75 : decode cX3_takeSum 75 = .ok (.lload 4, 2) := by decide +kernel
theorem dX3_takeSum_77 : decode cX3_takeSum 77 = .ok (.l2i, 1) := by decide +kernel
theorem dX3_takeSum_78 : decode cX3_takeSum 78 = .ok (.ireturn, 1) := by decide +kernel
theorem dX3_takeTax_0 : decode cX3_takeTax 0 = .ok (.aload_n 0, 1) := by decide +kernel
theorem dX3_takeTax_1 : decode cX3_takeTax 1 = .ok (.dup, 1) := by decide +kernel
theorem dX3_takeTax_2 : decode cX3_takeTax 2 = .ok (.getfield 19, 3) := by decide +kernel
theorem dX3_takeTax_5 : decode cX3_takeTax 5 = .ok (.iload_n 1, 1) := by decide +kernel
theorem dX3_takeTax_6 : decode cX3_takeTax 6 = .ok (.i2l, 1) := by decide +kernel
theorem dX3_takeTax_7 : decode cX3_takeTax 7 = .ok (.ladd, 1) := by decide +kernel
theorem dX3_takeTax_8 : decode cX3_takeTax 8 = .ok (.putfield 19, 3) := by decide +kernel
theorem dX3_takeTax_11 : decode cX3_takeTax 11 = .ok (.aload_n 0, 1) := by decide +kernel
theorem dX3_takeTax_12 : decode cX3_takeTax 12 = .ok (.dup, 1) := by decide +kernel
theorem dX3_takeTax_13 : decode cX3_takeTax 13 = .ok (.getfield 7, 3) := by decide +kernel
theorem dX3_takeTax_16 : decode cX3_takeTax 16 = .ok (.iload_n 1, 1) := by decide +kernel
theorem dX3_takeTax_17 : decode cX3_takeTax 17 = .ok (.i2l, 1) := by decide +kernel
theorem dX3_takeTax_18 : decode cX3_takeTax 18 = .ok (.ladd, 1) := by decide +kernel
theorem dX3_takeTax_19 : decode cX3_takeTax 19 = .ok (.putfield 7, 3) := by decide +kernel
theorem dX3_takeTax_22 : decode cX3_takeTax 22 = .ok (.return_, 1) := by decide +kernel
theorem dX3_growLoan_0 : decode cX3_growLoan 0 = .ok (.aload_n 0, 1) := by decide +kernel
theorem dX3_growLoan_1 : decode cX3_growLoan 1 = .ok (.getfield 13, 3) := by decide +kernel
theorem dX3_growLoan_4 : decode cX3_growLoan 4 = .ok (.iload_n 1, 1) := by decide +kernel
theorem dX3_growLoan_5 : decode cX3_growLoan 5 = .ok (.i2l, 1) := by decide +kernel
theorem dX3_growLoan_6 : decode cX3_growLoan 6 = .ok (.lmul, 1) := by decide +kernel
theorem dX3_growLoan_7 : decode cX3_growLoan 7 = .ok (.ldc2_w 51, 3) := by decide +kernel
theorem dX3_growLoan_10 : decode cX3_growLoan 10 = .ok (.ldiv, 1) := by decide +kernel
theorem dX3_growLoan_11 : decode cX3_growLoan 11 = .ok (.lstore_n 2, 1) := by decide +kernel
theorem dX3_growLoan_12 : decode cX3_growLoan 12 = .ok (.aload_n 0, 1) := by decide +kernel
theorem dX3_growLoan_13 : decode cX3_growLoan 13 = .ok (.dup, 1) := by decide +kernel
theorem dX3_growLoan_14 : decode cX3_growLoan 14 = .ok (.getfield 13, 3) := by decide +kernel
theorem dX3_growLoan_17 : decode cX3_growLoan 17 = .ok (.lload_n 2, 1) := by decide +kernel
theorem dX3_growLoan_18 : decode cX3_growLoan 18 = .ok (.ladd, 1) := by decide +kernel
theorem dX3_growLoan_19 : decode cX3_growLoan 19 = .ok (.putfield 13, 3) := by decide +kernel
theorem dX3_growLoan_22 : decode cX3_growLoan 22 = .ok (.aload_n 0, 1) := by decide +kernel
theorem dX3_growLoan_23 : decode cX3_growLoan 23 = .ok (.dup, 1) := by decide +kernel
theorem dX3_growLoan_24 : decode cX3_growLoan 24 = .ok (.getfield 25, 3) := by decide +kernel
theorem dX3_growLoan_27 : decode cX3_growLoan 27 = .ok (.lload_n 2, 1) := by decide +kernel
theorem dX3_growLoan_28 : decode cX3_growLoan 28 = .ok (.ladd, 1) := by decide +kernel
theorem dX3_growLoan_29 : decode cX3_growLoan 29 = .ok (.putfield 25, 3) := by decide +kernel
theorem dX3_growLoan_32 : decode cX3_growLoan 32 = .ok (.return_, 1) := by decide +kernel
theorem dX3_paysPart_0 : decode cX3_paysPart 0 = .ok (.lconst 0, 1) := by decide +kernel
theorem dX3_paysPart_1 : decode cX3_paysPart 1 = .ok (.iload_n 2, 1) := by decide +kernel
theorem dX3_paysPart_2 : decode cX3_paysPart 2 = .ok (.i2l, 1) := by decide +kernel
theorem dX3_paysPart_3 : decode cX3_paysPart 3 = .ok (.aload_n 0, 1) := by decide +kernel
theorem dX3_paysPart_4 : decode cX3_paysPart 4 = .ok (.getfield 13, 3) := by decide +kernel
theorem dX3_paysPart_7 : decode cX3_paysPart 7 = .ok (.lsub, 1) := by decide +kernel
theorem dX3_paysPart_8 : decode cX3_paysPart 8 = .ok (.invokestatic 42, 3) := by decide +kernel
theorem dX3_paysPart_11 : decode cX3_paysPart 11 = .ok (.lstore_n 3, 1) := by decide +kernel
theorem dX3_paysPart_12 : decode cX3_paysPart 12 = .ok (.aload_n 0, 1) := by decide +kernel
theorem dX3_paysPart_13 : decode cX3_paysPart 13 = .ok (.getfield 7, 3) := by decide +kernel
theorem dX3_paysPart_16 : decode cX3_paysPart 16 = .ok (.lload_n 3, 1) := by decide +kernel
theorem dX3_paysPart_17 : decode cX3_paysPart 17 = .ok (.ladd, 1) := by decide +kernel
theorem dX3_paysPart_18 : decode cX3_paysPart 18 = .ok (.iload_n 1, 1) := by decide +kernel
theorem dX3_paysPart_19 : decode cX3_paysPart 19 = .ok (.i2l, 1) := by decide +kernel
theorem dX3_paysPart_20 : decode cX3_paysPart 20 = .ok (.lcmp, 1) := by decide +kernel
theorem dX3_paysPart_21 : decode cX3_paysPart 21 = .ok (.ifCond .ge 5, 3) := by decide +kernel
theorem dX3_paysPart_24 : decode cX3_paysPart 24 = .ok (.iconst 0, 1) := by decide +kernel
theorem dX3_paysPart_25 : decode cX3_paysPart 25 = .ok (.ireturn, 1) := by decide +kernel
theorem dX3_paysPart_26 : decode cX3_paysPart 26 = .ok (.lconst 0, 1) := by decide +kernel
theorem dX3_paysPart_27 : decode cX3_paysPart 27 = .ok (.iload_n 1, 1) := by decide +kernel
theorem dX3_paysPart_28 : decode cX3_paysPart 28 = .ok (.i2l, 1) := by decide +kernel
theorem dX3_paysPart_29 : decode cX3_paysPart 29 = .ok (.aload_n 0, 1) := by decide +kernel
theorem dX3_paysPart_30 : decode cX3_paysPart 30 = .ok (.getfield 7, 3) := by decide +kernel
theorem dX3_paysPart_33 : decode cX3_paysPart 33 = .ok (.lsub, 1) := by decide +kernel
theorem dX3_paysPart_34 : decode cX3_paysPart 34 = .ok (.invokestatic 42, 3) := by decide +kernel
theorem dX3_paysPart_37 : decode cX3_paysPart 37 = .ok (.lstore 5, 2) := by decide +kernel
theorem dX3_paysPart_39 : decode cX3_paysPart 39 = .ok (.aload_n 0, 1) := by decide +kernel
theorem dX3_paysPart_40 : decode cX3_paysPart 40 = .ok (.dup, 1) := by decide +kernel
theorem dX3_paysPart_41 : decode cX3_paysPart 41 = .ok (.getfield 13, 3) := by decide +kernel
theorem dX3_paysPart_44 : decode cX3_paysPart 44 = .ok (.lload 5, 2) := by decide +kernel
theorem dX3_paysPart_46 : decode cX3_paysPart 46 = .ok (.ladd, 1) := by decide +kernel
theorem dX3_paysPart_47 : decode cX3_paysPart 47 = .ok (.putfield 13, 3) := by decide +kernel
theorem dX3_paysPart_50 : decode cX3_paysPart 50 = .ok (.aload_n 0, 1) := by decide +kernel
theorem dX3_paysPart_51 : decode cX3_paysPart 51 = .ok (.dup, 1) := by decide +kernel
theorem dX3_paysPart_52 : decode cX3_paysPart 52 = .ok (.getfield 7, 3) := by decide +kernel
theorem dX3_paysPart_55 : decode cX3_paysPart 55 = .ok (.lload 5, 2) := by decide +kernel
theorem dX3_paysPart_57 : decode cX3_paysPart 57 = .ok (.iload_n 1, 1) := by decide +kernel
theorem dX3_paysPart_58 : decode cX3_paysPart 58 = .ok (.i2l, 1) := by decide +kernel
theorem dX3_paysPart_59 : decode cX3_paysPart 59 = .ok (.lsub, 1) := by decide +kernel
theorem dX3_paysPart_60 : decode cX3_paysPart 60 = .ok (.ladd, 1) := by decide +kernel
theorem dX3_paysPart_61 : decode cX3_paysPart 61 = .ok (.putfield 7, 3) := by decide +kernel
theorem dX3_paysPart_64 : decode cX3_paysPart 64 = .ok (.aload_n 0, 1) := by decide +kernel
theorem dX3_paysPart_65 : decode cX3_paysPart 65 = .ok (.dup, 1) := by decide +kernel
theorem dX3_paysPart_66 : decode cX3_paysPart 66 = .ok (.getfield 22, 3) := by decide +kernel
theorem dX3_paysPart_69 : decode cX3_paysPart 69 = .ok (.iload_n 1, 1) := by decide +kernel
theorem dX3_paysPart_70 : decode cX3_paysPart 70 = .ok (.i2l, 1) := by decide +kernel
theorem dX3_paysPart_71 : decode cX3_paysPart 71 = .ok (.ladd, 1) := by decide +kernel
theorem dX3_paysPart_72 : decode cX3_paysPart 72 = .ok (.putfield 22, 3) := by decide +kernel
theorem dX3_paysPart_75 : decode cX3_paysPart 75 = .ok (.iconst 1, 1) := by decide +kernel
theorem dX3_paysPart_76 : decode cX3_paysPart 76 = .ok (.ireturn, 1) := by decide +kernel
theorem dX3_payBackLoan_0 : decode cX3_payBackLoan 0 = .ok (.aload_n 0, 1) := by decide +kernel
theorem dX3_payBackLoan_1 : decode cX3_payBackLoan 1 = .ok (.getfield 7, 3) := by decide +kernel
theorem dX3_payBackLoan_4 : decode cX3_payBackLoan 4 = .ok (.aload_n 0, 1) := by decide +kernel
theorem dX3_payBackLoan_5 : decode cX3_payBackLoan 5 = .ok (.getfield 13, 3) := by decide +kernel
theorem dX3_payBackLoan_8 : decode cX3_payBackLoan 8 = .ok (.invokestatic 48, 3) := by decide +kernel
theorem dX3_payBackLoan_11 : decode cX3_payBackLoan 11 = .ok (.lstore_n 1, 1) := by decide +kernel
theorem dX3_payBackLoan_12 : decode cX3_payBackLoan 12 = .ok (.aload_n 0, 1) := by decide +kernel
theorem dX3_payBackLoan_13 : decode cX3_payBackLoan 13 = .ok (.dup, 1) := by decide +kernel
theorem dX3_payBackLoan_14 : decode cX3_payBackLoan 14 = .ok (.getfield 7, 3) := by decide +kernel
theorem dX3_payBackLoan_17 : decode cX3_payBackLoan 17 = .ok (.lload_n 1, 1) := by decide +kernel
theorem dX3_payBackLoan_18 : decode cX3_payBackLoan 18 = .ok (.lsub, 1) := by decide +kernel
theorem dX3_payBackLoan_19 : decode cX3_payBackLoan 19 = .ok (.putfield 7, 3) := by decide +kernel
theorem dX3_payBackLoan_22 : decode cX3_payBackLoan 22 = .ok (.aload_n 0, 1) := by decide +kernel
theorem dX3_payBackLoan_23 : decode cX3_payBackLoan 23 = .ok (.dup, 1) := by decide +kernel
theorem dX3_payBackLoan_24 : decode cX3_payBackLoan 24 = .ok (.getfield 13, 3) := by decide +kernel
theorem dX3_payBackLoan_27 : decode cX3_payBackLoan 27 = .ok (.lload_n 1, 1) := by decide +kernel
theorem dX3_payBackLoan_28 : decode cX3_payBackLoan 28 = .ok (.lsub, 1) := by decide +kernel
theorem dX3_payBackLoan_29 : decode cX3_payBackLoan 29 = .ok (.putfield 13, 3) := by decide +kernel
theorem dX3_payBackLoan_32 : decode cX3_payBackLoan 32 = .ok (.return_, 1) := by decide +kernel
theorem dX3_giveBack_0 : decode cX3_giveBack 0 = .ok (.aload_n 0, 1) := by decide +kernel
theorem dX3_giveBack_1 : decode cX3_giveBack 1 = .ok (.dup, 1) := by decide +kernel
theorem dX3_giveBack_2 : decode cX3_giveBack 2 = .ok (.getfield 7, 3) := by decide +kernel
theorem dX3_giveBack_5 : decode cX3_giveBack 5 = .ok (.iload_n 1, 1) := by decide +kernel
theorem dX3_giveBack_6 : decode cX3_giveBack 6 = .ok (.i2l, 1) := by decide +kernel
theorem dX3_giveBack_7 : decode cX3_giveBack 7 = .ok (.lsub, 1) := by decide +kernel
theorem dX3_giveBack_8 : decode cX3_giveBack 8 = .ok (.putfield 7, 3) := by decide +kernel
theorem dX3_giveBack_11 : decode cX3_giveBack 11 = .ok (.return_, 1) := by decide +kernel
theorem dX4_init_0 : decode cX4_init 0 = .ok (.aload_n 0, 1) := by decide +kernel
theorem dX4_init_1 : decode cX4_init 1 = .ok (.invokespecial 1, 3) := by decide +kernel
theorem dX4_init_4 : decode cX4_init 4 = .ok (.aload_n 0, 1) := by decide +kernel
theorem dX4_init_5 : decode cX4_init 5 = .ok (.iconst 0, 1) := by decide +kernel
theorem dX4_init_6 : decode cX4_init 6 = .ok (.putfield 9, 3) := by decide +kernel
theorem dX4_init_9 : decode cX4_init 9 = .ok (.aload_n 0, 1) := by decide +kernel
theorem dX4_init_10 : decode cX4_init 10 = .ok (.iload_n 1, 1) := by decide +kernel
theorem dX4_init_11 : decode cX4_init 11 = .ok (.putfield 13, 3) := by decide +kernel
theorem dX4_init_14 : decode cX4_init 14 = .ok (.aload_n 0, 1) := by decide +kernel
theorem dX4_init_15 : decode cX4_init 15 = .ok (.iload_n 2, 1) := by decide +kernel
theorem dX4_init_16 : decode cX4_init 16 = .ok (.putfield 16, 3) := by decide +kernel
theorem dX4_init_19 : decode cX4_init 19 = .ok (.return_, 1) := by decide +kernel
theorem dX4_cost_0 : decode cX4_cost 0 = .ok (.aload_n 0, 1) := by decide +kernel
theorem dX4_cost_1 : decode cX4_cost 1 = .ok (.getfield 13, 3) := by decide +kernel
theorem dX4_cost_4 : decode cX4_cost 4 = .ok (.ireturn, 1) := by decide +kernel
theorem dX4_parts_0 : decode cX4_parts 0 = .ok (.aload_n 0, 1) := by decide +kernel
theorem dX4_parts_1 : decode cX4_parts 1 = .ok (.getfield 16, 3) := by decide +kernel
theorem dX4_parts_4 : decode cX4_parts 4 = .ok (.ireturn, 1) := by decide +kernel
theorem dX4_progress_0 : decode cX4_progress 0 = .ok (.aload_n 0, 1) := by decide +kernel
theorem dX4_progress_1 : decode cX4_progress 1 = .ok (.getfield 9, 3) := by decide +kernel
theorem dX4_progress_4 : decode cX4_progress 4 = .ok (.ireturn, 1) := by decide +kernel
theorem dX4_paid_0 : decode cX4_paid 0 = .ok (.aload_n 0, 1) := by decide +kernel
theorem dX4_paid_1 : decode cX4_paid 1 = .ok (.getfield 19, 3) := by decide +kernel
theorem dX4_paid_4 : decode cX4_paid 4 = .ok (.ireturn, 1) := by decide +kernel
theorem dX4_paused_0 : decode cX4_paused 0 = .ok (.aload_n 0, 1) := by decide +kernel
theorem dX4_paused_1 : decode cX4_paused 1 = .ok (.getfield 22, 3) := by decide +kernel
theorem dX4_paused_4 : decode cX4_paused 4 = .ok (.ireturn, 1) := by decide +kernel
theorem dX4_runs_0 : decode cX4_runs 0 = .ok (.aload_n 0, 1) := by decide +kernel
theorem dX4_runs_1 : decode cX4_runs 1 = .ok (.getfield 9, 3) := by decide +kernel
theorem dX4_runs_4 : decode cX4_runs 4 = .ok (.iconst 1, 1) := by decide +kernel
theorem dX4_runs_5 : decode cX4_runs 5 = .ok (.if_icmp .ne 7, 3) := by decide +kernel
theorem dX4_runs_8 : decode cX4_runs 8 = .ok (.iconst 1, 1) := by decide +kernel
theorem dX4_runs_9 : decode cX4_runs 9 = .ok (.goto 4, 3) := by decide +kernel
theorem dX4_runs_12 : decode cX4_runs 12 = .ok (.iconst 0, 1) := by decide +kernel
theorem dX4_runs_13 : decode cX4_runs 13 = .ok (.ireturn, 1) := by decide +kernel
theorem dX4_start_0 : decode cX4_start 0 = .ok (.aload_n 0, 1) := by decide +kernel
theorem dX4_start_1 : decode cX4_start 1 = .ok (.iconst 1, 1) := by decide +kernel
theorem dX4_start_2 : decode cX4_start 2 = .ok (.putfield 9, 3) := by decide +kernel
theorem dX4_start_5 : decode cX4_start 5 = .ok (.return_, 1) := by decide +kernel
theorem dX4_nextPart_0 : decode cX4_nextPart 0 = .ok (.aload_n 0, 1) := by decide +kernel
theorem dX4_nextPart_1 : decode cX4_nextPart 1 = .ok (.getfield 25, 3) := by decide +kernel
theorem dX4_nextPart_4 : decode cX4_nextPart 4 = .ok (.aload_n 0, 1) := by decide +kernel
theorem dX4_nextPart_5 : decode cX4_nextPart 5 = .ok (.getfield 16, 3) := by decide +kernel
theorem dX4_nextPart_8 : decode cX4_nextPart 8 = .ok (.iconst 1, 1) := by decide +kernel
theorem dX4_nextPart_9 : decode cX4_nextPart 9 = .ok (.isub, 1) := by decide +kernel
theorem dX4_nextPart_10 : decode cX4_nextPart 10 = .ok (.if_icmp .ge 11, 3) := by decide +kernel
theorem dX4_nextPart_13 : decode cX4_nextPart 13 = .ok (.aload_n 0, 1) := by decide +kernel
theorem dX4_nextPart_14 : decode cX4_nextPart 14 = .ok (.getfield 16, 3) := by decide +kernel
theorem dX4_nextPart_17 : decode cX4_nextPart 17 = .ok (.iconst 1, 1) := by decide +kernel
theorem dX4_nextPart_18 : decode cX4_nextPart 18 = .ok (.if_icmp .ge 13, 3) := by decide +kernel
theorem dX4_nextPart_21 : decode cX4_nextPart 21 = .ok (.aload_n 0, 1) := by decide +kernel
theorem dX4_nextPart_22 : decode cX4_nextPart 22 = .ok (.getfield 13, 3) := by decide +kernel
theorem dX4_nextPart_25 : decode cX4_nextPart 25 = .ok (.aload_n 0, 1) := by decide +kernel
theorem dX4_nextPart_26 : decode cX4_nextPart 26 = .ok (.getfield 19, 3) := by decide +kernel
theorem dX4_nextPart_29 : decode cX4_nextPart 29 = .ok (.isub, 1) := by decide +kernel
theorem dX4_nextPart_30 : decode cX4_nextPart 30 = .ok (.ireturn, 1) := by decide +kernel
theorem dX4_nextPart_31 : decode cX4_nextPart 31 = .ok (.aload_n 0, 1) := by decide +kernel
theorem dX4_nextPart_32 : decode cX4_nextPart 32 = .ok (.getfield 13, 3) := by decide +kernel
theorem dX4_nextPart_35 : decode cX4_nextPart 35 = .ok (.aload_n 0, 1) := by decide +kernel
theorem dX4_nextPart_36 : decode cX4_nextPart 36 = .ok (.getfield 16, 3) := by decide +kernel
theorem dX4_nextPart_39 : decode cX4_nextPart 39 = .ok (.idiv, 1) := by decide +kernel
theorem dX4_nextPart_40 : decode cX4_nextPart 40 = .ok (.ireturn, 1) := by decide +kernel
theorem dX4_bookPart_0 : decode cX4_bookPart 0 = .ok (.aload_n 0, 1) := by decide +kernel
theorem dX4_bookPart_1 : decode cX4_bookPart 1 = .ok (.dup, 1) := by decide +kernel
theorem dX4_bookPart_2 : decode cX4_bookPart 2 = .ok (.getfield 19, 3) := by decide +kernel
theorem dX4_bookPart_5 : decode cX4_bookPart 5 = .ok (.iload_n 1, 1) := by decide +kernel
theorem dX4_bookPart_6 : decode cX4_bookPart 6 = .ok (.iadd, 1) := by decide +kernel
theorem dX4_bookPart_7 : decode cX4_bookPart 7 = .ok (.putfield 19, 3) := by decide +kernel
theorem dX4_bookPart_10 : decode cX4_bookPart 10 = .ok (.aload_n 0, 1) := by decide +kernel
theorem dX4_bookPart_11 : decode cX4_bookPart 11 = .ok (.dup, 1) := by decide +kernel
theorem dX4_bookPart_12 : decode cX4_bookPart 12 = .ok (.getfield 25, 3) := by decide +kernel
theorem dX4_bookPart_15 : decode cX4_bookPart 15 = .ok (.iconst 1, 1) := by decide +kernel
theorem dX4_bookPart_16 : decode cX4_bookPart 16 = .ok (.iadd, 1) := by decide +kernel
theorem dX4_bookPart_17 : decode cX4_bookPart 17 = .ok (.putfield 25, 3) := by decide +kernel
theorem dX4_bookPart_20 : decode cX4_bookPart 20 = .ok (.aload_n 0, 1) := by decide +kernel
theorem dX4_bookPart_21 : decode cX4_bookPart 21 = .ok (.getfield 25, 3) := by decide +kernel
theorem dX4_bookPart_24 : decode cX4_bookPart 24 = .ok (.aload_n 0, 1) := by decide +kernel
theorem dX4_bookPart_25 : decode cX4_bookPart 25 = .ok (.getfield 16, 3) := by decide +kernel
theorem dX4_bookPart_28 : decode cX4_bookPart 28 = .ok (.if_icmp .lt 8, 3) := by decide +kernel
theorem dX4_bookPart_31 : decode cX4_bookPart 31 = .ok (.aload_n 0, 1) := by decide +kernel
theorem dX4_bookPart_32 : decode cX4_bookPart 32 = .ok (.iconst 2, 1) := by decide +kernel
theorem dX4_bookPart_33 : decode cX4_bookPart 33 = .ok (.putfield 9, 3) := by decide +kernel
theorem dX4_bookPart_36 : decode cX4_bookPart 36 = .ok (.return_, 1) := by decide +kernel
theorem dX4_bookPause_0 : decode cX4_bookPause 0 = .ok (.aload_n 0, 1) := by decide +kernel
theorem dX4_bookPause_1 : decode cX4_bookPause 1 = .ok (.dup, 1) := by decide +kernel
theorem dX4_bookPause_2 : decode cX4_bookPause 2 = .ok (.getfield 22, 3) := by decide +kernel
theorem dX4_bookPause_5 : decode cX4_bookPause 5 = .ok (.iconst 1, 1) := by decide +kernel
theorem dX4_bookPause_6 : decode cX4_bookPause 6 = .ok (.iadd, 1) := by decide +kernel
theorem dX4_bookPause_7 : decode cX4_bookPause 7 = .ok (.putfield 22, 3) := by decide +kernel
theorem dX4_bookPause_10 : decode cX4_bookPause 10 = .ok (.return_, 1) := by decide +kernel
theorem dX5_init_0 : decode cX5_init 0 = .ok (.aload_n 0, 1) := by decide +kernel
theorem dX5_init_1 : decode cX5_init 1 = .ok (.invokespecial 3, 3) := by decide +kernel
theorem dX5_init_4 : decode cX5_init 4 = .ok (.aload_n 0, 1) := by decide +kernel
theorem dX5_init_5 : decode cX5_init 5 = .ok (.sipush 250, 3) := by decide +kernel
theorem dX5_init_8 : decode cX5_init 8 = .ok (.newarray .int, 2) := by decide +kernel
theorem dX5_init_10 : decode cX5_init 10 = .ok (.putfield 9, 3) := by decide +kernel
theorem dX5_init_13 : decode cX5_init 13 = .ok (.aload_n 0, 1) := by decide +kernel
theorem dX5_init_14 : decode cX5_init 14 = .ok (.sipush 250, 3) := by decide +kernel
theorem dX5_init_17 : decode cX5_init 17 = .ok (.newarray .int, 2) := by decide +kernel
theorem dX5_init_19 : decode cX5_init 19 = .ok (.putfield 15, 3) := by decide +kernel
theorem dX5_init_22 : decode cX5_init 22 = .ok (.aload_n 0, 1) := by decide +kernel
theorem dX5_init_23 : decode cX5_init 23 = .ok (.sipush 250, 3) := by decide +kernel
theorem dX5_init_26 : decode cX5_init 26 = .ok (.newarray .int, 2) := by decide +kernel
theorem dX5_init_28 : decode cX5_init 28 = .ok (.putfield 18, 3) := by decide +kernel
theorem dX5_init_31 : decode cX5_init 31 = .ok (.aload_n 0, 1) := by decide +kernel
theorem dX5_init_32 : decode cX5_init 32 = .ok (.sipush 250, 3) := by decide +kernel
theorem dX5_init_35 : decode cX5_init 35 = .ok (.newarray .boolean, 2) := by decide +kernel
theorem dX5_init_37 : decode cX5_init 37 = .ok (.putfield 21, 3) := by decide +kernel
theorem dX5_init_40 : decode cX5_init 40 = .ok (.return_, 1) := by decide +kernel
theorem dX5_size_0 : decode cX5_size 0 = .ok (.aload_n 0, 1) := by decide +kernel
theorem dX5_size_1 : decode cX5_size 1 = .ok (.getfield 25, 3) := by decide +kernel
theorem dX5_size_4 : decode cX5_size 4 = .ok (.ireturn, 1) := by decide +kernel
theorem dX5_total_0 : decode cX5_total 0 = .ok (.aload_n 0, 1) := by decide +kernel
theorem dX5_total_1 : decode cX5_total 1 = .ok (.getfield 29, 3) := by decide +kernel
theorem dX5_total_4 : decode cX5_total 4 = .ok (.lreturn, 1) := by decide +kernel
theorem dX5_isFull_0 : decode cX5_isFull 0 = .ok (.aload_n 0, 1) := by decide +kernel
theorem dX5_isFull_1 : decode cX5_isFull 1 = .ok (.getfield 25, 3) := by decide +kernel
theorem dX5_isFull_4 : decode cX5_isFull 4 = .ok (.sipush 250, 3) := by decide +kernel
theorem dX5_isFull_7 : decode cX5_isFull 7 = .ok (.if_icmp .lt 7, 3) := by decide +kernel
theorem dX5_isFull_10 : decode cX5_isFull 10 = .ok (.iconst 1, 1) := by decide +kernel
theorem dX5_isFull_11 : decode cX5_isFull 11 = .ok (.goto 4, 3) := by decide +kernel
theorem dX5_isFull_14 : decode cX5_isFull 14 = .ok (.iconst 0, 1) := by decide +kernel
theorem dX5_isFull_15 : decode cX5_isFull 15 = .ok (.ireturn, 1) := by decide +kernel
theorem dX5_add_0 : decode cX5_add 0 = .ok (.aload_n 0, 1) := by decide +kernel
theorem dX5_add_1 : decode cX5_add 1 = .ok (.getfield 25, 3) := by decide +kernel
theorem dX5_add_4 : decode cX5_add 4 = .ok (.ifCond .lt 64, 3) := by decide +kernel
theorem dX5_add_7 : decode cX5_add 7 = .ok (.aload_n 0, 1) := by decide +kernel
theorem dX5_add_8 : decode cX5_add 8 = .ok (.getfield 25, 3) := by decide +kernel
theorem dX5_add_11 : decode cX5_add 11 = .ok (.sipush 250, 3) := by decide +kernel
theorem dX5_add_14 : decode cX5_add 14 = .ok (.if_icmp .ge 54, 3) := by decide +kernel
theorem dX5_add_17 : decode cX5_add 17 = .ok (.aload_n 0, 1) := by decide +kernel
theorem dX5_add_18 : decode cX5_add 18 = .ok (.getfield 9, 3) := by decide +kernel
theorem dX5_add_21 : decode cX5_add 21 = .ok (.aload_n 0, 1) := by decide +kernel
theorem dX5_add_22 : decode cX5_add 22 = .ok (.getfield 25, 3) := by decide +kernel
theorem dX5_add_25 : decode cX5_add 25 = .ok (.iload_n 1, 1) := by decide +kernel
theorem dX5_add_26 : decode cX5_add 26 = .ok (.iastore, 1) := by decide +kernel
theorem dX5_add_27 : decode cX5_add 27 = .ok (.aload_n 0, 1) := by decide +kernel
theorem dX5_add_28 : decode cX5_add 28 = .ok (.getfield 15, 3) := by decide +kernel
theorem dX5_add_31 : decode cX5_add 31 = .ok (.aload_n 0, 1) := by decide +kernel
theorem dX5_add_32 : decode cX5_add 32 = .ok (.getfield 25, 3) := by decide +kernel
theorem dX5_add_35 : decode cX5_add 35 = .ok (.iload_n 2, 1) := by decide +kernel
theorem dX5_add_36 : decode cX5_add 36 = .ok (.iastore, 1) := by decide +kernel
theorem dX5_add_37 : decode cX5_add 37 = .ok (.aload_n 0, 1) := by decide +kernel
theorem dX5_add_38 : decode cX5_add 38 = .ok (.getfield 18, 3) := by decide +kernel
theorem dX5_add_41 : decode cX5_add 41 = .ok (.aload_n 0, 1) := by decide +kernel
theorem dX5_add_42 : decode cX5_add 42 = .ok (.getfield 25, 3) := by decide +kernel
theorem dX5_add_45 : decode cX5_add 45 = .ok (.iload_n 3, 1) := by decide +kernel
theorem dX5_add_46 : decode cX5_add 46 = .ok (.iastore, 1) := by decide +kernel
theorem dX5_add_47 : decode cX5_add 47 = .ok (.aload_n 0, 1) := by decide +kernel
theorem dX5_add_48 : decode cX5_add 48 = .ok (.dup, 1) := by decide +kernel
theorem dX5_add_49 : decode cX5_add 49 = .ok (.getfield 25, 3) := by decide +kernel
theorem dX5_add_52 : decode cX5_add 52 = .ok (.iconst 1, 1) := by decide +kernel
theorem dX5_add_53 : decode cX5_add 53 = .ok (.iadd, 1) := by decide +kernel
theorem dX5_add_54 : decode cX5_add 54 = .ok (.putfield 25, 3) := by decide +kernel
theorem dX5_add_57 : decode cX5_add 57 = .ok (.aload_n 0, 1) := by decide +kernel
theorem dX5_add_58 : decode cX5_add 58 = .ok (.dup, 1) := by decide +kernel
theorem dX5_add_59 : decode cX5_add 59 = .ok (.getfield 29, 3) := by decide +kernel
theorem dX5_add_62 : decode cX5_add 62 = .ok (.iload_n 2, 1) := by decide +kernel
theorem dX5_add_63 : decode cX5_add 63 = .ok (.i2l, 1) := by decide +kernel
theorem dX5_add_64 : decode cX5_add 64 = .ok (.ladd, 1) := by decide +kernel
theorem dX5_add_65 : decode cX5_add 65 = .ok (.putfield 29, 3) := by decide +kernel
theorem dX5_add_68 : decode cX5_add 68 = .ok (.return_, 1) := by decide +kernel
theorem dX5_giverOf_0 : decode cX5_giverOf 0 = .ok (.iload_n 1, 1) := by decide +kernel
theorem dX5_giverOf_1 : decode cX5_giverOf 1 = .ok (.ifCond .lt 27, 3) := by decide +kernel
theorem dX5_giverOf_4 : decode cX5_giverOf 4 = .ok (.iload_n 1, 1) := by decide +kernel
theorem dX5_giverOf_5 : decode cX5_giverOf 5 = .ok (.aload_n 0, 1) := by decide +kernel
theorem dX5_giverOf_6 : decode cX5_giverOf 6 = .ok (.getfield 25, 3) := by decide +kernel
theorem dX5_giverOf_9 : decode cX5_giverOf 9 = .ok (.if_icmp .ge 19, 3) := by decide +kernel
theorem dX5_giverOf_12 : decode cX5_giverOf 12 = .ok (.iload_n 1, 1) := by decide +kernel
theorem dX5_giverOf_13 : decode cX5_giverOf 13 = .ok (.sipush 250, 3) := by decide +kernel
theorem dX5_giverOf_16 : decode cX5_giverOf 16 = .ok (.if_icmp .ge 12, 3) := by decide +kernel
theorem dX5_giverOf_19 : decode cX5_giverOf 19 = .ok (.aload_n 0, 1) := by decide +kernel
theorem dX5_giverOf_20 : decode cX5_giverOf 20 = .ok (.getfield 9, 3) := by decide +kernel
theorem dX5_giverOf_23 : decode cX5_giverOf 23 = .ok (.iload_n 1, 1) := by decide +kernel
theorem dX5_giverOf_24 : decode cX5_giverOf 24 = .ok (.iaload, 1) := by decide +kernel
theorem dX5_giverOf_25 : decode cX5_giverOf 25 = .ok (.goto 4, 3) := by decide +kernel
theorem dX5_giverOf_29 : decode cX5_giverOf 29 = .ok (.ireturn, 1) := by decide +kernel
theorem dX5_penceOf_0 : decode cX5_penceOf 0 = .ok (.iload_n 1, 1) := by decide +kernel
theorem dX5_penceOf_1 : decode cX5_penceOf 1 = .ok (.ifCond .lt 27, 3) := by decide +kernel
theorem dX5_penceOf_4 : decode cX5_penceOf 4 = .ok (.iload_n 1, 1) := by decide +kernel
theorem dX5_penceOf_5 : decode cX5_penceOf 5 = .ok (.aload_n 0, 1) := by decide +kernel
theorem dX5_penceOf_6 : decode cX5_penceOf 6 = .ok (.getfield 25, 3) := by decide +kernel
theorem dX5_penceOf_9 : decode cX5_penceOf 9 = .ok (.if_icmp .ge 19, 3) := by decide +kernel
theorem dX5_penceOf_12 : decode cX5_penceOf 12 = .ok (.iload_n 1, 1) := by decide +kernel
theorem dX5_penceOf_13 : decode cX5_penceOf 13 = .ok (.sipush 250, 3) := by decide +kernel
theorem dX5_penceOf_16 : decode cX5_penceOf 16 = .ok (.if_icmp .ge 12, 3) := by decide +kernel
theorem dX5_penceOf_19 : decode cX5_penceOf 19 = .ok (.aload_n 0, 1) := by decide +kernel
theorem dX5_penceOf_20 : decode cX5_penceOf 20 = .ok (.getfield 15, 3) := by decide +kernel
theorem dX5_penceOf_23 : decode cX5_penceOf 23 = .ok (.iload_n 1, 1) := by decide +kernel
theorem dX5_penceOf_24 : decode cX5_penceOf 24 = .ok (.iaload, 1) := by decide +kernel
theorem dX5_penceOf_25 : decode cX5_penceOf 25 = .ok (.goto 4, 3) := by decide +kernel
theorem dX5_penceOf_29 : decode cX5_penceOf 29 = .ok (.ireturn, 1) := by decide +kernel
theorem dX5_givenBy_0 : decode cX5_givenBy 0 = .ok (.iconst 0, 1) := by decide +kernel
theorem dX5_givenBy_1 : decode cX5_givenBy 1 = .ok (.istore_n 2, 1) := by decide +kernel
theorem dX5_givenBy_2 : decode cX5_givenBy 2 = .ok (.iconst 0, 1) := by decide +kernel
theorem dX5_givenBy_3 : decode cX5_givenBy 3 = .ok (.istore_n 3, 1) := by decide +kernel
theorem dX5_givenBy_4 : decode cX5_givenBy 4 = .ok (.iload_n 3, 1) := by decide +kernel
theorem dX5_givenBy_5 : decode cX5_givenBy 5 = .ok (.aload_n 0, 1) := by decide +kernel
theorem dX5_givenBy_6 : decode cX5_givenBy 6 = .ok (.getfield 25, 3) := by decide +kernel
theorem dX5_givenBy_9 : decode cX5_givenBy 9 = .ok (.if_icmp .ge 35, 3) := by decide +kernel
theorem dX5_givenBy_12 : decode cX5_givenBy 12 = .ok (.iload_n 3, 1) := by decide +kernel
theorem dX5_givenBy_13 : decode cX5_givenBy 13 = .ok (.sipush 250, 3) := by decide +kernel
theorem dX5_givenBy_16 : decode cX5_givenBy 16 = .ok (.if_icmp .ge 28, 3) := by decide +kernel
theorem dX5_givenBy_19 : decode cX5_givenBy 19 = .ok (.aload_n 0, 1) := by decide +kernel
theorem dX5_givenBy_20 : decode cX5_givenBy 20 = .ok (.getfield 9, 3) := by decide +kernel
theorem dX5_givenBy_23 : decode cX5_givenBy 23 = .ok (.iload_n 3, 1) := by decide +kernel
theorem dX5_givenBy_24 : decode cX5_givenBy 24 = .ok (.iaload, 1) := by decide +kernel
theorem dX5_givenBy_25 : decode cX5_givenBy 25 = .ok (.iload_n 1, 1) := by decide +kernel
theorem dX5_givenBy_26 : decode cX5_givenBy 26 = .ok (.if_icmp .ne 12, 3) := by decide +kernel
theorem dX5_givenBy_29 : decode cX5_givenBy 29 = .ok (.iload_n 2, 1) := by decide +kernel
theorem dX5_givenBy_30 : decode cX5_givenBy 30 = .ok (.aload_n 0, 1) := by decide +kernel
theorem dX5_givenBy_31 : decode cX5_givenBy 31 = .ok (.getfield 15, 3) := by decide +kernel
theorem dX5_givenBy_34 : decode cX5_givenBy 34 = .ok (.iload_n 3, 1) := by decide +kernel
theorem dX5_givenBy_35 : decode cX5_givenBy 35 = .ok (.iaload, 1) := by decide +kernel
theorem dX5_givenBy_36 : decode cX5_givenBy 36 = .ok (.iadd, 1) := by decide +kernel
theorem dX5_givenBy_37 : decode cX5_givenBy 37 = .ok (.istore_n 2, 1) := by decide +kernel
theorem dX5_givenBy_38 : decode cX5_givenBy 38 = .ok (.iinc 3 1, 3) := by decide +kernel
theorem dX5_givenBy_41 : decode cX5_givenBy 41 = .ok (.goto (-37), 3) := by decide +kernel
theorem dX5_givenBy_44 : decode cX5_givenBy 44 = .ok (.iload_n 2, 1) := by decide +kernel
theorem dX5_givenBy_45 : decode cX5_givenBy 45 = .ok (.ireturn, 1) := by decide +kernel
theorem dX5_unclaimedOf_0 : decode cX5_unclaimedOf 0 = .ok (.iconst 0, 1) := by decide +kernel
theorem dX5_unclaimedOf_1 : decode cX5_unclaimedOf 1 = .ok (.istore_n 2, 1) := by decide +kernel
theorem dX5_unclaimedOf_2 : decode cX5_unclaimedOf 2 = .ok (.iconst 0, 1) := by decide +kernel
theorem dX5_unclaimedOf_3 : decode cX5_unclaimedOf 3 = .ok (.istore_n 3, 1) := by decide +kernel
theorem dX5_unclaimedOf_4 : decode cX5_unclaimedOf 4 = .ok (.iload_n 3, 1) := by decide +kernel
theorem dX5_unclaimedOf_5 : decode cX5_unclaimedOf 5 = .ok (.aload_n 0, 1) := by decide +kernel
theorem dX5_unclaimedOf_6 : decode cX5_unclaimedOf 6 = .ok (.getfield 25, 3) := by decide +kernel
theorem dX5_unclaimedOf_9 : decode cX5_unclaimedOf 9 = .ok (.if_icmp .ge 44, 3) := by decide +kernel
theorem dX5_unclaimedOf_12 : decode cX5_unclaimedOf 12 = .ok (.iload_n 3, 1) := by decide +kernel
theorem dX5_unclaimedOf_13 : decode cX5_unclaimedOf 13 = .ok (.sipush 250, 3) := by decide +kernel
theorem dX5_unclaimedOf_16 : decode cX5_unclaimedOf 16 = .ok (.if_icmp .ge 37, 3) := by decide +kernel
theorem dX5_unclaimedOf_19 : decode cX5_unclaimedOf 19 = .ok (.aload_n 0, 1) := by decide +kernel
theorem dX5_unclaimedOf_20 : decode cX5_unclaimedOf 20 = .ok (.getfield 9, 3) := by decide +kernel
theorem dX5_unclaimedOf_23 : decode cX5_unclaimedOf 23 = .ok (.iload_n 3, 1) := by decide +kernel
theorem dX5_unclaimedOf_24 : decode cX5_unclaimedOf 24 = .ok (.iaload, 1) := by decide +kernel
theorem dX5_unclaimedOf_25 : decode cX5_unclaimedOf 25 = .ok (.iload_n 1, 1) := by decide +kernel
theorem dX5_unclaimedOf_26 : decode cX5_unclaimedOf 26 = .ok (.if_icmp .ne 21, 3) := by decide +kernel
theorem dX5_unclaimedOf_29 : decode cX5_unclaimedOf 29 = .ok (.aload_n 0, 1) := by decide +kernel
theorem dX5_unclaimedOf_30 : decode cX5_unclaimedOf 30 = .ok (.getfield 21, 3) := by decide +kernel
theorem dX5_unclaimedOf_33 : decode cX5_unclaimedOf 33 = .ok (.iload_n 3, 1) := by decide +kernel
theorem dX5_unclaimedOf_34 : decode cX5_unclaimedOf 34 = .ok (.baload, 1) := by decide +kernel
theorem dX5_unclaimedOf_35 : decode cX5_unclaimedOf 35 = .ok (.ifCond .ne 12, 3) := by decide +kernel
theorem dX5_unclaimedOf_38 : decode cX5_unclaimedOf 38 = .ok (.iload_n 2, 1) := by decide +kernel
theorem dX5_unclaimedOf_39 : decode cX5_unclaimedOf 39 = .ok (.aload_n 0, 1) := by decide +kernel
theorem dX5_unclaimedOf_40 : decode cX5_unclaimedOf 40 = .ok (.getfield 15, 3) := by decide +kernel
theorem dX5_unclaimedOf_43 : decode cX5_unclaimedOf 43 = .ok (.iload_n 3, 1) := by decide +kernel
theorem dX5_unclaimedOf_44 : decode cX5_unclaimedOf 44 = .ok (.iaload, 1) := by decide +kernel
theorem dX5_unclaimedOf_45 : decode cX5_unclaimedOf 45 = .ok (.iadd, 1) := by decide +kernel
theorem dX5_unclaimedOf_46 : decode cX5_unclaimedOf 46 = .ok (.istore_n 2, 1) := by decide +kernel
theorem dX5_unclaimedOf_47 : decode cX5_unclaimedOf 47 = .ok (.iinc 3 1, 3) := by decide +kernel
theorem dX5_unclaimedOf_50 : decode cX5_unclaimedOf 50 = .ok (.goto (-46), 3) := by decide +kernel
theorem dX5_unclaimedOf_53 : decode cX5_unclaimedOf 53 = .ok (.iload_n 2, 1) := by decide +kernel
theorem dX5_unclaimedOf_54 : decode cX5_unclaimedOf 54 = .ok (.ireturn, 1) := by decide +kernel
theorem dX5_claimTax_0 : decode cX5_claimTax 0 = .ok (.iload_n 1, 1) := by decide +kernel
theorem dX5_claimTax_1 : decode cX5_claimTax 1 = .ok (.ifCond .ne 5, 3) := by decide +kernel
theorem dX5_claimTax_4 : decode cX5_claimTax 4 = .ok (.iconst 0, 1) := by decide +kernel
theorem dX5_claimTax_5 : decode cX5_claimTax 5 = .ok (.ireturn, 1) := by decide +kernel
theorem dX5_claimTax_6 : decode cX5_claimTax 6 = .ok (.lconst 0, 1) := by decide +kernel
theorem dX5_claimTax_7 : decode cX5_claimTax 7 = .ok (.lstore_n 3, 1) := by decide +kernel
theorem dX5_claimTax_8 : decode cX5_claimTax 8 = .ok (.iconst 0, 1) := by decide +kernel
theorem dX5_claimTax_9 : decode cX5_claimTax 9 = .ok (.istore 5, 2) := by decide +kernel
theorem dX5_claimTax_11 : decode cX5_claimTax 11 = .ok (.iload 5, 2) := by decide +kernel
theorem dX5_claimTax_13 : decode cX5_claimTax 13 = .ok (.aload_n 0, 1) := by decide +kernel
theorem dX5_claimTax_14 : decode cX5_claimTax 14 = .ok (.getfield 25, 3) := by decide +kernel
theorem dX5_claimTax_17 : decode cX5_claimTax 17 = .ok (.if_icmp .ge 74, 3) := by decide +kernel
theorem dX5_claimTax_20 : decode cX5_claimTax 20 = .ok (.iload 5, 2) := by decide +kernel
theorem dX5_claimTax_22 : decode cX5_claimTax 22 = .ok (.sipush 250, 3) := by decide +kernel
theorem dX5_claimTax_25 : decode cX5_claimTax 25 = .ok (.if_icmp .ge 66, 3) := by decide +kernel
theorem dX5_claimTax_28 : decode cX5_claimTax 28 = .ok (.aload_n 0, 1) := by decide +kernel
theorem dX5_claimTax_29 : decode cX5_claimTax 29 = .ok (.getfield 21, 3) := by decide +kernel
theorem dX5_claimTax_32 : decode cX5_claimTax 32 = .ok (.iload 5, 2) := by decide +kernel
theorem dX5_claimTax_34 : decode cX5_claimTax 34 = .ok (.baload, 1) := by decide +kernel
theorem dX5_claimTax_35 : decode cX5_claimTax 35 = .ok (.ifCond .ne 50, 3) := by decide +kernel
theorem dX5_claimTax_38 : decode cX5_claimTax 38 = .ok (.aload_n 2, 1) := by decide +kernel
theorem dX5_claimTax_39 : decode cX5_claimTax 39 = .ok (.aload_n 0, 1) := by decide +kernel
theorem dX5_claimTax_40 : decode cX5_claimTax 40 = .ok (.getfield 9, 3) := by decide +kernel
theorem dX5_claimTax_43 : decode cX5_claimTax 43 = .ok (.iload 5, 2) := by decide +kernel
theorem dX5_claimTax_45 : decode cX5_claimTax 45 = .ok (.iaload, 1) := by decide +kernel
theorem dX5_claimTax_46 : decode cX5_claimTax 46 = .ok (.aload_n 0, 1) := by decide +kernel
theorem dX5_claimTax_47 : decode cX5_claimTax 47 = .ok (.getfield 18, 3) := by decide +kernel
theorem dX5_claimTax_50 : decode cX5_claimTax 50 = .ok (.iload 5, 2) := by decide +kernel
theorem dX5_claimTax_52 : decode cX5_claimTax 52 = .ok (.iaload, 1) := by decide +kernel
theorem dX5_claimTax_53 : decode cX5_claimTax 53 = .ok (.invokevirtual 33, 3) := by decide +kernel
theorem dX5_claimTax_56 : decode cX5_claimTax 56 = .ok (.ifCond .eq 29, 3) := by decide +kernel
theorem dX5_claimTax_59 : decode cX5_claimTax 59 = .ok (.aload_n 0, 1) := by decide +kernel
theorem dX5_claimTax_60 : decode cX5_claimTax 60 = .ok (.getfield 21, 3) := by decide +kernel
theorem dX5_claimTax_63 : decode cX5_claimTax 63 = .ok (.iload 5, 2) := by decide +kernel
theorem dX5_claimTax_65 : decode cX5_claimTax 65 = .ok (.iconst 1, 1) := by decide +kernel
theorem dX5_claimTax_66 : decode cX5_claimTax 66 = .ok (.bastore, 1) := by decide +kernel
theorem dX5_claimTax_67 : decode cX5_claimTax 67 = .ok (.lload_n 3, 1) := by decide +kernel
theorem dX5_claimTax_68 : decode cX5_claimTax 68 = .ok (.aload_n 0, 1) := by decide +kernel
theorem dX5_claimTax_69 : decode cX5_claimTax 69 = .ok (.getfield 15, 3) := by decide +kernel
theorem dX5_claimTax_72 : decode cX5_claimTax 72 = .ok (.iload 5, 2) := by decide +kernel
theorem dX5_claimTax_74 : decode cX5_claimTax 74 = .ok (.iaload, 1) := by decide +kernel
theorem dX5_claimTax_75 : decode cX5_claimTax 75 = .ok (.i2l, 1) := by decide +kernel
theorem dX5_claimTax_76 : decode cX5_claimTax 76 = .ok (.iload_n 1, 1) := by decide +kernel
theorem dX5_claimTax_77 : decode cX5_claimTax 77 = .ok (.i2l, 1) := by decide +kernel
theorem dX5_claimTax_78 : decode cX5_claimTax 78 = .ok (.lmul, 1) := by decide +kernel
theorem dX5_claimTax_79 : decode cX5_claimTax 79 = .ok (.ldc2_w 39, 3) := by decide +kernel
theorem dX5_claimTax_82 : decode cX5_claimTax 82 = .ok (.ldiv, 1) := by decide +kernel
theorem dX5_claimTax_83 : decode cX5_claimTax 83 = .ok (.ladd, 1) := by decide +kernel
theorem dX5_claimTax_84 : decode cX5_claimTax 84 = .ok (.lstore_n 3, 1) := by decide +kernel
theorem dX5_claimTax_85 : decode cX5_claimTax 85 = .ok (.iinc 5 1, 3) := by decide +kernel
theorem dX5_claimTax_88 : decode cX5_claimTax 88 = .ok (.goto (-77), 3) := by decide +kernel
theorem dX5_claimTax_91 : decode cX5_claimTax 91 = .ok (.lload_n 3, 1) := by decide +kernel
theorem dX5_claimTax_92 : decode cX5_claimTax 92 = .ok (.l2i, 1) := by decide +kernel
theorem dX5_claimTax_93 : decode cX5_claimTax 93 = .ok (.ireturn, 1) := by decide +kernel
theorem dX6_init_0 : decode cX6_init 0 = .ok (.aload_n 0, 1) := by decide +kernel
theorem dX6_init_1 : decode cX6_init 1 = .ok (.invokespecial 3, 3) := by decide +kernel
theorem dX6_init_4 : decode cX6_init 4 = .ok (.aload_n 0, 1) := by decide +kernel
theorem dX6_init_5 : decode cX6_init 5 = .ok (.sipush 400, 3) := by decide +kernel
theorem dX6_init_8 : decode cX6_init 8 = .ok (.newarray .byte, 2) := by decide +kernel
theorem dX6_init_10 : decode cX6_init 10 = .ok (.putfield 11, 3) := by decide +kernel
theorem dX6_init_13 : decode cX6_init 13 = .ok (.return_, 1) := by decide +kernel
theorem dX6_length_0 : decode cX6_length 0 = .ok (.aload_n 0, 1) := by decide +kernel
theorem dX6_length_1 : decode cX6_length 1 = .ok (.getfield 15, 3) := by decide +kernel
theorem dX6_length_4 : decode cX6_length 4 = .ok (.ireturn, 1) := by decide +kernel
theorem dX6_hasRoomForTwenty_0 : decode cX6_hasRoomForTwenty 0 = .ok (.aload_n 0, 1) := by decide +kernel
theorem dX6_hasRoomForTwenty_1 : decode cX6_hasRoomForTwenty 1 = .ok (.getfield 15, 3) := by decide +kernel
theorem dX6_hasRoomForTwenty_4 : decode cX6_hasRoomForTwenty 4 = .ok (.sipush 380, 3) := by decide +kernel
theorem dX6_hasRoomForTwenty_7 : decode cX6_hasRoomForTwenty 7 = .ok (.if_icmp .gt 7, 3) := by decide +kernel
theorem dX6_hasRoomForTwenty_10 : decode cX6_hasRoomForTwenty 10 = .ok (.iconst 1, 1) := by decide +kernel
theorem dX6_hasRoomForTwenty_11 : decode cX6_hasRoomForTwenty 11 = .ok (.goto 4, 3) := by decide +kernel
theorem dX6_hasRoomForTwenty_14 : decode cX6_hasRoomForTwenty 14 = .ok (.iconst 0, 1) := by decide +kernel
theorem dX6_hasRoomForTwenty_15 : decode cX6_hasRoomForTwenty 15 = .ok (.ireturn, 1) := by decide +kernel
theorem dX6_putFour_0 : decode cX6_putFour 0 = .ok (.bipush 24, 2) := by decide +kernel
theorem dX6_putFour_2 : decode cX6_putFour 2 = .ok (.istore_n 2, 1) := by decide +kernel
theorem dX6_putFour_3 : decode cX6_putFour 3 = .ok (.iload_n 2, 1) := by decide +kernel
theorem dX6_putFour_4 : decode cX6_putFour 4 = .ok (.ifCond .lt 49, 3) := by decide +kernel
theorem dX6_putFour_7 : decode cX6_putFour 7 = .ok (.aload_n 0, 1) := by decide +kernel
theorem dX6_putFour_8 : decode cX6_putFour 8 = .ok (.getfield 15, 3) := by decide +kernel
theorem dX6_putFour_11 : decode cX6_putFour 11 = .ok (.ifCond .lt 36, 3) := by decide +kernel
theorem dX6_putFour_14 : decode cX6_putFour 14 = .ok (.aload_n 0, 1) := by decide +kernel
theorem dX6_putFour_15 : decode cX6_putFour 15 = .ok (.getfield 15, 3) := by decide +kernel
theorem dX6_putFour_18 : decode cX6_putFour 18 = .ok (.sipush 400, 3) := by decide +kernel
theorem dX6_putFour_21 : decode cX6_putFour 21 = .ok (.if_icmp .ge 26, 3) := by decide +kernel
theorem dX6_putFour_24 : decode cX6_putFour 24 = .ok (.aload_n 0, 1) := by decide +kernel
theorem dX6_putFour_25 : decode cX6_putFour 25 = .ok (.getfield 11, 3) := by decide +kernel
theorem dX6_putFour_28 : decode cX6_putFour 28 = .ok (.aload_n 0, 1) := by decide +kernel
theorem dX6_putFour_29 : decode cX6_putFour 29 = .ok (.getfield 15, 3) := by decide +kernel
theorem dX6_putFour_32 : decode cX6_putFour 32 = .ok (.iload_n 1, 1) := by decide +kernel
theorem dX6_putFour_33 : decode cX6_putFour 33 = .ok (.iload_n 2, 1) := by decide +kernel
theorem dX6_putFour_34 : decode cX6_putFour 34 = .ok (.iushr, 1) := by decide +kernel
theorem dX6_putFour_35 : decode cX6_putFour 35 = .ok (.i2b, 1) := by decide +kernel
theorem dX6_putFour_36 : decode cX6_putFour 36 = .ok (.bastore, 1) := by decide +kernel
theorem dX6_putFour_37 : decode cX6_putFour 37 = .ok (.aload_n 0, 1) := by decide +kernel
theorem dX6_putFour_38 : decode cX6_putFour 38 = .ok (.dup, 1) := by decide +kernel
theorem dX6_putFour_39 : decode cX6_putFour 39 = .ok (.getfield 15, 3) := by decide +kernel
theorem dX6_putFour_42 : decode cX6_putFour 42 = .ok (.iconst 1, 1) := by decide +kernel
theorem dX6_putFour_43 : decode cX6_putFour 43 = .ok (.iadd, 1) := by decide +kernel
theorem dX6_putFour_44 : decode cX6_putFour 44 = .ok (.putfield 15, 3) := by decide +kernel
theorem dX6_putFour_47 : decode cX6_putFour 47 = .ok (.iinc 2 (-8), 3) := by decide +kernel
theorem dX6_putFour_50 : decode cX6_putFour 50 = .ok (.goto (-47), 3) := by decide +kernel
theorem dX6_putFour_53 : decode cX6_putFour 53 = .ok (.return_, 1) := by decide +kernel
theorem dX6_cutTo_0 : decode cX6_cutTo 0 = .ok (.aload_n 0, 1) := by decide +kernel
theorem dX6_cutTo_1 : decode cX6_cutTo 1 = .ok (.iload_n 1, 1) := by decide +kernel
theorem dX6_cutTo_2 : decode cX6_cutTo 2 = .ok (.putfield 15, 3) := by decide +kernel
theorem dX6_cutTo_5 : decode cX6_cutTo 5 = .ok (.return_, 1) := by decide +kernel
theorem dX6_at_0 : decode cX6_at 0 = .ok (.iload_n 1, 1) := by decide +kernel
theorem dX6_at_1 : decode cX6_at 1 = .ok (.ifCond .lt 31, 3) := by decide +kernel
theorem dX6_at_4 : decode cX6_at 4 = .ok (.iload_n 1, 1) := by decide +kernel
theorem dX6_at_5 : decode cX6_at 5 = .ok (.aload_n 0, 1) := by decide +kernel
theorem dX6_at_6 : decode cX6_at 6 = .ok (.getfield 15, 3) := by decide +kernel
theorem dX6_at_9 : decode cX6_at 9 = .ok (.if_icmp .ge 23, 3) := by decide +kernel
theorem dX6_at_12 : decode cX6_at 12 = .ok (.iload_n 1, 1) := by decide +kernel
theorem dX6_at_13 : decode cX6_at 13 = .ok (.sipush 400, 3) := by decide +kernel
theorem dX6_at_16 : decode cX6_at 16 = .ok (.if_icmp .ge 16, 3) := by decide +kernel
theorem dX6_at_19 : decode cX6_at 19 = .ok (.aload_n 0, 1) := by decide +kernel
theorem dX6_at_20 : decode cX6_at 20 = .ok (.getfield 11, 3) := by decide +kernel
theorem dX6_at_23 : decode cX6_at 23 = .ok (.iload_n 1, 1) := by decide +kernel
theorem dX6_at_24 : decode cX6_at 24 = .ok (.baload, 1) := by decide +kernel
theorem dX6_at_25 : decode cX6_at 25 = .ok (.sipush 255, 3) := by decide +kernel
theorem dX6_at_28 : decode cX6_at 28 = .ok (.iand, 1) := by decide +kernel
theorem dX6_at_29 : decode cX6_at 29 = .ok (.goto 4, 3) := by decide +kernel
theorem dX6_at_32 : decode cX6_at 32 = .ok (.iconst (-1), 1) := by decide +kernel
theorem dX6_at_33 : decode cX6_at 33 = .ok (.ireturn, 1) := by decide +kernel
theorem dX7_init_0 : decode cX7_init 0 = .ok (.aload_n 0, 1) := by decide +kernel
theorem dX7_init_1 : decode cX7_init 1 = .ok (.invokespecial 3, 3) := by decide +kernel
theorem dX7_init_4 : decode cX7_init 4 = .ok (.aload_n 0, 1) := by decide +kernel
theorem dX7_init_5 : decode cX7_init 5 = .ok (.bipush 8, 2) := by decide +kernel
theorem dX7_init_7 : decode cX7_init 7 = .ok (.anewarray 9, 3) := by decide +kernel
theorem dX7_init_10 : decode cX7_init 10 = .ok (.putfield 11, 3) := by decide +kernel
theorem dX7_init_13 : decode cX7_init 13 = .ok (.return_, 1) := by decide +kernel
theorem dX7_size_0 : decode cX7_size 0 = .ok (.aload_n 0, 1) := by decide +kernel
theorem dX7_size_1 : decode cX7_size 1 = .ok (.getfield 17, 3) := by decide +kernel
theorem dX7_size_4 : decode cX7_size 4 = .ok (.ireturn, 1) := by decide +kernel
theorem dX7_isFull_0 : decode cX7_isFull 0 = .ok (.aload_n 0, 1) := by decide +kernel
theorem dX7_isFull_1 : decode cX7_isFull 1 = .ok (.getfield 17, 3) := by decide +kernel
theorem dX7_isFull_4 : decode cX7_isFull 4 = .ok (.bipush 8, 2) := by decide +kernel
theorem dX7_isFull_6 : decode cX7_isFull 6 = .ok (.if_icmp .lt 7, 3) := by decide +kernel
theorem dX7_isFull_9 : decode cX7_isFull 9 = .ok (.iconst 1, 1) := by decide +kernel
theorem dX7_isFull_10 : decode cX7_isFull 10 = .ok (.goto 4, 3) := by decide +kernel
theorem dX7_isFull_13 : decode cX7_isFull 13 = .ok (.iconst 0, 1) := by decide +kernel
theorem dX7_isFull_14 : decode cX7_isFull 14 = .ok (.ireturn, 1) := by decide +kernel
theorem dX7_add_0 : decode cX7_add 0 = .ok (.aload_n 0, 1) := by decide +kernel
theorem dX7_add_1 : decode cX7_add 1 = .ok (.getfield 17, 3) := by decide +kernel
theorem dX7_add_4 : decode cX7_add 4 = .ok (.ifCond .lt 12, 3) := by decide +kernel
theorem dX7_add_7 : decode cX7_add 7 = .ok (.aload_n 0, 1) := by decide +kernel
theorem dX7_add_8 : decode cX7_add 8 = .ok (.getfield 17, 3) := by decide +kernel
theorem dX7_add_11 : decode cX7_add 11 = .ok (.bipush 8, 2) := by decide +kernel
theorem dX7_add_13 : decode cX7_add 13 = .ok (.if_icmp .lt 6, 3) := by decide +kernel
theorem dX7_add_19 : decode cX7_add 19 = .ok (.aload_n 0, 1) := by decide +kernel
theorem dX7_add_20 : decode cX7_add 20 = .ok (.getfield 11, 3) := by decide +kernel
theorem dX7_add_23 : decode cX7_add 23 = .ok (.aload_n 0, 1) := by decide +kernel
theorem dX7_add_24 : decode cX7_add 24 = .ok (.getfield 17, 3) := by decide +kernel
theorem dX7_add_27 : decode cX7_add 27 = .ok (.aload_n 1, 1) := by decide +kernel
theorem dX7_add_28 : decode cX7_add 28 = .ok (.aastore, 1) := by decide +kernel
theorem dX7_add_29 : decode cX7_add 29 = .ok (.aload_n 0, 1) := by decide +kernel
theorem dX7_add_30 : decode cX7_add 30 = .ok (.dup, 1) := by decide +kernel
theorem dX7_add_31 : decode cX7_add 31 = .ok (.getfield 17, 3) := by decide +kernel
theorem dX7_add_34 : decode cX7_add 34 = .ok (.iconst 1, 1) := by decide +kernel
theorem dX7_add_35 : decode cX7_add 35 = .ok (.iadd, 1) := by decide +kernel
theorem dX7_add_36 : decode cX7_add 36 = .ok (.putfield 17, 3) := by decide +kernel
theorem dX7_add_39 : decode cX7_add 39 = .ok (.aload_n 0, 1) := by decide +kernel
theorem dX7_add_40 : decode cX7_add 40 = .ok (.getfield 17, 3) := by decide +kernel
theorem dX7_add_43 : decode cX7_add 43 = .ok (.iconst 1, 1) := by decide +kernel
theorem dX7_add_44 : decode cX7_add 44 = .ok (.isub, 1) := by decide +kernel
theorem dX7_add_45 : decode cX7_add 45 = .ok (.ireturn, 1) := by decide +kernel
theorem dX7_at_0 : decode cX7_at 0 = .ok (.iload_n 1, 1) := by decide +kernel
theorem dX7_at_1 : decode cX7_at 1 = .ok (.ifCond .lt 26, 3) := by decide +kernel
theorem dX7_at_4 : decode cX7_at 4 = .ok (.iload_n 1, 1) := by decide +kernel
theorem dX7_at_5 : decode cX7_at 5 = .ok (.aload_n 0, 1) := by decide +kernel
theorem dX7_at_6 : decode cX7_at 6 = .ok (.getfield 17, 3) := by decide +kernel
theorem dX7_at_9 : decode cX7_at 9 = .ok (.if_icmp .ge 18, 3) := by decide +kernel
theorem dX7_at_12 : decode cX7_at 12 = .ok (.iload_n 1, 1) := by decide +kernel
theorem dX7_at_13 : decode cX7_at 13 = .ok (.bipush 8, 2) := by decide +kernel
theorem dX7_at_15 : decode cX7_at 15 = .ok (.if_icmp .ge 12, 3) := by decide +kernel
theorem dX7_at_18 : decode cX7_at 18 = .ok (.aload_n 0, 1) := by decide +kernel
theorem dX7_at_19 : decode cX7_at 19 = .ok (.getfield 11, 3) := by decide +kernel
theorem dX7_at_22 : decode cX7_at 22 = .ok (.iload_n 1, 1) := by decide +kernel
theorem dX7_at_23 : decode cX7_at 23 = .ok (.aaload, 1) := by decide +kernel
theorem dX7_at_24 : decode cX7_at 24 = .ok (.goto 4, 3) := by decide +kernel
theorem dX7_at_27 : decode cX7_at 27 = .ok (.aconst_null, 1) := by decide +kernel
theorem dX7_at_28 : decode cX7_at 28 = .ok (.areturn, 1) := by decide +kernel
theorem dX7_running_0 : decode cX7_running 0 = .ok (.aload_n 0, 1) := by decide +kernel
theorem dX7_running_1 : decode cX7_running 1 = .ok (.aload_n 0, 1) := by decide +kernel
theorem dX7_running_2 : decode cX7_running 2 = .ok (.getfield 21, 3) := by decide +kernel
theorem dX7_running_5 : decode cX7_running 5 = .ok (.iconst 1, 1) := by decide +kernel
theorem dX7_running_6 : decode cX7_running 6 = .ok (.isub, 1) := by decide +kernel
theorem dX7_running_7 : decode cX7_running 7 = .ok (.invokevirtual 24, 3) := by decide +kernel
theorem dX7_running_10 : decode cX7_running 10 = .ok (.astore_n 1, 1) := by decide +kernel
theorem dX7_running_11 : decode cX7_running 11 = .ok (.aload_n 1, 1) := by decide +kernel
theorem dX7_running_12 : decode cX7_running 12 = .ok (.ifnull 14, 3) := by decide +kernel
theorem dX7_running_15 : decode cX7_running 15 = .ok (.aload_n 1, 1) := by decide +kernel
theorem dX7_running_16 : decode cX7_running 16 = .ok (.invokevirtual 28, 3) := by decide +kernel
theorem dX7_running_19 : decode cX7_running 19 = .ok (.ifCond .eq 7, 3) := by decide +kernel
theorem dX7_running_22 : decode cX7_running 22 = .ok (.aload_n 1, 1) := by decide +kernel
theorem dX7_running_23 : decode cX7_running 23 = .ok (.goto 4, 3) := by decide +kernel
theorem dX7_running_26 : decode cX7_running 26 = .ok (.aconst_null, 1) := by decide +kernel
theorem dX7_running_27 : decode cX7_running 27 = .ok (.areturn, 1) := by decide +kernel
theorem dX7_mayStartNext_0 : decode cX7_mayStartNext 0 = .ok (.aload_n 0, 1) := by decide +kernel
theorem dX7_mayStartNext_1 : decode cX7_mayStartNext 1 = .ok (.invokevirtual 32, 3) := by decide +kernel
theorem dX7_mayStartNext_4 : decode cX7_mayStartNext 4 = .ok (.ifnonnull 18, 3) := by decide +kernel
theorem dX7_mayStartNext_7 : decode cX7_mayStartNext 7 = .ok (.aload_n 0, 1) := by decide +kernel
theorem dX7_mayStartNext_8 : decode cX7_mayStartNext 8 = .ok (.getfield 21, 3) := by decide +kernel
theorem dX7_mayStartNext_11 : decode cX7_mayStartNext 11 = .ok (.aload_n 0, 1) := by decide +kernel
theorem dX7_mayStartNext_12 : decode cX7_mayStartNext 12 = .ok (.getfield 17, 3) := by decide +kernel
theorem dX7_mayStartNext_15 : decode cX7_mayStartNext 15 = .ok (.if_icmp .ge 7, 3) := by decide +kernel
theorem dX7_mayStartNext_18 : decode cX7_mayStartNext 18 = .ok (.iconst 1, 1) := by decide +kernel
theorem dX7_mayStartNext_19 : decode cX7_mayStartNext 19 = .ok (.goto 4, 3) := by decide +kernel
theorem dX7_mayStartNext_22 : decode cX7_mayStartNext 22 = .ok (.iconst 0, 1) := by decide +kernel
theorem dX7_mayStartNext_23 : decode cX7_mayStartNext 23 = .ok (.ireturn, 1) := by decide +kernel
theorem dX7_startNext_0 : decode cX7_startNext 0 = .ok (.aload_n 0, 1) := by decide +kernel
theorem dX7_startNext_1 : decode cX7_startNext 1 = .ok (.aload_n 0, 1) := by decide +kernel
theorem dX7_startNext_2 : decode cX7_startNext 2 = .ok (.getfield 21, 3) := by decide +kernel
theorem dX7_startNext_5 : decode cX7_startNext 5 = .ok (.invokevirtual 24, 3) := by decide +kernel
theorem dX7_startNext_8 : decode cX7_startNext 8 = .ok (.astore_n 1, 1) := by decide +kernel
theorem dX7_startNext_9 : decode cX7_startNext 9 = .ok (.aload_n 1, 1) := by decide +kernel
theorem dX7_startNext_10 : decode cX7_startNext 10 = .ok (.ifnonnull 6, 3) := by decide +kernel
theorem dX7_startNext_16 : decode cX7_startNext 16 = .ok (.aload_n 1, 1) := by decide +kernel
theorem dX7_startNext_17 : decode cX7_startNext 17 = .ok (.invokevirtual 36, 3) := by decide +kernel
theorem dX7_startNext_20 : decode cX7_startNext 20 = .ok (.aload_n 0, 1) := by decide +kernel
theorem dX7_startNext_21 : decode cX7_startNext 21 = .ok (.dup, 1) := by decide +kernel
theorem dX7_startNext_22 : decode cX7_startNext 22 = .ok (.getfield 21, 3) := by decide +kernel
theorem dX7_startNext_25 : decode cX7_startNext 25 = .ok (.iconst 1, 1) := by decide +kernel
theorem dX7_startNext_26 : decode cX7_startNext 26 = .ok (.iadd, 1) := by decide +kernel
theorem dX7_startNext_27 : decode cX7_startNext 27 = .ok (.putfield 21, 3) := by decide +kernel
theorem dX7_startNext_30 : decode cX7_startNext 30 = .ok (.aload_n 0, 1) := by decide +kernel
theorem dX7_startNext_31 : decode cX7_startNext 31 = .ok (.getfield 21, 3) := by decide +kernel
theorem dX7_startNext_34 : decode cX7_startNext 34 = .ok (.iconst 1, 1) := by decide +kernel
theorem dX7_startNext_35 : decode cX7_startNext 35 = .ok (.isub, 1) := by decide +kernel
theorem dX7_startNext_36 : decode cX7_startNext 36 = .ok (.ireturn, 1) := by decide +kernel
theorem dX7_payPart_0 : decode cX7_payPart 0 = .ok (.aload_n 0, 1) := by decide +kernel
theorem dX7_payPart_1 : decode cX7_payPart 1 = .ok (.invokevirtual 32, 3) := by decide +kernel
theorem dX7_payPart_4 : decode cX7_payPart 4 = .ok (.astore_n 3, 1) := by decide +kernel
theorem dX7_payPart_5 : decode cX7_payPart 5 = .ok (.aload_n 3, 1) := by decide +kernel
theorem dX7_payPart_6 : decode cX7_payPart 6 = .ok (.ifnonnull 4, 3) := by decide +kernel
theorem dX7_payPart_9 : decode cX7_payPart 9 = .ok (.return_, 1) := by decide +kernel
theorem dX7_payPart_10 : decode cX7_payPart 10 = .ok (.aload_n 3, 1) := by decide +kernel
theorem dX7_payPart_11 : decode cX7_payPart 11 = .ok (.invokevirtual 39, 3) := by decide +kernel
theorem dX7_payPart_14 : decode cX7_payPart 14 = .ok (.istore 4, 2) := by decide +kernel
theorem dX7_payPart_16 : decode cX7_payPart 16 = .ok (.aload_n 1, 1) := by decide +kernel
theorem dX7_payPart_17 : decode cX7_payPart 17 = .ok (.iload 4, 2) := by decide +kernel
theorem dX7_payPart_19 : decode cX7_payPart 19 = .ok (.iload_n 2, 1) := by decide +kernel
theorem dX7_payPart_20 : decode cX7_payPart 20 = .ok (.invokevirtual 43, 3) := by decide +kernel
theorem dX7_payPart_23 : decode cX7_payPart 23 = .ok (.ifCond .eq 12, 3) := by decide +kernel
theorem dX7_payPart_26 : decode cX7_payPart 26 = .ok (.aload_n 3, 1) := by decide +kernel
theorem dX7_payPart_27 : decode cX7_payPart 27 = .ok (.iload 4, 2) := by decide +kernel
theorem dX7_payPart_29 : decode cX7_payPart 29 = .ok (.invokevirtual 49, 3) := by decide +kernel
theorem dX7_payPart_32 : decode cX7_payPart 32 = .ok (.goto 7, 3) := by decide +kernel
theorem dX7_payPart_35 : decode cX7_payPart 35 = .ok (.aload_n 3, 1) := by decide +kernel
theorem dX7_payPart_36 : decode cX7_payPart 36 = .ok (.invokevirtual 53, 3) := by decide +kernel
theorem dX7_payPart_39 : decode cX7_payPart 39 = .ok (.return_, 1) := by decide +kernel
theorem dX8_init_0 : decode cX8_init 0 = .ok (.aload_n 0, 1) := by decide +kernel
theorem dX8_init_1 : decode cX8_init 1 = .ok (.invokespecial 3, 3) := by decide +kernel
theorem dX8_init_4 : decode cX8_init 4 = .ok (.aload_n 0, 1) := by decide +kernel
theorem dX8_init_5 : decode cX8_init 5 = .ok (.bipush 9, 2) := by decide +kernel
theorem dX8_init_7 : decode cX8_init 7 = .ok (.newarray .int, 2) := by decide +kernel
theorem dX8_init_9 : decode cX8_init 9 = .ok (.putfield 11, 3) := by decide +kernel
theorem dX8_init_12 : decode cX8_init 12 = .ok (.getstatic 15, 3) := by decide +kernel
theorem dX8_init_15 : decode cX8_init 15 = .ok (.iconst 0, 1) := by decide +kernel
theorem dX8_init_16 : decode cX8_init 16 = .ok (.aload_n 0, 1) := by decide +kernel
theorem dX8_init_17 : decode cX8_init 17 = .ok (.getfield 11, 3) := by decide +kernel
theorem dX8_init_20 : decode cX8_init 20 = .ok (.iconst 0, 1) := by decide +kernel
theorem dX8_init_21 : decode cX8_init 21 = .ok (.bipush 9, 2) := by decide +kernel
theorem dX8_init_23 : decode cX8_init 23 = .ok (.invokestatic 18, 3) := by decide +kernel
theorem dX8_init_26 : decode cX8_init 26 = .ok (.return_, 1) := by decide +kernel
theorem dX8_forget_0 : decode cX8_forget 0 = .ok (.getstatic 15, 3) := by decide +kernel
theorem dX8_forget_3 : decode cX8_forget 3 = .ok (.iconst 0, 1) := by decide +kernel
theorem dX8_forget_4 : decode cX8_forget 4 = .ok (.aload_n 0, 1) := by decide +kernel
theorem dX8_forget_5 : decode cX8_forget 5 = .ok (.getfield 11, 3) := by decide +kernel
theorem dX8_forget_8 : decode cX8_forget 8 = .ok (.iconst 0, 1) := by decide +kernel
theorem dX8_forget_9 : decode cX8_forget 9 = .ok (.bipush 9, 2) := by decide +kernel
theorem dX8_forget_11 : decode cX8_forget 11 = .ok (.invokestatic 18, 3) := by decide +kernel
theorem dX8_forget_14 : decode cX8_forget 14 = .ok (.return_, 1) := by decide +kernel
theorem dX8_takeOver_0 : decode cX8_takeOver 0 = .ok (.aload_n 1, 1) := by decide +kernel
theorem dX8_takeOver_1 : decode cX8_takeOver 1 = .ok (.getfield 11, 3) := by decide +kernel
theorem dX8_takeOver_4 : decode cX8_takeOver 4 = .ok (.iconst 0, 1) := by decide +kernel
theorem dX8_takeOver_5 : decode cX8_takeOver 5 = .ok (.aload_n 0, 1) := by decide +kernel
theorem dX8_takeOver_6 : decode cX8_takeOver 6 = .ok (.getfield 11, 3) := by decide +kernel
theorem dX8_takeOver_9 : decode cX8_takeOver 9 = .ok (.iconst 0, 1) := by decide +kernel
theorem dX8_takeOver_10 : decode cX8_takeOver 10 = .ok (.bipush 9, 2) := by decide +kernel
theorem dX8_takeOver_12 : decode cX8_takeOver 12 = .ok (.invokestatic 18, 3) := by decide +kernel
theorem dX8_takeOver_15 : decode cX8_takeOver 15 = .ok (.return_, 1) := by decide +kernel
theorem dX8_at_0 : decode cX8_at 0 = .ok (.iload_n 1, 1) := by decide +kernel
theorem dX8_at_1 : decode cX8_at 1 = .ok (.ifCond .lt 18, 3) := by decide +kernel
theorem dX8_at_4 : decode cX8_at 4 = .ok (.iload_n 1, 1) := by decide +kernel
theorem dX8_at_5 : decode cX8_at 5 = .ok (.bipush 9, 2) := by decide +kernel
theorem dX8_at_7 : decode cX8_at 7 = .ok (.if_icmp .ge 12, 3) := by decide +kernel
theorem dX8_at_10 : decode cX8_at 10 = .ok (.aload_n 0, 1) := by decide +kernel
theorem dX8_at_11 : decode cX8_at 11 = .ok (.getfield 11, 3) := by decide +kernel
theorem dX8_at_14 : decode cX8_at 14 = .ok (.iload_n 1, 1) := by decide +kernel
theorem dX8_at_15 : decode cX8_at 15 = .ok (.iaload, 1) := by decide +kernel
theorem dX8_at_16 : decode cX8_at 16 = .ok (.goto 4, 3) := by decide +kernel
theorem dX8_at_20 : decode cX8_at 20 = .ok (.ireturn, 1) := by decide +kernel
theorem dX8_put_0 : decode cX8_put 0 = .ok (.iload_n 1, 1) := by decide +kernel
theorem dX8_put_1 : decode cX8_put 1 = .ok (.ifCond .lt 16, 3) := by decide +kernel
theorem dX8_put_4 : decode cX8_put 4 = .ok (.iload_n 1, 1) := by decide +kernel
theorem dX8_put_5 : decode cX8_put 5 = .ok (.bipush 9, 2) := by decide +kernel
theorem dX8_put_7 : decode cX8_put 7 = .ok (.if_icmp .ge 10, 3) := by decide +kernel
theorem dX8_put_10 : decode cX8_put 10 = .ok (.aload_n 0, 1) := by decide +kernel
theorem dX8_put_11 : decode cX8_put 11 = .ok (.getfield 11, 3) := by decide +kernel
theorem dX8_put_14 : decode cX8_put 14 = .ok (.iload_n 1, 1) := by decide +kernel
theorem dX8_put_15 : decode cX8_put 15 = .ok (.iload_n 2, 1) := by decide +kernel
theorem dX8_put_16 : decode cX8_put 16 = .ok (.iastore, 1) := by decide +kernel
theorem dX8_put_17 : decode cX8_put 17 = .ok (.return_, 1) := by decide +kernel
theorem dX8_matchHundredths_0 : decode cX8_matchHundredths 0 = .ok (.aload_n 0, 1) := by decide +kernel
theorem dX8_matchHundredths_1 : decode cX8_matchHundredths 1 = .ok (.getfield 11, 3) := by decide +kernel
theorem dX8_matchHundredths_4 : decode cX8_matchHundredths 4 = .ok (.iconst 0, 1) := by decide +kernel
theorem dX8_matchHundredths_5 : decode cX8_matchHundredths 5 = .ok (.iaload, 1) := by decide +kernel
theorem dX8_matchHundredths_6 : decode cX8_matchHundredths 6 = .ok (.ireturn, 1) := by decide +kernel
theorem dX8_matchCapPence_0 : decode cX8_matchCapPence 0 = .ok (.aload_n 0, 1) := by decide +kernel
theorem dX8_matchCapPence_1 : decode cX8_matchCapPence 1 = .ok (.getfield 11, 3) := by decide +kernel
theorem dX8_matchCapPence_4 : decode cX8_matchCapPence 4 = .ok (.iconst 1, 1) := by decide +kernel
theorem dX8_matchCapPence_5 : decode cX8_matchCapPence 5 = .ok (.iaload, 1) := by decide +kernel
theorem dX8_matchCapPence_6 : decode cX8_matchCapPence 6 = .ok (.bipush 100, 2) := by decide +kernel
theorem dX8_matchCapPence_8 : decode cX8_matchCapPence 8 = .ok (.imul, 1) := by decide +kernel
theorem dX8_matchCapPence_9 : decode cX8_matchCapPence 9 = .ok (.ireturn, 1) := by decide +kernel
theorem dX8_matchTill_0 : decode cX8_matchTill 0 = .ok (.aload_n 0, 1) := by decide +kernel
theorem dX8_matchTill_1 : decode cX8_matchTill 1 = .ok (.getfield 11, 3) := by decide +kernel
theorem dX8_matchTill_4 : decode cX8_matchTill 4 = .ok (.iconst 2, 1) := by decide +kernel
theorem dX8_matchTill_5 : decode cX8_matchTill 5 = .ok (.iaload, 1) := by decide +kernel
theorem dX8_matchTill_6 : decode cX8_matchTill 6 = .ok (.ireturn, 1) := by decide +kernel
theorem dX8_taxHundredths_0 : decode cX8_taxHundredths 0 = .ok (.aload_n 0, 1) := by decide +kernel
theorem dX8_taxHundredths_1 : decode cX8_taxHundredths 1 = .ok (.getfield 11, 3) := by decide +kernel
theorem dX8_taxHundredths_4 : decode cX8_taxHundredths 4 = .ok (.iconst 3, 1) := by decide +kernel
theorem dX8_taxHundredths_5 : decode cX8_taxHundredths 5 = .ok (.iaload, 1) := by decide +kernel
theorem dX8_taxHundredths_6 : decode cX8_taxHundredths 6 = .ok (.ireturn, 1) := by decide +kernel
theorem dX8_lapseDues_0 : decode cX8_lapseDues 0 = .ok (.aload_n 0, 1) := by decide +kernel
theorem dX8_lapseDues_1 : decode cX8_lapseDues 1 = .ok (.getfield 11, 3) := by decide +kernel
theorem dX8_lapseDues_4 : decode cX8_lapseDues 4 = .ok (.iconst 4, 1) := by decide +kernel
theorem dX8_lapseDues_5 : decode cX8_lapseDues 5 = .ok (.iaload, 1) := by decide +kernel
theorem dX8_lapseDues_6 : decode cX8_lapseDues 6 = .ok (.ireturn, 1) := by decide +kernel
theorem dX8_loanPence_0 : decode cX8_loanPence 0 = .ok (.aload_n 0, 1) := by decide +kernel
theorem dX8_loanPence_1 : decode cX8_loanPence 1 = .ok (.getfield 11, 3) := by decide +kernel
theorem dX8_loanPence_4 : decode cX8_loanPence 4 = .ok (.iconst 5, 1) := by decide +kernel
theorem dX8_loanPence_5 : decode cX8_loanPence 5 = .ok (.iaload, 1) := by decide +kernel
theorem dX8_loanPence_6 : decode cX8_loanPence 6 = .ok (.bipush 100, 2) := by decide +kernel
theorem dX8_loanPence_8 : decode cX8_loanPence 8 = .ok (.imul, 1) := by decide +kernel
theorem dX8_loanPence_9 : decode cX8_loanPence 9 = .ok (.ireturn, 1) := by decide +kernel
theorem dX8_loanThousandths_0 : decode cX8_loanThousandths 0 = .ok (.aload_n 0, 1) := by decide +kernel
theorem dX8_loanThousandths_1 : decode cX8_loanThousandths 1 = .ok (.getfield 11, 3) := by decide +kernel
theorem dX8_loanThousandths_4 : decode cX8_loanThousandths 4 = .ok (.bipush 6, 2) := by decide +kernel
theorem dX8_loanThousandths_6 : decode cX8_loanThousandths 6 = .ok (.iaload, 1) := by decide +kernel
theorem dX8_loanThousandths_7 : decode cX8_loanThousandths 7 = .ok (.ireturn, 1) := by decide +kernel
theorem dX8_stonePence_0 : decode cX8_stonePence 0 = .ok (.aload_n 0, 1) := by decide +kernel
theorem dX8_stonePence_1 : decode cX8_stonePence 1 = .ok (.getfield 11, 3) := by decide +kernel
theorem dX8_stonePence_4 : decode cX8_stonePence 4 = .ok (.bipush 7, 2) := by decide +kernel
theorem dX8_stonePence_6 : decode cX8_stonePence 6 = .ok (.iaload, 1) := by decide +kernel
theorem dX8_stonePence_7 : decode cX8_stonePence 7 = .ok (.bipush 100, 2) := by decide +kernel
theorem dX8_stonePence_9 : decode cX8_stonePence 9 = .ok (.imul, 1) := by decide +kernel
theorem dX8_stonePence_10 : decode cX8_stonePence 10 = .ok (.ireturn, 1) := by decide +kernel
theorem dX8_givesAllBack_0 : decode cX8_givesAllBack 0 = .ok (.aload_n 0, 1) := by decide +kernel
theorem dX8_givesAllBack_1 : decode cX8_givesAllBack 1 = .ok (.getfield 11, 3) := by decide +kernel
theorem dX8_givesAllBack_4 : decode cX8_givesAllBack 4 = .ok (.bipush 8, 2) := by decide +kernel
theorem dX8_givesAllBack_6 : decode cX8_givesAllBack 6 = .ok (.iaload, 1) := by decide +kernel
theorem dX8_givesAllBack_7 : decode cX8_givesAllBack 7 = .ok (.iconst 1, 1) := by decide +kernel
theorem dX8_givesAllBack_8 : decode cX8_givesAllBack 8 = .ok (.if_icmp .ne 7, 3) := by decide +kernel
theorem dX8_givesAllBack_11 : decode cX8_givesAllBack 11 = .ok (.iconst 1, 1) := by decide +kernel
theorem dX8_givesAllBack_12 : decode cX8_givesAllBack 12 = .ok (.goto 4, 3) := by decide +kernel
theorem dX8_givesAllBack_15 : decode cX8_givesAllBack 15 = .ok (.iconst 0, 1) := by decide +kernel
theorem dX8_givesAllBack_16 : decode cX8_givesAllBack 16 = .ok (.ireturn, 1) := by decide +kernel
theorem dX9_init_0 : decode cX9_init 0 = .ok (.aload_n 0, 1) := by decide +kernel
theorem dX9_init_1 : decode cX9_init 1 = .ok (.invokespecial 3, 3) := by decide +kernel
theorem dX9_init_4 : decode cX9_init 4 = .ok (.aload_n 0, 1) := by decide +kernel
theorem dX9_init_5 : decode cX9_init 5 = .ok (.new 9, 3) := by decide +kernel
theorem dX9_init_8 : decode cX9_init 8 = .ok (.dup, 1) := by decide +kernel
theorem dX9_init_9 : decode cX9_init 9 = .ok (.invokespecial 11, 3) := by decide +kernel
theorem dX9_init_12 : decode cX9_init 12 = .ok (.putfield 12, 3) := by decide +kernel
theorem dX9_init_15 : decode cX9_init 15 = .ok (.aload_n 0, 1) := by decide +kernel
theorem dX9_init_16 : decode cX9_init 16 = .ok (.bipush 6, 2) := by decide +kernel
theorem dX9_init_18 : decode cX9_init 18 = .ok (.newarray .boolean, 2) := by decide +kernel
theorem dX9_init_20 : decode cX9_init 20 = .ok (.putfield 18, 3) := by decide +kernel
theorem dX9_init_23 : decode cX9_init 23 = .ok (.aload_n 0, 1) := by decide +kernel
theorem dX9_init_24 : decode cX9_init 24 = .ok (.iconst (-1), 1) := by decide +kernel
theorem dX9_init_25 : decode cX9_init 25 = .ok (.putfield 22, 3) := by decide +kernel
theorem dX9_init_28 : decode cX9_init 28 = .ok (.return_, 1) := by decide +kernel
theorem dX9_draft_0 : decode cX9_draft 0 = .ok (.aload_n 0, 1) := by decide +kernel
theorem dX9_draft_1 : decode cX9_draft 1 = .ok (.getfield 12, 3) := by decide +kernel
theorem dX9_draft_4 : decode cX9_draft 4 = .ok (.areturn, 1) := by decide +kernel
theorem dX9_faultKind_0 : decode cX9_faultKind 0 = .ok (.aload_n 0, 1) := by decide +kernel
theorem dX9_faultKind_1 : decode cX9_faultKind 1 = .ok (.getfield 26, 3) := by decide +kernel
theorem dX9_faultKind_4 : decode cX9_faultKind 4 = .ok (.ireturn, 1) := by decide +kernel
theorem dX9_faultPlace_0 : decode cX9_faultPlace 0 = .ok (.aload_n 0, 1) := by decide +kernel
theorem dX9_faultPlace_1 : decode cX9_faultPlace 1 = .ok (.getfield 22, 3) := by decide +kernel
theorem dX9_faultPlace_4 : decode cX9_faultPlace 4 = .ok (.ireturn, 1) := by decide +kernel
theorem dX9_read_0 : decode cX9_read 0 = .ok (.aload_n 0, 1) := by decide +kernel
theorem dX9_read_1 : decode cX9_read 1 = .ok (.invokevirtual 29, 3) := by decide +kernel
theorem dX9_read_4 : decode cX9_read 4 = .ok (.iconst 0, 1) := by decide +kernel
theorem dX9_read_5 : decode cX9_read 5 = .ok (.istore_n 2, 1) := by decide +kernel
theorem dX9_read_6 : decode cX9_read 6 = .ok (.iconst 0, 1) := by decide +kernel
theorem dX9_read_7 : decode cX9_read 7 = .ok (.istore_n 3, 1) := by decide +kernel
theorem dX9_read_8 : decode cX9_read 8 = .ok (.iload_n 3, 1) := by decide +kernel
theorem dX9_read_9 : decode cX9_read 9 = .ok (.bipush 6, 2) := by decide +kernel
theorem dX9_read_11 : decode cX9_read 11 = .ok (.if_icmp .gt 40, 3) := by decide +kernel
theorem dX9_read_14 : decode cX9_read 14 = .ok (.aload_n 0, 1) := by decide +kernel
theorem dX9_read_15 : decode cX9_read 15 = .ok (.aload_n 1, 1) := by decide +kernel
theorem dX9_read_16 : decode cX9_read 16 = .ok (.invokevirtual 32, 3) := by decide +kernel
theorem dX9_read_19 : decode cX9_read 19 = .ok (.aload_n 0, 1) := by decide +kernel
theorem dX9_read_20 : decode cX9_read 20 = .ok (.getfield 36, 3) := by decide +kernel
theorem dX9_read_23 : decode cX9_read 23 = .ok (.ifCond .ne 5, 3) := by decide +kernel
theorem dX9_read_26 : decode cX9_read 26 = .ok (.iload_n 2, 1) := by decide +kernel
theorem dX9_read_27 : decode cX9_read 27 = .ok (.ireturn, 1) := by decide +kernel
theorem dX9_read_28 : decode cX9_read 28 = .ok (.aload_n 0, 1) := by decide +kernel
theorem dX9_read_29 : decode cX9_read 29 = .ok (.aload_n 1, 1) := by decide +kernel
theorem dX9_read_30 : decode cX9_read 30 = .ok (.invokevirtual 39, 3) := by decide +kernel
theorem dX9_read_33 : decode cX9_read 33 = .ok (.aload_n 0, 1) := by decide +kernel
theorem dX9_read_34 : decode cX9_read 34 = .ok (.getfield 26, 3) := by decide +kernel
theorem dX9_read_37 : decode cX9_read 37 = .ok (.ifCond .eq 5, 3) := by decide +kernel
theorem dX9_read_40 : decode cX9_read 40 = .ok (.iconst (-1), 1) := by decide +kernel
theorem dX9_read_41 : decode cX9_read 41 = .ok (.ireturn, 1) := by decide +kernel
theorem dX9_read_42 : decode cX9_read 42 = .ok (.iinc 2 1, 3) := by decide +kernel
theorem dX9_read_45 : decode cX9_read 45 = .ok (.iinc 3 1, 3) := by decide +kernel
theorem dX9_read_48 : decode cX9_read 48 = .ok (.goto (-40), 3) := by decide +kernel
theorem dX9_startAnew_0 : decode cX9_startAnew 0 = .ok (.aload_n 0, 1) := by decide +kernel
theorem dX9_startAnew_1 : decode cX9_startAnew 1 = .ok (.getfield 12, 3) := by decide +kernel
theorem dX9_startAnew_4 : decode cX9_startAnew 4 = .ok (.invokevirtual 42, 3) := by decide +kernel
theorem dX9_startAnew_7 : decode cX9_startAnew 7 = .ok (.iconst 0, 1) := by decide +kernel
theorem dX9_startAnew_8 : decode cX9_startAnew 8 = .ok (.istore_n 1, 1) := by decide +kernel
theorem dX9_startAnew_9 : decode cX9_startAnew 9 = .ok (.iload_n 1, 1) := by decide +kernel
theorem dX9_startAnew_10 : decode cX9_startAnew 10 = .ok (.bipush 6, 2) := by decide +kernel
theorem dX9_startAnew_12 : decode cX9_startAnew 12 = .ok (.if_icmp .ge 16, 3) := by decide +kernel
theorem dX9_startAnew_15 : decode cX9_startAnew 15 = .ok (.aload_n 0, 1) := by decide +kernel
theorem dX9_startAnew_16 : decode cX9_startAnew 16 = .ok (.getfield 18, 3) := by decide +kernel
theorem dX9_startAnew_19 : decode cX9_startAnew 19 = .ok (.iload_n 1, 1) := by decide +kernel
theorem dX9_startAnew_20 : decode cX9_startAnew 20 = .ok (.iconst 0, 1) := by decide +kernel
theorem dX9_startAnew_21 : decode cX9_startAnew 21 = .ok (.bastore, 1) := by decide +kernel
theorem dX9_startAnew_22 : decode cX9_startAnew 22 = .ok (.iinc 1 1, 3) := by decide +kernel
theorem dX9_startAnew_25 : decode cX9_startAnew 25 = .ok (.goto (-16), 3) := by decide +kernel
theorem dX9_startAnew_28 : decode cX9_startAnew 28 = .ok (.aload_n 0, 1) := by decide +kernel
theorem dX9_startAnew_29 : decode cX9_startAnew 29 = .ok (.iconst 0, 1) := by decide +kernel
theorem dX9_startAnew_30 : decode cX9_startAnew 30 = .ok (.putfield 45, 3) := by decide +kernel
theorem dX9_startAnew_33 : decode cX9_startAnew 33 = .ok (.aload_n 0, 1) := by decide +kernel
theorem dX9_startAnew_34 : decode cX9_startAnew 34 = .ok (.iconst 0, 1) := by decide +kernel
theorem dX9_startAnew_35 : decode cX9_startAnew 35 = .ok (.putfield 26, 3) := by decide +kernel
theorem dX9_startAnew_38 : decode cX9_startAnew 38 = .ok (.aload_n 0, 1) := by decide +kernel
theorem dX9_startAnew_39 : decode cX9_startAnew 39 = .ok (.iconst (-1), 1) := by decide +kernel
theorem dX9_startAnew_40 : decode cX9_startAnew 40 = .ok (.putfield 22, 3) := by decide +kernel
theorem dX9_startAnew_43 : decode cX9_startAnew 43 = .ok (.return_, 1) := by decide +kernel
theorem dX9_refuse_0 : decode cX9_refuse 0 = .ok (.aload_n 0, 1) := by decide +kernel
theorem dX9_refuse_1 : decode cX9_refuse 1 = .ok (.iload_n 1, 1) := by decide +kernel
theorem dX9_refuse_2 : decode cX9_refuse 2 = .ok (.putfield 26, 3) := by decide +kernel
theorem dX9_refuse_5 : decode cX9_refuse 5 = .ok (.aload_n 0, 1) := by decide +kernel
theorem dX9_refuse_6 : decode cX9_refuse 6 = .ok (.aload_n 0, 1) := by decide +kernel
theorem dX9_refuse_7 : decode cX9_refuse 7 = .ok (.getfield 48, 3) := by decide +kernel
theorem dX9_refuse_10 : decode cX9_refuse 10 = .ok (.putfield 22, 3) := by decide +kernel
theorem dX9_refuse_13 : decode cX9_refuse 13 = .ok (.return_, 1) := by decide +kernel
theorem dX9_readLine_0 : decode cX9_readLine 0 = .ok (.aload_n 0, 1) := by decide +kernel
theorem dX9_readLine_1 : decode cX9_readLine 1 = .ok (.getfield 36, 3) := by decide +kernel
theorem dX9_readLine_4 : decode cX9_readLine 4 = .ok (.iconst 1, 1) := by decide +kernel
theorem dX9_readLine_5 : decode cX9_readLine 5 = .ok (.if_icmp .ne 11, 3) := by decide +kernel
theorem dX9_readLine_8 : decode cX9_readLine 8 = .ok (.aload_n 0, 1) := by decide +kernel
theorem dX9_readLine_9 : decode cX9_readLine 9 = .ok (.aload_n 1, 1) := by decide +kernel
theorem dX9_readLine_10 : decode cX9_readLine 10 = .ok (.invokevirtual 51, 3) := by decide +kernel
theorem dX9_readLine_13 : decode cX9_readLine 13 = .ok (.goto 4, 3) := by decide +kernel
theorem dX9_readLine_16 : decode cX9_readLine 16 = .ok (.iconst (-1), 1) := by decide +kernel
theorem dX9_readLine_17 : decode cX9_readLine 17 = .ok (.istore_n 2, 1) := by decide +kernel

