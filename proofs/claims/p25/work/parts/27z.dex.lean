theorem dE_init_0 : decode cE_init 0 = .ok (.aload_n 0, 1) := by decide +kernel
theorem dE_init_1 : decode cE_init 1 = .ok (.aload_n 1, 1) := by decide +kernel
theorem dE_init_2 : decode cE_init 2 = .ok (.aload_n 2, 1) := by decide +kernel
theorem dE_init_3 : decode cE_init 3 = .ok (.iload_n 3, 1) := by decide +kernel
theorem dE_init_4 : decode cE_init 4 = .ok (.iload 4, 2) := by decide +kernel
theorem dE_init_6 : decode cE_init 6 = .ok (.invokespecial 16, 3) := by decide +kernel
theorem dE_init_9 : decode cE_init 9 = .ok (.return_, 1) := by decide +kernel
theorem dH_init_0 : decode cH_init 0 = .ok (.aload_n 0, 1) := by decide +kernel
theorem dH_init_1 : decode cH_init 1 = .ok (.invokespecial 1, 3) := by decide +kernel
theorem dH_init_4 : decode cH_init 4 = .ok (.aload_n 0, 1) := by decide +kernel
theorem dH_init_5 : decode cH_init 5 = .ok (.aload_n 0, 1) := by decide +kernel
theorem dH_init_6 : decode cH_init 6 = .ok (.putfield 7, 3) := by decide +kernel
theorem dH_init_9 : decode cH_init 9 = .ok (.aload_n 0, 1) := by decide +kernel
theorem dH_init_10 : decode cH_init 10 = .ok (.getstatic 13, 3) := by decide +kernel
theorem dH_init_13 : decode cH_init 13 = .ok (.putfield 17, 3) := by decide +kernel
theorem dH_init_16 : decode cH_init 16 = .ok (.aload_n 0, 1) := by decide +kernel
theorem dH_init_17 : decode cH_init 17 = .ok (.getstatic 20, 3) := by decide +kernel
theorem dH_init_20 : decode cH_init 20 = .ok (.putfield 24, 3) := by decide +kernel
theorem dH_init_23 : decode cH_init 23 = .ok (.iload 4, 2) := by decide +kernel
theorem dH_init_25 : decode cH_init 25 = .ok (.ifCond .eq 11, 3) := by decide +kernel
theorem dH_init_36 : decode cH_init 36 = .ok (.aload_n 0, 1) := by decide +kernel
theorem dH_init_37 : decode cH_init 37 = .ok (.aconst_null, 1) := by decide +kernel
theorem dH_init_38 : decode cH_init 38 = .ok (.putfield 17, 3) := by decide +kernel
theorem dH_init_41 : decode cH_init 41 = .ok (.aload_n 0, 1) := by decide +kernel
theorem dH_init_42 : decode cH_init 42 = .ok (.aload_n 1, 1) := by decide +kernel
theorem dH_init_43 : decode cH_init 43 = .ok (.putfield 31, 3) := by decide +kernel
theorem dH_init_46 : decode cH_init 46 = .ok (.aload_n 0, 1) := by decide +kernel
theorem dH_init_47 : decode cH_init 47 = .ok (.aload_n 2, 1) := by decide +kernel
theorem dH_init_48 : decode cH_init 48 = .ok (.putfield 7, 3) := by decide +kernel
theorem dH_init_51 : decode cH_init 51 = .ok (.iload_n 3, 1) := by decide +kernel
theorem dH_init_52 : decode cH_init 52 = .ok (.ifCond .ne 8, 3) := by decide +kernel
theorem dH_init_55 : decode cH_init 55 = .ok (.aload_n 0, 1) := by decide +kernel
theorem dH_init_56 : decode cH_init 56 = .ok (.aconst_null, 1) := by decide +kernel
theorem dH_init_57 : decode cH_init 57 = .ok (.putfield 24, 3) := by decide +kernel
theorem dH_init_60 : decode cH_init 60 = .ok (.return_, 1) := by decide +kernel

