def dPX3_init_q0 : List (Nat × (Jvm.ClassFile.Instr × Nat)) := [(0, (.aload_n 0, 1)), (1, (.invokespecial 1, 3)), (4, (.return_, 1))]
theorem dAX3_init_q0 : ∀ x ∈ dPX3_init_q0, decode cX3_init x.1 = .ok x.2 := by decide +kernel
theorem dX3_init_0 : decode cX3_init 0 = .ok (.aload_n 0, 1) := dc_at (f := decode cX3_init) dAX3_init_q0 0 rfl
theorem dX3_init_1 : decode cX3_init 1 = .ok (.invokespecial 1, 3) := dc_at (f := decode cX3_init) dAX3_init_q0 1 rfl
theorem dX3_init_4 : decode cX3_init 4 = .ok (.return_, 1) := dc_at (f := decode cX3_init) dAX3_init_q0 2 rfl
def dPX3_coin_q0 : List (Nat × (Jvm.ClassFile.Instr × Nat)) := [(0, (.aload_n 0, 1)), (1, (.getfield 7, 3)), (4, (.lreturn, 1))]
theorem dAX3_coin_q0 : ∀ x ∈ dPX3_coin_q0, decode cX3_coin x.1 = .ok x.2 := by decide +kernel
theorem dX3_coin_0 : decode cX3_coin 0 = .ok (.aload_n 0, 1) := dc_at (f := decode cX3_coin) dAX3_coin_q0 0 rfl
theorem dX3_coin_1 : decode cX3_coin 1 = .ok (.getfield 7, 3) := dc_at (f := decode cX3_coin) dAX3_coin_q0 1 rfl
theorem dX3_coin_4 : decode cX3_coin 4 = .ok (.lreturn, 1) := dc_at (f := decode cX3_coin) dAX3_coin_q0 2 rfl
def dPX3_loan_q0 : List (Nat × (Jvm.ClassFile.Instr × Nat)) := [(0, (.aload_n 0, 1)), (1, (.getfield 13, 3)), (4, (.lreturn, 1))]
theorem dAX3_loan_q0 : ∀ x ∈ dPX3_loan_q0, decode cX3_loan x.1 = .ok x.2 := by decide +kernel
theorem dX3_loan_0 : decode cX3_loan 0 = .ok (.aload_n 0, 1) := dc_at (f := decode cX3_loan) dAX3_loan_q0 0 rfl
theorem dX3_loan_1 : decode cX3_loan 1 = .ok (.getfield 13, 3) := dc_at (f := decode cX3_loan) dAX3_loan_q0 1 rfl
theorem dX3_loan_4 : decode cX3_loan 4 = .ok (.lreturn, 1) := dc_at (f := decode cX3_loan) dAX3_loan_q0 2 rfl
def dPX3_matched_q0 : List (Nat × (Jvm.ClassFile.Instr × Nat)) := [(0, (.aload_n 0, 1)), (1, (.getfield 16, 3)), (4, (.lreturn, 1))]
theorem dAX3_matched_q0 : ∀ x ∈ dPX3_matched_q0, decode cX3_matched x.1 = .ok x.2 := by decide +kernel
theorem dX3_matched_0 : decode cX3_matched 0 = .ok (.aload_n 0, 1) := dc_at (f := decode cX3_matched) dAX3_matched_q0 0 rfl
theorem dX3_matched_1 : decode cX3_matched 1 = .ok (.getfield 16, 3) := dc_at (f := decode cX3_matched) dAX3_matched_q0 1 rfl
theorem dX3_matched_4 : decode cX3_matched 4 = .ok (.lreturn, 1) := dc_at (f := decode cX3_matched) dAX3_matched_q0 2 rfl
def dPX3_tax_q0 : List (Nat × (Jvm.ClassFile.Instr × Nat)) := [(0, (.aload_n 0, 1)), (1, (.getfield 19, 3)), (4, (.lreturn, 1))]
theorem dAX3_tax_q0 : ∀ x ∈ dPX3_tax_q0, decode cX3_tax x.1 = .ok x.2 := by decide +kernel
theorem dX3_tax_0 : decode cX3_tax 0 = .ok (.aload_n 0, 1) := dc_at (f := decode cX3_tax) dAX3_tax_q0 0 rfl
theorem dX3_tax_1 : decode cX3_tax 1 = .ok (.getfield 19, 3) := dc_at (f := decode cX3_tax) dAX3_tax_q0 1 rfl
theorem dX3_tax_4 : decode cX3_tax 4 = .ok (.lreturn, 1) := dc_at (f := decode cX3_tax) dAX3_tax_q0 2 rfl
def dPX3_paidForStages_q0 : List (Nat × (Jvm.ClassFile.Instr × Nat)) := [(0, (.aload_n 0, 1)), (1, (.getfield 22, 3)), (4, (.lreturn, 1))]
theorem dAX3_paidForStages_q0 : ∀ x ∈ dPX3_paidForStages_q0, decode cX3_paidForStages x.1 = .ok x.2 := by decide +kernel
theorem dX3_paidForStages_0 : decode cX3_paidForStages 0 = .ok (.aload_n 0, 1) := dc_at (f := decode cX3_paidForStages) dAX3_paidForStages_q0 0 rfl
theorem dX3_paidForStages_1 : decode cX3_paidForStages 1 = .ok (.getfield 22, 3) := dc_at (f := decode cX3_paidForStages) dAX3_paidForStages_q0 1 rfl
theorem dX3_paidForStages_4 : decode cX3_paidForStages 4 = .ok (.lreturn, 1) := dc_at (f := decode cX3_paidForStages) dAX3_paidForStages_q0 2 rfl
def dPX3_grown_q0 : List (Nat × (Jvm.ClassFile.Instr × Nat)) := [(0, (.aload_n 0, 1)), (1, (.getfield 25, 3)), (4, (.lreturn, 1))]
theorem dAX3_grown_q0 : ∀ x ∈ dPX3_grown_q0, decode cX3_grown x.1 = .ok x.2 := by decide +kernel
theorem dX3_grown_0 : decode cX3_grown 0 = .ok (.aload_n 0, 1) := dc_at (f := decode cX3_grown) dAX3_grown_q0 0 rfl
theorem dX3_grown_1 : decode cX3_grown 1 = .ok (.getfield 25, 3) := dc_at (f := decode cX3_grown) dAX3_grown_q0 1 rfl
theorem dX3_grown_4 : decode cX3_grown 4 = .ok (.lreturn, 1) := dc_at (f := decode cX3_grown) dAX3_grown_q0 2 rfl
def dPX3_takeSum_q0 : List (Nat × (Jvm.ClassFile.Instr × Nat)) := [(0, (.lconst 0, 1)), (1, (.lstore 4, 2)), (3, (.iload_n 2, 1)), (4, (.aload_n 3, 1)), (5, (.invokevirtual 28, 3)), (8, (.if_icmp .gt 42, 3)), (11, (.iload_n 1, 1)), (12, (.i2l, 1)), (13, (.aload_n 3, 1)), (14, (.invokevirtual 34, 3)), (17, (.i2l, 1)), (18, (.lmul, 1)), (19, (.ldc2_w 37, 3)), (22, (.ldiv, 1)), (23, (.lstore 6, 2)), (25, (.lconst 0, 1)), (26, (.aload_n 3, 1)), (27, (.invokevirtual 39, 3)), (30, (.i2l, 1)), (31, (.aload_n 0, 1)), (32, (.getfield 16, 3)), (35, (.lsub, 1)), (36, (.invokestatic 42, 3)), (39, (.lstore 8, 2)), (41, (.lload 6, 2)), (43, (.lload 8, 2)), (45, (.invokestatic 48, 3)), (48, (.lstore 4, 2)), (50, (.aload_n 0, 1)), (51, (.dup, 1)), (52, (.getfield 16, 3)), (55, (.lload 4, 2)), (57, (.ladd, 1)), (58, (.putfield 16, 3)), (61, (.aload_n 0, 1)), (62, (.dup, 1)), (63, (.getfield 7, 3)), (66, (.iload_n 1, 1)), (67, (.i2l, 1)), (68, (.lload 4, 2)), (70, (.ladd, 1)), (71, (.ladd, 1)), (72, (.putfield 7, 3)), (75, (.lload 4, 2)), (77, (.l2i, 1)), (78, (.ireturn, 1))]
theorem dAX3_takeSum_q0 : ∀ x ∈ dPX3_takeSum_q0, decode cX3_takeSum x.1 = .ok x.2 := by decide +kernel
theorem dX3_takeSum_0 : decode cX3_takeSum 0 = .ok (.lconst 0, 1) := dc_at (f := decode cX3_takeSum) dAX3_takeSum_q0 0 rfl
theorem dX3_takeSum_1 : decode cX3_takeSum 1 = .ok (.lstore 4, 2) := dc_at (f := decode cX3_takeSum) dAX3_takeSum_q0 1 rfl
theorem dX3_takeSum_3 : decode cX3_takeSum 3 = .ok (.iload_n 2, 1) := dc_at (f := decode cX3_takeSum) dAX3_takeSum_q0 2 rfl
theorem dX3_takeSum_4 : decode cX3_takeSum 4 = .ok (.aload_n 3, 1) := dc_at (f := decode cX3_takeSum) dAX3_takeSum_q0 3 rfl
theorem dX3_takeSum_5 : decode cX3_takeSum 5 = .ok (.invokevirtual 28, 3) := dc_at (f := decode cX3_takeSum) dAX3_takeSum_q0 4 rfl
theorem dX3_takeSum_8 : decode cX3_takeSum 8 = .ok (.if_icmp .gt 42, 3) := dc_at (f := decode cX3_takeSum) dAX3_takeSum_q0 5 rfl
theorem dX3_takeSum_11 : decode cX3_takeSum 11 = .ok (.iload_n 1, 1) := dc_at (f := decode cX3_takeSum) dAX3_takeSum_q0 6 rfl
theorem dX3_takeSum_12 : decode cX3_takeSum 12 = .ok (.i2l, 1) := dc_at (f := decode cX3_takeSum) dAX3_takeSum_q0 7 rfl
theorem dX3_takeSum_13 : decode cX3_takeSum 13 = .ok (.aload_n 3, 1) := dc_at (f := decode cX3_takeSum) dAX3_takeSum_q0 8 rfl
theorem dX3_takeSum_14 : decode cX3_takeSum 14 = .ok (.invokevirtual 34, 3) := dc_at (f := decode cX3_takeSum) dAX3_takeSum_q0 9 rfl
theorem dX3_takeSum_17 : decode cX3_takeSum 17 = .ok (.i2l, 1) := dc_at (f := decode cX3_takeSum) dAX3_takeSum_q0 10 rfl
theorem dX3_takeSum_18 : decode cX3_takeSum 18 = .ok (.lmul, 1) := dc_at (f := decode cX3_takeSum) dAX3_takeSum_q0 11 rfl
theorem dX3_takeSum_19 : decode cX3_takeSum 19 = .ok (.ldc2_w 37, 3) := dc_at (f := decode cX3_takeSum) dAX3_takeSum_q0 12 rfl
theorem dX3_takeSum_22 : decode cX3_takeSum 22 = .ok (.ldiv, 1) := dc_at (f := decode cX3_takeSum) dAX3_takeSum_q0 13 rfl
theorem dX3_takeSum_23 : decode cX3_takeSum 23 = .ok (.lstore 6, 2) := dc_at (f := decode cX3_takeSum) dAX3_takeSum_q0 14 rfl
theorem dX3_takeSum_25 : decode cX3_takeSum 25 = .ok (.lconst 0, 1) := dc_at (f := decode cX3_takeSum) dAX3_takeSum_q0 15 rfl
theorem dX3_takeSum_26 : decode cX3_takeSum 26 = .ok (.aload_n 3, 1) := dc_at (f := decode cX3_takeSum) dAX3_takeSum_q0 16 rfl
theorem dX3_takeSum_27 : decode cX3_takeSum 27 = .ok (.invokevirtual 39, 3) := dc_at (f := decode cX3_takeSum) dAX3_takeSum_q0 17 rfl
theorem dX3_takeSum_30 : decode cX3_takeSum 30 = .ok (.i2l, 1) := dc_at (f := decode cX3_takeSum) dAX3_takeSum_q0 18 rfl
theorem dX3_takeSum_31 : decode cX3_takeSum 31 = .ok (.aload_n 0, 1) := dc_at (f := decode cX3_takeSum) dAX3_takeSum_q0 19 rfl
theorem dX3_takeSum_32 : decode cX3_takeSum 32 = .ok (.getfield 16, 3) := dc_at (f := decode cX3_takeSum) dAX3_takeSum_q0 20 rfl
theorem dX3_takeSum_35 : decode cX3_takeSum 35 = .ok (.lsub, 1) := dc_at (f := decode cX3_takeSum) dAX3_takeSum_q0 21 rfl
theorem dX3_takeSum_36 : decode cX3_takeSum 36 = .ok (.invokestatic 42, 3) := dc_at (f := decode cX3_takeSum) dAX3_takeSum_q0 22 rfl
theorem dX3_takeSum_39 : decode cX3_takeSum 39 = .ok (.lstore 8, 2) := dc_at (f := decode cX3_takeSum) dAX3_takeSum_q0 23 rfl
theorem dX3_takeSum_41 : decode cX3_takeSum 41 = .ok (.lload 6, 2) := dc_at (f := decode cX3_takeSum) dAX3_takeSum_q0 24 rfl
theorem dX3_takeSum_43 : decode cX3_takeSum 43 = .ok (.lload 8, 2) := dc_at (f := decode cX3_takeSum) dAX3_takeSum_q0 25 rfl
theorem dX3_takeSum_45 : decode cX3_takeSum 45 = .ok (.invokestatic 48, 3) := dc_at (f := decode cX3_takeSum) dAX3_takeSum_q0 26 rfl
theorem dX3_takeSum_48 : decode cX3_takeSum 48 = .ok (.lstore 4, 2) := dc_at (f := decode cX3_takeSum) dAX3_takeSum_q0 27 rfl
theorem dX3_takeSum_50 : decode cX3_takeSum 50 = .ok (.aload_n 0, 1) := dc_at (f := decode cX3_takeSum) dAX3_takeSum_q0 28 rfl
theorem dX3_takeSum_51 : decode cX3_takeSum 51 = .ok (.dup, 1) := dc_at (f := decode cX3_takeSum) dAX3_takeSum_q0 29 rfl
theorem dX3_takeSum_52 : decode cX3_takeSum 52 = .ok (.getfield 16, 3) := dc_at (f := decode cX3_takeSum) dAX3_takeSum_q0 30 rfl
theorem dX3_takeSum_55 : decode cX3_takeSum 55 = .ok (.lload 4, 2) := dc_at (f := decode cX3_takeSum) dAX3_takeSum_q0 31 rfl
theorem dX3_takeSum_57 : decode cX3_takeSum 57 = .ok (.ladd, 1) := dc_at (f := decode cX3_takeSum) dAX3_takeSum_q0 32 rfl
theorem dX3_takeSum_58 : decode cX3_takeSum 58 = .ok (.putfield 16, 3) := dc_at (f := decode cX3_takeSum) dAX3_takeSum_q0 33 rfl
theorem dX3_takeSum_61 : decode cX3_takeSum 61 = .ok (.aload_n 0, 1) := dc_at (f := decode cX3_takeSum) dAX3_takeSum_q0 34 rfl
theorem dX3_takeSum_62 : decode cX3_takeSum 62 = .ok (.dup, 1) := dc_at (f := decode cX3_takeSum) dAX3_takeSum_q0 35 rfl
theorem dX3_takeSum_63 : decode cX3_takeSum 63 = .ok (.getfield 7, 3) := dc_at (f := decode cX3_takeSum) dAX3_takeSum_q0 36 rfl
theorem dX3_takeSum_66 : decode cX3_takeSum 66 = .ok (.iload_n 1, 1) := dc_at (f := decode cX3_takeSum) dAX3_takeSum_q0 37 rfl
theorem dX3_takeSum_67 : decode cX3_takeSum 67 = .ok (.i2l, 1) := dc_at (f := decode cX3_takeSum) dAX3_takeSum_q0 38 rfl
theorem dX3_takeSum_68 : decode cX3_takeSum 68 = .ok (.lload 4, 2) := dc_at (f := decode cX3_takeSum) dAX3_takeSum_q0 39 rfl
theorem dX3_takeSum_70 : decode cX3_takeSum 70 = .ok (.ladd, 1) := dc_at (f := decode cX3_takeSum) dAX3_takeSum_q0 40 rfl
theorem dX3_takeSum_71 : decode cX3_takeSum 71 = .ok (.ladd, 1) := dc_at (f := decode cX3_takeSum) dAX3_takeSum_q0 41 rfl
theorem dX3_takeSum_72 : decode cX3_takeSum 72 = .ok (.putfield 7, 3) := dc_at (f := decode cX3_takeSum) dAX3_takeSum_q0 42 rfl
theorem dX3_takeSum_75 : decode cX3_takeSum 75 = .ok (.lload 4, 2) := dc_at (f := decode cX3_takeSum) dAX3_takeSum_q0 43 rfl
theorem dX3_takeSum_77 : decode cX3_takeSum 77 = .ok (.l2i, 1) := dc_at (f := decode cX3_takeSum) dAX3_takeSum_q0 44 rfl
theorem dX3_takeSum_78 : decode cX3_takeSum 78 = .ok (.ireturn, 1) := dc_at (f := decode cX3_takeSum) dAX3_takeSum_q0 45 rfl
def dPX3_takeTax_q0 : List (Nat × (Jvm.ClassFile.Instr × Nat)) := [(0, (.aload_n 0, 1)), (1, (.dup, 1)), (2, (.getfield 19, 3)), (5, (.iload_n 1, 1)), (6, (.i2l, 1)), (7, (.ladd, 1)), (8, (.putfield 19, 3)), (11, (.aload_n 0, 1)), (12, (.dup, 1)), (13, (.getfield 7, 3)), (16, (.iload_n 1, 1)), (17, (.i2l, 1)), (18, (.ladd, 1)), (19, (.putfield 7, 3)), (22, (.return_, 1))]
theorem dAX3_takeTax_q0 : ∀ x ∈ dPX3_takeTax_q0, decode cX3_takeTax x.1 = .ok x.2 := by decide +kernel
theorem dX3_takeTax_0 : decode cX3_takeTax 0 = .ok (.aload_n 0, 1) := dc_at (f := decode cX3_takeTax) dAX3_takeTax_q0 0 rfl
theorem dX3_takeTax_1 : decode cX3_takeTax 1 = .ok (.dup, 1) := dc_at (f := decode cX3_takeTax) dAX3_takeTax_q0 1 rfl
theorem dX3_takeTax_2 : decode cX3_takeTax 2 = .ok (.getfield 19, 3) := dc_at (f := decode cX3_takeTax) dAX3_takeTax_q0 2 rfl
theorem dX3_takeTax_5 : decode cX3_takeTax 5 = .ok (.iload_n 1, 1) := dc_at (f := decode cX3_takeTax) dAX3_takeTax_q0 3 rfl
theorem dX3_takeTax_6 : decode cX3_takeTax 6 = .ok (.i2l, 1) := dc_at (f := decode cX3_takeTax) dAX3_takeTax_q0 4 rfl
theorem dX3_takeTax_7 : decode cX3_takeTax 7 = .ok (.ladd, 1) := dc_at (f := decode cX3_takeTax) dAX3_takeTax_q0 5 rfl
theorem dX3_takeTax_8 : decode cX3_takeTax 8 = .ok (.putfield 19, 3) := dc_at (f := decode cX3_takeTax) dAX3_takeTax_q0 6 rfl
theorem dX3_takeTax_11 : decode cX3_takeTax 11 = .ok (.aload_n 0, 1) := dc_at (f := decode cX3_takeTax) dAX3_takeTax_q0 7 rfl
theorem dX3_takeTax_12 : decode cX3_takeTax 12 = .ok (.dup, 1) := dc_at (f := decode cX3_takeTax) dAX3_takeTax_q0 8 rfl
theorem dX3_takeTax_13 : decode cX3_takeTax 13 = .ok (.getfield 7, 3) := dc_at (f := decode cX3_takeTax) dAX3_takeTax_q0 9 rfl
theorem dX3_takeTax_16 : decode cX3_takeTax 16 = .ok (.iload_n 1, 1) := dc_at (f := decode cX3_takeTax) dAX3_takeTax_q0 10 rfl
theorem dX3_takeTax_17 : decode cX3_takeTax 17 = .ok (.i2l, 1) := dc_at (f := decode cX3_takeTax) dAX3_takeTax_q0 11 rfl
theorem dX3_takeTax_18 : decode cX3_takeTax 18 = .ok (.ladd, 1) := dc_at (f := decode cX3_takeTax) dAX3_takeTax_q0 12 rfl
theorem dX3_takeTax_19 : decode cX3_takeTax 19 = .ok (.putfield 7, 3) := dc_at (f := decode cX3_takeTax) dAX3_takeTax_q0 13 rfl
theorem dX3_takeTax_22 : decode cX3_takeTax 22 = .ok (.return_, 1) := dc_at (f := decode cX3_takeTax) dAX3_takeTax_q0 14 rfl
def dPX3_growLoan_q0 : List (Nat × (Jvm.ClassFile.Instr × Nat)) := [(0, (.aload_n 0, 1)), (1, (.getfield 13, 3)), (4, (.iload_n 1, 1)), (5, (.i2l, 1)), (6, (.lmul, 1)), (7, (.ldc2_w 51, 3)), (10, (.ldiv, 1)), (11, (.lstore_n 2, 1)), (12, (.aload_n 0, 1)), (13, (.dup, 1)), (14, (.getfield 13, 3)), (17, (.lload_n 2, 1)), (18, (.ladd, 1)), (19, (.putfield 13, 3)), (22, (.aload_n 0, 1)), (23, (.dup, 1)), (24, (.getfield 25, 3)), (27, (.lload_n 2, 1)), (28, (.ladd, 1)), (29, (.putfield 25, 3)), (32, (.return_, 1))]
theorem dAX3_growLoan_q0 : ∀ x ∈ dPX3_growLoan_q0, decode cX3_growLoan x.1 = .ok x.2 := by decide +kernel
theorem dX3_growLoan_0 : decode cX3_growLoan 0 = .ok (.aload_n 0, 1) := dc_at (f := decode cX3_growLoan) dAX3_growLoan_q0 0 rfl
theorem dX3_growLoan_1 : decode cX3_growLoan 1 = .ok (.getfield 13, 3) := dc_at (f := decode cX3_growLoan) dAX3_growLoan_q0 1 rfl
theorem dX3_growLoan_4 : decode cX3_growLoan 4 = .ok (.iload_n 1, 1) := dc_at (f := decode cX3_growLoan) dAX3_growLoan_q0 2 rfl
theorem dX3_growLoan_5 : decode cX3_growLoan 5 = .ok (.i2l, 1) := dc_at (f := decode cX3_growLoan) dAX3_growLoan_q0 3 rfl
theorem dX3_growLoan_6 : decode cX3_growLoan 6 = .ok (.lmul, 1) := dc_at (f := decode cX3_growLoan) dAX3_growLoan_q0 4 rfl
theorem dX3_growLoan_7 : decode cX3_growLoan 7 = .ok (.ldc2_w 51, 3) := dc_at (f := decode cX3_growLoan) dAX3_growLoan_q0 5 rfl
theorem dX3_growLoan_10 : decode cX3_growLoan 10 = .ok (.ldiv, 1) := dc_at (f := decode cX3_growLoan) dAX3_growLoan_q0 6 rfl
theorem dX3_growLoan_11 : decode cX3_growLoan 11 = .ok (.lstore_n 2, 1) := dc_at (f := decode cX3_growLoan) dAX3_growLoan_q0 7 rfl
theorem dX3_growLoan_12 : decode cX3_growLoan 12 = .ok (.aload_n 0, 1) := dc_at (f := decode cX3_growLoan) dAX3_growLoan_q0 8 rfl
theorem dX3_growLoan_13 : decode cX3_growLoan 13 = .ok (.dup, 1) := dc_at (f := decode cX3_growLoan) dAX3_growLoan_q0 9 rfl
theorem dX3_growLoan_14 : decode cX3_growLoan 14 = .ok (.getfield 13, 3) := dc_at (f := decode cX3_growLoan) dAX3_growLoan_q0 10 rfl
theorem dX3_growLoan_17 : decode cX3_growLoan 17 = .ok (.lload_n 2, 1) := dc_at (f := decode cX3_growLoan) dAX3_growLoan_q0 11 rfl
theorem dX3_growLoan_18 : decode cX3_growLoan 18 = .ok (.ladd, 1) := dc_at (f := decode cX3_growLoan) dAX3_growLoan_q0 12 rfl
theorem dX3_growLoan_19 : decode cX3_growLoan 19 = .ok (.putfield 13, 3) := dc_at (f := decode cX3_growLoan) dAX3_growLoan_q0 13 rfl
theorem dX3_growLoan_22 : decode cX3_growLoan 22 = .ok (.aload_n 0, 1) := dc_at (f := decode cX3_growLoan) dAX3_growLoan_q0 14 rfl
theorem dX3_growLoan_23 : decode cX3_growLoan 23 = .ok (.dup, 1) := dc_at (f := decode cX3_growLoan) dAX3_growLoan_q0 15 rfl
theorem dX3_growLoan_24 : decode cX3_growLoan 24 = .ok (.getfield 25, 3) := dc_at (f := decode cX3_growLoan) dAX3_growLoan_q0 16 rfl
theorem dX3_growLoan_27 : decode cX3_growLoan 27 = .ok (.lload_n 2, 1) := dc_at (f := decode cX3_growLoan) dAX3_growLoan_q0 17 rfl
theorem dX3_growLoan_28 : decode cX3_growLoan 28 = .ok (.ladd, 1) := dc_at (f := decode cX3_growLoan) dAX3_growLoan_q0 18 rfl
theorem dX3_growLoan_29 : decode cX3_growLoan 29 = .ok (.putfield 25, 3) := dc_at (f := decode cX3_growLoan) dAX3_growLoan_q0 19 rfl
theorem dX3_growLoan_32 : decode cX3_growLoan 32 = .ok (.return_, 1) := dc_at (f := decode cX3_growLoan) dAX3_growLoan_q0 20 rfl
def dPX3_paysPart_q0 : List (Nat × (Jvm.ClassFile.Instr × Nat)) := [(0, (.lconst 0, 1)), (1, (.iload_n 2, 1)), (2, (.i2l, 1)), (3, (.aload_n 0, 1)), (4, (.getfield 13, 3)), (7, (.lsub, 1)), (8, (.invokestatic 42, 3)), (11, (.lstore_n 3, 1)), (12, (.aload_n 0, 1)), (13, (.getfield 7, 3)), (16, (.lload_n 3, 1)), (17, (.ladd, 1)), (18, (.iload_n 1, 1)), (19, (.i2l, 1)), (20, (.lcmp, 1)), (21, (.ifCond .ge 5, 3)), (24, (.iconst 0, 1)), (25, (.ireturn, 1)), (26, (.lconst 0, 1)), (27, (.iload_n 1, 1)), (28, (.i2l, 1)), (29, (.aload_n 0, 1)), (30, (.getfield 7, 3)), (33, (.lsub, 1)), (34, (.invokestatic 42, 3)), (37, (.lstore 5, 2)), (39, (.aload_n 0, 1)), (40, (.dup, 1)), (41, (.getfield 13, 3)), (44, (.lload 5, 2)), (46, (.ladd, 1)), (47, (.putfield 13, 3)), (50, (.aload_n 0, 1)), (51, (.dup, 1)), (52, (.getfield 7, 3)), (55, (.lload 5, 2)), (57, (.iload_n 1, 1)), (58, (.i2l, 1)), (59, (.lsub, 1)), (60, (.ladd, 1)), (61, (.putfield 7, 3)), (64, (.aload_n 0, 1)), (65, (.dup, 1)), (66, (.getfield 22, 3)), (69, (.iload_n 1, 1)), (70, (.i2l, 1)), (71, (.ladd, 1)), (72, (.putfield 22, 3))]
theorem dAX3_paysPart_q0 : ∀ x ∈ dPX3_paysPart_q0, decode cX3_paysPart x.1 = .ok x.2 := by decide +kernel
theorem dX3_paysPart_0 : decode cX3_paysPart 0 = .ok (.lconst 0, 1) := dc_at (f := decode cX3_paysPart) dAX3_paysPart_q0 0 rfl
theorem dX3_paysPart_1 : decode cX3_paysPart 1 = .ok (.iload_n 2, 1) := dc_at (f := decode cX3_paysPart) dAX3_paysPart_q0 1 rfl
theorem dX3_paysPart_2 : decode cX3_paysPart 2 = .ok (.i2l, 1) := dc_at (f := decode cX3_paysPart) dAX3_paysPart_q0 2 rfl
theorem dX3_paysPart_3 : decode cX3_paysPart 3 = .ok (.aload_n 0, 1) := dc_at (f := decode cX3_paysPart) dAX3_paysPart_q0 3 rfl
theorem dX3_paysPart_4 : decode cX3_paysPart 4 = .ok (.getfield 13, 3) := dc_at (f := decode cX3_paysPart) dAX3_paysPart_q0 4 rfl
theorem dX3_paysPart_7 : decode cX3_paysPart 7 = .ok (.lsub, 1) := dc_at (f := decode cX3_paysPart) dAX3_paysPart_q0 5 rfl
theorem dX3_paysPart_8 : decode cX3_paysPart 8 = .ok (.invokestatic 42, 3) := dc_at (f := decode cX3_paysPart) dAX3_paysPart_q0 6 rfl
theorem dX3_paysPart_11 : decode cX3_paysPart 11 = .ok (.lstore_n 3, 1) := dc_at (f := decode cX3_paysPart) dAX3_paysPart_q0 7 rfl
theorem dX3_paysPart_12 : decode cX3_paysPart 12 = .ok (.aload_n 0, 1) := dc_at (f := decode cX3_paysPart) dAX3_paysPart_q0 8 rfl
theorem dX3_paysPart_13 : decode cX3_paysPart 13 = .ok (.getfield 7, 3) := dc_at (f := decode cX3_paysPart) dAX3_paysPart_q0 9 rfl
theorem dX3_paysPart_16 : decode cX3_paysPart 16 = .ok (.lload_n 3, 1) := dc_at (f := decode cX3_paysPart) dAX3_paysPart_q0 10 rfl
theorem dX3_paysPart_17 : decode cX3_paysPart 17 = .ok (.ladd, 1) := dc_at (f := decode cX3_paysPart) dAX3_paysPart_q0 11 rfl
theorem dX3_paysPart_18 : decode cX3_paysPart 18 = .ok (.iload_n 1, 1) := dc_at (f := decode cX3_paysPart) dAX3_paysPart_q0 12 rfl
theorem dX3_paysPart_19 : decode cX3_paysPart 19 = .ok (.i2l, 1) := dc_at (f := decode cX3_paysPart) dAX3_paysPart_q0 13 rfl
theorem dX3_paysPart_20 : decode cX3_paysPart 20 = .ok (.lcmp, 1) := dc_at (f := decode cX3_paysPart) dAX3_paysPart_q0 14 rfl
theorem dX3_paysPart_21 : decode cX3_paysPart 21 = .ok (.ifCond .ge 5, 3) := dc_at (f := decode cX3_paysPart) dAX3_paysPart_q0 15 rfl
theorem dX3_paysPart_24 : decode cX3_paysPart 24 = .ok (.iconst 0, 1) := dc_at (f := decode cX3_paysPart) dAX3_paysPart_q0 16 rfl
theorem dX3_paysPart_25 : decode cX3_paysPart 25 = .ok (.ireturn, 1) := dc_at (f := decode cX3_paysPart) dAX3_paysPart_q0 17 rfl
theorem dX3_paysPart_26 : decode cX3_paysPart 26 = .ok (.lconst 0, 1) := dc_at (f := decode cX3_paysPart) dAX3_paysPart_q0 18 rfl
theorem dX3_paysPart_27 : decode cX3_paysPart 27 = .ok (.iload_n 1, 1) := dc_at (f := decode cX3_paysPart) dAX3_paysPart_q0 19 rfl
theorem dX3_paysPart_28 : decode cX3_paysPart 28 = .ok (.i2l, 1) := dc_at (f := decode cX3_paysPart) dAX3_paysPart_q0 20 rfl
theorem dX3_paysPart_29 : decode cX3_paysPart 29 = .ok (.aload_n 0, 1) := dc_at (f := decode cX3_paysPart) dAX3_paysPart_q0 21 rfl
theorem dX3_paysPart_30 : decode cX3_paysPart 30 = .ok (.getfield 7, 3) := dc_at (f := decode cX3_paysPart) dAX3_paysPart_q0 22 rfl
theorem dX3_paysPart_33 : decode cX3_paysPart 33 = .ok (.lsub, 1) := dc_at (f := decode cX3_paysPart) dAX3_paysPart_q0 23 rfl
theorem dX3_paysPart_34 : decode cX3_paysPart 34 = .ok (.invokestatic 42, 3) := dc_at (f := decode cX3_paysPart) dAX3_paysPart_q0 24 rfl
theorem dX3_paysPart_37 : decode cX3_paysPart 37 = .ok (.lstore 5, 2) := dc_at (f := decode cX3_paysPart) dAX3_paysPart_q0 25 rfl
theorem dX3_paysPart_39 : decode cX3_paysPart 39 = .ok (.aload_n 0, 1) := dc_at (f := decode cX3_paysPart) dAX3_paysPart_q0 26 rfl
theorem dX3_paysPart_40 : decode cX3_paysPart 40 = .ok (.dup, 1) := dc_at (f := decode cX3_paysPart) dAX3_paysPart_q0 27 rfl
theorem dX3_paysPart_41 : decode cX3_paysPart 41 = .ok (.getfield 13, 3) := dc_at (f := decode cX3_paysPart) dAX3_paysPart_q0 28 rfl
theorem dX3_paysPart_44 : decode cX3_paysPart 44 = .ok (.lload 5, 2) := dc_at (f := decode cX3_paysPart) dAX3_paysPart_q0 29 rfl
theorem dX3_paysPart_46 : decode cX3_paysPart 46 = .ok (.ladd, 1) := dc_at (f := decode cX3_paysPart) dAX3_paysPart_q0 30 rfl
theorem dX3_paysPart_47 : decode cX3_paysPart 47 = .ok (.putfield 13, 3) := dc_at (f := decode cX3_paysPart) dAX3_paysPart_q0 31 rfl
theorem dX3_paysPart_50 : decode cX3_paysPart 50 = .ok (.aload_n 0, 1) := dc_at (f := decode cX3_paysPart) dAX3_paysPart_q0 32 rfl
theorem dX3_paysPart_51 : decode cX3_paysPart 51 = .ok (.dup, 1) := dc_at (f := decode cX3_paysPart) dAX3_paysPart_q0 33 rfl
theorem dX3_paysPart_52 : decode cX3_paysPart 52 = .ok (.getfield 7, 3) := dc_at (f := decode cX3_paysPart) dAX3_paysPart_q0 34 rfl
theorem dX3_paysPart_55 : decode cX3_paysPart 55 = .ok (.lload 5, 2) := dc_at (f := decode cX3_paysPart) dAX3_paysPart_q0 35 rfl
theorem dX3_paysPart_57 : decode cX3_paysPart 57 = .ok (.iload_n 1, 1) := dc_at (f := decode cX3_paysPart) dAX3_paysPart_q0 36 rfl
theorem dX3_paysPart_58 : decode cX3_paysPart 58 = .ok (.i2l, 1) := dc_at (f := decode cX3_paysPart) dAX3_paysPart_q0 37 rfl
theorem dX3_paysPart_59 : decode cX3_paysPart 59 = .ok (.lsub, 1) := dc_at (f := decode cX3_paysPart) dAX3_paysPart_q0 38 rfl
theorem dX3_paysPart_60 : decode cX3_paysPart 60 = .ok (.ladd, 1) := dc_at (f := decode cX3_paysPart) dAX3_paysPart_q0 39 rfl
theorem dX3_paysPart_61 : decode cX3_paysPart 61 = .ok (.putfield 7, 3) := dc_at (f := decode cX3_paysPart) dAX3_paysPart_q0 40 rfl
theorem dX3_paysPart_64 : decode cX3_paysPart 64 = .ok (.aload_n 0, 1) := dc_at (f := decode cX3_paysPart) dAX3_paysPart_q0 41 rfl
theorem dX3_paysPart_65 : decode cX3_paysPart 65 = .ok (.dup, 1) := dc_at (f := decode cX3_paysPart) dAX3_paysPart_q0 42 rfl
theorem dX3_paysPart_66 : decode cX3_paysPart 66 = .ok (.getfield 22, 3) := dc_at (f := decode cX3_paysPart) dAX3_paysPart_q0 43 rfl
theorem dX3_paysPart_69 : decode cX3_paysPart 69 = .ok (.iload_n 1, 1) := dc_at (f := decode cX3_paysPart) dAX3_paysPart_q0 44 rfl
theorem dX3_paysPart_70 : decode cX3_paysPart 70 = .ok (.i2l, 1) := dc_at (f := decode cX3_paysPart) dAX3_paysPart_q0 45 rfl
theorem dX3_paysPart_71 : decode cX3_paysPart 71 = .ok (.ladd, 1) := dc_at (f := decode cX3_paysPart) dAX3_paysPart_q0 46 rfl
theorem dX3_paysPart_72 : decode cX3_paysPart 72 = .ok (.putfield 22, 3) := dc_at (f := decode cX3_paysPart) dAX3_paysPart_q0 47 rfl
def dPX3_paysPart_q1 : List (Nat × (Jvm.ClassFile.Instr × Nat)) := [(75, (.iconst 1, 1)), (76, (.ireturn, 1))]
theorem dAX3_paysPart_q1 : ∀ x ∈ dPX3_paysPart_q1, decode cX3_paysPart x.1 = .ok x.2 := by decide +kernel
theorem dX3_paysPart_75 : decode cX3_paysPart 75 = .ok (.iconst 1, 1) := dc_at (f := decode cX3_paysPart) dAX3_paysPart_q1 0 rfl
theorem dX3_paysPart_76 : decode cX3_paysPart 76 = .ok (.ireturn, 1) := dc_at (f := decode cX3_paysPart) dAX3_paysPart_q1 1 rfl
def dPX3_payBackLoan_q0 : List (Nat × (Jvm.ClassFile.Instr × Nat)) := [(0, (.aload_n 0, 1)), (1, (.getfield 7, 3)), (4, (.aload_n 0, 1)), (5, (.getfield 13, 3)), (8, (.invokestatic 48, 3)), (11, (.lstore_n 1, 1)), (12, (.aload_n 0, 1)), (13, (.dup, 1)), (14, (.getfield 7, 3)), (17, (.lload_n 1, 1)), (18, (.lsub, 1)), (19, (.putfield 7, 3)), (22, (.aload_n 0, 1)), (23, (.dup, 1)), (24, (.getfield 13, 3)), (27, (.lload_n 1, 1)), (28, (.lsub, 1)), (29, (.putfield 13, 3)), (32, (.return_, 1))]
theorem dAX3_payBackLoan_q0 : ∀ x ∈ dPX3_payBackLoan_q0, decode cX3_payBackLoan x.1 = .ok x.2 := by decide +kernel
theorem dX3_payBackLoan_0 : decode cX3_payBackLoan 0 = .ok (.aload_n 0, 1) := dc_at (f := decode cX3_payBackLoan) dAX3_payBackLoan_q0 0 rfl
theorem dX3_payBackLoan_1 : decode cX3_payBackLoan 1 = .ok (.getfield 7, 3) := dc_at (f := decode cX3_payBackLoan) dAX3_payBackLoan_q0 1 rfl
theorem dX3_payBackLoan_4 : decode cX3_payBackLoan 4 = .ok (.aload_n 0, 1) := dc_at (f := decode cX3_payBackLoan) dAX3_payBackLoan_q0 2 rfl
theorem dX3_payBackLoan_5 : decode cX3_payBackLoan 5 = .ok (.getfield 13, 3) := dc_at (f := decode cX3_payBackLoan) dAX3_payBackLoan_q0 3 rfl
theorem dX3_payBackLoan_8 : decode cX3_payBackLoan 8 = .ok (.invokestatic 48, 3) := dc_at (f := decode cX3_payBackLoan) dAX3_payBackLoan_q0 4 rfl
theorem dX3_payBackLoan_11 : decode cX3_payBackLoan 11 = .ok (.lstore_n 1, 1) := dc_at (f := decode cX3_payBackLoan) dAX3_payBackLoan_q0 5 rfl
theorem dX3_payBackLoan_12 : decode cX3_payBackLoan 12 = .ok (.aload_n 0, 1) := dc_at (f := decode cX3_payBackLoan) dAX3_payBackLoan_q0 6 rfl
theorem dX3_payBackLoan_13 : decode cX3_payBackLoan 13 = .ok (.dup, 1) := dc_at (f := decode cX3_payBackLoan) dAX3_payBackLoan_q0 7 rfl
theorem dX3_payBackLoan_14 : decode cX3_payBackLoan 14 = .ok (.getfield 7, 3) := dc_at (f := decode cX3_payBackLoan) dAX3_payBackLoan_q0 8 rfl
theorem dX3_payBackLoan_17 : decode cX3_payBackLoan 17 = .ok (.lload_n 1, 1) := dc_at (f := decode cX3_payBackLoan) dAX3_payBackLoan_q0 9 rfl
theorem dX3_payBackLoan_18 : decode cX3_payBackLoan 18 = .ok (.lsub, 1) := dc_at (f := decode cX3_payBackLoan) dAX3_payBackLoan_q0 10 rfl
theorem dX3_payBackLoan_19 : decode cX3_payBackLoan 19 = .ok (.putfield 7, 3) := dc_at (f := decode cX3_payBackLoan) dAX3_payBackLoan_q0 11 rfl
theorem dX3_payBackLoan_22 : decode cX3_payBackLoan 22 = .ok (.aload_n 0, 1) := dc_at (f := decode cX3_payBackLoan) dAX3_payBackLoan_q0 12 rfl
theorem dX3_payBackLoan_23 : decode cX3_payBackLoan 23 = .ok (.dup, 1) := dc_at (f := decode cX3_payBackLoan) dAX3_payBackLoan_q0 13 rfl
theorem dX3_payBackLoan_24 : decode cX3_payBackLoan 24 = .ok (.getfield 13, 3) := dc_at (f := decode cX3_payBackLoan) dAX3_payBackLoan_q0 14 rfl
theorem dX3_payBackLoan_27 : decode cX3_payBackLoan 27 = .ok (.lload_n 1, 1) := dc_at (f := decode cX3_payBackLoan) dAX3_payBackLoan_q0 15 rfl
theorem dX3_payBackLoan_28 : decode cX3_payBackLoan 28 = .ok (.lsub, 1) := dc_at (f := decode cX3_payBackLoan) dAX3_payBackLoan_q0 16 rfl
theorem dX3_payBackLoan_29 : decode cX3_payBackLoan 29 = .ok (.putfield 13, 3) := dc_at (f := decode cX3_payBackLoan) dAX3_payBackLoan_q0 17 rfl
theorem dX3_payBackLoan_32 : decode cX3_payBackLoan 32 = .ok (.return_, 1) := dc_at (f := decode cX3_payBackLoan) dAX3_payBackLoan_q0 18 rfl
def dPX3_giveBack_q0 : List (Nat × (Jvm.ClassFile.Instr × Nat)) := [(0, (.aload_n 0, 1)), (1, (.dup, 1)), (2, (.getfield 7, 3)), (5, (.iload_n 1, 1)), (6, (.i2l, 1)), (7, (.lsub, 1)), (8, (.putfield 7, 3)), (11, (.return_, 1))]
theorem dAX3_giveBack_q0 : ∀ x ∈ dPX3_giveBack_q0, decode cX3_giveBack x.1 = .ok x.2 := by decide +kernel
theorem dX3_giveBack_0 : decode cX3_giveBack 0 = .ok (.aload_n 0, 1) := dc_at (f := decode cX3_giveBack) dAX3_giveBack_q0 0 rfl
theorem dX3_giveBack_1 : decode cX3_giveBack 1 = .ok (.dup, 1) := dc_at (f := decode cX3_giveBack) dAX3_giveBack_q0 1 rfl
theorem dX3_giveBack_2 : decode cX3_giveBack 2 = .ok (.getfield 7, 3) := dc_at (f := decode cX3_giveBack) dAX3_giveBack_q0 2 rfl
theorem dX3_giveBack_5 : decode cX3_giveBack 5 = .ok (.iload_n 1, 1) := dc_at (f := decode cX3_giveBack) dAX3_giveBack_q0 3 rfl
theorem dX3_giveBack_6 : decode cX3_giveBack 6 = .ok (.i2l, 1) := dc_at (f := decode cX3_giveBack) dAX3_giveBack_q0 4 rfl
theorem dX3_giveBack_7 : decode cX3_giveBack 7 = .ok (.lsub, 1) := dc_at (f := decode cX3_giveBack) dAX3_giveBack_q0 5 rfl
theorem dX3_giveBack_8 : decode cX3_giveBack 8 = .ok (.putfield 7, 3) := dc_at (f := decode cX3_giveBack) dAX3_giveBack_q0 6 rfl
theorem dX3_giveBack_11 : decode cX3_giveBack 11 = .ok (.return_, 1) := dc_at (f := decode cX3_giveBack) dAX3_giveBack_q0 7 rfl
def dPX4_init_q0 : List (Nat × (Jvm.ClassFile.Instr × Nat)) := [(0, (.aload_n 0, 1)), (1, (.invokespecial 1, 3)), (4, (.aload_n 0, 1)), (5, (.iconst 0, 1)), (6, (.putfield 9, 3)), (9, (.aload_n 0, 1)), (10, (.iload_n 1, 1)), (11, (.putfield 13, 3)), (14, (.aload_n 0, 1)), (15, (.iload_n 2, 1)), (16, (.putfield 16, 3)), (19, (.return_, 1))]
theorem dAX4_init_q0 : ∀ x ∈ dPX4_init_q0, decode cX4_init x.1 = .ok x.2 := by decide +kernel
theorem dX4_init_0 : decode cX4_init 0 = .ok (.aload_n 0, 1) := dc_at (f := decode cX4_init) dAX4_init_q0 0 rfl
theorem dX4_init_1 : decode cX4_init 1 = .ok (.invokespecial 1, 3) := dc_at (f := decode cX4_init) dAX4_init_q0 1 rfl
theorem dX4_init_4 : decode cX4_init 4 = .ok (.aload_n 0, 1) := dc_at (f := decode cX4_init) dAX4_init_q0 2 rfl
theorem dX4_init_5 : decode cX4_init 5 = .ok (.iconst 0, 1) := dc_at (f := decode cX4_init) dAX4_init_q0 3 rfl
theorem dX4_init_6 : decode cX4_init 6 = .ok (.putfield 9, 3) := dc_at (f := decode cX4_init) dAX4_init_q0 4 rfl
theorem dX4_init_9 : decode cX4_init 9 = .ok (.aload_n 0, 1) := dc_at (f := decode cX4_init) dAX4_init_q0 5 rfl
theorem dX4_init_10 : decode cX4_init 10 = .ok (.iload_n 1, 1) := dc_at (f := decode cX4_init) dAX4_init_q0 6 rfl
theorem dX4_init_11 : decode cX4_init 11 = .ok (.putfield 13, 3) := dc_at (f := decode cX4_init) dAX4_init_q0 7 rfl
theorem dX4_init_14 : decode cX4_init 14 = .ok (.aload_n 0, 1) := dc_at (f := decode cX4_init) dAX4_init_q0 8 rfl
theorem dX4_init_15 : decode cX4_init 15 = .ok (.iload_n 2, 1) := dc_at (f := decode cX4_init) dAX4_init_q0 9 rfl
theorem dX4_init_16 : decode cX4_init 16 = .ok (.putfield 16, 3) := dc_at (f := decode cX4_init) dAX4_init_q0 10 rfl
theorem dX4_init_19 : decode cX4_init 19 = .ok (.return_, 1) := dc_at (f := decode cX4_init) dAX4_init_q0 11 rfl
def dPX4_cost_q0 : List (Nat × (Jvm.ClassFile.Instr × Nat)) := [(0, (.aload_n 0, 1)), (1, (.getfield 13, 3)), (4, (.ireturn, 1))]
theorem dAX4_cost_q0 : ∀ x ∈ dPX4_cost_q0, decode cX4_cost x.1 = .ok x.2 := by decide +kernel
theorem dX4_cost_0 : decode cX4_cost 0 = .ok (.aload_n 0, 1) := dc_at (f := decode cX4_cost) dAX4_cost_q0 0 rfl
theorem dX4_cost_1 : decode cX4_cost 1 = .ok (.getfield 13, 3) := dc_at (f := decode cX4_cost) dAX4_cost_q0 1 rfl
theorem dX4_cost_4 : decode cX4_cost 4 = .ok (.ireturn, 1) := dc_at (f := decode cX4_cost) dAX4_cost_q0 2 rfl
def dPX4_parts_q0 : List (Nat × (Jvm.ClassFile.Instr × Nat)) := [(0, (.aload_n 0, 1)), (1, (.getfield 16, 3)), (4, (.ireturn, 1))]
theorem dAX4_parts_q0 : ∀ x ∈ dPX4_parts_q0, decode cX4_parts x.1 = .ok x.2 := by decide +kernel
theorem dX4_parts_0 : decode cX4_parts 0 = .ok (.aload_n 0, 1) := dc_at (f := decode cX4_parts) dAX4_parts_q0 0 rfl
theorem dX4_parts_1 : decode cX4_parts 1 = .ok (.getfield 16, 3) := dc_at (f := decode cX4_parts) dAX4_parts_q0 1 rfl
theorem dX4_parts_4 : decode cX4_parts 4 = .ok (.ireturn, 1) := dc_at (f := decode cX4_parts) dAX4_parts_q0 2 rfl
def dPX4_progress_q0 : List (Nat × (Jvm.ClassFile.Instr × Nat)) := [(0, (.aload_n 0, 1)), (1, (.getfield 9, 3)), (4, (.ireturn, 1))]
theorem dAX4_progress_q0 : ∀ x ∈ dPX4_progress_q0, decode cX4_progress x.1 = .ok x.2 := by decide +kernel
theorem dX4_progress_0 : decode cX4_progress 0 = .ok (.aload_n 0, 1) := dc_at (f := decode cX4_progress) dAX4_progress_q0 0 rfl
theorem dX4_progress_1 : decode cX4_progress 1 = .ok (.getfield 9, 3) := dc_at (f := decode cX4_progress) dAX4_progress_q0 1 rfl
theorem dX4_progress_4 : decode cX4_progress 4 = .ok (.ireturn, 1) := dc_at (f := decode cX4_progress) dAX4_progress_q0 2 rfl
def dPX4_paid_q0 : List (Nat × (Jvm.ClassFile.Instr × Nat)) := [(0, (.aload_n 0, 1)), (1, (.getfield 19, 3)), (4, (.ireturn, 1))]
theorem dAX4_paid_q0 : ∀ x ∈ dPX4_paid_q0, decode cX4_paid x.1 = .ok x.2 := by decide +kernel
theorem dX4_paid_0 : decode cX4_paid 0 = .ok (.aload_n 0, 1) := dc_at (f := decode cX4_paid) dAX4_paid_q0 0 rfl
theorem dX4_paid_1 : decode cX4_paid 1 = .ok (.getfield 19, 3) := dc_at (f := decode cX4_paid) dAX4_paid_q0 1 rfl
theorem dX4_paid_4 : decode cX4_paid 4 = .ok (.ireturn, 1) := dc_at (f := decode cX4_paid) dAX4_paid_q0 2 rfl
def dPX4_paused_q0 : List (Nat × (Jvm.ClassFile.Instr × Nat)) := [(0, (.aload_n 0, 1)), (1, (.getfield 22, 3)), (4, (.ireturn, 1))]
theorem dAX4_paused_q0 : ∀ x ∈ dPX4_paused_q0, decode cX4_paused x.1 = .ok x.2 := by decide +kernel
theorem dX4_paused_0 : decode cX4_paused 0 = .ok (.aload_n 0, 1) := dc_at (f := decode cX4_paused) dAX4_paused_q0 0 rfl
theorem dX4_paused_1 : decode cX4_paused 1 = .ok (.getfield 22, 3) := dc_at (f := decode cX4_paused) dAX4_paused_q0 1 rfl
theorem dX4_paused_4 : decode cX4_paused 4 = .ok (.ireturn, 1) := dc_at (f := decode cX4_paused) dAX4_paused_q0 2 rfl
def dPX4_runs_q0 : List (Nat × (Jvm.ClassFile.Instr × Nat)) := [(0, (.aload_n 0, 1)), (1, (.getfield 9, 3)), (4, (.iconst 1, 1)), (5, (.if_icmp .ne 7, 3)), (8, (.iconst 1, 1)), (9, (.goto 4, 3)), (12, (.iconst 0, 1)), (13, (.ireturn, 1))]
theorem dAX4_runs_q0 : ∀ x ∈ dPX4_runs_q0, decode cX4_runs x.1 = .ok x.2 := by decide +kernel
theorem dX4_runs_0 : decode cX4_runs 0 = .ok (.aload_n 0, 1) := dc_at (f := decode cX4_runs) dAX4_runs_q0 0 rfl
theorem dX4_runs_1 : decode cX4_runs 1 = .ok (.getfield 9, 3) := dc_at (f := decode cX4_runs) dAX4_runs_q0 1 rfl
theorem dX4_runs_4 : decode cX4_runs 4 = .ok (.iconst 1, 1) := dc_at (f := decode cX4_runs) dAX4_runs_q0 2 rfl
theorem dX4_runs_5 : decode cX4_runs 5 = .ok (.if_icmp .ne 7, 3) := dc_at (f := decode cX4_runs) dAX4_runs_q0 3 rfl
theorem dX4_runs_8 : decode cX4_runs 8 = .ok (.iconst 1, 1) := dc_at (f := decode cX4_runs) dAX4_runs_q0 4 rfl
theorem dX4_runs_9 : decode cX4_runs 9 = .ok (.goto 4, 3) := dc_at (f := decode cX4_runs) dAX4_runs_q0 5 rfl
theorem dX4_runs_12 : decode cX4_runs 12 = .ok (.iconst 0, 1) := dc_at (f := decode cX4_runs) dAX4_runs_q0 6 rfl
theorem dX4_runs_13 : decode cX4_runs 13 = .ok (.ireturn, 1) := dc_at (f := decode cX4_runs) dAX4_runs_q0 7 rfl
def dPX4_start_q0 : List (Nat × (Jvm.ClassFile.Instr × Nat)) := [(0, (.aload_n 0, 1)), (1, (.iconst 1, 1)), (2, (.putfield 9, 3)), (5, (.return_, 1))]
theorem dAX4_start_q0 : ∀ x ∈ dPX4_start_q0, decode cX4_start x.1 = .ok x.2 := by decide +kernel
theorem dX4_start_0 : decode cX4_start 0 = .ok (.aload_n 0, 1) := dc_at (f := decode cX4_start) dAX4_start_q0 0 rfl
theorem dX4_start_1 : decode cX4_start 1 = .ok (.iconst 1, 1) := dc_at (f := decode cX4_start) dAX4_start_q0 1 rfl
theorem dX4_start_2 : decode cX4_start 2 = .ok (.putfield 9, 3) := dc_at (f := decode cX4_start) dAX4_start_q0 2 rfl
theorem dX4_start_5 : decode cX4_start 5 = .ok (.return_, 1) := dc_at (f := decode cX4_start) dAX4_start_q0 3 rfl
def dPX4_nextPart_q0 : List (Nat × (Jvm.ClassFile.Instr × Nat)) := [(0, (.aload_n 0, 1)), (1, (.getfield 25, 3)), (4, (.aload_n 0, 1)), (5, (.getfield 16, 3)), (8, (.iconst 1, 1)), (9, (.isub, 1)), (10, (.if_icmp .ge 11, 3)), (13, (.aload_n 0, 1)), (14, (.getfield 16, 3)), (17, (.iconst 1, 1)), (18, (.if_icmp .ge 13, 3)), (21, (.aload_n 0, 1)), (22, (.getfield 13, 3)), (25, (.aload_n 0, 1)), (26, (.getfield 19, 3)), (29, (.isub, 1)), (30, (.ireturn, 1)), (31, (.aload_n 0, 1)), (32, (.getfield 13, 3)), (35, (.aload_n 0, 1)), (36, (.getfield 16, 3)), (39, (.idiv, 1)), (40, (.ireturn, 1))]
theorem dAX4_nextPart_q0 : ∀ x ∈ dPX4_nextPart_q0, decode cX4_nextPart x.1 = .ok x.2 := by decide +kernel
theorem dX4_nextPart_0 : decode cX4_nextPart 0 = .ok (.aload_n 0, 1) := dc_at (f := decode cX4_nextPart) dAX4_nextPart_q0 0 rfl
theorem dX4_nextPart_1 : decode cX4_nextPart 1 = .ok (.getfield 25, 3) := dc_at (f := decode cX4_nextPart) dAX4_nextPart_q0 1 rfl
theorem dX4_nextPart_4 : decode cX4_nextPart 4 = .ok (.aload_n 0, 1) := dc_at (f := decode cX4_nextPart) dAX4_nextPart_q0 2 rfl
theorem dX4_nextPart_5 : decode cX4_nextPart 5 = .ok (.getfield 16, 3) := dc_at (f := decode cX4_nextPart) dAX4_nextPart_q0 3 rfl
theorem dX4_nextPart_8 : decode cX4_nextPart 8 = .ok (.iconst 1, 1) := dc_at (f := decode cX4_nextPart) dAX4_nextPart_q0 4 rfl
theorem dX4_nextPart_9 : decode cX4_nextPart 9 = .ok (.isub, 1) := dc_at (f := decode cX4_nextPart) dAX4_nextPart_q0 5 rfl
theorem dX4_nextPart_10 : decode cX4_nextPart 10 = .ok (.if_icmp .ge 11, 3) := dc_at (f := decode cX4_nextPart) dAX4_nextPart_q0 6 rfl
theorem dX4_nextPart_13 : decode cX4_nextPart 13 = .ok (.aload_n 0, 1) := dc_at (f := decode cX4_nextPart) dAX4_nextPart_q0 7 rfl
theorem dX4_nextPart_14 : decode cX4_nextPart 14 = .ok (.getfield 16, 3) := dc_at (f := decode cX4_nextPart) dAX4_nextPart_q0 8 rfl
theorem dX4_nextPart_17 : decode cX4_nextPart 17 = .ok (.iconst 1, 1) := dc_at (f := decode cX4_nextPart) dAX4_nextPart_q0 9 rfl
theorem dX4_nextPart_18 : decode cX4_nextPart 18 = .ok (.if_icmp .ge 13, 3) := dc_at (f := decode cX4_nextPart) dAX4_nextPart_q0 10 rfl
theorem dX4_nextPart_21 : decode cX4_nextPart 21 = .ok (.aload_n 0, 1) := dc_at (f := decode cX4_nextPart) dAX4_nextPart_q0 11 rfl
theorem dX4_nextPart_22 : decode cX4_nextPart 22 = .ok (.getfield 13, 3) := dc_at (f := decode cX4_nextPart) dAX4_nextPart_q0 12 rfl
theorem dX4_nextPart_25 : decode cX4_nextPart 25 = .ok (.aload_n 0, 1) := dc_at (f := decode cX4_nextPart) dAX4_nextPart_q0 13 rfl
theorem dX4_nextPart_26 : decode cX4_nextPart 26 = .ok (.getfield 19, 3) := dc_at (f := decode cX4_nextPart) dAX4_nextPart_q0 14 rfl
theorem dX4_nextPart_29 : decode cX4_nextPart 29 = .ok (.isub, 1) := dc_at (f := decode cX4_nextPart) dAX4_nextPart_q0 15 rfl
theorem dX4_nextPart_30 : decode cX4_nextPart 30 = .ok (.ireturn, 1) := dc_at (f := decode cX4_nextPart) dAX4_nextPart_q0 16 rfl
theorem dX4_nextPart_31 : decode cX4_nextPart 31 = .ok (.aload_n 0, 1) := dc_at (f := decode cX4_nextPart) dAX4_nextPart_q0 17 rfl
theorem dX4_nextPart_32 : decode cX4_nextPart 32 = .ok (.getfield 13, 3) := dc_at (f := decode cX4_nextPart) dAX4_nextPart_q0 18 rfl
theorem dX4_nextPart_35 : decode cX4_nextPart 35 = .ok (.aload_n 0, 1) := dc_at (f := decode cX4_nextPart) dAX4_nextPart_q0 19 rfl
theorem dX4_nextPart_36 : decode cX4_nextPart 36 = .ok (.getfield 16, 3) := dc_at (f := decode cX4_nextPart) dAX4_nextPart_q0 20 rfl
theorem dX4_nextPart_39 : decode cX4_nextPart 39 = .ok (.idiv, 1) := dc_at (f := decode cX4_nextPart) dAX4_nextPart_q0 21 rfl
theorem dX4_nextPart_40 : decode cX4_nextPart 40 = .ok (.ireturn, 1) := dc_at (f := decode cX4_nextPart) dAX4_nextPart_q0 22 rfl
def dPX4_bookPart_q0 : List (Nat × (Jvm.ClassFile.Instr × Nat)) := [(0, (.aload_n 0, 1)), (1, (.dup, 1)), (2, (.getfield 19, 3)), (5, (.iload_n 1, 1)), (6, (.iadd, 1)), (7, (.putfield 19, 3)), (10, (.aload_n 0, 1)), (11, (.dup, 1)), (12, (.getfield 25, 3)), (15, (.iconst 1, 1)), (16, (.iadd, 1)), (17, (.putfield 25, 3)), (20, (.aload_n 0, 1)), (21, (.getfield 25, 3)), (24, (.aload_n 0, 1)), (25, (.getfield 16, 3)), (28, (.if_icmp .lt 8, 3)), (31, (.aload_n 0, 1)), (32, (.iconst 2, 1)), (33, (.putfield 9, 3)), (36, (.return_, 1))]
theorem dAX4_bookPart_q0 : ∀ x ∈ dPX4_bookPart_q0, decode cX4_bookPart x.1 = .ok x.2 := by decide +kernel
theorem dX4_bookPart_0 : decode cX4_bookPart 0 = .ok (.aload_n 0, 1) := dc_at (f := decode cX4_bookPart) dAX4_bookPart_q0 0 rfl
theorem dX4_bookPart_1 : decode cX4_bookPart 1 = .ok (.dup, 1) := dc_at (f := decode cX4_bookPart) dAX4_bookPart_q0 1 rfl
theorem dX4_bookPart_2 : decode cX4_bookPart 2 = .ok (.getfield 19, 3) := dc_at (f := decode cX4_bookPart) dAX4_bookPart_q0 2 rfl
theorem dX4_bookPart_5 : decode cX4_bookPart 5 = .ok (.iload_n 1, 1) := dc_at (f := decode cX4_bookPart) dAX4_bookPart_q0 3 rfl
theorem dX4_bookPart_6 : decode cX4_bookPart 6 = .ok (.iadd, 1) := dc_at (f := decode cX4_bookPart) dAX4_bookPart_q0 4 rfl
theorem dX4_bookPart_7 : decode cX4_bookPart 7 = .ok (.putfield 19, 3) := dc_at (f := decode cX4_bookPart) dAX4_bookPart_q0 5 rfl
theorem dX4_bookPart_10 : decode cX4_bookPart 10 = .ok (.aload_n 0, 1) := dc_at (f := decode cX4_bookPart) dAX4_bookPart_q0 6 rfl
theorem dX4_bookPart_11 : decode cX4_bookPart 11 = .ok (.dup, 1) := dc_at (f := decode cX4_bookPart) dAX4_bookPart_q0 7 rfl
theorem dX4_bookPart_12 : decode cX4_bookPart 12 = .ok (.getfield 25, 3) := dc_at (f := decode cX4_bookPart) dAX4_bookPart_q0 8 rfl
theorem dX4_bookPart_15 : decode cX4_bookPart 15 = .ok (.iconst 1, 1) := dc_at (f := decode cX4_bookPart) dAX4_bookPart_q0 9 rfl
theorem dX4_bookPart_16 : decode cX4_bookPart 16 = .ok (.iadd, 1) := dc_at (f := decode cX4_bookPart) dAX4_bookPart_q0 10 rfl
theorem dX4_bookPart_17 : decode cX4_bookPart 17 = .ok (.putfield 25, 3) := dc_at (f := decode cX4_bookPart) dAX4_bookPart_q0 11 rfl
theorem dX4_bookPart_20 : decode cX4_bookPart 20 = .ok (.aload_n 0, 1) := dc_at (f := decode cX4_bookPart) dAX4_bookPart_q0 12 rfl
theorem dX4_bookPart_21 : decode cX4_bookPart 21 = .ok (.getfield 25, 3) := dc_at (f := decode cX4_bookPart) dAX4_bookPart_q0 13 rfl
theorem dX4_bookPart_24 : decode cX4_bookPart 24 = .ok (.aload_n 0, 1) := dc_at (f := decode cX4_bookPart) dAX4_bookPart_q0 14 rfl
theorem dX4_bookPart_25 : decode cX4_bookPart 25 = .ok (.getfield 16, 3) := dc_at (f := decode cX4_bookPart) dAX4_bookPart_q0 15 rfl
theorem dX4_bookPart_28 : decode cX4_bookPart 28 = .ok (.if_icmp .lt 8, 3) := dc_at (f := decode cX4_bookPart) dAX4_bookPart_q0 16 rfl
theorem dX4_bookPart_31 : decode cX4_bookPart 31 = .ok (.aload_n 0, 1) := dc_at (f := decode cX4_bookPart) dAX4_bookPart_q0 17 rfl
theorem dX4_bookPart_32 : decode cX4_bookPart 32 = .ok (.iconst 2, 1) := dc_at (f := decode cX4_bookPart) dAX4_bookPart_q0 18 rfl
theorem dX4_bookPart_33 : decode cX4_bookPart 33 = .ok (.putfield 9, 3) := dc_at (f := decode cX4_bookPart) dAX4_bookPart_q0 19 rfl
theorem dX4_bookPart_36 : decode cX4_bookPart 36 = .ok (.return_, 1) := dc_at (f := decode cX4_bookPart) dAX4_bookPart_q0 20 rfl
def dPX4_bookPause_q0 : List (Nat × (Jvm.ClassFile.Instr × Nat)) := [(0, (.aload_n 0, 1)), (1, (.dup, 1)), (2, (.getfield 22, 3)), (5, (.iconst 1, 1)), (6, (.iadd, 1)), (7, (.putfield 22, 3)), (10, (.return_, 1))]
theorem dAX4_bookPause_q0 : ∀ x ∈ dPX4_bookPause_q0, decode cX4_bookPause x.1 = .ok x.2 := by decide +kernel
theorem dX4_bookPause_0 : decode cX4_bookPause 0 = .ok (.aload_n 0, 1) := dc_at (f := decode cX4_bookPause) dAX4_bookPause_q0 0 rfl
theorem dX4_bookPause_1 : decode cX4_bookPause 1 = .ok (.dup, 1) := dc_at (f := decode cX4_bookPause) dAX4_bookPause_q0 1 rfl
theorem dX4_bookPause_2 : decode cX4_bookPause 2 = .ok (.getfield 22, 3) := dc_at (f := decode cX4_bookPause) dAX4_bookPause_q0 2 rfl
theorem dX4_bookPause_5 : decode cX4_bookPause 5 = .ok (.iconst 1, 1) := dc_at (f := decode cX4_bookPause) dAX4_bookPause_q0 3 rfl
theorem dX4_bookPause_6 : decode cX4_bookPause 6 = .ok (.iadd, 1) := dc_at (f := decode cX4_bookPause) dAX4_bookPause_q0 4 rfl
theorem dX4_bookPause_7 : decode cX4_bookPause 7 = .ok (.putfield 22, 3) := dc_at (f := decode cX4_bookPause) dAX4_bookPause_q0 5 rfl
theorem dX4_bookPause_10 : decode cX4_bookPause 10 = .ok (.return_, 1) := dc_at (f := decode cX4_bookPause) dAX4_bookPause_q0 6 rfl
def dPX5_init_q0 : List (Nat × (Jvm.ClassFile.Instr × Nat)) := [(0, (.aload_n 0, 1)), (1, (.invokespecial 3, 3)), (4, (.aload_n 0, 1)), (5, (.sipush 250, 3)), (8, (.newarray .int, 2)), (10, (.putfield 9, 3)), (13, (.aload_n 0, 1)), (14, (.sipush 250, 3)), (17, (.newarray .int, 2)), (19, (.putfield 15, 3)), (22, (.aload_n 0, 1)), (23, (.sipush 250, 3)), (26, (.newarray .int, 2)), (28, (.putfield 18, 3)), (31, (.aload_n 0, 1)), (32, (.sipush 250, 3)), (35, (.newarray .boolean, 2)), (37, (.putfield 21, 3)), (40, (.return_, 1))]
theorem dAX5_init_q0 : ∀ x ∈ dPX5_init_q0, decode cX5_init x.1 = .ok x.2 := by decide +kernel
theorem dX5_init_0 : decode cX5_init 0 = .ok (.aload_n 0, 1) := dc_at (f := decode cX5_init) dAX5_init_q0 0 rfl
theorem dX5_init_1 : decode cX5_init 1 = .ok (.invokespecial 3, 3) := dc_at (f := decode cX5_init) dAX5_init_q0 1 rfl
theorem dX5_init_4 : decode cX5_init 4 = .ok (.aload_n 0, 1) := dc_at (f := decode cX5_init) dAX5_init_q0 2 rfl
theorem dX5_init_5 : decode cX5_init 5 = .ok (.sipush 250, 3) := dc_at (f := decode cX5_init) dAX5_init_q0 3 rfl
theorem dX5_init_8 : decode cX5_init 8 = .ok (.newarray .int, 2) := dc_at (f := decode cX5_init) dAX5_init_q0 4 rfl
theorem dX5_init_10 : decode cX5_init 10 = .ok (.putfield 9, 3) := dc_at (f := decode cX5_init) dAX5_init_q0 5 rfl
theorem dX5_init_13 : decode cX5_init 13 = .ok (.aload_n 0, 1) := dc_at (f := decode cX5_init) dAX5_init_q0 6 rfl
theorem dX5_init_14 : decode cX5_init 14 = .ok (.sipush 250, 3) := dc_at (f := decode cX5_init) dAX5_init_q0 7 rfl
theorem dX5_init_17 : decode cX5_init 17 = .ok (.newarray .int, 2) := dc_at (f := decode cX5_init) dAX5_init_q0 8 rfl
theorem dX5_init_19 : decode cX5_init 19 = .ok (.putfield 15, 3) := dc_at (f := decode cX5_init) dAX5_init_q0 9 rfl
theorem dX5_init_22 : decode cX5_init 22 = .ok (.aload_n 0, 1) := dc_at (f := decode cX5_init) dAX5_init_q0 10 rfl
theorem dX5_init_23 : decode cX5_init 23 = .ok (.sipush 250, 3) := dc_at (f := decode cX5_init) dAX5_init_q0 11 rfl
theorem dX5_init_26 : decode cX5_init 26 = .ok (.newarray .int, 2) := dc_at (f := decode cX5_init) dAX5_init_q0 12 rfl
theorem dX5_init_28 : decode cX5_init 28 = .ok (.putfield 18, 3) := dc_at (f := decode cX5_init) dAX5_init_q0 13 rfl
theorem dX5_init_31 : decode cX5_init 31 = .ok (.aload_n 0, 1) := dc_at (f := decode cX5_init) dAX5_init_q0 14 rfl
theorem dX5_init_32 : decode cX5_init 32 = .ok (.sipush 250, 3) := dc_at (f := decode cX5_init) dAX5_init_q0 15 rfl
theorem dX5_init_35 : decode cX5_init 35 = .ok (.newarray .boolean, 2) := dc_at (f := decode cX5_init) dAX5_init_q0 16 rfl
theorem dX5_init_37 : decode cX5_init 37 = .ok (.putfield 21, 3) := dc_at (f := decode cX5_init) dAX5_init_q0 17 rfl
theorem dX5_init_40 : decode cX5_init 40 = .ok (.return_, 1) := dc_at (f := decode cX5_init) dAX5_init_q0 18 rfl
def dPX5_size_q0 : List (Nat × (Jvm.ClassFile.Instr × Nat)) := [(0, (.aload_n 0, 1)), (1, (.getfield 25, 3)), (4, (.ireturn, 1))]
theorem dAX5_size_q0 : ∀ x ∈ dPX5_size_q0, decode cX5_size x.1 = .ok x.2 := by decide +kernel
theorem dX5_size_0 : decode cX5_size 0 = .ok (.aload_n 0, 1) := dc_at (f := decode cX5_size) dAX5_size_q0 0 rfl
theorem dX5_size_1 : decode cX5_size 1 = .ok (.getfield 25, 3) := dc_at (f := decode cX5_size) dAX5_size_q0 1 rfl
theorem dX5_size_4 : decode cX5_size 4 = .ok (.ireturn, 1) := dc_at (f := decode cX5_size) dAX5_size_q0 2 rfl
def dPX5_total_q0 : List (Nat × (Jvm.ClassFile.Instr × Nat)) := [(0, (.aload_n 0, 1)), (1, (.getfield 29, 3)), (4, (.lreturn, 1))]
theorem dAX5_total_q0 : ∀ x ∈ dPX5_total_q0, decode cX5_total x.1 = .ok x.2 := by decide +kernel
theorem dX5_total_0 : decode cX5_total 0 = .ok (.aload_n 0, 1) := dc_at (f := decode cX5_total) dAX5_total_q0 0 rfl
theorem dX5_total_1 : decode cX5_total 1 = .ok (.getfield 29, 3) := dc_at (f := decode cX5_total) dAX5_total_q0 1 rfl
theorem dX5_total_4 : decode cX5_total 4 = .ok (.lreturn, 1) := dc_at (f := decode cX5_total) dAX5_total_q0 2 rfl
def dPX5_isFull_q0 : List (Nat × (Jvm.ClassFile.Instr × Nat)) := [(0, (.aload_n 0, 1)), (1, (.getfield 25, 3)), (4, (.sipush 250, 3)), (7, (.if_icmp .lt 7, 3)), (10, (.iconst 1, 1)), (11, (.goto 4, 3)), (14, (.iconst 0, 1)), (15, (.ireturn, 1))]
theorem dAX5_isFull_q0 : ∀ x ∈ dPX5_isFull_q0, decode cX5_isFull x.1 = .ok x.2 := by decide +kernel
theorem dX5_isFull_0 : decode cX5_isFull 0 = .ok (.aload_n 0, 1) := dc_at (f := decode cX5_isFull) dAX5_isFull_q0 0 rfl
theorem dX5_isFull_1 : decode cX5_isFull 1 = .ok (.getfield 25, 3) := dc_at (f := decode cX5_isFull) dAX5_isFull_q0 1 rfl
theorem dX5_isFull_4 : decode cX5_isFull 4 = .ok (.sipush 250, 3) := dc_at (f := decode cX5_isFull) dAX5_isFull_q0 2 rfl
theorem dX5_isFull_7 : decode cX5_isFull 7 = .ok (.if_icmp .lt 7, 3) := dc_at (f := decode cX5_isFull) dAX5_isFull_q0 3 rfl
theorem dX5_isFull_10 : decode cX5_isFull 10 = .ok (.iconst 1, 1) := dc_at (f := decode cX5_isFull) dAX5_isFull_q0 4 rfl
theorem dX5_isFull_11 : decode cX5_isFull 11 = .ok (.goto 4, 3) := dc_at (f := decode cX5_isFull) dAX5_isFull_q0 5 rfl
theorem dX5_isFull_14 : decode cX5_isFull 14 = .ok (.iconst 0, 1) := dc_at (f := decode cX5_isFull) dAX5_isFull_q0 6 rfl
theorem dX5_isFull_15 : decode cX5_isFull 15 = .ok (.ireturn, 1) := dc_at (f := decode cX5_isFull) dAX5_isFull_q0 7 rfl
def dPX5_add_q0 : List (Nat × (Jvm.ClassFile.Instr × Nat)) := [(0, (.aload_n 0, 1)), (1, (.getfield 25, 3)), (4, (.ifCond .lt 64, 3)), (7, (.aload_n 0, 1)), (8, (.getfield 25, 3)), (11, (.sipush 250, 3)), (14, (.if_icmp .ge 54, 3)), (17, (.aload_n 0, 1)), (18, (.getfield 9, 3)), (21, (.aload_n 0, 1)), (22, (.getfield 25, 3)), (25, (.iload_n 1, 1)), (26, (.iastore, 1)), (27, (.aload_n 0, 1)), (28, (.getfield 15, 3)), (31, (.aload_n 0, 1)), (32, (.getfield 25, 3)), (35, (.iload_n 2, 1)), (36, (.iastore, 1)), (37, (.aload_n 0, 1)), (38, (.getfield 18, 3)), (41, (.aload_n 0, 1)), (42, (.getfield 25, 3)), (45, (.iload_n 3, 1)), (46, (.iastore, 1)), (47, (.aload_n 0, 1)), (48, (.dup, 1)), (49, (.getfield 25, 3)), (52, (.iconst 1, 1)), (53, (.iadd, 1)), (54, (.putfield 25, 3)), (57, (.aload_n 0, 1)), (58, (.dup, 1)), (59, (.getfield 29, 3)), (62, (.iload_n 2, 1)), (63, (.i2l, 1)), (64, (.ladd, 1)), (65, (.putfield 29, 3)), (68, (.return_, 1))]
theorem dAX5_add_q0 : ∀ x ∈ dPX5_add_q0, decode cX5_add x.1 = .ok x.2 := by decide +kernel
theorem dX5_add_0 : decode cX5_add 0 = .ok (.aload_n 0, 1) := dc_at (f := decode cX5_add) dAX5_add_q0 0 rfl
theorem dX5_add_1 : decode cX5_add 1 = .ok (.getfield 25, 3) := dc_at (f := decode cX5_add) dAX5_add_q0 1 rfl
theorem dX5_add_4 : decode cX5_add 4 = .ok (.ifCond .lt 64, 3) := dc_at (f := decode cX5_add) dAX5_add_q0 2 rfl
theorem dX5_add_7 : decode cX5_add 7 = .ok (.aload_n 0, 1) := dc_at (f := decode cX5_add) dAX5_add_q0 3 rfl
theorem dX5_add_8 : decode cX5_add 8 = .ok (.getfield 25, 3) := dc_at (f := decode cX5_add) dAX5_add_q0 4 rfl
theorem dX5_add_11 : decode cX5_add 11 = .ok (.sipush 250, 3) := dc_at (f := decode cX5_add) dAX5_add_q0 5 rfl
theorem dX5_add_14 : decode cX5_add 14 = .ok (.if_icmp .ge 54, 3) := dc_at (f := decode cX5_add) dAX5_add_q0 6 rfl
theorem dX5_add_17 : decode cX5_add 17 = .ok (.aload_n 0, 1) := dc_at (f := decode cX5_add) dAX5_add_q0 7 rfl
theorem dX5_add_18 : decode cX5_add 18 = .ok (.getfield 9, 3) := dc_at (f := decode cX5_add) dAX5_add_q0 8 rfl
theorem dX5_add_21 : decode cX5_add 21 = .ok (.aload_n 0, 1) := dc_at (f := decode cX5_add) dAX5_add_q0 9 rfl
theorem dX5_add_22 : decode cX5_add 22 = .ok (.getfield 25, 3) := dc_at (f := decode cX5_add) dAX5_add_q0 10 rfl
theorem dX5_add_25 : decode cX5_add 25 = .ok (.iload_n 1, 1) := dc_at (f := decode cX5_add) dAX5_add_q0 11 rfl
theorem dX5_add_26 : decode cX5_add 26 = .ok (.iastore, 1) := dc_at (f := decode cX5_add) dAX5_add_q0 12 rfl
theorem dX5_add_27 : decode cX5_add 27 = .ok (.aload_n 0, 1) := dc_at (f := decode cX5_add) dAX5_add_q0 13 rfl
theorem dX5_add_28 : decode cX5_add 28 = .ok (.getfield 15, 3) := dc_at (f := decode cX5_add) dAX5_add_q0 14 rfl
theorem dX5_add_31 : decode cX5_add 31 = .ok (.aload_n 0, 1) := dc_at (f := decode cX5_add) dAX5_add_q0 15 rfl
theorem dX5_add_32 : decode cX5_add 32 = .ok (.getfield 25, 3) := dc_at (f := decode cX5_add) dAX5_add_q0 16 rfl
theorem dX5_add_35 : decode cX5_add 35 = .ok (.iload_n 2, 1) := dc_at (f := decode cX5_add) dAX5_add_q0 17 rfl
theorem dX5_add_36 : decode cX5_add 36 = .ok (.iastore, 1) := dc_at (f := decode cX5_add) dAX5_add_q0 18 rfl
theorem dX5_add_37 : decode cX5_add 37 = .ok (.aload_n 0, 1) := dc_at (f := decode cX5_add) dAX5_add_q0 19 rfl
theorem dX5_add_38 : decode cX5_add 38 = .ok (.getfield 18, 3) := dc_at (f := decode cX5_add) dAX5_add_q0 20 rfl
theorem dX5_add_41 : decode cX5_add 41 = .ok (.aload_n 0, 1) := dc_at (f := decode cX5_add) dAX5_add_q0 21 rfl
theorem dX5_add_42 : decode cX5_add 42 = .ok (.getfield 25, 3) := dc_at (f := decode cX5_add) dAX5_add_q0 22 rfl
theorem dX5_add_45 : decode cX5_add 45 = .ok (.iload_n 3, 1) := dc_at (f := decode cX5_add) dAX5_add_q0 23 rfl
theorem dX5_add_46 : decode cX5_add 46 = .ok (.iastore, 1) := dc_at (f := decode cX5_add) dAX5_add_q0 24 rfl
theorem dX5_add_47 : decode cX5_add 47 = .ok (.aload_n 0, 1) := dc_at (f := decode cX5_add) dAX5_add_q0 25 rfl
theorem dX5_add_48 : decode cX5_add 48 = .ok (.dup, 1) := dc_at (f := decode cX5_add) dAX5_add_q0 26 rfl
theorem dX5_add_49 : decode cX5_add 49 = .ok (.getfield 25, 3) := dc_at (f := decode cX5_add) dAX5_add_q0 27 rfl
theorem dX5_add_52 : decode cX5_add 52 = .ok (.iconst 1, 1) := dc_at (f := decode cX5_add) dAX5_add_q0 28 rfl
theorem dX5_add_53 : decode cX5_add 53 = .ok (.iadd, 1) := dc_at (f := decode cX5_add) dAX5_add_q0 29 rfl
theorem dX5_add_54 : decode cX5_add 54 = .ok (.putfield 25, 3) := dc_at (f := decode cX5_add) dAX5_add_q0 30 rfl
theorem dX5_add_57 : decode cX5_add 57 = .ok (.aload_n 0, 1) := dc_at (f := decode cX5_add) dAX5_add_q0 31 rfl
theorem dX5_add_58 : decode cX5_add 58 = .ok (.dup, 1) := dc_at (f := decode cX5_add) dAX5_add_q0 32 rfl
theorem dX5_add_59 : decode cX5_add 59 = .ok (.getfield 29, 3) := dc_at (f := decode cX5_add) dAX5_add_q0 33 rfl
theorem dX5_add_62 : decode cX5_add 62 = .ok (.iload_n 2, 1) := dc_at (f := decode cX5_add) dAX5_add_q0 34 rfl
theorem dX5_add_63 : decode cX5_add 63 = .ok (.i2l, 1) := dc_at (f := decode cX5_add) dAX5_add_q0 35 rfl
theorem dX5_add_64 : decode cX5_add 64 = .ok (.ladd, 1) := dc_at (f := decode cX5_add) dAX5_add_q0 36 rfl
theorem dX5_add_65 : decode cX5_add 65 = .ok (.putfield 29, 3) := dc_at (f := decode cX5_add) dAX5_add_q0 37 rfl
theorem dX5_add_68 : decode cX5_add 68 = .ok (.return_, 1) := dc_at (f := decode cX5_add) dAX5_add_q0 38 rfl
def dPX5_giverOf_q0 : List (Nat × (Jvm.ClassFile.Instr × Nat)) := [(0, (.iload_n 1, 1)), (1, (.ifCond .lt 27, 3)), (4, (.iload_n 1, 1)), (5, (.aload_n 0, 1)), (6, (.getfield 25, 3)), (9, (.if_icmp .ge 19, 3)), (12, (.iload_n 1, 1)), (13, (.sipush 250, 3)), (16, (.if_icmp .ge 12, 3)), (19, (.aload_n 0, 1)), (20, (.getfield 9, 3)), (23, (.iload_n 1, 1)), (24, (.iaload, 1)), (25, (.goto 4, 3)), (28, (.iconst (-1), 1)), (29, (.ireturn, 1))]
theorem dAX5_giverOf_q0 : ∀ x ∈ dPX5_giverOf_q0, decode cX5_giverOf x.1 = .ok x.2 := by decide +kernel
theorem dX5_giverOf_0 : decode cX5_giverOf 0 = .ok (.iload_n 1, 1) := dc_at (f := decode cX5_giverOf) dAX5_giverOf_q0 0 rfl
theorem dX5_giverOf_1 : decode cX5_giverOf 1 = .ok (.ifCond .lt 27, 3) := dc_at (f := decode cX5_giverOf) dAX5_giverOf_q0 1 rfl
theorem dX5_giverOf_4 : decode cX5_giverOf 4 = .ok (.iload_n 1, 1) := dc_at (f := decode cX5_giverOf) dAX5_giverOf_q0 2 rfl
theorem dX5_giverOf_5 : decode cX5_giverOf 5 = .ok (.aload_n 0, 1) := dc_at (f := decode cX5_giverOf) dAX5_giverOf_q0 3 rfl
theorem dX5_giverOf_6 : decode cX5_giverOf 6 = .ok (.getfield 25, 3) := dc_at (f := decode cX5_giverOf) dAX5_giverOf_q0 4 rfl
theorem dX5_giverOf_9 : decode cX5_giverOf 9 = .ok (.if_icmp .ge 19, 3) := dc_at (f := decode cX5_giverOf) dAX5_giverOf_q0 5 rfl
theorem dX5_giverOf_12 : decode cX5_giverOf 12 = .ok (.iload_n 1, 1) := dc_at (f := decode cX5_giverOf) dAX5_giverOf_q0 6 rfl
theorem dX5_giverOf_13 : decode cX5_giverOf 13 = .ok (.sipush 250, 3) := dc_at (f := decode cX5_giverOf) dAX5_giverOf_q0 7 rfl
theorem dX5_giverOf_16 : decode cX5_giverOf 16 = .ok (.if_icmp .ge 12, 3) := dc_at (f := decode cX5_giverOf) dAX5_giverOf_q0 8 rfl
theorem dX5_giverOf_19 : decode cX5_giverOf 19 = .ok (.aload_n 0, 1) := dc_at (f := decode cX5_giverOf) dAX5_giverOf_q0 9 rfl
theorem dX5_giverOf_20 : decode cX5_giverOf 20 = .ok (.getfield 9, 3) := dc_at (f := decode cX5_giverOf) dAX5_giverOf_q0 10 rfl
theorem dX5_giverOf_23 : decode cX5_giverOf 23 = .ok (.iload_n 1, 1) := dc_at (f := decode cX5_giverOf) dAX5_giverOf_q0 11 rfl
theorem dX5_giverOf_24 : decode cX5_giverOf 24 = .ok (.iaload, 1) := dc_at (f := decode cX5_giverOf) dAX5_giverOf_q0 12 rfl
theorem dX5_giverOf_25 : decode cX5_giverOf 25 = .ok (.goto 4, 3) := dc_at (f := decode cX5_giverOf) dAX5_giverOf_q0 13 rfl
theorem dX5_giverOf_29 : decode cX5_giverOf 29 = .ok (.ireturn, 1) := dc_at (f := decode cX5_giverOf) dAX5_giverOf_q0 15 rfl
def dPX5_penceOf_q0 : List (Nat × (Jvm.ClassFile.Instr × Nat)) := [(0, (.iload_n 1, 1)), (1, (.ifCond .lt 27, 3)), (4, (.iload_n 1, 1)), (5, (.aload_n 0, 1)), (6, (.getfield 25, 3)), (9, (.if_icmp .ge 19, 3)), (12, (.iload_n 1, 1)), (13, (.sipush 250, 3)), (16, (.if_icmp .ge 12, 3)), (19, (.aload_n 0, 1)), (20, (.getfield 15, 3)), (23, (.iload_n 1, 1)), (24, (.iaload, 1)), (25, (.goto 4, 3)), (28, (.iconst 0, 1)), (29, (.ireturn, 1))]
theorem dAX5_penceOf_q0 : ∀ x ∈ dPX5_penceOf_q0, decode cX5_penceOf x.1 = .ok x.2 := by decide +kernel
theorem dX5_penceOf_0 : decode cX5_penceOf 0 = .ok (.iload_n 1, 1) := dc_at (f := decode cX5_penceOf) dAX5_penceOf_q0 0 rfl
theorem dX5_penceOf_1 : decode cX5_penceOf 1 = .ok (.ifCond .lt 27, 3) := dc_at (f := decode cX5_penceOf) dAX5_penceOf_q0 1 rfl
theorem dX5_penceOf_4 : decode cX5_penceOf 4 = .ok (.iload_n 1, 1) := dc_at (f := decode cX5_penceOf) dAX5_penceOf_q0 2 rfl
theorem dX5_penceOf_5 : decode cX5_penceOf 5 = .ok (.aload_n 0, 1) := dc_at (f := decode cX5_penceOf) dAX5_penceOf_q0 3 rfl
theorem dX5_penceOf_6 : decode cX5_penceOf 6 = .ok (.getfield 25, 3) := dc_at (f := decode cX5_penceOf) dAX5_penceOf_q0 4 rfl
theorem dX5_penceOf_9 : decode cX5_penceOf 9 = .ok (.if_icmp .ge 19, 3) := dc_at (f := decode cX5_penceOf) dAX5_penceOf_q0 5 rfl
theorem dX5_penceOf_12 : decode cX5_penceOf 12 = .ok (.iload_n 1, 1) := dc_at (f := decode cX5_penceOf) dAX5_penceOf_q0 6 rfl
theorem dX5_penceOf_13 : decode cX5_penceOf 13 = .ok (.sipush 250, 3) := dc_at (f := decode cX5_penceOf) dAX5_penceOf_q0 7 rfl
theorem dX5_penceOf_16 : decode cX5_penceOf 16 = .ok (.if_icmp .ge 12, 3) := dc_at (f := decode cX5_penceOf) dAX5_penceOf_q0 8 rfl
theorem dX5_penceOf_19 : decode cX5_penceOf 19 = .ok (.aload_n 0, 1) := dc_at (f := decode cX5_penceOf) dAX5_penceOf_q0 9 rfl
theorem dX5_penceOf_20 : decode cX5_penceOf 20 = .ok (.getfield 15, 3) := dc_at (f := decode cX5_penceOf) dAX5_penceOf_q0 10 rfl
theorem dX5_penceOf_23 : decode cX5_penceOf 23 = .ok (.iload_n 1, 1) := dc_at (f := decode cX5_penceOf) dAX5_penceOf_q0 11 rfl
theorem dX5_penceOf_24 : decode cX5_penceOf 24 = .ok (.iaload, 1) := dc_at (f := decode cX5_penceOf) dAX5_penceOf_q0 12 rfl
theorem dX5_penceOf_25 : decode cX5_penceOf 25 = .ok (.goto 4, 3) := dc_at (f := decode cX5_penceOf) dAX5_penceOf_q0 13 rfl
theorem dX5_penceOf_29 : decode cX5_penceOf 29 = .ok (.ireturn, 1) := dc_at (f := decode cX5_penceOf) dAX5_penceOf_q0 15 rfl
def dPX5_givenBy_q0 : List (Nat × (Jvm.ClassFile.Instr × Nat)) := [(0, (.iconst 0, 1)), (1, (.istore_n 2, 1)), (2, (.iconst 0, 1)), (3, (.istore_n 3, 1)), (4, (.iload_n 3, 1)), (5, (.aload_n 0, 1)), (6, (.getfield 25, 3)), (9, (.if_icmp .ge 35, 3)), (12, (.iload_n 3, 1)), (13, (.sipush 250, 3)), (16, (.if_icmp .ge 28, 3)), (19, (.aload_n 0, 1)), (20, (.getfield 9, 3)), (23, (.iload_n 3, 1)), (24, (.iaload, 1)), (25, (.iload_n 1, 1)), (26, (.if_icmp .ne 12, 3)), (29, (.iload_n 2, 1)), (30, (.aload_n 0, 1)), (31, (.getfield 15, 3)), (34, (.iload_n 3, 1)), (35, (.iaload, 1)), (36, (.iadd, 1)), (37, (.istore_n 2, 1)), (38, (.iinc 3 1, 3)), (41, (.goto (-37), 3)), (44, (.iload_n 2, 1)), (45, (.ireturn, 1))]
theorem dAX5_givenBy_q0 : ∀ x ∈ dPX5_givenBy_q0, decode cX5_givenBy x.1 = .ok x.2 := by decide +kernel
theorem dX5_givenBy_0 : decode cX5_givenBy 0 = .ok (.iconst 0, 1) := dc_at (f := decode cX5_givenBy) dAX5_givenBy_q0 0 rfl
theorem dX5_givenBy_1 : decode cX5_givenBy 1 = .ok (.istore_n 2, 1) := dc_at (f := decode cX5_givenBy) dAX5_givenBy_q0 1 rfl
theorem dX5_givenBy_2 : decode cX5_givenBy 2 = .ok (.iconst 0, 1) := dc_at (f := decode cX5_givenBy) dAX5_givenBy_q0 2 rfl
theorem dX5_givenBy_3 : decode cX5_givenBy 3 = .ok (.istore_n 3, 1) := dc_at (f := decode cX5_givenBy) dAX5_givenBy_q0 3 rfl
theorem dX5_givenBy_4 : decode cX5_givenBy 4 = .ok (.iload_n 3, 1) := dc_at (f := decode cX5_givenBy) dAX5_givenBy_q0 4 rfl
theorem dX5_givenBy_5 : decode cX5_givenBy 5 = .ok (.aload_n 0, 1) := dc_at (f := decode cX5_givenBy) dAX5_givenBy_q0 5 rfl
theorem dX5_givenBy_6 : decode cX5_givenBy 6 = .ok (.getfield 25, 3) := dc_at (f := decode cX5_givenBy) dAX5_givenBy_q0 6 rfl
theorem dX5_givenBy_9 : decode cX5_givenBy 9 = .ok (.if_icmp .ge 35, 3) := dc_at (f := decode cX5_givenBy) dAX5_givenBy_q0 7 rfl
theorem dX5_givenBy_12 : decode cX5_givenBy 12 = .ok (.iload_n 3, 1) := dc_at (f := decode cX5_givenBy) dAX5_givenBy_q0 8 rfl
theorem dX5_givenBy_13 : decode cX5_givenBy 13 = .ok (.sipush 250, 3) := dc_at (f := decode cX5_givenBy) dAX5_givenBy_q0 9 rfl
theorem dX5_givenBy_16 : decode cX5_givenBy 16 = .ok (.if_icmp .ge 28, 3) := dc_at (f := decode cX5_givenBy) dAX5_givenBy_q0 10 rfl
theorem dX5_givenBy_19 : decode cX5_givenBy 19 = .ok (.aload_n 0, 1) := dc_at (f := decode cX5_givenBy) dAX5_givenBy_q0 11 rfl
theorem dX5_givenBy_20 : decode cX5_givenBy 20 = .ok (.getfield 9, 3) := dc_at (f := decode cX5_givenBy) dAX5_givenBy_q0 12 rfl
theorem dX5_givenBy_23 : decode cX5_givenBy 23 = .ok (.iload_n 3, 1) := dc_at (f := decode cX5_givenBy) dAX5_givenBy_q0 13 rfl
theorem dX5_givenBy_24 : decode cX5_givenBy 24 = .ok (.iaload, 1) := dc_at (f := decode cX5_givenBy) dAX5_givenBy_q0 14 rfl
theorem dX5_givenBy_25 : decode cX5_givenBy 25 = .ok (.iload_n 1, 1) := dc_at (f := decode cX5_givenBy) dAX5_givenBy_q0 15 rfl
theorem dX5_givenBy_26 : decode cX5_givenBy 26 = .ok (.if_icmp .ne 12, 3) := dc_at (f := decode cX5_givenBy) dAX5_givenBy_q0 16 rfl
theorem dX5_givenBy_29 : decode cX5_givenBy 29 = .ok (.iload_n 2, 1) := dc_at (f := decode cX5_givenBy) dAX5_givenBy_q0 17 rfl
theorem dX5_givenBy_30 : decode cX5_givenBy 30 = .ok (.aload_n 0, 1) := dc_at (f := decode cX5_givenBy) dAX5_givenBy_q0 18 rfl
theorem dX5_givenBy_31 : decode cX5_givenBy 31 = .ok (.getfield 15, 3) := dc_at (f := decode cX5_givenBy) dAX5_givenBy_q0 19 rfl
theorem dX5_givenBy_34 : decode cX5_givenBy 34 = .ok (.iload_n 3, 1) := dc_at (f := decode cX5_givenBy) dAX5_givenBy_q0 20 rfl
theorem dX5_givenBy_35 : decode cX5_givenBy 35 = .ok (.iaload, 1) := dc_at (f := decode cX5_givenBy) dAX5_givenBy_q0 21 rfl
theorem dX5_givenBy_36 : decode cX5_givenBy 36 = .ok (.iadd, 1) := dc_at (f := decode cX5_givenBy) dAX5_givenBy_q0 22 rfl
theorem dX5_givenBy_37 : decode cX5_givenBy 37 = .ok (.istore_n 2, 1) := dc_at (f := decode cX5_givenBy) dAX5_givenBy_q0 23 rfl
theorem dX5_givenBy_38 : decode cX5_givenBy 38 = .ok (.iinc 3 1, 3) := dc_at (f := decode cX5_givenBy) dAX5_givenBy_q0 24 rfl
theorem dX5_givenBy_41 : decode cX5_givenBy 41 = .ok (.goto (-37), 3) := dc_at (f := decode cX5_givenBy) dAX5_givenBy_q0 25 rfl
theorem dX5_givenBy_44 : decode cX5_givenBy 44 = .ok (.iload_n 2, 1) := dc_at (f := decode cX5_givenBy) dAX5_givenBy_q0 26 rfl
theorem dX5_givenBy_45 : decode cX5_givenBy 45 = .ok (.ireturn, 1) := dc_at (f := decode cX5_givenBy) dAX5_givenBy_q0 27 rfl
def dPX5_unclaimedOf_q0 : List (Nat × (Jvm.ClassFile.Instr × Nat)) := [(0, (.iconst 0, 1)), (1, (.istore_n 2, 1)), (2, (.iconst 0, 1)), (3, (.istore_n 3, 1)), (4, (.iload_n 3, 1)), (5, (.aload_n 0, 1)), (6, (.getfield 25, 3)), (9, (.if_icmp .ge 44, 3)), (12, (.iload_n 3, 1)), (13, (.sipush 250, 3)), (16, (.if_icmp .ge 37, 3)), (19, (.aload_n 0, 1)), (20, (.getfield 9, 3)), (23, (.iload_n 3, 1)), (24, (.iaload, 1)), (25, (.iload_n 1, 1)), (26, (.if_icmp .ne 21, 3)), (29, (.aload_n 0, 1)), (30, (.getfield 21, 3)), (33, (.iload_n 3, 1)), (34, (.baload, 1)), (35, (.ifCond .ne 12, 3)), (38, (.iload_n 2, 1)), (39, (.aload_n 0, 1)), (40, (.getfield 15, 3)), (43, (.iload_n 3, 1)), (44, (.iaload, 1)), (45, (.iadd, 1)), (46, (.istore_n 2, 1)), (47, (.iinc 3 1, 3)), (50, (.goto (-46), 3)), (53, (.iload_n 2, 1)), (54, (.ireturn, 1))]
theorem dAX5_unclaimedOf_q0 : ∀ x ∈ dPX5_unclaimedOf_q0, decode cX5_unclaimedOf x.1 = .ok x.2 := by decide +kernel
theorem dX5_unclaimedOf_0 : decode cX5_unclaimedOf 0 = .ok (.iconst 0, 1) := dc_at (f := decode cX5_unclaimedOf) dAX5_unclaimedOf_q0 0 rfl
theorem dX5_unclaimedOf_1 : decode cX5_unclaimedOf 1 = .ok (.istore_n 2, 1) := dc_at (f := decode cX5_unclaimedOf) dAX5_unclaimedOf_q0 1 rfl
theorem dX5_unclaimedOf_2 : decode cX5_unclaimedOf 2 = .ok (.iconst 0, 1) := dc_at (f := decode cX5_unclaimedOf) dAX5_unclaimedOf_q0 2 rfl
theorem dX5_unclaimedOf_3 : decode cX5_unclaimedOf 3 = .ok (.istore_n 3, 1) := dc_at (f := decode cX5_unclaimedOf) dAX5_unclaimedOf_q0 3 rfl
theorem dX5_unclaimedOf_4 : decode cX5_unclaimedOf 4 = .ok (.iload_n 3, 1) := dc_at (f := decode cX5_unclaimedOf) dAX5_unclaimedOf_q0 4 rfl
theorem dX5_unclaimedOf_5 : decode cX5_unclaimedOf 5 = .ok (.aload_n 0, 1) := dc_at (f := decode cX5_unclaimedOf) dAX5_unclaimedOf_q0 5 rfl
theorem dX5_unclaimedOf_6 : decode cX5_unclaimedOf 6 = .ok (.getfield 25, 3) := dc_at (f := decode cX5_unclaimedOf) dAX5_unclaimedOf_q0 6 rfl
theorem dX5_unclaimedOf_9 : decode cX5_unclaimedOf 9 = .ok (.if_icmp .ge 44, 3) := dc_at (f := decode cX5_unclaimedOf) dAX5_unclaimedOf_q0 7 rfl
theorem dX5_unclaimedOf_12 : decode cX5_unclaimedOf 12 = .ok (.iload_n 3, 1) := dc_at (f := decode cX5_unclaimedOf) dAX5_unclaimedOf_q0 8 rfl
theorem dX5_unclaimedOf_13 : decode cX5_unclaimedOf 13 = .ok (.sipush 250, 3) := dc_at (f := decode cX5_unclaimedOf) dAX5_unclaimedOf_q0 9 rfl
theorem dX5_unclaimedOf_16 : decode cX5_unclaimedOf 16 = .ok (.if_icmp .ge 37, 3) := dc_at (f := decode cX5_unclaimedOf) dAX5_unclaimedOf_q0 10 rfl
theorem dX5_unclaimedOf_19 : decode cX5_unclaimedOf 19 = .ok (.aload_n 0, 1) := dc_at (f := decode cX5_unclaimedOf) dAX5_unclaimedOf_q0 11 rfl
theorem dX5_unclaimedOf_20 : decode cX5_unclaimedOf 20 = .ok (.getfield 9, 3) := dc_at (f := decode cX5_unclaimedOf) dAX5_unclaimedOf_q0 12 rfl
theorem dX5_unclaimedOf_23 : decode cX5_unclaimedOf 23 = .ok (.iload_n 3, 1) := dc_at (f := decode cX5_unclaimedOf) dAX5_unclaimedOf_q0 13 rfl
theorem dX5_unclaimedOf_24 : decode cX5_unclaimedOf 24 = .ok (.iaload, 1) := dc_at (f := decode cX5_unclaimedOf) dAX5_unclaimedOf_q0 14 rfl
theorem dX5_unclaimedOf_25 : decode cX5_unclaimedOf 25 = .ok (.iload_n 1, 1) := dc_at (f := decode cX5_unclaimedOf) dAX5_unclaimedOf_q0 15 rfl
theorem dX5_unclaimedOf_26 : decode cX5_unclaimedOf 26 = .ok (.if_icmp .ne 21, 3) := dc_at (f := decode cX5_unclaimedOf) dAX5_unclaimedOf_q0 16 rfl
theorem dX5_unclaimedOf_29 : decode cX5_unclaimedOf 29 = .ok (.aload_n 0, 1) := dc_at (f := decode cX5_unclaimedOf) dAX5_unclaimedOf_q0 17 rfl
theorem dX5_unclaimedOf_30 : decode cX5_unclaimedOf 30 = .ok (.getfield 21, 3) := dc_at (f := decode cX5_unclaimedOf) dAX5_unclaimedOf_q0 18 rfl
theorem dX5_unclaimedOf_33 : decode cX5_unclaimedOf 33 = .ok (.iload_n 3, 1) := dc_at (f := decode cX5_unclaimedOf) dAX5_unclaimedOf_q0 19 rfl
theorem dX5_unclaimedOf_34 : decode cX5_unclaimedOf 34 = .ok (.baload, 1) := dc_at (f := decode cX5_unclaimedOf) dAX5_unclaimedOf_q0 20 rfl
theorem dX5_unclaimedOf_35 : decode cX5_unclaimedOf 35 = .ok (.ifCond .ne 12, 3) := dc_at (f := decode cX5_unclaimedOf) dAX5_unclaimedOf_q0 21 rfl
theorem dX5_unclaimedOf_38 : decode cX5_unclaimedOf 38 = .ok (.iload_n 2, 1) := dc_at (f := decode cX5_unclaimedOf) dAX5_unclaimedOf_q0 22 rfl
theorem dX5_unclaimedOf_39 : decode cX5_unclaimedOf 39 = .ok (.aload_n 0, 1) := dc_at (f := decode cX5_unclaimedOf) dAX5_unclaimedOf_q0 23 rfl
theorem dX5_unclaimedOf_40 : decode cX5_unclaimedOf 40 = .ok (.getfield 15, 3) := dc_at (f := decode cX5_unclaimedOf) dAX5_unclaimedOf_q0 24 rfl
theorem dX5_unclaimedOf_43 : decode cX5_unclaimedOf 43 = .ok (.iload_n 3, 1) := dc_at (f := decode cX5_unclaimedOf) dAX5_unclaimedOf_q0 25 rfl
theorem dX5_unclaimedOf_44 : decode cX5_unclaimedOf 44 = .ok (.iaload, 1) := dc_at (f := decode cX5_unclaimedOf) dAX5_unclaimedOf_q0 26 rfl
theorem dX5_unclaimedOf_45 : decode cX5_unclaimedOf 45 = .ok (.iadd, 1) := dc_at (f := decode cX5_unclaimedOf) dAX5_unclaimedOf_q0 27 rfl
theorem dX5_unclaimedOf_46 : decode cX5_unclaimedOf 46 = .ok (.istore_n 2, 1) := dc_at (f := decode cX5_unclaimedOf) dAX5_unclaimedOf_q0 28 rfl
theorem dX5_unclaimedOf_47 : decode cX5_unclaimedOf 47 = .ok (.iinc 3 1, 3) := dc_at (f := decode cX5_unclaimedOf) dAX5_unclaimedOf_q0 29 rfl
theorem dX5_unclaimedOf_50 : decode cX5_unclaimedOf 50 = .ok (.goto (-46), 3) := dc_at (f := decode cX5_unclaimedOf) dAX5_unclaimedOf_q0 30 rfl
theorem dX5_unclaimedOf_53 : decode cX5_unclaimedOf 53 = .ok (.iload_n 2, 1) := dc_at (f := decode cX5_unclaimedOf) dAX5_unclaimedOf_q0 31 rfl
theorem dX5_unclaimedOf_54 : decode cX5_unclaimedOf 54 = .ok (.ireturn, 1) := dc_at (f := decode cX5_unclaimedOf) dAX5_unclaimedOf_q0 32 rfl
def dPX5_claimTax_q0 : List (Nat × (Jvm.ClassFile.Instr × Nat)) := [(0, (.iload_n 1, 1)), (1, (.ifCond .ne 5, 3)), (4, (.iconst 0, 1)), (5, (.ireturn, 1)), (6, (.lconst 0, 1)), (7, (.lstore_n 3, 1)), (8, (.iconst 0, 1)), (9, (.istore 5, 2)), (11, (.iload 5, 2)), (13, (.aload_n 0, 1)), (14, (.getfield 25, 3)), (17, (.if_icmp .ge 74, 3)), (20, (.iload 5, 2)), (22, (.sipush 250, 3)), (25, (.if_icmp .ge 66, 3)), (28, (.aload_n 0, 1)), (29, (.getfield 21, 3)), (32, (.iload 5, 2)), (34, (.baload, 1)), (35, (.ifCond .ne 50, 3)), (38, (.aload_n 2, 1)), (39, (.aload_n 0, 1)), (40, (.getfield 9, 3)), (43, (.iload 5, 2)), (45, (.iaload, 1)), (46, (.aload_n 0, 1)), (47, (.getfield 18, 3)), (50, (.iload 5, 2)), (52, (.iaload, 1)), (53, (.invokevirtual 33, 3)), (56, (.ifCond .eq 29, 3)), (59, (.aload_n 0, 1)), (60, (.getfield 21, 3)), (63, (.iload 5, 2)), (65, (.iconst 1, 1)), (66, (.bastore, 1)), (67, (.lload_n 3, 1)), (68, (.aload_n 0, 1)), (69, (.getfield 15, 3)), (72, (.iload 5, 2)), (74, (.iaload, 1)), (75, (.i2l, 1)), (76, (.iload_n 1, 1)), (77, (.i2l, 1)), (78, (.lmul, 1)), (79, (.ldc2_w 39, 3)), (82, (.ldiv, 1)), (83, (.ladd, 1))]
theorem dAX5_claimTax_q0 : ∀ x ∈ dPX5_claimTax_q0, decode cX5_claimTax x.1 = .ok x.2 := by decide +kernel
theorem dX5_claimTax_0 : decode cX5_claimTax 0 = .ok (.iload_n 1, 1) := dc_at (f := decode cX5_claimTax) dAX5_claimTax_q0 0 rfl
theorem dX5_claimTax_1 : decode cX5_claimTax 1 = .ok (.ifCond .ne 5, 3) := dc_at (f := decode cX5_claimTax) dAX5_claimTax_q0 1 rfl
theorem dX5_claimTax_4 : decode cX5_claimTax 4 = .ok (.iconst 0, 1) := dc_at (f := decode cX5_claimTax) dAX5_claimTax_q0 2 rfl
theorem dX5_claimTax_5 : decode cX5_claimTax 5 = .ok (.ireturn, 1) := dc_at (f := decode cX5_claimTax) dAX5_claimTax_q0 3 rfl
theorem dX5_claimTax_6 : decode cX5_claimTax 6 = .ok (.lconst 0, 1) := dc_at (f := decode cX5_claimTax) dAX5_claimTax_q0 4 rfl
theorem dX5_claimTax_7 : decode cX5_claimTax 7 = .ok (.lstore_n 3, 1) := dc_at (f := decode cX5_claimTax) dAX5_claimTax_q0 5 rfl
theorem dX5_claimTax_8 : decode cX5_claimTax 8 = .ok (.iconst 0, 1) := dc_at (f := decode cX5_claimTax) dAX5_claimTax_q0 6 rfl
theorem dX5_claimTax_9 : decode cX5_claimTax 9 = .ok (.istore 5, 2) := dc_at (f := decode cX5_claimTax) dAX5_claimTax_q0 7 rfl
theorem dX5_claimTax_11 : decode cX5_claimTax 11 = .ok (.iload 5, 2) := dc_at (f := decode cX5_claimTax) dAX5_claimTax_q0 8 rfl
theorem dX5_claimTax_13 : decode cX5_claimTax 13 = .ok (.aload_n 0, 1) := dc_at (f := decode cX5_claimTax) dAX5_claimTax_q0 9 rfl
theorem dX5_claimTax_14 : decode cX5_claimTax 14 = .ok (.getfield 25, 3) := dc_at (f := decode cX5_claimTax) dAX5_claimTax_q0 10 rfl
theorem dX5_claimTax_17 : decode cX5_claimTax 17 = .ok (.if_icmp .ge 74, 3) := dc_at (f := decode cX5_claimTax) dAX5_claimTax_q0 11 rfl
theorem dX5_claimTax_20 : decode cX5_claimTax 20 = .ok (.iload 5, 2) := dc_at (f := decode cX5_claimTax) dAX5_claimTax_q0 12 rfl
theorem dX5_claimTax_22 : decode cX5_claimTax 22 = .ok (.sipush 250, 3) := dc_at (f := decode cX5_claimTax) dAX5_claimTax_q0 13 rfl
theorem dX5_claimTax_25 : decode cX5_claimTax 25 = .ok (.if_icmp .ge 66, 3) := dc_at (f := decode cX5_claimTax) dAX5_claimTax_q0 14 rfl
theorem dX5_claimTax_28 : decode cX5_claimTax 28 = .ok (.aload_n 0, 1) := dc_at (f := decode cX5_claimTax) dAX5_claimTax_q0 15 rfl
theorem dX5_claimTax_29 : decode cX5_claimTax 29 = .ok (.getfield 21, 3) := dc_at (f := decode cX5_claimTax) dAX5_claimTax_q0 16 rfl
theorem dX5_claimTax_32 : decode cX5_claimTax 32 = .ok (.iload 5, 2) := dc_at (f := decode cX5_claimTax) dAX5_claimTax_q0 17 rfl
theorem dX5_claimTax_34 : decode cX5_claimTax 34 = .ok (.baload, 1) := dc_at (f := decode cX5_claimTax) dAX5_claimTax_q0 18 rfl
theorem dX5_claimTax_35 : decode cX5_claimTax 35 = .ok (.ifCond .ne 50, 3) := dc_at (f := decode cX5_claimTax) dAX5_claimTax_q0 19 rfl
theorem dX5_claimTax_38 : decode cX5_claimTax 38 = .ok (.aload_n 2, 1) := dc_at (f := decode cX5_claimTax) dAX5_claimTax_q0 20 rfl
theorem dX5_claimTax_39 : decode cX5_claimTax 39 = .ok (.aload_n 0, 1) := dc_at (f := decode cX5_claimTax) dAX5_claimTax_q0 21 rfl
theorem dX5_claimTax_40 : decode cX5_claimTax 40 = .ok (.getfield 9, 3) := dc_at (f := decode cX5_claimTax) dAX5_claimTax_q0 22 rfl
theorem dX5_claimTax_43 : decode cX5_claimTax 43 = .ok (.iload 5, 2) := dc_at (f := decode cX5_claimTax) dAX5_claimTax_q0 23 rfl
theorem dX5_claimTax_45 : decode cX5_claimTax 45 = .ok (.iaload, 1) := dc_at (f := decode cX5_claimTax) dAX5_claimTax_q0 24 rfl
theorem dX5_claimTax_46 : decode cX5_claimTax 46 = .ok (.aload_n 0, 1) := dc_at (f := decode cX5_claimTax) dAX5_claimTax_q0 25 rfl
theorem dX5_claimTax_47 : decode cX5_claimTax 47 = .ok (.getfield 18, 3) := dc_at (f := decode cX5_claimTax) dAX5_claimTax_q0 26 rfl
theorem dX5_claimTax_50 : decode cX5_claimTax 50 = .ok (.iload 5, 2) := dc_at (f := decode cX5_claimTax) dAX5_claimTax_q0 27 rfl
theorem dX5_claimTax_52 : decode cX5_claimTax 52 = .ok (.iaload, 1) := dc_at (f := decode cX5_claimTax) dAX5_claimTax_q0 28 rfl
theorem dX5_claimTax_53 : decode cX5_claimTax 53 = .ok (.invokevirtual 33, 3) := dc_at (f := decode cX5_claimTax) dAX5_claimTax_q0 29 rfl
theorem dX5_claimTax_56 : decode cX5_claimTax 56 = .ok (.ifCond .eq 29, 3) := dc_at (f := decode cX5_claimTax) dAX5_claimTax_q0 30 rfl
theorem dX5_claimTax_59 : decode cX5_claimTax 59 = .ok (.aload_n 0, 1) := dc_at (f := decode cX5_claimTax) dAX5_claimTax_q0 31 rfl
theorem dX5_claimTax_60 : decode cX5_claimTax 60 = .ok (.getfield 21, 3) := dc_at (f := decode cX5_claimTax) dAX5_claimTax_q0 32 rfl
theorem dX5_claimTax_63 : decode cX5_claimTax 63 = .ok (.iload 5, 2) := dc_at (f := decode cX5_claimTax) dAX5_claimTax_q0 33 rfl
theorem dX5_claimTax_65 : decode cX5_claimTax 65 = .ok (.iconst 1, 1) := dc_at (f := decode cX5_claimTax) dAX5_claimTax_q0 34 rfl
theorem dX5_claimTax_66 : decode cX5_claimTax 66 = .ok (.bastore, 1) := dc_at (f := decode cX5_claimTax) dAX5_claimTax_q0 35 rfl
theorem dX5_claimTax_67 : decode cX5_claimTax 67 = .ok (.lload_n 3, 1) := dc_at (f := decode cX5_claimTax) dAX5_claimTax_q0 36 rfl
theorem dX5_claimTax_68 : decode cX5_claimTax 68 = .ok (.aload_n 0, 1) := dc_at (f := decode cX5_claimTax) dAX5_claimTax_q0 37 rfl
theorem dX5_claimTax_69 : decode cX5_claimTax 69 = .ok (.getfield 15, 3) := dc_at (f := decode cX5_claimTax) dAX5_claimTax_q0 38 rfl
theorem dX5_claimTax_72 : decode cX5_claimTax 72 = .ok (.iload 5, 2) := dc_at (f := decode cX5_claimTax) dAX5_claimTax_q0 39 rfl
theorem dX5_claimTax_74 : decode cX5_claimTax 74 = .ok (.iaload, 1) := dc_at (f := decode cX5_claimTax) dAX5_claimTax_q0 40 rfl
theorem dX5_claimTax_75 : decode cX5_claimTax 75 = .ok (.i2l, 1) := dc_at (f := decode cX5_claimTax) dAX5_claimTax_q0 41 rfl
theorem dX5_claimTax_76 : decode cX5_claimTax 76 = .ok (.iload_n 1, 1) := dc_at (f := decode cX5_claimTax) dAX5_claimTax_q0 42 rfl
theorem dX5_claimTax_77 : decode cX5_claimTax 77 = .ok (.i2l, 1) := dc_at (f := decode cX5_claimTax) dAX5_claimTax_q0 43 rfl
theorem dX5_claimTax_78 : decode cX5_claimTax 78 = .ok (.lmul, 1) := dc_at (f := decode cX5_claimTax) dAX5_claimTax_q0 44 rfl
theorem dX5_claimTax_79 : decode cX5_claimTax 79 = .ok (.ldc2_w 39, 3) := dc_at (f := decode cX5_claimTax) dAX5_claimTax_q0 45 rfl
theorem dX5_claimTax_82 : decode cX5_claimTax 82 = .ok (.ldiv, 1) := dc_at (f := decode cX5_claimTax) dAX5_claimTax_q0 46 rfl
theorem dX5_claimTax_83 : decode cX5_claimTax 83 = .ok (.ladd, 1) := dc_at (f := decode cX5_claimTax) dAX5_claimTax_q0 47 rfl
def dPX5_claimTax_q1 : List (Nat × (Jvm.ClassFile.Instr × Nat)) := [(84, (.lstore_n 3, 1)), (85, (.iinc 5 1, 3)), (88, (.goto (-77), 3)), (91, (.lload_n 3, 1)), (92, (.l2i, 1)), (93, (.ireturn, 1))]
theorem dAX5_claimTax_q1 : ∀ x ∈ dPX5_claimTax_q1, decode cX5_claimTax x.1 = .ok x.2 := by decide +kernel
theorem dX5_claimTax_84 : decode cX5_claimTax 84 = .ok (.lstore_n 3, 1) := dc_at (f := decode cX5_claimTax) dAX5_claimTax_q1 0 rfl
theorem dX5_claimTax_85 : decode cX5_claimTax 85 = .ok (.iinc 5 1, 3) := dc_at (f := decode cX5_claimTax) dAX5_claimTax_q1 1 rfl
theorem dX5_claimTax_88 : decode cX5_claimTax 88 = .ok (.goto (-77), 3) := dc_at (f := decode cX5_claimTax) dAX5_claimTax_q1 2 rfl
theorem dX5_claimTax_91 : decode cX5_claimTax 91 = .ok (.lload_n 3, 1) := dc_at (f := decode cX5_claimTax) dAX5_claimTax_q1 3 rfl
theorem dX5_claimTax_92 : decode cX5_claimTax 92 = .ok (.l2i, 1) := dc_at (f := decode cX5_claimTax) dAX5_claimTax_q1 4 rfl
theorem dX5_claimTax_93 : decode cX5_claimTax 93 = .ok (.ireturn, 1) := dc_at (f := decode cX5_claimTax) dAX5_claimTax_q1 5 rfl
def dPX6_init_q0 : List (Nat × (Jvm.ClassFile.Instr × Nat)) := [(0, (.aload_n 0, 1)), (1, (.invokespecial 3, 3)), (4, (.aload_n 0, 1)), (5, (.sipush 400, 3)), (8, (.newarray .byte, 2)), (10, (.putfield 11, 3)), (13, (.return_, 1))]
theorem dAX6_init_q0 : ∀ x ∈ dPX6_init_q0, decode cX6_init x.1 = .ok x.2 := by decide +kernel
theorem dX6_init_0 : decode cX6_init 0 = .ok (.aload_n 0, 1) := dc_at (f := decode cX6_init) dAX6_init_q0 0 rfl
theorem dX6_init_1 : decode cX6_init 1 = .ok (.invokespecial 3, 3) := dc_at (f := decode cX6_init) dAX6_init_q0 1 rfl
theorem dX6_init_4 : decode cX6_init 4 = .ok (.aload_n 0, 1) := dc_at (f := decode cX6_init) dAX6_init_q0 2 rfl
theorem dX6_init_5 : decode cX6_init 5 = .ok (.sipush 400, 3) := dc_at (f := decode cX6_init) dAX6_init_q0 3 rfl
theorem dX6_init_8 : decode cX6_init 8 = .ok (.newarray .byte, 2) := dc_at (f := decode cX6_init) dAX6_init_q0 4 rfl
theorem dX6_init_10 : decode cX6_init 10 = .ok (.putfield 11, 3) := dc_at (f := decode cX6_init) dAX6_init_q0 5 rfl
theorem dX6_init_13 : decode cX6_init 13 = .ok (.return_, 1) := dc_at (f := decode cX6_init) dAX6_init_q0 6 rfl
def dPX6_length_q0 : List (Nat × (Jvm.ClassFile.Instr × Nat)) := [(0, (.aload_n 0, 1)), (1, (.getfield 15, 3)), (4, (.ireturn, 1))]
theorem dAX6_length_q0 : ∀ x ∈ dPX6_length_q0, decode cX6_length x.1 = .ok x.2 := by decide +kernel
theorem dX6_length_0 : decode cX6_length 0 = .ok (.aload_n 0, 1) := dc_at (f := decode cX6_length) dAX6_length_q0 0 rfl
theorem dX6_length_1 : decode cX6_length 1 = .ok (.getfield 15, 3) := dc_at (f := decode cX6_length) dAX6_length_q0 1 rfl
theorem dX6_length_4 : decode cX6_length 4 = .ok (.ireturn, 1) := dc_at (f := decode cX6_length) dAX6_length_q0 2 rfl
def dPX6_hasRoomForTwenty_q0 : List (Nat × (Jvm.ClassFile.Instr × Nat)) := [(0, (.aload_n 0, 1)), (1, (.getfield 15, 3)), (4, (.sipush 380, 3)), (7, (.if_icmp .gt 7, 3)), (10, (.iconst 1, 1)), (11, (.goto 4, 3)), (14, (.iconst 0, 1)), (15, (.ireturn, 1))]
theorem dAX6_hasRoomForTwenty_q0 : ∀ x ∈ dPX6_hasRoomForTwenty_q0, decode cX6_hasRoomForTwenty x.1 = .ok x.2 := by decide +kernel
theorem dX6_hasRoomForTwenty_0 : decode cX6_hasRoomForTwenty 0 = .ok (.aload_n 0, 1) := dc_at (f := decode cX6_hasRoomForTwenty) dAX6_hasRoomForTwenty_q0 0 rfl
theorem dX6_hasRoomForTwenty_1 : decode cX6_hasRoomForTwenty 1 = .ok (.getfield 15, 3) := dc_at (f := decode cX6_hasRoomForTwenty) dAX6_hasRoomForTwenty_q0 1 rfl
theorem dX6_hasRoomForTwenty_4 : decode cX6_hasRoomForTwenty 4 = .ok (.sipush 380, 3) := dc_at (f := decode cX6_hasRoomForTwenty) dAX6_hasRoomForTwenty_q0 2 rfl
theorem dX6_hasRoomForTwenty_7 : decode cX6_hasRoomForTwenty 7 = .ok (.if_icmp .gt 7, 3) := dc_at (f := decode cX6_hasRoomForTwenty) dAX6_hasRoomForTwenty_q0 3 rfl
theorem dX6_hasRoomForTwenty_10 : decode cX6_hasRoomForTwenty 10 = .ok (.iconst 1, 1) := dc_at (f := decode cX6_hasRoomForTwenty) dAX6_hasRoomForTwenty_q0 4 rfl
theorem dX6_hasRoomForTwenty_11 : decode cX6_hasRoomForTwenty 11 = .ok (.goto 4, 3) := dc_at (f := decode cX6_hasRoomForTwenty) dAX6_hasRoomForTwenty_q0 5 rfl
theorem dX6_hasRoomForTwenty_14 : decode cX6_hasRoomForTwenty 14 = .ok (.iconst 0, 1) := dc_at (f := decode cX6_hasRoomForTwenty) dAX6_hasRoomForTwenty_q0 6 rfl
theorem dX6_hasRoomForTwenty_15 : decode cX6_hasRoomForTwenty 15 = .ok (.ireturn, 1) := dc_at (f := decode cX6_hasRoomForTwenty) dAX6_hasRoomForTwenty_q0 7 rfl
def dPX6_putFour_q0 : List (Nat × (Jvm.ClassFile.Instr × Nat)) := [(0, (.bipush 24, 2)), (2, (.istore_n 2, 1)), (3, (.iload_n 2, 1)), (4, (.ifCond .lt 49, 3)), (7, (.aload_n 0, 1)), (8, (.getfield 15, 3)), (11, (.ifCond .lt 36, 3)), (14, (.aload_n 0, 1)), (15, (.getfield 15, 3)), (18, (.sipush 400, 3)), (21, (.if_icmp .ge 26, 3)), (24, (.aload_n 0, 1)), (25, (.getfield 11, 3)), (28, (.aload_n 0, 1)), (29, (.getfield 15, 3)), (32, (.iload_n 1, 1)), (33, (.iload_n 2, 1)), (34, (.iushr, 1)), (35, (.i2b, 1)), (36, (.bastore, 1)), (37, (.aload_n 0, 1)), (38, (.dup, 1)), (39, (.getfield 15, 3)), (42, (.iconst 1, 1)), (43, (.iadd, 1)), (44, (.putfield 15, 3)), (47, (.iinc 2 (-8), 3)), (50, (.goto (-47), 3)), (53, (.return_, 1))]
theorem dAX6_putFour_q0 : ∀ x ∈ dPX6_putFour_q0, decode cX6_putFour x.1 = .ok x.2 := by decide +kernel
theorem dX6_putFour_0 : decode cX6_putFour 0 = .ok (.bipush 24, 2) := dc_at (f := decode cX6_putFour) dAX6_putFour_q0 0 rfl
theorem dX6_putFour_2 : decode cX6_putFour 2 = .ok (.istore_n 2, 1) := dc_at (f := decode cX6_putFour) dAX6_putFour_q0 1 rfl
theorem dX6_putFour_3 : decode cX6_putFour 3 = .ok (.iload_n 2, 1) := dc_at (f := decode cX6_putFour) dAX6_putFour_q0 2 rfl
theorem dX6_putFour_4 : decode cX6_putFour 4 = .ok (.ifCond .lt 49, 3) := dc_at (f := decode cX6_putFour) dAX6_putFour_q0 3 rfl
theorem dX6_putFour_7 : decode cX6_putFour 7 = .ok (.aload_n 0, 1) := dc_at (f := decode cX6_putFour) dAX6_putFour_q0 4 rfl
theorem dX6_putFour_8 : decode cX6_putFour 8 = .ok (.getfield 15, 3) := dc_at (f := decode cX6_putFour) dAX6_putFour_q0 5 rfl
theorem dX6_putFour_11 : decode cX6_putFour 11 = .ok (.ifCond .lt 36, 3) := dc_at (f := decode cX6_putFour) dAX6_putFour_q0 6 rfl
theorem dX6_putFour_14 : decode cX6_putFour 14 = .ok (.aload_n 0, 1) := dc_at (f := decode cX6_putFour) dAX6_putFour_q0 7 rfl
theorem dX6_putFour_15 : decode cX6_putFour 15 = .ok (.getfield 15, 3) := dc_at (f := decode cX6_putFour) dAX6_putFour_q0 8 rfl
theorem dX6_putFour_18 : decode cX6_putFour 18 = .ok (.sipush 400, 3) := dc_at (f := decode cX6_putFour) dAX6_putFour_q0 9 rfl
theorem dX6_putFour_21 : decode cX6_putFour 21 = .ok (.if_icmp .ge 26, 3) := dc_at (f := decode cX6_putFour) dAX6_putFour_q0 10 rfl
theorem dX6_putFour_24 : decode cX6_putFour 24 = .ok (.aload_n 0, 1) := dc_at (f := decode cX6_putFour) dAX6_putFour_q0 11 rfl
theorem dX6_putFour_25 : decode cX6_putFour 25 = .ok (.getfield 11, 3) := dc_at (f := decode cX6_putFour) dAX6_putFour_q0 12 rfl
theorem dX6_putFour_28 : decode cX6_putFour 28 = .ok (.aload_n 0, 1) := dc_at (f := decode cX6_putFour) dAX6_putFour_q0 13 rfl
theorem dX6_putFour_29 : decode cX6_putFour 29 = .ok (.getfield 15, 3) := dc_at (f := decode cX6_putFour) dAX6_putFour_q0 14 rfl
theorem dX6_putFour_32 : decode cX6_putFour 32 = .ok (.iload_n 1, 1) := dc_at (f := decode cX6_putFour) dAX6_putFour_q0 15 rfl
theorem dX6_putFour_33 : decode cX6_putFour 33 = .ok (.iload_n 2, 1) := dc_at (f := decode cX6_putFour) dAX6_putFour_q0 16 rfl
theorem dX6_putFour_34 : decode cX6_putFour 34 = .ok (.iushr, 1) := dc_at (f := decode cX6_putFour) dAX6_putFour_q0 17 rfl
theorem dX6_putFour_35 : decode cX6_putFour 35 = .ok (.i2b, 1) := dc_at (f := decode cX6_putFour) dAX6_putFour_q0 18 rfl
theorem dX6_putFour_36 : decode cX6_putFour 36 = .ok (.bastore, 1) := dc_at (f := decode cX6_putFour) dAX6_putFour_q0 19 rfl
theorem dX6_putFour_37 : decode cX6_putFour 37 = .ok (.aload_n 0, 1) := dc_at (f := decode cX6_putFour) dAX6_putFour_q0 20 rfl
theorem dX6_putFour_38 : decode cX6_putFour 38 = .ok (.dup, 1) := dc_at (f := decode cX6_putFour) dAX6_putFour_q0 21 rfl
theorem dX6_putFour_39 : decode cX6_putFour 39 = .ok (.getfield 15, 3) := dc_at (f := decode cX6_putFour) dAX6_putFour_q0 22 rfl
theorem dX6_putFour_42 : decode cX6_putFour 42 = .ok (.iconst 1, 1) := dc_at (f := decode cX6_putFour) dAX6_putFour_q0 23 rfl
theorem dX6_putFour_43 : decode cX6_putFour 43 = .ok (.iadd, 1) := dc_at (f := decode cX6_putFour) dAX6_putFour_q0 24 rfl
theorem dX6_putFour_44 : decode cX6_putFour 44 = .ok (.putfield 15, 3) := dc_at (f := decode cX6_putFour) dAX6_putFour_q0 25 rfl
theorem dX6_putFour_47 : decode cX6_putFour 47 = .ok (.iinc 2 (-8), 3) := dc_at (f := decode cX6_putFour) dAX6_putFour_q0 26 rfl
theorem dX6_putFour_50 : decode cX6_putFour 50 = .ok (.goto (-47), 3) := dc_at (f := decode cX6_putFour) dAX6_putFour_q0 27 rfl
theorem dX6_putFour_53 : decode cX6_putFour 53 = .ok (.return_, 1) := dc_at (f := decode cX6_putFour) dAX6_putFour_q0 28 rfl
def dPX6_cutTo_q0 : List (Nat × (Jvm.ClassFile.Instr × Nat)) := [(0, (.aload_n 0, 1)), (1, (.iload_n 1, 1)), (2, (.putfield 15, 3)), (5, (.return_, 1))]
theorem dAX6_cutTo_q0 : ∀ x ∈ dPX6_cutTo_q0, decode cX6_cutTo x.1 = .ok x.2 := by decide +kernel
theorem dX6_cutTo_0 : decode cX6_cutTo 0 = .ok (.aload_n 0, 1) := dc_at (f := decode cX6_cutTo) dAX6_cutTo_q0 0 rfl
theorem dX6_cutTo_1 : decode cX6_cutTo 1 = .ok (.iload_n 1, 1) := dc_at (f := decode cX6_cutTo) dAX6_cutTo_q0 1 rfl
theorem dX6_cutTo_2 : decode cX6_cutTo 2 = .ok (.putfield 15, 3) := dc_at (f := decode cX6_cutTo) dAX6_cutTo_q0 2 rfl
theorem dX6_cutTo_5 : decode cX6_cutTo 5 = .ok (.return_, 1) := dc_at (f := decode cX6_cutTo) dAX6_cutTo_q0 3 rfl
def dPX6_at_q0 : List (Nat × (Jvm.ClassFile.Instr × Nat)) := [(0, (.iload_n 1, 1)), (1, (.ifCond .lt 31, 3)), (4, (.iload_n 1, 1)), (5, (.aload_n 0, 1)), (6, (.getfield 15, 3)), (9, (.if_icmp .ge 23, 3)), (12, (.iload_n 1, 1)), (13, (.sipush 400, 3)), (16, (.if_icmp .ge 16, 3)), (19, (.aload_n 0, 1)), (20, (.getfield 11, 3)), (23, (.iload_n 1, 1)), (24, (.baload, 1)), (25, (.sipush 255, 3)), (28, (.iand, 1)), (29, (.goto 4, 3)), (32, (.iconst (-1), 1)), (33, (.ireturn, 1))]
theorem dAX6_at_q0 : ∀ x ∈ dPX6_at_q0, decode cX6_at x.1 = .ok x.2 := by decide +kernel
theorem dX6_at_0 : decode cX6_at 0 = .ok (.iload_n 1, 1) := dc_at (f := decode cX6_at) dAX6_at_q0 0 rfl
theorem dX6_at_1 : decode cX6_at 1 = .ok (.ifCond .lt 31, 3) := dc_at (f := decode cX6_at) dAX6_at_q0 1 rfl
theorem dX6_at_4 : decode cX6_at 4 = .ok (.iload_n 1, 1) := dc_at (f := decode cX6_at) dAX6_at_q0 2 rfl
theorem dX6_at_5 : decode cX6_at 5 = .ok (.aload_n 0, 1) := dc_at (f := decode cX6_at) dAX6_at_q0 3 rfl
theorem dX6_at_6 : decode cX6_at 6 = .ok (.getfield 15, 3) := dc_at (f := decode cX6_at) dAX6_at_q0 4 rfl
theorem dX6_at_9 : decode cX6_at 9 = .ok (.if_icmp .ge 23, 3) := dc_at (f := decode cX6_at) dAX6_at_q0 5 rfl
theorem dX6_at_12 : decode cX6_at 12 = .ok (.iload_n 1, 1) := dc_at (f := decode cX6_at) dAX6_at_q0 6 rfl
theorem dX6_at_13 : decode cX6_at 13 = .ok (.sipush 400, 3) := dc_at (f := decode cX6_at) dAX6_at_q0 7 rfl
theorem dX6_at_16 : decode cX6_at 16 = .ok (.if_icmp .ge 16, 3) := dc_at (f := decode cX6_at) dAX6_at_q0 8 rfl
theorem dX6_at_19 : decode cX6_at 19 = .ok (.aload_n 0, 1) := dc_at (f := decode cX6_at) dAX6_at_q0 9 rfl
theorem dX6_at_20 : decode cX6_at 20 = .ok (.getfield 11, 3) := dc_at (f := decode cX6_at) dAX6_at_q0 10 rfl
theorem dX6_at_23 : decode cX6_at 23 = .ok (.iload_n 1, 1) := dc_at (f := decode cX6_at) dAX6_at_q0 11 rfl
theorem dX6_at_24 : decode cX6_at 24 = .ok (.baload, 1) := dc_at (f := decode cX6_at) dAX6_at_q0 12 rfl
theorem dX6_at_25 : decode cX6_at 25 = .ok (.sipush 255, 3) := dc_at (f := decode cX6_at) dAX6_at_q0 13 rfl
theorem dX6_at_28 : decode cX6_at 28 = .ok (.iand, 1) := dc_at (f := decode cX6_at) dAX6_at_q0 14 rfl
theorem dX6_at_29 : decode cX6_at 29 = .ok (.goto 4, 3) := dc_at (f := decode cX6_at) dAX6_at_q0 15 rfl
theorem dX6_at_32 : decode cX6_at 32 = .ok (.iconst (-1), 1) := dc_at (f := decode cX6_at) dAX6_at_q0 16 rfl
theorem dX6_at_33 : decode cX6_at 33 = .ok (.ireturn, 1) := dc_at (f := decode cX6_at) dAX6_at_q0 17 rfl
def dPX7_init_q0 : List (Nat × (Jvm.ClassFile.Instr × Nat)) := [(0, (.aload_n 0, 1)), (1, (.invokespecial 3, 3)), (4, (.aload_n 0, 1)), (5, (.bipush 8, 2)), (7, (.anewarray 9, 3)), (10, (.putfield 11, 3)), (13, (.return_, 1))]
theorem dAX7_init_q0 : ∀ x ∈ dPX7_init_q0, decode cX7_init x.1 = .ok x.2 := by decide +kernel
theorem dX7_init_0 : decode cX7_init 0 = .ok (.aload_n 0, 1) := dc_at (f := decode cX7_init) dAX7_init_q0 0 rfl
theorem dX7_init_1 : decode cX7_init 1 = .ok (.invokespecial 3, 3) := dc_at (f := decode cX7_init) dAX7_init_q0 1 rfl
theorem dX7_init_4 : decode cX7_init 4 = .ok (.aload_n 0, 1) := dc_at (f := decode cX7_init) dAX7_init_q0 2 rfl
theorem dX7_init_5 : decode cX7_init 5 = .ok (.bipush 8, 2) := dc_at (f := decode cX7_init) dAX7_init_q0 3 rfl
theorem dX7_init_7 : decode cX7_init 7 = .ok (.anewarray 9, 3) := dc_at (f := decode cX7_init) dAX7_init_q0 4 rfl
theorem dX7_init_10 : decode cX7_init 10 = .ok (.putfield 11, 3) := dc_at (f := decode cX7_init) dAX7_init_q0 5 rfl
theorem dX7_init_13 : decode cX7_init 13 = .ok (.return_, 1) := dc_at (f := decode cX7_init) dAX7_init_q0 6 rfl
def dPX7_size_q0 : List (Nat × (Jvm.ClassFile.Instr × Nat)) := [(0, (.aload_n 0, 1)), (1, (.getfield 17, 3)), (4, (.ireturn, 1))]
theorem dAX7_size_q0 : ∀ x ∈ dPX7_size_q0, decode cX7_size x.1 = .ok x.2 := by decide +kernel
theorem dX7_size_0 : decode cX7_size 0 = .ok (.aload_n 0, 1) := dc_at (f := decode cX7_size) dAX7_size_q0 0 rfl
theorem dX7_size_1 : decode cX7_size 1 = .ok (.getfield 17, 3) := dc_at (f := decode cX7_size) dAX7_size_q0 1 rfl
theorem dX7_size_4 : decode cX7_size 4 = .ok (.ireturn, 1) := dc_at (f := decode cX7_size) dAX7_size_q0 2 rfl
def dPX7_isFull_q0 : List (Nat × (Jvm.ClassFile.Instr × Nat)) := [(0, (.aload_n 0, 1)), (1, (.getfield 17, 3)), (4, (.bipush 8, 2)), (6, (.if_icmp .lt 7, 3)), (9, (.iconst 1, 1)), (10, (.goto 4, 3)), (13, (.iconst 0, 1)), (14, (.ireturn, 1))]
theorem dAX7_isFull_q0 : ∀ x ∈ dPX7_isFull_q0, decode cX7_isFull x.1 = .ok x.2 := by decide +kernel
theorem dX7_isFull_0 : decode cX7_isFull 0 = .ok (.aload_n 0, 1) := dc_at (f := decode cX7_isFull) dAX7_isFull_q0 0 rfl
theorem dX7_isFull_1 : decode cX7_isFull 1 = .ok (.getfield 17, 3) := dc_at (f := decode cX7_isFull) dAX7_isFull_q0 1 rfl
theorem dX7_isFull_4 : decode cX7_isFull 4 = .ok (.bipush 8, 2) := dc_at (f := decode cX7_isFull) dAX7_isFull_q0 2 rfl
theorem dX7_isFull_6 : decode cX7_isFull 6 = .ok (.if_icmp .lt 7, 3) := dc_at (f := decode cX7_isFull) dAX7_isFull_q0 3 rfl
theorem dX7_isFull_9 : decode cX7_isFull 9 = .ok (.iconst 1, 1) := dc_at (f := decode cX7_isFull) dAX7_isFull_q0 4 rfl
theorem dX7_isFull_10 : decode cX7_isFull 10 = .ok (.goto 4, 3) := dc_at (f := decode cX7_isFull) dAX7_isFull_q0 5 rfl
theorem dX7_isFull_13 : decode cX7_isFull 13 = .ok (.iconst 0, 1) := dc_at (f := decode cX7_isFull) dAX7_isFull_q0 6 rfl
theorem dX7_isFull_14 : decode cX7_isFull 14 = .ok (.ireturn, 1) := dc_at (f := decode cX7_isFull) dAX7_isFull_q0 7 rfl
def dPX7_add_q0 : List (Nat × (Jvm.ClassFile.Instr × Nat)) := [(0, (.aload_n 0, 1)), (1, (.getfield 17, 3)), (4, (.ifCond .lt 12, 3)), (7, (.aload_n 0, 1)), (8, (.getfield 17, 3)), (11, (.bipush 8, 2)), (13, (.if_icmp .lt 6, 3)), (16, (.bipush (-3), 2)), (18, (.ireturn, 1)), (19, (.aload_n 0, 1)), (20, (.getfield 11, 3)), (23, (.aload_n 0, 1)), (24, (.getfield 17, 3)), (27, (.aload_n 1, 1)), (28, (.aastore, 1)), (29, (.aload_n 0, 1)), (30, (.dup, 1)), (31, (.getfield 17, 3)), (34, (.iconst 1, 1)), (35, (.iadd, 1)), (36, (.putfield 17, 3)), (39, (.aload_n 0, 1)), (40, (.getfield 17, 3)), (43, (.iconst 1, 1)), (44, (.isub, 1)), (45, (.ireturn, 1))]
theorem dAX7_add_q0 : ∀ x ∈ dPX7_add_q0, decode cX7_add x.1 = .ok x.2 := by decide +kernel
theorem dX7_add_0 : decode cX7_add 0 = .ok (.aload_n 0, 1) := dc_at (f := decode cX7_add) dAX7_add_q0 0 rfl
theorem dX7_add_1 : decode cX7_add 1 = .ok (.getfield 17, 3) := dc_at (f := decode cX7_add) dAX7_add_q0 1 rfl
theorem dX7_add_4 : decode cX7_add 4 = .ok (.ifCond .lt 12, 3) := dc_at (f := decode cX7_add) dAX7_add_q0 2 rfl
theorem dX7_add_7 : decode cX7_add 7 = .ok (.aload_n 0, 1) := dc_at (f := decode cX7_add) dAX7_add_q0 3 rfl
theorem dX7_add_8 : decode cX7_add 8 = .ok (.getfield 17, 3) := dc_at (f := decode cX7_add) dAX7_add_q0 4 rfl
theorem dX7_add_11 : decode cX7_add 11 = .ok (.bipush 8, 2) := dc_at (f := decode cX7_add) dAX7_add_q0 5 rfl
theorem dX7_add_13 : decode cX7_add 13 = .ok (.if_icmp .lt 6, 3) := dc_at (f := decode cX7_add) dAX7_add_q0 6 rfl
theorem dX7_add_19 : decode cX7_add 19 = .ok (.aload_n 0, 1) := dc_at (f := decode cX7_add) dAX7_add_q0 9 rfl
theorem dX7_add_20 : decode cX7_add 20 = .ok (.getfield 11, 3) := dc_at (f := decode cX7_add) dAX7_add_q0 10 rfl
theorem dX7_add_23 : decode cX7_add 23 = .ok (.aload_n 0, 1) := dc_at (f := decode cX7_add) dAX7_add_q0 11 rfl
theorem dX7_add_24 : decode cX7_add 24 = .ok (.getfield 17, 3) := dc_at (f := decode cX7_add) dAX7_add_q0 12 rfl
theorem dX7_add_27 : decode cX7_add 27 = .ok (.aload_n 1, 1) := dc_at (f := decode cX7_add) dAX7_add_q0 13 rfl
theorem dX7_add_28 : decode cX7_add 28 = .ok (.aastore, 1) := dc_at (f := decode cX7_add) dAX7_add_q0 14 rfl
theorem dX7_add_29 : decode cX7_add 29 = .ok (.aload_n 0, 1) := dc_at (f := decode cX7_add) dAX7_add_q0 15 rfl
theorem dX7_add_30 : decode cX7_add 30 = .ok (.dup, 1) := dc_at (f := decode cX7_add) dAX7_add_q0 16 rfl
theorem dX7_add_31 : decode cX7_add 31 = .ok (.getfield 17, 3) := dc_at (f := decode cX7_add) dAX7_add_q0 17 rfl
theorem dX7_add_34 : decode cX7_add 34 = .ok (.iconst 1, 1) := dc_at (f := decode cX7_add) dAX7_add_q0 18 rfl
theorem dX7_add_35 : decode cX7_add 35 = .ok (.iadd, 1) := dc_at (f := decode cX7_add) dAX7_add_q0 19 rfl
theorem dX7_add_36 : decode cX7_add 36 = .ok (.putfield 17, 3) := dc_at (f := decode cX7_add) dAX7_add_q0 20 rfl
theorem dX7_add_39 : decode cX7_add 39 = .ok (.aload_n 0, 1) := dc_at (f := decode cX7_add) dAX7_add_q0 21 rfl
theorem dX7_add_40 : decode cX7_add 40 = .ok (.getfield 17, 3) := dc_at (f := decode cX7_add) dAX7_add_q0 22 rfl
theorem dX7_add_43 : decode cX7_add 43 = .ok (.iconst 1, 1) := dc_at (f := decode cX7_add) dAX7_add_q0 23 rfl
theorem dX7_add_44 : decode cX7_add 44 = .ok (.isub, 1) := dc_at (f := decode cX7_add) dAX7_add_q0 24 rfl
theorem dX7_add_45 : decode cX7_add 45 = .ok (.ireturn, 1) := dc_at (f := decode cX7_add) dAX7_add_q0 25 rfl
def dPX7_at_q0 : List (Nat × (Jvm.ClassFile.Instr × Nat)) := [(0, (.iload_n 1, 1)), (1, (.ifCond .lt 26, 3)), (4, (.iload_n 1, 1)), (5, (.aload_n 0, 1)), (6, (.getfield 17, 3)), (9, (.if_icmp .ge 18, 3)), (12, (.iload_n 1, 1)), (13, (.bipush 8, 2)), (15, (.if_icmp .ge 12, 3)), (18, (.aload_n 0, 1)), (19, (.getfield 11, 3)), (22, (.iload_n 1, 1)), (23, (.aaload, 1)), (24, (.goto 4, 3)), (27, (.aconst_null, 1)), (28, (.areturn, 1))]
theorem dAX7_at_q0 : ∀ x ∈ dPX7_at_q0, decode cX7_at x.1 = .ok x.2 := by decide +kernel
theorem dX7_at_0 : decode cX7_at 0 = .ok (.iload_n 1, 1) := dc_at (f := decode cX7_at) dAX7_at_q0 0 rfl
theorem dX7_at_1 : decode cX7_at 1 = .ok (.ifCond .lt 26, 3) := dc_at (f := decode cX7_at) dAX7_at_q0 1 rfl
theorem dX7_at_4 : decode cX7_at 4 = .ok (.iload_n 1, 1) := dc_at (f := decode cX7_at) dAX7_at_q0 2 rfl
theorem dX7_at_5 : decode cX7_at 5 = .ok (.aload_n 0, 1) := dc_at (f := decode cX7_at) dAX7_at_q0 3 rfl
theorem dX7_at_6 : decode cX7_at 6 = .ok (.getfield 17, 3) := dc_at (f := decode cX7_at) dAX7_at_q0 4 rfl
theorem dX7_at_9 : decode cX7_at 9 = .ok (.if_icmp .ge 18, 3) := dc_at (f := decode cX7_at) dAX7_at_q0 5 rfl
theorem dX7_at_12 : decode cX7_at 12 = .ok (.iload_n 1, 1) := dc_at (f := decode cX7_at) dAX7_at_q0 6 rfl
theorem dX7_at_13 : decode cX7_at 13 = .ok (.bipush 8, 2) := dc_at (f := decode cX7_at) dAX7_at_q0 7 rfl
theorem dX7_at_15 : decode cX7_at 15 = .ok (.if_icmp .ge 12, 3) := dc_at (f := decode cX7_at) dAX7_at_q0 8 rfl
theorem dX7_at_18 : decode cX7_at 18 = .ok (.aload_n 0, 1) := dc_at (f := decode cX7_at) dAX7_at_q0 9 rfl
theorem dX7_at_19 : decode cX7_at 19 = .ok (.getfield 11, 3) := dc_at (f := decode cX7_at) dAX7_at_q0 10 rfl
theorem dX7_at_22 : decode cX7_at 22 = .ok (.iload_n 1, 1) := dc_at (f := decode cX7_at) dAX7_at_q0 11 rfl
theorem dX7_at_23 : decode cX7_at 23 = .ok (.aaload, 1) := dc_at (f := decode cX7_at) dAX7_at_q0 12 rfl
theorem dX7_at_24 : decode cX7_at 24 = .ok (.goto 4, 3) := dc_at (f := decode cX7_at) dAX7_at_q0 13 rfl
theorem dX7_at_27 : decode cX7_at 27 = .ok (.aconst_null, 1) := dc_at (f := decode cX7_at) dAX7_at_q0 14 rfl
theorem dX7_at_28 : decode cX7_at 28 = .ok (.areturn, 1) := dc_at (f := decode cX7_at) dAX7_at_q0 15 rfl
def dPX7_running_q0 : List (Nat × (Jvm.ClassFile.Instr × Nat)) := [(0, (.aload_n 0, 1)), (1, (.aload_n 0, 1)), (2, (.getfield 21, 3)), (5, (.iconst 1, 1)), (6, (.isub, 1)), (7, (.invokevirtual 24, 3)), (10, (.astore_n 1, 1)), (11, (.aload_n 1, 1)), (12, (.ifnull 14, 3)), (15, (.aload_n 1, 1)), (16, (.invokevirtual 28, 3)), (19, (.ifCond .eq 7, 3)), (22, (.aload_n 1, 1)), (23, (.goto 4, 3)), (26, (.aconst_null, 1)), (27, (.areturn, 1))]
theorem dAX7_running_q0 : ∀ x ∈ dPX7_running_q0, decode cX7_running x.1 = .ok x.2 := by decide +kernel
theorem dX7_running_0 : decode cX7_running 0 = .ok (.aload_n 0, 1) := dc_at (f := decode cX7_running) dAX7_running_q0 0 rfl
theorem dX7_running_1 : decode cX7_running 1 = .ok (.aload_n 0, 1) := dc_at (f := decode cX7_running) dAX7_running_q0 1 rfl
theorem dX7_running_2 : decode cX7_running 2 = .ok (.getfield 21, 3) := dc_at (f := decode cX7_running) dAX7_running_q0 2 rfl
theorem dX7_running_5 : decode cX7_running 5 = .ok (.iconst 1, 1) := dc_at (f := decode cX7_running) dAX7_running_q0 3 rfl
theorem dX7_running_6 : decode cX7_running 6 = .ok (.isub, 1) := dc_at (f := decode cX7_running) dAX7_running_q0 4 rfl
theorem dX7_running_7 : decode cX7_running 7 = .ok (.invokevirtual 24, 3) := dc_at (f := decode cX7_running) dAX7_running_q0 5 rfl
theorem dX7_running_10 : decode cX7_running 10 = .ok (.astore_n 1, 1) := dc_at (f := decode cX7_running) dAX7_running_q0 6 rfl
theorem dX7_running_11 : decode cX7_running 11 = .ok (.aload_n 1, 1) := dc_at (f := decode cX7_running) dAX7_running_q0 7 rfl
theorem dX7_running_12 : decode cX7_running 12 = .ok (.ifnull 14, 3) := dc_at (f := decode cX7_running) dAX7_running_q0 8 rfl
theorem dX7_running_15 : decode cX7_running 15 = .ok (.aload_n 1, 1) := dc_at (f := decode cX7_running) dAX7_running_q0 9 rfl
theorem dX7_running_16 : decode cX7_running 16 = .ok (.invokevirtual 28, 3) := dc_at (f := decode cX7_running) dAX7_running_q0 10 rfl
theorem dX7_running_19 : decode cX7_running 19 = .ok (.ifCond .eq 7, 3) := dc_at (f := decode cX7_running) dAX7_running_q0 11 rfl
theorem dX7_running_22 : decode cX7_running 22 = .ok (.aload_n 1, 1) := dc_at (f := decode cX7_running) dAX7_running_q0 12 rfl
theorem dX7_running_23 : decode cX7_running 23 = .ok (.goto 4, 3) := dc_at (f := decode cX7_running) dAX7_running_q0 13 rfl
theorem dX7_running_26 : decode cX7_running 26 = .ok (.aconst_null, 1) := dc_at (f := decode cX7_running) dAX7_running_q0 14 rfl
theorem dX7_running_27 : decode cX7_running 27 = .ok (.areturn, 1) := dc_at (f := decode cX7_running) dAX7_running_q0 15 rfl
def dPX7_mayStartNext_q0 : List (Nat × (Jvm.ClassFile.Instr × Nat)) := [(0, (.aload_n 0, 1)), (1, (.invokevirtual 32, 3)), (4, (.ifnonnull 18, 3)), (7, (.aload_n 0, 1)), (8, (.getfield 21, 3)), (11, (.aload_n 0, 1)), (12, (.getfield 17, 3)), (15, (.if_icmp .ge 7, 3)), (18, (.iconst 1, 1)), (19, (.goto 4, 3)), (22, (.iconst 0, 1)), (23, (.ireturn, 1))]
theorem dAX7_mayStartNext_q0 : ∀ x ∈ dPX7_mayStartNext_q0, decode cX7_mayStartNext x.1 = .ok x.2 := by decide +kernel
theorem dX7_mayStartNext_0 : decode cX7_mayStartNext 0 = .ok (.aload_n 0, 1) := dc_at (f := decode cX7_mayStartNext) dAX7_mayStartNext_q0 0 rfl
theorem dX7_mayStartNext_1 : decode cX7_mayStartNext 1 = .ok (.invokevirtual 32, 3) := dc_at (f := decode cX7_mayStartNext) dAX7_mayStartNext_q0 1 rfl
theorem dX7_mayStartNext_4 : decode cX7_mayStartNext 4 = .ok (.ifnonnull 18, 3) := dc_at (f := decode cX7_mayStartNext) dAX7_mayStartNext_q0 2 rfl
theorem dX7_mayStartNext_7 : decode cX7_mayStartNext 7 = .ok (.aload_n 0, 1) := dc_at (f := decode cX7_mayStartNext) dAX7_mayStartNext_q0 3 rfl
theorem dX7_mayStartNext_8 : decode cX7_mayStartNext 8 = .ok (.getfield 21, 3) := dc_at (f := decode cX7_mayStartNext) dAX7_mayStartNext_q0 4 rfl
theorem dX7_mayStartNext_11 : decode cX7_mayStartNext 11 = .ok (.aload_n 0, 1) := dc_at (f := decode cX7_mayStartNext) dAX7_mayStartNext_q0 5 rfl
theorem dX7_mayStartNext_12 : decode cX7_mayStartNext 12 = .ok (.getfield 17, 3) := dc_at (f := decode cX7_mayStartNext) dAX7_mayStartNext_q0 6 rfl
theorem dX7_mayStartNext_15 : decode cX7_mayStartNext 15 = .ok (.if_icmp .ge 7, 3) := dc_at (f := decode cX7_mayStartNext) dAX7_mayStartNext_q0 7 rfl
theorem dX7_mayStartNext_18 : decode cX7_mayStartNext 18 = .ok (.iconst 1, 1) := dc_at (f := decode cX7_mayStartNext) dAX7_mayStartNext_q0 8 rfl
theorem dX7_mayStartNext_19 : decode cX7_mayStartNext 19 = .ok (.goto 4, 3) := dc_at (f := decode cX7_mayStartNext) dAX7_mayStartNext_q0 9 rfl
theorem dX7_mayStartNext_22 : decode cX7_mayStartNext 22 = .ok (.iconst 0, 1) := dc_at (f := decode cX7_mayStartNext) dAX7_mayStartNext_q0 10 rfl
theorem dX7_mayStartNext_23 : decode cX7_mayStartNext 23 = .ok (.ireturn, 1) := dc_at (f := decode cX7_mayStartNext) dAX7_mayStartNext_q0 11 rfl
def dPX7_startNext_q0 : List (Nat × (Jvm.ClassFile.Instr × Nat)) := [(0, (.aload_n 0, 1)), (1, (.aload_n 0, 1)), (2, (.getfield 21, 3)), (5, (.invokevirtual 24, 3)), (8, (.astore_n 1, 1)), (9, (.aload_n 1, 1)), (10, (.ifnonnull 6, 3)), (13, (.bipush (-4), 2)), (15, (.ireturn, 1)), (16, (.aload_n 1, 1)), (17, (.invokevirtual 36, 3)), (20, (.aload_n 0, 1)), (21, (.dup, 1)), (22, (.getfield 21, 3)), (25, (.iconst 1, 1)), (26, (.iadd, 1)), (27, (.putfield 21, 3)), (30, (.aload_n 0, 1)), (31, (.getfield 21, 3)), (34, (.iconst 1, 1)), (35, (.isub, 1)), (36, (.ireturn, 1))]
theorem dAX7_startNext_q0 : ∀ x ∈ dPX7_startNext_q0, decode cX7_startNext x.1 = .ok x.2 := by decide +kernel
theorem dX7_startNext_0 : decode cX7_startNext 0 = .ok (.aload_n 0, 1) := dc_at (f := decode cX7_startNext) dAX7_startNext_q0 0 rfl
theorem dX7_startNext_1 : decode cX7_startNext 1 = .ok (.aload_n 0, 1) := dc_at (f := decode cX7_startNext) dAX7_startNext_q0 1 rfl
theorem dX7_startNext_2 : decode cX7_startNext 2 = .ok (.getfield 21, 3) := dc_at (f := decode cX7_startNext) dAX7_startNext_q0 2 rfl
theorem dX7_startNext_5 : decode cX7_startNext 5 = .ok (.invokevirtual 24, 3) := dc_at (f := decode cX7_startNext) dAX7_startNext_q0 3 rfl
theorem dX7_startNext_8 : decode cX7_startNext 8 = .ok (.astore_n 1, 1) := dc_at (f := decode cX7_startNext) dAX7_startNext_q0 4 rfl
theorem dX7_startNext_9 : decode cX7_startNext 9 = .ok (.aload_n 1, 1) := dc_at (f := decode cX7_startNext) dAX7_startNext_q0 5 rfl
theorem dX7_startNext_10 : decode cX7_startNext 10 = .ok (.ifnonnull 6, 3) := dc_at (f := decode cX7_startNext) dAX7_startNext_q0 6 rfl
theorem dX7_startNext_16 : decode cX7_startNext 16 = .ok (.aload_n 1, 1) := dc_at (f := decode cX7_startNext) dAX7_startNext_q0 9 rfl
theorem dX7_startNext_17 : decode cX7_startNext 17 = .ok (.invokevirtual 36, 3) := dc_at (f := decode cX7_startNext) dAX7_startNext_q0 10 rfl
theorem dX7_startNext_20 : decode cX7_startNext 20 = .ok (.aload_n 0, 1) := dc_at (f := decode cX7_startNext) dAX7_startNext_q0 11 rfl
theorem dX7_startNext_21 : decode cX7_startNext 21 = .ok (.dup, 1) := dc_at (f := decode cX7_startNext) dAX7_startNext_q0 12 rfl
theorem dX7_startNext_22 : decode cX7_startNext 22 = .ok (.getfield 21, 3) := dc_at (f := decode cX7_startNext) dAX7_startNext_q0 13 rfl
theorem dX7_startNext_25 : decode cX7_startNext 25 = .ok (.iconst 1, 1) := dc_at (f := decode cX7_startNext) dAX7_startNext_q0 14 rfl
theorem dX7_startNext_26 : decode cX7_startNext 26 = .ok (.iadd, 1) := dc_at (f := decode cX7_startNext) dAX7_startNext_q0 15 rfl
theorem dX7_startNext_27 : decode cX7_startNext 27 = .ok (.putfield 21, 3) := dc_at (f := decode cX7_startNext) dAX7_startNext_q0 16 rfl
theorem dX7_startNext_30 : decode cX7_startNext 30 = .ok (.aload_n 0, 1) := dc_at (f := decode cX7_startNext) dAX7_startNext_q0 17 rfl
theorem dX7_startNext_31 : decode cX7_startNext 31 = .ok (.getfield 21, 3) := dc_at (f := decode cX7_startNext) dAX7_startNext_q0 18 rfl
theorem dX7_startNext_34 : decode cX7_startNext 34 = .ok (.iconst 1, 1) := dc_at (f := decode cX7_startNext) dAX7_startNext_q0 19 rfl
theorem dX7_startNext_35 : decode cX7_startNext 35 = .ok (.isub, 1) := dc_at (f := decode cX7_startNext) dAX7_startNext_q0 20 rfl
theorem dX7_startNext_36 : decode cX7_startNext 36 = .ok (.ireturn, 1) := dc_at (f := decode cX7_startNext) dAX7_startNext_q0 21 rfl
def dPX7_payPart_q0 : List (Nat × (Jvm.ClassFile.Instr × Nat)) := [(0, (.aload_n 0, 1)), (1, (.invokevirtual 32, 3)), (4, (.astore_n 3, 1)), (5, (.aload_n 3, 1)), (6, (.ifnonnull 4, 3)), (9, (.return_, 1)), (10, (.aload_n 3, 1)), (11, (.invokevirtual 39, 3)), (14, (.istore 4, 2)), (16, (.aload_n 1, 1)), (17, (.iload 4, 2)), (19, (.iload_n 2, 1)), (20, (.invokevirtual 43, 3)), (23, (.ifCond .eq 12, 3)), (26, (.aload_n 3, 1)), (27, (.iload 4, 2)), (29, (.invokevirtual 49, 3)), (32, (.goto 7, 3)), (35, (.aload_n 3, 1)), (36, (.invokevirtual 53, 3)), (39, (.return_, 1))]
theorem dAX7_payPart_q0 : ∀ x ∈ dPX7_payPart_q0, decode cX7_payPart x.1 = .ok x.2 := by decide +kernel
theorem dX7_payPart_0 : decode cX7_payPart 0 = .ok (.aload_n 0, 1) := dc_at (f := decode cX7_payPart) dAX7_payPart_q0 0 rfl
theorem dX7_payPart_1 : decode cX7_payPart 1 = .ok (.invokevirtual 32, 3) := dc_at (f := decode cX7_payPart) dAX7_payPart_q0 1 rfl
theorem dX7_payPart_4 : decode cX7_payPart 4 = .ok (.astore_n 3, 1) := dc_at (f := decode cX7_payPart) dAX7_payPart_q0 2 rfl
theorem dX7_payPart_5 : decode cX7_payPart 5 = .ok (.aload_n 3, 1) := dc_at (f := decode cX7_payPart) dAX7_payPart_q0 3 rfl
theorem dX7_payPart_6 : decode cX7_payPart 6 = .ok (.ifnonnull 4, 3) := dc_at (f := decode cX7_payPart) dAX7_payPart_q0 4 rfl
theorem dX7_payPart_9 : decode cX7_payPart 9 = .ok (.return_, 1) := dc_at (f := decode cX7_payPart) dAX7_payPart_q0 5 rfl
theorem dX7_payPart_10 : decode cX7_payPart 10 = .ok (.aload_n 3, 1) := dc_at (f := decode cX7_payPart) dAX7_payPart_q0 6 rfl
theorem dX7_payPart_11 : decode cX7_payPart 11 = .ok (.invokevirtual 39, 3) := dc_at (f := decode cX7_payPart) dAX7_payPart_q0 7 rfl
theorem dX7_payPart_14 : decode cX7_payPart 14 = .ok (.istore 4, 2) := dc_at (f := decode cX7_payPart) dAX7_payPart_q0 8 rfl
theorem dX7_payPart_16 : decode cX7_payPart 16 = .ok (.aload_n 1, 1) := dc_at (f := decode cX7_payPart) dAX7_payPart_q0 9 rfl
theorem dX7_payPart_17 : decode cX7_payPart 17 = .ok (.iload 4, 2) := dc_at (f := decode cX7_payPart) dAX7_payPart_q0 10 rfl
theorem dX7_payPart_19 : decode cX7_payPart 19 = .ok (.iload_n 2, 1) := dc_at (f := decode cX7_payPart) dAX7_payPart_q0 11 rfl
theorem dX7_payPart_20 : decode cX7_payPart 20 = .ok (.invokevirtual 43, 3) := dc_at (f := decode cX7_payPart) dAX7_payPart_q0 12 rfl
theorem dX7_payPart_23 : decode cX7_payPart 23 = .ok (.ifCond .eq 12, 3) := dc_at (f := decode cX7_payPart) dAX7_payPart_q0 13 rfl
theorem dX7_payPart_26 : decode cX7_payPart 26 = .ok (.aload_n 3, 1) := dc_at (f := decode cX7_payPart) dAX7_payPart_q0 14 rfl
theorem dX7_payPart_27 : decode cX7_payPart 27 = .ok (.iload 4, 2) := dc_at (f := decode cX7_payPart) dAX7_payPart_q0 15 rfl
theorem dX7_payPart_29 : decode cX7_payPart 29 = .ok (.invokevirtual 49, 3) := dc_at (f := decode cX7_payPart) dAX7_payPart_q0 16 rfl
theorem dX7_payPart_32 : decode cX7_payPart 32 = .ok (.goto 7, 3) := dc_at (f := decode cX7_payPart) dAX7_payPart_q0 17 rfl
theorem dX7_payPart_35 : decode cX7_payPart 35 = .ok (.aload_n 3, 1) := dc_at (f := decode cX7_payPart) dAX7_payPart_q0 18 rfl
theorem dX7_payPart_36 : decode cX7_payPart 36 = .ok (.invokevirtual 53, 3) := dc_at (f := decode cX7_payPart) dAX7_payPart_q0 19 rfl
theorem dX7_payPart_39 : decode cX7_payPart 39 = .ok (.return_, 1) := dc_at (f := decode cX7_payPart) dAX7_payPart_q0 20 rfl
def dPX8_init_q0 : List (Nat × (Jvm.ClassFile.Instr × Nat)) := [(0, (.aload_n 0, 1)), (1, (.invokespecial 3, 3)), (4, (.aload_n 0, 1)), (5, (.bipush 9, 2)), (7, (.newarray .int, 2)), (9, (.putfield 11, 3)), (12, (.getstatic 15, 3)), (15, (.iconst 0, 1)), (16, (.aload_n 0, 1)), (17, (.getfield 11, 3)), (20, (.iconst 0, 1)), (21, (.bipush 9, 2)), (23, (.invokestatic 18, 3)), (26, (.return_, 1))]
theorem dAX8_init_q0 : ∀ x ∈ dPX8_init_q0, decode cX8_init x.1 = .ok x.2 := by decide +kernel
theorem dX8_init_0 : decode cX8_init 0 = .ok (.aload_n 0, 1) := dc_at (f := decode cX8_init) dAX8_init_q0 0 rfl
theorem dX8_init_1 : decode cX8_init 1 = .ok (.invokespecial 3, 3) := dc_at (f := decode cX8_init) dAX8_init_q0 1 rfl
theorem dX8_init_4 : decode cX8_init 4 = .ok (.aload_n 0, 1) := dc_at (f := decode cX8_init) dAX8_init_q0 2 rfl
theorem dX8_init_5 : decode cX8_init 5 = .ok (.bipush 9, 2) := dc_at (f := decode cX8_init) dAX8_init_q0 3 rfl
theorem dX8_init_7 : decode cX8_init 7 = .ok (.newarray .int, 2) := dc_at (f := decode cX8_init) dAX8_init_q0 4 rfl
theorem dX8_init_9 : decode cX8_init 9 = .ok (.putfield 11, 3) := dc_at (f := decode cX8_init) dAX8_init_q0 5 rfl
theorem dX8_init_12 : decode cX8_init 12 = .ok (.getstatic 15, 3) := dc_at (f := decode cX8_init) dAX8_init_q0 6 rfl
theorem dX8_init_15 : decode cX8_init 15 = .ok (.iconst 0, 1) := dc_at (f := decode cX8_init) dAX8_init_q0 7 rfl
theorem dX8_init_16 : decode cX8_init 16 = .ok (.aload_n 0, 1) := dc_at (f := decode cX8_init) dAX8_init_q0 8 rfl
theorem dX8_init_17 : decode cX8_init 17 = .ok (.getfield 11, 3) := dc_at (f := decode cX8_init) dAX8_init_q0 9 rfl
theorem dX8_init_20 : decode cX8_init 20 = .ok (.iconst 0, 1) := dc_at (f := decode cX8_init) dAX8_init_q0 10 rfl
theorem dX8_init_21 : decode cX8_init 21 = .ok (.bipush 9, 2) := dc_at (f := decode cX8_init) dAX8_init_q0 11 rfl
theorem dX8_init_23 : decode cX8_init 23 = .ok (.invokestatic 18, 3) := dc_at (f := decode cX8_init) dAX8_init_q0 12 rfl
theorem dX8_init_26 : decode cX8_init 26 = .ok (.return_, 1) := dc_at (f := decode cX8_init) dAX8_init_q0 13 rfl
def dPX8_forget_q0 : List (Nat × (Jvm.ClassFile.Instr × Nat)) := [(0, (.getstatic 15, 3)), (3, (.iconst 0, 1)), (4, (.aload_n 0, 1)), (5, (.getfield 11, 3)), (8, (.iconst 0, 1)), (9, (.bipush 9, 2)), (11, (.invokestatic 18, 3)), (14, (.return_, 1))]
theorem dAX8_forget_q0 : ∀ x ∈ dPX8_forget_q0, decode cX8_forget x.1 = .ok x.2 := by decide +kernel
theorem dX8_forget_0 : decode cX8_forget 0 = .ok (.getstatic 15, 3) := dc_at (f := decode cX8_forget) dAX8_forget_q0 0 rfl
theorem dX8_forget_3 : decode cX8_forget 3 = .ok (.iconst 0, 1) := dc_at (f := decode cX8_forget) dAX8_forget_q0 1 rfl
theorem dX8_forget_4 : decode cX8_forget 4 = .ok (.aload_n 0, 1) := dc_at (f := decode cX8_forget) dAX8_forget_q0 2 rfl
theorem dX8_forget_5 : decode cX8_forget 5 = .ok (.getfield 11, 3) := dc_at (f := decode cX8_forget) dAX8_forget_q0 3 rfl
theorem dX8_forget_8 : decode cX8_forget 8 = .ok (.iconst 0, 1) := dc_at (f := decode cX8_forget) dAX8_forget_q0 4 rfl
theorem dX8_forget_9 : decode cX8_forget 9 = .ok (.bipush 9, 2) := dc_at (f := decode cX8_forget) dAX8_forget_q0 5 rfl
theorem dX8_forget_11 : decode cX8_forget 11 = .ok (.invokestatic 18, 3) := dc_at (f := decode cX8_forget) dAX8_forget_q0 6 rfl
theorem dX8_forget_14 : decode cX8_forget 14 = .ok (.return_, 1) := dc_at (f := decode cX8_forget) dAX8_forget_q0 7 rfl
def dPX8_takeOver_q0 : List (Nat × (Jvm.ClassFile.Instr × Nat)) := [(0, (.aload_n 1, 1)), (1, (.getfield 11, 3)), (4, (.iconst 0, 1)), (5, (.aload_n 0, 1)), (6, (.getfield 11, 3)), (9, (.iconst 0, 1)), (10, (.bipush 9, 2)), (12, (.invokestatic 18, 3)), (15, (.return_, 1))]
theorem dAX8_takeOver_q0 : ∀ x ∈ dPX8_takeOver_q0, decode cX8_takeOver x.1 = .ok x.2 := by decide +kernel
theorem dX8_takeOver_0 : decode cX8_takeOver 0 = .ok (.aload_n 1, 1) := dc_at (f := decode cX8_takeOver) dAX8_takeOver_q0 0 rfl
theorem dX8_takeOver_1 : decode cX8_takeOver 1 = .ok (.getfield 11, 3) := dc_at (f := decode cX8_takeOver) dAX8_takeOver_q0 1 rfl
theorem dX8_takeOver_4 : decode cX8_takeOver 4 = .ok (.iconst 0, 1) := dc_at (f := decode cX8_takeOver) dAX8_takeOver_q0 2 rfl
theorem dX8_takeOver_5 : decode cX8_takeOver 5 = .ok (.aload_n 0, 1) := dc_at (f := decode cX8_takeOver) dAX8_takeOver_q0 3 rfl
theorem dX8_takeOver_6 : decode cX8_takeOver 6 = .ok (.getfield 11, 3) := dc_at (f := decode cX8_takeOver) dAX8_takeOver_q0 4 rfl
theorem dX8_takeOver_9 : decode cX8_takeOver 9 = .ok (.iconst 0, 1) := dc_at (f := decode cX8_takeOver) dAX8_takeOver_q0 5 rfl
theorem dX8_takeOver_10 : decode cX8_takeOver 10 = .ok (.bipush 9, 2) := dc_at (f := decode cX8_takeOver) dAX8_takeOver_q0 6 rfl
theorem dX8_takeOver_12 : decode cX8_takeOver 12 = .ok (.invokestatic 18, 3) := dc_at (f := decode cX8_takeOver) dAX8_takeOver_q0 7 rfl
theorem dX8_takeOver_15 : decode cX8_takeOver 15 = .ok (.return_, 1) := dc_at (f := decode cX8_takeOver) dAX8_takeOver_q0 8 rfl
def dPX8_at_q0 : List (Nat × (Jvm.ClassFile.Instr × Nat)) := [(0, (.iload_n 1, 1)), (1, (.ifCond .lt 18, 3)), (4, (.iload_n 1, 1)), (5, (.bipush 9, 2)), (7, (.if_icmp .ge 12, 3)), (10, (.aload_n 0, 1)), (11, (.getfield 11, 3)), (14, (.iload_n 1, 1)), (15, (.iaload, 1)), (16, (.goto 4, 3)), (19, (.iconst 0, 1)), (20, (.ireturn, 1))]
theorem dAX8_at_q0 : ∀ x ∈ dPX8_at_q0, decode cX8_at x.1 = .ok x.2 := by decide +kernel
theorem dX8_at_0 : decode cX8_at 0 = .ok (.iload_n 1, 1) := dc_at (f := decode cX8_at) dAX8_at_q0 0 rfl
theorem dX8_at_1 : decode cX8_at 1 = .ok (.ifCond .lt 18, 3) := dc_at (f := decode cX8_at) dAX8_at_q0 1 rfl
theorem dX8_at_4 : decode cX8_at 4 = .ok (.iload_n 1, 1) := dc_at (f := decode cX8_at) dAX8_at_q0 2 rfl
theorem dX8_at_5 : decode cX8_at 5 = .ok (.bipush 9, 2) := dc_at (f := decode cX8_at) dAX8_at_q0 3 rfl
theorem dX8_at_7 : decode cX8_at 7 = .ok (.if_icmp .ge 12, 3) := dc_at (f := decode cX8_at) dAX8_at_q0 4 rfl
theorem dX8_at_10 : decode cX8_at 10 = .ok (.aload_n 0, 1) := dc_at (f := decode cX8_at) dAX8_at_q0 5 rfl
theorem dX8_at_11 : decode cX8_at 11 = .ok (.getfield 11, 3) := dc_at (f := decode cX8_at) dAX8_at_q0 6 rfl
theorem dX8_at_14 : decode cX8_at 14 = .ok (.iload_n 1, 1) := dc_at (f := decode cX8_at) dAX8_at_q0 7 rfl
theorem dX8_at_15 : decode cX8_at 15 = .ok (.iaload, 1) := dc_at (f := decode cX8_at) dAX8_at_q0 8 rfl
theorem dX8_at_16 : decode cX8_at 16 = .ok (.goto 4, 3) := dc_at (f := decode cX8_at) dAX8_at_q0 9 rfl
theorem dX8_at_20 : decode cX8_at 20 = .ok (.ireturn, 1) := dc_at (f := decode cX8_at) dAX8_at_q0 11 rfl
def dPX8_put_q0 : List (Nat × (Jvm.ClassFile.Instr × Nat)) := [(0, (.iload_n 1, 1)), (1, (.ifCond .lt 16, 3)), (4, (.iload_n 1, 1)), (5, (.bipush 9, 2)), (7, (.if_icmp .ge 10, 3)), (10, (.aload_n 0, 1)), (11, (.getfield 11, 3)), (14, (.iload_n 1, 1)), (15, (.iload_n 2, 1)), (16, (.iastore, 1)), (17, (.return_, 1))]
theorem dAX8_put_q0 : ∀ x ∈ dPX8_put_q0, decode cX8_put x.1 = .ok x.2 := by decide +kernel
theorem dX8_put_0 : decode cX8_put 0 = .ok (.iload_n 1, 1) := dc_at (f := decode cX8_put) dAX8_put_q0 0 rfl
theorem dX8_put_1 : decode cX8_put 1 = .ok (.ifCond .lt 16, 3) := dc_at (f := decode cX8_put) dAX8_put_q0 1 rfl
theorem dX8_put_4 : decode cX8_put 4 = .ok (.iload_n 1, 1) := dc_at (f := decode cX8_put) dAX8_put_q0 2 rfl
theorem dX8_put_5 : decode cX8_put 5 = .ok (.bipush 9, 2) := dc_at (f := decode cX8_put) dAX8_put_q0 3 rfl
theorem dX8_put_7 : decode cX8_put 7 = .ok (.if_icmp .ge 10, 3) := dc_at (f := decode cX8_put) dAX8_put_q0 4 rfl
theorem dX8_put_10 : decode cX8_put 10 = .ok (.aload_n 0, 1) := dc_at (f := decode cX8_put) dAX8_put_q0 5 rfl
theorem dX8_put_11 : decode cX8_put 11 = .ok (.getfield 11, 3) := dc_at (f := decode cX8_put) dAX8_put_q0 6 rfl
theorem dX8_put_14 : decode cX8_put 14 = .ok (.iload_n 1, 1) := dc_at (f := decode cX8_put) dAX8_put_q0 7 rfl
theorem dX8_put_15 : decode cX8_put 15 = .ok (.iload_n 2, 1) := dc_at (f := decode cX8_put) dAX8_put_q0 8 rfl
theorem dX8_put_16 : decode cX8_put 16 = .ok (.iastore, 1) := dc_at (f := decode cX8_put) dAX8_put_q0 9 rfl
theorem dX8_put_17 : decode cX8_put 17 = .ok (.return_, 1) := dc_at (f := decode cX8_put) dAX8_put_q0 10 rfl
def dPX8_matchHundredths_q0 : List (Nat × (Jvm.ClassFile.Instr × Nat)) := [(0, (.aload_n 0, 1)), (1, (.getfield 11, 3)), (4, (.iconst 0, 1)), (5, (.iaload, 1)), (6, (.ireturn, 1))]
theorem dAX8_matchHundredths_q0 : ∀ x ∈ dPX8_matchHundredths_q0, decode cX8_matchHundredths x.1 = .ok x.2 := by decide +kernel
theorem dX8_matchHundredths_0 : decode cX8_matchHundredths 0 = .ok (.aload_n 0, 1) := dc_at (f := decode cX8_matchHundredths) dAX8_matchHundredths_q0 0 rfl
theorem dX8_matchHundredths_1 : decode cX8_matchHundredths 1 = .ok (.getfield 11, 3) := dc_at (f := decode cX8_matchHundredths) dAX8_matchHundredths_q0 1 rfl
theorem dX8_matchHundredths_4 : decode cX8_matchHundredths 4 = .ok (.iconst 0, 1) := dc_at (f := decode cX8_matchHundredths) dAX8_matchHundredths_q0 2 rfl
theorem dX8_matchHundredths_5 : decode cX8_matchHundredths 5 = .ok (.iaload, 1) := dc_at (f := decode cX8_matchHundredths) dAX8_matchHundredths_q0 3 rfl
theorem dX8_matchHundredths_6 : decode cX8_matchHundredths 6 = .ok (.ireturn, 1) := dc_at (f := decode cX8_matchHundredths) dAX8_matchHundredths_q0 4 rfl
def dPX8_matchCapPence_q0 : List (Nat × (Jvm.ClassFile.Instr × Nat)) := [(0, (.aload_n 0, 1)), (1, (.getfield 11, 3)), (4, (.iconst 1, 1)), (5, (.iaload, 1)), (6, (.bipush 100, 2)), (8, (.imul, 1)), (9, (.ireturn, 1))]
theorem dAX8_matchCapPence_q0 : ∀ x ∈ dPX8_matchCapPence_q0, decode cX8_matchCapPence x.1 = .ok x.2 := by decide +kernel
theorem dX8_matchCapPence_0 : decode cX8_matchCapPence 0 = .ok (.aload_n 0, 1) := dc_at (f := decode cX8_matchCapPence) dAX8_matchCapPence_q0 0 rfl
theorem dX8_matchCapPence_1 : decode cX8_matchCapPence 1 = .ok (.getfield 11, 3) := dc_at (f := decode cX8_matchCapPence) dAX8_matchCapPence_q0 1 rfl
theorem dX8_matchCapPence_4 : decode cX8_matchCapPence 4 = .ok (.iconst 1, 1) := dc_at (f := decode cX8_matchCapPence) dAX8_matchCapPence_q0 2 rfl
theorem dX8_matchCapPence_5 : decode cX8_matchCapPence 5 = .ok (.iaload, 1) := dc_at (f := decode cX8_matchCapPence) dAX8_matchCapPence_q0 3 rfl
theorem dX8_matchCapPence_6 : decode cX8_matchCapPence 6 = .ok (.bipush 100, 2) := dc_at (f := decode cX8_matchCapPence) dAX8_matchCapPence_q0 4 rfl
theorem dX8_matchCapPence_8 : decode cX8_matchCapPence 8 = .ok (.imul, 1) := dc_at (f := decode cX8_matchCapPence) dAX8_matchCapPence_q0 5 rfl
theorem dX8_matchCapPence_9 : decode cX8_matchCapPence 9 = .ok (.ireturn, 1) := dc_at (f := decode cX8_matchCapPence) dAX8_matchCapPence_q0 6 rfl
def dPX8_matchTill_q0 : List (Nat × (Jvm.ClassFile.Instr × Nat)) := [(0, (.aload_n 0, 1)), (1, (.getfield 11, 3)), (4, (.iconst 2, 1)), (5, (.iaload, 1)), (6, (.ireturn, 1))]
theorem dAX8_matchTill_q0 : ∀ x ∈ dPX8_matchTill_q0, decode cX8_matchTill x.1 = .ok x.2 := by decide +kernel
theorem dX8_matchTill_0 : decode cX8_matchTill 0 = .ok (.aload_n 0, 1) := dc_at (f := decode cX8_matchTill) dAX8_matchTill_q0 0 rfl
theorem dX8_matchTill_1 : decode cX8_matchTill 1 = .ok (.getfield 11, 3) := dc_at (f := decode cX8_matchTill) dAX8_matchTill_q0 1 rfl
theorem dX8_matchTill_4 : decode cX8_matchTill 4 = .ok (.iconst 2, 1) := dc_at (f := decode cX8_matchTill) dAX8_matchTill_q0 2 rfl
theorem dX8_matchTill_5 : decode cX8_matchTill 5 = .ok (.iaload, 1) := dc_at (f := decode cX8_matchTill) dAX8_matchTill_q0 3 rfl
theorem dX8_matchTill_6 : decode cX8_matchTill 6 = .ok (.ireturn, 1) := dc_at (f := decode cX8_matchTill) dAX8_matchTill_q0 4 rfl
def dPX8_taxHundredths_q0 : List (Nat × (Jvm.ClassFile.Instr × Nat)) := [(0, (.aload_n 0, 1)), (1, (.getfield 11, 3)), (4, (.iconst 3, 1)), (5, (.iaload, 1)), (6, (.ireturn, 1))]
theorem dAX8_taxHundredths_q0 : ∀ x ∈ dPX8_taxHundredths_q0, decode cX8_taxHundredths x.1 = .ok x.2 := by decide +kernel
theorem dX8_taxHundredths_0 : decode cX8_taxHundredths 0 = .ok (.aload_n 0, 1) := dc_at (f := decode cX8_taxHundredths) dAX8_taxHundredths_q0 0 rfl
theorem dX8_taxHundredths_1 : decode cX8_taxHundredths 1 = .ok (.getfield 11, 3) := dc_at (f := decode cX8_taxHundredths) dAX8_taxHundredths_q0 1 rfl
theorem dX8_taxHundredths_4 : decode cX8_taxHundredths 4 = .ok (.iconst 3, 1) := dc_at (f := decode cX8_taxHundredths) dAX8_taxHundredths_q0 2 rfl
theorem dX8_taxHundredths_5 : decode cX8_taxHundredths 5 = .ok (.iaload, 1) := dc_at (f := decode cX8_taxHundredths) dAX8_taxHundredths_q0 3 rfl
theorem dX8_taxHundredths_6 : decode cX8_taxHundredths 6 = .ok (.ireturn, 1) := dc_at (f := decode cX8_taxHundredths) dAX8_taxHundredths_q0 4 rfl
def dPX8_lapseDues_q0 : List (Nat × (Jvm.ClassFile.Instr × Nat)) := [(0, (.aload_n 0, 1)), (1, (.getfield 11, 3)), (4, (.iconst 4, 1)), (5, (.iaload, 1)), (6, (.ireturn, 1))]
theorem dAX8_lapseDues_q0 : ∀ x ∈ dPX8_lapseDues_q0, decode cX8_lapseDues x.1 = .ok x.2 := by decide +kernel
theorem dX8_lapseDues_0 : decode cX8_lapseDues 0 = .ok (.aload_n 0, 1) := dc_at (f := decode cX8_lapseDues) dAX8_lapseDues_q0 0 rfl
theorem dX8_lapseDues_1 : decode cX8_lapseDues 1 = .ok (.getfield 11, 3) := dc_at (f := decode cX8_lapseDues) dAX8_lapseDues_q0 1 rfl
theorem dX8_lapseDues_4 : decode cX8_lapseDues 4 = .ok (.iconst 4, 1) := dc_at (f := decode cX8_lapseDues) dAX8_lapseDues_q0 2 rfl
theorem dX8_lapseDues_5 : decode cX8_lapseDues 5 = .ok (.iaload, 1) := dc_at (f := decode cX8_lapseDues) dAX8_lapseDues_q0 3 rfl
theorem dX8_lapseDues_6 : decode cX8_lapseDues 6 = .ok (.ireturn, 1) := dc_at (f := decode cX8_lapseDues) dAX8_lapseDues_q0 4 rfl
def dPX8_loanPence_q0 : List (Nat × (Jvm.ClassFile.Instr × Nat)) := [(0, (.aload_n 0, 1)), (1, (.getfield 11, 3)), (4, (.iconst 5, 1)), (5, (.iaload, 1)), (6, (.bipush 100, 2)), (8, (.imul, 1)), (9, (.ireturn, 1))]
theorem dAX8_loanPence_q0 : ∀ x ∈ dPX8_loanPence_q0, decode cX8_loanPence x.1 = .ok x.2 := by decide +kernel
theorem dX8_loanPence_0 : decode cX8_loanPence 0 = .ok (.aload_n 0, 1) := dc_at (f := decode cX8_loanPence) dAX8_loanPence_q0 0 rfl
theorem dX8_loanPence_1 : decode cX8_loanPence 1 = .ok (.getfield 11, 3) := dc_at (f := decode cX8_loanPence) dAX8_loanPence_q0 1 rfl
theorem dX8_loanPence_4 : decode cX8_loanPence 4 = .ok (.iconst 5, 1) := dc_at (f := decode cX8_loanPence) dAX8_loanPence_q0 2 rfl
theorem dX8_loanPence_5 : decode cX8_loanPence 5 = .ok (.iaload, 1) := dc_at (f := decode cX8_loanPence) dAX8_loanPence_q0 3 rfl
theorem dX8_loanPence_6 : decode cX8_loanPence 6 = .ok (.bipush 100, 2) := dc_at (f := decode cX8_loanPence) dAX8_loanPence_q0 4 rfl
theorem dX8_loanPence_8 : decode cX8_loanPence 8 = .ok (.imul, 1) := dc_at (f := decode cX8_loanPence) dAX8_loanPence_q0 5 rfl
theorem dX8_loanPence_9 : decode cX8_loanPence 9 = .ok (.ireturn, 1) := dc_at (f := decode cX8_loanPence) dAX8_loanPence_q0 6 rfl
def dPX8_loanThousandths_q0 : List (Nat × (Jvm.ClassFile.Instr × Nat)) := [(0, (.aload_n 0, 1)), (1, (.getfield 11, 3)), (4, (.bipush 6, 2)), (6, (.iaload, 1)), (7, (.ireturn, 1))]
theorem dAX8_loanThousandths_q0 : ∀ x ∈ dPX8_loanThousandths_q0, decode cX8_loanThousandths x.1 = .ok x.2 := by decide +kernel
theorem dX8_loanThousandths_0 : decode cX8_loanThousandths 0 = .ok (.aload_n 0, 1) := dc_at (f := decode cX8_loanThousandths) dAX8_loanThousandths_q0 0 rfl
theorem dX8_loanThousandths_1 : decode cX8_loanThousandths 1 = .ok (.getfield 11, 3) := dc_at (f := decode cX8_loanThousandths) dAX8_loanThousandths_q0 1 rfl
theorem dX8_loanThousandths_4 : decode cX8_loanThousandths 4 = .ok (.bipush 6, 2) := dc_at (f := decode cX8_loanThousandths) dAX8_loanThousandths_q0 2 rfl
theorem dX8_loanThousandths_6 : decode cX8_loanThousandths 6 = .ok (.iaload, 1) := dc_at (f := decode cX8_loanThousandths) dAX8_loanThousandths_q0 3 rfl
theorem dX8_loanThousandths_7 : decode cX8_loanThousandths 7 = .ok (.ireturn, 1) := dc_at (f := decode cX8_loanThousandths) dAX8_loanThousandths_q0 4 rfl
def dPX8_stonePence_q0 : List (Nat × (Jvm.ClassFile.Instr × Nat)) := [(0, (.aload_n 0, 1)), (1, (.getfield 11, 3)), (4, (.bipush 7, 2)), (6, (.iaload, 1)), (7, (.bipush 100, 2)), (9, (.imul, 1)), (10, (.ireturn, 1))]
theorem dAX8_stonePence_q0 : ∀ x ∈ dPX8_stonePence_q0, decode cX8_stonePence x.1 = .ok x.2 := by decide +kernel
theorem dX8_stonePence_0 : decode cX8_stonePence 0 = .ok (.aload_n 0, 1) := dc_at (f := decode cX8_stonePence) dAX8_stonePence_q0 0 rfl
theorem dX8_stonePence_1 : decode cX8_stonePence 1 = .ok (.getfield 11, 3) := dc_at (f := decode cX8_stonePence) dAX8_stonePence_q0 1 rfl
theorem dX8_stonePence_4 : decode cX8_stonePence 4 = .ok (.bipush 7, 2) := dc_at (f := decode cX8_stonePence) dAX8_stonePence_q0 2 rfl
theorem dX8_stonePence_6 : decode cX8_stonePence 6 = .ok (.iaload, 1) := dc_at (f := decode cX8_stonePence) dAX8_stonePence_q0 3 rfl
theorem dX8_stonePence_7 : decode cX8_stonePence 7 = .ok (.bipush 100, 2) := dc_at (f := decode cX8_stonePence) dAX8_stonePence_q0 4 rfl
theorem dX8_stonePence_9 : decode cX8_stonePence 9 = .ok (.imul, 1) := dc_at (f := decode cX8_stonePence) dAX8_stonePence_q0 5 rfl
theorem dX8_stonePence_10 : decode cX8_stonePence 10 = .ok (.ireturn, 1) := dc_at (f := decode cX8_stonePence) dAX8_stonePence_q0 6 rfl
def dPX8_givesAllBack_q0 : List (Nat × (Jvm.ClassFile.Instr × Nat)) := [(0, (.aload_n 0, 1)), (1, (.getfield 11, 3)), (4, (.bipush 8, 2)), (6, (.iaload, 1)), (7, (.iconst 1, 1)), (8, (.if_icmp .ne 7, 3)), (11, (.iconst 1, 1)), (12, (.goto 4, 3)), (15, (.iconst 0, 1)), (16, (.ireturn, 1))]
theorem dAX8_givesAllBack_q0 : ∀ x ∈ dPX8_givesAllBack_q0, decode cX8_givesAllBack x.1 = .ok x.2 := by decide +kernel
theorem dX8_givesAllBack_0 : decode cX8_givesAllBack 0 = .ok (.aload_n 0, 1) := dc_at (f := decode cX8_givesAllBack) dAX8_givesAllBack_q0 0 rfl
theorem dX8_givesAllBack_1 : decode cX8_givesAllBack 1 = .ok (.getfield 11, 3) := dc_at (f := decode cX8_givesAllBack) dAX8_givesAllBack_q0 1 rfl
theorem dX8_givesAllBack_4 : decode cX8_givesAllBack 4 = .ok (.bipush 8, 2) := dc_at (f := decode cX8_givesAllBack) dAX8_givesAllBack_q0 2 rfl
theorem dX8_givesAllBack_6 : decode cX8_givesAllBack 6 = .ok (.iaload, 1) := dc_at (f := decode cX8_givesAllBack) dAX8_givesAllBack_q0 3 rfl
theorem dX8_givesAllBack_7 : decode cX8_givesAllBack 7 = .ok (.iconst 1, 1) := dc_at (f := decode cX8_givesAllBack) dAX8_givesAllBack_q0 4 rfl
theorem dX8_givesAllBack_8 : decode cX8_givesAllBack 8 = .ok (.if_icmp .ne 7, 3) := dc_at (f := decode cX8_givesAllBack) dAX8_givesAllBack_q0 5 rfl
theorem dX8_givesAllBack_11 : decode cX8_givesAllBack 11 = .ok (.iconst 1, 1) := dc_at (f := decode cX8_givesAllBack) dAX8_givesAllBack_q0 6 rfl
theorem dX8_givesAllBack_12 : decode cX8_givesAllBack 12 = .ok (.goto 4, 3) := dc_at (f := decode cX8_givesAllBack) dAX8_givesAllBack_q0 7 rfl
theorem dX8_givesAllBack_15 : decode cX8_givesAllBack 15 = .ok (.iconst 0, 1) := dc_at (f := decode cX8_givesAllBack) dAX8_givesAllBack_q0 8 rfl
theorem dX8_givesAllBack_16 : decode cX8_givesAllBack 16 = .ok (.ireturn, 1) := dc_at (f := decode cX8_givesAllBack) dAX8_givesAllBack_q0 9 rfl
def dPX9_init_q0 : List (Nat × (Jvm.ClassFile.Instr × Nat)) := [(0, (.aload_n 0, 1)), (1, (.invokespecial 3, 3)), (4, (.aload_n 0, 1)), (5, (.new 9, 3)), (8, (.dup, 1)), (9, (.invokespecial 11, 3)), (12, (.putfield 12, 3)), (15, (.aload_n 0, 1)), (16, (.bipush 6, 2)), (18, (.newarray .boolean, 2)), (20, (.putfield 18, 3)), (23, (.aload_n 0, 1)), (24, (.iconst (-1), 1)), (25, (.putfield 22, 3)), (28, (.return_, 1))]
theorem dAX9_init_q0 : ∀ x ∈ dPX9_init_q0, decode cX9_init x.1 = .ok x.2 := by decide +kernel
theorem dX9_init_0 : decode cX9_init 0 = .ok (.aload_n 0, 1) := dc_at (f := decode cX9_init) dAX9_init_q0 0 rfl
theorem dX9_init_1 : decode cX9_init 1 = .ok (.invokespecial 3, 3) := dc_at (f := decode cX9_init) dAX9_init_q0 1 rfl
theorem dX9_init_4 : decode cX9_init 4 = .ok (.aload_n 0, 1) := dc_at (f := decode cX9_init) dAX9_init_q0 2 rfl
theorem dX9_init_5 : decode cX9_init 5 = .ok (.new 9, 3) := dc_at (f := decode cX9_init) dAX9_init_q0 3 rfl
theorem dX9_init_8 : decode cX9_init 8 = .ok (.dup, 1) := dc_at (f := decode cX9_init) dAX9_init_q0 4 rfl
theorem dX9_init_9 : decode cX9_init 9 = .ok (.invokespecial 11, 3) := dc_at (f := decode cX9_init) dAX9_init_q0 5 rfl
theorem dX9_init_12 : decode cX9_init 12 = .ok (.putfield 12, 3) := dc_at (f := decode cX9_init) dAX9_init_q0 6 rfl
theorem dX9_init_15 : decode cX9_init 15 = .ok (.aload_n 0, 1) := dc_at (f := decode cX9_init) dAX9_init_q0 7 rfl
theorem dX9_init_16 : decode cX9_init 16 = .ok (.bipush 6, 2) := dc_at (f := decode cX9_init) dAX9_init_q0 8 rfl
theorem dX9_init_18 : decode cX9_init 18 = .ok (.newarray .boolean, 2) := dc_at (f := decode cX9_init) dAX9_init_q0 9 rfl
theorem dX9_init_20 : decode cX9_init 20 = .ok (.putfield 18, 3) := dc_at (f := decode cX9_init) dAX9_init_q0 10 rfl
theorem dX9_init_23 : decode cX9_init 23 = .ok (.aload_n 0, 1) := dc_at (f := decode cX9_init) dAX9_init_q0 11 rfl
theorem dX9_init_24 : decode cX9_init 24 = .ok (.iconst (-1), 1) := dc_at (f := decode cX9_init) dAX9_init_q0 12 rfl
theorem dX9_init_25 : decode cX9_init 25 = .ok (.putfield 22, 3) := dc_at (f := decode cX9_init) dAX9_init_q0 13 rfl
theorem dX9_init_28 : decode cX9_init 28 = .ok (.return_, 1) := dc_at (f := decode cX9_init) dAX9_init_q0 14 rfl
def dPX9_draft_q0 : List (Nat × (Jvm.ClassFile.Instr × Nat)) := [(0, (.aload_n 0, 1)), (1, (.getfield 12, 3)), (4, (.areturn, 1))]
theorem dAX9_draft_q0 : ∀ x ∈ dPX9_draft_q0, decode cX9_draft x.1 = .ok x.2 := by decide +kernel
theorem dX9_draft_0 : decode cX9_draft 0 = .ok (.aload_n 0, 1) := dc_at (f := decode cX9_draft) dAX9_draft_q0 0 rfl
theorem dX9_draft_1 : decode cX9_draft 1 = .ok (.getfield 12, 3) := dc_at (f := decode cX9_draft) dAX9_draft_q0 1 rfl
theorem dX9_draft_4 : decode cX9_draft 4 = .ok (.areturn, 1) := dc_at (f := decode cX9_draft) dAX9_draft_q0 2 rfl
def dPX9_faultKind_q0 : List (Nat × (Jvm.ClassFile.Instr × Nat)) := [(0, (.aload_n 0, 1)), (1, (.getfield 26, 3)), (4, (.ireturn, 1))]
theorem dAX9_faultKind_q0 : ∀ x ∈ dPX9_faultKind_q0, decode cX9_faultKind x.1 = .ok x.2 := by decide +kernel
theorem dX9_faultKind_0 : decode cX9_faultKind 0 = .ok (.aload_n 0, 1) := dc_at (f := decode cX9_faultKind) dAX9_faultKind_q0 0 rfl
theorem dX9_faultKind_1 : decode cX9_faultKind 1 = .ok (.getfield 26, 3) := dc_at (f := decode cX9_faultKind) dAX9_faultKind_q0 1 rfl
theorem dX9_faultKind_4 : decode cX9_faultKind 4 = .ok (.ireturn, 1) := dc_at (f := decode cX9_faultKind) dAX9_faultKind_q0 2 rfl
def dPX9_faultPlace_q0 : List (Nat × (Jvm.ClassFile.Instr × Nat)) := [(0, (.aload_n 0, 1)), (1, (.getfield 22, 3)), (4, (.ireturn, 1))]
theorem dAX9_faultPlace_q0 : ∀ x ∈ dPX9_faultPlace_q0, decode cX9_faultPlace x.1 = .ok x.2 := by decide +kernel
theorem dX9_faultPlace_0 : decode cX9_faultPlace 0 = .ok (.aload_n 0, 1) := dc_at (f := decode cX9_faultPlace) dAX9_faultPlace_q0 0 rfl
theorem dX9_faultPlace_1 : decode cX9_faultPlace 1 = .ok (.getfield 22, 3) := dc_at (f := decode cX9_faultPlace) dAX9_faultPlace_q0 1 rfl
theorem dX9_faultPlace_4 : decode cX9_faultPlace 4 = .ok (.ireturn, 1) := dc_at (f := decode cX9_faultPlace) dAX9_faultPlace_q0 2 rfl
def dPX9_read_q0 : List (Nat × (Jvm.ClassFile.Instr × Nat)) := [(0, (.aload_n 0, 1)), (1, (.invokevirtual 29, 3)), (4, (.iconst 0, 1)), (5, (.istore_n 2, 1)), (6, (.iconst 0, 1)), (7, (.istore_n 3, 1)), (8, (.iload_n 3, 1)), (9, (.bipush 6, 2)), (11, (.if_icmp .gt 40, 3)), (14, (.aload_n 0, 1)), (15, (.aload_n 1, 1)), (16, (.invokevirtual 32, 3)), (19, (.aload_n 0, 1)), (20, (.getfield 36, 3)), (23, (.ifCond .ne 5, 3)), (26, (.iload_n 2, 1)), (27, (.ireturn, 1)), (28, (.aload_n 0, 1)), (29, (.aload_n 1, 1)), (30, (.invokevirtual 39, 3)), (33, (.aload_n 0, 1)), (34, (.getfield 26, 3)), (37, (.ifCond .eq 5, 3)), (40, (.iconst (-1), 1)), (41, (.ireturn, 1)), (42, (.iinc 2 1, 3)), (45, (.iinc 3 1, 3)), (48, (.goto (-40), 3)), (51, (.iconst (-1), 1)), (52, (.ireturn, 1))]
theorem dAX9_read_q0 : ∀ x ∈ dPX9_read_q0, decode cX9_read x.1 = .ok x.2 := by decide +kernel
theorem dX9_read_0 : decode cX9_read 0 = .ok (.aload_n 0, 1) := dc_at (f := decode cX9_read) dAX9_read_q0 0 rfl
theorem dX9_read_1 : decode cX9_read 1 = .ok (.invokevirtual 29, 3) := dc_at (f := decode cX9_read) dAX9_read_q0 1 rfl
theorem dX9_read_4 : decode cX9_read 4 = .ok (.iconst 0, 1) := dc_at (f := decode cX9_read) dAX9_read_q0 2 rfl
theorem dX9_read_5 : decode cX9_read 5 = .ok (.istore_n 2, 1) := dc_at (f := decode cX9_read) dAX9_read_q0 3 rfl
theorem dX9_read_6 : decode cX9_read 6 = .ok (.iconst 0, 1) := dc_at (f := decode cX9_read) dAX9_read_q0 4 rfl
theorem dX9_read_7 : decode cX9_read 7 = .ok (.istore_n 3, 1) := dc_at (f := decode cX9_read) dAX9_read_q0 5 rfl
theorem dX9_read_8 : decode cX9_read 8 = .ok (.iload_n 3, 1) := dc_at (f := decode cX9_read) dAX9_read_q0 6 rfl
theorem dX9_read_9 : decode cX9_read 9 = .ok (.bipush 6, 2) := dc_at (f := decode cX9_read) dAX9_read_q0 7 rfl
theorem dX9_read_11 : decode cX9_read 11 = .ok (.if_icmp .gt 40, 3) := dc_at (f := decode cX9_read) dAX9_read_q0 8 rfl
theorem dX9_read_14 : decode cX9_read 14 = .ok (.aload_n 0, 1) := dc_at (f := decode cX9_read) dAX9_read_q0 9 rfl
theorem dX9_read_15 : decode cX9_read 15 = .ok (.aload_n 1, 1) := dc_at (f := decode cX9_read) dAX9_read_q0 10 rfl
theorem dX9_read_16 : decode cX9_read 16 = .ok (.invokevirtual 32, 3) := dc_at (f := decode cX9_read) dAX9_read_q0 11 rfl
theorem dX9_read_19 : decode cX9_read 19 = .ok (.aload_n 0, 1) := dc_at (f := decode cX9_read) dAX9_read_q0 12 rfl
theorem dX9_read_20 : decode cX9_read 20 = .ok (.getfield 36, 3) := dc_at (f := decode cX9_read) dAX9_read_q0 13 rfl
theorem dX9_read_23 : decode cX9_read 23 = .ok (.ifCond .ne 5, 3) := dc_at (f := decode cX9_read) dAX9_read_q0 14 rfl
theorem dX9_read_26 : decode cX9_read 26 = .ok (.iload_n 2, 1) := dc_at (f := decode cX9_read) dAX9_read_q0 15 rfl
theorem dX9_read_27 : decode cX9_read 27 = .ok (.ireturn, 1) := dc_at (f := decode cX9_read) dAX9_read_q0 16 rfl
theorem dX9_read_28 : decode cX9_read 28 = .ok (.aload_n 0, 1) := dc_at (f := decode cX9_read) dAX9_read_q0 17 rfl
theorem dX9_read_29 : decode cX9_read 29 = .ok (.aload_n 1, 1) := dc_at (f := decode cX9_read) dAX9_read_q0 18 rfl
theorem dX9_read_30 : decode cX9_read 30 = .ok (.invokevirtual 39, 3) := dc_at (f := decode cX9_read) dAX9_read_q0 19 rfl
theorem dX9_read_33 : decode cX9_read 33 = .ok (.aload_n 0, 1) := dc_at (f := decode cX9_read) dAX9_read_q0 20 rfl
theorem dX9_read_34 : decode cX9_read 34 = .ok (.getfield 26, 3) := dc_at (f := decode cX9_read) dAX9_read_q0 21 rfl
theorem dX9_read_37 : decode cX9_read 37 = .ok (.ifCond .eq 5, 3) := dc_at (f := decode cX9_read) dAX9_read_q0 22 rfl
theorem dX9_read_40 : decode cX9_read 40 = .ok (.iconst (-1), 1) := dc_at (f := decode cX9_read) dAX9_read_q0 23 rfl
theorem dX9_read_41 : decode cX9_read 41 = .ok (.ireturn, 1) := dc_at (f := decode cX9_read) dAX9_read_q0 24 rfl
theorem dX9_read_42 : decode cX9_read 42 = .ok (.iinc 2 1, 3) := dc_at (f := decode cX9_read) dAX9_read_q0 25 rfl
theorem dX9_read_45 : decode cX9_read 45 = .ok (.iinc 3 1, 3) := dc_at (f := decode cX9_read) dAX9_read_q0 26 rfl
theorem dX9_read_48 : decode cX9_read 48 = .ok (.goto (-40), 3) := dc_at (f := decode cX9_read) dAX9_read_q0 27 rfl
def dPX9_startAnew_q0 : List (Nat × (Jvm.ClassFile.Instr × Nat)) := [(0, (.aload_n 0, 1)), (1, (.getfield 12, 3)), (4, (.invokevirtual 42, 3)), (7, (.iconst 0, 1)), (8, (.istore_n 1, 1)), (9, (.iload_n 1, 1)), (10, (.bipush 6, 2)), (12, (.if_icmp .ge 16, 3)), (15, (.aload_n 0, 1)), (16, (.getfield 18, 3)), (19, (.iload_n 1, 1)), (20, (.iconst 0, 1)), (21, (.bastore, 1)), (22, (.iinc 1 1, 3)), (25, (.goto (-16), 3)), (28, (.aload_n 0, 1)), (29, (.iconst 0, 1)), (30, (.putfield 45, 3)), (33, (.aload_n 0, 1)), (34, (.iconst 0, 1)), (35, (.putfield 26, 3)), (38, (.aload_n 0, 1)), (39, (.iconst (-1), 1)), (40, (.putfield 22, 3)), (43, (.return_, 1))]
theorem dAX9_startAnew_q0 : ∀ x ∈ dPX9_startAnew_q0, decode cX9_startAnew x.1 = .ok x.2 := by decide +kernel
theorem dX9_startAnew_0 : decode cX9_startAnew 0 = .ok (.aload_n 0, 1) := dc_at (f := decode cX9_startAnew) dAX9_startAnew_q0 0 rfl
theorem dX9_startAnew_1 : decode cX9_startAnew 1 = .ok (.getfield 12, 3) := dc_at (f := decode cX9_startAnew) dAX9_startAnew_q0 1 rfl
theorem dX9_startAnew_4 : decode cX9_startAnew 4 = .ok (.invokevirtual 42, 3) := dc_at (f := decode cX9_startAnew) dAX9_startAnew_q0 2 rfl
theorem dX9_startAnew_7 : decode cX9_startAnew 7 = .ok (.iconst 0, 1) := dc_at (f := decode cX9_startAnew) dAX9_startAnew_q0 3 rfl
theorem dX9_startAnew_8 : decode cX9_startAnew 8 = .ok (.istore_n 1, 1) := dc_at (f := decode cX9_startAnew) dAX9_startAnew_q0 4 rfl
theorem dX9_startAnew_9 : decode cX9_startAnew 9 = .ok (.iload_n 1, 1) := dc_at (f := decode cX9_startAnew) dAX9_startAnew_q0 5 rfl
theorem dX9_startAnew_10 : decode cX9_startAnew 10 = .ok (.bipush 6, 2) := dc_at (f := decode cX9_startAnew) dAX9_startAnew_q0 6 rfl
theorem dX9_startAnew_12 : decode cX9_startAnew 12 = .ok (.if_icmp .ge 16, 3) := dc_at (f := decode cX9_startAnew) dAX9_startAnew_q0 7 rfl
theorem dX9_startAnew_15 : decode cX9_startAnew 15 = .ok (.aload_n 0, 1) := dc_at (f := decode cX9_startAnew) dAX9_startAnew_q0 8 rfl
theorem dX9_startAnew_16 : decode cX9_startAnew 16 = .ok (.getfield 18, 3) := dc_at (f := decode cX9_startAnew) dAX9_startAnew_q0 9 rfl
theorem dX9_startAnew_19 : decode cX9_startAnew 19 = .ok (.iload_n 1, 1) := dc_at (f := decode cX9_startAnew) dAX9_startAnew_q0 10 rfl
theorem dX9_startAnew_20 : decode cX9_startAnew 20 = .ok (.iconst 0, 1) := dc_at (f := decode cX9_startAnew) dAX9_startAnew_q0 11 rfl
theorem dX9_startAnew_21 : decode cX9_startAnew 21 = .ok (.bastore, 1) := dc_at (f := decode cX9_startAnew) dAX9_startAnew_q0 12 rfl
theorem dX9_startAnew_22 : decode cX9_startAnew 22 = .ok (.iinc 1 1, 3) := dc_at (f := decode cX9_startAnew) dAX9_startAnew_q0 13 rfl
theorem dX9_startAnew_25 : decode cX9_startAnew 25 = .ok (.goto (-16), 3) := dc_at (f := decode cX9_startAnew) dAX9_startAnew_q0 14 rfl
theorem dX9_startAnew_28 : decode cX9_startAnew 28 = .ok (.aload_n 0, 1) := dc_at (f := decode cX9_startAnew) dAX9_startAnew_q0 15 rfl
theorem dX9_startAnew_29 : decode cX9_startAnew 29 = .ok (.iconst 0, 1) := dc_at (f := decode cX9_startAnew) dAX9_startAnew_q0 16 rfl
theorem dX9_startAnew_30 : decode cX9_startAnew 30 = .ok (.putfield 45, 3) := dc_at (f := decode cX9_startAnew) dAX9_startAnew_q0 17 rfl
theorem dX9_startAnew_33 : decode cX9_startAnew 33 = .ok (.aload_n 0, 1) := dc_at (f := decode cX9_startAnew) dAX9_startAnew_q0 18 rfl
theorem dX9_startAnew_34 : decode cX9_startAnew 34 = .ok (.iconst 0, 1) := dc_at (f := decode cX9_startAnew) dAX9_startAnew_q0 19 rfl
theorem dX9_startAnew_35 : decode cX9_startAnew 35 = .ok (.putfield 26, 3) := dc_at (f := decode cX9_startAnew) dAX9_startAnew_q0 20 rfl
theorem dX9_startAnew_38 : decode cX9_startAnew 38 = .ok (.aload_n 0, 1) := dc_at (f := decode cX9_startAnew) dAX9_startAnew_q0 21 rfl
theorem dX9_startAnew_39 : decode cX9_startAnew 39 = .ok (.iconst (-1), 1) := dc_at (f := decode cX9_startAnew) dAX9_startAnew_q0 22 rfl
theorem dX9_startAnew_40 : decode cX9_startAnew 40 = .ok (.putfield 22, 3) := dc_at (f := decode cX9_startAnew) dAX9_startAnew_q0 23 rfl
theorem dX9_startAnew_43 : decode cX9_startAnew 43 = .ok (.return_, 1) := dc_at (f := decode cX9_startAnew) dAX9_startAnew_q0 24 rfl
def dPX9_refuse_q0 : List (Nat × (Jvm.ClassFile.Instr × Nat)) := [(0, (.aload_n 0, 1)), (1, (.iload_n 1, 1)), (2, (.putfield 26, 3)), (5, (.aload_n 0, 1)), (6, (.aload_n 0, 1)), (7, (.getfield 48, 3)), (10, (.putfield 22, 3)), (13, (.return_, 1))]
theorem dAX9_refuse_q0 : ∀ x ∈ dPX9_refuse_q0, decode cX9_refuse x.1 = .ok x.2 := by decide +kernel
theorem dX9_refuse_0 : decode cX9_refuse 0 = .ok (.aload_n 0, 1) := dc_at (f := decode cX9_refuse) dAX9_refuse_q0 0 rfl
theorem dX9_refuse_1 : decode cX9_refuse 1 = .ok (.iload_n 1, 1) := dc_at (f := decode cX9_refuse) dAX9_refuse_q0 1 rfl
theorem dX9_refuse_2 : decode cX9_refuse 2 = .ok (.putfield 26, 3) := dc_at (f := decode cX9_refuse) dAX9_refuse_q0 2 rfl
theorem dX9_refuse_5 : decode cX9_refuse 5 = .ok (.aload_n 0, 1) := dc_at (f := decode cX9_refuse) dAX9_refuse_q0 3 rfl
theorem dX9_refuse_6 : decode cX9_refuse 6 = .ok (.aload_n 0, 1) := dc_at (f := decode cX9_refuse) dAX9_refuse_q0 4 rfl
theorem dX9_refuse_7 : decode cX9_refuse 7 = .ok (.getfield 48, 3) := dc_at (f := decode cX9_refuse) dAX9_refuse_q0 5 rfl
theorem dX9_refuse_10 : decode cX9_refuse 10 = .ok (.putfield 22, 3) := dc_at (f := decode cX9_refuse) dAX9_refuse_q0 6 rfl
theorem dX9_refuse_13 : decode cX9_refuse 13 = .ok (.return_, 1) := dc_at (f := decode cX9_refuse) dAX9_refuse_q0 7 rfl
def dPX9_readLine_q0 : List (Nat × (Jvm.ClassFile.Instr × Nat)) := [(0, (.aload_n 0, 1)), (1, (.getfield 36, 3)), (4, (.iconst 1, 1)), (5, (.if_icmp .ne 11, 3)), (8, (.aload_n 0, 1)), (9, (.aload_n 1, 1)), (10, (.invokevirtual 51, 3)), (13, (.goto 4, 3)), (16, (.iconst (-1), 1)), (17, (.istore_n 2, 1)), (18, (.iload_n 2, 1)), (19, (.ifCond .lt 9, 3)), (22, (.iload_n 2, 1)), (23, (.bipush 6, 2)), (25, (.if_icmp .lt 9, 3)), (28, (.aload_n 0, 1)), (29, (.iconst 1, 1)), (30, (.invokevirtual 55, 3)), (33, (.return_, 1)), (34, (.aload_n 0, 1)), (35, (.getfield 18, 3)), (38, (.iload_n 2, 1)), (39, (.baload, 1)), (40, (.ifCond .eq 9, 3)), (43, (.aload_n 0, 1)), (44, (.iconst 3, 1)), (45, (.invokevirtual 55, 3)), (48, (.return_, 1)), (49, (.aload_n 0, 1)), (50, (.getfield 18, 3)), (53, (.iload_n 2, 1)), (54, (.iconst 1, 1)), (55, (.bastore, 1)), (56, (.iload_n 2, 1)), (57, (.iconst 5, 1)), (58, (.if_icmp .ne 11, 3)), (61, (.aload_n 0, 1)), (62, (.aload_n 1, 1)), (63, (.invokevirtual 59, 3)), (66, (.goto 9, 3)), (69, (.aload_n 0, 1)), (70, (.aload_n 1, 1)), (71, (.iload_n 2, 1)), (72, (.invokevirtual 62, 3)), (75, (.aload_n 0, 1)), (76, (.getfield 26, 3)), (79, (.ifCond .ne 21, 3)), (82, (.aload_n 0, 1))]
theorem dAX9_readLine_q0 : ∀ x ∈ dPX9_readLine_q0, decode cX9_readLine x.1 = .ok x.2 := by decide +kernel
theorem dX9_readLine_0 : decode cX9_readLine 0 = .ok (.aload_n 0, 1) := dc_at (f := decode cX9_readLine) dAX9_readLine_q0 0 rfl
theorem dX9_readLine_1 : decode cX9_readLine 1 = .ok (.getfield 36, 3) := dc_at (f := decode cX9_readLine) dAX9_readLine_q0 1 rfl
theorem dX9_readLine_4 : decode cX9_readLine 4 = .ok (.iconst 1, 1) := dc_at (f := decode cX9_readLine) dAX9_readLine_q0 2 rfl
theorem dX9_readLine_5 : decode cX9_readLine 5 = .ok (.if_icmp .ne 11, 3) := dc_at (f := decode cX9_readLine) dAX9_readLine_q0 3 rfl
theorem dX9_readLine_8 : decode cX9_readLine 8 = .ok (.aload_n 0, 1) := dc_at (f := decode cX9_readLine) dAX9_readLine_q0 4 rfl
theorem dX9_readLine_9 : decode cX9_readLine 9 = .ok (.aload_n 1, 1) := dc_at (f := decode cX9_readLine) dAX9_readLine_q0 5 rfl
theorem dX9_readLine_10 : decode cX9_readLine 10 = .ok (.invokevirtual 51, 3) := dc_at (f := decode cX9_readLine) dAX9_readLine_q0 6 rfl
theorem dX9_readLine_13 : decode cX9_readLine 13 = .ok (.goto 4, 3) := dc_at (f := decode cX9_readLine) dAX9_readLine_q0 7 rfl
theorem dX9_readLine_16 : decode cX9_readLine 16 = .ok (.iconst (-1), 1) := dc_at (f := decode cX9_readLine) dAX9_readLine_q0 8 rfl
theorem dX9_readLine_17 : decode cX9_readLine 17 = .ok (.istore_n 2, 1) := dc_at (f := decode cX9_readLine) dAX9_readLine_q0 9 rfl
theorem dX9_readLine_18 : decode cX9_readLine 18 = .ok (.iload_n 2, 1) := dc_at (f := decode cX9_readLine) dAX9_readLine_q0 10 rfl
theorem dX9_readLine_19 : decode cX9_readLine 19 = .ok (.ifCond .lt 9, 3) := dc_at (f := decode cX9_readLine) dAX9_readLine_q0 11 rfl
theorem dX9_readLine_22 : decode cX9_readLine 22 = .ok (.iload_n 2, 1) := dc_at (f := decode cX9_readLine) dAX9_readLine_q0 12 rfl
theorem dX9_readLine_23 : decode cX9_readLine 23 = .ok (.bipush 6, 2) := dc_at (f := decode cX9_readLine) dAX9_readLine_q0 13 rfl
theorem dX9_readLine_25 : decode cX9_readLine 25 = .ok (.if_icmp .lt 9, 3) := dc_at (f := decode cX9_readLine) dAX9_readLine_q0 14 rfl
theorem dX9_readLine_28 : decode cX9_readLine 28 = .ok (.aload_n 0, 1) := dc_at (f := decode cX9_readLine) dAX9_readLine_q0 15 rfl
theorem dX9_readLine_29 : decode cX9_readLine 29 = .ok (.iconst 1, 1) := dc_at (f := decode cX9_readLine) dAX9_readLine_q0 16 rfl
theorem dX9_readLine_30 : decode cX9_readLine 30 = .ok (.invokevirtual 55, 3) := dc_at (f := decode cX9_readLine) dAX9_readLine_q0 17 rfl
theorem dX9_readLine_33 : decode cX9_readLine 33 = .ok (.return_, 1) := dc_at (f := decode cX9_readLine) dAX9_readLine_q0 18 rfl
theorem dX9_readLine_34 : decode cX9_readLine 34 = .ok (.aload_n 0, 1) := dc_at (f := decode cX9_readLine) dAX9_readLine_q0 19 rfl
theorem dX9_readLine_35 : decode cX9_readLine 35 = .ok (.getfield 18, 3) := dc_at (f := decode cX9_readLine) dAX9_readLine_q0 20 rfl
theorem dX9_readLine_38 : decode cX9_readLine 38 = .ok (.iload_n 2, 1) := dc_at (f := decode cX9_readLine) dAX9_readLine_q0 21 rfl
theorem dX9_readLine_39 : decode cX9_readLine 39 = .ok (.baload, 1) := dc_at (f := decode cX9_readLine) dAX9_readLine_q0 22 rfl
theorem dX9_readLine_40 : decode cX9_readLine 40 = .ok (.ifCond .eq 9, 3) := dc_at (f := decode cX9_readLine) dAX9_readLine_q0 23 rfl
theorem dX9_readLine_43 : decode cX9_readLine 43 = .ok (.aload_n 0, 1) := dc_at (f := decode cX9_readLine) dAX9_readLine_q0 24 rfl
theorem dX9_readLine_44 : decode cX9_readLine 44 = .ok (.iconst 3, 1) := dc_at (f := decode cX9_readLine) dAX9_readLine_q0 25 rfl
theorem dX9_readLine_45 : decode cX9_readLine 45 = .ok (.invokevirtual 55, 3) := dc_at (f := decode cX9_readLine) dAX9_readLine_q0 26 rfl
theorem dX9_readLine_48 : decode cX9_readLine 48 = .ok (.return_, 1) := dc_at (f := decode cX9_readLine) dAX9_readLine_q0 27 rfl
theorem dX9_readLine_49 : decode cX9_readLine 49 = .ok (.aload_n 0, 1) := dc_at (f := decode cX9_readLine) dAX9_readLine_q0 28 rfl
theorem dX9_readLine_50 : decode cX9_readLine 50 = .ok (.getfield 18, 3) := dc_at (f := decode cX9_readLine) dAX9_readLine_q0 29 rfl
theorem dX9_readLine_53 : decode cX9_readLine 53 = .ok (.iload_n 2, 1) := dc_at (f := decode cX9_readLine) dAX9_readLine_q0 30 rfl
theorem dX9_readLine_54 : decode cX9_readLine 54 = .ok (.iconst 1, 1) := dc_at (f := decode cX9_readLine) dAX9_readLine_q0 31 rfl
theorem dX9_readLine_55 : decode cX9_readLine 55 = .ok (.bastore, 1) := dc_at (f := decode cX9_readLine) dAX9_readLine_q0 32 rfl
theorem dX9_readLine_56 : decode cX9_readLine 56 = .ok (.iload_n 2, 1) := dc_at (f := decode cX9_readLine) dAX9_readLine_q0 33 rfl
theorem dX9_readLine_57 : decode cX9_readLine 57 = .ok (.iconst 5, 1) := dc_at (f := decode cX9_readLine) dAX9_readLine_q0 34 rfl
theorem dX9_readLine_58 : decode cX9_readLine 58 = .ok (.if_icmp .ne 11, 3) := dc_at (f := decode cX9_readLine) dAX9_readLine_q0 35 rfl
theorem dX9_readLine_61 : decode cX9_readLine 61 = .ok (.aload_n 0, 1) := dc_at (f := decode cX9_readLine) dAX9_readLine_q0 36 rfl
theorem dX9_readLine_62 : decode cX9_readLine 62 = .ok (.aload_n 1, 1) := dc_at (f := decode cX9_readLine) dAX9_readLine_q0 37 rfl
theorem dX9_readLine_63 : decode cX9_readLine 63 = .ok (.invokevirtual 59, 3) := dc_at (f := decode cX9_readLine) dAX9_readLine_q0 38 rfl
theorem dX9_readLine_66 : decode cX9_readLine 66 = .ok (.goto 9, 3) := dc_at (f := decode cX9_readLine) dAX9_readLine_q0 39 rfl
theorem dX9_readLine_69 : decode cX9_readLine 69 = .ok (.aload_n 0, 1) := dc_at (f := decode cX9_readLine) dAX9_readLine_q0 40 rfl
theorem dX9_readLine_70 : decode cX9_readLine 70 = .ok (.aload_n 1, 1) := dc_at (f := decode cX9_readLine) dAX9_readLine_q0 41 rfl
theorem dX9_readLine_71 : decode cX9_readLine 71 = .ok (.iload_n 2, 1) := dc_at (f := decode cX9_readLine) dAX9_readLine_q0 42 rfl
theorem dX9_readLine_72 : decode cX9_readLine 72 = .ok (.invokevirtual 62, 3) := dc_at (f := decode cX9_readLine) dAX9_readLine_q0 43 rfl
theorem dX9_readLine_75 : decode cX9_readLine 75 = .ok (.aload_n 0, 1) := dc_at (f := decode cX9_readLine) dAX9_readLine_q0 44 rfl
theorem dX9_readLine_76 : decode cX9_readLine 76 = .ok (.getfield 26, 3) := dc_at (f := decode cX9_readLine) dAX9_readLine_q0 45 rfl
theorem dX9_readLine_79 : decode cX9_readLine 79 = .ok (.ifCond .ne 21, 3) := dc_at (f := decode cX9_readLine) dAX9_readLine_q0 46 rfl
theorem dX9_readLine_82 : decode cX9_readLine 82 = .ok (.aload_n 0, 1) := dc_at (f := decode cX9_readLine) dAX9_readLine_q0 47 rfl

