theorem dL_law_859 : decode cL_law 859 = .ok (.ireturn, 1) := by decide +kernel

