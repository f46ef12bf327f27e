theorem dL_law_1962 : decode cL_law 1962 = .ok (.iload 13, 2) := by decide +kernel
theorem dL_law_1964 : decode cL_law 1964 = .ok (.ireturn, 1) := by decide +kernel
