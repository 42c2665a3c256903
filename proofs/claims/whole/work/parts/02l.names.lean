theorem dL_inCopy_15 : decode cL_inCopy 15 = .ok (.iconst 0, 1) := by decide +kernel
theorem dL_inCopy_16 : decode cL_inCopy 16 = .ok (.ireturn, 1) := by decide +kernel
theorem dL_law_0 : decode cL_law 0 = .ok (.new 8, 3) := by decide +kernel
