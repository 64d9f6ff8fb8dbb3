theorem dL_law_3158 : decode cL_law 3158 = .ok (.iconst 1, 1) := by decide +kernel
theorem dL_law_3159 : decode cL_law 3159 = .ok (.ireturn, 1) := by decide +kernel
