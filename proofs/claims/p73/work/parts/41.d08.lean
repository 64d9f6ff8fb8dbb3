theorem dL_law_3158 : decode cL_law 3158 = .ok (.iconst 1, 1) := dq_4 (mm_sgA (A := lq_A98) (R := []) lq_s98 22 rfl rfl)
theorem dL_law_3159 : decode cL_law 3159 = .ok (.ireturn, 1) := dq_172 (mm_sgA (A := lq_A98) (R := []) lq_s98 23 rfl rfl)
