/-! the law's instructions -/
theorem dL_law_690 : decode cL_law 690 = .ok (.ireturn, 1) := by decide +kernel
