/-! the law's instructions -/
theorem dL_law__3342 : decode cL_law_ 3342 = .ok (.ireturn, 1) := by decide +kernel
