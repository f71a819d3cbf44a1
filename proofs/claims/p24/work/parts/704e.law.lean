/-! THE LAW, 5: its run, behind the constructors. -/
theorem lw_b3 : lw_chk lwK3 = true := by decide +kernel
theorem lw_b4 : lw_chk lwK4 = true := by decide +kernel
theorem lw_b5 : lw_chk lwK5 = true := by decide +kernel
