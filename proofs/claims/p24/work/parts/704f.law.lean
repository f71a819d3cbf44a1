/-! THE LAW, 5: its run, behind the constructors. -/
theorem lw_b6 : lw_chk lwK6 = true := by decide +kernel
theorem lw_b7 : lw_chk lwK7 = true := by decide +kernel
theorem lw_b8 : lw_chk lwK8 = true := by decide +kernel
