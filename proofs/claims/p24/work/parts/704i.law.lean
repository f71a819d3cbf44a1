/-! THE LAW, 5: its run, behind the constructors. -/
theorem lw_b15 : lw_chk lwK15 = true := by decide +kernel
theorem lw_b16 : lw_chk lwK16 = true := by decide +kernel
theorem lw_b17 : lw_chk lwK17 = true := by decide +kernel
