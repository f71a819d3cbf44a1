/-! THE LAW, 5: its run, behind the constructors. -/
theorem lw_b12 : lw_chk lwK12 = true := by decide +kernel
theorem lw_b13 : lw_chk lwK13 = true := by decide +kernel
theorem lw_b14 : lw_chk lwK14 = true := by decide +kernel
