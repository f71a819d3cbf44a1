/-! THE LAW, 5: its run, behind the constructors. -/
theorem lw_b9 : lw_chk lwK9 = true := by decide +kernel
theorem lw_b10 : lw_chk lwK10 = true := by decide +kernel
theorem lw_b11 : lw_chk lwK11 = true := by decide +kernel
