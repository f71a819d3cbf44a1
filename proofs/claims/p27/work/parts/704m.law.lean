/-! THE LAW, 5: its run, behind the constructors. -/
theorem lw_b27 : lw_chk lwK27 = true := by decide +kernel
theorem lw_b28 : lw_chk lwK28 = true := by decide +kernel
theorem lw_b29 : lw_chk lwK29 = true := by decide +kernel
