/-! THE LAW, 5: its run, behind the constructors. -/
theorem lw_b24 : lw_chk lwK24 = true := by decide +kernel
theorem lw_b25 : lw_chk lwK25 = true := by decide +kernel
theorem lw_b26 : lw_chk lwK26 = true := by decide +kernel
