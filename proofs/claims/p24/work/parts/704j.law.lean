/-! THE LAW, 5: its run, behind the constructors. -/
theorem lw_b18 : lw_chk lwK18 = true := by decide +kernel
theorem lw_b19 : lw_chk lwK19 = true := by decide +kernel
theorem lw_b20 : lw_chk lwK20 = true := by decide +kernel
