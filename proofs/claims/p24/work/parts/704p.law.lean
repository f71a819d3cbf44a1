/-! THE LAW, 5: its run, behind the constructors. -/
theorem lw_b33 : lw_chk lwK33 = true := by decide +kernel
theorem lw_b34 : lw_chk lwK34 = true := by decide +kernel
theorem lw_b35 : lw_chk lwK35 = true := by decide +kernel
