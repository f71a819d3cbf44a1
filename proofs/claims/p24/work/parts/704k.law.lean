/-! THE LAW, 5: its run, behind the constructors. -/
theorem lw_b21 : lw_chk lwK21 = true := by decide +kernel
theorem lw_b22 : lw_chk lwK22 = true := by decide +kernel
theorem lw_b23 : lw_chk lwK23 = true := by decide +kernel
