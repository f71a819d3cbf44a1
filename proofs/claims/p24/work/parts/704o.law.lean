/-! THE LAW, 5: its run, behind the constructors. -/
theorem lw_b30 : lw_chk lwK30 = true := by decide +kernel
theorem lw_b31 : lw_chk lwK31 = true := by decide +kernel
theorem lw_b32 : lw_chk lwK32 = true := by decide +kernel
