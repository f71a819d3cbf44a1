/-! THE LAW, 5: its run, behind the constructors. -/
theorem lw_b27 : lw_chk lwK27 = true := by decide +kernel
theorem lw_b28_0 : lw_chk (870, [lwB28_0]) = true := by decide +kernel
theorem lw_b28_1 : lw_chk (870, [lwB28_1]) = true := by decide +kernel
