/-! THE LAW, 5: its run, behind the constructors. -/
theorem lw_b27_0 : lw_chk (827, [lwB27_0]) = true := by decide +kernel
theorem lw_b27_1 : lw_chk (827, [lwB27_1]) = true := by decide +kernel
theorem lw_b27_2 : lw_chk (827, [lwB27_2]) = true := by decide +kernel
