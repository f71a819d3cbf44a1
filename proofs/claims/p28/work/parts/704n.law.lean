/-! THE LAW, 5: its run, behind the constructors. -/
theorem lw_b30_0 : lw_chk (949, [lwB30_0]) = true := by decide +kernel
theorem lw_b30_1 : lw_chk (949, [lwB30_1]) = true := by decide +kernel
theorem lw_b30_2 : lw_chk (949, [lwB30_2]) = true := by decide +kernel
