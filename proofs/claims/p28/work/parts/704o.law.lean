/-! THE LAW, 5: its run, behind the constructors. -/
theorem lw_b30_3 : lw_chk (949, [lwB30_3]) = true := by decide +kernel
theorem lw_b30_4 : lw_chk (949, [lwB30_4]) = true := by decide +kernel
theorem lw_b30_5 : lw_chk (949, [lwB30_5]) = true := by decide +kernel
