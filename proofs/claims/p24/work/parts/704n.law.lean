/-! THE LAW, 5: its run, behind the constructors. -/
theorem lw_b27_3 : lw_chk (827, [lwB27_3]) = true := by decide +kernel
theorem lw_b27 : lw_chk lwK27 = true := lw_app lw_b27_0 (lw_app lw_b27_1 (lw_app lw_b27_2 (lw_b27_3)))
theorem lw_b28 : lw_chk lwK28 = true := by decide +kernel
theorem lw_b29 : lw_chk lwK29 = true := by decide +kernel
