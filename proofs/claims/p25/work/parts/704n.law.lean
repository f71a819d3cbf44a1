/-! THE LAW, 5: its run, behind the constructors. -/
theorem lw_b28_2 : lw_chk (870, [lwB28_2]) = true := by decide +kernel
theorem lw_b28_3 : lw_chk (870, [lwB28_3]) = true := by decide +kernel
theorem lw_b28 : lw_chk lwK28 = true := lw_app lw_b28_0 (lw_app lw_b28_1 (lw_app lw_b28_2 (lw_b28_3)))
theorem lw_b29 : lw_chk lwK29 = true := by decide +kernel
