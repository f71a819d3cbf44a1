/-! THE LAW, 5: its run, behind the constructors. -/
theorem lw_e2 : lw_ex2 16 lwA2 = true := by decide +kernel
theorem lw_e2b : lwAN2.all (fun q => q.2.all (fun B => lw_ex2 q.1 B && zk_pos B.2.2.1 (B.2.2.2.2.2.1.1, B.2.2.2.2.2.1.2 + 1))) = true := by decide +kernel
