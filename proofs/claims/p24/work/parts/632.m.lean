/-! METHODS (printed by wip/t6) -/
theorem ecX12_keyAt_tk_104_11 : vcX12_keyAt_tk 104 bcX12_keyAt_tk_104_11 = true := by decide +kernel
theorem ecX12_keyAt_tk_104_12 : vcX12_keyAt_tk 104 bcX12_keyAt_tk_104_12 = true := by decide +kernel
theorem ecX12_keyAt_tk_104_13 : vcX12_keyAt_tk 104 bcX12_keyAt_tk_104_13 = true := by decide +kernel

