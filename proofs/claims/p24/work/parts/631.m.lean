/-! METHODS (printed by wip/t6) -/
theorem ecX12_keyAt_tk_104_7 : vcX12_keyAt_tk 104 bcX12_keyAt_tk_104_7 = true := by decide +kernel
theorem ecX12_keyAt_tk_104_8 : vcX12_keyAt_tk 104 bcX12_keyAt_tk_104_8 = true := by decide +kernel
theorem ecX12_keyAt_tk_104_9 : vcX12_keyAt_tk 104 bcX12_keyAt_tk_104_9 = true := by decide +kernel
theorem ecX12_keyAt_tk_104_10 : vcX12_keyAt_tk 104 bcX12_keyAt_tk_104_10 = true := by decide +kernel

