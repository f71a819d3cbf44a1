/-! METHODS (printed by wip/t6) -/
theorem ecX12_keyAt_tk_104_3 : vcX12_keyAt_tk 104 bcX12_keyAt_tk_104_3 = true := by decide +kernel
theorem ecX12_keyAt_tk_104_4 : vcX12_keyAt_tk 104 bcX12_keyAt_tk_104_4 = true := by decide +kernel
theorem ecX12_keyAt_tk_104_5 : vcX12_keyAt_tk 104 bcX12_keyAt_tk_104_5 = true := by decide +kernel
theorem ecX12_keyAt_tk_104_6 : vcX12_keyAt_tk 104 bcX12_keyAt_tk_104_6 = true := by decide +kernel

