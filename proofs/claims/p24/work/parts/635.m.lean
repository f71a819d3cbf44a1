/-! METHODS (printed by wip/t6) -/
theorem ecX12_scan_tk_80_9 : vcX12_scan_tk 80 bcX12_scan_tk_80_9 = true := by decide +kernel
theorem ecX12_scan_tk_80_10 : vcX12_scan_tk 80 bcX12_scan_tk_80_10 = true := by decide +kernel
theorem ecX12_scan_tk_185_0 : vcX12_scan_tk 185 bcX12_scan_tk_185_0 = true := by decide +kernel

