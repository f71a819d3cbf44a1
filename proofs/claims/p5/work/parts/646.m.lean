/-! METHODS (printed by wip/t4) -/
theorem ecX12_scan_80_7 : vcX12_scan 80 bcX12_scan_80_7 = true := by decide +kernel
theorem ecX12_scan_80_8 : vcX12_scan 80 bcX12_scan_80_8 = true := by decide +kernel
theorem ecX12_scan_80_9 : vcX12_scan 80 bcX12_scan_80_9 = true := by decide +kernel
theorem ecX12_scan_80_10 : vcX12_scan 80 bcX12_scan_80_10 = true := by decide +kernel
theorem ecX12_scan_185_0 : vcX12_scan 185 bcX12_scan_185_0 = true := by decide +kernel

