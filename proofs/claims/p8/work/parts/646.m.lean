/-! METHODS (printed by wip/t4) -/
theorem ecX12_scan_m_80_7 : vcX12_scan_m 80 bcX12_scan_m_80_7 = true := by decide +kernel
theorem ecX12_scan_m_80_8 : vcX12_scan_m 80 bcX12_scan_m_80_8 = true := by decide +kernel
theorem ecX12_scan_m_80_9 : vcX12_scan_m 80 bcX12_scan_m_80_9 = true := by decide +kernel
theorem ecX12_scan_m_80_10 : vcX12_scan_m 80 bcX12_scan_m_80_10 = true := by decide +kernel
theorem ecX12_scan_m_185_0 : vcX12_scan_m 185 bcX12_scan_m_185_0 = true := by decide +kernel

