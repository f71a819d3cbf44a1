/-! METHODS (printed by wip/t6) -/
theorem ecX11_init_rz_232_0 : vcX11_init_rz 232 bcX11_init_rz_232_0 = true := by decide +kernel

