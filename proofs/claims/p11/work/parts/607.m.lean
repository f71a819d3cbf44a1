/-! METHODS (printed by wip/t6) -/
theorem ecX11_init_rz_279_0 : vcX11_init_rz 279 bcX11_init_rz_279_0 = true := by decide +kernel

