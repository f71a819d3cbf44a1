/-! METHODS (printed by wip/t6) -/
theorem ecX11_init_rz_171_0 : vcX11_init_rz 171 bcX11_init_rz_171_0 = true := by decide +kernel

