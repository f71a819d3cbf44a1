/-! METHODS (printed by wip/t6) -/
theorem ecX11_init_rz_111_0 : vcX11_init_rz 111 bcX11_init_rz_111_0 = true := by decide +kernel

