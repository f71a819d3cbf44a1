/-! METHODS (printed by wip/t6) -/
def qcX3_init_r_123_135_k1z : zQ := ((4, 4), ([(2, 1, 0), (2, 2, 0), (2, 3, 0), (0, 0, 1)], ([(0, 0, 0)], [], [], []), ([(2, 123), (3, 135)], [], [], [(1, 3, [(3, 0, 0), (3, 0, 0), (3, 0, 0), (3, 0, 0), (0, 0, 0), (0, 0, 0), (0, 0, 0), (3, 0, 0), (0, 0, 0), (1, 0, 0), (0, 0, 0), (0, 0, 0), (0, 0, 0), (1, 0, 0)])], [], [])), [(none, ([(0, 0, 0)], [], [], []), ([(1, 128)], [], [], [], [], []))], ([], []), (19, 608))
def mcX3_init_r_123_135_k1z : zM := (yX3_init, cX3_init, 5, none, { frames := 2, cells := 19, slots := 608, locals := 44 }, qcX3_init_r_123_135_k1z)
def hcX3_init_r_123_135_k1z : zH := ([], [(74, [(6, 62), (1, 128)])], [], [(7, 60), (15, 61)], ([], 0, 0), 1)
theorem jcX3_init_r_123_135_k1z : zk_txok RX3 hcX3_init_r_123_135_k1z.2.2.2.2.1 := zk_txb_ok (p := (0, 0)) (by decide +kernel)
def xcX3_init_r_123_135_k1z : List zX := [(24, 3, 2, mcX2_init_rz)]
theorem wcX3_init_r_123_135_k1z : zk_hwsb zcl RX3 mcX3_init_r_123_135_k1z.rm xcX3_init_r_123_135_k1z [(314, 84, 312, 313, 0)] = true := by decide +kernel
theorem icX3_init_r_123_135_k1z : zk_idb zcl RX3 3 true mcX3_init_r_123_135_k1z = true := by decide +kernel
theorem ecX3_init_r_123_135_k1z : zk_run zcl zft zTT1 zPF1 zPB1 zk_noSU zLX3 3 true mcX3_init_r_123_135_k1z ftX3_init hcX3_init_r_123_135_k1z zULf0 xcX3_init_r_123_135_k1z 127 = true := by decide +kernel
theorem gcX3_init_r_123_135_k1z {D : zD} {l : Launch} (hD : zWD1 D) : zCs D l xcX3_init_r_123_135_k1z := ⟨tcX2_init_rz hD, trivial⟩
theorem tcX3_init_r_123_135_k1z {D : zD} {l : Launch} (hD : zWD1 D) : zC D l mcX3_init_r_123_135_k1z := zk_methC1 hD poolX3 icX3_init_r_123_135_k1z jcX3_init_r_123_135_k1z ftX3_init_ok (gcX3_init_r_123_135_k1z hD) wcX3_init_r_123_135_k1z ecX3_init_r_123_135_k1z
def ftX4_init : List (Nat × List (Nat × Instr × Nat)) := [(26, [(0, .aload_n 0, 1), (1, .invokespecial 3, 3), (4, .aload_n 0, 1), (5, .bipush 80, 2), (7, .newarray .long, 2), (9, .putfield 9, 3), (12, .aload_n 0, 1), (13, .bipush 80, 2), (15, .newarray .long, 2), (17, .putfield 15, 3), (20, .aload_n 0, 1), (21, .bipush 80, 2), (23, .newarray .int, 2), (25, .putfield 18, 3)]), (45, [(28, .aload_n 0, 1), (29, .bipush 80, 2), (31, .newarray .int, 2), (33, .putfield 22, 3), (36, .aload_n 0, 1), (37, .bipush 80, 2), (39, .newarray .int, 2), (41, .putfield 25, 3), (44, .return_, 1)])]
theorem ftX4_init_ok : zk_ftb cX4_init ftX4_init = true := by decide +kernel
def qcX4_init_r_Bz : zQ := ((2, 2), ([(2, 1, 0)], ([(0, 0, 0)], [], [], []), ([], [], [], [(1, 4, [(3, 0, 0), (3, 0, 0), (3, 0, 0), (3, 0, 0), (3, 0, 0), (0, 0, 0), (0, 0, 0)])], [], [])), [(none, ([(0, 0, 0)], [], [], []), ([(1, 130)], [(1, 4, 5, (0, 0, 0)), (1, 4, 6, (0, 0, 0))], [], [], [], []))], ([], []), (5, 400))
def mcX4_init_r_Bz : zM := (yX4_init, cX4_init, 1, none, { frames := 1, cells := 5, slots := 400, locals := 24 }, qcX4_init_r_Bz)
def hcX4_init_r_Bz : zH := ([], [(44, [(1, 130)])], [], [(7, 137), (15, 138), (23, 139), (31, 140), (39, 141)], ([], 0, 0), 1)
theorem jcX4_init_r_Bz : zk_txok RX4 hcX4_init_r_Bz.2.2.2.2.1 := zk_txb_ok (p := (0, 0)) (by decide +kernel)
def xcX4_init_r_Bz : List zX := []
theorem wcX4_init_r_Bz : zk_hwsb zcl RX4 mcX4_init_r_Bz.rm xcX4_init_r_Bz [] = true := by decide +kernel
theorem icX4_init_r_Bz : zk_idb zcl RX4 4 true mcX4_init_r_Bz = true := by decide +kernel
theorem ecX4_init_r_Bz : zk_run zcl zft zTT1 zPF1 zPB1 zk_noSU zLX4 4 true mcX4_init_r_Bz ftX4_init hcX4_init_r_Bz zULf0 xcX4_init_r_Bz 25 = true := by decide +kernel
theorem gcX4_init_r_Bz {D : zD} {l : Launch} (hD : zWD1 D) : zCs D l xcX4_init_r_Bz := trivial
theorem tcX4_init_r_Bz {D : zD} {l : Launch} (hD : zWD1 D) : zC D l mcX4_init_r_Bz := zk_methC1 hD poolX4 icX4_init_r_Bz jcX4_init_r_Bz ftX4_init_ok (gcX4_init_r_Bz hD) wcX4_init_r_Bz ecX4_init_r_Bz
def qcX4_init_r_Cz : zQ := ((2, 2), ([(2, 1, 0)], ([(0, 0, 0)], [], [], []), ([], [], [], [(1, 4, [(3, 0, 0), (3, 0, 0), (3, 0, 0), (3, 0, 0), (3, 0, 0), (0, 0, 0), (0, 0, 0)])], [], [])), [(none, ([(0, 0, 0)], [], [], []), ([(1, 131)], [(1, 4, 5, (0, 0, 0)), (1, 4, 6, (0, 0, 0))], [], [], [], []))], ([], []), (5, 400))
def mcX4_init_r_Cz : zM := (yX4_init, cX4_init, 1, none, { frames := 1, cells := 5, slots := 400, locals := 24 }, qcX4_init_r_Cz)
def hcX4_init_r_Cz : zH := ([], [(44, [(1, 131)])], [], [(7, 142), (15, 143), (23, 144), (31, 145), (39, 146)], ([], 0, 0), 1)
theorem jcX4_init_r_Cz : zk_txok RX4 hcX4_init_r_Cz.2.2.2.2.1 := zk_txb_ok (p := (0, 0)) (by decide +kernel)
def xcX4_init_r_Cz : List zX := []
theorem wcX4_init_r_Cz : zk_hwsb zcl RX4 mcX4_init_r_Cz.rm xcX4_init_r_Cz [] = true := by decide +kernel
theorem icX4_init_r_Cz : zk_idb zcl RX4 4 true mcX4_init_r_Cz = true := by decide +kernel
theorem ecX4_init_r_Cz : zk_run zcl zft zTT1 zPF1 zPB1 zk_noSU zLX4 4 true mcX4_init_r_Cz ftX4_init hcX4_init_r_Cz zULf0 xcX4_init_r_Cz 25 = true := by decide +kernel
theorem gcX4_init_r_Cz {D : zD} {l : Launch} (hD : zWD1 D) : zCs D l xcX4_init_r_Cz := trivial
theorem tcX4_init_r_Cz {D : zD} {l : Launch} (hD : zWD1 D) : zC D l mcX4_init_r_Cz := zk_methC1 hD poolX4 icX4_init_r_Cz jcX4_init_r_Cz ftX4_init_ok (gcX4_init_r_Cz hD) wcX4_init_r_Cz ecX4_init_r_Cz
def qcX4_init_r_Dz : zQ := ((2, 2), ([(2, 1, 0)], ([(0, 0, 0)], [], [], []), ([], [], [], [(1, 4, [(3, 0, 0), (3, 0, 0), (3, 0, 0), (3, 0, 0), (3, 0, 0), (0, 0, 0), (0, 0, 0)])], [], [])), [(none, ([(0, 0, 0)], [], [], []), ([(1, 132)], [(1, 4, 5, (0, 0, 0)), (1, 4, 6, (0, 0, 0))], [], [], [], []))], ([], []), (5, 400))
def mcX4_init_r_Dz : zM := (yX4_init, cX4_init, 1, none, { frames := 1, cells := 5, slots := 400, locals := 24 }, qcX4_init_r_Dz)
def hcX4_init_r_Dz : zH := ([], [(44, [(1, 132)])], [], [(7, 147), (15, 148), (23, 149), (31, 150), (39, 151)], ([], 0, 0), 1)
theorem jcX4_init_r_Dz : zk_txok RX4 hcX4_init_r_Dz.2.2.2.2.1 := zk_txb_ok (p := (0, 0)) (by decide +kernel)
def xcX4_init_r_Dz : List zX := []
theorem wcX4_init_r_Dz : zk_hwsb zcl RX4 mcX4_init_r_Dz.rm xcX4_init_r_Dz [] = true := by decide +kernel
theorem icX4_init_r_Dz : zk_idb zcl RX4 4 true mcX4_init_r_Dz = true := by decide +kernel
theorem ecX4_init_r_Dz : zk_run zcl zft zTT1 zPF1 zPB1 zk_noSU zLX4 4 true mcX4_init_r_Dz ftX4_init hcX4_init_r_Dz zULf0 xcX4_init_r_Dz 25 = true := by decide +kernel
theorem gcX4_init_r_Dz {D : zD} {l : Launch} (hD : zWD1 D) : zCs D l xcX4_init_r_Dz := trivial
theorem tcX4_init_r_Dz {D : zD} {l : Launch} (hD : zWD1 D) : zC D l mcX4_init_r_Dz := zk_methC1 hD poolX4 icX4_init_r_Dz jcX4_init_r_Dz ftX4_init_ok (gcX4_init_r_Dz hD) wcX4_init_r_Dz ecX4_init_r_Dz
def qcX4_init_rz : zQ := ((2, 2), ([(2, 1, 0)], ([(0, 0, 0)], [], [], []), ([], [], [], [(1, 4, [(3, 0, 0), (3, 0, 0), (3, 0, 0), (3, 0, 0), (3, 0, 0), (0, 0, 0), (0, 0, 0)])], [], [])), [(none, ([(0, 0, 0)], [], [], []), ([(1, 31)], [(1, 4, 5, (0, 0, 0)), (1, 4, 6, (0, 0, 0))], [], [], [], []))], ([], []), (5, 400))
def mcX4_init_rz : zM := (yX4_init, cX4_init, 1, none, { frames := 1, cells := 5, slots := 400, locals := 24 }, qcX4_init_rz)
def hcX4_init_rz : zH := ([], [(44, [(1, 31)])], [], [(7, 47), (15, 48), (23, 49), (31, 50), (39, 51)], ([], 0, 0), 1)
theorem jcX4_init_rz : zk_txok RX4 hcX4_init_rz.2.2.2.2.1 := zk_txb_ok (p := (0, 0)) (by decide +kernel)
def xcX4_init_rz : List zX := []
theorem wcX4_init_rz : zk_hwsb zcl RX4 mcX4_init_rz.rm xcX4_init_rz [] = true := by decide +kernel
theorem icX4_init_rz : zk_idb zcl RX4 4 true mcX4_init_rz = true := by decide +kernel
theorem ecX4_init_rz : zk_run zcl zft zTT1 zPF1 zPB1 zk_noSU zLX4 4 true mcX4_init_rz ftX4_init hcX4_init_rz zULf0 xcX4_init_rz 25 = true := by decide +kernel
theorem gcX4_init_rz {D : zD} {l : Launch} (hD : zWD1 D) : zCs D l xcX4_init_rz := trivial
theorem tcX4_init_rz {D : zD} {l : Launch} (hD : zWD1 D) : zC D l mcX4_init_rz := zk_methC1 hD poolX4 icX4_init_rz jcX4_init_rz ftX4_init_ok (gcX4_init_rz hD) wcX4_init_rz ecX4_init_rz
def ftX5_init : List (Nat × List (Nat × Instr × Nat)) := [(18, [(0, .aload_n 0, 1), (1, .invokespecial 3, 3), (4, .aload_n 0, 1), (5, .iconst 2, 1), (6, .anewarray 9, 3), (9, .dup, 1), (10, .iconst 0, 1), (11, .aload_n 1, 1), (12, .aastore, 1), (13, .dup, 1), (14, .iconst 1, 1), (15, .aload_n 2, 1), (16, .aastore, 1), (17, .putfield 11, 3)]), (21, [(20, .return_, 1)])]
theorem ftX5_init_ok : zk_ftb cX5_init ftX5_init = true := by decide +kernel
def qcX5_init_r_37_127z : zQ := ((4, 4), ([(2, 1, 0), (2, 2, 0), (2, 3, 0)], ([(0, 0, 0)], [], [], []), ([(2, 37), (3, 127)], [], [], [(1, 5, [(3, 0, 0), (0, 0, 0), (0, 0, 0), (0, 0, 0)])], [], [])), [(none, ([(0, 0, 0)], [], [], []), ([(1, 39)], [], [], [], [], []))], ([], []), (1, 2))
def mcX5_init_r_37_127z : zM := (yX5_init, cX5_init, 3, none, { frames := 1, cells := 1, slots := 2, locals := 24 }, qcX5_init_r_37_127z)
def hcX5_init_r_37_127z : zH := ([], [(20, [(4, 64), (1, 39)])], [], [], ([], 0, 0), 1)
theorem jcX5_init_r_37_127z : zk_txok RX5 hcX5_init_r_37_127z.2.2.2.2.1 := zk_txb_ok (p := (0, 0)) (by decide +kernel)
def xcX5_init_r_37_127z : List zX := []
theorem wcX5_init_r_37_127z : zk_hwsb zcl RX5 mcX5_init_r_37_127z.rm xcX5_init_r_37_127z [] = true := by decide +kernel
theorem icX5_init_r_37_127z : zk_idb zcl RX5 5 true mcX5_init_r_37_127z = true := by decide +kernel
theorem ecX5_init_r_37_127z : zk_run zcl zft zTT1 zPF1 zPB1 zk_noSU zLX5 5 true mcX5_init_r_37_127z ftX5_init hcX5_init_r_37_127z zULf0 xcX5_init_r_37_127z 17 = true := by decide +kernel
theorem gcX5_init_r_37_127z {D : zD} {l : Launch} (hD : zWD1 D) : zCs D l xcX5_init_r_37_127z := trivial
theorem tcX5_init_r_37_127z {D : zD} {l : Launch} (hD : zWD1 D) : zC D l mcX5_init_r_37_127z := zk_methC1 hD poolX5 icX5_init_r_37_127z jcX5_init_r_37_127z ftX5_init_ok (gcX5_init_r_37_127z hD) wcX5_init_r_37_127z ecX5_init_r_37_127z
def qcX5_init_r_38_128z : zQ := ((4, 4), ([(2, 1, 0), (2, 2, 0), (2, 3, 0)], ([(0, 0, 0)], [], [], []), ([(2, 38), (3, 128)], [], [], [(1, 5, [(3, 0, 0), (0, 0, 0), (0, 0, 0), (0, 0, 0)])], [], [])), [(none, ([(0, 0, 0)], [], [], []), ([(1, 40)], [], [], [], [], []))], ([], []), (1, 2))
def mcX5_init_r_38_128z : zM := (yX5_init, cX5_init, 3, none, { frames := 1, cells := 1, slots := 2, locals := 24 }, qcX5_init_r_38_128z)
def hcX5_init_r_38_128z : zH := ([], [(20, [(4, 65), (1, 40)])], [], [], ([], 0, 0), 1)
theorem jcX5_init_r_38_128z : zk_txok RX5 hcX5_init_r_38_128z.2.2.2.2.1 := zk_txb_ok (p := (0, 0)) (by decide +kernel)
def xcX5_init_r_38_128z : List zX := []
theorem wcX5_init_r_38_128z : zk_hwsb zcl RX5 mcX5_init_r_38_128z.rm xcX5_init_r_38_128z [] = true := by decide +kernel
theorem icX5_init_r_38_128z : zk_idb zcl RX5 5 true mcX5_init_r_38_128z = true := by decide +kernel
theorem ecX5_init_r_38_128z : zk_run zcl zft zTT1 zPF1 zPB1 zk_noSU zLX5 5 true mcX5_init_r_38_128z ftX5_init hcX5_init_r_38_128z zULf0 xcX5_init_r_38_128z 17 = true := by decide +kernel
theorem gcX5_init_r_38_128z {D : zD} {l : Launch} (hD : zWD1 D) : zCs D l xcX5_init_r_38_128z := trivial
theorem tcX5_init_r_38_128z {D : zD} {l : Launch} (hD : zWD1 D) : zC D l mcX5_init_r_38_128z := zk_methC1 hD poolX5 icX5_init_r_38_128z jcX5_init_r_38_128z ftX5_init_ok (gcX5_init_r_38_128z hD) wcX5_init_r_38_128z ecX5_init_r_38_128z
def ftX6_init : List (Nat × List (Nat × Instr × Nat)) := [(20, [(0, .aload_n 0, 1), (1, .invokespecial 3, 3), (4, .aload_n 0, 1), (5, .aload_n 1, 1), (6, .putfield 9, 3), (9, .aload_n 0, 1), (10, .iconst 0, 1), (11, .putfield 15, 3), (14, .aload_n 0, 1), (15, .iconst (-1), 1), (16, .putfield 19, 3), (19, .return_, 1)])]
theorem ftX6_init_ok : zk_ftb cX6_init ftX6_init = true := by decide +kernel
def qcX6_init_r_30z : zQ := ((3, 3), ([(2, 1, 0), (2, 2, 0)], ([(0, 0, 0)], [], [], []), ([(2, 30)], [], [], [(1, 6, [(3, 0, 0), (0, 0, 0), (0, 0, 0), (1, 0, 0), (0, 0, 0), (0, 0, 0), (0, 0, 0)])], [], [])), [(none, ([(0, 0, 0)], [], [], []), ([(1, 34)], [(1, 6, 0, (2, 2, 0))], [], [], [], []))], ([], []), (0, 0))
def mcX6_init_r_30z : zM := (yX6_init, cX6_init, 2, none, { frames := 1, cells := 0, slots := 0, locals := 24 }, qcX6_init_r_30z)
def hcX6_init_r_30z : zH := ([], [(19, [(1, 34)])], [], [], ([], 0, 0), 1)
theorem jcX6_init_r_30z : zk_txok RX6 hcX6_init_r_30z.2.2.2.2.1 := zk_txb_ok (p := (0, 0)) (by decide +kernel)
def xcX6_init_r_30z : List zX := []
theorem wcX6_init_r_30z : zk_hwsb zcl RX6 mcX6_init_r_30z.rm xcX6_init_r_30z [] = true := by decide +kernel
theorem icX6_init_r_30z : zk_idb zcl RX6 6 true mcX6_init_r_30z = true := by decide +kernel
theorem ecX6_init_r_30z : zk_run zcl zft zTT1 zPF1 zPB1 zk_noSU zLX6 6 true mcX6_init_r_30z ftX6_init hcX6_init_r_30z zULf0 xcX6_init_r_30z 14 = true := by decide +kernel
theorem gcX6_init_r_30z {D : zD} {l : Launch} (hD : zWD1 D) : zCs D l xcX6_init_r_30z := trivial
theorem tcX6_init_r_30z {D : zD} {l : Launch} (hD : zWD1 D) : zC D l mcX6_init_r_30z := zk_methC1 hD poolX6 icX6_init_r_30z jcX6_init_r_30z ftX6_init_ok (gcX6_init_r_30z hD) wcX6_init_r_30z ecX6_init_r_30z
def ftX7_clear : List (Nat × List (Nat × Instr × Nat)) := [(21, [(0, .iconst 0, 1), (1, .istore_n 1, 1), (2, .iload_n 1, 1), (3, .bipush 26, 2), (5, .if_icmp .gt 23, 3), (8, .aload_n 0, 1), (9, .getfield 9, 3), (12, .iload_n 1, 1), (13, .iload_n 1, 1), (14, .iastore, 1), (15, .aload_n 0, 1), (16, .getfield 15, 3), (19, .iload_n 1, 1), (20, .iconst 0, 1)]), (44, [(21, .bastore, 1), (22, .iinc 1 1, 3), (25, .goto (-23), 3), (28, .aload_n 0, 1), (29, .iconst 0, 1), (30, .putfield 22, 3), (33, .aload_n 0, 1), (34, .iconst 0, 1), (35, .putfield 26, 3), (38, .aload_n 0, 1), (39, .iconst 0, 1), (40, .putfield 30, 3), (43, .return_, 1)])]
theorem ftX7_clear_ok : zk_ftb cX7_clear ftX7_clear = true := by decide +kernel
def qcX7_clear_129z : zQ := ((2, 3), ([(2, 1, 0)], ([(0, 0, 0)], [], [], []), ([(1, 129)], [], [], [], [], [])), [(none, ([(0, 0, 0)], [], [], []), ([(2, 136)], [(1, 7, 0, (2, 2, 0)), (1, 7, 2, (0, 0, 0)), (1, 7, 3, (0, 0, 0))], [(2, 136, (0, 0, 0), (0, 0, 0)), (2, 136, (0, 0, 1), (0, 0, 1)), (2, 136, (0, 0, 2), (0, 0, 2)), (2, 136, (0, 0, 3), (0, 0, 3)), (2, 136, (0, 0, 4), (0, 0, 4)), (2, 136, (0, 0, 5), (0, 0, 5)), (2, 136, (0, 0, 6), (0, 0, 6)), (2, 136, (0, 0, 7), (0, 0, 7)), (2, 136, (0, 0, 8), (0, 0, 8)), (2, 136, (0, 0, 9), (0, 0, 9)), (2, 136, (0, 0, 10), (0, 0, 10)), (2, 136, (0, 0, 11), (0, 0, 11)), (2, 136, (0, 0, 12), (0, 0, 12)), (2, 136, (0, 0, 13), (0, 0, 13)), (2, 136, (0, 0, 14), (0, 0, 14)), (2, 136, (0, 0, 15), (0, 0, 15)), (2, 136, (0, 0, 16), (0, 0, 16)), (2, 136, (0, 0, 17), (0, 0, 17)), (2, 136, (0, 0, 18), (0, 0, 18)), (2, 136, (0, 0, 19), (0, 0, 19)), (2, 136, (0, 0, 20), (0, 0, 20)), (2, 136, (0, 0, 21), (0, 0, 21)), (2, 136, (0, 0, 22), (0, 0, 22)), (2, 136, (0, 0, 23), (0, 0, 23)), (2, 136, (0, 0, 24), (0, 0, 24)), (2, 136, (0, 0, 25), (0, 0, 25)), (2, 136, (0, 0, 26), (0, 0, 26))], [], [], []))], ([(129, 2), (129, 3), (129, 4)], [46, 136]), (0, 0))
def mcX7_clear_129z : zM := (yX7_clear, cX7_clear, 2, none, { frames := 1, cells := 0, slots := 0, locals := 12 }, qcX7_clear_129z)
def hcX7_clear_129z : zH := ([], [], [], [], ([], 0, 0), 1)
theorem jcX7_clear_129z : zk_txok RX7 hcX7_clear_129z.2.2.2.2.1 := zk_txb_ok (p := (0, 0)) (by decide +kernel)
def xcX7_clear_129z : List zX := []
theorem wcX7_clear_129z : zk_hwsb zcl RX7 mcX7_clear_129z.rm xcX7_clear_129z [] = true := by decide +kernel
theorem icX7_clear_129z : zk_idb zcl RX7 7 false mcX7_clear_129z = true := by decide +kernel
theorem ecX7_clear_129z : zk_run zcl zft zTT1 zPF1 zPB1 zk_noSU zLX7 7 false mcX7_clear_129z ftX7_clear hcX7_clear_129z zULf0 xcX7_clear_129z 422 = true := by decide +kernel
theorem gcX7_clear_129z {D : zD} {l : Launch} (hD : zWD1 D) : zCs D l xcX7_clear_129z := trivial
theorem tcX7_clear_129z {D : zD} {l : Launch} (hD : zWD1 D) : zC D l mcX7_clear_129z := zk_methC1 hD poolX7 icX7_clear_129z jcX7_clear_129z ftX7_clear_ok (gcX7_clear_129z hD) wcX7_clear_129z ecX7_clear_129z
