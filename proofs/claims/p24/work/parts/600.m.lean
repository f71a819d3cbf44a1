/-! METHODS (printed by wip/t6) -/
def ftX0_init : List (Nat × List (Nat × Instr × Nat)) := [(27, [(0, .aload_n 0, 1), (1, .invokespecial 3, 3), (4, .aload_n 0, 1), (5, .sipush 256, 3), (8, .newarray .int, 2), (10, .putfield 9, 3), (13, .aload_n 0, 1), (14, .bipush 8, 2), (16, .newarray .int, 2), (18, .putfield 15, 3), (21, .aload_n 0, 1), (22, .aload_n 1, 1), (23, .putfield 18, 3), (26, .aload_n 0, 1)]), (32, [(27, .aload_n 2, 1), (28, .putfield 22, 3), (31, .return_, 1)])]
theorem ftX0_init_ok : zk_ftb cX0_init ftX0_init = true := by decide +kernel
def qcX0_init_r_40_35z : zQ := ((4, 4), ([(2, 1, 0), (2, 2, 0), (2, 3, 0)], ([(0, 0, 0)], [], [], []), ([(2, 40), (3, 35)], [], [], [(1, 0, [(3, 0, 0), (3, 0, 0), (3, 0, 0), (3, 0, 0), (0, 0, 0), (0, 0, 0), (0, 0, 0)])], [], [])), [(none, ([(0, 0, 0)], [], [], []), ([(1, 41)], [], [], [], [], []))], ([], []), (2, 264))
def mcX0_init_r_40_35z : zM := (yX0_init, cX0_init, 3, none, { frames := 1, cells := 2, slots := 264, locals := 24 }, qcX0_init_r_40_35z)
def hcX0_init_r_40_35z : zH := ([], [(31, [(1, 41)])], [], [(8, 66), (16, 67)], ([], 0, 0), 1)
theorem jcX0_init_r_40_35z : zk_txok RX0 hcX0_init_r_40_35z.2.2.2.2.1 := zk_txb_ok (p := (0, 0)) (by decide +kernel)
def xcX0_init_r_40_35z : List zX := []
theorem wcX0_init_r_40_35z : zk_hwsb zcl RX0 mcX0_init_r_40_35z.rm xcX0_init_r_40_35z [] = true := by decide +kernel
theorem icX0_init_r_40_35z : zk_idb zcl RX0 0 true mcX0_init_r_40_35z = true := by decide +kernel
theorem ecX0_init_r_40_35z : zk_run zcl zft zTT1 zPF1 zPB1 zk_noSU zLX0 0 true mcX0_init_r_40_35z ftX0_init hcX0_init_r_40_35z zULf0 xcX0_init_r_40_35z 19 = true := by decide +kernel
theorem gcX0_init_r_40_35z {D : zD} {l : Launch} (hD : zWD1 D) : zCs D l xcX0_init_r_40_35z := trivial
theorem tcX0_init_r_40_35z {D : zD} {l : Launch} (hD : zWD1 D) : zC D l mcX0_init_r_40_35z := zk_methC1 hD poolX0 icX0_init_r_40_35z jcX0_init_r_40_35z ftX0_init_ok (gcX0_init_r_40_35z hD) wcX0_init_r_40_35z ecX0_init_r_40_35z
def ftX10_init : List (Nat × List (Nat × Instr × Nat)) := [(26, [(0, .aload_n 0, 1), (1, .invokespecial 3, 3), (4, .aload_n 0, 1), (5, .bipush 30, 2), (7, .newarray .int, 2), (9, .putfield 9, 3), (12, .aload_n 0, 1), (13, .bipush 30, 2), (15, .newarray .int, 2), (17, .putfield 15, 3), (20, .aload_n 0, 1), (21, .bipush 30, 2), (23, .newarray .int, 2), (25, .putfield 18, 3)]), (53, [(28, .aload_n 0, 1), (29, .bipush 30, 2), (31, .newarray .int, 2), (33, .putfield 21, 3), (36, .aload_n 0, 1), (37, .bipush 16, 2), (39, .newarray .boolean, 2), (41, .putfield 24, 3), (44, .aload_n 0, 1), (45, .bipush 16, 2), (47, .newarray .boolean, 2), (49, .putfield 28, 3), (52, .return_, 1)])]
theorem ftX10_init_ok : zk_ftb cX10_init ftX10_init = true := by decide +kernel
def qcX10_init_r_Bz : zQ := ((2, 4), ([(2, 1, 0)], ([(0, 0, 0)], [], [], []), ([], [], [], [(1, 10, [(3, 0, 0), (3, 0, 0), (3, 0, 0), (3, 0, 0), (3, 0, 0), (3, 0, 0), (0, 0, 0)])], [], [])), [(none, ([(0, 0, 0)], [], [], []), ([(1, 126), (2, 56), (3, 57)], [(1, 10, 4, (2, 2, 0)), (1, 10, 5, (2, 3, 0)), (1, 10, 6, (0, 0, 0))], [], [], [], []))], ([], []), (6, 152))
def mcX10_init_r_Bz : zM := (yX10_init, cX10_init, 1, none, { frames := 1, cells := 6, slots := 152, locals := 24 }, qcX10_init_r_Bz)
def hcX10_init_r_Bz : zH := ([], [(52, [(1, 126)])], [], [(7, 52), (15, 133), (23, 54), (31, 134), (39, 56), (47, 57)], ([], 0, 0), 1)
theorem jcX10_init_r_Bz : zk_txok RX10 hcX10_init_r_Bz.2.2.2.2.1 := zk_txb_ok (p := (0, 0)) (by decide +kernel)
def xcX10_init_r_Bz : List zX := []
theorem wcX10_init_r_Bz : zk_hwsb zcl RX10 mcX10_init_r_Bz.rm xcX10_init_r_Bz [] = true := by decide +kernel
theorem icX10_init_r_Bz : zk_idb zcl RX10 10 true mcX10_init_r_Bz = true := by decide +kernel
theorem ecX10_init_r_Bz : zk_run zcl zft zTT1 zPF1 zPB1 zk_noSU zLX10 10 true mcX10_init_r_Bz ftX10_init hcX10_init_r_Bz zULf0 xcX10_init_r_Bz 29 = true := by decide +kernel
theorem gcX10_init_r_Bz {D : zD} {l : Launch} (hD : zWD1 D) : zCs D l xcX10_init_r_Bz := trivial
theorem tcX10_init_r_Bz {D : zD} {l : Launch} (hD : zWD1 D) : zC D l mcX10_init_r_Bz := zk_methC1 hD poolX10 icX10_init_r_Bz jcX10_init_r_Bz ftX10_init_ok (gcX10_init_r_Bz hD) wcX10_init_r_Bz ecX10_init_r_Bz
def qcX10_init_rz : zQ := ((2, 4), ([(2, 1, 0)], ([(0, 0, 0)], [], [], []), ([], [], [], [(1, 10, [(3, 0, 0), (3, 0, 0), (3, 0, 0), (3, 0, 0), (3, 0, 0), (3, 0, 0), (0, 0, 0)])], [], [])), [(none, ([(0, 0, 0)], [], [], []), ([(1, 33), (2, 56), (3, 57)], [(1, 10, 4, (2, 2, 0)), (1, 10, 5, (2, 3, 0)), (1, 10, 6, (0, 0, 0))], [], [], [], []))], ([], []), (6, 152))
def mcX10_init_rz : zM := (yX10_init, cX10_init, 1, none, { frames := 1, cells := 6, slots := 152, locals := 24 }, qcX10_init_rz)
def hcX10_init_rz : zH := ([], [(52, [(1, 33)])], [], [(7, 52), (15, 53), (23, 54), (31, 55), (39, 56), (47, 57)], ([], 0, 0), 1)
theorem jcX10_init_rz : zk_txok RX10 hcX10_init_rz.2.2.2.2.1 := zk_txb_ok (p := (0, 0)) (by decide +kernel)
def xcX10_init_rz : List zX := []
theorem wcX10_init_rz : zk_hwsb zcl RX10 mcX10_init_rz.rm xcX10_init_rz [] = true := by decide +kernel
theorem icX10_init_rz : zk_idb zcl RX10 10 true mcX10_init_rz = true := by decide +kernel
theorem ecX10_init_rz : zk_run zcl zft zTT1 zPF1 zPB1 zk_noSU zLX10 10 true mcX10_init_rz ftX10_init hcX10_init_rz zULf0 xcX10_init_rz 29 = true := by decide +kernel
theorem gcX10_init_rz {D : zD} {l : Launch} (hD : zWD1 D) : zCs D l xcX10_init_rz := trivial
theorem tcX10_init_rz {D : zD} {l : Launch} (hD : zWD1 D) : zC D l mcX10_init_rz := zk_methC1 hD poolX10 icX10_init_rz jcX10_init_rz ftX10_init_ok (gcX10_init_rz hD) wcX10_init_rz ecX10_init_rz
def ftX2_init : List (Nat × List (Nat × Instr × Nat)) := [(13, [(0, .aload_n 0, 1), (1, .invokespecial 3, 3), (4, .aload_n 0, 1), (5, .bipush 60, 2), (7, .newarray .int, 2), (9, .putfield 9, 3), (12, .return_, 1)])]
theorem ftX2_init_ok : zk_ftb cX2_init ftX2_init = true := by decide +kernel
def qcX2_init_rz : zQ := ((2, 2), ([(2, 1, 0)], ([(0, 0, 0)], [], [], []), ([], [], [], [(1, 2, [(3, 0, 0), (0, 0, 0), (0, 0, 0), (0, 0, 0), (0, 0, 0)])], [], [])), [(none, ([(0, 0, 0)], [], [], []), ([(1, 36)], [], [], [], [], []))], ([], []), (1, 60))
def mcX2_init_rz : zM := (yX2_init, cX2_init, 1, none, { frames := 1, cells := 1, slots := 60, locals := 24 }, qcX2_init_rz)
def hcX2_init_rz : zH := ([], [(12, [(1, 36)])], [], [(7, 59)], ([], 0, 0), 1)
theorem jcX2_init_rz : zk_txok RX2 hcX2_init_rz.2.2.2.2.1 := zk_txb_ok (p := (0, 0)) (by decide +kernel)
def xcX2_init_rz : List zX := []
theorem wcX2_init_rz : zk_hwsb zcl RX2 mcX2_init_rz.rm xcX2_init_rz [] = true := by decide +kernel
theorem icX2_init_rz : zk_idb zcl RX2 2 true mcX2_init_rz = true := by decide +kernel
theorem ecX2_init_rz : zk_run zcl zft zTT1 zPF1 zPB1 zk_noSU zLX2 2 true mcX2_init_rz ftX2_init hcX2_init_rz zULf0 xcX2_init_rz 9 = true := by decide +kernel
theorem gcX2_init_rz {D : zD} {l : Launch} (hD : zWD1 D) : zCs D l xcX2_init_rz := trivial
theorem tcX2_init_rz {D : zD} {l : Launch} (hD : zWD1 D) : zC D l mcX2_init_rz := zk_methC1 hD poolX2 icX2_init_rz jcX2_init_rz ftX2_init_ok (gcX2_init_rz hD) wcX2_init_rz ecX2_init_rz
def ftX3_init : List (Nat × List (Nat × Instr × Nat)) := [(27, [(0, .aload_n 0, 1), (1, .invokespecial 3, 3), (4, .aload_n 0, 1), (5, .bipush 40, 2), (7, .newarray .int, 2), (9, .putfield 9, 3), (12, .aload_n 0, 1), (13, .bipush 40, 2), (15, .newarray .int, 2), (17, .putfield 15, 3), (20, .aload_n 0, 1), (21, .bipush 8, 2), (23, .anewarray 18, 3), (26, .putfield 20, 3)]), (57, [(29, .iconst 0, 1), (30, .istore 4, 2), (32, .iload 4, 2), (34, .bipush 8, 2), (36, .if_icmp .ge 23, 3), (39, .aload_n 0, 1), (40, .getfield 20, 3), (43, .iload 4, 2), (45, .new 18, 3), (48, .dup, 1), (49, .invokespecial 24, 3), (52, .aastore, 1), (53, .iinc 4 1, 3), (56, .goto (-24), 3)]), (75, [(59, .aload_n 0, 1), (60, .aload_n 1, 1), (61, .putfield 25, 3), (64, .aload_n 0, 1), (65, .aload_n 2, 1), (66, .putfield 29, 3), (69, .aload_n 0, 1), (70, .iload_n 3, 1), (71, .putfield 32, 3), (74, .return_, 1)])]
theorem ftX3_init_ok : zk_ftb cX3_init ftX3_init = true := by decide +kernel
def qcX3_init_r_122_63_k0z : zQ := ((4, 4), ([(2, 1, 0), (2, 2, 0), (2, 3, 0), (0, 0, 0)], ([(0, 0, 0)], [], [], []), ([(2, 122), (3, 63)], [], [], [(1, 3, [(3, 0, 0), (3, 0, 0), (3, 0, 0), (3, 0, 0), (0, 0, 0), (0, 0, 0), (0, 0, 0), (3, 0, 0), (0, 0, 0), (1, 0, 0), (0, 0, 0), (0, 0, 0), (0, 0, 0), (1, 0, 0)])], [], [])), [(none, ([(0, 0, 0)], [], [], []), ([(1, 37)], [], [], [], [], []))], ([], []), (19, 608))
def mcX3_init_r_122_63_k0z : zM := (yX3_init, cX3_init, 5, none, { frames := 2, cells := 19, slots := 608, locals := 44 }, qcX3_init_r_122_63_k0z)
def hcX3_init_r_122_63_k0z : zH := ([], [(74, [(6, 62), (1, 37)])], [], [(7, 60), (15, 61)], ([], 0, 0), 1)
theorem jcX3_init_r_122_63_k0z : zk_txok RX3 hcX3_init_r_122_63_k0z.2.2.2.2.1 := zk_txb_ok (p := (0, 0)) (by decide +kernel)
def xcX3_init_r_122_63_k0z : List zX := [(24, 3, 2, mcX2_init_rz)]
theorem wcX3_init_r_122_63_k0z : zk_hwsb zcl RX3 mcX3_init_r_122_63_k0z.rm xcX3_init_r_122_63_k0z [(314, 84, 312, 313, 0)] = true := by decide +kernel
theorem icX3_init_r_122_63_k0z : zk_idb zcl RX3 3 true mcX3_init_r_122_63_k0z = true := by decide +kernel
theorem ecX3_init_r_122_63_k0z : zk_run zcl zft zTT1 zPF1 zPB1 zk_noSU zLX3 3 true mcX3_init_r_122_63_k0z ftX3_init hcX3_init_r_122_63_k0z zULf0 xcX3_init_r_122_63_k0z 127 = true := by decide +kernel
theorem gcX3_init_r_122_63_k0z {D : zD} {l : Launch} (hD : zWD1 D) : zCs D l xcX3_init_r_122_63_k0z := ⟨tcX2_init_rz hD, trivial⟩
theorem tcX3_init_r_122_63_k0z {D : zD} {l : Launch} (hD : zWD1 D) : zC D l mcX3_init_r_122_63_k0z := zk_methC1 hD poolX3 icX3_init_r_122_63_k0z jcX3_init_r_122_63_k0z ftX3_init_ok (gcX3_init_r_122_63_k0z hD) wcX3_init_r_122_63_k0z ecX3_init_r_122_63_k0z
def qcX3_init_r_122_63_k1z : zQ := ((4, 4), ([(2, 1, 0), (2, 2, 0), (2, 3, 0), (0, 0, 1)], ([(0, 0, 0)], [], [], []), ([(2, 122), (3, 63)], [], [], [(1, 3, [(3, 0, 0), (3, 0, 0), (3, 0, 0), (3, 0, 0), (0, 0, 0), (0, 0, 0), (0, 0, 0), (3, 0, 0), (0, 0, 0), (1, 0, 0), (0, 0, 0), (0, 0, 0), (0, 0, 0), (1, 0, 0)])], [], [])), [(none, ([(0, 0, 0)], [], [], []), ([(1, 38)], [], [], [], [], []))], ([], []), (19, 608))
def mcX3_init_r_122_63_k1z : zM := (yX3_init, cX3_init, 5, none, { frames := 2, cells := 19, slots := 608, locals := 44 }, qcX3_init_r_122_63_k1z)
def hcX3_init_r_122_63_k1z : zH := ([], [(74, [(6, 62), (1, 38)])], [], [(7, 60), (15, 61)], ([], 0, 0), 1)
theorem jcX3_init_r_122_63_k1z : zk_txok RX3 hcX3_init_r_122_63_k1z.2.2.2.2.1 := zk_txb_ok (p := (0, 0)) (by decide +kernel)
def xcX3_init_r_122_63_k1z : List zX := [(24, 3, 2, mcX2_init_rz)]
theorem wcX3_init_r_122_63_k1z : zk_hwsb zcl RX3 mcX3_init_r_122_63_k1z.rm xcX3_init_r_122_63_k1z [(314, 84, 312, 313, 0)] = true := by decide +kernel
theorem icX3_init_r_122_63_k1z : zk_idb zcl RX3 3 true mcX3_init_r_122_63_k1z = true := by decide +kernel
theorem ecX3_init_r_122_63_k1z : zk_run zcl zft zTT1 zPF1 zPB1 zk_noSU zLX3 3 true mcX3_init_r_122_63_k1z ftX3_init hcX3_init_r_122_63_k1z zULf0 xcX3_init_r_122_63_k1z 127 = true := by decide +kernel
theorem gcX3_init_r_122_63_k1z {D : zD} {l : Launch} (hD : zWD1 D) : zCs D l xcX3_init_r_122_63_k1z := ⟨tcX2_init_rz hD, trivial⟩
theorem tcX3_init_r_122_63_k1z {D : zD} {l : Launch} (hD : zWD1 D) : zC D l mcX3_init_r_122_63_k1z := zk_methC1 hD poolX3 icX3_init_r_122_63_k1z jcX3_init_r_122_63_k1z ftX3_init_ok (gcX3_init_r_122_63_k1z hD) wcX3_init_r_122_63_k1z ecX3_init_r_122_63_k1z
def qcX3_init_r_123_135_k0z : zQ := ((4, 4), ([(2, 1, 0), (2, 2, 0), (2, 3, 0), (0, 0, 0)], ([(0, 0, 0)], [], [], []), ([(2, 123), (3, 135)], [], [], [(1, 3, [(3, 0, 0), (3, 0, 0), (3, 0, 0), (3, 0, 0), (0, 0, 0), (0, 0, 0), (0, 0, 0), (3, 0, 0), (0, 0, 0), (1, 0, 0), (0, 0, 0), (0, 0, 0), (0, 0, 0), (1, 0, 0)])], [], [])), [(none, ([(0, 0, 0)], [], [], []), ([(1, 127)], [], [], [], [], []))], ([], []), (19, 608))
def mcX3_init_r_123_135_k0z : zM := (yX3_init, cX3_init, 5, none, { frames := 2, cells := 19, slots := 608, locals := 44 }, qcX3_init_r_123_135_k0z)
def hcX3_init_r_123_135_k0z : zH := ([], [(74, [(6, 62), (1, 127)])], [], [(7, 60), (15, 61)], ([], 0, 0), 1)
theorem jcX3_init_r_123_135_k0z : zk_txok RX3 hcX3_init_r_123_135_k0z.2.2.2.2.1 := zk_txb_ok (p := (0, 0)) (by decide +kernel)
def xcX3_init_r_123_135_k0z : List zX := [(24, 3, 2, mcX2_init_rz)]
theorem wcX3_init_r_123_135_k0z : zk_hwsb zcl RX3 mcX3_init_r_123_135_k0z.rm xcX3_init_r_123_135_k0z [(314, 84, 312, 313, 0)] = true := by decide +kernel
theorem icX3_init_r_123_135_k0z : zk_idb zcl RX3 3 true mcX3_init_r_123_135_k0z = true := by decide +kernel
theorem ecX3_init_r_123_135_k0z : zk_run zcl zft zTT1 zPF1 zPB1 zk_noSU zLX3 3 true mcX3_init_r_123_135_k0z ftX3_init hcX3_init_r_123_135_k0z zULf0 xcX3_init_r_123_135_k0z 127 = true := by decide +kernel
theorem gcX3_init_r_123_135_k0z {D : zD} {l : Launch} (hD : zWD1 D) : zCs D l xcX3_init_r_123_135_k0z := ⟨tcX2_init_rz hD, trivial⟩
theorem tcX3_init_r_123_135_k0z {D : zD} {l : Launch} (hD : zWD1 D) : zC D l mcX3_init_r_123_135_k0z := zk_methC1 hD poolX3 icX3_init_r_123_135_k0z jcX3_init_r_123_135_k0z ftX3_init_ok (gcX3_init_r_123_135_k0z hD) wcX3_init_r_123_135_k0z ecX3_init_r_123_135_k0z
